/-! a call of the law: both sides answer the same, and what holds between the calls holds again -/
def zOp (L : Nat) (xs : Nat → Int32) (d cid mid : Nat) (as : List Value) (I : Nat → Nat → Int32) (J : Nat → Nat → Int64) : Prop := ∃ (v : Int32) (I1 I2 : Nat → Nat → Int32) (J1 J2 : Nat → Nat → Int64), zE zCd (zGG L xs) d cid (.ref 0 :: as) (I, J) = some (some (.int v), (I1, J1)) ∧ zE zCd (zGG L xs) d mid (.ref 55 :: as) (I1, J1) = some (some (.int v), (I2, J2)) ∧ zInv I2
def zOpL (L : Nat) (xs : Nat → Int32) (d cid mid : Nat) (as : List Value) (I : Nat → Nat → Int32) (J : Nat → Nat → Int64) : Prop := ∃ (v : Int64) (I1 I2 : Nat → Nat → Int32) (J1 J2 : Nat → Nat → Int64), zE zCd (zGG L xs) d cid (.ref 0 :: as) (I, J) = some (some (.long v), (I1, J1)) ∧ zE zCd (zGG L xs) d mid (.ref 55 :: as) (I1, J1) = some (some (.long v), (I2, J2)) ∧ zInv I2
set_option maxHeartbeats 1000000 in
theorem zb_ok {p : Prop} {dp : Decidable p} : zb p dp = if decide p = true then 1 else 0 := by simp [zb]
section S
variable {L : Nat} {xs : Nat → Int32} {d : Nat} {J : Nat → Nat → Int64}
set_option maxHeartbeats 1000000 in
theorem inv_fl {I I1 : Nat → Nat → Int32} {f : Int32} (hI : zInv I) (hfr : ∀ c, c ≠ 0 → c ≠ 21 → c ≠ 22 → I1 c = I c) (h5 : I1 0 5 = I 0 5) (hf : I1 0 6 = f) : zInv (zU I1 55 0 f) := by
  have e55 : ∀ k, k ≠ 0 → zU I1 55 0 f 55 k = I 55 k := fun k hk => by rw [zU_k _ _ _ hk, hfr 55 (by decide) (by decide) (by decide)]
  refine hI.keep (fun c hc => ?_) ?_ ?_ (e55 5 (by decide)) (e55 6 (by decide)) (e55 22 (by decide)) (e55 28 (by decide))
  · rw [zU_ne _ _ _ (by omega), hfr c (by omega) (by omega) (by omega)]
  · rw [zU_at, zU_ne _ _ _ (by decide), hf]
  · rw [zU_ne _ _ _ (by decide), h5, e55 1 (by decide)]; exact hI.1.2.1
/-! the plan that was taken, played by both -/
set_option maxHeartbeats 1000000 in
theorem pb_c {I I1 : Nat → Nat → Int32} {N m : Nat} {st : Nat → Nat} {lo : Int32} (hN : I 10 2 = nI N) (h1 : N ≤ 6) (h10 : I1 10 = I 10) (hpl : ∀ k, k < 6 → I1 (k + 15) = I (k + 15)) (hn : I1 21 1 = nI m) (hm : m ≤ 20) (hst : ∀ k, k < m → I1 22 k = nI (st k) ∧ pOk N (st k)) : zE zCd (zGG L xs) d 32 [.ref 23, .ref 10, .ref 21, .int lo] (I1, J) = some (some (.int (cPl N (I 10 3) (cF I) st lo 0 m (cBg 23 I1) (-9)).1), (zsW I1 (cPl N (I 10 3) (cF I) st lo 0 m (cBg 23 I1) (-9)).2.1 (cPl N (I 10 3) (cF I) st lo 0 m (cBg 23 I1) (-9)).2.2, J)) := by
  have e : cF I1 = cF I := by
    funext k j
    simp only [cF]
    split
    · rw [hpl k (by assumption)]
    · rfl
  have := qX3_playPlan (L := L) (xs := xs) (d := d) (J := J) (I := I1) (lo := lo) (N := N) (by rw [h10]; exact hN) h1 hn hm hst
  rw [e, h10] at this
  exact this
set_option maxHeartbeats 1000000 in
theorem pb_m {I K : Nat → Nat → Int32} {N m : Nat} {st : Nat → Nat} {lo : Int32} (hN : I 55 6 = nI N) (h1 : N ≤ 6) (h55 : ∀ k, k = 5 ∨ k = 6 ∨ k = 22 → K 55 k = I 55 k) (hf : I 55 22 = 0) (hpl : ∀ c, 59 ≤ c → c ≤ 63 → K c = I c) (hn : K 55 23 = nI m) (hm : m ≤ 20) (hst : ∀ k, k < m → K 68 k = nI (st k) ∧ pOk N (st k)) : zE zCd (zGG L xs) d 115 [.ref 55, .int lo] (K, J) = some (some (.int (mPl N (I 55 5) (mF I) st lo 0 0 m (mBg N K) (K 55 21)).1), (zsM K (mPl N (I 55 5) (mF I) st lo 0 0 m (mBg N K) (K 55 21)).2.1 (mPl N (I 55 5) (mF I) st lo 0 0 m (mBg N K) (K 55 21)).2.2, J)) := by
  have e : mF K = mF I := by
    funext k j
    simp only [mF]
    split
    · rw [hpl (j + 59) (by omega) (by omega)]
    · rfl
  have := qX9_go (L := L) (xs := xs) (d := d) (J := J) (I := K) (lo := lo) (N := N) (by rw [h55 6 (by decide)]; exact hN) h1 hn hm (by rw [h55 22 (by decide)]; exact hf) hst
  rw [e, h55 5 (by decide)] at this
  exact this
set_option maxHeartbeats 1000000 in
theorem pb_eq {I I1 K : Nat → Nat → Int32} {N m : Nat} {st : Nat → Nat} {lo u : Int32} (hI : zInv I) (hN : I 10 2 = nI N) (h1 : N ≤ 6) (hpl : ∀ k, k < 6 → I1 (k + 15) = I (k + 15)) (hpm : K 60 = I 60) (hm : m ≤ 20) (hst : ∀ k, k < m → pOk N (st k)) : pEq N (cPl N (I 10 3) (cF I) st lo 0 m (cBg 23 I1) (-9)).2.1 (mPl N (I 55 5) (mF I) st lo 0 0 m (mBg N K) u).2.1 ∧ ((cPl N (I 10 3) (cF I) st lo 0 m (cBg 23 I1) (-9)).1 = -9 ↔ (mPl N (I 55 5) (mF I) st lo 0 0 m (mBg N K) u).1 = -9) ∧ (lo = -9 → (cPl N (I 10 3) (cF I) st lo 0 m (cBg 23 I1) (-9)).1 = (mPl N (I 55 5) (mF I) st lo 0 0 m (mBg N K) u).1) := by
  have hF := hI.F
  obtain ⟨-, -, c1, c2, c3, N', ⟨n1, n2, n3, n4, n5, n6⟩, -⟩ := hI
  have hb : pEq N (cBg 23 I1) (mBg N K) := bg_eq h1 (fun k hk => by
    rw [hpl k (by omega), hpm]
    exact ⟨c2 k 1 (by omega) (by decide), (c3 k (by omega)).2.1⟩)
  have hkd : pKd N (mF I) := fun k hk => by
    rw [← hF]
    simp only [cF, if_pos (show k < 6 by omega)]
    exact (c3 k (by omega)).1
  rw [hF, n4]
  have := pl_eq (mn := I 55 5) (lo := lo) (f := mF I) (st := st) h1 hkd m 0 0 (cBg 23 I1) (mBg N K) (-9) u hb (by omega) (by omega) (fun j _ hj => hst j (by omega))
  exact ⟨this.1, this.2.1, fun e => this.2.2 e rfl⟩
-- the cells behind a plan that was played by both
set_option maxHeartbeats 1000000 in
theorem inv_pl {I I1 K : Nat → Nat → Int32} {P Q : zPs} {w u : Int32} {row : Nat → Int32} {m : Nat} (hI : zInv I) (hfr : ∀ c, c ≠ 0 → c ≠ 21 → c ≠ 22 → I1 c = I c) (h5 : I1 0 5 = I 0 5) (hf : I1 0 6 = 0) (hK : K = zU (zUr (zU (zsW I1 P w) 55 0 0) 68 row) 55 23 (nI m)) : zInv (zsM K Q u) := by
  have k55 : ∀ k, k ≠ 0 → k ≠ 23 → k ≠ 16 → k ≠ 17 → k ≠ 21 → zsM K Q u 55 k = I 55 k := fun k a b c e f => by
    rw [zsM_55 _ _ _ c e f, hK, zU_k _ _ _ b, zUr_ne _ _ (by decide), zU_k _ _ _ a, zsW_lo _ _ _ (by decide), hfr 55 (by decide) (by decide) (by decide)]
  have kc : ∀ c, c ≠ 65 → c ≠ 66 → c ≠ 67 → c ≠ 68 → c ≠ 55 → (c < 23 ∨ 26 < c) → zsM K Q u c = I1 c := fun c a b e f g h => by
    rw [zsM_ne _ _ _ a b e g, hK, zU_ne _ _ _ g, zUr_ne _ _ f, zU_ne _ _ _ g, zsW_lo _ _ _ h]
  refine hI.keep (fun c hc => ?_) ?_ ?_ (k55 5 (by decide) (by decide) (by decide) (by decide) (by decide)) (k55 6 (by decide) (by decide) (by decide) (by decide) (by decide)) (k55 22 (by decide) (by decide) (by decide) (by decide) (by decide)) (k55 28 (by decide) (by decide) (by decide) (by decide) (by decide))
  · rw [kc c (by omega) (by omega) (by omega) (by omega) (by omega) (by omega), hfr c (by omega) (by omega) (by omega)]
  · rw [kc 0 (by decide) (by decide) (by decide) (by decide) (by decide) (by decide), hf, zsM_55 _ _ _ (by decide) (by decide) (by decide), hK, zU_k _ _ _ (by decide), zUr_ne _ _ (by decide), zU_at]
  · rw [kc 0 (by decide) (by decide) (by decide) (by decide) (by decide) (by decide), h5, k55 1 (by decide) (by decide) (by decide) (by decide) (by decide)]
    exact hI.1.2.1
end S
