/-! the class and the reference play alike -/
def pEq (N : Nat) (P Q : zPs) : Prop := (∀ k, k < N → P.1 k = Q.1 k ∧ P.2.2.1 k = Q.2.2.1 k ∧ (0 ≤ P.1 k ∧ P.1 k ≤ 10)) ∧ (∀ k, k < N - 1 → P.2.1 k = Q.2.1 k ∧ (0 ≤ P.2.1 k ∧ P.2.1 k ≤ 10)) ∧ P.2.2.2.1 = Q.2.2.2.1 ∧ P.2.2.2.2 = Q.2.2.2.2
def pKd (N : Nat) (f : Nat → Nat → Int32) : Prop := ∀ k, k < N → f k 0 = 0 ∨ f k 0 = 1 ∨ f k 0 = 2
set_option maxHeartbeats 1000000 in
theorem pEq.td {N : Nat} {P Q : zPs} (h : pEq N P Q) : pTd P = pTd Q := by
  unfold pTd
  rw [h.2.2.1, h.2.2.2]
set_option maxHeartbeats 1000000 in
theorem pCut_mx {x : Int32} (h : 0 ≤ x ∧ x ≤ 10) : cMx (x - 1) = pCut (x - 1) ∧ 0 ≤ cMx (x - 1) ∧ cMx (x - 1) ≤ 10 := by
  unfold cMx pCut
  refine ⟨?_, ?_, ?_⟩ <;> (repeat' split) <;> grind
set_option maxHeartbeats 1000000 in
theorem pCut_mn {x g : Int32} (h : 0 ≤ x ∧ x ≤ 10) (hg : 0 ≤ g ∧ g ≤ 6) : cMn (x + g) = pCut (x + g) ∧ 0 ≤ cMn (x + g) ∧ cMn (x + g) ≤ 10 := by
  unfold cMn pCut
  refine ⟨?_, ?_, ?_⟩ <;> (repeat' split) <;> grind
set_option maxHeartbeats 1000000 in
theorem new_eq {li t x kd : Int32} {s : Nat} {b : Bool} (h : 0 ≤ x ∧ x ≤ 10) (hk : kd = 0 ∨ kd = 1 ∨ kd = 2) : cNew li t x kd (decide (10 ≤ s)) b = mNew li t x kd (mTm s) b ∧ 0 ≤ cNew li t x kd (decide (10 ≤ s)) b ∧ cNew li t x kd (decide (10 ≤ s)) b ≤ 10 := by
  unfold cNew mNew
  by_cases hl : li ≤ t
  · simp only [if_pos hl]; exact pCut_mx h
  · simp only [if_neg hl]
    cases b with
    | true => simp only [if_true]; exact ⟨trivial, h.1, h.2⟩
    | false =>
      simp only [show (false = true) = False from by decide, if_false]
      by_cases hs : 10 ≤ s
      · have : mTm s = 2 := by simp [mTm, show ¬ s < 10 by omega]
        rw [this]
        simp only [hs, decide_true, if_true]
        rcases hk with rfl | rfl | rfl
        · exact pCut_mn h (g := 6) (by decide)
        · exact pCut_mn h (g := 4) (by decide)
        · exact pCut_mn h (g := 2) (by decide)
      · have : mTm s = 1 := by simp [mTm, show s < 10 by omega]
        rw [this]
        simp only [hs, decide_false, show (false = true) = False from by decide, if_false]
        rcases hk with rfl | rfl | rfl
        · exact pCut_mn h (g := 3) (by decide)
        · exact pCut_mn h (g := 2) (by decide)
        · exact pCut_mn h (g := 1) (by decide)
set_option maxHeartbeats 1000000 in
theorem pEq.can {N s : Nat} {mn : Int32} {f : Nat → Nat → Int32} {P Q : zPs} (h : pEq N P Q) : pCan N mn f s P ↔ pCan N mn f s Q := by
  unfold pCan
  rw [h.2.2.1]
set_option maxHeartbeats 1000000 in
theorem pEq.stp {N s : Nat} {f : Nat → Nat → Int32} {P Q : zPs} (h : pEq N P Q) (h1 : N ≤ 6) (hs : pOk N s) (hk : pKd N f) : pEq N (cStp N f s P) (mStp N f s Q) ∧ (cWr f s P ↔ mWr f s Q) := by
  have htd := h.td
  obtain ⟨a, b, c, e⟩ := h
  have hJ : ∀ k, k < N - 1 → cJ (pTd P) P.2.1 k = mJ N (pTd Q) Q.2.1 k ∧ (0 ≤ cJ (pTd P) P.2.1 k ∧ cJ (pTd P) P.2.1 k ≤ 10) := by
    intro k hkk
    obtain ⟨b1, b2⟩ := b k hkk
    rw [htd]
    unfold cJ mJ
    cases pTd Q with
    | true => simp; exact ⟨b1, b2⟩
    | false =>
      rw [if_pos ⟨by omega, rfl⟩, if_pos ⟨hkk, rfl⟩, ← b1]
      exact pCut_mn b2 (g := 2) (by decide)
  by_cases h20 : s < 20
  · have hj := pJ_lt hs h20
    obtain ⟨a1, a2, a3⟩ := a (pJ s) hj
    have hnew := new_eq (li := f (pJ s) 3) (t := P.2.2.1 (pJ s)) (x := P.1 (pJ s)) (kd := f (pJ s) 0) (s := s) (b := pTd P) a3 (hk _ hj)
    have hS : cS f s (pTd P) P.1 P.2.2.1 (pJ s) = mS f s (pTd Q) Q.1 Q.2.2.1 (pJ s) := by
      simp only [cS, mS, if_true]
      rw [hnew.1, htd, a1, a2]
    refine ⟨⟨fun k hkk => ?_, fun k hkk => ?_, ?_, ?_⟩, ?_⟩
    · obtain ⟨k1, k2, k3⟩ := a k hkk
      simp only [cStp, mStp, if_pos h20]
      by_cases ek : k = pJ s
      · rw [ek]
        refine ⟨hS, ?_, ?_⟩
        · simp only [cT, if_true, a2]
        · simp only [cS, if_true]; exact hnew.2
      · simp only [cS, mS, cT, if_neg ek]
        exact ⟨k1, k2, k3⟩
    · simp only [cStp, mStp, if_neg (show ¬ s = 20 by omega)]
      exact b k hkk
    · simp only [cStp, mStp]; rw [c]
    · simp only [cStp, mStp, if_neg (show ¬ s = 21 by omega)]; exact e
    · unfold cWr mWr
      rw [hS, a1]
  · refine ⟨⟨fun k hkk => ?_, fun k hkk => ?_, ?_, ?_⟩, ?_⟩
    · simp only [cStp, mStp, if_neg h20]
      exact a k hkk
    · simp only [cStp, mStp]
      by_cases e20 : s = 20
      · simp only [if_pos e20]; exact hJ k hkk
      · simp only [if_neg e20]; exact b k hkk
    · simp only [cStp, mStp]; rw [c]
    · simp only [cStp, mStp]; rw [c, e]
    · unfold cWr mWr
      exact ⟨fun x => absurd x.1 h20, fun x => absurd x.1 h20⟩
set_option maxHeartbeats 1000000 in
theorem nI_m9 {k : Nat} (h : k ≤ 1000000) : ¬ nI k = -9 := by
  intro e
  have := nI_toInt (n := k) (by omega)
  rw [e] at this
  have h2 : (-9 : Int32).toInt = -9 := by decide
  omega
-- along a whole plan
set_option maxHeartbeats 1000000 in
theorem pl_eq {N : Nat} {mn lo : Int32} {f : Nat → Nat → Int32} {st : Nat → Nat} (h1 : N ≤ 6) (hk : pKd N f) : ∀ (r k c : Nat) (P Q : zPs) (w u : Int32), pEq N P Q → k + r ≤ 1000 → c ≤ k → (∀ j, k ≤ j → j < k + r → pOk N (st j)) → pEq N (cPl N mn f st lo k r P w).2.1 (mPl N mn f st lo k c r Q u).2.1 ∧ ((cPl N mn f st lo k r P w).1 = -9 ↔ (mPl N mn f st lo k c r Q u).1 = -9) ∧ (lo = -9 → c = k → (cPl N mn f st lo k r P w).1 = (mPl N mn f st lo k c r Q u).1) := by
  intro r
  induction r with
  | zero =>
    intro k c P Q w u h _ _ _
    exact ⟨h, Iff.rfl, fun _ _ => rfl⟩
  | succ r ih =>
    intro k c P Q w u h hb hc hst
    have hok := hst k (by omega) (by omega)
    by_cases hlo : nI k = lo
    · have e1 : cPl N mn f st lo k (r + 1) P w = cPl N mn f st lo (k + 1) r P w := by rw [cPl, if_pos hlo]
      have e2 : mPl N mn f st lo k c (r + 1) Q u = mPl N mn f st lo (k + 1) c r Q u := by rw [mPl, if_pos hlo]
      rw [e1, e2]
      obtain ⟨i1, i2, i3⟩ := ih (k + 1) c P Q w u h (by omega) (by omega) (fun j a b => hst j (by omega) (by omega))
      exact ⟨i1, i2, fun a _ => absurd (hlo.trans a) (nI_m9 (by omega))⟩
    · by_cases hcan : pCan N mn f (st k) P
      · have hcan2 := h.can.mp hcan
        rw [cPl, mPl, if_neg hlo, if_neg hlo, if_pos hcan, if_pos hcan2]
        obtain ⟨s1, s2⟩ := h.stp h1 hok hk
        obtain ⟨i1, i2, i3⟩ := ih (k + 1) (c + 1) _ _ (@ite _ (cWr f (st k) P ∧ w = -9) (Classical.propDecidable _) (nI k) w) (zb (mWr f (st k) Q) (mWr_dec _ _ _)) s1 (by omega) (by omega) (fun j a b => hst j (by omega) (by omega))
        exact ⟨i1, i2, fun a b => i3 a (by omega)⟩
      · have hcan2 : ¬ pCan N mn f (st k) Q := fun x => hcan (h.can.mpr x)
        rw [cPl, mPl, if_neg hlo, if_neg hlo, if_neg hcan, if_neg hcan2]
        refine ⟨h, ⟨fun x => absurd x (nI_m9 (by omega)), fun x => absurd x (nI_m9 (by omega))⟩, fun _ e => by rw [e]⟩
set_option maxHeartbeats 1000000 in
theorem zPrd_congr {f g : Nat → Int64} : ∀ {n : Nat}, (∀ k, k < n → f k = g k) → zPrd f n = zPrd g n
  | 0, _ => rfl
  | n + 1, h => by rw [zPrd, zPrd, zPrd_congr (fun k hk => h k (by omega)), h n (by omega)]
set_option maxHeartbeats 1000000 in
theorem zPrx_congr {f g : Nat → Int64} : ∀ {n k : Nat} {x : Int64}, (∀ j, j < k + n → f j = g j) → zPrx x f k n = zPrx x g k n
  | 0, _, _, _ => rfl
  | n + 1, k, x, h => by rw [zPrx, zPrx, h k (by omega)]; exact zPrx_congr (fun j hj => h j (by omega))
set_option maxHeartbeats 1000000 in
theorem pEq.rt {N : Nat} {P Q : zPs} (h : pEq N P Q) : pRt N P = pRt N Q := by
  unfold pRt
  rw [zPrd_congr (f := fun k => (P.1 k).toInt64) (g := fun k => (Q.1 k).toInt64) (fun k hk => by rw [(h.1 k hk).1])]
  exact zPrx_congr (fun j hj => by rw [(h.2.1 j (by omega)).1])
set_option maxHeartbeats 1000000 in
theorem bg_eq {N : Nat} {I I' : Nat → Nat → Int32} {p : Nat} (h1 : N ≤ 6) (hs : ∀ k, k < N → I (k + 15) 1 = I' 60 k ∧ (0 ≤ I (k + 15) 1 ∧ I (k + 15) 1 ≤ 10)) : pEq N (cBg p I) (mBg N I') := by
  refine ⟨fun k hk => ?_, fun k hk => ?_, rfl, rfl⟩
  · simp only [cBg, mBg, if_pos (show k < 6 by omega), if_pos hk]
    exact ⟨(hs k hk).1, trivial, (hs k hk).2⟩
  · simp only [cBg, mBg, if_pos (show k < 5 by omega), if_pos hk]
    exact ⟨trivial, by decide⟩
