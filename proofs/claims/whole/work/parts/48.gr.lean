/-! the reference goes through the rows by their number -/
def mFr (I I' : Nat → Nat → Int32) : Prop := (∀ c, c ≠ 55 → (c < 65 ∨ 68 < c) → I' c = I c) ∧ (∀ k, k ≠ 16 → k ≠ 17 → k ≠ 21 → k ≠ 23 → k ≠ 25 → k ≠ 26 → I' 55 k = I 55 k)
set_option maxHeartbeats 1000000 in
theorem mFr.refl {I : Nat → Nat → Int32} : mFr I I := ⟨fun _ _ _ => rfl, fun _ _ _ _ _ _ _ => rfl⟩
set_option maxHeartbeats 1000000 in
theorem mFr.trans {A B D : Nat → Nat → Int32} (h : mFr A B) (g : mFr B D) : mFr A D :=
  ⟨fun c a b => (g.1 c a b).trans (h.1 c a b), fun k a b c d e f => (g.2 k a b c d e f).trans (h.2 k a b c d e f)⟩
set_option maxHeartbeats 1000000 in
theorem mFr.F {A B : Nat → Nat → Int32} (h : mFr A B) : mF B = mF A := by
  funext k j
  simp only [mF]
  split
  · rw [h.1 (j + 59) (by omega) (by omega)]
  · rfl
set_option maxHeartbeats 1000000 in
theorem mPl_l {N : Nat} {mn : Int32} {f : Nat → Nat → Int32} {st : Nat → Nat} (h6 : N ≤ 6) (hk : pKd N f) : ∀ (r k c : Nat) (P Q Q' : zPs) (u : Int32), pEq N P Q → pEq N P Q' → k + r ≤ 1000 → c ≤ k → (∀ j, k ≤ j → j < k + r → pOk N (st j)) → ((mPl N mn f st (-9) k c r Q' u).1 = -9 ↔ qV N mn f ((List.range' k r).map st) Q) ∧ (qV N mn f ((List.range' k r).map st) Q → ∃ P', pEq N P' (endQ N f Q ((List.range' k r).map st)) ∧ pEq N P' (mPl N mn f st (-9) k c r Q' u).2.1) := by
  intro r
  induction r with
  | zero =>
    intro k c P Q Q' u h1 h2 _ _ _
    exact ⟨⟨fun _ => trivial, fun _ => rfl⟩, fun _ => ⟨P, h1, h2⟩⟩
  | succ r ih =>
    intro k c P Q Q' u h1 h2 hb hc hst
    have hok := hst k (by omega) (by omega)
    have hlo : ¬ nI k = -9 := nI_m9 (by omega)
    rw [List.range'_succ, List.map_cons, mPl, if_neg hlo, qV]
    have e1 := h1.can (mn := mn) (f := f) (s := st k)
    have e2 := h2.can (mn := mn) (f := f) (s := st k)
    by_cases hcan : pCan N mn f (st k) Q'
    · rw [if_pos hcan]
      obtain ⟨i1, i2⟩ := ih (k + 1) (c + 1) _ _ _ (zb (mWr f (st k) Q') (mWr_dec _ _ _)) (h1.stp h6 hok hk).1 (h2.stp h6 hok hk).1 (by omega) (by omega) (fun j a b => hst j (by omega) (by omega))
      refine ⟨⟨fun h => ⟨⟨hok, e1.mp (e2.mpr hcan)⟩, i1.mp h⟩, fun h => i1.mpr h.2⟩, fun h => ?_⟩
      obtain ⟨P', p1, p2⟩ := i2 h.2
      exact ⟨P', p1, p2⟩
    · rw [if_neg hcan]
      have hn : ¬ pCan N mn f (st k) Q := fun x => hcan (e2.mp (e1.mpr x))
      exact ⟨⟨fun h => absurd h (nI_m9 (by omega)), fun h => absurd h.1.2 hn⟩, fun h => absurd h.1.2 hn⟩
set_option maxHeartbeats 1000000 in
theorem pw3 {N n : Nat} (h6 : N ≤ 6) (hn : n ≤ 3) : (2 * N + 2) ^ n ≤ 2744 := by
  have h1 : (2 * N + 2) ^ n ≤ 14 ^ n := Nat.pow_le_pow_left (by omega) n
  have h2 : 14 ^ n ≤ 14 ^ 3 := Nat.pow_le_pow_right (by decide) hn
  have h3 : 14 ^ 3 = 2744 := by decide
  omega
set_option maxHeartbeats 1000000 in
theorem sRk_i {N r : Nat} (h6 : N ≤ 6) (hr : r < 2 * N + 2) : (if nI r < nI N then nI r else if nI r < 2 * nI N then 10 + nI r - nI N else 20 + nI r - 2 * nI N) = nI (sRk N r) := by
  have e2 : 2 * nI N = nI (2 * N) := pk_mul 2 N
  have l1 : (nI r < nI N) = (r < N) := zlt (by omega) (by omega)
  have l2 : (nI r < nI (2 * N)) = (r < 2 * N) := zlt (by omega) (by omega)
  have a1 : (10 : Int32) + nI r = nI (10 + r) := nI_add 10 r
  have a2 : (20 : Int32) + nI r = nI (20 + r) := nI_add 20 r
  simp only [e2, l1, l2, a1, a2, sRk]
  by_cases h1 : r < N
  · rw [if_pos h1, if_pos h1]
  · rw [if_neg h1, if_neg h1]
    by_cases h2 : r < 2 * N
    · rw [if_pos h2, if_pos h2, pk_sub (by omega)]
    · rw [if_neg h2, if_neg h2, pk_sub (by omega)]
section S
variable {L : Nat} {xs : Nat → Int32} {d : Nat} {J : Nat → Nat → Int64} {I : Nat → Nat → Int32}
set_option maxHeartbeats 1000000 in
theorem qst {N : Nat} (hN : I 55 6 = nI N) : zE zCd (zGG L xs) d 126 [.ref 55] (I, J) = some (some (.int (nI (2 * N + 2))), (I, J)) := by
  have e2 : (2 : Int32) * nI N = nI (2 * N) := pk_mul 2 N
  have e3 : nI (2 * N) + 2 = nI (2 * N + 2) := nI_add _ 2
  rw [qX9_steps, hN, e2, e3]
set_option maxHeartbeats 1000000 in
theorem lp_rows {N n : Nat} (hN : I 55 6 = nI N) (h6 : N ≤ 6) (hn : n ≤ 3) : ∀ (r k : Nat), k + r = n → zX zCd (zGG L xs) d 128 4 [.ref 55, .int (nI n), .int (nI ((2 * N + 2) ^ k)), .int (nI k)] [] (I, J) = some (some (.int (nI ((2 * N + 2) ^ n))), (I, J)) := by
  intro r
  induction r with
  | zero =>
    intro k h
    obtain rfl : k = n := by omega
    rw [eX9_rows_4]
    simp only [eX9_rows_5, eX9_rows_6, eX9_rows_9, eX9_rows_10, eX9_rows_11, eX9_rows_14, eX9_rows_15, eX9_rows_16, eX9_rows_19, eX9_rows_22, eX9_rows_23, Int32.le_refl, if_true]
  | succ r ih =>
    intro k h
    have em : nI ((2 * N + 2) ^ k) * nI (2 * N + 2) = nI ((2 * N + 2) ^ (k + 1)) := by rw [pk_mul, Nat.pow_succ]
    rw [eX9_rows_4]
    simp only [eX9_rows_5, eX9_rows_6, eX9_rows_9, eX9_rows_10, eX9_rows_11, eX9_rows_14, eX9_rows_15, eX9_rows_16, eX9_rows_19, Option.bind_some, Option.toList_some, Option.toList_none, List.cons_append, List.nil_append, zle (show n ≤ 1000000 by omega) (show k ≤ 1000000 by omega), if_neg (show ¬ n ≤ k by omega), G_o55, qst hN, em, nI_1]
    exact ih (k + 1) (by omega)
set_option maxHeartbeats 1000000 in
theorem qX9_rows {N n : Nat} (hN : I 55 6 = nI N) (h6 : N ≤ 6) (hn : n ≤ 3) : zE zCd (zGG L xs) d 128 [.ref 55, .int (nI n)] (I, J) = some (some (.int (nI ((2 * N + 2) ^ n))), (I, J)) := by
  simp only [nX9_rows, eX9_rows_0, eX9_rows_1, eX9_rows_2, eX9_rows_3]
  exact lp_rows hN h6 hn n 0 (by omega)
set_option maxHeartbeats 1000000 in
theorem lp_gr {N : Nat} {a1 a2 : Int32} (h6 : N ≤ 6) : ∀ (kk x : Nat) (w : Int32) (I : Nat → Nat → Int32), I 55 6 = nI N → w = nI kk + (-1) → kk ≤ 3 → x < 1000000 → zX zCd (zGG L xs) d 129 7 [.ref 55, .int a1, .int a2, .int (nI x), .int w] [] (I, J) = zX zCd (zGG L xs) d 129 42 [.ref 55, .int a1, .int a2, .int (nI (x / (2 * N + 2) ^ kk)), .int (-1)] [] (zUr I 68 (fun i => if i < kk then nI (sRk N ((x / (2 * N + 2) ^ (kk - 1 - i)) % (2 * N + 2))) else I 68 i), J) := by
  intro kk
  induction kk with
  | zero =>
    intro x w I hN hw hk hx
    have ew : w = -1 := by rw [hw]; rfl
    subst ew
    rw [eX9_goesRow_7]
    simp only [eX9_goesRow_9, show ((-1 : Int32) < 0) = True from by decide, if_true, Nat.pow_zero, Nat.div_one]
    congr 2
    funext c j
    rw [zUr_app]
    by_cases e : c = 68
    · rw [if_pos e, if_neg (by omega), e]
    · rw [if_neg e]
  | succ kk ih =>
    intro x w I hN hw hk hx
    rw [pk_m1] at hw
    subst hw
    have n0 : (nI kk < 0) = False := by rw [show (nI kk < 0) = (kk < 0) from @zlt kk 0 (by omega) (by omega)]; exact eq_false (by omega)
    have hS0 : ¬ nI (2 * N + 2) = 0 := fun e => by
      have := (nI_eq (a := 2 * N + 2) (b := 0) (by omega) (by omega)).mp e
      omega
    have er : nI x - nI x / nI (2 * N + 2) * nI (2 * N + 2) = nI (x % (2 * N + 2)) := pk_rem (by omega) (by omega) (by omega)
    have ed : nI x / nI (2 * N + 2) = nI (x / (2 * N + 2)) := pk_div (by omega) (by omega) (by omega)
    rw [ed] at er
    have hm : x % (2 * N + 2) < 2 * N + 2 := Nat.mod_lt _ (by omega)
    have so := qX9_stepOf (L := L) (xs := xs) (d := d) (J := J) (I := I) (k := nI (x % (2 * N + 2)))
    rw [hN, sRk_i h6 hm] at so
    have i2 : zU I 68 kk (nI (sRk N (x % (2 * N + 2)))) 55 6 = nI N := by rw [zU_ne _ _ _ (by decide)]; exact hN
    rw [eX9_goesRow_7]
    simp only [eX9_goesRow_9, eX9_goesRow_12, eX9_goesRow_13, eX9_goesRow_16, eX9_goesRow_18, eX9_goesRow_19, eX9_goesRow_20, eX9_goesRow_21, eX9_goesRow_24, eX9_goesRow_25, eX9_goesRow_28, eX9_goesRow_29, eX9_goesRow_30, eX9_goesRow_31, eX9_goesRow_34, eX9_goesRow_35, eX9_goesRow_36, eX9_goesRow_39, Option.bind_some, Option.toList_some, Option.toList_none, List.cons_append, List.nil_append, n0, if_false, G_o55, G_h55_24, G_r55_24, G_a68, G_l68, qst hN, qst i2, hS0, not_false_eq_true, er, ed, so, zIn_20 (show kk < 20 by omega), zc_n (show kk ≤ 1000 by omega)]
    rw [ih (x / (2 * N + 2)) _ _ i2 rfl (by omega) (Nat.lt_of_le_of_lt (Nat.div_le_self _ _) hx)]
    have e1 : x / (2 * N + 2) / (2 * N + 2) ^ kk = x / (2 * N + 2) ^ (kk + 1) := by rw [Nat.div_div_eq_div_mul, Nat.pow_succ, Nat.mul_comm]
    rw [e1]
    congr 2
    funext c j
    rw [zUr_app, zUr_app]
    by_cases e : c = 68
    · rw [if_pos e, if_pos e]
      by_cases hj : j < kk
      · rw [if_pos hj, if_pos (by omega)]
        have e2 : x / (2 * N + 2) / (2 * N + 2) ^ (kk - 1 - j) = x / (2 * N + 2) ^ (kk + 1 - 1 - j) := by
          rw [Nat.div_div_eq_div_mul, Nat.mul_comm, ← Nat.pow_succ, show (kk - 1 - j).succ = kk + 1 - 1 - j by omega]
        rw [e2]
      · rw [if_neg hj, zU_app]
        by_cases e3 : j = kk
        · rw [if_pos ⟨rfl, e3⟩, if_pos (by omega), e3, show kk + 1 - 1 - kk = 0 by omega, Nat.pow_zero, Nat.div_one]
        · rw [if_neg (fun y => e3 y.2), if_neg (by omega)]
    · rw [if_neg e, if_neg e, zU_ne _ _ _ e]
def mBase (I : Nat → Nat → Int32) (N : Nat) : Prop := I 55 6 = nI N ∧ (1 ≤ N ∧ N ≤ 6) ∧ I 55 22 = 0 ∧ pKd N (mF I) ∧ ∀ k, k < N → 0 ≤ I 60 k ∧ I 60 k ≤ 10
set_option maxHeartbeats 1000000 in
theorem mBase.fr {I I' : Nat → Nat → Int32} {N : Nat} (h : mBase I N) (g : mFr I I') : mBase I' N := by
  obtain ⟨h1, h2, h3, h4, h5⟩ := h
  refine ⟨by rw [g.2 6 (by decide) (by decide) (by decide) (by decide) (by decide) (by decide)]; exact h1, h2, by rw [g.2 22 (by decide) (by decide) (by decide) (by decide) (by decide) (by decide)]; exact h3, by rw [g.F]; exact h4, ?_⟩
  rw [g.1 60 (by decide) (by decide)]
  exact h5
set_option maxHeartbeats 1000000 in
theorem qX9_goesRow {N n x : Nat} (hB : mBase I N) (hn : n ≤ 3) (hx : x < 1000000) : ∃ I', zE zCd (zGG L xs) d 129 [.ref 55, .int (nI x), .int (nI n)] (I, J) = some (some (.int (zb (qV N (I 55 5) (mF I) (pl N n x) (bQ (I 60))) (Classical.propDecidable _))), (I', J)) ∧ (∀ c, c ≠ 55 → (c < 65 ∨ 68 < c) → I' c = I c) ∧ (∀ k, k ≠ 16 → k ≠ 17 → k ≠ 21 → k ≠ 23 → I' 55 k = I 55 k) ∧ (∀ i, i < n → I' 68 i = nI ((pl N n x).getD i 0)) ∧ (qV N (I 55 5) (mF I) (pl N n x) (bQ (I 60)) → ∃ P, pEq N P (endQ N (mF I) (bQ (I 60)) (pl N n x)) ∧ pEq N P (zgM I')) := by
  obtain ⟨hN, ⟨h1, h6⟩, hf, hk, hr⟩ := id hB
  have lp := lp_gr (L := L) (xs := xs) (d := d) (J := J) (a1 := nI x) (a2 := nI n) h6 n x (nI n + (-1)) I hN rfl hn hx
  generalize hI1 : zUr I 68 (fun i => if i < n then nI (sRk N ((x / (2 * N + 2) ^ (n - 1 - i)) % (2 * N + 2))) else I 68 i) = I1 at lp
  generalize hst : (fun i => sRk N ((x / (2 * N + 2) ^ (n - 1 - i)) % (2 * N + 2))) = st
  have hst' : ∀ i, st i = sRk N ((x / (2 * N + 2) ^ (n - 1 - i)) % (2 * N + 2)) := fun i => by rw [← hst]
  have jo : ∀ c, c ≠ 68 → I1 c = I c := fun c h => by rw [← hI1, zUr_ne _ _ h]
  have j68 : ∀ i, i < n → I1 68 i = nI (st i) := fun i hi => by rw [← hI1, zUr_self, if_pos hi, hst']
  have hpok : ∀ i, pOk N (st i) := fun i => by rw [hst']; exact stl_ok h6 (Nat.mod_lt _ (by omega))
  generalize hI2 : zU I1 55 23 (nI n) = I2
  have ko : ∀ c, c ≠ 55 → I2 c = I1 c := fun c h => by rw [← hI2, zU_ne _ _ _ h]
  have k5 : ∀ k, k ≠ 23 → I2 55 k = I 55 k := fun k h => by rw [← hI2, zU_k _ _ _ h, jo 55 (by decide)]
  have eF : mF I2 = mF I := by
    funext k j
    simp only [mF]
    split
    · rw [ko (j + 59) (by omega), jo (j + 59) (by omega)]
    · rfl
  have go := qX9_go (L := L) (xs := xs) (d := d) (J := J) (I := I2) (lo := -9) (N := N) (n := n) (st := st) (by rw [k5 6 (by decide)]; exact hN) h6 (by rw [← hI2, zU_at]) (by omega) (by rw [k5 22 (by decide)]; exact hf) (fun k hk => ⟨by rw [ko 68 (by decide), j68 k hk], hpok k⟩)
  rw [eF, k5 5 (by decide)] at go
  have elist : (List.range' 0 n).map st = pl N n x := by
    rw [← List.range_eq_range', ← hst]
    exact pl_map n x
  have hb : pEq N (bQ (I 60)) (bQ (I 60)) := ⟨fun k hk => ⟨rfl, rfl, hr k hk⟩, fun k hk => ⟨rfl, by simp only [bQ]; decide⟩, rfl, rfl⟩
  have hb2 : pEq N (bQ (I 60)) (mBg N I2) := by
    refine ⟨fun k hk => ?_, fun k hk => ?_, rfl, rfl⟩
    · simp only [bQ, mBg, if_pos hk, ko 60 (show 60 ≠ 55 by decide), jo 60 (show 60 ≠ 68 by decide)]
      exact ⟨trivial, trivial, hr k hk⟩
    · simp only [bQ, mBg, if_pos hk]
      exact ⟨trivial, by decide⟩
  obtain ⟨l1, l2⟩ := mPl_l (N := N) (mn := I 55 5) (f := mF I) (st := st) h6 hk n 0 0 (bQ (I 60)) (bQ (I 60)) (mBg N I2) (I2 55 21) hb hb2 (by omega) (by omega) (fun j _ _ => hpok j)
  rw [elist] at l1 l2
  generalize hA : mPl N (I 55 5) (mF I) st (-9) 0 0 n (mBg N I2) (I2 55 21) = A at go l1 l2
  obtain ⟨a, P1, u1⟩ := A
  dsimp only at go l1 l2
  have e1 : nI n - 1 = nI n + (-1) := by
    rw [Int32.sub_eq_add_neg]
  refine ⟨zsM I2 P1 u1, ?_, fun c x y => ?_, fun k a b c e => ?_, fun i hi => ?_, fun h => ?_⟩
  · have pre : zE zCd (zGG L xs) d 129 [.ref 55, .int (nI x), .int (nI n)] (I, J) = zX zCd (zGG L xs) d 129 53 [.ref 55, .int (nI x), .int (nI n), .int (nI (x / (2 * N + 2) ^ n)), .int (-1)] [.int a] (zsM I2 P1 u1, J) := by
      simp only [nX9_goesRow, eX9_goesRow_0, eX9_goesRow_1, eX9_goesRow_2, eX9_goesRow_3, eX9_goesRow_4, eX9_goesRow_5, e1]
      rw [lp]
      simp only [eX9_goesRow_42, eX9_goesRow_43, eX9_goesRow_44, eX9_goesRow_47, eX9_goesRow_48, eX9_goesRow_50, Option.bind_some, Option.toList_some, Option.toList_none, List.cons_append, List.nil_append, G_o55, hI2, go]
    rw [pre]
    by_cases h : a = -9
    · rw [zb_t (l1.mp h)]
      simp only [eX9_goesRow_53, eX9_goesRow_55, eX9_goesRow_58, eX9_goesRow_59, eX9_goesRow_62, eX9_goesRow_63, eq_true h, ne_eq, not_true_eq_false, if_false, zT_1]
    · rw [zb_f (fun y => h (l1.mpr y))]
      simp only [eX9_goesRow_53, eX9_goesRow_55, eX9_goesRow_58, eX9_goesRow_59, eX9_goesRow_62, eX9_goesRow_63, eq_false h, ne_eq, not_false_eq_true, if_true, zT_0]
  · by_cases e68 : c = 68
    · omega
    · rw [zsM_ne _ _ _ (by omega) (by omega) (by omega) x, ko c x, jo c e68]
  · rw [zsM_55 _ _ _ a b c, k5 k e]
  · rw [zsM_ne _ _ _ (by decide) (by decide) (by decide) (by decide), ko 68 (by decide), j68 i hi, pl_get hi, hst']
  · obtain ⟨P', p1, p2⟩ := l2 h
    exact ⟨P', p1, by rw [zsM_g]; exact p2⟩
end S
