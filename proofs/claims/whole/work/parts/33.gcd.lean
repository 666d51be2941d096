/-! shares in least terms -/
def eu : Nat → Nat → Nat → Nat
  | 0, a, _ => a
  | r + 1, a, b => if b = 0 then a else eu r b (a % b)
set_option maxHeartbeats 1000000 in
theorem half_mod {b c : Nat} (h0 : 0 < c) (h : c < b) : 2 * (b % c) < b := by
  by_cases h2 : 2 * c ≤ b
  · have := Nat.mod_lt b h0
    omega
  · have e : b % c = b - c := by
      rw [Nat.mod_eq_sub_mod (by omega), Nat.mod_eq_of_lt (by omega)]
    omega
set_option maxHeartbeats 1000000 in
theorem eu_gcd : ∀ (k a b r : Nat), b < 2 ^ k → 2 * k + 1 ≤ r → eu r a b = Nat.gcd a b := by
  intro k
  induction k with
  | zero =>
    intro a b r hb hr
    obtain ⟨r, rfl⟩ : ∃ q, r = q + 1 := ⟨r - 1, by omega⟩
    have : b = 0 := by simpa using hb
    subst this
    simp [eu]
  | succ k ih =>
    intro a b r hb hr
    obtain ⟨r, rfl⟩ : ∃ q, r = q + 2 := ⟨r - 2, by omega⟩
    by_cases b0 : b = 0
    · subst b0; simp [eu]
    · rw [show r + 2 = (r + 1) + 1 by omega, eu, if_neg b0, eu]
      by_cases c0 : a % b = 0
      · rw [if_pos c0, Nat.gcd_comm, Nat.gcd_rec, c0, Nat.gcd_zero_left]
      · rw [if_neg c0]
        have h1 := half_mod (b := b) (c := a % b) (by omega) (Nat.mod_lt a (by omega))
        rw [ih _ _ r (by rw [Nat.pow_succ] at hb; omega) (by omega), Nat.gcd_comm, ← Nat.gcd_rec, ← Nat.gcd_rec, Nat.gcd_comm]
set_option maxHeartbeats 1000000 in
theorem lN_0 : lN 0 = 0 := rfl
set_option maxHeartbeats 1000000 in
theorem cmp_0 {b : Nat} (hb : b < 2 ^ 62) : (lg_cmp (lN b) 0 = 0) = (b = 0) := by
  unfold lg_cmp
  by_cases h : b = 0
  · subst h; simp [lN_0]
  · have g : lN b > 0 := (pk_lLT (a := 0) (b := b) (by omega) (by omega)).mpr (by omega)
    rw [if_pos g]
    exact propext ⟨fun x => absurd x (by decide), fun x => absurd x h⟩
set_option maxHeartbeats 1000000 in
theorem cmp_p {b : Nat} (hb : b < 2 ^ 62) (h0 : 0 < b) : ((0 : Int32) < lg_cmp (lN b) 0) = True := by
  have g : lN b > 0 := (pk_lLT (a := 0) (b := b) (by omega) (by omega)).mpr h0
  unfold lg_cmp
  rw [if_pos g]
  exact eq_true (by decide)
set_option maxHeartbeats 1000000 in
theorem lN_n0 {b : Nat} (hb : b < 2 ^ 62) (h0 : 0 < b) : (lN b = 0) = False := by
  rw [show (lN b = 0) = (b = 0) from propext (pk_lEQ (a := b) (b := 0) (by omega) (by omega))]
  exact eq_false (by omega)
section S
variable {L : Nat} {xs : Nat → Int32} {d : Nat} {J : Nat → Nat → Int64} {I : Nat → Nat → Int32}
set_option maxHeartbeats 1000000 in
theorem lp_cd {u l : Int64} : ∀ (r t a b : Nat) (w9 w10 : Value), t + r = 128 → a < 2 ^ 62 → b < 2 ^ 62 → zX zCd (zGG L xs) d 89 9 [.long u, .null, .long l, .null, .long (lN a), .null, .long (lN b), .null, .int (nI t), w9, w10] [] (I, J) = some (some (.long (lN (eu r a b))), (I, J)) := by
  intro r
  induction r with
  | zero =>
    intro t a b w9 w10 h ha hb
    obtain rfl : t = 128 := by omega
    rw [eX8_commonDivisor_9]
    simp only [eX8_commonDivisor_11, eX8_commonDivisor_14, eX8_commonDivisor_45, eX8_commonDivisor_47, show ((128 : Int32) ≤ nI 128) = True from by decide, if_true, eu]
  | succ r ih =>
    intro t a b w9 w10 h ha hb
    rw [eX8_commonDivisor_9]
    have c1 : ((128 : Int32) ≤ nI t) = False := by rw [show ((128 : Int32) ≤ nI t) = (128 ≤ t) from @zle 128 t (by omega) (by omega)]; exact eq_false (by omega)
    by_cases b0 : b = 0
    · subst b0
      simp only [eX8_commonDivisor_11, eX8_commonDivisor_14, eX8_commonDivisor_17, eX8_commonDivisor_19, eX8_commonDivisor_20, eX8_commonDivisor_21, eX8_commonDivisor_45, eX8_commonDivisor_47, c1, if_false, cmp_0 hb, if_true, eu]
    · simp only [eX8_commonDivisor_11, eX8_commonDivisor_14, eX8_commonDivisor_17, eX8_commonDivisor_19, eX8_commonDivisor_20, eX8_commonDivisor_21, eX8_commonDivisor_24, eX8_commonDivisor_26, eX8_commonDivisor_28, eX8_commonDivisor_29, eX8_commonDivisor_31, eX8_commonDivisor_33, eX8_commonDivisor_35, eX8_commonDivisor_37, eX8_commonDivisor_39, eX8_commonDivisor_42, c1, if_false, cmp_0 hb, b0, lN_n0 hb (by omega), not_false_eq_true, pk_lRem (a := a) (b := b) (by omega) (by omega) (by omega), nI_1]
      rw [ih (t + 1) b (a % b) _ _ (by omega) hb (Nat.lt_of_lt_of_le (Nat.mod_lt _ (by omega)) (by omega))]
      rw [eu, if_neg b0]
set_option maxHeartbeats 1000000 in
theorem qX8_commonDivisor {a b : Nat} (ha : a < 2 ^ 60) (hb : b < 2 ^ 60) : zE zCd (zGG L xs) d 89 [.long (lN a), .long (lN b)] (I, J) = some (some (.long (lN (Nat.gcd a b))), (I, J)) := by
  rw [← eu_gcd 60 a b 128 hb (by omega)]
  simp only [nX8_commonDivisor, eX8_commonDivisor_0, eX8_commonDivisor_1, eX8_commonDivisor_3, eX8_commonDivisor_4, eX8_commonDivisor_6, eX8_commonDivisor_7]
  exact lp_cd 128 0 a b .null .null (by omega) (by omega) (by omega)
def shr (w : Int32) (u l : Nat) : Int64 := lN ((if w = 0 then u else l) / Nat.gcd u l)
set_option maxHeartbeats 1000000 in
theorem qX8_shareOf {u l : Nat} {w : Int32} (hu : u < 2 ^ 60) (hl : l < 2 ^ 60) (h0 : 0 < l) : zE zCd (zGG L xs) d 88 [.long (lN u), .long (lN l), .int w] (I, J) = some (some (.long (shr w u l)), (I, J)) := by
  have g0 : 0 < Nat.gcd u l := Nat.gcd_pos_of_pos_right _ h0
  have gl : Nat.gcd u l < 2 ^ 62 := Nat.lt_of_le_of_lt (Nat.gcd_le_right _ h0) (by omega)
  have d1 := pk_lDiv (a := u) (b := Nat.gcd u l) (by omega) g0 (by omega)
  have d2 := pk_lDiv (a := l) (b := Nat.gcd u l) (by omega) g0 (by omega)
  by_cases hw : w = 0
  · simp only [nX8_shareOf, eX8_shareOf_0, eX8_shareOf_1, eX8_shareOf_2, eX8_shareOf_5, eX8_shareOf_7, eX8_shareOf_9, eX8_shareOf_10, eX8_shareOf_11, eX8_shareOf_14, eX8_shareOf_17, eX8_shareOf_18, eX8_shareOf_20, eX8_shareOf_23, eX8_shareOf_24, eX8_shareOf_27, eX8_shareOf_28, eX8_shareOf_30, eX8_shareOf_31, Option.bind_some, Option.toList_some, Option.toList_none, List.cons_append, List.nil_append, qX8_commonDivisor hu hl, cmp_p gl g0, if_true, hw, ne_eq, not_true_eq_false, if_false, lN_n0 gl g0, not_false_eq_true, d1, shr]
  · simp only [nX8_shareOf, eX8_shareOf_0, eX8_shareOf_1, eX8_shareOf_2, eX8_shareOf_5, eX8_shareOf_7, eX8_shareOf_9, eX8_shareOf_10, eX8_shareOf_11, eX8_shareOf_14, eX8_shareOf_17, eX8_shareOf_18, eX8_shareOf_20, eX8_shareOf_23, eX8_shareOf_24, eX8_shareOf_27, eX8_shareOf_28, eX8_shareOf_30, eX8_shareOf_31, Option.bind_some, Option.toList_some, Option.toList_none, List.cons_append, List.nil_append, qX8_commonDivisor hu hl, cmp_p gl g0, if_true, hw, ne_eq, not_true_eq_false, if_false, lN_n0 gl g0, not_false_eq_true, d2, shr]
set_option maxHeartbeats 1000000 in
theorem lp_lt {u l : Nat} {w : Int32} (hu : u < 2 ^ 60) (hl : l < 2 ^ 60) : ∀ (b a : Nat) (w9 w10 : Value), a < 2 ^ 62 → b < 2 ^ 62 → 0 < Nat.gcd a b → zX zCd (zGG L xs) d 122 6 [.long (lN u), .null, .long (lN l), .null, .int w, .long (lN a), .null, .long (lN b), .null, w9, w10] [] (I, J) = some (some (.long (lN ((if w = 0 then u else l) / Nat.gcd a b))), (I, J)) := by
  intro b
  induction b using Nat.strongRecOn with
  | ind b ih =>
    intro a w9 w10 ha hb hg
    rw [eX9_inLeastTerms_6]
    by_cases b0 : b = 0
    · subst b0
      rw [Nat.gcd_zero_right] at hg
      have d1 := pk_lDiv (a := u) (b := a) (by omega) hg (by omega)
      have d2 := pk_lDiv (a := l) (b := a) (by omega) hg (by omega)
      by_cases hw : w = 0
      · simp only [eX9_inLeastTerms_8, eX9_inLeastTerms_9, eX9_inLeastTerms_10, eX9_inLeastTerms_31, eX9_inLeastTerms_33, eX9_inLeastTerms_36, eX9_inLeastTerms_37, eX9_inLeastTerms_39, eX9_inLeastTerms_40, eX9_inLeastTerms_43, eX9_inLeastTerms_44, eX9_inLeastTerms_46, eX9_inLeastTerms_47, cmp_0 hb, if_true, hw, ne_eq, not_true_eq_false, if_false, lN_n0 ha hg, not_false_eq_true, d1, Nat.gcd_zero_right]
      · simp only [eX9_inLeastTerms_8, eX9_inLeastTerms_9, eX9_inLeastTerms_10, eX9_inLeastTerms_31, eX9_inLeastTerms_33, eX9_inLeastTerms_36, eX9_inLeastTerms_37, eX9_inLeastTerms_39, eX9_inLeastTerms_40, eX9_inLeastTerms_43, eX9_inLeastTerms_44, eX9_inLeastTerms_46, eX9_inLeastTerms_47, cmp_0 hb, if_true, hw, ne_eq, not_true_eq_false, if_false, lN_n0 ha hg, not_false_eq_true, d2, Nat.gcd_zero_right]
    · simp only [eX9_inLeastTerms_8, eX9_inLeastTerms_9, eX9_inLeastTerms_10, eX9_inLeastTerms_13, eX9_inLeastTerms_15, eX9_inLeastTerms_17, eX9_inLeastTerms_18, eX9_inLeastTerms_20, eX9_inLeastTerms_22, eX9_inLeastTerms_24, eX9_inLeastTerms_26, eX9_inLeastTerms_28, cmp_0 hb, b0, if_false, lN_n0 hb (by omega), not_false_eq_true, pk_lRem (a := a) (b := b) (by omega) (by omega) (by omega)]
      have hlt := Nat.mod_lt a (show 0 < b by omega)
      have e : Nat.gcd b (a % b) = Nat.gcd a b := by rw [Nat.gcd_comm, ← Nat.gcd_rec, Nat.gcd_comm]
      rw [ih (a % b) hlt b _ _ hb (by omega) (by rw [e]; exact hg), e]
set_option maxHeartbeats 1000000 in
theorem qX9_inLeastTerms {u l : Nat} {w : Int32} (hu : u < 2 ^ 60) (hl : l < 2 ^ 60) (h0 : 0 < l) : zE zCd (zGG L xs) d 122 [.long (lN u), .long (lN l), .int w] (I, J) = some (some (.long (shr w u l)), (I, J)) := by
  simp only [nX9_inLeastTerms, eX9_inLeastTerms_0, eX9_inLeastTerms_1, eX9_inLeastTerms_3, eX9_inLeastTerms_4]
  exact lp_lt hu hl l u .null .null (by omega) (by omega) (Nat.gcd_pos_of_pos_right _ h0)
end S
set_option maxHeartbeats 1000000 in
theorem prd_N {f : Nat → Int64} : ∀ {n : Nat}, (∀ k, k < n → ∃ x, x ≤ 10 ∧ f k = lN x) → ∃ u, u ≤ 10 ^ n ∧ zPrd f n = lN u
  | 0, _ => ⟨1, by simp, rfl⟩
  | n + 1, h => by
    obtain ⟨u, hu, e⟩ := prd_N (n := n) (fun k hk => h k (by omega))
    obtain ⟨x, hx, e2⟩ := h n (by omega)
    refine ⟨u * x, ?_, ?_⟩
    · rw [Nat.pow_succ]; exact Nat.mul_le_mul hu hx
    · rw [zPrd, e, e2, lN_mul]
set_option maxHeartbeats 1000000 in
theorem prx_N {f : Nat → Int64} : ∀ {n k m : Nat} {y : Nat}, (∀ j, k ≤ j → j < k + n → ∃ x, x ≤ 10 ∧ f j = lN x) → y ≤ 10 ^ m → ∃ u, u ≤ 10 ^ (m + n) ∧ zPrx (lN y) f k n = lN u
  | 0, k, m, y, _, hy => ⟨y, hy, rfl⟩
  | n + 1, k, m, y, h, hy => by
    obtain ⟨x, hx, e2⟩ := h k (by omega) (by omega)
    obtain ⟨u, hu, e⟩ := prx_N (f := f) (n := n) (k := k + 1) (m := m + 1) (y := y * x) (fun j a b => h j (by omega) (by omega)) (by rw [Nat.pow_succ]; exact Nat.mul_le_mul hy hx)
    refine ⟨u, by rw [show m + (n + 1) = m + 1 + n by omega]; exact hu, ?_⟩
    rw [zPrx, e2, lN_mul, e]
set_option maxHeartbeats 1000000 in
theorem ten_N : ∀ n : Nat, zPrd (fun _ => (10 : Int64)) n = lN (10 ^ n)
  | 0 => rfl
  | n + 1 => by
    rw [zPrd, ten_N n, Nat.pow_succ, ← lN_mul]
    rfl
set_option maxHeartbeats 1000000 in
theorem i64_N {x : Int32} (h : 0 ≤ x ∧ x ≤ 10) : ∃ y, y ≤ 10 ∧ x.toInt64 = lN y := by
  obtain ⟨j, hj, rfl⟩ := zIdl (n := 10) h.1 h.2 (by decide)
  exact ⟨j, hj, nI_l (by omega)⟩
set_option maxHeartbeats 1000000 in
theorem pRt_N {N : Nat} {P Q : zPs} (h1 : N ≤ 6) (h : pEq N P Q) : ∃ u, u ≤ 10 ^ (N + (N - 1)) ∧ pRt N P = lN u := by
  obtain ⟨u, hu, e⟩ := prd_N (f := fun k => (P.1 k).toInt64) (n := N) (fun k hk => i64_N (h.1 k hk).2.2)
  obtain ⟨z, hz, e2⟩ := prx_N (f := fun k => (P.2.1 k).toInt64) (n := N - 1) (k := 0) (m := N) (y := u) (fun j _ hj => i64_N (h.2.1 j (by omega)).2) hu
  exact ⟨z, hz, by unfold pRt; rw [e, e2]⟩
set_option maxHeartbeats 1000000 in
theorem ten_lt {n : Nat} (h : n ≤ 11) : 10 ^ n < 2 ^ 60 := Nat.lt_of_le_of_lt (Nat.pow_le_pow_right (by decide) h) (by decide)
