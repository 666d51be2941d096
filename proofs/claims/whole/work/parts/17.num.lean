/-! loops of numbers -/
def zSum (f : Nat → Int32) : Nat → Int32
  | 0 => 0
  | n + 1 => zSum f n + f n
def zPrd (f : Nat → Int64) : Nat → Int64
  | 0 => 1
  | n + 1 => zPrd f n * f n
/-- n more factors on x -/
def zPrx (x : Int64) (f : Nat → Int64) (k : Nat) : Nat → Int64
  | 0 => x
  | n + 1 => zPrx (x * f k) f (k + 1) n
def zSmx (x : Int32) (f : Nat → Int32) (k : Nat) : Nat → Int32
  | 0 => x
  | n + 1 => zSmx (x + f k) f (k + 1) n
theorem zPrx_prd (f : Nat → Int64) : ∀ (n k : Nat), zPrx (zPrd f k) f k n = zPrd f (k + n)
  | 0, k => rfl
  | n + 1, k => by
    rw [zPrx, show k + (n + 1) = (k + 1) + n by omega]
    exact zPrx_prd f n (k + 1)
theorem zSmx_sum (f : Nat → Int32) : ∀ (n k : Nat), zSmx (zSum f k) f k n = zSum f (k + n)
  | 0, k => rfl
  | n + 1, k => by
    rw [zSmx, show k + (n + 1) = (k + 1) + n by omega]
    exact zSmx_sum f n (k + 1)
theorem zPrx_0 (f : Nat → Int64) (n : Nat) : zPrx 1 f 0 n = zPrd f n := by
  have := zPrx_prd f n 0
  rw [Nat.zero_add] at this
  exact this
theorem zSmx_0 (f : Nat → Int32) (n : Nat) : zSmx 0 f 0 n = zSum f n := by
  have := zSmx_sum f n 0
  rw [Nat.zero_add] at this
  exact this
theorem zle {a b : Nat} (ha : a ≤ 1000000) (hb : b ≤ 1000000) : (nI a ≤ nI b) = (a ≤ b) := propext (nI_leI (by omega) (by omega))
theorem zlt {a b : Nat} (ha : a ≤ 1000000) (hb : b ≤ 1000000) : (nI a < nI b) = (a < b) := propext (nI_ltI (by omega) (by omega))
theorem zeq {a b : Nat} (ha : a ≤ 1000000) (hb : b ≤ 1000000) : (nI a = nI b) = (a = b) := propext (nI_eq (by omega) (by omega))
section S
variable {L : Nat} {xs : Nat → Int32} {d : Nat} {J : Nat → Nat → Int64}
theorem lp_fill {c n : Nat} {v : Int32} (hc : zOa (zGG L xs) c) (hn : zLn (zGG L xs) c = n) (h1 : n ≤ 1000) : ∀ (r k : Nat) (I : Nat → Nat → Int32), k + r = n → zX zCd (zGG L xs) d 0 5 [.ref c, .int v, .int (nI k), .int (nI n)] [] (I, J) = some (none, (zUr I c (fun j => if k ≤ j ∧ j < n then v else I c j), J)) := by
  intro r
  induction r with
  | zero =>
    intro k I h
    obtain rfl : k = n := by omega
    rw [eJ7_fill_53178_5]
    simp only [eJ7_fill_53178_6, eJ7_fill_53178_7, eJ7_fill_53178_10, eJ7_fill_53178_11, eJ7_fill_53178_12, eJ7_fill_53178_13, eJ7_fill_53178_14, eJ7_fill_53178_17, eJ7_fill_53178_20, Int32.le_refl, if_true]
    congr 3
    funext c' j
    simp only [zUr_app]
    grind
  | succ r ih =>
    intro k I h
    rw [eJ7_fill_53178_5]
    simp only [eJ7_fill_53178_6, eJ7_fill_53178_7, eJ7_fill_53178_10, eJ7_fill_53178_11, eJ7_fill_53178_12, eJ7_fill_53178_13, eJ7_fill_53178_14, eJ7_fill_53178_17, zle (show n ≤ 1000000 by omega) (show k ≤ 1000000 by omega), if_neg (show ¬ n ≤ k by omega), hc, hn, zIn_n (show k < n by omega) h1, zc_n (show k ≤ 1000 by omega), nI_1]
    rw [ih (k + 1) _ (by omega)]
    congr 3
    funext c' j
    simp only [zUr_app, zU_app]
    grind
theorem qfill {c n : Nat} {v : Int32} {I : Nat → Nat → Int32} (hc : zOa (zGG L xs) c) (hn : zLn (zGG L xs) c = n) (h1 : n ≤ 1000) : zE zCd (zGG L xs) d 0 [.ref c, .int v] (I, J) = some (none, (zUr I c (fun j => if j < n then v else I c j), J)) := by
  simp only [nJ7_fill_53178, eJ7_fill_53178_0, eJ7_fill_53178_1, eJ7_fill_53178_2, eJ7_fill_53178_3, eJ7_fill_53178_4, hc, hn]
  have := lp_fill (d := d) (J := J) (v := v) hc hn h1 n 0 I (by omega)
  simp only [Nat.zero_le, true_and] at this
  exact this
theorem lp_all {n : Nat} {I : Nat → Nat → Int32} (hN : I 10 2 = nI n) (h1 : n ≤ 6) : ∀ (r k : Nat) (x : Int32), k + r = n → zX zCd (zGG L xs) d 25 4 [.ref 10, .int x, .int (nI k)] [] (I, J) = some (some (.int (zSmx x (fun k => I (k + 15) 2) k r)), (I, J)) := by
  intro r
  induction r with
  | zero =>
    intro k x h
    obtain rfl : k = n := by omega
    rw [eX0_allLengths_4]
    simp only [eX0_allLengths_5, eX0_allLengths_6, eX0_allLengths_9, eX0_allLengths_12, eX0_allLengths_13, eX0_allLengths_14, eX0_allLengths_17, eX0_allLengths_18, eX0_allLengths_19, eX0_allLengths_22, eX0_allLengths_23, eX0_allLengths_24, eX0_allLengths_27, eX0_allLengths_30, eX0_allLengths_31, G_o10, hN, Int32.le_refl, if_true, zSmx]
  | succ r ih =>
    intro k x h
    rw [eX0_allLengths_4]
    simp only [eX0_allLengths_5, eX0_allLengths_6, eX0_allLengths_9, eX0_allLengths_12, eX0_allLengths_13, eX0_allLengths_14, eX0_allLengths_17, eX0_allLengths_18, eX0_allLengths_19, eX0_allLengths_22, eX0_allLengths_23, eX0_allLengths_24, eX0_allLengths_27, G_o10, G_h10_0, G_r10_0, G_q11, G_l11, hN, zle (show n ≤ 1000000 by omega) (show k ≤ 1000000 by omega), if_neg (show ¬ n ≤ k by omega), zIn_6 (show k < 6 by omega), zc_n (show k ≤ 1000 by omega), G_11h (show k < 6 by omega), G_11r (show k < 6 by omega), G_pl_o (show k < 6 by omega), nI_1]
    rw [ih (k + 1) _ (by omega)]
    rfl
theorem qX0_allLengths {n : Nat} {I : Nat → Nat → Int32} (hN : I 10 2 = nI n) (h1 : n ≤ 6) : zE zCd (zGG L xs) d 25 [.ref 10] (I, J) = some (some (.int (zSum (fun k => I (k + 15) 2) n)), (I, J)) := by
  simp only [nX0_allLengths, eX0_allLengths_0, eX0_allLengths_1, eX0_allLengths_2, eX0_allLengths_3]
  have := lp_all (L := L) (xs := xs) (d := d) (J := J) hN h1 n 0 0 (by omega)
  rw [zSmx_0] at this
  exact this
theorem lp_pow {n : Nat} {b : Int32} {I : Nat → Nat → Int32} (h1 : n ≤ 1000) : ∀ (r k : Nat) (x : Int64), k + r = n → zX zCd (zGG L xs) d 90 5 [.int b, .int (nI n), .long x, .null, .int (nI k)] [] (I, J) = some (some (.long (zPrx x (fun _ => b.toInt64) k r)), (I, J)) := by
  intro r
  induction r with
  | zero =>
    intro k x h
    obtain rfl : k = n := by omega
    rw [eX8_power_5]
    simp only [eX8_power_7, eX8_power_8, eX8_power_11, eX8_power_12, eX8_power_13, eX8_power_14, eX8_power_15, eX8_power_16, eX8_power_19, eX8_power_22, eX8_power_23, Int32.le_refl, if_true, zPrx]
  | succ r ih =>
    intro k x h
    rw [eX8_power_5]
    simp only [eX8_power_7, eX8_power_8, eX8_power_11, eX8_power_12, eX8_power_13, eX8_power_14, eX8_power_15, eX8_power_16, eX8_power_19, zle (show n ≤ 1000000 by omega) (show k ≤ 1000000 by omega), if_neg (show ¬ n ≤ k by omega), nI_1]
    rw [ih (k + 1) _ (by omega)]
    rfl
theorem qX8_power {n : Nat} {b : Int32} {I : Nat → Nat → Int32} (h1 : n ≤ 1000) : zE zCd (zGG L xs) d 90 [.int b, .int (nI n)] (I, J) = some (some (.long (zPrd (fun _ => b.toInt64) n)), (I, J)) := by
  simp only [nX8_power, eX8_power_0, eX8_power_1, eX8_power_2, eX8_power_3]
  have := lp_pow (L := L) (xs := xs) (d := d) (J := J) (b := b) (I := I) h1 n 0 1 (by omega)
  rw [zPrx_0] at this
  exact this
theorem lp_mpow {n : Nat} {b : Int64} {I : Nat → Nat → Int32} (h1 : n ≤ 1000) : ∀ (r k : Nat) (x : Int64), k + r = n → zX zCd (zGG L xs) d 135 5 [.long b, .null, .int (nI n), .long x, .null, .int (nI k)] [] (I, J) = some (some (.long (zPrx x (fun _ => b) k r)), (I, J)) := by
  intro r
  induction r with
  | zero =>
    intro k x h
    obtain rfl : k = n := by omega
    rw [eX9_power_5]
    simp only [eX9_power_7, eX9_power_8, eX9_power_11, eX9_power_12, eX9_power_13, eX9_power_14, eX9_power_15, eX9_power_18, eX9_power_21, eX9_power_22, Int32.le_refl, if_true, zPrx]
  | succ r ih =>
    intro k x h
    rw [eX9_power_5]
    simp only [eX9_power_7, eX9_power_8, eX9_power_11, eX9_power_12, eX9_power_13, eX9_power_14, eX9_power_15, eX9_power_18, zle (show n ≤ 1000000 by omega) (show k ≤ 1000000 by omega), if_neg (show ¬ n ≤ k by omega), nI_1]
    rw [ih (k + 1) _ (by omega)]
    rfl
theorem qX9_power {n : Nat} {b : Int64} {I : Nat → Nat → Int32} (h1 : n ≤ 1000) : zE zCd (zGG L xs) d 135 [.long b, .int (nI n)] (I, J) = some (some (.long (zPrd (fun _ => b) n)), (I, J)) := by
  simp only [nX9_power, eX9_power_0, eX9_power_1, eX9_power_2, eX9_power_3]
  have := lp_mpow (L := L) (xs := xs) (d := d) (J := J) (b := b) (I := I) h1 n 0 1 (by omega)
  rw [zPrx_0] at this
  exact this
theorem lp_takes {n : Nat} {s : Int32} {I : Nat → Nat → Int32} (hN : I 55 6 = nI n) (h1 : n ≤ 6) : ∀ (r k : Nat) (x : Int32), k + r = n → zX zCd (zGG L xs) d 110 19 [.ref 55, .int s, .int x, .int (nI k)] [] (I, J) = some (some (.int (zSmx x (I 61) k r)), (I, J)) := by
  intro r
  induction r with
  | zero =>
    intro k x h
    obtain rfl : k = n := by omega
    rw [eX9_takes_19]
    simp only [eX9_takes_20, eX9_takes_21, eX9_takes_24, eX9_takes_42, eX9_takes_43, G_o55, hN, Int32.le_refl, if_true, zSmx]
  | succ r ih =>
    intro k x h
    rw [eX9_takes_19]
    simp only [eX9_takes_20, eX9_takes_21, eX9_takes_24, eX9_takes_27, eX9_takes_28, eX9_takes_29, eX9_takes_32, eX9_takes_33, eX9_takes_34, eX9_takes_35, eX9_takes_36, eX9_takes_39, G_o55, G_h55_9, G_r55_9, G_a61, G_l61, hN, zle (show n ≤ 1000000 by omega) (show k ≤ 1000000 by omega), if_neg (show ¬ n ≤ k by omega), zIn_6 (show k < 6 by omega), zc_n (show k ≤ 1000 by omega), nI_1]
    rw [ih (k + 1) _ (by omega)]
    rfl
theorem qX9_takes {n s : Nat} {I : Nat → Nat → Int32} (hN : I 55 6 = nI n) (h1 : n ≤ 6) (hs : s = 20 ∨ s = 21 ∨ s < n ∨ (10 ≤ s ∧ s < 10 + n)) : zE zCd (zGG L xs) d 110 [.ref 55, .int (nI s)] (I, J) = some (some (.int (if s = 21 then 15 else if s = 20 then zSum (I 61) n else if s < 10 then I 61 s else 2 * I 61 (s - 10))), (I, J)) := by
  have e21 : (nI s ≠ 21) = (s ≠ 21) := by have := @zeq s 21 (by omega) (by omega); exact congrArg Not this
  have e20 : (nI s ≠ 20) = (s ≠ 20) := by have := @zeq s 20 (by omega) (by omega); exact congrArg Not this
  have e10 : ((10 : Int32) ≤ nI s) = (10 ≤ s) := @zle 10 s (by omega) (by omega)
  have em : 10 ≤ s → nI s - 10 = nI (s - 10) := fun h => pk_sub (b := 10) h
  by_cases h21 : s = 21
  · subst h21
    simp only [nX9_takes, eX9_takes_0, eX9_takes_1, eX9_takes_3, eX9_takes_6, eX9_takes_8, e21, ne_eq, not_true_eq_false, if_false, if_true]
  · by_cases h20 : s = 20
    · subst h20
      simp only [nX9_takes, eX9_takes_0, eX9_takes_1, eX9_takes_3, eX9_takes_6, eX9_takes_8, eX9_takes_9, eX9_takes_10, eX9_takes_12, eX9_takes_15, eX9_takes_16, eX9_takes_17, eX9_takes_18, e21, e20, ne_eq, not_true_eq_false, if_false, if_true, show ¬ (20 = 21) by decide, not_false_eq_true]
      have := lp_takes (L := L) (xs := xs) (d := d) (J := J) (s := nI 20) hN h1 n 0 0 (by omega)
      rw [zSmx_0] at this
      exact this
    · by_cases h10 : 10 ≤ s
      · simp only [nX9_takes, eX9_takes_0, eX9_takes_1, eX9_takes_3, eX9_takes_6, eX9_takes_8, eX9_takes_9, eX9_takes_10, eX9_takes_12, eX9_takes_44, eX9_takes_45, eX9_takes_47, eX9_takes_50, eX9_takes_51, eX9_takes_54, eX9_takes_55, eX9_takes_56, eX9_takes_59, eX9_takes_60, eX9_takes_61, eX9_takes_64, eX9_takes_65, eX9_takes_67, eX9_takes_68, eX9_takes_69, eX9_takes_70, G_o55, G_h55_9, G_r55_9, G_a61, G_l61, e21, e20, e10, h21, h20, h10, em h10, ne_eq, not_false_eq_true, if_true, if_false, show ¬ s < 10 by omega, zIn_6 (show s - 10 < 6 by omega), zc_n (show s - 10 ≤ 1000 by omega)]
      · simp only [nX9_takes, eX9_takes_0, eX9_takes_1, eX9_takes_3, eX9_takes_6, eX9_takes_8, eX9_takes_9, eX9_takes_10, eX9_takes_12, eX9_takes_44, eX9_takes_45, eX9_takes_47, eX9_takes_50, eX9_takes_51, eX9_takes_54, eX9_takes_55, eX9_takes_56, eX9_takes_59, eX9_takes_60, eX9_takes_61, eX9_takes_64, eX9_takes_65, eX9_takes_67, eX9_takes_68, eX9_takes_69, eX9_takes_70, G_o55, G_h55_9, G_r55_9, G_a61, G_l61, e21, e20, e10, h21, h20, h10, ne_eq, not_false_eq_true, if_true, if_false, show s < 10 by omega, zIn_6 (show s < 6 by omega), zc_n (show s ≤ 1000 by omega)]
theorem qX0_minutesOf {n s : Nat} {I : Nat → Nat → Int32} (hN : I 10 2 = nI n) (h1 : n ≤ 6) (hs : s = 20 ∨ s = 21 ∨ s < n ∨ (10 ≤ s ∧ s < 10 + n)) : zE zCd (zGG L xs) d 24 [.ref 10, .int (nI s)] (I, J) = some (some (.int (if s = 21 then 15 else if s = 20 then zSum (fun k => I (k + 15) 2) n else if s < 10 then I (s + 15) 2 else 2 * I (s - 10 + 15) 2)), (I, J)) := by
  have e21 : (nI s ≠ 21) = (s ≠ 21) := by have := @zeq s 21 (by omega) (by omega); exact congrArg Not this
  have e20 : (nI s ≠ 20) = (s ≠ 20) := by have := @zeq s 20 (by omega) (by omega); exact congrArg Not this
  have e10 : ((10 : Int32) ≤ nI s) = (10 ≤ s) := @zle 10 s (by omega) (by omega)
  have l10 : (nI s < 10) = (s < 10) := @zlt s 10 (by omega) (by omega)
  have em : 10 ≤ s → nI s - 10 = nI (s - 10) := fun h => pk_sub (b := 10) h
  by_cases h21 : s = 21
  · subst h21
    simp only [nX0_minutesOf, eX0_minutesOf_0, eX0_minutesOf_1, eX0_minutesOf_3, eX0_minutesOf_6, eX0_minutesOf_8, e21, ne_eq, not_true_eq_false, if_false, if_true]
  · by_cases h20 : s = 20
    · subst h20
      simp only [nX0_minutesOf, eX0_minutesOf_0, eX0_minutesOf_1, eX0_minutesOf_3, eX0_minutesOf_6, eX0_minutesOf_8, eX0_minutesOf_9, eX0_minutesOf_10, eX0_minutesOf_12, eX0_minutesOf_15, eX0_minutesOf_16, eX0_minutesOf_19, e21, e20, ne_eq, not_true_eq_false, if_false, if_true, show ¬ (20 = 21) by decide, not_false_eq_true, G_o10, qX0_allLengths hN h1, Option.bind_some, Option.toList_some, Option.toList_none, List.cons_append, List.nil_append]
    · by_cases h10 : 10 ≤ s
      · simp only [nX0_minutesOf, eX0_minutesOf_0, eX0_minutesOf_1, eX0_minutesOf_3, eX0_minutesOf_6, eX0_minutesOf_8, eX0_minutesOf_9, eX0_minutesOf_10, eX0_minutesOf_12, eX0_minutesOf_20, eX0_minutesOf_21, eX0_minutesOf_24, eX0_minutesOf_25, eX0_minutesOf_28, eX0_minutesOf_29, eX0_minutesOf_32, eX0_minutesOf_33, eX0_minutesOf_34, eX0_minutesOf_37, eX0_minutesOf_40, eX0_minutesOf_41, eX0_minutesOf_42, eX0_minutesOf_43, eX0_minutesOf_46, eX0_minutesOf_47, G_o10, G_h10_0, G_r10_0, G_q11, G_l11, qX0_placeOf, qX0_isSlow, Option.bind_some, Option.toList_some, Option.toList_none, List.cons_append, List.nil_append, zb_0, e21, e20, e10, l10, h21, h20, h10, em h10, ne_eq, not_false_eq_true, not_true_eq_false, if_true, if_false, show ¬ s < 10 by omega, zIn_6 (show s - 10 < 6 by omega), zc_n (show s - 10 ≤ 1000 by omega), G_11h (show s - 10 < 6 by omega), G_11r (show s - 10 < 6 by omega), G_pl_o (show s - 10 < 6 by omega)]
      · simp only [nX0_minutesOf, eX0_minutesOf_0, eX0_minutesOf_1, eX0_minutesOf_3, eX0_minutesOf_6, eX0_minutesOf_8, eX0_minutesOf_9, eX0_minutesOf_10, eX0_minutesOf_12, eX0_minutesOf_20, eX0_minutesOf_21, eX0_minutesOf_24, eX0_minutesOf_25, eX0_minutesOf_28, eX0_minutesOf_29, eX0_minutesOf_32, eX0_minutesOf_33, eX0_minutesOf_34, eX0_minutesOf_37, eX0_minutesOf_40, eX0_minutesOf_41, eX0_minutesOf_42, eX0_minutesOf_43, eX0_minutesOf_46, eX0_minutesOf_47, G_o10, G_h10_0, G_r10_0, G_q11, G_l11, qX0_placeOf, qX0_isSlow, Option.bind_some, Option.toList_some, Option.toList_none, List.cons_append, List.nil_append, zb_0, e21, e20, e10, l10, h21, h20, h10, ne_eq, not_false_eq_true, if_true, if_false, show s < 10 by omega, zIn_6 (show s < 6 by omega), zc_n (show s ≤ 1000 by omega), G_11h (show s < 6 by omega), G_11r (show s < 6 by omega), G_pl_o (show s < 6 by omega)]
end S
