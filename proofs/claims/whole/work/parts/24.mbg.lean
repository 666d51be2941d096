section S
variable {L : Nat} {xs : Nat → Int32} {d : Nat} {J : Nat → Nat → Int64}
set_option maxHeartbeats 1000000 in
theorem lp_mb1 {N : Nat} (h1 : N ≤ 6) : ∀ (r k : Nat) (K : Nat → Nat → Int32), k + r = N → K 55 6 = nI N → zX zCd (zGG L xs) d 108 12 [.ref 55, .int (nI k)] [] (K, J) = zX zCd (zGG L xs) d 108 45 [.ref 55, .int (nI N)] [] (zUr (zUr K 65 (fun j => if k ≤ j ∧ j < N then K 60 j else K 65 j)) 67 (fun j => if k ≤ j ∧ j < N then 0 else K 67 j), J) := by
  intro r
  induction r with
  | zero =>
    intro k K h hN
    obtain rfl : k = N := by omega
    rw [eX9_begin_12]
    simp only [eX9_begin_13, eX9_begin_14, eX9_begin_17, G_o55, hN, Int32.le_refl, if_true]
    congr 2
    funext c j
    simp only [zUr_app]
    by_cases e : c = 67
    · subst e; simp; intro a b; omega
    · by_cases e2 : c = 65
      · subst e2; simp; intro a b; omega
      · simp [e, e2]
  | succ r ih =>
    intro k K h hN
    rw [eX9_begin_12]
    have c1 : (nI N ≤ nI k) = False := by rw [zle (show N ≤ 1000000 by omega) (show k ≤ 1000000 by omega)]; exact eq_false (by omega)
    simp only [eX9_begin_13, eX9_begin_14, eX9_begin_17, eX9_begin_20, eX9_begin_21, eX9_begin_24, eX9_begin_25, eX9_begin_26, eX9_begin_29, eX9_begin_30, eX9_begin_31, eX9_begin_32, eX9_begin_33, eX9_begin_36, eX9_begin_37, eX9_begin_38, eX9_begin_39, eX9_begin_42, G_o55, hN, c1, if_false, G_h55_18, G_r55_18, G_a65, G_l65, G_h55_8, G_r55_8, G_a60, G_l60, G_h55_20, G_r55_20, G_a67, G_l67, zIn_6 (show k < 6 by omega), zc_n (show k ≤ 1000 by omega), nI_1]
    rw [ih (k + 1) _ (by omega) (by rw [zU_ne _ _ _ (by decide), zU_ne _ _ _ (by decide)]; exact hN)]
    congr 2
    funext c j
    simp only [zUr_app, zU_app]
    by_cases e : c = 67
    · subst e
      by_cases ej : j = k
      · subst ej; simp; intro a; omega
      · simp [ej]
        by_cases a : k ≤ j ∧ j < N
        · rw [if_pos a, if_pos (by omega)]
        · rw [if_neg a, if_neg (by omega)]
    · by_cases e2 : c = 65
      · subst e2
        by_cases ej : j = k
        · subst ej
          rw [if_pos rfl, if_neg (show ¬ (j + 1 ≤ j ∧ j < N) by omega), if_pos (show j ≤ j ∧ j < N by omega)]
          simp
          intro a
          omega
        · simp [ej]
          by_cases a : k ≤ j ∧ j < N
          · rw [if_pos a, if_pos (by omega)]
          · rw [if_neg a, if_neg (by omega)]
      · simp [e, e2]
set_option maxHeartbeats 1000000 in
theorem lp_mb2 {N : Nat} (h1 : N ≤ 6) : ∀ (r k : Nat) (K : Nat → Nat → Int32), k + r = N - 1 → K 55 6 = nI N → zX zCd (zGG L xs) d 108 47 [.ref 55, .int (nI k)] [] (K, J) = some (none, (zUr K 66 (fun j => if k ≤ j ∧ j < N - 1 then 5 else K 66 j), J)) := by
  intro r
  induction r with
  | zero =>
    intro k K h hN
    obtain rfl : k = N - 1 := by omega
    rw [eX9_begin_47]
    simp only [eX9_begin_48, eX9_begin_49, eX9_begin_52, eX9_begin_68, Option.bind_some, Option.toList_some, Option.toList_none, List.cons_append, List.nil_append, G_o55, qmj hN h1, Int32.le_refl, if_true]
    congr 3
    funext c j
    simp only [zUr_app]
    by_cases e : c = 66
    · subst e; simp; intro a b; omega
    · simp [e]
  | succ r ih =>
    intro k K h hN
    rw [eX9_begin_47]
    have c1 : (nI (N - 1) ≤ nI k) = False := by rw [zle (show N - 1 ≤ 1000000 by omega) (show k ≤ 1000000 by omega)]; exact eq_false (by omega)
    simp only [eX9_begin_48, eX9_begin_49, eX9_begin_52, eX9_begin_55, eX9_begin_56, eX9_begin_59, eX9_begin_60, eX9_begin_61, eX9_begin_62, eX9_begin_65, Option.bind_some, Option.toList_some, Option.toList_none, List.cons_append, List.nil_append, G_o55, qmj hN h1, c1, if_false, G_h55_19, G_r55_19, G_a66, G_l66, zIn_5 (show k < 5 by omega), zc_n (show k ≤ 1000 by omega), nI_1]
    rw [ih (k + 1) _ (by omega) (by rw [zU_ne _ _ _ (by decide)]; exact hN)]
    congr 3
    funext c j
    simp only [zUr_app, zU_app]
    by_cases e : c = 66
    · subst e
      by_cases ej : j = k
      · subst ej; simp; intro a; omega
      · simp [ej]
        by_cases a : k ≤ j ∧ j < N - 1
        · rw [if_pos a, if_pos (by omega)]
        · rw [if_neg a, if_neg (by omega)]
    · simp [e]
def mBg (N : Nat) (I : Nat → Nat → Int32) : zPs := (fun k => if k < N then I 60 k else I 65 k, fun k => if k < N - 1 then 5 else I 66 k, fun k => if k < N then 0 else I 67 k, 0, 0)
set_option maxHeartbeats 1000000 in
theorem qX9_begin {N : Nat} {I : Nat → Nat → Int32} (hN : I 55 6 = nI N) (h1 : N ≤ 6) : zE zCd (zGG L xs) d 108 [.ref 55] (I, J) = some (none, (zsM I (mBg N I) (I 55 21), J)) := by
  simp only [nX9_begin, eX9_begin_0, eX9_begin_1, eX9_begin_2, eX9_begin_5, eX9_begin_6, eX9_begin_7, eX9_begin_10, eX9_begin_11, G_o55]
  refine Eq.trans (lp_mb1 (L := L) (xs := xs) (d := d) (J := J) h1 N 0 _ (by omega) (by simp [zU, hN])) ?_
  simp only [eX9_begin_45, eX9_begin_46]
  refine Eq.trans (lp_mb2 (L := L) (xs := xs) (d := d) (J := J) h1 (N - 1) 0 _ (by omega) (by rw [zUr_ne _ _ (by decide), zUr_ne _ _ (by decide)]; simp [zU, hN])) ?_
  congr 3
  refine zextM (fun k => ?_) (fun k => ?_) (fun k => ?_) (fun k => ?_) (fun c k a1 a2 a3 a4 => ?_)
  · rw [zsM_65, zUr_ne _ _ (by decide), zUr_ne _ _ (by decide), zUr_self]
    simp [mBg, zU]
  · rw [zsM_66, zUr_self]
    simp only [mBg, zUr_ne _ _ (show 66 ≠ 67 by decide), zUr_ne _ _ (show 66 ≠ 65 by decide), zU_ne _ _ _ (show 66 ≠ 55 by decide), Nat.zero_le, true_and]
  · rw [zsM_67, zUr_ne _ _ (by decide), zUr_self]
    simp [mBg, zU]
  · rw [zUr_ne _ _ (by decide), zUr_ne _ _ (by decide), zUr_ne _ _ (by decide)]
    by_cases b1 : k = 16
    · subst b1; rw [zsM_16]; simp [zU, mBg]
    · by_cases b2 : k = 17
      · subst b2; rw [zsM_17]; simp [zU, mBg]
      · by_cases b3 : k = 21
        · subst b3; rw [zsM_21]; simp [zU]
        · rw [zsM_55 _ _ _ b1 b2 b3]; simp [zU, b1, b2]
  · rw [zsM_ne _ _ _ a1 a2 a3 a4, zUr_ne _ _ a2, zUr_ne _ _ a3, zUr_ne _ _ a1, zU_ne _ _ _ a4, zU_ne _ _ _ a4]
set_option maxHeartbeats 1000000 in
theorem lp_mr1 {N : Nat} {I : Nat → Nat → Int32} (hN : I 55 6 = nI N) (h1 : N ≤ 6) : ∀ (r k : Nat) (x : Int64), k + r = N → zX zCd (zGG L xs) d 120 4 [.ref 55, .long x, .null, .int (nI k)] [] (I, J) = zX zCd (zGG L xs) d 120 28 [.ref 55, .long (zPrx x (fun k => (I 65 k).toInt64) k r), .null, .int (nI N)] [] (I, J) := by
  intro r
  induction r with
  | zero =>
    intro k x h
    obtain rfl : k = N := by omega
    rw [eX9_rightNow_4]
    simp only [eX9_rightNow_5, eX9_rightNow_6, eX9_rightNow_9, G_o55, hN, Int32.le_refl, if_true, zPrx]
  | succ r ih =>
    intro k x h
    rw [eX9_rightNow_4]
    simp only [eX9_rightNow_5, eX9_rightNow_6, eX9_rightNow_9, eX9_rightNow_12, eX9_rightNow_13, eX9_rightNow_14, eX9_rightNow_17, eX9_rightNow_18, eX9_rightNow_19, eX9_rightNow_20, eX9_rightNow_21, eX9_rightNow_22, eX9_rightNow_25, G_o55, hN, G_h55_18, G_r55_18, G_a65, G_l65, zle (show N ≤ 1000000 by omega) (show k ≤ 1000000 by omega), if_neg (show ¬ N ≤ k by omega), zIn_6 (show k < 6 by omega), zc_n (show k ≤ 1000 by omega), nI_1]
    rw [ih (k + 1) _ (by omega)]
    rfl
set_option maxHeartbeats 1000000 in
theorem lp_mr2 {N : Nat} {I : Nat → Nat → Int32} (hN : I 55 6 = nI N) (h1 : N ≤ 6) : ∀ (r k : Nat) (x : Int64), k + r = N - 1 → zX zCd (zGG L xs) d 120 30 [.ref 55, .long x, .null, .int (nI k)] [] (I, J) = some (some (.long (zPrx x (fun k => (I 66 k).toInt64) k r)), (I, J)) := by
  intro r
  induction r with
  | zero =>
    intro k x h
    obtain rfl : k = N - 1 := by omega
    rw [eX9_rightNow_30]
    simp only [eX9_rightNow_31, eX9_rightNow_32, eX9_rightNow_35, eX9_rightNow_38, eX9_rightNow_39, eX9_rightNow_40, eX9_rightNow_43, eX9_rightNow_44, eX9_rightNow_45, eX9_rightNow_46, eX9_rightNow_47, eX9_rightNow_48, eX9_rightNow_51, eX9_rightNow_54, eX9_rightNow_55, Option.bind_some, Option.toList_some, Option.toList_none, List.cons_append, List.nil_append, G_o55, qmj hN h1, Int32.le_refl, if_true, zPrx]
  | succ r ih =>
    intro k x h
    rw [eX9_rightNow_30]
    simp only [eX9_rightNow_31, eX9_rightNow_32, eX9_rightNow_35, eX9_rightNow_38, eX9_rightNow_39, eX9_rightNow_40, eX9_rightNow_43, eX9_rightNow_44, eX9_rightNow_45, eX9_rightNow_46, eX9_rightNow_47, eX9_rightNow_48, eX9_rightNow_51, Option.bind_some, Option.toList_some, Option.toList_none, List.cons_append, List.nil_append, G_o55, qmj hN h1, G_h55_19, G_r55_19, G_a66, G_l66, zle (show N - 1 ≤ 1000000 by omega) (show k ≤ 1000000 by omega), if_neg (show ¬ N - 1 ≤ k by omega), zIn_5 (show k < 5 by omega), zc_n (show k ≤ 1000 by omega), nI_1]
    rw [ih (k + 1) _ (by omega)]
    rfl
set_option maxHeartbeats 1000000 in
theorem qX9_rightNow {N : Nat} {I : Nat → Nat → Int32} (hN : I 55 6 = nI N) (h1 : N ≤ 6) : zE zCd (zGG L xs) d 120 [.ref 55] (I, J) = some (some (.long (pRt N (zgM I))), (I, J)) := by
  simp only [nX9_rightNow, eX9_rightNow_0, eX9_rightNow_1, eX9_rightNow_2, eX9_rightNow_3]
  refine Eq.trans (lp_mr1 (L := L) (xs := xs) (d := d) (J := J) hN h1 N 0 1 (by omega)) ?_
  simp only [eX9_rightNow_28, eX9_rightNow_29]
  refine Eq.trans (lp_mr2 (L := L) (xs := xs) (d := d) (J := J) hN h1 (N - 1) 0 _ (by omega)) ?_
  rw [zPrx_0]
  rfl
set_option maxHeartbeats 1000000 in
theorem lp_mpt {N : Nat} {I : Nat → Nat → Int32} (hN : I 55 6 = nI N) (h1 : N ≤ 6) : ∀ (r k : Nat) (x : Int64), k + r = N + (N - 1) → zX zCd (zGG L xs) d 121 4 [.ref 55, .long x, .null, .int (nI k)] [] (I, J) = some (some (.long (zPrx x (fun _ => (10 : Int64)) k r)), (I, J)) := by
  intro r
  induction r with
  | zero =>
    intro k x h
    obtain rfl : k = N + (N - 1) := by omega
    rw [eX9_parts_4]
    simp only [eX9_parts_5, eX9_parts_6, eX9_parts_9, eX9_parts_10, eX9_parts_13, eX9_parts_14, eX9_parts_17, eX9_parts_18, eX9_parts_21, eX9_parts_22, eX9_parts_23, eX9_parts_26, eX9_parts_29, eX9_parts_30, Option.bind_some, Option.toList_some, Option.toList_none, List.cons_append, List.nil_append, G_o55, qmj hN h1, hN, nI_add, Int32.le_refl, if_true, zPrx]
  | succ r ih =>
    intro k x h
    rw [eX9_parts_4]
    simp only [eX9_parts_5, eX9_parts_6, eX9_parts_9, eX9_parts_10, eX9_parts_13, eX9_parts_14, eX9_parts_17, eX9_parts_18, eX9_parts_21, eX9_parts_22, eX9_parts_23, eX9_parts_26, Option.bind_some, Option.toList_some, Option.toList_none, List.cons_append, List.nil_append, G_o55, qmj hN h1, hN, nI_add, zle (show N + (N - 1) ≤ 1000000 by omega) (show k ≤ 1000000 by omega), if_neg (show ¬ N + (N - 1) ≤ k by omega), nI_1]
    rw [ih (k + 1) _ (by omega)]
    rfl
set_option maxHeartbeats 1000000 in
theorem qX9_parts {N : Nat} {I : Nat → Nat → Int32} (hN : I 55 6 = nI N) (h1 : N ≤ 6) : zE zCd (zGG L xs) d 121 [.ref 55] (I, J) = some (some (.long (zPrd (fun _ => (10 : Int64)) (N + (N - 1)))), (I, J)) := by
  simp only [nX9_parts, eX9_parts_0, eX9_parts_1, eX9_parts_2, eX9_parts_3]
  refine Eq.trans (lp_mpt (L := L) (xs := xs) (d := d) (J := J) hN h1 (N + (N - 1)) 0 1 (by omega)) ?_
  rw [zPrx_0]
set_option maxHeartbeats 1000000 in
theorem lp_mso {C : Nat} {I : Nat → Nat → Int32} (hC : I 55 28 = nI C) (h1 : C ≤ 8) (ha : ∀ k, k < C → zIv (I 69 k) 6) : ∀ (r k : Nat), k + r = C → zX zCd (zGG L xs) d 139 2 [.ref 55, .int (nI k)] [] (I, J) = some (some (.int (if pSo (I 65) (I 69) (I 70) k r = true then 1 else 0)), (I, J)) := by
  intro r
  induction r with
  | zero =>
    intro k h
    obtain rfl : k = C := by omega
    rw [eX9_areSo_2]
    simp only [eX9_areSo_3, eX9_areSo_4, eX9_areSo_7, eX9_areSo_10, eX9_areSo_11, eX9_areSo_14, eX9_areSo_15, eX9_areSo_18, eX9_areSo_19, eX9_areSo_20, eX9_areSo_21, eX9_areSo_22, eX9_areSo_25, eX9_areSo_26, eX9_areSo_27, eX9_areSo_30, eX9_areSo_31, eX9_areSo_32, eX9_areSo_35, eX9_areSo_38, eX9_areSo_39, G_o55, hC, Int32.le_refl, if_true, pSo, zT_1]
  | succ r ih =>
    intro k h
    rw [eX9_areSo_2]
    simp only [eX9_areSo_3, eX9_areSo_4, eX9_areSo_7, eX9_areSo_10, eX9_areSo_11, eX9_areSo_14, eX9_areSo_15, eX9_areSo_18, eX9_areSo_19, eX9_areSo_20, eX9_areSo_21, eX9_areSo_22, eX9_areSo_25, eX9_areSo_26, eX9_areSo_27, eX9_areSo_30, eX9_areSo_31, eX9_areSo_32, eX9_areSo_35, G_o55, G_h55_18, G_r55_18, G_a65, G_l65, G_h55_29, G_r55_29, G_a69, G_l69, G_h55_30, G_r55_30, G_a70, G_l70, hC, zle (show C ≤ 1000000 by omega) (show k ≤ 1000000 by omega), if_neg (show ¬ C ≤ k by omega), zIn_8 (show k < 8 by omega), zc_n (show k ≤ 1000 by omega), ha k (by omega), nI_1, zT_0]
    rw [ih (k + 1) (by omega)]
    simp only [pSo]
    split <;> rfl
set_option maxHeartbeats 1000000 in
theorem qX9_areSo {C : Nat} {I : Nat → Nat → Int32} (hC : I 55 28 = nI C) (h1 : C ≤ 8) (ha : ∀ k, k < C → zIv (I 69 k) 6) : zE zCd (zGG L xs) d 139 [.ref 55] (I, J) = some (some (.int (if pSo (I 65) (I 69) (I 70) 0 C = true then 1 else 0)), (I, J)) := by
  simp only [nX9_areSo, eX9_areSo_0, eX9_areSo_1]
  exact lp_mso hC h1 ha C 0 (by omega)
end S
