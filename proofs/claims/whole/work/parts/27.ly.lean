section S
variable {L : Nat} {xs : Nat → Int32} {d : Nat} {J : Nat → Nat → Int64}
set_option maxHeartbeats 1000000 in
theorem lp_ly1 {N k a n : Nat} {v ag : Int32} {K : Nat → Nat → Int32} (h1 : N ≤ 6) (h0 : 0 < N) (hk : k < 4) (hn : n ≤ 20) (han : a + n ≤ 60) (hN : K 55 6 = nI N) : ∀ (r s : Nat), s + r = n →
    ((∀ j, s ≤ j → j < n → pStp N (K 58 (60 * k + a + j))) → zX zCd (zGG L xs) d 116 44 [.ref 55, .int (nI k), .int v, .int (nI a), .int (nI n), .int ag, .int (nI (60 * k + a)), .int (nI s)] [] (K, J) = zX zCd (zGG L xs) d 116 76 [.ref 55, .int (nI k), .int v, .int (nI a), .int (nI n), .int ag, .int (nI (60 * k + a)), .int (nI n)] [] (K, J)) ∧
    ((∃ j, s ≤ j ∧ j < n ∧ ¬ pStp N (K 58 (60 * k + a + j))) → zX zCd (zGG L xs) d 116 44 [.ref 55, .int (nI k), .int v, .int (nI a), .int (nI n), .int ag, .int (nI (60 * k + a)), .int (nI s)] [] (K, J) = some (some (.int (-1)), (K, J))) := by
  intro r
  induction r with
  | zero =>
    intro s h
    obtain rfl : s = n := by omega
    refine ⟨fun _ => ?_, fun ⟨j, a1, a2, _⟩ => absurd a1 (by omega)⟩
    rw [eX9_layPlan_44]
    simp only [eX9_layPlan_46, eX9_layPlan_48, Int32.le_refl, if_true]
  | succ r ih =>
    intro s h
    obtain ⟨i1, i2⟩ := ih (s + 1) (by omega)
    have c1 : (nI n ≤ nI s) = False := by rw [zle (show n ≤ 1000000 by omega) (show s ≤ 1000000 by omega)]; exact eq_false (by omega)
    have hs := qis (L := L) (xs := xs) (d := d) (J := J) (I := K) (x := K 58 (60 * k + a + s)) hN h1 h0
    by_cases hp : pStp N (K 58 (60 * k + a + s))
    · rw [zb_t hp] at hs
      have step : zX zCd (zGG L xs) d 116 44 [.ref 55, .int (nI k), .int v, .int (nI a), .int (nI n), .int ag, .int (nI (60 * k + a)), .int (nI s)] [] (K, J) = zX zCd (zGG L xs) d 116 44 [.ref 55, .int (nI k), .int v, .int (nI a), .int (nI n), .int ag, .int (nI (60 * k + a)), .int (nI (s + 1))] [] (K, J) := by
        rw [eX9_layPlan_44]
        simp only [eX9_layPlan_46, eX9_layPlan_48, eX9_layPlan_51, eX9_layPlan_52, eX9_layPlan_53, eX9_layPlan_56, eX9_layPlan_58, eX9_layPlan_60, eX9_layPlan_61, eX9_layPlan_62, eX9_layPlan_65, eX9_layPlan_68, eX9_layPlan_69, eX9_layPlan_70, eX9_layPlan_73, Option.bind_some, Option.toList_some, Option.toList_none, List.cons_append, List.nil_append, c1, if_false, G_o55, G_h55_4, G_r55_4, G_a58, G_l58, nI_add, zIn_240 (show 60 * k + a + s < 240 by omega), zc_n (show 60 * k + a + s ≤ 1000 by omega), hs, show ((1 : Int32) ≠ 0) = True from by decide, if_true, nI_1]
      refine ⟨fun hall => by rw [step, i1 (fun j x y => hall j (by omega) y)], fun ⟨j, a1, a2, a3⟩ => ?_⟩
      have hjs : j ≠ s := fun e => a3 (by rw [e]; exact hp)
      rw [step, i2 ⟨j, by omega, a2, a3⟩]
    · rw [zb_f hp] at hs
      refine ⟨fun hall => absurd (hall s (by omega) (by omega)) hp, fun _ => ?_⟩
      rw [eX9_layPlan_44]
      simp only [eX9_layPlan_46, eX9_layPlan_48, eX9_layPlan_51, eX9_layPlan_52, eX9_layPlan_53, eX9_layPlan_56, eX9_layPlan_58, eX9_layPlan_60, eX9_layPlan_61, eX9_layPlan_62, eX9_layPlan_65, eX9_layPlan_68, eX9_layPlan_69, Option.bind_some, Option.toList_some, Option.toList_none, List.cons_append, List.nil_append, c1, if_false, G_o55, G_h55_4, G_r55_4, G_a58, G_l58, nI_add, zIn_240 (show 60 * k + a + s < 240 by omega), zc_n (show 60 * k + a + s ≤ 1000 by omega), hs, show ((0 : Int32) ≠ 0) = False from by decide]
set_option maxHeartbeats 1000000 in
theorem lp_ly2 {k a n : Nat} {v ag : Int32} {C : Nat → Int32} (hk : k < 4) (hn : n ≤ 20) (han : a + n ≤ 60) : ∀ (r s : Nat) (K : Nat → Nat → Int32), s + r = n → K 58 = C →
    zX zCd (zGG L xs) d 116 79 [.ref 55, .int (nI k), .int v, .int (nI a), .int (nI n), .int ag, .int (nI (60 * k + a)), .int (nI s)] [] (K, J) = some (some (.int 0), (zU (zUr K 68 (fun j => if s ≤ j ∧ j < n then C (60 * k + a + j) else K 68 j)) 55 23 (nI n), J)) := by
  intro r
  induction r with
  | zero =>
    intro s K h hC
    obtain rfl : s = n := by omega
    rw [eX9_layPlan_79]
    simp only [eX9_layPlan_81, eX9_layPlan_83, eX9_layPlan_109, eX9_layPlan_110, eX9_layPlan_112, eX9_layPlan_115, eX9_layPlan_116, G_o55, Int32.le_refl, if_true]
    congr 4
    funext c j
    simp only [zUr_app]
    by_cases e : c = 68
    · subst e; simp; intro x y; omega
    · simp [e]
  | succ r ih =>
    intro s K h hC
    have c1 : (nI n ≤ nI s) = False := by rw [zle (show n ≤ 1000000 by omega) (show s ≤ 1000000 by omega)]; exact eq_false (by omega)
    rw [eX9_layPlan_79]
    simp only [eX9_layPlan_81, eX9_layPlan_83, eX9_layPlan_86, eX9_layPlan_87, eX9_layPlan_90, eX9_layPlan_92, eX9_layPlan_93, eX9_layPlan_96, eX9_layPlan_98, eX9_layPlan_100, eX9_layPlan_101, eX9_layPlan_102, eX9_layPlan_103, eX9_layPlan_106, c1, if_false, G_o55, G_h55_4, G_r55_4, G_a58, G_l58, G_h55_24, G_r55_24, G_a68, G_l68, nI_add, zIn_240 (show 60 * k + a + s < 240 by omega), zc_n (show 60 * k + a + s ≤ 1000 by omega), zIn_20 (show s < 20 by omega), zc_n (show s ≤ 1000 by omega), nI_1]
    rw [ih (s + 1) _ (by omega) (by rw [zU_ne _ _ _ (by decide)]; exact hC)]
    congr 4
    funext c j
    simp only [zUr_app, zU_app, hC]
    by_cases e : c = 68
    · subst e
      by_cases ej : j = s
      · subst ej; simp; omega
      · simp [ej]
        by_cases b : s ≤ j ∧ j < n
        · rw [if_pos b, if_pos (by omega)]
        · rw [if_neg b, if_neg (by omega)]
    · simp [e]
set_option maxHeartbeats 1000000 in
theorem qX9_against {k : Nat} {v i n : Int32} {I : Nat → Nat → Int32} (hk : k < 4) : zE zCd (zGG L xs) d 96 [.ref 55, .int (nI k), .int v, .int i, .int n] (I, J) = some (some (.int (if I 56 k ≠ -9 ∧ I 56 k ≠ v then 2 else if I 56 k = -9 then 1 else if n < 0 then 4 else if i < 0 ∨ I 57 k < i ∨ I 57 k - i < n then 3 else 0)), (I, J)) := by
  simp only [nX9_against, eX9_against_0, eX9_against_1, eX9_against_4, eX9_against_5, eX9_against_6, eX9_against_8, eX9_against_11, eX9_against_12, eX9_against_15, eX9_against_16, eX9_against_17, eX9_against_18, eX9_against_21, eX9_against_22, eX9_against_23, eX9_against_24, eX9_against_27, eX9_against_28, eX9_against_29, eX9_against_31, eX9_against_34, eX9_against_35, eX9_against_36, eX9_against_38, eX9_against_41, eX9_against_42, eX9_against_43, eX9_against_44, eX9_against_47, eX9_against_48, eX9_against_49, eX9_against_52, eX9_against_53, eX9_against_54, eX9_against_57, eX9_against_59, eX9_against_60, eX9_against_63, eX9_against_64, eX9_against_65, eX9_against_66, eX9_against_67, eX9_against_70, eX9_against_71, eX9_against_74, eX9_against_75, G_o55, G_h55_2, G_r55_2, G_a56, G_l56, G_h55_3, G_r55_3, G_a57, G_l57, zIn_4 hk, zc_n (show k ≤ 1000 by omega)]
  generalize I 56 k = a
  generalize I 57 k = b
  (repeat' split) <;> first | rfl | (exfalso; grind) | grind
end S
