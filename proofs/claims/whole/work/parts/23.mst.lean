section S
variable {L : Nat} {xs : Nat → Int32} {d : Nat} {J : Nat → Nat → Int64}
set_option maxHeartbeats 1000000 in
theorem lp_mst {N : Nat} {s : Int32} (h1 : N ≤ 6) : ∀ (r k : Nat) (K : Nat → Nat → Int32), k + r = N - 1 → K 55 6 = nI N → zX zCd (zGG L xs) d 114 74 [.ref 55, .int s, .int 0, .int (nI k)] [] (K, J) = some (some (.int 1), (zUr K 66 (fun j => if k ≤ j ∧ j < N - 1 then pCut (K 66 j + 2) else K 66 j), J)) := by
  intro r
  induction r with
  | zero =>
    intro k K h hN
    obtain rfl : k = N - 1 := by omega
    rw [eX9_step_74]
    simp only [eX9_step_75, eX9_step_76, eX9_step_79, eX9_step_109, eX9_step_132, eX9_step_133, Option.bind_some, Option.toList_some, Option.toList_none, List.cons_append, List.nil_append, G_o55, qmj hN h1, Int32.le_refl, if_true, zT_1]
    congr 3
    funext c j
    simp only [zUr_app]
    by_cases e : c = 66
    · subst e; simp; intro a b; omega
    · simp [e]
  | succ r ih =>
    intro k K h hN
    rw [eX9_step_74]
    have c1 : (nI (N - 1) ≤ nI k) = False := by rw [zle (show N - 1 ≤ 1000000 by omega) (show k ≤ 1000000 by omega)]; exact eq_false (by omega)
    have e2 : ∀ v : Int32, (if v < 0 then 0 else if 10 < v then 10 else v) = pCut v := fun v => rfl
    simp only [eX9_step_75, eX9_step_76, eX9_step_79, eX9_step_82, eX9_step_83, eX9_step_86, eX9_step_87, eX9_step_90, eX9_step_91, eX9_step_92, eX9_step_95, eX9_step_96, eX9_step_97, eX9_step_98, eX9_step_99, eX9_step_102, eX9_step_103, eX9_step_106, Option.bind_some, Option.toList_some, Option.toList_none, List.cons_append, List.nil_append, G_o55, qmj hN h1, c1, if_false, show ((0 : Int32) ≠ 0) = False from by decide, G_h55_19, G_r55_19, G_a66, G_l66, zIn_5 (show k < 5 by omega), zc_n (show k ≤ 1000 by omega), qX9_cut, e2, nI_1]
    rw [ih (k + 1) _ (by omega) (by rw [zU_ne _ _ _ (by decide)]; exact hN)]
    congr 3
    funext c j
    simp only [zUr_app, zU_app]
    by_cases e : c = 66
    · subst e
      by_cases ej : j = k
      · subst ej
        simp [show j < N - 1 by omega]
        intro a
        omega
      · simp only [if_true, true_and, ej, if_false]
        by_cases a : k ≤ j ∧ j < N - 1
        · rw [if_pos a, if_pos (by omega)]
        · rw [if_neg a, if_neg (by omega)]
    · simp [e]
set_option maxHeartbeats 1000000 in
theorem qX9_stepN {N s : Nat} {I : Nat → Nat → Int32} (hN : I 55 6 = nI N) (h1 : N ≤ 6) (hs : pOk N s) (hf : I 55 22 = 0) (hc : ¬ pCan N (I 55 5) (mF I) s (zgM I)) : zE zCd (zGG L xs) d 114 [.ref 55, .int (nI s)] (I, J) = some (some (.int 0), (I, J)) := by
  have hm := qX9_mayStep (L := L) (xs := xs) (d := d) (J := J) hN h1 hs hf
  rw [zb_f hc] at hm
  simp only [nX9_step, eX9_step_0, eX9_step_1, eX9_step_2, eX9_step_5, eX9_step_8, eX9_step_9, Option.bind_some, Option.toList_some, Option.toList_none, List.cons_append, List.nil_append, G_o55, hm, show ((0 : Int32) ≠ 0) = False from by decide, if_false, zT_0]
set_option maxHeartbeats 1000000 in
theorem qX9_stepY {N s : Nat} {I : Nat → Nat → Int32} (hN : I 55 6 = nI N) (h1 : N ≤ 6) (hs : pOk N s) (hm : zE zCd (zGG L xs) d 111 [.ref 55, .int (nI s)] (I, J) = some (some (.int 1), (I, J))) : zE zCd (zGG L xs) d 114 [.ref 55, .int (nI s)] (I, J) = some (some (.int 1), (zsM I (mStp N (mF I) s (zgM I)) (zb (mWr (mF I) s (zgM I)) (mWr_dec _ _ _)), J)) := by
  have hs2 : s ≤ 1000 := by unfold pOk at hs; omega
  have e21 : (nI s ≠ 21) = (s ≠ 21) := by have := @zeq s 21 (by omega) (by omega); exact congrArg Not this
  have e20 : (nI s ≠ 20) = (s ≠ 20) := by have := @zeq s 20 (by omega) (by omega); exact congrArg Not this
  have e10 : ((10 : Int32) ≤ nI s) = (10 ≤ s) := @zle 10 s (by omega) (by omega)
  have f1 : mF (zU I 55 21 0) = mF I := by
    funext k j
    simp only [mF]
    split
    · rw [zU_ne _ _ _ (by omega)]
    · rfl
  have tk := qmt (L := L) (xs := xs) (d := d) (J := J) (I := zU I 55 21 0) (N := N) (s := s) (by simp [zU, hN]) h1 hs
  rw [f1] at tk
  have u16 : zU I 55 21 0 55 16 = I 55 16 := by simp [zU]
  generalize hK : zU (zU I 55 21 0) 55 16 (I 55 16 + pTk N (mF I) s) = K
  have k6 : K 55 6 = nI N := by rw [← hK]; simp [zU, hN]
  have k16 : K 55 16 = I 55 16 + pTk N (mF I) s := by rw [← hK]; simp [zU]
  have kne : ∀ c, c ≠ 55 → K c = I c := fun c h => by rw [← hK, zU_ne _ _ _ h, zU_ne _ _ _ h]
  have k55 : ∀ k, k ≠ 21 → k ≠ 16 → K 55 k = I 55 k := fun k a b => by rw [← hK]; simp [zU, a, b]
  have k21 : K 55 21 = 0 := by rw [← hK]; simp [zU]
  have fin : ∀ (b : Bool), pTd (zgM I) = b → (s < 20 → zE zCd (zGG L xs) d 113 [.ref 55, .int (nI (pJ s)), .int (mTm s), .int (if b = true then 1 else 0)] (K, J) = some (none, (zsM I (mStp N (mF I) s (zgM I)) (zb (mWr (mF I) s (zgM I)) (mWr_dec _ _ _)), J))) := by
    intro b hb h20
    have hj := pJ_lt hs h20
    rw [qX9_play (show pJ s < 6 by omega)]
    have g0 : mF I (pJ s) 0 = I 59 (pJ s) := by simp only [mF, if_pos (show pJ s < 6 ∧ 0 < 5 by omega)]
    have g3 : mF I (pJ s) 3 = I 62 (pJ s) := by simp only [mF, if_pos (show pJ s < 6 ∧ 3 < 5 by omega)]
    have w : mWr (mF I) s (zgM I) ↔ mNew (I 62 (pJ s)) (I 67 (pJ s)) (I 65 (pJ s)) (I 59 (pJ s)) (mTm s) b < I 65 (pJ s) := by
      unfold mWr
      rw [hb]
      simp only [mS, zgM, g0, g3, h20, true_and, if_true]
    rw [kne 62 (by decide), kne 67 (by decide), kne 65 (by decide), kne 59 (by decide), kne 66 (by decide), k16, k55 17 (by decide) (by decide), ← zb_iff (dp := mWr_dec _ _ _) w]
    generalize zb (mWr (mF I) s (zgM I)) (mWr_dec _ _ _) = z
    have e3 : mStp N (mF I) s (zgM I) = (fun k => if k = pJ s then mNew (I 62 (pJ s)) (I 67 (pJ s)) (I 65 (pJ s)) (I 59 (pJ s)) (mTm s) b else I 65 k, I 66, fun k => if k = pJ s then I 67 k + 1 else I 67 k, I 55 16 + pTk N (mF I) s, I 55 17) := by
      unfold mStp
      rw [hb, if_pos h20, if_pos h20, if_neg (show ¬ s = 20 by omega), if_neg (show ¬ s = 21 by omega)]
      simp only [zgM, cT]
      have : mS (mF I) s b (I 65) (I 67) = fun k => if k = pJ s then mNew (I 62 (pJ s)) (I 67 (pJ s)) (I 65 (pJ s)) (I 59 (pJ s)) (mTm s) b else I 65 k := by
        funext k
        simp only [mS, g0, g3]
      rw [this]
      rfl
    rw [e3]
    congr 3
    refine zextM (fun k => by rw [zsM_65, zsM_65]) (fun k => by rw [zsM_66, zsM_66]) (fun k => by rw [zsM_67, zsM_67]) (fun k => ?_) (fun c k a1 a2 a3 a4 => by rw [zsM_ne _ _ _ a1 a2 a3 a4, zsM_ne _ _ _ a1 a2 a3 a4, kne c a4])
    by_cases b1 : k = 16
    · subst b1; rw [zsM_16, zsM_16]
    · by_cases b2 : k = 17
      · subst b2; rw [zsM_17, zsM_17]
      · by_cases b3 : k = 21
        · subst b3; rw [zsM_21, zsM_21]
        · rw [zsM_55 _ _ _ b1 b2 b3, zsM_55 _ _ _ b1 b2 b3, k55 k b3 b1]
  by_cases h21 : s = 21
  · subst h21
    have w : ¬ mWr (mF I) 21 (zgM I) := by simp [mWr]
    rw [zb_f w]
    simp only [nX9_step, eX9_step_0, eX9_step_1, eX9_step_2, eX9_step_5, eX9_step_8, eX9_step_9, eX9_step_10, eX9_step_11, eX9_step_14, eX9_step_15, eX9_step_18, eX9_step_19, eX9_step_21, eX9_step_24, eX9_step_25, eX9_step_28, eX9_step_29, eX9_step_30, eX9_step_31, eX9_step_32, eX9_step_35, eX9_step_36, eX9_step_37, eX9_step_40, eX9_step_41, eX9_step_42, eX9_step_45, eX9_step_46, eX9_step_49, eX9_step_50, eX9_step_52, eX9_step_55, eX9_step_56, eX9_step_57, eX9_step_60, eX9_step_63, eX9_step_132, eX9_step_133, Option.bind_some, Option.toList_some, Option.toList_none, List.cons_append, List.nil_append, G_o55, hm, show ((1 : Int32) ≠ 0) = True from by decide, if_true, zT_0, zT_1, u16, tk, hK, k16, e21, ne_eq, not_true_eq_false, if_false]
    have e3 : mStp N (mF I) 21 (zgM I) = (I 65, I 66, I 67, I 55 16 + pTk N (mF I) 21, I 55 16 + pTk N (mF I) 21) := by simp [mStp, zgM]
    have e4 : zU K 55 17 (I 55 16 + pTk N (mF I) 21) = zsM I (I 65, I 66, I 67, I 55 16 + pTk N (mF I) 21, I 55 16 + pTk N (mF I) 21) 0 := by
      refine zextM (fun k => by rw [zsM_65, zU_ne _ _ _ (by decide), kne 65 (by decide)]) (fun k => by rw [zsM_66, zU_ne _ _ _ (by decide), kne 66 (by decide)]) (fun k => by rw [zsM_67, zU_ne _ _ _ (by decide), kne 67 (by decide)]) (fun k => ?_) (fun c k a1 a2 a3 a4 => by rw [zsM_ne _ _ _ a1 a2 a3 a4, zU_ne _ _ _ a4, kne c a4])
      by_cases b2 : k = 17
      · subst b2; rw [zsM_17]; simp [zU]
      · have : zU K 55 17 (I 55 16 + pTk N (mF I) 21) 55 k = K 55 k := by simp [zU, b2]
        rw [this]
        by_cases b1 : k = 16
        · subst b1; rw [zsM_16, k16]
        · by_cases b3 : k = 21
          · subst b3; rw [zsM_21, k21]
          · rw [zsM_55 _ _ _ b1 b2 b3, k55 k b3 b1]
    rw [e3, e4]
    split <;> rfl
  · by_cases h20 : s = 20
    · subst h20
      have w : ¬ mWr (mF I) 20 (zgM I) := by simp [mWr]
      rw [zb_f w]
      have e5 : ∀ (b : Bool), pTd (zgM I) = b → zUr K 66 (mJ N b (I 66)) = zsM I (mStp N (mF I) 20 (zgM I)) 0 := by
        intro b hb
        have e3 : mStp N (mF I) 20 (zgM I) = (I 65, mJ N b (I 66), I 67, I 55 16 + pTk N (mF I) 20, I 55 17) := by
          unfold mStp
          rw [hb]
          simp [zgM]
        rw [e3]
        refine zextM (fun k => by rw [zsM_65, zUr_ne _ _ (by decide), kne 65 (by decide)]) (fun k => by rw [zsM_66, zUr_self]) (fun k => by rw [zsM_67, zUr_ne _ _ (by decide), kne 67 (by decide)]) (fun k => ?_) (fun c k a1 a2 a3 a4 => by rw [zsM_ne _ _ _ a1 a2 a3 a4, zUr_ne _ _ a2, kne c a4])
        rw [zUr_ne _ _ (by decide)]
        by_cases b1 : k = 16
        · subst b1; rw [zsM_16, k16]
        · by_cases b2 : k = 17
          · subst b2; rw [zsM_17, k55 17 (by decide) (by decide)]
          · by_cases b3 : k = 21
            · subst b3; rw [zsM_21, k21]
            · rw [zsM_55 _ _ _ b1 b2 b3, k55 k b3 b1]
      by_cases ht : I 55 16 - I 55 17 < 40
      · have htd : pTd (zgM I) = false := by simp only [pTd, zgM]; exact decide_eq_false (by grind)
        simp only [nX9_step, eX9_step_0, eX9_step_1, eX9_step_2, eX9_step_5, eX9_step_8, eX9_step_9, eX9_step_10, eX9_step_11, eX9_step_14, eX9_step_15, eX9_step_18, eX9_step_19, eX9_step_21, eX9_step_24, eX9_step_25, eX9_step_28, eX9_step_29, eX9_step_30, eX9_step_31, eX9_step_32, eX9_step_35, eX9_step_36, eX9_step_37, eX9_step_40, eX9_step_41, eX9_step_42, eX9_step_45, eX9_step_46, eX9_step_49, eX9_step_50, eX9_step_52, eX9_step_55, eX9_step_56, eX9_step_57, eX9_step_60, eX9_step_63, eX9_step_66, eX9_step_67, eX9_step_69, eX9_step_72, eX9_step_73, Option.bind_some, Option.toList_some, Option.toList_none, List.cons_append, List.nil_append, G_o55, hm, show ((1 : Int32) ≠ 0) = True from by decide, if_true, ht, zT_0, zT_1, u16, tk, hK, e21, e20, ne_eq, not_true_eq_false, not_false_eq_true, show (20 = 21) = False from by decide, if_false]
        refine Eq.trans (lp_mst (L := L) (xs := xs) (d := d) (J := J) (s := nI 20) h1 (N - 1) 0 K (by omega) k6) ?_
        rw [← e5 false htd]
        congr 3
        funext c j
        simp only [zUr_app, mJ, kne 66 (by decide), Nat.zero_le, true_and, and_true]
      · have htd : pTd (zgM I) = true := by simp only [pTd, zgM]; exact decide_eq_true (by grind)
        rw [← e5 true htd]
        simp only [nX9_step, eX9_step_0, eX9_step_1, eX9_step_2, eX9_step_5, eX9_step_8, eX9_step_9, eX9_step_10, eX9_step_11, eX9_step_14, eX9_step_15, eX9_step_18, eX9_step_19, eX9_step_21, eX9_step_24, eX9_step_25, eX9_step_28, eX9_step_29, eX9_step_30, eX9_step_31, eX9_step_32, eX9_step_35, eX9_step_36, eX9_step_37, eX9_step_40, eX9_step_41, eX9_step_42, eX9_step_45, eX9_step_46, eX9_step_49, eX9_step_50, eX9_step_52, eX9_step_55, eX9_step_56, eX9_step_57, eX9_step_60, eX9_step_63, eX9_step_66, eX9_step_67, eX9_step_69, eX9_step_72, eX9_step_73, eX9_step_74, eX9_step_75, eX9_step_76, eX9_step_79, eX9_step_82, eX9_step_83, eX9_step_109, eX9_step_132, eX9_step_133, Option.bind_some, Option.toList_some, Option.toList_none, List.cons_append, List.nil_append, G_o55, hm, show ((1 : Int32) ≠ 0) = True from by decide, if_true, ht, zT_0, zT_1, u16, tk, hK, e21, e20, ne_eq, not_true_eq_false, not_false_eq_true, show (20 = 21) = False from by decide, if_false, qmj k6 h1]
        have e6 : zUr K 66 (mJ N true (I 66)) = K := by
          funext c j
          simp only [zUr_app, mJ]
          by_cases e : c = 66
          · subst e; simp [kne 66 (by decide)]
          · simp [e]
        rw [e6]
        split <;> rfl
    · have hl : s < 20 := by unfold pOk at hs; omega
      by_cases ht : I 55 16 - I 55 17 < 40
      · have htd : pTd (zgM I) = false := by simp only [pTd, zgM]; exact decide_eq_false (by grind)
        have := fin false htd hl
        simp only [show (false = true) = False from by decide, if_false] at this
        by_cases h10 : 10 ≤ s
        · have et : mTm s = 2 := by simp [mTm, show ¬ s < 10 by omega]
          rw [et] at this
          simp only [nX9_step, eX9_step_0, eX9_step_1, eX9_step_2, eX9_step_5, eX9_step_8, eX9_step_9, eX9_step_10, eX9_step_11, eX9_step_14, eX9_step_15, eX9_step_18, eX9_step_19, eX9_step_21, eX9_step_24, eX9_step_25, eX9_step_28, eX9_step_29, eX9_step_30, eX9_step_31, eX9_step_32, eX9_step_35, eX9_step_36, eX9_step_37, eX9_step_40, eX9_step_41, eX9_step_42, eX9_step_45, eX9_step_46, eX9_step_49, eX9_step_50, eX9_step_52, eX9_step_55, eX9_step_56, eX9_step_57, eX9_step_60, eX9_step_63, eX9_step_66, eX9_step_67, eX9_step_69, eX9_step_72, eX9_step_112, eX9_step_113, eX9_step_114, eX9_step_116, eX9_step_117, eX9_step_118, eX9_step_120, eX9_step_123, eX9_step_124, eX9_step_127, eX9_step_128, eX9_step_129, eX9_step_132, eX9_step_133, Option.bind_some, Option.toList_some, Option.toList_none, List.cons_append, List.nil_append, G_o55, hm, show ((1 : Int32) ≠ 0) = True from by decide, if_true, ht, zT_0, zT_1, u16, tk, hK, e21, e20, h21, h20, e10, h10, z10n0, zrm h1 hs hl, ne_eq, not_false_eq_true, this]
        · have et : mTm s = 1 := by simp [mTm, show s < 10 by omega]
          rw [et] at this
          simp only [nX9_step, eX9_step_0, eX9_step_1, eX9_step_2, eX9_step_5, eX9_step_8, eX9_step_9, eX9_step_10, eX9_step_11, eX9_step_14, eX9_step_15, eX9_step_18, eX9_step_19, eX9_step_21, eX9_step_24, eX9_step_25, eX9_step_28, eX9_step_29, eX9_step_30, eX9_step_31, eX9_step_32, eX9_step_35, eX9_step_36, eX9_step_37, eX9_step_40, eX9_step_41, eX9_step_42, eX9_step_45, eX9_step_46, eX9_step_49, eX9_step_50, eX9_step_52, eX9_step_55, eX9_step_56, eX9_step_57, eX9_step_60, eX9_step_63, eX9_step_66, eX9_step_67, eX9_step_69, eX9_step_72, eX9_step_112, eX9_step_113, eX9_step_114, eX9_step_116, eX9_step_117, eX9_step_118, eX9_step_120, eX9_step_123, eX9_step_124, eX9_step_127, eX9_step_128, eX9_step_129, eX9_step_132, eX9_step_133, Option.bind_some, Option.toList_some, Option.toList_none, List.cons_append, List.nil_append, G_o55, hm, show ((1 : Int32) ≠ 0) = True from by decide, if_true, ht, zT_0, zT_1, u16, tk, hK, e21, e20, h21, h20, e10, h10, if_false, z10n0, zrm h1 hs hl, ne_eq, not_false_eq_true, this]
      · have htd : pTd (zgM I) = true := by simp only [pTd, zgM]; exact decide_eq_true (by grind)
        have := fin true htd hl
        simp only [if_true] at this
        by_cases h10 : 10 ≤ s
        · have et : mTm s = 2 := by simp [mTm, show ¬ s < 10 by omega]
          rw [et] at this
          simp only [nX9_step, eX9_step_0, eX9_step_1, eX9_step_2, eX9_step_5, eX9_step_8, eX9_step_9, eX9_step_10, eX9_step_11, eX9_step_14, eX9_step_15, eX9_step_18, eX9_step_19, eX9_step_21, eX9_step_24, eX9_step_25, eX9_step_28, eX9_step_29, eX9_step_30, eX9_step_31, eX9_step_32, eX9_step_35, eX9_step_36, eX9_step_37, eX9_step_40, eX9_step_41, eX9_step_42, eX9_step_45, eX9_step_46, eX9_step_49, eX9_step_50, eX9_step_52, eX9_step_55, eX9_step_56, eX9_step_57, eX9_step_60, eX9_step_63, eX9_step_66, eX9_step_67, eX9_step_69, eX9_step_72, eX9_step_112, eX9_step_113, eX9_step_114, eX9_step_116, eX9_step_117, eX9_step_118, eX9_step_120, eX9_step_123, eX9_step_124, eX9_step_127, eX9_step_128, eX9_step_129, eX9_step_132, eX9_step_133, Option.bind_some, Option.toList_some, Option.toList_none, List.cons_append, List.nil_append, G_o55, hm, show ((1 : Int32) ≠ 0) = True from by decide, if_true, ht, if_false, zT_0, zT_1, u16, tk, hK, e21, e20, h21, h20, e10, h10, z10n0, zrm h1 hs hl, ne_eq, not_false_eq_true, this]
        · have et : mTm s = 1 := by simp [mTm, show s < 10 by omega]
          rw [et] at this
          simp only [nX9_step, eX9_step_0, eX9_step_1, eX9_step_2, eX9_step_5, eX9_step_8, eX9_step_9, eX9_step_10, eX9_step_11, eX9_step_14, eX9_step_15, eX9_step_18, eX9_step_19, eX9_step_21, eX9_step_24, eX9_step_25, eX9_step_28, eX9_step_29, eX9_step_30, eX9_step_31, eX9_step_32, eX9_step_35, eX9_step_36, eX9_step_37, eX9_step_40, eX9_step_41, eX9_step_42, eX9_step_45, eX9_step_46, eX9_step_49, eX9_step_50, eX9_step_52, eX9_step_55, eX9_step_56, eX9_step_57, eX9_step_60, eX9_step_63, eX9_step_66, eX9_step_67, eX9_step_69, eX9_step_72, eX9_step_112, eX9_step_113, eX9_step_114, eX9_step_116, eX9_step_117, eX9_step_118, eX9_step_120, eX9_step_123, eX9_step_124, eX9_step_127, eX9_step_128, eX9_step_129, eX9_step_132, eX9_step_133, Option.bind_some, Option.toList_some, Option.toList_none, List.cons_append, List.nil_append, G_o55, hm, show ((1 : Int32) ≠ 0) = True from by decide, if_true, ht, if_false, zT_0, zT_1, u16, tk, hK, e21, e20, h21, h20, e10, h10, z10n0, zrm h1 hs hl, ne_eq, not_false_eq_true, this]
end S
