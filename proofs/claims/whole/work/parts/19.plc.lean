section S
variable {L : Nat} {xs : Nat → Int32} {d : Nat} {J : Nat → Nat → Int64}
set_option maxHeartbeats 1000000 in
theorem qX3_runThrough {p : Nat} {b : Bool} {I : Nat → Nat → Int32} (hp : zPg (zGG L xs) p) : zE zCd (zGG L xs) d 35 [.ref p, .int (if b = true then 1 else 0)] (I, J) = some (none, (zUr I (p + 2) (cJ b (I (p + 2))), J)) := by
  cases b with
  | true =>
    simp only [nX3_runThrough, eX3_runThrough_0, eX3_runThrough_1, eX3_runThrough_4, if_true, show ((1 : Int32) = 0) = False from by decide, if_false]
    congr 3
    funext c' j
    simp only [zUr_app, cJ]
    grind
  | false =>
    simp only [nX3_runThrough, eX3_runThrough_0, eX3_runThrough_1, eX3_runThrough_4, eX3_runThrough_5, eX3_runThrough_6, show (false = true) = False from by decide, if_false, if_true]
    have := lp_run (L := L) (xs := xs) (d := d) (J := J) (b := 0) hp 5 0 I (by omega)
    refine Eq.trans this ?_
    congr 3
    funext c' j
    simp only [zUr_app, cJ]
    grind
set_option maxHeartbeats 1000000 in
theorem qX3_playPlace {p N s : Nat} {b : Bool} {I : Nat → Nat → Int32} (hp : zPg (zGG L xs) p) (hN : I 10 2 = nI N) (h1 : N ≤ 6) (hs : pOk N s) (h20 : s < 20) : zE zCd (zGG L xs) d 36 [.ref p, .ref 10, .int (nI s), .int (if b = true then 1 else 0)] (I, J) = some (some (.int (zb (cS (cF I) s b (I (p + 1)) (I (p + 3)) (pJ s) < I (p + 1) (pJ s)) inferInstance)), (zUr (zUr I (p + 1) (cS (cF I) s b (I (p + 1)) (I (p + 3)))) (p + 3) (cT s (I (p + 3))), J)) := by
  have hs2 : s ≤ 1000 := by omega
  have hj := pJ_lt hs h20
  have e10 : ((10 : Int32) ≤ nI s) = (10 ≤ s) := @zle 10 s (by omega) (by omega)
  have p15 : 23 ≤ p := hp.1
  generalize hjj : pJ s = j at hj
  have hj6 : j < 6 := by omega
  have hz : (if nI s < 10 then nI s else nI s - 10) = nI j := by rw [zpl hs2, hjj]
  have key : ∀ x : Int32, x = cNew (I (j + 15) 3) (I (p + 3) j) (I (p + 1) j) (I (j + 15) 0) (decide (10 ≤ s)) b → zU (zU I (p + 1) j x) (p + 3) j (I (p + 3) j + 1) = zUr (zUr I (p + 1) (cS (cF I) s b (I (p + 1)) (I (p + 3)))) (p + 3) (cT s (I (p + 3))) := by
    intro x hx
    funext c' k
    simp only [zUr_app, zU_app, cS, cT, cF, hjj, hj6, if_true, ← hx]
    grind
  have key2 : cNew (I (j + 15) 3) (I (p + 3) j) (I (p + 1) j) (I (j + 15) 0) (decide (10 ≤ s)) b = I (p + 1) j → zU I (p + 3) j (I (p + 3) j + 1) = zUr (zUr I (p + 1) (cS (cF I) s b (I (p + 1)) (I (p + 3)))) (p + 3) (cT s (I (p + 3))) := by
    intro hx
    funext c' k
    simp only [zUr_app, zU_app, cS, cT, cF, hjj, hj6, if_true, hx]
    grind
  have n1 : ∀ x : Int32, zU I (p + 1) j x (p + 3) j = I (p + 3) j := fun x => by simp only [zU_app]; grind
  have n2 : ∀ x : Int32, zU I (p + 1) j x (p + 1) j = x := fun x => by simp only [zU_app]; grind
  have n3 : ∀ (K : Nat → Nat → Int32) (x : Int32), zU K (p + 3) j x (p + 1) j = K (p + 1) j := fun K x => by simp only [zU_app]; grind
  have gn := qX1_gains (L := L) (xs := xs) (d := d) (I := I) (J := J) (show j < 6 by omega)
  simp only [nX3_playPlace, eX3_playPlace_0, eX3_playPlace_1, eX3_playPlace_4, eX3_playPlace_6, eX3_playPlace_7, eX3_playPlace_10, eX3_playPlace_12, eX3_playPlace_13, eX3_playPlace_15, eX3_playPlace_16, eX3_playPlace_19, eX3_playPlace_21, eX3_playPlace_22, eX3_playPlace_24, eX3_playPlace_25, eX3_playPlace_28, eX3_playPlace_30, eX3_playPlace_31, eX3_playPlace_33, eX3_playPlace_36, eX3_playPlace_39, eX3_playPlace_40, eX3_playPlace_43, eX3_playPlace_45, eX3_playPlace_47, eX3_playPlace_48, eX3_playPlace_49, eX3_playPlace_50, eX3_playPlace_53, eX3_playPlace_54, eX3_playPlace_57, eX3_playPlace_58, eX3_playPlace_61, eX3_playPlace_62, eX3_playPlace_65, eX3_playPlace_68, eX3_playPlace_69, eX3_playPlace_71, eX3_playPlace_74, eX3_playPlace_75, eX3_playPlace_78, eX3_playPlace_80, eX3_playPlace_83, eX3_playPlace_85, eX3_playPlace_86, eX3_playPlace_89, eX3_playPlace_91, eX3_playPlace_93, eX3_playPlace_95, eX3_playPlace_96, eX3_playPlace_98, eX3_playPlace_101, eX3_playPlace_102, eX3_playPlace_103, eX3_playPlace_106, eX3_playPlace_108, eX3_playPlace_109, eX3_playPlace_110, eX3_playPlace_111, eX3_playPlace_112, eX3_playPlace_113, eX3_playPlace_114, eX3_playPlace_117, eX3_playPlace_119, eX3_playPlace_120, eX3_playPlace_122, eX3_playPlace_125, eX3_playPlace_126, eX3_playPlace_129, eX3_playPlace_130, Option.bind_some, Option.toList_some, Option.toList_none, List.cons_append, List.nil_append, hz, hp.2.1, hp.2.2.1, hp.2.2.2.2.1, hp.2.2.2.2.2.1, hp.2.2.2.2.2.2.2, G_o10, G_h10_0, G_r10_0, G_q11, G_l11, qX0_isSlow, qX0_placeOf, gn, zb_0, e10, zIn_6 (show j < 6 by omega), zc_n (show j ≤ 1000 by omega), G_11h (show j < 6 by omega), G_11r (show j < 6 by omega), G_pl_o (show j < 6 by omega), zT_0, zT_1, n1, n2, n3]
  simp only [cS, cF, hjj, hj6, if_true]
  by_cases hl : I (p + 3) j < I (j + 15) 3
  · have hl2 : ¬ I (j + 15) 3 ≤ I (p + 3) j := by grind
    cases b with
    | true =>
      have e1 : cNew (I (j + 15) 3) (I (p + 3) j) (I (p + 1) j) (I (j + 15) 0) (decide (10 ≤ s)) true = I (p + 1) j := by simp [cNew, hl2]
      simp only [if_pos hl, if_true, show ((1 : Int32) ≠ 0) = True from by decide, key2 e1, e1]
      (repeat' split) <;> grind [zb]
    | false =>
      by_cases h10 : 10 ≤ s
      · have e1 : cNew (I (j + 15) 3) (I (p + 3) j) (I (p + 1) j) (I (j + 15) 0) (decide (10 ≤ s)) false = cMn (I (p + 1) j + 2 * pG (I (j + 15) 0)) := by simp [cNew, hl2, h10]
        simp only [if_pos hl, show (false = true) = False from by decide, if_false, show ((0 : Int32) ≠ 0) = False from by decide, h10, not_true_eq_false]
        have e2 : (if 10 < I (p + 1) j + 2 * (if I (j + 15) 0 = 0 then 3 else if I (j + 15) 0 = 1 then 2 else 1) then 10 else I (p + 1) j + 2 * (if I (j + 15) 0 = 0 then 3 else if I (j + 15) 0 = 1 then 2 else 1)) = cMn (I (p + 1) j + 2 * pG (I (j + 15) 0)) := rfl
        rw [key _ (e2.trans e1.symm)]
        simp only [h10, decide_true] at e1 ⊢
        simp only [e1, e2]
        (repeat' split) <;> grind [zb]
      · have e1 : cNew (I (j + 15) 3) (I (p + 3) j) (I (p + 1) j) (I (j + 15) 0) (decide (10 ≤ s)) false = cMn (I (p + 1) j + pG (I (j + 15) 0)) := by simp [cNew, hl2, h10]
        simp only [if_pos hl, show (false = true) = False from by decide, if_false, show ((0 : Int32) ≠ 0) = False from by decide, h10, not_false_eq_true, if_true]
        have e2 : (if 10 < I (p + 1) j + (if I (j + 15) 0 = 0 then 3 else if I (j + 15) 0 = 1 then 2 else 1) then 10 else I (p + 1) j + (if I (j + 15) 0 = 0 then 3 else if I (j + 15) 0 = 1 then 2 else 1)) = cMn (I (p + 1) j + pG (I (j + 15) 0)) := rfl
        rw [key _ (e2.trans e1.symm)]
        simp only [h10, decide_false] at e1 ⊢
        simp only [e1, e2]
        (repeat' split) <;> grind [zb]
  · have hl2 : I (j + 15) 3 ≤ I (p + 3) j := by grind
    have e1 : cNew (I (j + 15) 3) (I (p + 3) j) (I (p + 1) j) (I (j + 15) 0) (decide (10 ≤ s)) b = cMx (I (p + 1) j - 1) := by simp [cNew, hl2]
    have e2 : (if I (p + 1) j - 1 < 0 then 0 else I (p + 1) j - 1) = cMx (I (p + 1) j - 1) := rfl
    simp only [if_neg hl]
    rw [key _ (e2.trans e1.symm)]
    simp only [e1, e2]
    (repeat' split) <;> grind [zb]
end S
