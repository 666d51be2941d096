set_option maxHeartbeats 1000000 in
theorem ask_iff {w : Int32} : (w = 0 ∨ w = 1 ∨ (10 ≤ w ∧ w < 16) ∨ (20 ≤ w ∧ w < 25)) ↔ ((0 ≤ w ∧ w ≤ 1) ∨ (10 ≤ w ∧ w ≤ 15) ∨ (20 ≤ w ∧ w ≤ 24)) := by
  constructor
  · intro h
    rcases h with rfl | rfl | h | h
    · exact Or.inl (by decide)
    · exact Or.inl (by decide)
    · exact Or.inr (Or.inl (by grind))
    · exact Or.inr (Or.inr (by grind))
  · intro h
    rcases h with h | h | h
    · rcases (show w = 0 ∨ w = 1 by grind) with h | h
      · exact Or.inl h
      · exact Or.inr (Or.inl h)
    · exact Or.inr (Or.inr (Or.inl (by grind)))
    · exact Or.inr (Or.inr (Or.inr (by grind)))
set_option maxHeartbeats 1000000 in
theorem ask_n {w : Int32} (h : w = 0 ∨ w = 1 ∨ (10 ≤ w ∧ w < 16) ∨ (20 ≤ w ∧ w < 25)) : w = 0 ∨ w = 1 ∨ (∃ j, j < 6 ∧ w = nI (j + 10)) ∨ (∃ j, j < 5 ∧ w = nI (j + 20)) := by
  rcases h with h | h | ⟨a, b⟩ | ⟨a, b⟩
  · exact Or.inl h
  · exact Or.inr (Or.inl h)
  · obtain ⟨j, hj, rfl⟩ := nI_of (x := w) (by grind)
    have h1 := (@nI_leI 10 j (by omega) (by omega)).mp a
    have h2 := (@nI_ltI j 16 (by omega) (by omega)).mp b
    exact Or.inr (Or.inr (Or.inl ⟨j - 10, by omega, by rw [show j - 10 + 10 = j by omega]⟩))
  · obtain ⟨j, hj, rfl⟩ := nI_of (x := w) (by grind)
    have h1 := (@nI_leI 20 j (by omega) (by omega)).mp a
    have h2 := (@nI_ltI j 25 (by omega) (by omega)).mp b
    exact Or.inr (Or.inr (Or.inr ⟨j - 20, by omega, by rw [show j - 20 + 20 = j by omega]⟩))
set_option maxHeartbeats 1000000 in
theorem sh_iff {k : Int32} : (0 ≤ k ∧ k < 4) ↔ (0 ≤ k ∧ k ≤ 3) := by
  constructor <;> intro h <;> grind
section S
variable {L : Nat} {xs : Nat → Int32} {d : Nat} {J : Nat → Nat → Int64}
set_option maxHeartbeats 1000000 in
theorem op_plan {I : Nat → Nat → Int32} (hI : zInv I) (sh v i n w : Int32) : zOp L xs d 52 119 [.int sh, .int v, .int i, .int n, .int w] I J := by
  obtain ⟨code, I1, ht, hfr, h05, hcs⟩ := take_cases (L := L) (xs := xs) (d := d) (J := J) hI sh v i n (decide (w = 0 ∨ w = 1 ∨ (10 ≤ w ∧ w < 16) ∨ (20 ≤ w ∧ w < 25)))
  rw [← zb_ok (dp := inferInstance)] at ht
  rcases hcs with ⟨hsh, rfl, hf⟩ | ⟨hsh, hfl, rfl, hf⟩ | ⟨hsh, ⟨hv, hn, hok⟩, hcd, hly⟩ | ⟨hsh, ⟨hv, hn, hok⟩, rfl, hf, N, m, st, row, ⟨hN0, h1, hN⟩, ⟨rfl, hm⟩, hI1n, hst, hly⟩
  · refine ⟨(-1), I1, zU I1 55 0 0, J, J, ?_, ?_, inv_fl hI hfr h05 hf⟩
    · simp only [nX8_plan, eX8_plan_0, eX8_plan_1, eX8_plan_2, eX8_plan_3, eX8_plan_4, eX8_plan_6, eX8_plan_8, eX8_plan_11, eX8_plan_14, eX8_plan_16, eX8_plan_18, eX8_plan_21, eX8_plan_23, Option.bind_some, Option.toList_some, Option.toList_none, List.cons_append, List.nil_append, G_o0, qX8_isAskedOfPlan, ht, show ((-1 : Int32) = 0) = False from by decide, if_false]
    · simp only [nX9_plan, eX9_plan_0, eX9_plan_1, eX9_plan_2, eX9_plan_5, eX9_plan_6, eX9_plan_9, eX9_plan_12, eX9_plan_13, Option.bind_some, Option.toList_some, Option.toList_none, List.cons_append, List.nil_append, G_o55, qX9_isSheet, zb_1, ← sh_iff, hsh, if_false]
  · have hsh3 := sh_iff.mp hsh
    refine ⟨(-2), I1, zU I1 55 0 0, J, J, ?_, ?_, inv_fl hI hfr h05 hf⟩
    · simp only [nX8_plan, eX8_plan_0, eX8_plan_1, eX8_plan_2, eX8_plan_3, eX8_plan_4, eX8_plan_6, eX8_plan_8, eX8_plan_11, eX8_plan_14, eX8_plan_16, eX8_plan_18, eX8_plan_21, eX8_plan_23, Option.bind_some, Option.toList_some, Option.toList_none, List.cons_append, List.nil_append, G_o0, qX8_isAskedOfPlan, ht, show ((-2 : Int32) = 0) = False from by decide, if_false]
    · by_cases hvn : (0 ≤ v ∧ v ≤ 2) ∧ 0 ≤ n ∧ n ≤ 20
      · have hw : ¬ (w = 0 ∨ w = 1 ∨ (10 ≤ w ∧ w < 16) ∨ (20 ≤ w ∧ w < 25)) := fun x => hfl ⟨hvn.1, hvn.2, decide_eq_true x⟩
        have hwm := eq_false (fun x => hw (ask_iff.mpr x))
        simp only [nX9_plan, eX9_plan_0, eX9_plan_1, eX9_plan_2, eX9_plan_5, eX9_plan_6, eX9_plan_9, eX9_plan_12, eX9_plan_13, eX9_plan_14, eX9_plan_15, eX9_plan_17, eX9_plan_20, eX9_plan_23, eX9_plan_25, eX9_plan_28, eX9_plan_31, eX9_plan_33, Option.bind_some, Option.toList_some, Option.toList_none, List.cons_append, List.nil_append, G_o55, qX9_isSheet, qX9_isPlan, qX9_isAsked, zb_1, zb_0, hsh3, hwm, and_self, if_true, hvn, not_true_eq_false, if_false]
      · simp only [nX9_plan, eX9_plan_0, eX9_plan_1, eX9_plan_2, eX9_plan_5, eX9_plan_6, eX9_plan_9, eX9_plan_12, eX9_plan_13, eX9_plan_14, eX9_plan_15, eX9_plan_17, eX9_plan_20, eX9_plan_23, eX9_plan_25, eX9_plan_28, eX9_plan_31, eX9_plan_33, Option.bind_some, Option.toList_some, Option.toList_none, List.cons_append, List.nil_append, G_o55, qX9_isSheet, qX9_isPlan, zb_1, zb_0, hsh3, and_self, if_true, hvn, not_false_eq_true]
  · have hw : w = 0 ∨ w = 1 ∨ (10 ≤ w ∧ w < 16) ∨ (20 ≤ w ∧ w < 25) := of_decide_eq_true hok
    have hsh3 := sh_iff.mp hsh
    have hwm := eq_true (ask_iff.mp hw)
    refine ⟨code, I1, zU I1 55 0 (I1 0 6), J, J, ?_, ?_, inv_fl hI hfr h05 rfl⟩
    · simp only [nX8_plan, eX8_plan_0, eX8_plan_1, eX8_plan_2, eX8_plan_3, eX8_plan_4, eX8_plan_6, eX8_plan_8, eX8_plan_11, eX8_plan_14, eX8_plan_16, eX8_plan_18, eX8_plan_21, eX8_plan_23, Option.bind_some, Option.toList_some, Option.toList_none, List.cons_append, List.nil_append, G_o0, qX8_isAskedOfPlan, ht, hcd, if_false]
    · simp only [nX9_plan, eX9_plan_0, eX9_plan_1, eX9_plan_2, eX9_plan_5, eX9_plan_6, eX9_plan_9, eX9_plan_12, eX9_plan_13, eX9_plan_14, eX9_plan_15, eX9_plan_17, eX9_plan_20, eX9_plan_23, eX9_plan_25, eX9_plan_28, eX9_plan_31, eX9_plan_33, eX9_plan_34, eX9_plan_35, eX9_plan_36, eX9_plan_37, eX9_plan_38, eX9_plan_40, eX9_plan_43, eX9_plan_45, eX9_plan_47, eX9_plan_50, eX9_plan_52, Option.bind_some, Option.toList_some, Option.toList_none, List.cons_append, List.nil_append, G_o55, qX9_isSheet, qX9_isPlan, qX9_isAsked, zb_1, zb_0, hsh3, hwm, hv, hn, and_self, if_true, not_true_eq_false, if_false, hly I1 (fun c hc => hfr c (by omega) (by omega) (by omega)), hcd]
  · have hw : w = 0 ∨ w = 1 ∨ (10 ≤ w ∧ w < 16) ∨ (20 ≤ w ∧ w < 25) := of_decide_eq_true hok
    have hsh3 := sh_iff.mp hsh
    have hwm := eq_true (ask_iff.mp hw)
    have h10 : I1 10 = I 10 := hfr 10 (by decide) (by decide) (by decide)
    have hpl : ∀ k, k < 6 → I1 (k + 15) = I (k + 15) := fun k hk => hfr _ (by omega) (by omega) (by omega)
    have hM : I 55 6 = nI N := by
      obtain ⟨-, -, -, -, -, N', ⟨-, n2, n3, -⟩, -⟩ := id hI
      rw [n3, ← n2, hN]
    have hc := pb_c (L := L) (xs := xs) (d := d) (J := J) (lo := -9) hN h1 h10 hpl hI1n hm (fun k hk => ⟨(hst k hk).1, (hst k hk).2.2⟩)
    generalize hA : cPl N (I 10 3) (cF I) st (-9) 0 m (cBg 23 I1) (-9) = A at hc
    obtain ⟨a, P, u⟩ := A
    dsimp only at hc
    have l1 := hly (zsW I1 P u) (fun c hc => by rw [zsW_lo _ _ _ (by omega), hfr c (by omega) (by omega) (by omega)])
    generalize hK : zU (zUr (zU (zsW I1 P u) 55 0 0) 68 row) 55 23 (nI m) = K at l1
    have k55 : ∀ k, k ≠ 0 → k ≠ 23 → K 55 k = I 55 k := fun k x y => by
      rw [← hK, zU_k _ _ _ y, zUr_ne _ _ (by decide), zU_k _ _ _ x, zsW_lo _ _ _ (by decide), hfr 55 (by decide) (by decide) (by decide)]
    have kc : ∀ c, 56 ≤ c → c ≠ 68 → K c = I c := fun c x y => by
      rw [← hK, zU_ne _ _ _ (by omega), zUr_ne _ _ y, zU_ne _ _ _ (by omega), zsW_lo _ _ _ (by omega), hfr c (by omega) (by omega) (by omega)]
    have hg := pb_m (L := L) (xs := xs) (d := d) (J := J) (lo := -9) (K := K) (st := st) hM h1 (fun k hk => k55 k (by omega) (by omega)) hI.1.2.2 (fun c x y => kc c (by omega) (by omega)) (by rw [← hK, zU_at]) hm (fun k hk => ⟨by rw [← hK, zU_ne _ _ _ (by decide), zUr_self]; exact (hst k hk).2.1, (hst k hk).2.2⟩)
    obtain ⟨q1, -, q3⟩ := pb_eq (I := I) (I1 := I1) (K := K) (N := N) (m := m) (st := st) (lo := -9) (u := K 55 21) hI hN h1 hpl (kc 60 (by decide) (by decide)) hm (fun k hk => (hst k hk).2.2)
    have q3 := q3 rfl
    rw [hA] at q1 q3
    generalize mPl N (I 55 5) (mF I) st (-9) 0 0 m (mBg N K) (K 55 21) = B at hg q1 q3
    obtain ⟨b, Q, z⟩ := B
    dsimp only at hg q1 q3
    subst q3
    have inv : zInv (zsM K Q z) := inv_pl hI hfr h05 hf hK.symm
    have w10 : zsW I1 P u 10 2 = nI N := by rw [zsW_lo _ _ _ (by decide), h10]; exact hN
    have w3 : zsW I1 P u 23 3 = P.2.2.2.1 := congrArg (fun x : zPs => x.2.2.2.1) (zsW_g I1 P u)
    have w24 : zsW I1 P u 24 = P.1 := congrArg (fun x : zPs => x.1) (zsW_g I1 P u)
    have w25 : zsW I1 P u 25 = P.2.1 := congrArg (fun x : zPs => x.2.1) (zsW_g I1 P u)
    have m6 : zsM K Q z 55 6 = nI N := by rw [zsM_55 _ _ _ (by decide) (by decide) (by decide), k55 6 (by decide) (by decide)]; exact hM
    have mcom : ∀ x : Int32, zE zCd (zGG L xs) d 119 [.ref 55, .int sh, .int v, .int i, .int (nI m), .int w] (zsW I1 P u, J) = zX zCd (zGG L xs) d 119 61 [.ref 55, .int sh, .int v, .int i, .int (nI m), .int w, .int 0, .int a] [] (zsM K Q z, J) := fun _ => by
      simp only [nX9_plan, eX9_plan_0, eX9_plan_1, eX9_plan_2, eX9_plan_5, eX9_plan_6, eX9_plan_9, eX9_plan_12, eX9_plan_13, eX9_plan_14, eX9_plan_15, eX9_plan_17, eX9_plan_20, eX9_plan_23, eX9_plan_25, eX9_plan_28, eX9_plan_31, eX9_plan_33, eX9_plan_34, eX9_plan_35, eX9_plan_36, eX9_plan_37, eX9_plan_38, eX9_plan_40, eX9_plan_43, eX9_plan_45, eX9_plan_47, eX9_plan_50, eX9_plan_52, eX9_plan_53, eX9_plan_54, eX9_plan_56, eX9_plan_59, Option.bind_some, Option.toList_some, Option.toList_none, List.cons_append, List.nil_append, G_o55, qX9_isSheet, qX9_isPlan, qX9_isAsked, zb_1, zb_0, hsh3, hwm, hv, hn, and_self, if_true, not_true_eq_false, if_false, l1, hg]
    have ccom : ∀ x : Int32, zE zCd (zGG L xs) d 52 [.ref 0, .int sh, .int v, .int i, .int (nI m), .int w] (I, J) = zX zCd (zGG L xs) d 52 43 [.ref 0, .int sh, .int v, .int i, .int (nI m), .int w, .int 0, .int a] [] (zsW I1 P u, J) := fun _ => by
      simp only [nX8_plan, eX8_plan_0, eX8_plan_1, eX8_plan_2, eX8_plan_3, eX8_plan_4, eX8_plan_6, eX8_plan_8, eX8_plan_11, eX8_plan_14, eX8_plan_16, eX8_plan_18, eX8_plan_21, eX8_plan_23, eX8_plan_24, eX8_plan_25, eX8_plan_28, eX8_plan_29, eX8_plan_32, eX8_plan_33, eX8_plan_36, eX8_plan_38, eX8_plan_41, Option.bind_some, Option.toList_some, Option.toList_none, List.cons_append, List.nil_append, G_o0, G_h0_1, G_r0_1, G_h0_2, G_r0_2, G_h0_3, G_r0_3, G_o23, qX8_isAskedOfPlan, ht, if_true, hc]
    suffices h : ∃ x : Int32, zX zCd (zGG L xs) d 52 43 [.ref 0, .int sh, .int v, .int i, .int (nI m), .int w, .int 0, .int a] [] (zsW I1 P u, J) = some (some (.int x), (zsW I1 P u, J)) ∧ zX zCd (zGG L xs) d 119 61 [.ref 55, .int sh, .int v, .int i, .int (nI m), .int w, .int 0, .int a] [] (zsM K Q z, J) = some (some (.int x), (zsM K Q z, J)) by
      obtain ⟨x, e1, e2⟩ := h
      exact ⟨x, zsW I1 P u, zsM K Q z, J, J, (ccom 0).trans e1, (mcom 0).trans e2, inv⟩
    by_cases w1 : w = 1
    · subst w1
      refine ⟨a, ?_, ?_⟩
      · simp only [eX8_plan_43, eX8_plan_45, eX8_plan_46, eX8_plan_49, eX8_plan_51, ne_eq, not_true_eq_false, if_false]
      · simp only [eX9_plan_61, eX9_plan_63, eX9_plan_64, eX9_plan_67, eX9_plan_69, ne_eq, not_true_eq_false, if_false]
    · by_cases a9 : a = -9
      · subst a9
        rcases ask_n hw with rfl | h | ⟨j, hj, rfl⟩ | ⟨j, hj, rfl⟩
        · refine ⟨P.2.2.2.1, ?_, ?_⟩
          · simp only [eX8_plan_43, eX8_plan_45, eX8_plan_46, eX8_plan_49, eX8_plan_51, eX8_plan_52, eX8_plan_54, eX8_plan_56, eX8_plan_59, eX8_plan_61, eX8_plan_63, eX8_plan_64, eX8_plan_65, eX8_plan_67, eX8_plan_70, eX8_plan_71, eX8_plan_74, eX8_plan_77, ne_eq, w1, not_false_eq_true, not_true_eq_false, if_true, if_false, G_o0, G_h0_3, G_r0_3, G_o23, w3]
          · simp only [eX9_plan_61, eX9_plan_63, eX9_plan_64, eX9_plan_67, eX9_plan_69, eX9_plan_70, eX9_plan_72, eX9_plan_74, eX9_plan_77, eX9_plan_79, eX9_plan_81, eX9_plan_82, eX9_plan_83, eX9_plan_85, eX9_plan_88, eX9_plan_89, eX9_plan_92, ne_eq, w1, not_false_eq_true, not_true_eq_false, if_true, if_false, G_o55, zsM_16, ← q1.2.2.1]
        · exact absurd h w1
        · have d0 : (nI (j + 10) = 0) = False := eq_false (fun e => absurd ((nI_eq (a := j + 10) (b := 0) (by omega) (by omega)).mp e) (by omega))
          have d20 : ((20 : Int32) ≤ nI (j + 10)) = False := by rw [show ((20 : Int32) ≤ nI (j + 10)) = (20 ≤ j + 10) from @zle 20 (j + 10) (by omega) (by omega)]; exact eq_false (by omega)
          have ds : nI (j + 10) - 10 = nI j := (pk_sub (a := j + 10) (b := 10) (by omega)).trans (by rw [Nat.add_sub_cancel])
          by_cases hjN : j < N
          · have hin : (0 ≤ nI j ∧ nI j < nI N) = True := eq_true ⟨nI_pos' (by omega), nI_lt hjN (by omega)⟩
            refine ⟨P.1 j, ?_, ?_⟩
            · simp only [eX8_plan_43, eX8_plan_45, eX8_plan_46, eX8_plan_49, eX8_plan_51, eX8_plan_52, eX8_plan_54, eX8_plan_56, eX8_plan_59, eX8_plan_61, eX8_plan_63, eX8_plan_64, eX8_plan_65, eX8_plan_67, eX8_plan_70, eX8_plan_71, eX8_plan_74, eX8_plan_77, eX8_plan_78, eX8_plan_80, eX8_plan_82, eX8_plan_85, eX8_plan_86, eX8_plan_89, eX8_plan_91, eX8_plan_93, eX8_plan_94, eX8_plan_97, eX8_plan_100, eX8_plan_101, eX8_plan_104, eX8_plan_107, eX8_plan_109, eX8_plan_111, eX8_plan_112, eX8_plan_113, eX8_plan_116, eX8_plan_118, Option.bind_some, Option.toList_some, Option.toList_none, List.cons_append, List.nil_append, ne_eq, w1, d0, d20, ds, not_false_eq_true, not_true_eq_false, if_true, if_false, G_o0, G_h0_1, G_r0_1, G_h0_3, G_r0_3, G_o10, G_o23, G_h23_0, G_r23_0, G_a24, G_l24, qX0_hasPlace, w10, zb_0, hin, zIn_6 hj, zc_n (show j ≤ 1000 by omega), w24]
            · simp only [eX9_plan_61, eX9_plan_63, eX9_plan_64, eX9_plan_67, eX9_plan_69, eX9_plan_70, eX9_plan_72, eX9_plan_74, eX9_plan_77, eX9_plan_79, eX9_plan_81, eX9_plan_82, eX9_plan_83, eX9_plan_85, eX9_plan_88, eX9_plan_89, eX9_plan_92, eX9_plan_93, eX9_plan_95, eX9_plan_97, eX9_plan_100, eX9_plan_101, eX9_plan_103, eX9_plan_105, eX9_plan_106, eX9_plan_109, eX9_plan_112, eX9_plan_113, eX9_plan_116, eX9_plan_118, eX9_plan_120, eX9_plan_121, eX9_plan_122, eX9_plan_125, eX9_plan_127, Option.bind_some, Option.toList_some, Option.toList_none, List.cons_append, List.nil_append, ne_eq, w1, d0, d20, ds, not_false_eq_true, not_true_eq_false, if_true, if_false, G_o55, G_h55_18, G_r55_18, G_a65, G_l65, qX9_isPlace, m6, zb_0, hin, zIn_6 hj, zc_n (show j ≤ 1000 by omega), zsM_65, (q1.1 j hjN).1]
          · have hin : (0 ≤ nI j ∧ nI j < nI N) = False := eq_false (fun x => hjN ((nI_ltI (by omega) (by omega)).mp x.2))
            refine ⟨-9, ?_, ?_⟩
            · simp only [eX8_plan_43, eX8_plan_45, eX8_plan_46, eX8_plan_49, eX8_plan_51, eX8_plan_52, eX8_plan_54, eX8_plan_56, eX8_plan_59, eX8_plan_61, eX8_plan_63, eX8_plan_64, eX8_plan_65, eX8_plan_67, eX8_plan_70, eX8_plan_71, eX8_plan_74, eX8_plan_77, eX8_plan_78, eX8_plan_80, eX8_plan_82, eX8_plan_85, eX8_plan_86, eX8_plan_89, eX8_plan_91, eX8_plan_93, eX8_plan_94, eX8_plan_97, eX8_plan_100, eX8_plan_101, eX8_plan_104, eX8_plan_107, eX8_plan_109, eX8_plan_111, eX8_plan_112, eX8_plan_113, eX8_plan_116, eX8_plan_118, Option.bind_some, Option.toList_some, Option.toList_none, List.cons_append, List.nil_append, ne_eq, w1, d0, d20, ds, not_false_eq_true, not_true_eq_false, if_true, if_false, G_o0, G_h0_1, G_r0_1, G_o10, qX0_hasPlace, w10, zb_0, hin]
            · simp only [eX9_plan_61, eX9_plan_63, eX9_plan_64, eX9_plan_67, eX9_plan_69, eX9_plan_70, eX9_plan_72, eX9_plan_74, eX9_plan_77, eX9_plan_79, eX9_plan_81, eX9_plan_82, eX9_plan_83, eX9_plan_85, eX9_plan_88, eX9_plan_89, eX9_plan_92, eX9_plan_93, eX9_plan_95, eX9_plan_97, eX9_plan_100, eX9_plan_101, eX9_plan_103, eX9_plan_105, eX9_plan_106, eX9_plan_109, eX9_plan_112, eX9_plan_113, eX9_plan_116, eX9_plan_118, eX9_plan_120, eX9_plan_121, eX9_plan_122, eX9_plan_125, eX9_plan_127, Option.bind_some, Option.toList_some, Option.toList_none, List.cons_append, List.nil_append, ne_eq, w1, d0, d20, ds, not_false_eq_true, not_true_eq_false, if_true, if_false, G_o55, qX9_isPlace, m6, zb_0, hin]
        · have d0 : (nI (j + 20) = 0) = False := eq_false (fun e => absurd ((nI_eq (a := j + 20) (b := 0) (by omega) (by omega)).mp e) (by omega))
          have d20 : ((20 : Int32) ≤ nI (j + 20)) = True := by rw [show ((20 : Int32) ≤ nI (j + 20)) = (20 ≤ j + 20) from @zle 20 (j + 20) (by omega) (by omega)]; exact eq_true (by omega)
          have ds : nI (j + 20) - 20 = nI j := (pk_sub (a := j + 20) (b := 20) (by omega)).trans (by rw [Nat.add_sub_cancel])
          by_cases hjN : j < N - 1
          · have hin : (0 ≤ nI j ∧ nI j < nI (N - 1)) = True := eq_true ⟨nI_pos' (by omega), nI_lt hjN (by omega)⟩
            have hin2 : (nI (N - 1) ≤ nI j) = False := eq_false (fun x => absurd ((nI_leI (by omega) (by omega)).mp x) (by omega))
            refine ⟨P.2.1 j, ?_, ?_⟩
            · simp only [eX8_plan_43, eX8_plan_45, eX8_plan_46, eX8_plan_49, eX8_plan_51, eX8_plan_52, eX8_plan_54, eX8_plan_56, eX8_plan_59, eX8_plan_61, eX8_plan_63, eX8_plan_64, eX8_plan_65, eX8_plan_67, eX8_plan_70, eX8_plan_71, eX8_plan_74, eX8_plan_77, eX8_plan_78, eX8_plan_80, eX8_plan_82, eX8_plan_85, eX8_plan_86, eX8_plan_89, eX8_plan_91, eX8_plan_93, eX8_plan_94, eX8_plan_97, eX8_plan_100, eX8_plan_101, eX8_plan_104, eX8_plan_107, eX8_plan_109, eX8_plan_111, eX8_plan_112, eX8_plan_113, eX8_plan_116, eX8_plan_118, eX8_plan_119, eX8_plan_120, eX8_plan_123, eX8_plan_125, eX8_plan_127, eX8_plan_128, eX8_plan_131, eX8_plan_134, eX8_plan_135, eX8_plan_138, eX8_plan_141, eX8_plan_143, eX8_plan_145, eX8_plan_146, eX8_plan_147, eX8_plan_150, eX8_plan_152, Option.bind_some, Option.toList_some, Option.toList_none, List.cons_append, List.nil_append, ne_eq, w1, d0, d20, ds, not_false_eq_true, not_true_eq_false, if_true, if_false, G_o0, G_h0_1, G_r0_1, G_h0_3, G_r0_3, G_o10, G_o23, G_h23_1, G_r23_1, G_a25, G_l25, qX0_hasJoin, w10, zjc h1, zb_0, hin, zIn_5 hj, zc_n (show j ≤ 1000 by omega), w25]
            · simp only [eX9_plan_61, eX9_plan_63, eX9_plan_64, eX9_plan_67, eX9_plan_69, eX9_plan_70, eX9_plan_72, eX9_plan_74, eX9_plan_77, eX9_plan_79, eX9_plan_81, eX9_plan_82, eX9_plan_83, eX9_plan_85, eX9_plan_88, eX9_plan_89, eX9_plan_92, eX9_plan_93, eX9_plan_95, eX9_plan_97, eX9_plan_100, eX9_plan_101, eX9_plan_103, eX9_plan_105, eX9_plan_106, eX9_plan_109, eX9_plan_112, eX9_plan_113, eX9_plan_116, eX9_plan_118, eX9_plan_120, eX9_plan_121, eX9_plan_122, eX9_plan_125, eX9_plan_127, eX9_plan_128, eX9_plan_130, eX9_plan_132, eX9_plan_133, eX9_plan_134, eX9_plan_137, eX9_plan_140, eX9_plan_141, eX9_plan_144, eX9_plan_146, eX9_plan_148, eX9_plan_149, eX9_plan_150, eX9_plan_153, eX9_plan_155, Option.bind_some, Option.toList_some, Option.toList_none, List.cons_append, List.nil_append, ne_eq, w1, d0, d20, ds, not_false_eq_true, not_true_eq_false, if_true, if_false, G_o55, G_h55_19, G_r55_19, G_a66, G_l66, qmj m6 h1, hin2, zIn_5 hj, zc_n (show j ≤ 1000 by omega), zsM_66, (q1.2.1 j hjN).1]
          · have hin : (0 ≤ nI j ∧ nI j < nI (N - 1)) = False := eq_false (fun x => hjN ((nI_ltI (by omega) (by omega)).mp x.2))
            have hin2 : (nI (N - 1) ≤ nI j) = True := eq_true (nI_le (by omega) (by omega))
            refine ⟨-9, ?_, ?_⟩
            · simp only [eX8_plan_43, eX8_plan_45, eX8_plan_46, eX8_plan_49, eX8_plan_51, eX8_plan_52, eX8_plan_54, eX8_plan_56, eX8_plan_59, eX8_plan_61, eX8_plan_63, eX8_plan_64, eX8_plan_65, eX8_plan_67, eX8_plan_70, eX8_plan_71, eX8_plan_74, eX8_plan_77, eX8_plan_78, eX8_plan_80, eX8_plan_82, eX8_plan_85, eX8_plan_86, eX8_plan_89, eX8_plan_91, eX8_plan_93, eX8_plan_94, eX8_plan_97, eX8_plan_100, eX8_plan_101, eX8_plan_104, eX8_plan_107, eX8_plan_109, eX8_plan_111, eX8_plan_112, eX8_plan_113, eX8_plan_116, eX8_plan_118, eX8_plan_119, eX8_plan_120, eX8_plan_123, eX8_plan_125, eX8_plan_127, eX8_plan_128, eX8_plan_131, eX8_plan_134, eX8_plan_135, eX8_plan_138, eX8_plan_141, eX8_plan_143, eX8_plan_145, eX8_plan_146, eX8_plan_147, eX8_plan_150, eX8_plan_152, Option.bind_some, Option.toList_some, Option.toList_none, List.cons_append, List.nil_append, ne_eq, w1, d0, d20, ds, not_false_eq_true, not_true_eq_false, if_true, if_false, G_o0, G_h0_1, G_r0_1, G_o10, qX0_hasJoin, w10, zjc h1, zb_0, hin]
            · simp only [eX9_plan_61, eX9_plan_63, eX9_plan_64, eX9_plan_67, eX9_plan_69, eX9_plan_70, eX9_plan_72, eX9_plan_74, eX9_plan_77, eX9_plan_79, eX9_plan_81, eX9_plan_82, eX9_plan_83, eX9_plan_85, eX9_plan_88, eX9_plan_89, eX9_plan_92, eX9_plan_93, eX9_plan_95, eX9_plan_97, eX9_plan_100, eX9_plan_101, eX9_plan_103, eX9_plan_105, eX9_plan_106, eX9_plan_109, eX9_plan_112, eX9_plan_113, eX9_plan_116, eX9_plan_118, eX9_plan_120, eX9_plan_121, eX9_plan_122, eX9_plan_125, eX9_plan_127, eX9_plan_128, eX9_plan_130, eX9_plan_132, eX9_plan_133, eX9_plan_134, eX9_plan_137, eX9_plan_140, eX9_plan_141, eX9_plan_144, eX9_plan_146, eX9_plan_148, eX9_plan_149, eX9_plan_150, eX9_plan_153, eX9_plan_155, Option.bind_some, Option.toList_some, Option.toList_none, List.cons_append, List.nil_append, ne_eq, w1, d0, d20, ds, not_false_eq_true, not_true_eq_false, if_true, if_false, G_o55, qmj m6 h1, hin2]
      · refine ⟨-100 - a, ?_, ?_⟩
        · simp only [eX8_plan_43, eX8_plan_45, eX8_plan_46, eX8_plan_49, eX8_plan_51, eX8_plan_52, eX8_plan_54, eX8_plan_56, eX8_plan_59, eX8_plan_61, eX8_plan_63, eX8_plan_64, ne_eq, w1, a9, not_false_eq_true, if_true, if_false]
        · simp only [eX9_plan_61, eX9_plan_63, eX9_plan_64, eX9_plan_67, eX9_plan_69, eX9_plan_70, eX9_plan_72, eX9_plan_74, eX9_plan_77, eX9_plan_79, eX9_plan_81, eX9_plan_82, ne_eq, w1, a9, not_false_eq_true, if_true, if_false]
end S
