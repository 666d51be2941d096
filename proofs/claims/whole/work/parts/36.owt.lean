set_option maxHeartbeats 1000000 in
theorem zsW_W (I : Nat → Nat → Int32) (P P' : zPs) (w w' : Int32) : zsW (zsW I P w) P' w' = zsW I P' w' := by
  rw [show zsW (zsW I P w) P' w' = zU (zsP 23 (zsW I P w) P') 23 5 w' from rfl, zsW_s, zsW_w]
set_option maxHeartbeats 1000000 in
theorem wk_iff {k n : Int32} (h : 0 ≤ n ∧ n ≤ 20) : (0 ≤ k ∧ k ≤ n - 1) ↔ (0 ≤ k ∧ k < n) := by
  constructor <;> intro h <;> grind
set_option maxHeartbeats 1000000 in
theorem wk_not {k n : Int32} (h : ¬ (0 ≤ k ∧ k < n)) : k < 0 ∨ (¬ k < 0 ∧ n ≤ k) := by grind
section S
variable {L : Nat} {xs : Nat → Int32} {d : Nat} {J : Nat → Nat → Int64}
set_option maxHeartbeats 1000000 in
theorem op_worth {I : Nat → Nat → Int32} (hI : zInv I) (sh v i n w : Int32) : zOpL L xs d 55 125 [.int sh, .int v, .int i, .int n, .int w] I J := by
  obtain ⟨code, I1, ht, hfr, h05, hcs⟩ := take_cases (L := L) (xs := xs) (d := d) (J := J) hI sh v i n (decide (0 ≤ w ∧ w < n))
  have hcom : zE zCd (zGG L xs) d 55 [.ref 0, .int sh, .int v, .int i, .int n, .int w] (I, J) = zX zCd (zGG L xs) d 55 26 [.ref 0, .int sh, .int v, .int i, .int n, .int w, .null, .null] [.int code] (I1, J) := by
    by_cases hw : 0 ≤ w ∧ w < n
    · simp only [hw, and_self, decide_true, if_true] at ht
      have c1 : (w < 0) = False := eq_false (by grind)
      have c2 : (n ≤ w) = False := eq_false (by grind)
      simp only [nX8_worth, eX8_worth_0, eX8_worth_1, eX8_worth_2, eX8_worth_3, eX8_worth_4, eX8_worth_6, eX8_worth_8, eX8_worth_11, eX8_worth_13, eX8_worth_15, eX8_worth_18, eX8_worth_19, eX8_worth_22, eX8_worth_23, Option.bind_some, Option.toList_some, Option.toList_none, List.cons_append, List.nil_append, G_o0, c1, c2, if_false, ht]
    · simp only [eq_false hw, decide_false, Bool.false_eq_true, if_false] at ht
      rcases wk_not hw with c1 | ⟨c1, c2⟩
      · simp only [nX8_worth, eX8_worth_0, eX8_worth_1, eX8_worth_2, eX8_worth_3, eX8_worth_4, eX8_worth_6, eX8_worth_8, eX8_worth_11, eX8_worth_13, eX8_worth_15, eX8_worth_18, eX8_worth_19, eX8_worth_22, eX8_worth_23, Option.bind_some, Option.toList_some, Option.toList_none, List.cons_append, List.nil_append, G_o0, eq_true c1, if_true, ht]
      · simp only [nX8_worth, eX8_worth_0, eX8_worth_1, eX8_worth_2, eX8_worth_3, eX8_worth_4, eX8_worth_6, eX8_worth_8, eX8_worth_11, eX8_worth_13, eX8_worth_15, eX8_worth_18, eX8_worth_19, eX8_worth_22, eX8_worth_23, Option.bind_some, Option.toList_some, Option.toList_none, List.cons_append, List.nil_append, G_o0, eq_false c1, eq_true c2, if_true, if_false, ht]
  rcases hcs with ⟨hsh, rfl, hf⟩ | ⟨hsh, hfl, rfl, hf⟩ | ⟨hsh, ⟨hv, hn, hok⟩, hcd, hly⟩ | ⟨hsh, ⟨hv, hn, hok⟩, rfl, hf, N, m, st, row, ⟨hN0, h1, hN⟩, ⟨rfl, hm⟩, hI1n, hst, hly⟩
  · refine ⟨(-9223372036854775808), I1, zU I1 55 0 0, J, J, hcom.trans ?_, ?_, inv_fl hI hfr h05 hf⟩
    · simp only [eX8_worth_26, eX8_worth_29, eX8_worth_32, show ((-1 : Int32) = 0) = False from by decide, if_false]
    · simp only [nX9_worth, eX9_worth_0, eX9_worth_1, eX9_worth_2, eX9_worth_5, eX9_worth_6, eX9_worth_9, eX9_worth_12, eX9_worth_13, eX9_worth_15, eX9_worth_18, eX9_worth_21, eX9_worth_23, eX9_worth_24, eX9_worth_26, eX9_worth_27, eX9_worth_28, eX9_worth_31, eX9_worth_34, eX9_worth_37, Option.bind_some, Option.toList_some, Option.toList_none, List.cons_append, List.nil_append, G_o55, qX9_isSheet, zb_0, ← sh_iff, hsh, not_false_eq_true, if_true]
  · have hsh3 := sh_iff.mp hsh
    refine ⟨(-9223372036854775808), I1, zU I1 55 0 0, J, J, hcom.trans ?_, ?_, inv_fl hI hfr h05 hf⟩
    · simp only [eX8_worth_26, eX8_worth_29, eX8_worth_32, show ((-2 : Int32) = 0) = False from by decide, if_false]
    · by_cases hvn : (0 ≤ v ∧ v ≤ 2) ∧ 0 ≤ n ∧ n ≤ 20
      · have hw : ¬ (0 ≤ w ∧ w < n) := fun x => hfl ⟨hvn.1, hvn.2, decide_eq_true x⟩
        have hwm := eq_false (fun x => hw ((wk_iff hvn.2).mp x))
        simp only [nX9_worth, eX9_worth_0, eX9_worth_1, eX9_worth_2, eX9_worth_5, eX9_worth_6, eX9_worth_9, eX9_worth_12, eX9_worth_13, eX9_worth_15, eX9_worth_18, eX9_worth_21, eX9_worth_23, eX9_worth_24, eX9_worth_26, eX9_worth_27, eX9_worth_28, eX9_worth_31, eX9_worth_34, eX9_worth_37, Option.bind_some, Option.toList_some, Option.toList_none, List.cons_append, List.nil_append, G_o55, qX9_isSheet, qX9_isPlan, qX9_within, zb_1, zb_0, hsh3, hwm, and_self, if_true, hvn, not_true_eq_false, if_false]
      · simp only [nX9_worth, eX9_worth_0, eX9_worth_1, eX9_worth_2, eX9_worth_5, eX9_worth_6, eX9_worth_9, eX9_worth_12, eX9_worth_13, eX9_worth_15, eX9_worth_18, eX9_worth_21, eX9_worth_23, eX9_worth_24, eX9_worth_26, eX9_worth_27, eX9_worth_28, eX9_worth_31, eX9_worth_34, eX9_worth_37, Option.bind_some, Option.toList_some, Option.toList_none, List.cons_append, List.nil_append, G_o55, qX9_isSheet, qX9_isPlan, zb_1, zb_0, hsh3, and_self, if_true, hvn, not_true_eq_false, not_false_eq_true, if_false]
  · have hw : 0 ≤ w ∧ w < n := of_decide_eq_true hok
    have hsh3 := sh_iff.mp hsh
    have hwm := eq_true ((wk_iff hn).mpr hw)
    refine ⟨(-9223372036854775808), I1, zU I1 55 0 (I1 0 6), J, J, hcom.trans ?_, ?_, inv_fl hI hfr h05 rfl⟩
    · simp only [eX8_worth_26, eX8_worth_29, eX8_worth_32, hcd, if_false]
    · simp only [nX9_worth, eX9_worth_0, eX9_worth_1, eX9_worth_2, eX9_worth_5, eX9_worth_6, eX9_worth_9, eX9_worth_12, eX9_worth_13, eX9_worth_15, eX9_worth_18, eX9_worth_21, eX9_worth_23, eX9_worth_24, eX9_worth_26, eX9_worth_27, eX9_worth_28, eX9_worth_31, eX9_worth_34, eX9_worth_37, eX9_worth_38, eX9_worth_39, eX9_worth_40, eX9_worth_41, eX9_worth_42, eX9_worth_44, eX9_worth_47, eX9_worth_50, eX9_worth_51, eX9_worth_53, eX9_worth_56, eX9_worth_58, eX9_worth_61, eX9_worth_64, Option.bind_some, Option.toList_some, Option.toList_none, List.cons_append, List.nil_append, G_o55, qX9_isSheet, qX9_isPlan, qX9_within, zb_1, zb_0, hsh3, hwm, hv, hn, and_self, if_true, not_true_eq_false, if_false, ne_eq, not_false_eq_true, hly I1 (fun c hc => hfr c (by omega) (by omega) (by omega)), hcd]
  · have hw : 0 ≤ w ∧ w < nI m := of_decide_eq_true hok
    have hsh3 := sh_iff.mp hsh
    have hwm := eq_true ((wk_iff hn).mpr hw)
    have h10 : I1 10 = I 10 := hfr 10 (by decide) (by decide) (by decide)
    have hpl : ∀ k, k < 6 → I1 (k + 15) = I (k + 15) := fun k hk => hfr _ (by omega) (by omega) (by omega)
    have hM : I 55 6 = nI N := by
      obtain ⟨-, -, -, -, -, N', ⟨-, n2, n3, -⟩, -⟩ := id hI
      rw [n3, ← n2, hN]
    have hc := pb_c (L := L) (xs := xs) (d := d) (J := J) (lo := -9) hN h1 h10 hpl hI1n hm (fun k hk => ⟨(hst k hk).1, (hst k hk).2.2⟩)
    generalize hA : cPl N (I 10 3) (cF I) st (-9) 0 m (cBg 23 I1) (-9) = A at hc
    obtain ⟨a, P, u⟩ := A
    dsimp only at hc
    by_cases a9 : a = -9
    · subst a9
      have w10 : zsW I1 P u 10 2 = nI N := by rw [zsW_lo _ _ _ (by decide), h10]; exact hN
      have r1 := qX3_rightParts (L := L) (xs := xs) (d := d) (J := J) zPg_23 w10 h1
      rw [zsW_g] at r1
      have hc2 := pb_c (L := L) (xs := xs) (d := d) (J := J) (lo := w) (I := I) (I1 := zsW I1 P u) (N := N) (m := m) (st := st) hN h1 (by rw [zsW_lo _ _ _ (by decide), h10]) (fun k hk => by rw [zsW_lo _ _ _ (by omega), hpl k hk]) (by rw [zsW_lo _ _ _ (by decide)]; exact hI1n) hm (fun k hk => ⟨by rw [zsW_lo _ _ _ (by decide)]; exact (hst k hk).1, (hst k hk).2.2⟩)
      generalize hA2 : cPl N (I 10 3) (cF I) st w 0 m (cBg 23 (zsW I1 P u)) (-9) = A2 at hc2
      obtain ⟨a2, P2, u2⟩ := A2
      dsimp only at hc2
      rw [zsW_W] at hc2
      have l1 := hly (zsW I1 P2 u2) (fun c hc => by rw [zsW_lo _ _ _ (by omega), hfr c (by omega) (by omega) (by omega)])
      generalize hK : zU (zUr (zU (zsW I1 P2 u2) 55 0 0) 68 row) 55 23 (nI m) = K at l1
      have k55 : ∀ k, k ≠ 0 → k ≠ 23 → K 55 k = I 55 k := fun k x y => by
        rw [← hK, zU_k _ _ _ y, zUr_ne _ _ (by decide), zU_k _ _ _ x, zsW_lo _ _ _ (by decide), hfr 55 (by decide) (by decide) (by decide)]
      have kc : ∀ c, 56 ≤ c → c ≠ 68 → K c = I c := fun c x y => by
        rw [← hK, zU_ne _ _ _ (by omega), zUr_ne _ _ y, zU_ne _ _ _ (by omega), zsW_lo _ _ _ (by omega), hfr c (by omega) (by omega) (by omega)]
      have hKn : K 55 23 = nI m := by rw [← hK, zU_at]
      have hKs : ∀ k, k < m → K 68 k = nI (st k) ∧ pOk N (st k) := fun k hk => ⟨by rw [← hK, zU_ne _ _ _ (by decide), zUr_self]; exact (hst k hk).2.1, (hst k hk).2.2⟩
      have hg := pb_m (L := L) (xs := xs) (d := d) (J := J) (lo := -9) (K := K) (st := st) hM h1 (fun k hk => k55 k (by omega) (by omega)) hI.1.2.2 (fun c x y => kc c (by omega) (by omega)) hKn hm hKs
      obtain ⟨q1, -, q3⟩ := pb_eq (I := I) (I1 := I1) (K := K) (N := N) (m := m) (st := st) (lo := -9) (u := K 55 21) hI hN h1 hpl (kc 60 (by decide) (by decide)) hm (fun k hk => (hst k hk).2.2)
      have q3 := q3 rfl
      rw [hA] at q1 q3
      generalize hB : mPl N (I 55 5) (mF I) st (-9) 0 0 m (mBg N K) (K 55 21) = B at hg q1 q3
      obtain ⟨b, Q, z⟩ := B
      dsimp only at hg q1 q3
      subst q3
      have inv : zInv (zsM K Q z) := inv_pl hI hfr h05 hf hK.symm
      have w10 : zsW I1 P2 u2 10 2 = nI N := by rw [zsW_lo _ _ _ (by decide), h10]; exact hN
      have m6 : zsM K Q z 55 6 = nI N := by rw [zsM_55 _ _ _ (by decide) (by decide) (by decide), k55 6 (by decide) (by decide)]; exact hM
      have hg2 := pb_m (L := L) (xs := xs) (d := d) (J := J) (lo := w) (I := I) (K := zsM K Q z) (N := N) (m := m) (st := st) hM h1 (fun k hk => by rw [zsM_55 _ _ _ (by omega) (by omega) (by omega), k55 k (by omega) (by omega)]) hI.1.2.2 (fun c x y => by rw [zsM_ne _ _ _ (by omega) (by omega) (by omega) (by omega), kc c (by omega) (by omega)]) (by rw [zsM_55 _ _ _ (by decide) (by decide) (by decide)]; exact hKn) hm (fun k hk => by rw [zsM_ne _ _ _ (by decide) (by decide) (by decide) (by decide)]; exact hKs k hk)
      obtain ⟨p1, p2, -⟩ := pb_eq (I := I) (I1 := zsW I1 P u) (K := zsM K Q z) (N := N) (m := m) (st := st) (lo := w) (u := zsM K Q z 55 21) hI hN h1 (fun k hk => by rw [zsW_lo _ _ _ (by omega), hpl k hk]) (by rw [zsM_ne _ _ _ (by decide) (by decide) (by decide) (by decide), kc 60 (by decide) (by decide)]) hm (fun k hk => (hst k hk).2.2)
      rw [hA2] at p1 p2
      generalize hB2 : mPl N (I 55 5) (mF I) st w 0 0 m (mBg N (zsM K Q z)) (zsM K Q z 55 21) = B2 at hg2 p1 p2
      obtain ⟨b2, Q2, z2⟩ := B2
      dsimp only at hg2 p1 p2
      rw [zsM_s] at hg2
      have inv2 : zInv (zsM K Q2 z2) := inv_pl hI hfr h05 hf hK.symm
      have n6 : zsM K Q2 z2 55 6 = nI N := by rw [zsM_55 _ _ _ (by decide) (by decide) (by decide), k55 6 (by decide) (by decide)]; exact hM
      have r2 := qX9_rightNow (L := L) (xs := xs) (d := d) (J := J) m6 h1
      rw [zsM_g, ← q1.rt] at r2
      have s1 := qX3_rightParts (L := L) (xs := xs) (d := d) (J := J) zPg_23 w10 h1
      rw [zsW_g] at s1
      have s2 := qX9_rightNow (L := L) (xs := xs) (d := d) (J := J) n6 h1
      rw [zsM_g, ← p1.rt] at s2
      by_cases a29 : a2 = -9
      · have b29 := p2.mp a29
        refine ⟨(pRt N P - pRt N P2), zsW I1 P2 u2, zsM K Q2 z2, J, J, hcom.trans ?_, ?_, inv2⟩
        · simp only [eX8_worth_26, eX8_worth_29, eX8_worth_32, eX8_worth_33, eX8_worth_34, eX8_worth_37, eX8_worth_38, eX8_worth_41, eX8_worth_42, eX8_worth_45, eX8_worth_47, eX8_worth_50, eX8_worth_52, eX8_worth_55, eX8_worth_58, eX8_worth_59, eX8_worth_60, eX8_worth_63, eX8_worth_64, eX8_worth_67, eX8_worth_70, eX8_worth_72, eX8_worth_73, eX8_worth_76, eX8_worth_77, eX8_worth_80, eX8_worth_81, eX8_worth_84, eX8_worth_86, eX8_worth_89, eX8_worth_91, eX8_worth_94, eX8_worth_97, eX8_worth_98, eX8_worth_100, eX8_worth_101, eX8_worth_104, eX8_worth_105, eX8_worth_108, eX8_worth_111, eX8_worth_112, Option.bind_some, Option.toList_some, Option.toList_none, List.cons_append, List.nil_append, G_o0, G_h0_1, G_r0_1, G_h0_2, G_r0_2, G_h0_3, G_r0_3, G_o10, G_o23, if_true, hc, r1, hc2, eq_true a29, s1]
        · simp only [nX9_worth, eX9_worth_0, eX9_worth_1, eX9_worth_2, eX9_worth_5, eX9_worth_6, eX9_worth_9, eX9_worth_12, eX9_worth_13, eX9_worth_15, eX9_worth_18, eX9_worth_21, eX9_worth_23, eX9_worth_24, eX9_worth_26, eX9_worth_27, eX9_worth_28, eX9_worth_31, eX9_worth_34, eX9_worth_37, eX9_worth_38, eX9_worth_39, eX9_worth_40, eX9_worth_41, eX9_worth_42, eX9_worth_44, eX9_worth_47, eX9_worth_50, eX9_worth_51, eX9_worth_53, eX9_worth_56, eX9_worth_58, eX9_worth_61, eX9_worth_64, eX9_worth_65, eX9_worth_66, eX9_worth_69, eX9_worth_71, eX9_worth_72, eX9_worth_74, eX9_worth_77, eX9_worth_79, eX9_worth_82, eX9_worth_84, eX9_worth_85, eX9_worth_88, eX9_worth_89, eX9_worth_92, eX9_worth_95, Option.bind_some, Option.toList_some, Option.toList_none, List.cons_append, List.nil_append, G_o55, qX9_isSheet, qX9_isPlan, qX9_within, zb_1, zb_0, hsh3, hwm, hv, hn, and_self, if_true, not_true_eq_false, if_false, ne_eq, not_false_eq_true, l1, hg, r2, hg2, eq_true b29, s2]
      · have b29 := fun x => a29 (p2.mpr x)
        refine ⟨(-9223372036854775808), zsW I1 P2 u2, zsM K Q2 z2, J, J, hcom.trans ?_, ?_, inv2⟩
        · simp only [eX8_worth_26, eX8_worth_29, eX8_worth_32, eX8_worth_33, eX8_worth_34, eX8_worth_37, eX8_worth_38, eX8_worth_41, eX8_worth_42, eX8_worth_45, eX8_worth_47, eX8_worth_50, eX8_worth_52, eX8_worth_55, eX8_worth_58, eX8_worth_59, eX8_worth_60, eX8_worth_63, eX8_worth_64, eX8_worth_67, eX8_worth_70, eX8_worth_72, eX8_worth_73, eX8_worth_76, eX8_worth_77, eX8_worth_80, eX8_worth_81, eX8_worth_84, eX8_worth_86, eX8_worth_89, eX8_worth_91, eX8_worth_94, eX8_worth_97, Option.bind_some, Option.toList_some, Option.toList_none, List.cons_append, List.nil_append, G_o0, G_h0_1, G_r0_1, G_h0_2, G_r0_2, G_h0_3, G_r0_3, G_o10, G_o23, if_true, hc, r1, hc2, eq_false a29, if_false]
        · simp only [nX9_worth, eX9_worth_0, eX9_worth_1, eX9_worth_2, eX9_worth_5, eX9_worth_6, eX9_worth_9, eX9_worth_12, eX9_worth_13, eX9_worth_15, eX9_worth_18, eX9_worth_21, eX9_worth_23, eX9_worth_24, eX9_worth_26, eX9_worth_27, eX9_worth_28, eX9_worth_31, eX9_worth_34, eX9_worth_37, eX9_worth_38, eX9_worth_39, eX9_worth_40, eX9_worth_41, eX9_worth_42, eX9_worth_44, eX9_worth_47, eX9_worth_50, eX9_worth_51, eX9_worth_53, eX9_worth_56, eX9_worth_58, eX9_worth_61, eX9_worth_64, eX9_worth_65, eX9_worth_66, eX9_worth_69, eX9_worth_71, eX9_worth_72, eX9_worth_74, eX9_worth_77, eX9_worth_79, eX9_worth_82, eX9_worth_84, eX9_worth_85, eX9_worth_88, eX9_worth_89, eX9_worth_92, eX9_worth_95, Option.bind_some, Option.toList_some, Option.toList_none, List.cons_append, List.nil_append, G_o55, qX9_isSheet, qX9_isPlan, qX9_within, zb_1, zb_0, hsh3, hwm, hv, hn, and_self, if_true, not_true_eq_false, if_false, ne_eq, not_false_eq_true, l1, hg, r2, hg2, eq_false b29]
    · skip
      have l1 := hly (zsW I1 P u) (fun c hc => by rw [zsW_lo _ _ _ (by omega), hfr c (by omega) (by omega) (by omega)])
      generalize hK : zU (zUr (zU (zsW I1 P u) 55 0 0) 68 row) 55 23 (nI m) = K at l1
      have k55 : ∀ k, k ≠ 0 → k ≠ 23 → K 55 k = I 55 k := fun k x y => by
        rw [← hK, zU_k _ _ _ y, zUr_ne _ _ (by decide), zU_k _ _ _ x, zsW_lo _ _ _ (by decide), hfr 55 (by decide) (by decide) (by decide)]
      have kc : ∀ c, 56 ≤ c → c ≠ 68 → K c = I c := fun c x y => by
        rw [← hK, zU_ne _ _ _ (by omega), zUr_ne _ _ y, zU_ne _ _ _ (by omega), zsW_lo _ _ _ (by omega), hfr c (by omega) (by omega) (by omega)]
      have hKn : K 55 23 = nI m := by rw [← hK, zU_at]
      have hKs : ∀ k, k < m → K 68 k = nI (st k) ∧ pOk N (st k) := fun k hk => ⟨by rw [← hK, zU_ne _ _ _ (by decide), zUr_self]; exact (hst k hk).2.1, (hst k hk).2.2⟩
      have hg := pb_m (L := L) (xs := xs) (d := d) (J := J) (lo := -9) (K := K) (st := st) hM h1 (fun k hk => k55 k (by omega) (by omega)) hI.1.2.2 (fun c x y => kc c (by omega) (by omega)) hKn hm hKs
      obtain ⟨q1, -, q3⟩ := pb_eq (I := I) (I1 := I1) (K := K) (N := N) (m := m) (st := st) (lo := -9) (u := K 55 21) hI hN h1 hpl (kc 60 (by decide) (by decide)) hm (fun k hk => (hst k hk).2.2)
      have q3 := q3 rfl
      rw [hA] at q1 q3
      generalize hB : mPl N (I 55 5) (mF I) st (-9) 0 0 m (mBg N K) (K 55 21) = B at hg q1 q3
      obtain ⟨b, Q, z⟩ := B
      dsimp only at hg q1 q3
      subst q3
      have inv : zInv (zsM K Q z) := inv_pl hI hfr h05 hf hK.symm
      have w10 : zsW I1 P u 10 2 = nI N := by rw [zsW_lo _ _ _ (by decide), h10]; exact hN
      have m6 : zsM K Q z 55 6 = nI N := by rw [zsM_55 _ _ _ (by decide) (by decide) (by decide), k55 6 (by decide) (by decide)]; exact hM
      refine ⟨(-9223372036854775808), zsW I1 P u, zsM K Q z, J, J, hcom.trans ?_, ?_, inv⟩
      · simp only [eX8_worth_26, eX8_worth_29, eX8_worth_32, eX8_worth_33, eX8_worth_34, eX8_worth_37, eX8_worth_38, eX8_worth_41, eX8_worth_42, eX8_worth_45, eX8_worth_47, eX8_worth_50, eX8_worth_52, eX8_worth_55, eX8_worth_58, Option.bind_some, Option.toList_some, Option.toList_none, List.cons_append, List.nil_append, G_o0, G_h0_1, G_r0_1, G_h0_2, G_r0_2, G_h0_3, G_r0_3, G_o10, G_o23, if_true, hc, a9, if_false]
      · simp only [nX9_worth, eX9_worth_0, eX9_worth_1, eX9_worth_2, eX9_worth_5, eX9_worth_6, eX9_worth_9, eX9_worth_12, eX9_worth_13, eX9_worth_15, eX9_worth_18, eX9_worth_21, eX9_worth_23, eX9_worth_24, eX9_worth_26, eX9_worth_27, eX9_worth_28, eX9_worth_31, eX9_worth_34, eX9_worth_37, eX9_worth_38, eX9_worth_39, eX9_worth_40, eX9_worth_41, eX9_worth_42, eX9_worth_44, eX9_worth_47, eX9_worth_50, eX9_worth_51, eX9_worth_53, eX9_worth_56, eX9_worth_58, eX9_worth_61, eX9_worth_64, Option.bind_some, Option.toList_some, Option.toList_none, List.cons_append, List.nil_append, G_o55, qX9_isSheet, qX9_isPlan, qX9_within, zb_1, zb_0, hsh3, hwm, hv, hn, and_self, if_true, not_true_eq_false, if_false, ne_eq, not_false_eq_true, l1, hg, a9]

end S
