set_option maxHeartbeats 1000000 in
theorem hs_iff {w : Int32} : (w = 0 ∨ w = 1) ↔ (0 ≤ w ∧ w ≤ 1) := by
  constructor
  · rintro (rfl | rfl) <;> decide
  · intro h; grind
section S
variable {L : Nat} {xs : Nat → Int32} {d : Nat} {J : Nat → Nat → Int64}
set_option maxHeartbeats 1000000 in
theorem op_right {I : Nat → Nat → Int32} (hI : zInv I) (sh v i n w : Int32) : zOpL L xs d 53 123 [.int sh, .int v, .int i, .int n, .int w] I J := by
  obtain ⟨code, I1, ht, hfr, h05, hcs⟩ := take_cases (L := L) (xs := xs) (d := d) (J := J) hI sh v i n (decide (w = 0 ∨ w = 1))
  rw [← zb_ok (dp := inferInstance)] at ht
  rcases hcs with ⟨hsh, rfl, hf⟩ | ⟨hsh, hfl, rfl, hf⟩ | ⟨hsh, ⟨hv, hn, hok⟩, hcd, hly⟩ | ⟨hsh, ⟨hv, hn, hok⟩, rfl, hf, N, m, st, row, ⟨hN0, h1, hN⟩, ⟨rfl, hm⟩, hI1n, hst, hly⟩
  · refine ⟨(-9223372036854775808), I1, zU I1 55 0 0, J, J, ?_, ?_, inv_fl hI hfr h05 hf⟩
    · simp only [nX8_right, eX8_right_0, eX8_right_1, eX8_right_2, eX8_right_3, eX8_right_4, eX8_right_6, eX8_right_8, eX8_right_11, eX8_right_14, eX8_right_17, eX8_right_20, Option.bind_some, Option.toList_some, Option.toList_none, List.cons_append, List.nil_append, G_o0, qX8_isHalfOfShare, ht, show ((-1 : Int32) = 0) = False from by decide, if_false]
    · simp only [nX9_right, eX9_right_0, eX9_right_1, eX9_right_2, eX9_right_5, eX9_right_6, eX9_right_9, eX9_right_12, eX9_right_13, eX9_right_15, eX9_right_18, eX9_right_21, eX9_right_23, eX9_right_24, eX9_right_25, eX9_right_28, eX9_right_31, eX9_right_34, Option.bind_some, Option.toList_some, Option.toList_none, List.cons_append, List.nil_append, G_o55, qX9_isSheet, zb_0, ← sh_iff, hsh, not_false_eq_true, if_true]
  · have hsh3 := sh_iff.mp hsh
    refine ⟨(-9223372036854775808), I1, zU I1 55 0 0, J, J, ?_, ?_, inv_fl hI hfr h05 hf⟩
    · simp only [nX8_right, eX8_right_0, eX8_right_1, eX8_right_2, eX8_right_3, eX8_right_4, eX8_right_6, eX8_right_8, eX8_right_11, eX8_right_14, eX8_right_17, eX8_right_20, Option.bind_some, Option.toList_some, Option.toList_none, List.cons_append, List.nil_append, G_o0, qX8_isHalfOfShare, ht, show ((-2 : Int32) = 0) = False from by decide, if_false]
    · by_cases hvn : (0 ≤ v ∧ v ≤ 2) ∧ 0 ≤ n ∧ n ≤ 20
      · have hw : ¬ (w = 0 ∨ w = 1) := fun x => hfl ⟨hvn.1, hvn.2, decide_eq_true x⟩
        have hwm := eq_false (fun x => hw (hs_iff.mpr x))
        simp only [nX9_right, eX9_right_0, eX9_right_1, eX9_right_2, eX9_right_5, eX9_right_6, eX9_right_9, eX9_right_12, eX9_right_13, eX9_right_15, eX9_right_18, eX9_right_21, eX9_right_23, eX9_right_24, eX9_right_25, eX9_right_28, eX9_right_31, eX9_right_34, Option.bind_some, Option.toList_some, Option.toList_none, List.cons_append, List.nil_append, G_o55, qX9_isSheet, qX9_isPlan, qX9_within, zb_1, zb_0, hsh3, hwm, and_self, if_true, hvn, not_true_eq_false, if_false]
      · simp only [nX9_right, eX9_right_0, eX9_right_1, eX9_right_2, eX9_right_5, eX9_right_6, eX9_right_9, eX9_right_12, eX9_right_13, eX9_right_15, eX9_right_18, eX9_right_21, eX9_right_23, eX9_right_24, eX9_right_25, eX9_right_28, eX9_right_31, eX9_right_34, Option.bind_some, Option.toList_some, Option.toList_none, List.cons_append, List.nil_append, G_o55, qX9_isSheet, qX9_isPlan, zb_1, zb_0, hsh3, and_self, if_true, hvn, not_true_eq_false, not_false_eq_true, if_false]
  · have hw : w = 0 ∨ w = 1 := of_decide_eq_true hok
    have hsh3 := sh_iff.mp hsh
    have hwm := eq_true (hs_iff.mp hw)
    refine ⟨(-9223372036854775808), I1, zU I1 55 0 (I1 0 6), J, J, ?_, ?_, inv_fl hI hfr h05 rfl⟩
    · simp only [nX8_right, eX8_right_0, eX8_right_1, eX8_right_2, eX8_right_3, eX8_right_4, eX8_right_6, eX8_right_8, eX8_right_11, eX8_right_14, eX8_right_17, eX8_right_20, Option.bind_some, Option.toList_some, Option.toList_none, List.cons_append, List.nil_append, G_o0, qX8_isHalfOfShare, ht, hcd, if_false]
    · simp only [nX9_right, eX9_right_0, eX9_right_1, eX9_right_2, eX9_right_5, eX9_right_6, eX9_right_9, eX9_right_12, eX9_right_13, eX9_right_15, eX9_right_18, eX9_right_21, eX9_right_23, eX9_right_24, eX9_right_25, eX9_right_28, eX9_right_31, eX9_right_34, eX9_right_35, eX9_right_36, eX9_right_37, eX9_right_38, eX9_right_39, eX9_right_41, eX9_right_44, eX9_right_47, eX9_right_48, eX9_right_50, eX9_right_53, eX9_right_55, eX9_right_58, eX9_right_61, Option.bind_some, Option.toList_some, Option.toList_none, List.cons_append, List.nil_append, G_o55, qX9_isSheet, qX9_isPlan, qX9_within, zb_1, zb_0, hsh3, hwm, hv, hn, and_self, if_true, not_true_eq_false, if_false, hly I1 (fun c hc => hfr c (by omega) (by omega) (by omega)), ne_eq, hcd, not_false_eq_true]
  · have hw : w = 0 ∨ w = 1 := of_decide_eq_true hok
    have hsh3 := sh_iff.mp hsh
    have hwm := eq_true (hs_iff.mp hw)
    have h10 : I1 10 = I 10 := hfr 10 (by decide) (by decide) (by decide)
    have hpl : ∀ k, k < 6 → I1 (k + 15) = I (k + 15) := fun k hk => hfr _ (by omega) (by omega) (by omega)
    have hM : I 55 6 = nI N := by
      obtain ⟨-, -, -, -, -, N', ⟨-, n2, n3, -⟩, -⟩ := id hI
      rw [n3, ← n2, hN]
    have hc := pb_c (L := L) (xs := xs) (d := d) (J := J) (lo := -9) hN h1 h10 hpl hI1n hm (fun k hk => ⟨(hst k hk).1, (hst k hk).2.2⟩)
    generalize hA : cPl N (I 10 3) (cF I) st (-9) 0 m (cBg 23 I1) (-9) = A at hc
    obtain ⟨a, P, u⟩ := A
    dsimp only at hc
    have l1 := hly (zsW I1 P u) (fun c hc => by rw [zsW_lo _ _ _ (by omega), hfr c (by omega) (by omega) (by omega)])
    generalize hK : zU (zUr (zU (zsW I1 P u) 55 0 0) 68 row) 55 23 (nI m) = K at l1
    have k55 : ∀ k, k ≠ 0 → k ≠ 23 → K 55 k = I 55 k := fun k x y => by
      rw [← hK, zU_k _ _ _ y, zUr_ne _ _ (by decide), zU_k _ _ _ x, zsW_lo _ _ _ (by decide), hfr 55 (by decide) (by decide) (by decide)]
    have kc : ∀ c, 56 ≤ c → c ≠ 68 → K c = I c := fun c x y => by
      rw [← hK, zU_ne _ _ _ (by omega), zUr_ne _ _ y, zU_ne _ _ _ (by omega), zsW_lo _ _ _ (by omega), hfr c (by omega) (by omega) (by omega)]
    have hKn : K 55 23 = nI m := by rw [← hK, zU_at]
    have hKs : ∀ k, k < m → K 68 k = nI (st k) ∧ pOk N (st k) := fun k hk => ⟨by rw [← hK, zU_ne _ _ _ (by decide), zUr_self]; exact (hst k hk).2.1, (hst k hk).2.2⟩
    have hg := pb_m (L := L) (xs := xs) (d := d) (J := J) (lo := -9) (K := K) (st := st) hM h1 (fun k hk => k55 k (by omega) (by omega)) hI.1.2.2 (fun c x y => kc c (by omega) (by omega)) hKn hm hKs
    obtain ⟨q1, -, q3⟩ := pb_eq (I := I) (I1 := I1) (K := K) (N := N) (m := m) (st := st) (lo := -9) (u := K 55 21) hI hN h1 hpl (kc 60 (by decide) (by decide)) hm (fun k hk => (hst k hk).2.2)
    have q3 := q3 rfl
    rw [hA] at q1 q3
    generalize hB : mPl N (I 55 5) (mF I) st (-9) 0 0 m (mBg N K) (K 55 21) = B at hg q1 q3
    obtain ⟨b, Q, z⟩ := B
    dsimp only at hg q1 q3
    subst q3
    have inv : zInv (zsM K Q z) := inv_pl hI hfr h05 hf hK.symm
    have w10 : zsW I1 P u 10 2 = nI N := by rw [zsW_lo _ _ _ (by decide), h10]; exact hN
    have m6 : zsM K Q z 55 6 = nI N := by rw [zsM_55 _ _ _ (by decide) (by decide) (by decide), k55 6 (by decide) (by decide)]; exact hM
    by_cases a9 : a = -9
    · subst a9
      obtain ⟨x, hx, ex⟩ := pRt_N h1 q1
      have ex2 := q1.rt.symm.trans ex
      have r1 := qX3_rightParts (L := L) (xs := xs) (d := d) (J := J) zPg_23 w10 h1
      rw [zsW_g, ex] at r1
      have r2 := qX9_rightNow (L := L) (xs := xs) (d := d) (J := J) m6 h1
      rw [zsM_g, ex2] at r2
      have p1 := qX0_wholeParts (L := L) (xs := xs) (d := d) (J := J) w10 h1
      have p2 := qX9_parts (L := L) (xs := xs) (d := d) (J := J) m6 h1
      rw [ten_N] at p1 p2
      have t60 := ten_lt (n := N + (N - 1)) (by omega)
      have s1 := qX8_shareOf (L := L) (xs := xs) (d := d) (J := J) (I := zsW I1 P u) (w := w) (u := x) (l := 10 ^ (N + (N - 1))) (by omega) t60 (Nat.pow_pos (by decide))
      have s2 := qX9_inLeastTerms (L := L) (xs := xs) (d := d) (J := J) (I := zsM K Q z) (w := w) (u := x) (l := 10 ^ (N + (N - 1))) (by omega) t60 (Nat.pow_pos (by decide))
      refine ⟨(shr w x (10 ^ (N + (N - 1)))), zsW I1 P u, zsM K Q z, J, J, ?_, ?_, inv⟩
      · simp only [nX8_right, eX8_right_0, eX8_right_1, eX8_right_2, eX8_right_3, eX8_right_4, eX8_right_6, eX8_right_8, eX8_right_11, eX8_right_14, eX8_right_17, eX8_right_20, eX8_right_21, eX8_right_22, eX8_right_25, eX8_right_26, eX8_right_29, eX8_right_30, eX8_right_33, eX8_right_35, eX8_right_38, eX8_right_40, eX8_right_43, eX8_right_46, eX8_right_47, eX8_right_48, eX8_right_51, eX8_right_52, eX8_right_55, eX8_right_58, eX8_right_59, eX8_right_62, eX8_right_65, eX8_right_67, eX8_right_70, Option.bind_some, Option.toList_some, Option.toList_none, List.cons_append, List.nil_append, G_o0, G_h0_1, G_r0_1, G_h0_2, G_r0_2, G_h0_3, G_r0_3, G_o10, G_o23, qX8_isHalfOfShare, ht, if_true, hc, r1, p1, s1]
      · simp only [nX9_right, eX9_right_0, eX9_right_1, eX9_right_2, eX9_right_5, eX9_right_6, eX9_right_9, eX9_right_12, eX9_right_13, eX9_right_15, eX9_right_18, eX9_right_21, eX9_right_23, eX9_right_24, eX9_right_25, eX9_right_28, eX9_right_31, eX9_right_34, eX9_right_35, eX9_right_36, eX9_right_37, eX9_right_38, eX9_right_39, eX9_right_41, eX9_right_44, eX9_right_47, eX9_right_48, eX9_right_50, eX9_right_53, eX9_right_55, eX9_right_58, eX9_right_61, eX9_right_62, eX9_right_63, eX9_right_66, eX9_right_67, eX9_right_70, eX9_right_72, eX9_right_75, Option.bind_some, Option.toList_some, Option.toList_none, List.cons_append, List.nil_append, G_o55, qX9_isSheet, qX9_isPlan, qX9_within, zb_1, zb_0, hsh3, hwm, hv, hn, and_self, if_true, not_true_eq_false, if_false, l1, ne_eq, hg, not_false_eq_true, r2, p2, s2]
    · refine ⟨(-9223372036854775808), zsW I1 P u, zsM K Q z, J, J, ?_, ?_, inv⟩
      · simp only [nX8_right, eX8_right_0, eX8_right_1, eX8_right_2, eX8_right_3, eX8_right_4, eX8_right_6, eX8_right_8, eX8_right_11, eX8_right_14, eX8_right_17, eX8_right_20, eX8_right_21, eX8_right_22, eX8_right_25, eX8_right_26, eX8_right_29, eX8_right_30, eX8_right_33, eX8_right_35, eX8_right_38, eX8_right_40, eX8_right_43, eX8_right_46, Option.bind_some, Option.toList_some, Option.toList_none, List.cons_append, List.nil_append, G_o0, G_h0_1, G_r0_1, G_h0_2, G_r0_2, G_h0_3, G_r0_3, G_o10, G_o23, qX8_isHalfOfShare, ht, if_true, hc, a9, if_false]
      · simp only [nX9_right, eX9_right_0, eX9_right_1, eX9_right_2, eX9_right_5, eX9_right_6, eX9_right_9, eX9_right_12, eX9_right_13, eX9_right_15, eX9_right_18, eX9_right_21, eX9_right_23, eX9_right_24, eX9_right_25, eX9_right_28, eX9_right_31, eX9_right_34, eX9_right_35, eX9_right_36, eX9_right_37, eX9_right_38, eX9_right_39, eX9_right_41, eX9_right_44, eX9_right_47, eX9_right_48, eX9_right_50, eX9_right_53, eX9_right_55, eX9_right_58, eX9_right_61, Option.bind_some, Option.toList_some, Option.toList_none, List.cons_append, List.nil_append, G_o55, qX9_isSheet, qX9_isPlan, qX9_within, zb_1, zb_0, hsh3, hwm, hv, hn, and_self, if_true, not_true_eq_false, if_false, l1, ne_eq, hg, not_false_eq_true, a9]

end S
