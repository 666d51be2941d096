/-- the reference's way through a plan that looks for the first step that makes worse -/
noncomputable def mWs (N : Nat) (mn : Int32) (f : Nat → Nat → Int32) (st : Nat → Nat) (k : Nat) : Nat → zPs → Int32 → Int32 → Int32 × zPs × Int32
  | 0, P, w, z => (z, P, w)
  | r + 1, P, w, z => @ite _ (pCan N mn f (st k) P) (pCan_dec _ _ _ _ _) (mWs N mn f st (k + 1) r (mStp N f (st k) P) (zb (mWr f (st k) P) (mWr_dec _ _ _)) (@ite _ (mWr f (st k) P ∧ z = -9) (Classical.propDecidable _) (nI k) z)) (-100 - nI k, P, w)
set_option maxHeartbeats 1000000 in
theorem ws_eq {N : Nat} {mn : Int32} {f : Nat → Nat → Int32} {st : Nat → Nat} (h1 : N ≤ 6) (hk : pKd N f) : ∀ (r k : Nat) (P Q : zPs) (z u : Int32), pEq N P Q → k + r ≤ 1000 → (∀ j, k ≤ j → j < k + r → pOk N (st j)) → (mWs N mn f st k r Q u z).1 = if (cPl N mn f st (-9) k r P z).1 = -9 then (cPl N mn f st (-9) k r P z).2.2 else -100 - (cPl N mn f st (-9) k r P z).1 := by
  intro r
  induction r with
  | zero =>
    intro k P Q z u h _ _
    simp only [mWs, cPl, if_true]
  | succ r ih =>
    intro k P Q z u h hb hst
    have hok := hst k (by omega) (by omega)
    have hlo : ¬ nI k = -9 := nI_m9 (by omega)
    by_cases hcan : pCan N mn f (st k) P
    · have hcan2 := h.can.mp hcan
      rw [cPl, mWs, if_neg hlo, if_pos hcan, if_pos hcan2]
      obtain ⟨s1, s2⟩ := h.stp h1 hok hk
      have e : (@ite _ (mWr f (st k) Q ∧ z = -9) (Classical.propDecidable _) (nI k) z) = (@ite _ (cWr f (st k) P ∧ z = -9) (Classical.propDecidable _) (nI k) z) := by
        by_cases x : cWr f (st k) P ∧ z = -9
        · rw [if_pos x, if_pos ⟨s2.mp x.1, x.2⟩]
        · rw [if_neg x, if_neg (fun y => x ⟨s2.mpr y.1, y.2⟩)]
      rw [e]
      exact ih (k + 1) _ _ _ _ s1 (by omega) (fun j a b => hst j (by omega) (by omega))
    · have hcan2 : ¬ pCan N mn f (st k) Q := fun x => hcan (h.can.mpr x)
      rw [cPl, mWs, if_neg hlo, if_neg hcan, if_neg hcan2]
      simp only [hlo, if_false]
section S
variable {L : Nat} {xs : Nat → Int32} {d : Nat} {J : Nat → Nat → Int64}
set_option maxHeartbeats 1000000 in
theorem lp_worse {N n : Nat} {I : Nat → Nat → Int32} {st : Nat → Nat} {sh v i nn g : Int32} (hN : I 55 6 = nI N) (h1 : N ≤ 6) (hn : I 55 23 = nI n) (h2 : n ≤ 20) (hf : I 55 22 = 0) (hst : ∀ k, k < n → I 68 k = nI (st k) ∧ pOk N (st k)) : ∀ (r k : Nat) (P : zPs) (w z : Int32), k + r = n → zX zCd (zGG L xs) d 124 56 [.ref 55, .int sh, .int v, .int i, .int nn, .int g, .int z, .int (nI k)] [] (zsM I P w, J) = some (some (.int (mWs N (I 55 5) (mF I) st k r P w z).1), (zsM I (mWs N (I 55 5) (mF I) st k r P w z).2.1 (mWs N (I 55 5) (mF I) st k r P w z).2.2, J)) := by
  intro r
  induction r with
  | zero =>
    intro k P w z h
    obtain rfl : k = n := by omega
    rw [eX9_worse_56]
    simp only [eX9_worse_58, eX9_worse_59, eX9_worse_62, eX9_worse_114, eX9_worse_116, G_o55, zsM_55 I P w (show 23 ≠ 16 by decide) (show 23 ≠ 17 by decide) (show 23 ≠ 21 by decide), hn, Int32.le_refl, if_true, mWs]
  | succ r ih =>
    intro k P w z h
    obtain ⟨hk, hok⟩ := hst k (by omega)
    have w23 : zsM I P w 55 23 = nI n := by rw [zsM_55 I P w (by decide) (by decide) (by decide)]; exact hn
    have w68 : zsM I P w 68 = I 68 := zsM_ne I P w (by decide) (by decide) (by decide) (by decide)
    have hN' : zsM I P w 55 6 = nI N := by rw [zsM_55 I P w (by decide) (by decide) (by decide)]; exact hN
    have hf' : zsM I P w 55 22 = 0 := by rw [zsM_55 I P w (by decide) (by decide) (by decide)]; exact hf
    have h5' : zsM I P w 55 5 = I 55 5 := zsM_55 I P w (by decide) (by decide) (by decide)
    have c1 : (nI n ≤ nI k) = False := by rw [zle (show n ≤ 1000000 by omega) (show k ≤ 1000000 by omega)]; exact eq_false (by omega)
    rw [eX9_worse_56]
    by_cases hc : pCan N (I 55 5) (mF I) (st k) P
    · have hm := qX9_mayStep (L := L) (xs := xs) (d := d) (J := J) hN' h1 hok hf'
      rw [mF_M, zsM_g, h5', zb_t hc] at hm
      have sy := qX9_stepY (L := L) (xs := xs) (d := d) (J := J) hN' h1 hok hm
      rw [mF_M, zsM_g, zsM_s] at sy
      have e0 : mWs N (I 55 5) (mF I) st k (r + 1) P w z = mWs N (I 55 5) (mF I) st (k + 1) r (mStp N (mF I) (st k) P) (zb (mWr (mF I) (st k) P) (mWr_dec _ _ _)) (@ite _ (mWr (mF I) (st k) P ∧ z = -9) (Classical.propDecidable _) (nI k) z) := by
        rw [mWs, if_pos hc]
      rw [e0]
      by_cases hz : z = -9
      · by_cases hw : mWr (mF I) (st k) P
        · rw [if_pos ⟨hw, hz⟩]
          rw [zb_t hw] at sy ⊢
          simp only [eX9_worse_58, eX9_worse_59, eX9_worse_62, eX9_worse_65, eX9_worse_66, eX9_worse_67, eX9_worse_70, eX9_worse_72, eX9_worse_73, eX9_worse_76, eX9_worse_79, eX9_worse_81, eX9_worse_83, eX9_worse_84, eX9_worse_85, eX9_worse_87, eX9_worse_89, eX9_worse_92, eX9_worse_93, eX9_worse_96, eX9_worse_99, eX9_worse_101, eX9_worse_104, eX9_worse_106, eX9_worse_108, eX9_worse_111, Option.bind_some, Option.toList_some, Option.toList_none, List.cons_append, List.nil_append, G_o55, G_h55_24, G_r55_24, G_a68, G_l68, w23, w68, c1, if_false, zIn_20 (show k < 20 by omega), zc_n (show k ≤ 1000 by omega), hk, sy, show ((1 : Int32) ≠ 0) = True from by decide, show ((1 : Int32) = 0) = False from by decide, if_true, ne_eq, eq_true hz, not_true_eq_false, zsM_21, nI_1]
          exact ih (k + 1) _ _ _ (by omega)
        · rw [if_neg (fun x => hw x.1)]
          rw [zb_f hw] at sy ⊢
          simp only [eX9_worse_58, eX9_worse_59, eX9_worse_62, eX9_worse_65, eX9_worse_66, eX9_worse_67, eX9_worse_70, eX9_worse_72, eX9_worse_73, eX9_worse_76, eX9_worse_79, eX9_worse_81, eX9_worse_83, eX9_worse_84, eX9_worse_85, eX9_worse_87, eX9_worse_89, eX9_worse_92, eX9_worse_93, eX9_worse_96, eX9_worse_99, eX9_worse_101, eX9_worse_104, eX9_worse_106, eX9_worse_108, eX9_worse_111, Option.bind_some, Option.toList_some, Option.toList_none, List.cons_append, List.nil_append, G_o55, G_h55_24, G_r55_24, G_a68, G_l68, w23, w68, c1, if_false, zIn_20 (show k < 20 by omega), zc_n (show k ≤ 1000 by omega), hk, sy, show ((1 : Int32) ≠ 0) = True from by decide, show ((1 : Int32) = 0) = False from by decide, if_true, ne_eq, eq_true hz, not_true_eq_false, zsM_21, nI_1]
          exact ih (k + 1) _ _ _ (by omega)
      · rw [if_neg (fun x => hz x.2)]
        simp only [eX9_worse_58, eX9_worse_59, eX9_worse_62, eX9_worse_65, eX9_worse_66, eX9_worse_67, eX9_worse_70, eX9_worse_72, eX9_worse_73, eX9_worse_76, eX9_worse_79, eX9_worse_81, eX9_worse_83, eX9_worse_84, eX9_worse_85, eX9_worse_87, eX9_worse_89, eX9_worse_92, eX9_worse_93, eX9_worse_96, eX9_worse_99, eX9_worse_101, eX9_worse_104, eX9_worse_106, eX9_worse_108, eX9_worse_111, Option.bind_some, Option.toList_some, Option.toList_none, List.cons_append, List.nil_append, G_o55, G_h55_24, G_r55_24, G_a68, G_l68, w23, w68, c1, if_false, zIn_20 (show k < 20 by omega), zc_n (show k ≤ 1000 by omega), hk, sy, show ((1 : Int32) ≠ 0) = True from by decide, show ((1 : Int32) = 0) = False from by decide, if_true, ne_eq, eq_false hz, not_false_eq_true, nI_1]
        exact ih (k + 1) _ _ _ (by omega)
    · have sn := qX9_stepN (L := L) (xs := xs) (d := d) (J := J) hN' h1 hok hf' (by rw [mF_M, zsM_g, h5']; exact hc)
      have e0 : mWs N (I 55 5) (mF I) st k (r + 1) P w z = (-100 - nI k, P, w) := by
        rw [mWs, if_neg hc]
      rw [e0]
      simp only [eX9_worse_58, eX9_worse_59, eX9_worse_62, eX9_worse_65, eX9_worse_66, eX9_worse_67, eX9_worse_70, eX9_worse_72, eX9_worse_73, eX9_worse_76, eX9_worse_79, eX9_worse_81, eX9_worse_83, eX9_worse_84, Option.bind_some, Option.toList_some, Option.toList_none, List.cons_append, List.nil_append, G_o55, G_h55_24, G_r55_24, G_a68, G_l68, w23, w68, c1, if_false, zIn_20 (show k < 20 by omega), zc_n (show k ≤ 1000 by omega), hk, sn, ne_eq, not_true_eq_false]
set_option maxHeartbeats 1000000 in
theorem op_worse {I : Nat → Nat → Int32} (hI : zInv I) (sh v i n : Int32) : zOp L xs d 54 124 [.int sh, .int v, .int i, .int n] I J := by
  obtain ⟨code, I1, ht, hfr, h05, hcs⟩ := take_cases (L := L) (xs := xs) (d := d) (J := J) hI sh v i n true
  simp only [if_true] at ht
  rcases hcs with ⟨hsh, rfl, hf⟩ | ⟨hsh, hfl, rfl, hf⟩ | ⟨hsh, ⟨hv, hn, hok⟩, hcd, hly⟩ | ⟨hsh, ⟨hv, hn, hok⟩, rfl, hf, N, m, st, row, ⟨hN0, h1, hN⟩, ⟨rfl, hm⟩, hI1n, hst, hly⟩
  · refine ⟨(-1), I1, zU I1 55 0 0, J, J, ?_, ?_, inv_fl hI hfr h05 hf⟩
    · simp only [nX8_worse, eX8_worse_0, eX8_worse_1, eX8_worse_2, eX8_worse_3, eX8_worse_4, eX8_worse_6, eX8_worse_7, eX8_worse_10, eX8_worse_12, eX8_worse_14, eX8_worse_17, eX8_worse_19, Option.bind_some, Option.toList_some, Option.toList_none, List.cons_append, List.nil_append, G_o0, ht, show ((-1 : Int32) = 0) = False from by decide, if_false]
    · simp only [nX9_worse, eX9_worse_0, eX9_worse_1, eX9_worse_2, eX9_worse_5, eX9_worse_6, eX9_worse_9, eX9_worse_12, eX9_worse_13, Option.bind_some, Option.toList_some, Option.toList_none, List.cons_append, List.nil_append, G_o55, qX9_isSheet, zb_1, ← sh_iff, hsh, if_false]
  · have hsh3 := sh_iff.mp hsh
    have hvn : ¬ ((0 ≤ v ∧ v ≤ 2) ∧ 0 ≤ n ∧ n ≤ 20) := fun x => hfl ⟨x.1, x.2, rfl⟩
    refine ⟨(-2), I1, zU I1 55 0 0, J, J, ?_, ?_, inv_fl hI hfr h05 hf⟩
    · simp only [nX8_worse, eX8_worse_0, eX8_worse_1, eX8_worse_2, eX8_worse_3, eX8_worse_4, eX8_worse_6, eX8_worse_7, eX8_worse_10, eX8_worse_12, eX8_worse_14, eX8_worse_17, eX8_worse_19, Option.bind_some, Option.toList_some, Option.toList_none, List.cons_append, List.nil_append, G_o0, ht, show ((-2 : Int32) = 0) = False from by decide, if_false]
    · simp only [nX9_worse, eX9_worse_0, eX9_worse_1, eX9_worse_2, eX9_worse_5, eX9_worse_6, eX9_worse_9, eX9_worse_12, eX9_worse_13, eX9_worse_14, eX9_worse_15, eX9_worse_17, eX9_worse_20, eX9_worse_23, eX9_worse_25, Option.bind_some, Option.toList_some, Option.toList_none, List.cons_append, List.nil_append, G_o55, qX9_isSheet, qX9_isPlan, zb_1, zb_0, hsh3, and_self, if_true, eq_false hvn, if_false]
  · have hsh3 := sh_iff.mp hsh
    refine ⟨code, I1, zU I1 55 0 (I1 0 6), J, J, ?_, ?_, inv_fl hI hfr h05 rfl⟩
    · simp only [nX8_worse, eX8_worse_0, eX8_worse_1, eX8_worse_2, eX8_worse_3, eX8_worse_4, eX8_worse_6, eX8_worse_7, eX8_worse_10, eX8_worse_12, eX8_worse_14, eX8_worse_17, eX8_worse_19, Option.bind_some, Option.toList_some, Option.toList_none, List.cons_append, List.nil_append, G_o0, ht, hcd, if_false]
    · simp only [nX9_worse, eX9_worse_0, eX9_worse_1, eX9_worse_2, eX9_worse_5, eX9_worse_6, eX9_worse_9, eX9_worse_12, eX9_worse_13, eX9_worse_14, eX9_worse_15, eX9_worse_17, eX9_worse_20, eX9_worse_23, eX9_worse_25, eX9_worse_26, eX9_worse_27, eX9_worse_28, eX9_worse_29, eX9_worse_30, eX9_worse_32, eX9_worse_35, eX9_worse_37, eX9_worse_39, eX9_worse_42, eX9_worse_44, Option.bind_some, Option.toList_some, Option.toList_none, List.cons_append, List.nil_append, G_o55, qX9_isSheet, qX9_isPlan, zb_1, zb_0, hsh3, hv, hn, and_self, if_true, if_false, hly I1 (fun c hc => hfr c (by omega) (by omega) (by omega)), hcd]
  · have hsh3 := sh_iff.mp hsh
    have h10 : I1 10 = I 10 := hfr 10 (by decide) (by decide) (by decide)
    have hpl : ∀ k, k < 6 → I1 (k + 15) = I (k + 15) := fun k hk => hfr _ (by omega) (by omega) (by omega)
    have hM : I 55 6 = nI N := by
      obtain ⟨-, -, -, -, -, N', ⟨-, n2, n3, -⟩, -⟩ := id hI
      rw [n3, ← n2, hN]
    have hc := pb_c (L := L) (xs := xs) (d := d) (J := J) (lo := -9) hN h1 h10 hpl hI1n hm (fun k hk => ⟨(hst k hk).1, (hst k hk).2.2⟩)
    generalize hA : cPl N (I 10 3) (cF I) st (-9) 0 m (cBg 23 I1) (-9) = A at hc
    obtain ⟨a, P, u⟩ := A
    dsimp only at hc
    have l1 := hly (zsW I1 P u) (fun c hc => by rw [zsW_lo _ _ _ (by omega), hfr c (by omega) (by omega) (by omega)])
    generalize hK : zU (zUr (zU (zsW I1 P u) 55 0 0) 68 row) 55 23 (nI m) = K at l1
    have k55 : ∀ k, k ≠ 0 → k ≠ 23 → K 55 k = I 55 k := fun k x y => by
      rw [← hK, zU_k _ _ _ y, zUr_ne _ _ (by decide), zU_k _ _ _ x, zsW_lo _ _ _ (by decide), hfr 55 (by decide) (by decide) (by decide)]
    have kc : ∀ c, 56 ≤ c → c ≠ 68 → K c = I c := fun c x y => by
      rw [← hK, zU_ne _ _ _ (by omega), zUr_ne _ _ y, zU_ne _ _ _ (by omega), zsW_lo _ _ _ (by omega), hfr c (by omega) (by omega) (by omega)]
    have hKn : K 55 23 = nI m := by rw [← hK, zU_at]
    have hKs : ∀ k, k < m → K 68 k = nI (st k) ∧ pOk N (st k) := fun k hk => ⟨by rw [← hK, zU_ne _ _ _ (by decide), zUr_self]; exact (hst k hk).2.1, (hst k hk).2.2⟩
    have hKN : K 55 6 = nI N := by rw [k55 6 (by decide) (by decide)]; exact hM
    have hF := hI.F
    have eF : mF K = mF I := by
      funext k j
      simp only [mF]
      split
      · rw [kc (j + 59) (by omega) (by omega)]
      · rfl
    have lw := lp_worse (L := L) (xs := xs) (d := d) (J := J) (I := K) (sh := sh) (v := v) (i := i) (nn := nI m) (g := 0) hKN h1 hKn hm (by rw [k55 22 (by decide) (by decide)]; exact hI.1.2.2) hKs m 0 (mBg N K) (K 55 21) (-9) (by omega)
    have hb0 : pEq N (cBg 23 I1) (mBg N K) ∧ pKd N (mF I) ∧ I 10 3 = I 55 5 := by
      obtain ⟨-, -, c1, c2, c3, N', ⟨n1, n2, n3, n4, n5, n6⟩, -⟩ := id hI
      refine ⟨bg_eq h1 (fun k hk => ?_), fun k hk => ?_, n4⟩
      · rw [hpl k (by omega), kc 60 (by decide) (by decide)]
        exact ⟨c2 k 1 (by omega) (by decide), (c3 k (by omega)).2.1⟩
      · rw [← hF]
        simp only [cF, if_pos (show k < 6 by omega)]
        exact (c3 k (by omega)).1
    obtain ⟨hb1, hkd, h103⟩ := hb0
    have we := ws_eq (mn := I 55 5) (f := mF I) (st := st) h1 hkd m 0 (cBg 23 I1) (mBg N K) (-9) (K 55 21) hb1 (by omega) (fun j _ hj => (hst j (by omega)).2.2)
    rw [hF, h103] at hA
    rw [hA] at we
    rw [eF, k55 5 (by decide) (by decide)] at lw
    generalize hB : mWs N (I 55 5) (mF I) st 0 m (mBg N K) (K 55 21) (-9) = B at lw we
    obtain ⟨b, Q, z⟩ := B
    dsimp only at lw we
    have inv : zInv (zsM K Q z) := inv_pl hI hfr h05 hf hK.symm
    have hbg := qX9_begin (L := L) (xs := xs) (d := d) (J := J) (I := K) hKN h1
    have mod : zE zCd (zGG L xs) d 124 [.ref 55, .int sh, .int v, .int i, .int (nI m)] (zsW I1 P u, J) = some (some (.int b), (zsM K Q z, J)) := by
      refine Eq.trans ?_ lw
      simp only [nX9_worse, eX9_worse_0, eX9_worse_1, eX9_worse_2, eX9_worse_5, eX9_worse_6, eX9_worse_9, eX9_worse_12, eX9_worse_13, eX9_worse_14, eX9_worse_15, eX9_worse_17, eX9_worse_20, eX9_worse_23, eX9_worse_25, eX9_worse_26, eX9_worse_27, eX9_worse_28, eX9_worse_29, eX9_worse_30, eX9_worse_32, eX9_worse_35, eX9_worse_37, eX9_worse_39, eX9_worse_42, eX9_worse_44, eX9_worse_45, eX9_worse_46, eX9_worse_49, eX9_worse_51, eX9_worse_53, eX9_worse_54, Option.bind_some, Option.toList_some, Option.toList_none, List.cons_append, List.nil_append, G_o55, qX9_isSheet, qX9_isPlan, zb_1, zb_0, hsh3, hv, hn, and_self, if_true, if_false, l1, hbg]
      rfl
    refine ⟨b, zsW I1 P u, zsM K Q z, J, J, ?_, mod, inv⟩
    rw [we]
    by_cases a9 : a = -9
    · simp only [nX8_worse, eX8_worse_0, eX8_worse_1, eX8_worse_2, eX8_worse_3, eX8_worse_4, eX8_worse_6, eX8_worse_7, eX8_worse_10, eX8_worse_12, eX8_worse_14, eX8_worse_17, eX8_worse_19, eX8_worse_20, eX8_worse_21, eX8_worse_24, eX8_worse_25, eX8_worse_28, eX8_worse_29, eX8_worse_32, eX8_worse_34, eX8_worse_37, eX8_worse_39, eX8_worse_41, eX8_worse_43, eX8_worse_46, eX8_worse_47, eX8_worse_50, eX8_worse_53, eX8_worse_56, eX8_worse_58, eX8_worse_60, eX8_worse_61, Option.bind_some, Option.toList_some, Option.toList_none, List.cons_append, List.nil_append, G_o0, G_h0_1, G_r0_1, G_h0_2, G_r0_2, G_h0_3, G_r0_3, G_o23, ht, if_true, hc, ne_eq, eq_true a9, not_true_eq_false, if_false, zsW_5]
    · simp only [nX8_worse, eX8_worse_0, eX8_worse_1, eX8_worse_2, eX8_worse_3, eX8_worse_4, eX8_worse_6, eX8_worse_7, eX8_worse_10, eX8_worse_12, eX8_worse_14, eX8_worse_17, eX8_worse_19, eX8_worse_20, eX8_worse_21, eX8_worse_24, eX8_worse_25, eX8_worse_28, eX8_worse_29, eX8_worse_32, eX8_worse_34, eX8_worse_37, eX8_worse_39, eX8_worse_41, eX8_worse_43, eX8_worse_46, eX8_worse_47, eX8_worse_50, eX8_worse_53, eX8_worse_56, eX8_worse_58, eX8_worse_60, eX8_worse_61, Option.bind_some, Option.toList_some, Option.toList_none, List.cons_append, List.nil_append, G_o0, G_h0_1, G_r0_1, G_h0_2, G_r0_2, G_h0_3, G_r0_3, G_o23, ht, if_true, hc, ne_eq, eq_false a9, not_false_eq_true, if_false]

end S
