section S
variable {L : Nat} {xs : Nat → Int32} {d : Nat} {J : Nat → Nat → Int64}
noncomputable def zChs (N : Nat) (x : Int32) : Nat := @dite _ (pStp N x) (Classical.propDecidable _) (fun h => h.choose) (fun _ => 0)
set_option maxHeartbeats 1000000 in
theorem zChs_ok {N : Nat} {x : Int32} (h : pStp N x) : x = nI (zChs N x) ∧ pOk N (zChs N x) := by
  unfold zChs
  rw [dif_pos h]
  exact h.choose_spec
set_option maxHeartbeats 1000000 in
theorem pFl_ne {hr ln le v i n : Int32} : pFl hr ln le v i n = 0 ∨ pFl hr ln le v i n = 1 ∨ pFl hr ln le v i n = 2 ∨ pFl hr ln le v i n = 3 ∨ pFl hr ln le v i n = 4 := by
  unfold pFl
  (repeat' split) <;> simp
set_option maxHeartbeats 1000000 in
theorem pFl_0 {hr ln le v i n : Int32} (h : pFl hr ln le v i n = 0) : ¬ hr = 0 ∧ ln = v ∧ 0 ≤ i ∧ i ≤ le ∧ 0 ≤ n ∧ n ≤ le - i := by
  unfold pFl at h
  split at h
  · exact absurd h (by decide)
  · rename_i h1
    split at h
    · rename_i h2
      split at h
      · exact absurd h (by decide)
      · split at h
        · rename_i h3
          exact ⟨h1, h2, h3⟩
        · exact absurd h (by decide)
    · exact absurd h (by decide)
set_option maxHeartbeats 1000000 in
theorem take_cases {I : Nat → Nat → Int32} (hI : zInv I) (sh v i n : Int32) (ok : Bool) : ∃ (code : Int32) (I1 : Nat → Nat → Int32), zE zCd (zGG L xs) d 82 [.ref 0, .int sh, .int v, .int i, .int n, .int (if ok = true then 1 else 0)] (I, J) = some (some (.int code), (I1, J)) ∧
    (∀ c, c ≠ 0 → c ≠ 21 → c ≠ 22 → I1 c = I c) ∧ I1 0 5 = I 0 5 ∧
    ((¬ (0 ≤ sh ∧ sh < 4) ∧ code = -1 ∧ I1 0 6 = 0) ∨
     ((0 ≤ sh ∧ sh < 4) ∧ ¬ ((0 ≤ v ∧ v ≤ 2) ∧ (0 ≤ n ∧ n ≤ 20) ∧ ok = true) ∧ code = -2 ∧ I1 0 6 = 0) ∨
     ((0 ≤ sh ∧ sh < 4) ∧ ((0 ≤ v ∧ v ≤ 2) ∧ (0 ≤ n ∧ n ≤ 20) ∧ ok = true) ∧ code ≠ 0 ∧ ∀ K : Nat → Nat → Int32, (∀ c, 55 ≤ c → K c = I c) → zE zCd (zGG L xs) d 116 [.ref 55, .int sh, .int v, .int i, .int n] (zU K 55 0 0, J) = some (some (.int code), (zU K 55 0 (I1 0 6), J))) ∨
     ((0 ≤ sh ∧ sh < 4) ∧ ((0 ≤ v ∧ v ≤ 2) ∧ (0 ≤ n ∧ n ≤ 20) ∧ ok = true) ∧ code = 0 ∧ I1 0 6 = 0 ∧ ∃ (N m : Nat) (st : Nat → Nat) (row : Nat → Int32), (0 < N ∧ N ≤ 6 ∧ I 10 2 = nI N) ∧ (n = nI m ∧ m ≤ 20) ∧ I1 21 1 = nI m ∧ (∀ k, k < m → I1 22 k = nI (st k) ∧ row k = nI (st k) ∧ pOk N (st k)) ∧ ∀ K : Nat → Nat → Int32, (∀ c, 55 ≤ c → K c = I c) → zE zCd (zGG L xs) d 116 [.ref 55, .int sh, .int v, .int i, .int n] (zU K 55 0 0, J) = some (some (.int 0), (zU (zUr (zU K 55 0 0) 68 row) 55 23 (nI m), J)))) := by
  obtain ⟨⟨f1, f2, f3⟩, sS, c1, c2, c3, N, ⟨n1, n2, n3, n4, n5, n6⟩, -⟩ := id hI
  have o0 : ∀ c, c ≠ 0 → zU I 0 6 0 c = I c := fun c h => zU_ne _ _ _ h
  by_cases hsh : 0 ≤ sh ∧ sh < 4
  · by_cases hfl : (0 ≤ v ∧ v ≤ 2) ∧ (0 ≤ n ∧ n ≤ 20) ∧ ok = true
    · obtain ⟨hv, hn, rfl⟩ := id hfl
      obtain ⟨k, hk, rfl⟩ := zIdx (n := 4) hsh.1 hsh.2 (by decide)
      have g1 : ¬ n < 0 := by grind
      have g2 : ¬ 20 < n := by grind
      generalize hF : pFl (I (2 * k + 2) 1) (I (2 * k + 2) 2) (I (2 * k + 2) 3) v i n = F
      have fc : zE zCd (zGG L xs) d 7 [.ref (2 * k + 2), .int v, .int i, .int n] (zU I 0 6 0, J) = some (some (.int F), (zU I 0 6 0, J)) := by
        rw [qX6_faultOfCells hk, o0 (2 * k + 2) (by omega), ← hF]
        rfl
      have ag : ∀ K : Nat → Nat → Int32, K 56 = I 56 → K 57 = I 57 → zE zCd (zGG L xs) d 96 [.ref 55, .int (nI k), .int v, .int i, .int n] (K, J) = some (some (.int F), (K, J)) := fun K e1 e2 => by
        rw [qX9_against hk, e1, e2, pFl_m (sS k hk).1 hv, hF]
      by_cases hF0 : F = 0
      · have ms := qX0_isMissing (L := L) (xs := xs) (d := d) (I := zU I 0 6 0) (J := J)
        rw [o0 10 (by decide), n2] at ms
        by_cases hN0 : N = 0
        · refine ⟨-3, zU I 0 6 0, ?_, fun c h _ _ => o0 c h, zU_k _ _ _ (by decide), Or.inr (Or.inr (Or.inl ⟨hsh, hfl, by decide, ?_⟩))⟩
          · rw [zb_t (by rw [hN0]; rfl)] at ms
            simp only [nX8_takePlan, eX8_takePlan_0, eX8_takePlan_1, eX8_takePlan_2, eX8_takePlan_5, eX8_takePlan_6, eX8_takePlan_9, eX8_takePlan_12, eX8_takePlan_13, eX8_takePlan_14, eX8_takePlan_15, eX8_takePlan_18, eX8_takePlan_21, eX8_takePlan_23, eX8_takePlan_26, eX8_takePlan_28, eX8_takePlan_30, eX8_takePlan_33, eX8_takePlan_35, eX8_takePlan_38, eX8_takePlan_40, eX8_takePlan_41, eX8_takePlan_42, eX8_takePlan_45, eX8_takePlan_46, eX8_takePlan_47, eX8_takePlan_49, eX8_takePlan_51, eX8_takePlan_52, eX8_takePlan_53, eX8_takePlan_55, eX8_takePlan_58, eX8_takePlan_60, eX8_takePlan_62, eX8_takePlan_65, eX8_takePlan_66, eX8_takePlan_68, eX8_takePlan_71, eX8_takePlan_72, eX8_takePlan_73, eX8_takePlan_76, eX8_takePlan_79, eX8_takePlan_82, eX8_takePlan_84, Option.bind_some, Option.toList_some, Option.toList_none, List.cons_append, List.nil_append, G_o0, G_h0_0, G_r0_0, G_h0_1, G_r0_1, G_q1, G_l1, G_1h hk, G_1r hk, zIn_4 hk, zc_n (show k ≤ 1000 by omega), qX8_isSheet, qX8_isLane, zb_1, zb_0, hsh, hv, and_self, if_true, not_true_eq_false, if_false, g1, g2, show ((1 : Int32) ≠ 0) = True from by decide, G_sh_o hk, fc, hF0, G_o10, ms, show ((1 : Int32) = 0) = False from by decide]
          · intro K hK
            rw [zU_at]
            have ag' := ag (zU K 55 0 0) (by rw [zU_ne _ _ _ (by decide), hK 56 (by decide)]) (by rw [zU_ne _ _ _ (by decide), hK 57 (by decide)])
            have k6 : zU K 55 0 0 55 6 = 0 := by rw [zU_k _ _ _ (by decide), hK 55 (by decide), n3, hN0]; rfl
            simp only [nX9_layPlan, eX9_layPlan_0, eX9_layPlan_1, eX9_layPlan_2, eX9_layPlan_3, eX9_layPlan_4, eX9_layPlan_6, eX9_layPlan_9, eX9_layPlan_11, eX9_layPlan_13, eX9_layPlan_16, eX9_layPlan_17, eX9_layPlan_19, eX9_layPlan_22, eX9_layPlan_23, eX9_layPlan_24, eX9_layPlan_27, eX9_layPlan_30, eX9_layPlan_32, Option.bind_some, Option.toList_some, Option.toList_none, List.cons_append, List.nil_append, G_o55, ag', hF0, if_true, k6, show ((0 : Int32) ≠ 0) = False from by decide, if_false]
        · rw [zb_f (by intro e; exact hN0 ((nI_eq (by omega) (by omega)).mp e))] at ms
          rw [hF0] at hF
          obtain ⟨p1, p2, p3, p4, p5, p6⟩ := pFl_0 hF
          obtain ⟨M, hM, hle⟩ : ∃ M, M ≤ 60 ∧ I (2 * k + 2) 3 = nI M := by
            rcases (sS k hk).1 with ⟨q, -⟩ | ⟨-, -, -, -, q⟩
            · exact absurd q p1
            · exact q
          rw [hle] at p4 p6
          obtain ⟨a, ha, rfl⟩ := zIdl p3 p4 (by omega)
          obtain ⟨m, hm, rfl⟩ := zIdl (n := 20) hn.1 hn.2 (by decide)
          have ham : a + m ≤ 60 := by
            rw [pk_sub ha] at p6
            have := (nI_leI (by omega) (by omega)).mp p6
            omega
          have c60 : (60 : Int32) * nI k = nI (60 * k) := pk_mul 60 k
          have tk0 : zE zCd (zGG L xs) d 82 [.ref 0, .int (nI k), .int v, .int (nI a), .int (nI m), .int (if true = true then 1 else 0)] (I, J) = zX zCd (zGG L xs) d 82 88 [.ref 0, .int (nI k), .int v, .int (nI a), .int (nI m), .int 1, .ref (2 * k + 2), .int 0, .int (nI 0)] [] (zU I 0 6 0, J) := by
            simp only [nX8_takePlan, eX8_takePlan_0, eX8_takePlan_1, eX8_takePlan_2, eX8_takePlan_5, eX8_takePlan_6, eX8_takePlan_9, eX8_takePlan_12, eX8_takePlan_13, eX8_takePlan_14, eX8_takePlan_15, eX8_takePlan_18, eX8_takePlan_21, eX8_takePlan_23, eX8_takePlan_26, eX8_takePlan_28, eX8_takePlan_30, eX8_takePlan_33, eX8_takePlan_35, eX8_takePlan_38, eX8_takePlan_40, eX8_takePlan_41, eX8_takePlan_42, eX8_takePlan_45, eX8_takePlan_46, eX8_takePlan_47, eX8_takePlan_49, eX8_takePlan_51, eX8_takePlan_52, eX8_takePlan_53, eX8_takePlan_55, eX8_takePlan_58, eX8_takePlan_60, eX8_takePlan_62, eX8_takePlan_65, eX8_takePlan_66, eX8_takePlan_68, eX8_takePlan_71, eX8_takePlan_72, eX8_takePlan_73, eX8_takePlan_76, eX8_takePlan_79, eX8_takePlan_82, eX8_takePlan_84, eX8_takePlan_85, eX8_takePlan_86, Option.bind_some, Option.toList_some, Option.toList_none, List.cons_append, List.nil_append, G_o0, G_h0_0, G_r0_0, G_h0_1, G_r0_1, G_q1, G_l1, G_1h hk, G_1r hk, zIn_4 hk, zc_n (show k ≤ 1000 by omega), qX8_isSheet, qX8_isLane, zb_1, zb_0, hsh, hv, and_self, if_true, not_true_eq_false, if_false, g1, g2, show ((1 : Int32) ≠ 0) = True from by decide, G_sh_o hk, fc, hF0, G_o10, ms]
            rfl
          have ly0 : ∀ K : Nat → Nat → Int32, K 56 = I 56 → K 57 = I 57 → K 55 6 = I 55 6 → zE zCd (zGG L xs) d 116 [.ref 55, .int (nI k), .int v, .int (nI a), .int (nI m)] (K, J) = zX zCd (zGG L xs) d 116 44 [.ref 55, .int (nI k), .int v, .int (nI a), .int (nI m), .int 0, .int (nI (60 * k + a)), .int (nI 0)] [] (K, J) := by
            intro K e1 e2 e3
            have ag' := ag K e1 e2
            have k6 : ((K 55 6 : Int32) ≠ 0) = True := by
              rw [e3, n3]
              exact eq_true (fun e => hN0 ((nI_eq (by omega) (by omega)).mp e))
            simp only [nX9_layPlan, eX9_layPlan_0, eX9_layPlan_1, eX9_layPlan_2, eX9_layPlan_3, eX9_layPlan_4, eX9_layPlan_6, eX9_layPlan_9, eX9_layPlan_11, eX9_layPlan_13, eX9_layPlan_16, eX9_layPlan_17, eX9_layPlan_19, eX9_layPlan_22, eX9_layPlan_23, eX9_layPlan_24, eX9_layPlan_27, eX9_layPlan_30, eX9_layPlan_32, eX9_layPlan_33, eX9_layPlan_35, eX9_layPlan_36, eX9_layPlan_37, eX9_layPlan_38, eX9_layPlan_39, eX9_layPlan_41, eX9_layPlan_42, Option.bind_some, Option.toList_some, Option.toList_none, List.cons_append, List.nil_append, G_o55, ag', hF0, if_true, k6, c60, nI_add]
            rfl
          have tk := lp_tk (L := L) (xs := xs) (d := d) (J := J) (s0 := nI k) (v := v) (ok := 1) (C := I (2 * k + 3)) n1 hk hm ham m 0 (zU I 0 6 0) (by omega) (by rw [o0 10 (by decide)]; exact n2) (o0 _ (by omega))
          by_cases hall : ∀ j, 0 ≤ j → j < m → pStp N (I (2 * k + 3) (a + j))
          · have tk := tk.1 hall
            refine ⟨0, _, tk0.trans tk, fun c h h21 h22 => ?_, ?_, Or.inr (Or.inr (Or.inr ⟨hsh, hfl, rfl, ?_, N, m, fun j => zChs N (I (2 * k + 3) (a + j)), fun j => if 0 ≤ j ∧ j < m then I 58 (60 * k + a + j) else I 68 j, ⟨by omega, n1, n2⟩, ⟨rfl, hm⟩, zU_at _ _ _ _, fun j hj => ?_, ?_⟩))⟩
            · rw [zU_ne _ _ _ h21, zUr_ne _ _ h22, o0 c h]
            · rw [zU_ne _ _ _ (by decide), zUr_ne _ _ (by decide), zU_k _ _ _ (by decide)]
            · rw [zU_ne _ _ _ (by decide), zUr_ne _ _ (by decide), zU_at]
            · have hc := zChs_ok (hall j (by omega) hj)
              refine ⟨?_, ?_, hc.2⟩
              · rw [zU_ne _ _ _ (by decide), zUr_self, if_pos ⟨by omega, hj⟩]
                exact hc.1
              · show (if 0 ≤ j ∧ j < m then I 58 (60 * k + a + j) else I 68 j) = _
                rw [if_pos ⟨by omega, hj⟩, Nat.add_assoc, ← (sS k hk).2 (a + j) (by omega)]
                exact hc.1
            · intro K hK
              have e : ∀ c, c ≠ 55 → 55 ≤ c → zU K 55 0 0 c = I c := fun c h55 h => by rw [zU_ne _ _ _ h55, hK c h]
              have e6 : zU K 55 0 0 55 6 = I 55 6 := by rw [zU_k _ _ _ (by decide), hK 55 (by decide)]
              rw [ly0 _ (e 56 (by decide) (by decide)) (e 57 (by decide) (by decide)) e6]
              have l1 := (lp_ly1 (L := L) (xs := xs) (d := d) (J := J) (v := v) (ag := 0) (K := zU K 55 0 0) n1 (by omega) hk hm ham (by rw [e6]; exact n3) m 0 (by omega)).1 (fun j _ hj => by
                rw [e 58 (by decide) (by decide), Nat.add_assoc, ← (sS k hk).2 (a + j) (by omega)]
                exact hall j (by omega) hj)
              rw [l1]
              simp only [eX9_layPlan_76, eX9_layPlan_77]
              have l2 := lp_ly2 (L := L) (xs := xs) (d := d) (J := J) (v := v) (ag := 0) (C := I 58) hk hm ham m 0 (zU K 55 0 0) (by omega) (e 58 (by decide) (by decide))
              refine l2.trans ?_
              rw [e 68 (by decide) (by decide)]
          · have hbad : ∃ j, 0 ≤ j ∧ j < m ∧ ¬ pStp N (I (2 * k + 3) (a + j)) := by
              rcases Classical.not_forall.mp hall with ⟨j, hj⟩
              rcases Classical.not_imp.mp hj with ⟨h0, hj⟩
              rcases Classical.not_imp.mp hj with ⟨h2, hj⟩
              exact ⟨j, h0, h2, hj⟩
            obtain ⟨row, tk⟩ := tk.2 hbad
            refine ⟨-1, _, tk0.trans tk, fun c h h21 h22 => ?_, ?_, Or.inr (Or.inr (Or.inl ⟨hsh, hfl, by decide, ?_⟩))⟩
            · rw [zUr_ne _ _ h22, o0 c h]
            · rw [zUr_ne _ _ (by decide), zU_k _ _ _ (by decide)]
            · intro K hK
              have e : ∀ c, c ≠ 55 → 55 ≤ c → zU K 55 0 0 c = I c := fun c h55 h => by rw [zU_ne _ _ _ h55, hK c h]
              have e6 : zU K 55 0 0 55 6 = I 55 6 := by rw [zU_k _ _ _ (by decide), hK 55 (by decide)]
              rw [ly0 _ (e 56 (by decide) (by decide)) (e 57 (by decide) (by decide)) e6, zUr_ne _ _ (by decide), zU_at]
              obtain ⟨j, b1, b2, b3⟩ := hbad
              exact (lp_ly1 (L := L) (xs := xs) (d := d) (J := J) (v := v) (ag := 0) (K := zU K 55 0 0) n1 (by omega) hk hm ham (by rw [e6]; exact n3) m 0 (by omega)).2 ⟨j, b1, b2, by
                rw [e 58 (by decide) (by decide), Nat.add_assoc, ← (sS k hk).2 (a + j) (by omega)]
                exact b3⟩
      · have hF1 : F = 1 ∨ F = 2 ∨ F = 3 ∨ F = 4 := by
          rw [← hF] at hF0 ⊢
          rcases pFl_ne (hr := I (2 * k + 2) 1) (ln := I (2 * k + 2) 2) (le := I (2 * k + 2) 3) (v := v) (i := i) (n := n) with h | h
          · exact absurd h hF0
          · exact h
        refine ⟨-10 - F, zU (zU I 0 6 0) 0 6 F, ?_, fun c h _ _ => by rw [zU_ne _ _ _ h, o0 c h], by rw [zU_k _ _ _ (by decide), zU_k _ _ _ (by decide)], Or.inr (Or.inr (Or.inl ⟨hsh, hfl, by rcases hF1 with rfl | rfl | rfl | rfl <;> decide, ?_⟩))⟩
        · simp only [nX8_takePlan, eX8_takePlan_0, eX8_takePlan_1, eX8_takePlan_2, eX8_takePlan_5, eX8_takePlan_6, eX8_takePlan_9, eX8_takePlan_12, eX8_takePlan_13, eX8_takePlan_14, eX8_takePlan_15, eX8_takePlan_18, eX8_takePlan_21, eX8_takePlan_23, eX8_takePlan_26, eX8_takePlan_28, eX8_takePlan_30, eX8_takePlan_33, eX8_takePlan_35, eX8_takePlan_38, eX8_takePlan_40, eX8_takePlan_41, eX8_takePlan_42, eX8_takePlan_45, eX8_takePlan_46, eX8_takePlan_47, eX8_takePlan_49, eX8_takePlan_51, eX8_takePlan_52, eX8_takePlan_53, eX8_takePlan_55, eX8_takePlan_58, eX8_takePlan_60, eX8_takePlan_62, eX8_takePlan_65, eX8_takePlan_66, eX8_takePlan_68, eX8_takePlan_71, Option.bind_some, Option.toList_some, Option.toList_none, List.cons_append, List.nil_append, G_o0, G_h0_0, G_r0_0, G_h0_1, G_r0_1, G_q1, G_l1, G_1h hk, G_1r hk, zIn_4 hk, zc_n (show k ≤ 1000 by omega), qX8_isSheet, qX8_isLane, zb_1, zb_0, hsh, hv, and_self, if_true, not_true_eq_false, if_false, g1, g2, show ((1 : Int32) ≠ 0) = True from by decide, G_sh_o hk, fc, hF0, qX8_failed]
        · intro K hK
          rw [zU_at]
          have ag' := ag (zU K 55 0 0) (by rw [zU_ne _ _ _ (by decide), hK 56 (by decide)]) (by rw [zU_ne _ _ _ (by decide), hK 57 (by decide)])
          simp only [nX9_layPlan, eX9_layPlan_0, eX9_layPlan_1, eX9_layPlan_2, eX9_layPlan_3, eX9_layPlan_4, eX9_layPlan_6, eX9_layPlan_9, eX9_layPlan_11, eX9_layPlan_13, eX9_layPlan_16, eX9_layPlan_17, eX9_layPlan_19, eX9_layPlan_22, Option.bind_some, Option.toList_some, Option.toList_none, List.cons_append, List.nil_append, G_o55, ag', hF0, if_false, qX9_fails, zU_uu]
    · refine ⟨-2, zU I 0 6 0, ?_, fun c h _ _ => o0 c h, zU_k _ _ _ (by decide), Or.inr (Or.inl ⟨hsh, hfl, rfl, zU_at _ _ _ _⟩)⟩
      by_cases hv : 0 ≤ v ∧ v ≤ 2
      · by_cases g1 : n < 0
        · simp only [nX8_takePlan, eX8_takePlan_0, eX8_takePlan_1, eX8_takePlan_2, eX8_takePlan_5, eX8_takePlan_6, eX8_takePlan_9, eX8_takePlan_12, eX8_takePlan_13, eX8_takePlan_14, eX8_takePlan_15, eX8_takePlan_18, eX8_takePlan_21, eX8_takePlan_23, eX8_takePlan_26, eX8_takePlan_28, eX8_takePlan_30, eX8_takePlan_33, eX8_takePlan_35, eX8_takePlan_38, eX8_takePlan_40, Option.bind_some, Option.toList_some, Option.toList_none, List.cons_append, List.nil_append, G_o0, qX8_isSheet, qX8_isLane, zb_1, zb_0, hsh, hv, and_self, if_true, not_true_eq_false, if_false, g1]
        · by_cases g2 : 20 < n
          · simp only [nX8_takePlan, eX8_takePlan_0, eX8_takePlan_1, eX8_takePlan_2, eX8_takePlan_5, eX8_takePlan_6, eX8_takePlan_9, eX8_takePlan_12, eX8_takePlan_13, eX8_takePlan_14, eX8_takePlan_15, eX8_takePlan_18, eX8_takePlan_21, eX8_takePlan_23, eX8_takePlan_26, eX8_takePlan_28, eX8_takePlan_30, eX8_takePlan_33, eX8_takePlan_35, eX8_takePlan_38, eX8_takePlan_40, Option.bind_some, Option.toList_some, Option.toList_none, List.cons_append, List.nil_append, G_o0, qX8_isSheet, qX8_isLane, zb_1, zb_0, hsh, hv, and_self, if_true, not_true_eq_false, if_false, g1, g2]
          · cases ok with
            | true => exact absurd ⟨hv, ⟨by grind, by grind⟩, rfl⟩ hfl
            | false => simp only [nX8_takePlan, eX8_takePlan_0, eX8_takePlan_1, eX8_takePlan_2, eX8_takePlan_5, eX8_takePlan_6, eX8_takePlan_9, eX8_takePlan_12, eX8_takePlan_13, eX8_takePlan_14, eX8_takePlan_15, eX8_takePlan_18, eX8_takePlan_21, eX8_takePlan_23, eX8_takePlan_26, eX8_takePlan_28, eX8_takePlan_30, eX8_takePlan_33, eX8_takePlan_35, eX8_takePlan_38, eX8_takePlan_40, Option.bind_some, Option.toList_some, Option.toList_none, List.cons_append, List.nil_append, G_o0, qX8_isSheet, qX8_isLane, zb_1, zb_0, hsh, hv, and_self, if_true, not_true_eq_false, if_false, g1, g2, show (false = true) = False from by decide, show ((0 : Int32) ≠ 0) = False from by decide]
      · simp only [nX8_takePlan, eX8_takePlan_0, eX8_takePlan_1, eX8_takePlan_2, eX8_takePlan_5, eX8_takePlan_6, eX8_takePlan_9, eX8_takePlan_12, eX8_takePlan_13, eX8_takePlan_14, eX8_takePlan_15, eX8_takePlan_18, eX8_takePlan_21, eX8_takePlan_23, eX8_takePlan_26, eX8_takePlan_28, eX8_takePlan_30, eX8_takePlan_33, eX8_takePlan_35, eX8_takePlan_38, eX8_takePlan_40, Option.bind_some, Option.toList_some, Option.toList_none, List.cons_append, List.nil_append, G_o0, qX8_isSheet, qX8_isLane, zb_1, zb_0, hsh, hv, and_self, if_true, not_false_eq_true]
  · refine ⟨-1, zU I 0 6 0, ?_, fun c h _ _ => o0 c h, zU_k _ _ _ (by decide), Or.inl ⟨hsh, rfl, zU_at _ _ _ _⟩⟩
    simp only [nX8_takePlan, eX8_takePlan_0, eX8_takePlan_1, eX8_takePlan_2, eX8_takePlan_5, eX8_takePlan_6, eX8_takePlan_9, eX8_takePlan_12, eX8_takePlan_13, Option.bind_some, Option.toList_some, Option.toList_none, List.cons_append, List.nil_append, G_o0, qX8_isSheet, zb_1, hsh, if_false]
end S
