/-! a sheet changes -/
set_option maxHeartbeats 1000000 in
theorem inv_sh {I I' : Nat → Nat → Int32} {k : Nat} (hI : zInv I) (hk : k < 4)
    (o : ∀ c, c ≠ 0 → c ≠ 2 * k + 2 → c ≠ 2 * k + 3 → c ≠ 55 → c ≠ 56 → c ≠ 57 → c ≠ 58 → I' c = I c)
    (o0 : I' 0 6 = I' 55 0) (o05 : I' 0 5 = I 0 5) (o5 : ∀ j, j ≠ 0 → I' 55 j = I 55 j)
    (hs : ∀ j, j < 4 → j ≠ k → I' 56 j = I 56 j ∧ I' 57 j = I 57 j ∧ ∀ i, i < 60 → I' 58 (60 * j + i) = I 58 (60 * j + i))
    (hS : zInS (I' (2 * k + 2) 1) (I' (2 * k + 2) 2) (I' (2 * k + 2) 3) (I' 56 k) (I' 57 k))
    (hc : ∀ i, i < 60 → I' (2 * k + 3) i = I' 58 (60 * k + i)) : zInv I' := by
  obtain ⟨⟨a1, a2, a3⟩, b, c1, c2, c3, N, ⟨n1, n2, n3, n4, n5, n6⟩, C, r1, r2, r3, r4, r5⟩ := hI
  have oo : ∀ c, 10 ≤ c → c ≤ 54 ∨ 59 ≤ c → I' c = I c := fun c x y => o c (by omega) (by omega) (by omega) (by omega) (by omega) (by omega) (by omega)
  refine ⟨⟨o0, ?_, ?_⟩, fun j hj => ?_, fun k i hk hi => ?_, fun k i hk hi => ?_, fun k hk => ?_, N, ⟨n1, ?_, ?_, ?_, ?_, ?_⟩, C, r1, ?_, ?_, r4, fun q hq => ?_⟩
  · rw [o05, o5 1 (by decide)]; exact a2
  · rw [o5 22 (by decide)]; exact a3
  · by_cases e : j = k
    · subst e; exact ⟨hS, hc⟩
    · obtain ⟨h1, h2, h3⟩ := hs j hj e
      rw [o (2 * j + 2) (by omega) (by omega) (by omega) (by omega) (by omega) (by omega) (by omega), o (2 * j + 3) (by omega) (by omega) (by omega) (by omega) (by omega) (by omega) (by omega), h1, h2]
      exact ⟨(b j hj).1, fun i hi => by rw [h3 i hi]; exact (b j hj).2 i hi⟩
  · rw [oo (k + 15) (by omega) (by omega)]; exact c1 k i hk hi
  · rw [oo (k + 15) (by omega) (by omega), oo (i + 59) (by omega) (by omega)]; exact c2 k i hk hi
  · rw [oo (k + 15) (by omega) (by omega)]; exact c3 k hk
  · rw [oo 10 (by omega) (by omega)]; exact n2
  · rw [o5 6 (by decide)]; exact n3
  · rw [oo 10 (by omega) (by omega), o5 5 (by decide)]; exact n4
  · rw [oo 10 (by omega) (by omega)]; exact n5
  · rw [oo 10 (by omega) (by omega)]; exact n6
  · rw [oo 12 (by omega) (by omega)]; exact r2
  · rw [o5 28 (by decide)]; exact r3
  · rw [oo 13 (by omega) (by omega), oo 14 (by omega) (by omega), oo 69 (by omega) (by omega), oo 70 (by omega) (by omega)]; exact r5 q hq
set_option maxHeartbeats 1000000 in
theorem zUr_step {I : Nat → Nat → Int32} {c p : Nat} {f g : Nat → Int32} {v : Int32} (h : ∀ x, g x = if x = p then v else f x) : zU (zUr I c f) c p v = zUr I c g := by
  funext a x
  simp only [zU_app, zUr_app, h]
  by_cases e : a = c
  · by_cases e2 : x = p <;> simp [e, e2]
  · simp [e]
set_option maxHeartbeats 1000000 in
theorem in_iff {k n : Int32} (h : 0 ≤ n ∧ n ≤ 1000) : (0 ≤ k ∧ k ≤ n - 1) ↔ (0 ≤ k ∧ k < n) := by
  constructor <;> intro h <;> grind
set_option maxHeartbeats 1000000 in
theorem nI_60 {m : Nat} (h : m ≤ 60) : 0 ≤ nI m ∧ nI m ≤ 1000 := ⟨nI_nn (by omega), (nI_leI (a := m) (b := 1000) (by omega) (by omega)).mpr (by omega)⟩
section S
variable {L : Nat} {xs : Nat → Int32} {d : Nat} {J : Nat → Nat → Int64}
set_option maxHeartbeats 1000000 in
theorem lp_sh {q : Nat} {v n : Int32} (hq : q < 4) : ∀ (r i : Nat) (K : Nat → Nat → Int32), i + r = 60 → zX zCd (zGG L xs) d 142 57 [.ref 55, .int (nI q), .int v, .int n, .int (nI i)] [] (K, J) = some (some (.int 1), (zUr K 58 (fun x => if 60 * q + i ≤ x ∧ x < 60 * q + 60 then 0 else K 58 x), J)) := by
  have e60 : (60 : Int32) * nI q = nI (60 * q) := pk_mul 60 q
  intro r
  induction r with
  | zero =>
    intro i K h
    obtain rfl : i = 60 := by omega
    rw [eX9_sheet_57]
    simp only [eX9_sheet_59, eX9_sheet_61, eX9_sheet_83, eX9_sheet_84, show ((60 : Int32) ≤ nI 60) = True from eq_true (by decide +kernel), if_true]
    congr 3
    funext c' j
    simp only [zUr_app]
    by_cases e : c' = 58
    · subst e; rw [if_pos rfl, if_neg (by omega)]
    · rw [if_neg e]
  | succ r ih =>
    intro i K h
    rw [eX9_sheet_57]
    simp only [eX9_sheet_59, eX9_sheet_61, eX9_sheet_64, eX9_sheet_65, eX9_sheet_68, eX9_sheet_70, eX9_sheet_71, eX9_sheet_72, eX9_sheet_74, eX9_sheet_75, eX9_sheet_76, eX9_sheet_77, eX9_sheet_80, show ((60 : Int32) ≤ nI i) = (60 ≤ i) from @zle 60 i (by omega) (by omega), if_neg (show ¬ 60 ≤ i by omega), G_o55, G_h55_4, G_r55_4, G_a58, G_l58, e60, nI_add, zIn_240 (show 60 * q + i < 240 by omega), zc_n (show 60 * q + i ≤ 1000 by omega), nI_1]
    rw [ih (i + 1) _ (by omega)]
    congr 3
    funext c' j
    simp only [zUr_app, zU_app]
    by_cases e : c' = 58
    · subst e
      rw [if_pos rfl, if_pos rfl]
      by_cases e2 : j = 60 * q + i
      · subst e2
        rw [if_neg (by omega), if_pos (by simp), if_pos (by omega)]
      · by_cases e3 : 60 * q + (i + 1) ≤ j ∧ j < 60 * q + 60
        · rw [if_pos e3, if_pos (by omega)]
        · rw [if_neg e3, if_neg (fun x => e2 x.2), if_neg (by omega)]
    · rw [if_neg e, if_neg e, if_neg (fun x => e x.1)]
set_option maxHeartbeats 1000000 in
theorem qX6_renew {q : Nat} {v n : Int32} {K : Nat → Nat → Int32} (hq : q < 4) : zE zCd (zGG L xs) d 5 [.ref (2 * q + 2), .int v, .int n] (K, J) = some (none, (zUr (zU (zU (zU K (2 * q + 2) 1 1) (2 * q + 2) 2 v) (2 * q + 2) 3 n) (2 * q + 3) (fun j => if j < 60 then 0 else (zU (zU (zU K (2 * q + 2) 1 1) (2 * q + 2) 2 v) (2 * q + 2) 3 n) (2 * q + 3) j), J)) := by
  have f : ∀ K : Nat → Nat → Int32, zE zCd (zGG L xs) d 0 [.ref (2 * q + 3), .int 0] (K, J) = some (none, (zUr K (2 * q + 3) (fun j => if j < 60 then 0 else K (2 * q + 3) j), J)) := fun K => qfill (I := K) (v := 0) (G_sh_a hq) (G_sh_l hq) (by decide)
  simp only [nX6_renew, eX6_renew_0, eX6_renew_1, eX6_renew_2, eX6_renew_5, eX6_renew_6, eX6_renew_7, eX6_renew_10, eX6_renew_11, eX6_renew_12, eX6_renew_15, eX6_renew_16, eX6_renew_19, eX6_renew_20, eX6_renew_23, Option.bind_some, Option.toList_some, Option.toList_none, List.cons_append, List.nil_append, zT_1, G_sh_o hq, G_sh_h hq, G_sh_r hq, f]
set_option maxHeartbeats 1000000 in
theorem op_sheet {I : Nat → Nat → Int32} (hI : zInv I) (k v n : Int32) : zOp L xs d 64 142 [.int k, .int v, .int n] I J := by
  obtain ⟨⟨a1, a2, a3⟩, b, c1, c2, c3, N, ⟨n1, n2, n3, n4, n5, n6⟩, C, r1, r2, r3, r4, r5⟩ := id hI
  have o0 : ∀ (x : Int32) c, c ≠ 0 → zU I 0 6 x c = I c := fun x c h => zU_ne _ _ _ h
  have o5 : ∀ (x y : Int32) c, c ≠ 0 → c ≠ 55 → zU (zU I 0 6 x) 55 0 y c = I c := fun x y c h h2 => by rw [zU_ne _ _ _ h2, zU_ne _ _ _ h]
  by_cases hk : 0 ≤ k ∧ k < 4
  case neg =>
    have hkm : ¬ (0 ≤ k ∧ k ≤ 3) := fun x => hk (sh_iff.mpr x)
    refine ⟨(-1), zU I 0 6 0, zU (zU I 0 6 0) 55 0 0, J, J, ?_, ?_, inv_ft hI⟩
    · simp only [nX8_sheet, eX8_sheet_0, eX8_sheet_1, eX8_sheet_2, eX8_sheet_5, eX8_sheet_6, eX8_sheet_9, eX8_sheet_12, eX8_sheet_13, Option.bind_some, Option.toList_some, Option.toList_none, List.cons_append, List.nil_append, G_o0, G_h0_0, G_r0_0, G_h0_1, G_r0_1, G_h0_2, G_r0_2, G_h0_3, G_r0_3, G_h0_4, G_r0_4, G_o10, G_h10_0, G_r10_0, G_h10_1, G_r10_1, G_q11, G_l11, G_o12, G_h12_0, G_r12_0, G_h12_1, G_r12_1, G_a13, G_l13, G_a14, G_l14, G_q1, G_l1, qX8_isSheet, eq_false hk, zb_1, zb_0, not_false_eq_true, if_true, if_false]
    · simp only [nX9_sheet, eX9_sheet_0, eX9_sheet_1, eX9_sheet_2, eX9_sheet_5, eX9_sheet_6, eX9_sheet_9, eX9_sheet_12, eX9_sheet_13, Option.bind_some, Option.toList_some, Option.toList_none, List.cons_append, List.nil_append, G_o55, G_h55_2, G_r55_2, G_a56, G_l56, G_h55_3, G_r55_3, G_a57, G_l57, G_h55_4, G_r55_4, G_a58, G_l58, G_h55_7, G_r55_7, G_a59, G_l59, G_h55_8, G_r55_8, G_a60, G_l60, G_h55_9, G_r55_9, G_a61, G_l61, G_h55_10, G_r55_10, G_a62, G_l62, G_h55_11, G_r55_11, G_a63, G_l63, G_h55_29, G_r55_29, G_a69, G_l69, G_h55_30, G_r55_30, G_a70, G_l70, qX9_isSheet, eq_false hkm, zb_1, zb_0, not_false_eq_true, if_true, if_false]
  obtain ⟨q, hq, rfl⟩ := zIdx (n := 4) hk.1 hk.2 (by decide)
  have hkt := eq_true hk
  have hkm := eq_true (sh_iff.mp hk)
  have hqs : 2 * q + 2 ≠ 0 := by omega
  have hqc : 2 * q + 3 ≠ 0 := by omega
  by_cases hv : (0 ≤ v ∧ v ≤ 2) ∧ n ≤ 60
  case neg =>
    refine ⟨(-2), zU I 0 6 0, zU (zU I 0 6 0) 55 0 0, J, J, ?_, ?_, inv_ft hI⟩
    · by_cases hl : 0 ≤ v ∧ v ≤ 2
      · simp only [nX8_sheet, eX8_sheet_0, eX8_sheet_1, eX8_sheet_2, eX8_sheet_5, eX8_sheet_6, eX8_sheet_9, eX8_sheet_12, eX8_sheet_13, eX8_sheet_14, eX8_sheet_15, eX8_sheet_18, eX8_sheet_21, eX8_sheet_22, eX8_sheet_24, eX8_sheet_27, eX8_sheet_29, Option.bind_some, Option.toList_some, Option.toList_none, List.cons_append, List.nil_append, G_o0, G_h0_0, G_r0_0, G_h0_1, G_r0_1, G_h0_2, G_r0_2, G_h0_3, G_r0_3, G_h0_4, G_r0_4, G_o10, G_h10_0, G_r10_0, G_h10_1, G_r10_1, G_q11, G_l11, G_o12, G_h12_0, G_r12_0, G_h12_1, G_r12_1, G_a13, G_l13, G_a14, G_l14, G_q1, G_l1, qX8_isSheet, qX8_isLane, hkt, eq_true hl, eq_false (fun x => hv ⟨hl, x⟩), zb_1, zb_0, not_true_eq_false, if_true, if_false]
      · simp only [nX8_sheet, eX8_sheet_0, eX8_sheet_1, eX8_sheet_2, eX8_sheet_5, eX8_sheet_6, eX8_sheet_9, eX8_sheet_12, eX8_sheet_13, eX8_sheet_14, eX8_sheet_15, eX8_sheet_18, eX8_sheet_21, eX8_sheet_22, eX8_sheet_24, eX8_sheet_27, eX8_sheet_29, Option.bind_some, Option.toList_some, Option.toList_none, List.cons_append, List.nil_append, G_o0, G_h0_0, G_r0_0, G_h0_1, G_r0_1, G_h0_2, G_r0_2, G_h0_3, G_r0_3, G_h0_4, G_r0_4, G_o10, G_h10_0, G_r10_0, G_h10_1, G_r10_1, G_q11, G_l11, G_o12, G_h12_0, G_r12_0, G_h12_1, G_r12_1, G_a13, G_l13, G_a14, G_l14, G_q1, G_l1, qX8_isSheet, qX8_isLane, hkt, eq_false hl, zb_1, zb_0, not_false_eq_true, if_true, if_false]
    · by_cases hl : 0 ≤ v ∧ v ≤ 2
      · simp only [nX9_sheet, eX9_sheet_0, eX9_sheet_1, eX9_sheet_2, eX9_sheet_5, eX9_sheet_6, eX9_sheet_9, eX9_sheet_12, eX9_sheet_13, eX9_sheet_14, eX9_sheet_15, eX9_sheet_18, eX9_sheet_21, eX9_sheet_22, eX9_sheet_24, eX9_sheet_27, eX9_sheet_29, Option.bind_some, Option.toList_some, Option.toList_none, List.cons_append, List.nil_append, G_o55, G_h55_2, G_r55_2, G_a56, G_l56, G_h55_3, G_r55_3, G_a57, G_l57, G_h55_4, G_r55_4, G_a58, G_l58, G_h55_7, G_r55_7, G_a59, G_l59, G_h55_8, G_r55_8, G_a60, G_l60, G_h55_9, G_r55_9, G_a61, G_l61, G_h55_10, G_r55_10, G_a62, G_l62, G_h55_11, G_r55_11, G_a63, G_l63, G_h55_29, G_r55_29, G_a69, G_l69, G_h55_30, G_r55_30, G_a70, G_l70, qX9_isSheet, qX9_isSort, hkm, eq_true hl, eq_false (fun x => hv ⟨hl, x⟩), zb_1, zb_0, not_true_eq_false, if_true, if_false]
      · simp only [nX9_sheet, eX9_sheet_0, eX9_sheet_1, eX9_sheet_2, eX9_sheet_5, eX9_sheet_6, eX9_sheet_9, eX9_sheet_12, eX9_sheet_13, eX9_sheet_14, eX9_sheet_15, eX9_sheet_18, eX9_sheet_21, eX9_sheet_22, eX9_sheet_24, eX9_sheet_27, eX9_sheet_29, Option.bind_some, Option.toList_some, Option.toList_none, List.cons_append, List.nil_append, G_o55, G_h55_2, G_r55_2, G_a56, G_l56, G_h55_3, G_r55_3, G_a57, G_l57, G_h55_4, G_r55_4, G_a58, G_l58, G_h55_7, G_r55_7, G_a59, G_l59, G_h55_8, G_r55_8, G_a60, G_l60, G_h55_9, G_r55_9, G_a61, G_l61, G_h55_10, G_r55_10, G_a62, G_l62, G_h55_11, G_r55_11, G_a63, G_l63, G_h55_29, G_r55_29, G_a69, G_l69, G_h55_30, G_r55_30, G_a70, G_l70, qX9_isSheet, qX9_isSort, hkm, eq_false hl, zb_1, zb_0, not_false_eq_true, if_true, if_false]
  have hl := eq_true hv.1
  have h60 := eq_true hv.2
  by_cases hn : n < 0
  · have hnx : (0 ≤ n) = False := eq_false (by grind)
    refine ⟨(-10 - 4), zU I 0 6 4, zU (zU I 0 6 4) 55 0 4, J, J, ?_, ?_, inv_ft hI⟩
    · simp only [nX8_sheet, eX8_sheet_0, eX8_sheet_1, eX8_sheet_2, eX8_sheet_5, eX8_sheet_6, eX8_sheet_9, eX8_sheet_12, eX8_sheet_13, eX8_sheet_14, eX8_sheet_15, eX8_sheet_18, eX8_sheet_21, eX8_sheet_22, eX8_sheet_24, eX8_sheet_27, eX8_sheet_29, eX8_sheet_30, eX8_sheet_31, eX8_sheet_34, eX8_sheet_35, eX8_sheet_36, eX8_sheet_39, Option.bind_some, Option.toList_some, Option.toList_none, List.cons_append, List.nil_append, G_o0, G_h0_0, G_r0_0, G_h0_1, G_r0_1, G_h0_2, G_r0_2, G_h0_3, G_r0_3, G_h0_4, G_r0_4, G_o10, G_h10_0, G_r10_0, G_h10_1, G_r10_1, G_q11, G_l11, G_o12, G_h12_0, G_r12_0, G_h12_1, G_r12_1, G_a13, G_l13, G_a14, G_l14, G_q1, G_l1, qX8_isSheet, qX8_isLane, hkt, hl, h60, hnx, zb_1, zb_0, not_true_eq_false, if_true, if_false, qX8_failed, zU_uu]
    · simp only [nX9_sheet, eX9_sheet_0, eX9_sheet_1, eX9_sheet_2, eX9_sheet_5, eX9_sheet_6, eX9_sheet_9, eX9_sheet_12, eX9_sheet_13, eX9_sheet_14, eX9_sheet_15, eX9_sheet_18, eX9_sheet_21, eX9_sheet_22, eX9_sheet_24, eX9_sheet_27, eX9_sheet_29, eX9_sheet_30, eX9_sheet_31, eX9_sheet_34, eX9_sheet_35, eX9_sheet_36, eX9_sheet_39, Option.bind_some, Option.toList_some, Option.toList_none, List.cons_append, List.nil_append, G_o55, G_h55_2, G_r55_2, G_a56, G_l56, G_h55_3, G_r55_3, G_a57, G_l57, G_h55_4, G_r55_4, G_a58, G_l58, G_h55_7, G_r55_7, G_a59, G_l59, G_h55_8, G_r55_8, G_a60, G_l60, G_h55_9, G_r55_9, G_a61, G_l61, G_h55_10, G_r55_10, G_a62, G_l62, G_h55_11, G_r55_11, G_a63, G_l63, G_h55_29, G_r55_29, G_a69, G_l69, G_h55_30, G_r55_30, G_a70, G_l70, qX9_isSheet, qX9_isSort, hkm, hl, h60, hnx, zb_1, zb_0, not_true_eq_false, if_true, if_false, qX9_fails, zU_uu]
  have hnx : (0 ≤ n) = True := eq_true (by grind)
  obtain ⟨m, hm, rfl⟩ := zIdl (n := 60) (x := n) (by grind) hv.2 (by decide)
  refine ⟨1, zUr (zU (zU (zU (zU I 0 6 0) (2 * q + 2) 1 1) (2 * q + 2) 2 v) (2 * q + 2) 3 (nI m)) (2 * q + 3) (fun j => if j < 60 then 0 else (zU (zU (zU (zU I 0 6 0) (2 * q + 2) 1 1) (2 * q + 2) 2 v) (2 * q + 2) 3 (nI m)) (2 * q + 3) j), zUr (zU (zU (zU (zUr (zU (zU (zU (zU I 0 6 0) (2 * q + 2) 1 1) (2 * q + 2) 2 v) (2 * q + 2) 3 (nI m)) (2 * q + 3) (fun j => if j < 60 then 0 else (zU (zU (zU (zU I 0 6 0) (2 * q + 2) 1 1) (2 * q + 2) 2 v) (2 * q + 2) 3 (nI m)) (2 * q + 3) j)) 55 0 0) 56 q v) 57 q (nI m)) 58 (fun x => if 60 * q + 0 ≤ x ∧ x < 60 * q + 60 then 0 else (zU (zU (zU (zUr (zU (zU (zU (zU I 0 6 0) (2 * q + 2) 1 1) (2 * q + 2) 2 v) (2 * q + 2) 3 (nI m)) (2 * q + 3) (fun j => if j < 60 then 0 else (zU (zU (zU (zU I 0 6 0) (2 * q + 2) 1 1) (2 * q + 2) 2 v) (2 * q + 2) 3 (nI m)) (2 * q + 3) j)) 55 0 0) 56 q v) 57 q (nI m)) 58 x), J, J, ?_, ?_, ?_⟩
  · simp only [nX8_sheet, eX8_sheet_0, eX8_sheet_1, eX8_sheet_2, eX8_sheet_5, eX8_sheet_6, eX8_sheet_9, eX8_sheet_12, eX8_sheet_13, eX8_sheet_14, eX8_sheet_15, eX8_sheet_18, eX8_sheet_21, eX8_sheet_22, eX8_sheet_24, eX8_sheet_27, eX8_sheet_29, eX8_sheet_30, eX8_sheet_31, eX8_sheet_34, eX8_sheet_35, eX8_sheet_36, eX8_sheet_39, eX8_sheet_40, eX8_sheet_41, eX8_sheet_44, eX8_sheet_45, eX8_sheet_46, eX8_sheet_47, eX8_sheet_48, eX8_sheet_51, eX8_sheet_52, Option.bind_some, Option.toList_some, Option.toList_none, List.cons_append, List.nil_append, G_o0, G_h0_0, G_r0_0, G_h0_1, G_r0_1, G_h0_2, G_r0_2, G_h0_3, G_r0_3, G_h0_4, G_r0_4, G_o10, G_h10_0, G_r10_0, G_h10_1, G_r10_1, G_q11, G_l11, G_o12, G_h12_0, G_r12_0, G_h12_1, G_r12_1, G_a13, G_l13, G_a14, G_l14, G_q1, G_l1, qX8_isSheet, qX8_isLane, hkt, hl, h60, hnx, zb_1, zb_0, not_true_eq_false, if_true, if_false, qX6_renew hq, G_1h hq, G_1r hq, zIn_4 hq, zc_n (show q ≤ 1000 by omega), G_sh_o hq, G_sh_h hq, G_sh_r hq, G_sh_a hq, G_sh_l hq]
  · simp only [nX9_sheet, eX9_sheet_0, eX9_sheet_1, eX9_sheet_2, eX9_sheet_5, eX9_sheet_6, eX9_sheet_9, eX9_sheet_12, eX9_sheet_13, eX9_sheet_14, eX9_sheet_15, eX9_sheet_18, eX9_sheet_21, eX9_sheet_22, eX9_sheet_24, eX9_sheet_27, eX9_sheet_29, eX9_sheet_30, eX9_sheet_31, eX9_sheet_34, eX9_sheet_35, eX9_sheet_36, eX9_sheet_39, eX9_sheet_40, eX9_sheet_41, eX9_sheet_44, eX9_sheet_45, eX9_sheet_46, eX9_sheet_47, eX9_sheet_48, eX9_sheet_51, eX9_sheet_52, eX9_sheet_53, eX9_sheet_54, eX9_sheet_55, Option.bind_some, Option.toList_some, Option.toList_none, List.cons_append, List.nil_append, G_o55, G_h55_2, G_r55_2, G_a56, G_l56, G_h55_3, G_r55_3, G_a57, G_l57, G_h55_4, G_r55_4, G_a58, G_l58, G_h55_7, G_r55_7, G_a59, G_l59, G_h55_8, G_r55_8, G_a60, G_l60, G_h55_9, G_r55_9, G_a61, G_l61, G_h55_10, G_r55_10, G_a62, G_l62, G_h55_11, G_r55_11, G_a63, G_l63, G_h55_29, G_r55_29, G_a69, G_l69, G_h55_30, G_r55_30, G_a70, G_l70, qX9_isSheet, qX9_isSort, hkm, hl, h60, hnx, zb_1, zb_0, not_true_eq_false, if_true, if_false, zIn_4 hq, zc_n (show q ≤ 1000 by omega)]
    exact lp_sh hq 60 0 _ (by omega)
  · generalize hK3 : zU (zU (zU (zU I 0 6 0) (2 * q + 2) 1 1) (2 * q + 2) 2 v) (2 * q + 2) 3 (nI m) = K3
    have k3o : ∀ c, c ≠ 0 → c ≠ 2 * q + 2 → K3 c = I c := fun c x y => by rw [← hK3, zU_ne _ _ _ y, zU_ne _ _ _ y, zU_ne _ _ _ y, zU_ne _ _ _ x]
    have k30 : K3 0 = zU I 0 6 0 0 := by rw [← hK3, zU_ne _ _ _ (by omega), zU_ne _ _ _ (by omega), zU_ne _ _ _ (by omega)]
    have k31 : K3 (2 * q + 2) 1 = 1 := by rw [← hK3, zU_k _ _ _ (by decide), zU_k _ _ _ (by decide), zU_at]
    have k32 : K3 (2 * q + 2) 2 = v := by rw [← hK3, zU_k _ _ _ (by decide), zU_at]
    have k33 : K3 (2 * q + 2) 3 = nI m := by rw [← hK3, zU_at]
    generalize hA : zUr K3 (2 * q + 3) (fun j => if j < 60 then 0 else K3 (2 * q + 3) j) = A
    have Ao : ∀ c, c ≠ 2 * q + 3 → A c = K3 c := fun c h => by rw [← hA, zUr_ne _ _ h]
    have Ac : ∀ i, i < 60 → A (2 * q + 3) i = 0 := fun i h => by rw [← hA, zUr_self, if_pos h]
    generalize hB : zU (zU (zU A 55 0 0) 56 q v) 57 q (nI m) = B
    have Bo : ∀ c, c ≠ 55 → c ≠ 56 → c ≠ 57 → B c = A c := fun c x y z => by rw [← hB, zU_ne _ _ _ z, zU_ne _ _ _ y, zU_ne _ _ _ x]
    have B5 : ∀ j, j ≠ 0 → B 55 j = I 55 j := fun j h => by rw [← hB, zU_ne _ _ _ (by decide), zU_ne _ _ _ (by decide), zU_k _ _ _ h, Ao 55 (by omega), k3o 55 (by decide) (by omega)]
    have B50 : B 55 0 = 0 := by rw [← hB, zU_ne _ _ _ (by decide), zU_ne _ _ _ (by decide), zU_at]
    have B56 : ∀ j, B 56 j = if j = q then v else I 56 j := fun j => by
      rw [← hB, zU_ne _ _ _ (by decide), zU_app, zU_ne _ _ _ (by decide), Ao 56 (by omega), k3o 56 (by decide) (by omega)]
      simp only [true_and]
    have B57 : ∀ j, B 57 j = if j = q then nI m else I 57 j := fun j => by
      rw [← hB, zU_app, zU_ne _ _ _ (by decide), zU_ne _ _ _ (by decide), Ao 57 (by omega), k3o 57 (by decide) (by omega)]
      simp only [true_and]
    have B58 : B 58 = I 58 := by rw [Bo 58 (by decide) (by decide) (by decide), Ao 58 (by omega), k3o 58 (by decide) (by omega)]
    have Do : ∀ (f : Nat → Int32) c, c ≠ 58 → zUr B 58 f c = B c := fun f c h => zUr_ne _ _ h
    refine inv_sh (k := q) hI hq (fun c x0 x1 x2 x3 x4 x5 x6 => ?_) ?_ ?_ (fun j h => ?_) (fun j h h2 => ?_) ?_ (fun i hi => ?_)
    · rw [Do _ c x6, Bo c x3 x4 x5, Ao c x2, k3o c x0 x1]
    · rw [Do _ 0 (by decide), Do _ 55 (by decide), B50, Bo 0 (by decide) (by decide) (by decide), Ao 0 (by omega), k30, zU_at]
    · rw [Do _ 0 (by decide), Bo 0 (by decide) (by decide) (by decide), Ao 0 (by omega), k30, zU_k _ _ _ (by decide)]
    · rw [Do _ 55 (by decide), B5 j h]
    · refine ⟨?_, ?_, fun i hi => ?_⟩
      · rw [Do _ 56 (by decide), B56, if_neg h2]
      · rw [Do _ 57 (by decide), B57, if_neg h2]
      · rw [zUr_self, if_neg (by omega), B58]
    · rw [Do _ (2 * q + 2) (by omega), Do _ 56 (by decide), Do _ 57 (by decide), B56, if_pos rfl, B57, if_pos rfl, Bo _ (by omega) (by omega) (by omega), Ao _ (by omega), k31, k32, k33]
      exact Or.inr ⟨rfl, rfl, hv.1, rfl, m, hm, rfl⟩
    · rw [Do _ (2 * q + 3) (by omega), zUr_self, if_pos (by omega), Bo _ (by omega) (by omega) (by omega), Ac i hi]
set_option maxHeartbeats 1000000 in
theorem op_lose {I : Nat → Nat → Int32} (hI : zInv I) (k : Int32) : zOp L xs d 65 143 [.int k] I J := by
  obtain ⟨⟨a1, a2, a3⟩, b, c1, c2, c3, N, ⟨n1, n2, n3, n4, n5, n6⟩, C, r1, r2, r3, r4, r5⟩ := id hI
  by_cases hk : 0 ≤ k ∧ k < 4
  case neg =>
    have hkm : ¬ (0 ≤ k ∧ k ≤ 3) := fun x => hk (sh_iff.mpr x)
    refine ⟨(-1), I, I, J, J, ?_, ?_, hI⟩
    · simp only [nX8_lose, eX8_lose_0, eX8_lose_1, eX8_lose_4, eX8_lose_7, eX8_lose_8, Option.bind_some, Option.toList_some, Option.toList_none, List.cons_append, List.nil_append, G_o0, G_h0_0, G_r0_0, G_h0_1, G_r0_1, G_h0_2, G_r0_2, G_h0_3, G_r0_3, G_h0_4, G_r0_4, G_o10, G_h10_0, G_r10_0, G_h10_1, G_r10_1, G_q11, G_l11, G_o12, G_h12_0, G_r12_0, G_h12_1, G_r12_1, G_a13, G_l13, G_a14, G_l14, G_q1, G_l1, qX8_isSheet, eq_false hk, zb_1, zb_0, not_false_eq_true, if_true, if_false]
    · simp only [nX9_lose, eX9_lose_0, eX9_lose_1, eX9_lose_4, eX9_lose_7, eX9_lose_8, Option.bind_some, Option.toList_some, Option.toList_none, List.cons_append, List.nil_append, G_o55, G_h55_2, G_r55_2, G_a56, G_l56, G_h55_3, G_r55_3, G_a57, G_l57, G_h55_4, G_r55_4, G_a58, G_l58, G_h55_7, G_r55_7, G_a59, G_l59, G_h55_8, G_r55_8, G_a60, G_l60, G_h55_9, G_r55_9, G_a61, G_l61, G_h55_10, G_r55_10, G_a62, G_l62, G_h55_11, G_r55_11, G_a63, G_l63, G_h55_29, G_r55_29, G_a69, G_l69, G_h55_30, G_r55_30, G_a70, G_l70, qX9_isSheet, eq_false hkm, zb_1, zb_0, not_false_eq_true, if_true, if_false]
  obtain ⟨q, hq, rfl⟩ := zIdx (n := 4) hk.1 hk.2 (by decide)
  have hkt := eq_true hk
  have hkm := eq_true (sh_iff.mp hk)
  have inv : zInv (zU (zU I (2 * q + 2) 1 0) 56 q (-9)) := by
    refine inv_sh (k := q) hI hq (fun c x0 x1 x2 x3 x4 x5 x6 => ?_) ?_ ?_ (fun j h => ?_) (fun j h h2 => ?_) ?_ (fun i hi => ?_)
    · rw [zU_ne _ _ _ x4, zU_ne _ _ _ x1]
    · rw [zU_ne _ _ _ (by decide), zU_ne _ _ _ (by omega), zU_ne _ _ _ (by decide), zU_ne _ _ _ (by omega)]; exact a1
    · rw [zU_ne _ _ _ (by decide), zU_ne _ _ _ (by omega)]
    · rw [zU_ne _ _ _ (by decide), zU_ne _ _ _ (by omega)]
    · refine ⟨?_, ?_, fun i hi => ?_⟩
      · rw [zU_k _ _ _ h2, zU_ne _ _ _ (by omega)]
      · rw [zU_ne _ _ _ (by decide), zU_ne _ _ _ (by omega)]
      · rw [zU_ne _ _ _ (by decide), zU_ne _ _ _ (by omega)]
    · rw [zU_ne _ _ _ (by omega), zU_at, zU_at]
      exact Or.inl ⟨rfl, rfl⟩
    · rw [zU_ne _ _ _ (by omega), zU_ne _ _ _ (by omega), zU_ne _ _ _ (by decide), zU_ne _ _ _ (by omega)]
      exact (b q hq).2 i hi
  have k56 : zU I (2 * q + 2) 1 0 56 = I 56 := zU_ne _ _ _ (by omega)
  rcases (b q hq).1 with ⟨s1, s2⟩ | ⟨s1, s2, s3, -⟩
  · refine ⟨0, zU I (2 * q + 2) 1 0, zU (zU I (2 * q + 2) 1 0) 56 q (-9), J, J, ?_, ?_, inv⟩
    · simp only [nX8_lose, eX8_lose_0, eX8_lose_1, eX8_lose_4, eX8_lose_7, eX8_lose_8, eX8_lose_9, eX8_lose_10, eX8_lose_13, eX8_lose_14, eX8_lose_15, eX8_lose_18, eX8_lose_19, eX8_lose_20, eX8_lose_23, eX8_lose_24, eX8_lose_25, eX8_lose_26, eX8_lose_29, eX8_lose_30, eX8_lose_33, eX8_lose_34, eX8_lose_37, eX8_lose_38, Option.bind_some, Option.toList_some, Option.toList_none, List.cons_append, List.nil_append, G_o0, G_h0_0, G_r0_0, G_h0_1, G_r0_1, G_h0_2, G_r0_2, G_h0_3, G_r0_3, G_h0_4, G_r0_4, G_o10, G_h10_0, G_r10_0, G_h10_1, G_r10_1, G_q11, G_l11, G_o12, G_h12_0, G_r12_0, G_h12_1, G_r12_1, G_a13, G_l13, G_a14, G_l14, G_q1, G_l1, qX8_isSheet, hkt, zb_1, zb_0, not_true_eq_false, not_false_eq_true, if_true, if_false, G_1h hq, G_1r hq, zIn_4 hq, zc_n (show q ≤ 1000 by omega), G_sh_o hq, G_sh_h hq, G_sh_r hq, G_sh_a hq, G_sh_l hq, zT_0, s1]
    · simp only [nX9_lose, eX9_lose_0, eX9_lose_1, eX9_lose_4, eX9_lose_7, eX9_lose_8, eX9_lose_9, eX9_lose_10, eX9_lose_13, eX9_lose_14, eX9_lose_15, eX9_lose_17, eX9_lose_20, eX9_lose_21, eX9_lose_24, eX9_lose_25, eX9_lose_26, eX9_lose_27, eX9_lose_30, eX9_lose_31, eX9_lose_33, eX9_lose_34, eX9_lose_35, Option.bind_some, Option.toList_some, Option.toList_none, List.cons_append, List.nil_append, G_o55, G_h55_2, G_r55_2, G_a56, G_l56, G_h55_3, G_r55_3, G_a57, G_l57, G_h55_4, G_r55_4, G_a58, G_l58, G_h55_7, G_r55_7, G_a59, G_l59, G_h55_8, G_r55_8, G_a60, G_l60, G_h55_9, G_r55_9, G_a61, G_l61, G_h55_10, G_r55_10, G_a62, G_l62, G_h55_11, G_r55_11, G_a63, G_l63, G_h55_29, G_r55_29, G_a69, G_l69, G_h55_30, G_r55_30, G_a70, G_l70, qX9_isSheet, hkm, zb_1, zb_0, not_true_eq_false, not_false_eq_true, if_true, if_false, zIn_4 hq, zc_n (show q ≤ 1000 by omega), k56, eq_true s2, ne_eq]
  · have s9 : (I 56 q = -9) = False := eq_false (by rw [s2]; intro e; rw [e] at s3; exact absurd s3.1 (by decide))
    refine ⟨1, zU I (2 * q + 2) 1 0, zU (zU I (2 * q + 2) 1 0) 56 q (-9), J, J, ?_, ?_, inv⟩
    · simp only [nX8_lose, eX8_lose_0, eX8_lose_1, eX8_lose_4, eX8_lose_7, eX8_lose_8, eX8_lose_9, eX8_lose_10, eX8_lose_13, eX8_lose_14, eX8_lose_15, eX8_lose_18, eX8_lose_19, eX8_lose_20, eX8_lose_23, eX8_lose_24, eX8_lose_25, eX8_lose_26, eX8_lose_29, eX8_lose_30, eX8_lose_33, eX8_lose_34, eX8_lose_37, eX8_lose_38, Option.bind_some, Option.toList_some, Option.toList_none, List.cons_append, List.nil_append, G_o0, G_h0_0, G_r0_0, G_h0_1, G_r0_1, G_h0_2, G_r0_2, G_h0_3, G_r0_3, G_h0_4, G_r0_4, G_o10, G_h10_0, G_r10_0, G_h10_1, G_r10_1, G_q11, G_l11, G_o12, G_h12_0, G_r12_0, G_h12_1, G_r12_1, G_a13, G_l13, G_a14, G_l14, G_q1, G_l1, qX8_isSheet, hkt, zb_1, zb_0, not_true_eq_false, not_false_eq_true, if_true, if_false, G_1h hq, G_1r hq, zIn_4 hq, zc_n (show q ≤ 1000 by omega), G_sh_o hq, G_sh_h hq, G_sh_r hq, G_sh_a hq, G_sh_l hq, zT_0, s1, show ((1 : Int32) = 0) = False from by decide]
    · simp only [nX9_lose, eX9_lose_0, eX9_lose_1, eX9_lose_4, eX9_lose_7, eX9_lose_8, eX9_lose_9, eX9_lose_10, eX9_lose_13, eX9_lose_14, eX9_lose_15, eX9_lose_17, eX9_lose_20, eX9_lose_21, eX9_lose_24, eX9_lose_25, eX9_lose_26, eX9_lose_27, eX9_lose_30, eX9_lose_31, eX9_lose_33, eX9_lose_34, eX9_lose_35, Option.bind_some, Option.toList_some, Option.toList_none, List.cons_append, List.nil_append, G_o55, G_h55_2, G_r55_2, G_a56, G_l56, G_h55_3, G_r55_3, G_a57, G_l57, G_h55_4, G_r55_4, G_a58, G_l58, G_h55_7, G_r55_7, G_a59, G_l59, G_h55_8, G_r55_8, G_a60, G_l60, G_h55_9, G_r55_9, G_a61, G_l61, G_h55_10, G_r55_10, G_a62, G_l62, G_h55_11, G_r55_11, G_a63, G_l63, G_h55_29, G_r55_29, G_a69, G_l69, G_h55_30, G_r55_30, G_a70, G_l70, qX9_isSheet, hkm, zb_1, zb_0, not_true_eq_false, not_false_eq_true, if_true, if_false, zIn_4 hq, zc_n (show q ≤ 1000 by omega), k56, s9, ne_eq]

set_option maxHeartbeats 1000000 in
theorem op_put {I : Nat → Nat → Int32} (hI : zInv I) (k i v : Int32) : zOp L xs d 66 144 [.int k, .int i, .int v] I J := by
  obtain ⟨⟨a1, a2, a3⟩, b, c1, c2, c3, N, ⟨n1, n2, n3, n4, n5, n6⟩, C, r1, r2, r3, r4, r5⟩ := id hI
  have o0 : ∀ (x : Int32) c, c ≠ 0 → zU I 0 6 x c = I c := fun x c h => zU_ne _ _ _ h
  have o5 : ∀ (x y : Int32) c, c ≠ 0 → c ≠ 55 → zU (zU I 0 6 x) 55 0 y c = I c := fun x y c h h2 => by rw [zU_ne _ _ _ h2, zU_ne _ _ _ h]
  by_cases hk : 0 ≤ k ∧ k < 4
  case neg =>
    have hkm : ¬ (0 ≤ k ∧ k ≤ 3) := fun x => hk (sh_iff.mpr x)
    refine ⟨(-1), zU I 0 6 0, zU (zU I 0 6 0) 55 0 0, J, J, ?_, ?_, inv_ft hI⟩
    · simp only [nX8_put, eX8_put_0, eX8_put_1, eX8_put_2, eX8_put_5, eX8_put_6, eX8_put_9, eX8_put_12, eX8_put_13, Option.bind_some, Option.toList_some, Option.toList_none, List.cons_append, List.nil_append, G_o0, G_h0_0, G_r0_0, G_h0_1, G_r0_1, G_h0_2, G_r0_2, G_h0_3, G_r0_3, G_h0_4, G_r0_4, G_o10, G_h10_0, G_r10_0, G_h10_1, G_r10_1, G_q11, G_l11, G_o12, G_h12_0, G_r12_0, G_h12_1, G_r12_1, G_a13, G_l13, G_a14, G_l14, G_q1, G_l1, qX8_isSheet, eq_false hk, zb_1, zb_0, not_false_eq_true, if_true, if_false]
    · simp only [nX9_put, eX9_put_0, eX9_put_1, eX9_put_2, eX9_put_5, eX9_put_6, eX9_put_9, eX9_put_12, eX9_put_13, Option.bind_some, Option.toList_some, Option.toList_none, List.cons_append, List.nil_append, G_o55, G_h55_2, G_r55_2, G_a56, G_l56, G_h55_3, G_r55_3, G_a57, G_l57, G_h55_4, G_r55_4, G_a58, G_l58, G_h55_7, G_r55_7, G_a59, G_l59, G_h55_8, G_r55_8, G_a60, G_l60, G_h55_9, G_r55_9, G_a61, G_l61, G_h55_10, G_r55_10, G_a62, G_l62, G_h55_11, G_r55_11, G_a63, G_l63, G_h55_29, G_r55_29, G_a69, G_l69, G_h55_30, G_r55_30, G_a70, G_l70, qX9_isSheet, eq_false hkm, zb_1, zb_0, not_false_eq_true, if_true, if_false]
  obtain ⟨q, hq, rfl⟩ := zIdx (n := 4) hk.1 hk.2 (by decide)
  have hkt := eq_true hk
  have hkm := eq_true (sh_iff.mp hk)
  have hqs : 2 * q + 2 ≠ 0 := by omega
  have hqc : 2 * q + 3 ≠ 0 := by omega
  have e60 : (60 : Int32) * nI q = nI (60 * q) := pk_mul 60 q
  rcases (b q hq).1 with ⟨s1, s2⟩ | ⟨s1, s2, s3, s4, m, hm, s5⟩
  · refine ⟨(-10 - 1), zU I 0 6 1, zU (zU I 0 6 1) 55 0 1, J, J, ?_, ?_, inv_ft hI⟩
    · simp only [nX8_put, eX8_put_0, eX8_put_1, eX8_put_2, eX8_put_5, eX8_put_6, eX8_put_9, eX8_put_12, eX8_put_13, eX8_put_14, eX8_put_15, eX8_put_18, eX8_put_19, eX8_put_20, eX8_put_22, eX8_put_24, eX8_put_27, eX8_put_30, eX8_put_31, eX8_put_32, eX8_put_35, Option.bind_some, Option.toList_some, Option.toList_none, List.cons_append, List.nil_append, G_o0, G_h0_0, G_r0_0, G_h0_1, G_r0_1, G_h0_2, G_r0_2, G_h0_3, G_r0_3, G_h0_4, G_r0_4, G_o10, G_h10_0, G_r10_0, G_h10_1, G_r10_1, G_q11, G_l11, G_o12, G_h12_0, G_r12_0, G_h12_1, G_r12_1, G_a13, G_l13, G_a14, G_l14, G_q1, G_l1, qX8_isSheet, hkt, zb_1, zb_0, not_true_eq_false, not_false_eq_true, if_true, if_false, G_1h hq, G_1r hq, zIn_4 hq, zc_n (show q ≤ 1000 by omega), G_sh_o hq, G_sh_h hq, G_sh_r hq, G_sh_a hq, G_sh_l hq, o0 0 (2 * q + 2) hqs, o0 0 (2 * q + 3) hqc, s1, ne_eq, qX8_failed, zU_uu]
    · simp only [nX9_put, eX9_put_0, eX9_put_1, eX9_put_2, eX9_put_5, eX9_put_6, eX9_put_9, eX9_put_12, eX9_put_13, eX9_put_14, eX9_put_15, eX9_put_18, eX9_put_19, eX9_put_20, eX9_put_22, eX9_put_25, eX9_put_26, eX9_put_27, eX9_put_30, Option.bind_some, Option.toList_some, Option.toList_none, List.cons_append, List.nil_append, G_o55, G_h55_2, G_r55_2, G_a56, G_l56, G_h55_3, G_r55_3, G_a57, G_l57, G_h55_4, G_r55_4, G_a58, G_l58, G_h55_7, G_r55_7, G_a59, G_l59, G_h55_8, G_r55_8, G_a60, G_l60, G_h55_9, G_r55_9, G_a61, G_l61, G_h55_10, G_r55_10, G_a62, G_l62, G_h55_11, G_r55_11, G_a63, G_l63, G_h55_29, G_r55_29, G_a69, G_l69, G_h55_30, G_r55_30, G_a70, G_l70, qX9_isSheet, hkm, zb_1, zb_0, not_true_eq_false, not_false_eq_true, if_true, if_false, zIn_4 hq, zc_n (show q ≤ 1000 by omega), o5 1 0 56 (by decide) (by decide), o5 1 0 57 (by decide) (by decide), eq_true s2, ne_eq, qX9_fails, zU_uu]
  have s9 : (I 56 q = -9) = False := eq_false (by rw [s2]; intro e; rw [e] at s3; exact absurd s3.1 (by decide))
  have s10 : (I (2 * q + 2) 1 = 0) = False := eq_false (by rw [s1]; decide)
  have ii := in_iff (k := i) (nI_60 hm)
  by_cases hi : 0 ≤ i ∧ i < nI m
  · have hit := eq_true hi
    have him := eq_true (ii.mpr hi)
    obtain ⟨p, hp, rfl⟩ := zIdx hi.1 hi.2 (by omega)
    generalize hx : (if I (2 * q + 2) 2 = 0 then v.toInt8.toInt32 else if I (2 * q + 2) 2 = 1 then v.toInt16.toInt32 else v) = x
    refine ⟨1, zU (zU I 0 6 0) (2 * q + 3) p x, zU (zU (zU (zU I 0 6 0) (2 * q + 3) p x) 55 0 0) 58 (60 * q + p) x, J, J, ?_, ?_, ?_⟩
    · simp only [nX8_put, eX8_put_0, eX8_put_1, eX8_put_2, eX8_put_5, eX8_put_6, eX8_put_9, eX8_put_12, eX8_put_13, eX8_put_14, eX8_put_15, eX8_put_18, eX8_put_19, eX8_put_20, eX8_put_22, eX8_put_24, eX8_put_27, eX8_put_30, eX8_put_31, eX8_put_32, eX8_put_35, eX8_put_36, eX8_put_38, eX8_put_39, eX8_put_42, eX8_put_45, eX8_put_46, eX8_put_47, eX8_put_50, eX8_put_51, eX8_put_53, eX8_put_56, eX8_put_57, eX8_put_59, eX8_put_60, eX8_put_63, eX8_put_64, eX8_put_65, Option.bind_some, Option.toList_some, Option.toList_none, List.cons_append, List.nil_append, G_o0, G_h0_0, G_r0_0, G_h0_1, G_r0_1, G_h0_2, G_r0_2, G_h0_3, G_r0_3, G_h0_4, G_r0_4, G_o10, G_h10_0, G_r10_0, G_h10_1, G_r10_1, G_q11, G_l11, G_o12, G_h12_0, G_r12_0, G_h12_1, G_r12_1, G_a13, G_l13, G_a14, G_l14, G_q1, G_l1, qX8_isSheet, hkt, zb_1, zb_0, not_true_eq_false, not_false_eq_true, if_true, if_false, G_1h hq, G_1r hq, zIn_4 hq, zc_n (show q ≤ 1000 by omega), G_sh_o hq, G_sh_h hq, G_sh_r hq, G_sh_a hq, G_sh_l hq, o0 0 (2 * q + 2) hqs, o0 0 (2 * q + 3) hqc, s10, s5, hit, ne_eq, qX6_hasCell hq, qX6_cut hq, hx, zIn_60 (show p < 60 by omega), zc_n (show p ≤ 1000 by omega)]
    · have o7 : ∀ c, c ≠ 0 → c ≠ 2 * q + 3 → c ≠ 55 → zU (zU (zU I 0 6 0) (2 * q + 3) p x) 55 0 0 c = I c := fun c x y z => by rw [zU_ne _ _ _ z, zU_ne _ _ _ y, zU_ne _ _ _ x]
      rw [← s2] at hx
      by_cases h0 : I 56 q = 0
      · rw [if_pos h0] at hx
        simp only [nX9_put, eX9_put_0, eX9_put_1, eX9_put_2, eX9_put_5, eX9_put_6, eX9_put_9, eX9_put_12, eX9_put_13, eX9_put_14, eX9_put_15, eX9_put_18, eX9_put_19, eX9_put_20, eX9_put_22, eX9_put_25, eX9_put_26, eX9_put_27, eX9_put_30, eX9_put_31, eX9_put_32, eX9_put_33, eX9_put_34, eX9_put_37, eX9_put_38, eX9_put_39, eX9_put_40, eX9_put_41, eX9_put_44, eX9_put_47, eX9_put_48, eX9_put_49, eX9_put_52, eX9_put_53, eX9_put_54, eX9_put_57, eX9_put_59, eX9_put_60, eX9_put_61, eX9_put_62, eX9_put_63, eX9_put_64, eX9_put_67, eX9_put_68, eX9_put_69, eX9_put_72, eX9_put_73, eX9_put_74, eX9_put_77, eX9_put_78, eX9_put_81, eX9_put_82, eX9_put_83, eX9_put_84, eX9_put_87, eX9_put_88, eX9_put_89, eX9_put_92, eX9_put_93, eX9_put_94, eX9_put_95, Option.bind_some, Option.toList_some, Option.toList_none, List.cons_append, List.nil_append, G_o55, G_h55_2, G_r55_2, G_a56, G_l56, G_h55_3, G_r55_3, G_a57, G_l57, G_h55_4, G_r55_4, G_a58, G_l58, G_h55_7, G_r55_7, G_a59, G_l59, G_h55_8, G_r55_8, G_a60, G_l60, G_h55_9, G_r55_9, G_a61, G_l61, G_h55_10, G_r55_10, G_a62, G_l62, G_h55_11, G_r55_11, G_a63, G_l63, G_h55_29, G_r55_29, G_a69, G_l69, G_h55_30, G_r55_30, G_a70, G_l70, qX9_isSheet, hkm, zb_1, zb_0, not_true_eq_false, not_false_eq_true, if_true, if_false, zIn_4 hq, zc_n (show q ≤ 1000 by omega), o7 56 (by decide) (by omega) (by decide), o7 57 (by decide) (by omega) (by decide), s9, s4, s5, qX9_within, him, eq_true h0, ne_eq, e60, nI_add, zIn_240 (show 60 * q + p < 240 by omega), zc_n (show 60 * q + p ≤ 1000 by omega), hx]
      · rw [if_neg h0] at hx
        by_cases h1 : I 56 q = 1
        · rw [if_pos h1] at hx
          simp only [nX9_put, eX9_put_0, eX9_put_1, eX9_put_2, eX9_put_5, eX9_put_6, eX9_put_9, eX9_put_12, eX9_put_13, eX9_put_14, eX9_put_15, eX9_put_18, eX9_put_19, eX9_put_20, eX9_put_22, eX9_put_25, eX9_put_26, eX9_put_27, eX9_put_30, eX9_put_31, eX9_put_32, eX9_put_33, eX9_put_34, eX9_put_37, eX9_put_38, eX9_put_39, eX9_put_40, eX9_put_41, eX9_put_44, eX9_put_47, eX9_put_48, eX9_put_49, eX9_put_52, eX9_put_53, eX9_put_54, eX9_put_57, eX9_put_59, eX9_put_60, eX9_put_61, eX9_put_62, eX9_put_63, eX9_put_64, eX9_put_67, eX9_put_68, eX9_put_69, eX9_put_72, eX9_put_73, eX9_put_74, eX9_put_77, eX9_put_78, eX9_put_81, eX9_put_82, eX9_put_83, eX9_put_84, eX9_put_87, eX9_put_88, eX9_put_89, eX9_put_92, eX9_put_93, eX9_put_94, eX9_put_95, Option.bind_some, Option.toList_some, Option.toList_none, List.cons_append, List.nil_append, G_o55, G_h55_2, G_r55_2, G_a56, G_l56, G_h55_3, G_r55_3, G_a57, G_l57, G_h55_4, G_r55_4, G_a58, G_l58, G_h55_7, G_r55_7, G_a59, G_l59, G_h55_8, G_r55_8, G_a60, G_l60, G_h55_9, G_r55_9, G_a61, G_l61, G_h55_10, G_r55_10, G_a62, G_l62, G_h55_11, G_r55_11, G_a63, G_l63, G_h55_29, G_r55_29, G_a69, G_l69, G_h55_30, G_r55_30, G_a70, G_l70, qX9_isSheet, hkm, zb_1, zb_0, not_true_eq_false, not_false_eq_true, if_true, if_false, zIn_4 hq, zc_n (show q ≤ 1000 by omega), o7 56 (by decide) (by omega) (by decide), o7 57 (by decide) (by omega) (by decide), s9, s4, s5, qX9_within, him, eq_false h0, eq_true h1, ne_eq, e60, nI_add, zIn_240 (show 60 * q + p < 240 by omega), zc_n (show 60 * q + p ≤ 1000 by omega), hx]
        · rw [if_neg h1] at hx
          simp only [nX9_put, eX9_put_0, eX9_put_1, eX9_put_2, eX9_put_5, eX9_put_6, eX9_put_9, eX9_put_12, eX9_put_13, eX9_put_14, eX9_put_15, eX9_put_18, eX9_put_19, eX9_put_20, eX9_put_22, eX9_put_25, eX9_put_26, eX9_put_27, eX9_put_30, eX9_put_31, eX9_put_32, eX9_put_33, eX9_put_34, eX9_put_37, eX9_put_38, eX9_put_39, eX9_put_40, eX9_put_41, eX9_put_44, eX9_put_47, eX9_put_48, eX9_put_49, eX9_put_52, eX9_put_53, eX9_put_54, eX9_put_57, eX9_put_59, eX9_put_60, eX9_put_61, eX9_put_62, eX9_put_63, eX9_put_64, eX9_put_67, eX9_put_68, eX9_put_69, eX9_put_72, eX9_put_73, eX9_put_74, eX9_put_77, eX9_put_78, eX9_put_81, eX9_put_82, eX9_put_83, eX9_put_84, eX9_put_87, eX9_put_88, eX9_put_89, eX9_put_92, eX9_put_93, eX9_put_94, eX9_put_95, Option.bind_some, Option.toList_some, Option.toList_none, List.cons_append, List.nil_append, G_o55, G_h55_2, G_r55_2, G_a56, G_l56, G_h55_3, G_r55_3, G_a57, G_l57, G_h55_4, G_r55_4, G_a58, G_l58, G_h55_7, G_r55_7, G_a59, G_l59, G_h55_8, G_r55_8, G_a60, G_l60, G_h55_9, G_r55_9, G_a61, G_l61, G_h55_10, G_r55_10, G_a62, G_l62, G_h55_11, G_r55_11, G_a63, G_l63, G_h55_29, G_r55_29, G_a69, G_l69, G_h55_30, G_r55_30, G_a70, G_l70, qX9_isSheet, hkm, zb_1, zb_0, not_true_eq_false, not_false_eq_true, if_true, if_false, zIn_4 hq, zc_n (show q ≤ 1000 by omega), o7 56 (by decide) (by omega) (by decide), o7 57 (by decide) (by omega) (by decide), s9, s4, s5, qX9_within, him, eq_false h0, eq_false h1, ne_eq, e60, nI_add, zIn_240 (show 60 * q + p < 240 by omega), zc_n (show 60 * q + p ≤ 1000 by omega), hx]
    · have o7 : ∀ c, c ≠ 0 → c ≠ 2 * q + 3 → c ≠ 55 → c ≠ 58 → zU (zU (zU (zU I 0 6 0) (2 * q + 3) p x) 55 0 0) 58 (60 * q + p) x c = I c := fun c x y z w => by rw [zU_ne _ _ _ w, zU_ne _ _ _ z, zU_ne _ _ _ y, zU_ne _ _ _ x]
      have o8 : ∀ j, zU (zU (zU (zU I 0 6 0) (2 * q + 3) p x) 55 0 0) 58 (60 * q + p) x 58 j = if j = 60 * q + p then x else I 58 j := fun j => by
        rw [zU_app, zU_ne _ _ _ (by decide), zU_ne _ _ _ (by omega), zU_ne _ _ _ (by decide)]
        simp only [true_and]
      have o9 : ∀ j, zU (zU (zU (zU I 0 6 0) (2 * q + 3) p x) 55 0 0) 58 (60 * q + p) x (2 * q + 3) j = if j = p then x else I (2 * q + 3) j := fun j => by
        rw [zU_ne _ _ _ (by omega), zU_ne _ _ _ (by omega), zU_app, zU_ne _ _ _ (by omega)]
        simp only [true_and]
      refine inv_sh (k := q) hI hq (fun c x0 x1 x2 x3 x4 x5 x6 => o7 c x0 x2 x3 x6) ?_ ?_ (fun j h => ?_) (fun j h h2 => ?_) ?_ (fun i hi => ?_)
      · rw [zU_ne _ _ _ (by decide), zU_ne _ _ _ (by decide), zU_ne _ _ _ (by omega), zU_at, zU_ne _ _ _ (by decide), zU_at]
      · rw [zU_ne _ _ _ (by decide), zU_ne _ _ _ (by decide), zU_ne _ _ _ (by omega), zU_k _ _ _ (by decide)]
      · rw [zU_ne _ _ _ (by decide), zU_k _ _ _ h, zU_ne _ _ _ (by omega), zU_ne _ _ _ (by decide)]
      · rw [o7 56 (by decide) (by omega) (by decide) (by decide), o7 57 (by decide) (by omega) (by decide) (by decide)]
        exact ⟨rfl, rfl, fun i hi => by rw [o8, if_neg (by omega)]⟩
      · rw [o7 56 (by decide) (by omega) (by decide) (by decide), o7 57 (by decide) (by omega) (by decide) (by decide), o7 (2 * q + 2) (by omega) (by omega) (by omega) (by omega)]
        exact (b q hq).1
      · rw [o8, o9]
        by_cases e : i = p
        · rw [if_pos e, if_pos (by omega)]
        · rw [if_neg e, if_neg (by omega)]; exact (b q hq).2 i hi
  · have hit := eq_false hi
    have him := eq_false (fun x => hi (ii.mp x))
    refine ⟨(-10 - 3), zU I 0 6 3, zU (zU I 0 6 3) 55 0 3, J, J, ?_, ?_, inv_ft hI⟩
    · simp only [nX8_put, eX8_put_0, eX8_put_1, eX8_put_2, eX8_put_5, eX8_put_6, eX8_put_9, eX8_put_12, eX8_put_13, eX8_put_14, eX8_put_15, eX8_put_18, eX8_put_19, eX8_put_20, eX8_put_22, eX8_put_24, eX8_put_27, eX8_put_30, eX8_put_31, eX8_put_32, eX8_put_35, eX8_put_36, eX8_put_38, eX8_put_39, eX8_put_42, eX8_put_45, eX8_put_46, eX8_put_47, eX8_put_50, Option.bind_some, Option.toList_some, Option.toList_none, List.cons_append, List.nil_append, G_o0, G_h0_0, G_r0_0, G_h0_1, G_r0_1, G_h0_2, G_r0_2, G_h0_3, G_r0_3, G_h0_4, G_r0_4, G_o10, G_h10_0, G_r10_0, G_h10_1, G_r10_1, G_q11, G_l11, G_o12, G_h12_0, G_r12_0, G_h12_1, G_r12_1, G_a13, G_l13, G_a14, G_l14, G_q1, G_l1, qX8_isSheet, hkt, zb_1, zb_0, not_true_eq_false, not_false_eq_true, if_true, if_false, G_1h hq, G_1r hq, zIn_4 hq, zc_n (show q ≤ 1000 by omega), G_sh_o hq, G_sh_h hq, G_sh_r hq, G_sh_a hq, G_sh_l hq, o0 0 (2 * q + 2) hqs, o0 0 (2 * q + 3) hqc, s10, s5, hit, ne_eq, qX6_hasCell hq, qX8_failed, zU_uu]
    · simp only [nX9_put, eX9_put_0, eX9_put_1, eX9_put_2, eX9_put_5, eX9_put_6, eX9_put_9, eX9_put_12, eX9_put_13, eX9_put_14, eX9_put_15, eX9_put_18, eX9_put_19, eX9_put_20, eX9_put_22, eX9_put_25, eX9_put_26, eX9_put_27, eX9_put_30, eX9_put_31, eX9_put_32, eX9_put_33, eX9_put_34, eX9_put_37, eX9_put_38, eX9_put_39, eX9_put_40, eX9_put_41, eX9_put_44, eX9_put_47, eX9_put_48, eX9_put_49, eX9_put_52, Option.bind_some, Option.toList_some, Option.toList_none, List.cons_append, List.nil_append, G_o55, G_h55_2, G_r55_2, G_a56, G_l56, G_h55_3, G_r55_3, G_a57, G_l57, G_h55_4, G_r55_4, G_a58, G_l58, G_h55_7, G_r55_7, G_a59, G_l59, G_h55_8, G_r55_8, G_a60, G_l60, G_h55_9, G_r55_9, G_a61, G_l61, G_h55_10, G_r55_10, G_a62, G_l62, G_h55_11, G_r55_11, G_a63, G_l63, G_h55_29, G_r55_29, G_a69, G_l69, G_h55_30, G_r55_30, G_a70, G_l70, qX9_isSheet, hkm, zb_1, zb_0, not_true_eq_false, not_false_eq_true, if_true, if_false, zIn_4 hq, zc_n (show q ≤ 1000 by omega), o5 3 0 56 (by decide) (by decide), o5 3 0 57 (by decide) (by decide), s9, s4, s5, qX9_within, him, ne_eq, qX9_fails, zU_uu]

set_option maxHeartbeats 1000000 in
theorem op_cell {I : Nat → Nat → Int32} (hI : zInv I) (k i v : Int32) : zOpL L xs d 67 145 [.int k, .int i, .int v] I J := by
  obtain ⟨⟨a1, a2, a3⟩, b, c1, c2, c3, N, ⟨n1, n2, n3, n4, n5, n6⟩, C, r1, r2, r3, r4, r5⟩ := id hI
  have o0 : ∀ (x : Int32) c, c ≠ 0 → zU I 0 6 x c = I c := fun x c h => zU_ne _ _ _ h
  have o5 : ∀ (x y : Int32) c, c ≠ 0 → c ≠ 55 → zU (zU I 0 6 x) 55 0 y c = I c := fun x y c h h2 => by rw [zU_ne _ _ _ h2, zU_ne _ _ _ h]
  by_cases hk : 0 ≤ k ∧ k < 4
  case neg =>
    have hkm : ¬ (0 ≤ k ∧ k ≤ 3) := fun x => hk (sh_iff.mpr x)
    refine ⟨(-9223372036854775808), zU I 0 6 0, zU (zU I 0 6 0) 55 0 0, J, J, ?_, ?_, inv_ft hI⟩
    · simp only [nX8_cell, eX8_cell_0, eX8_cell_1, eX8_cell_2, eX8_cell_5, eX8_cell_6, eX8_cell_9, eX8_cell_12, eX8_cell_13, eX8_cell_16, eX8_cell_19, eX8_cell_22, Option.bind_some, Option.toList_some, Option.toList_none, List.cons_append, List.nil_append, G_o0, G_h0_0, G_r0_0, G_h0_1, G_r0_1, G_h0_2, G_r0_2, G_h0_3, G_r0_3, G_h0_4, G_r0_4, G_o10, G_h10_0, G_r10_0, G_h10_1, G_r10_1, G_q11, G_l11, G_o12, G_h12_0, G_r12_0, G_h12_1, G_r12_1, G_a13, G_l13, G_a14, G_l14, G_q1, G_l1, qX8_isSheet, eq_false hk, zb_1, zb_0, not_false_eq_true, if_true, if_false]
    · simp only [nX9_cell, eX9_cell_0, eX9_cell_1, eX9_cell_2, eX9_cell_5, eX9_cell_6, eX9_cell_9, eX9_cell_12, eX9_cell_13, eX9_cell_16, eX9_cell_19, eX9_cell_22, Option.bind_some, Option.toList_some, Option.toList_none, List.cons_append, List.nil_append, G_o55, G_h55_2, G_r55_2, G_a56, G_l56, G_h55_3, G_r55_3, G_a57, G_l57, G_h55_4, G_r55_4, G_a58, G_l58, G_h55_7, G_r55_7, G_a59, G_l59, G_h55_8, G_r55_8, G_a60, G_l60, G_h55_9, G_r55_9, G_a61, G_l61, G_h55_10, G_r55_10, G_a62, G_l62, G_h55_11, G_r55_11, G_a63, G_l63, G_h55_29, G_r55_29, G_a69, G_l69, G_h55_30, G_r55_30, G_a70, G_l70, qX9_isSheet, eq_false hkm, zb_1, zb_0, not_false_eq_true, if_true, if_false]
  obtain ⟨q, hq, rfl⟩ := zIdx (n := 4) hk.1 hk.2 (by decide)
  have hkt := eq_true hk
  have hkm := eq_true (sh_iff.mp hk)
  have hqs : 2 * q + 2 ≠ 0 := by omega
  have hqc : 2 * q + 3 ≠ 0 := by omega
  have e60 : (60 : Int32) * nI q = nI (60 * q) := pk_mul 60 q
  by_cases hv : 0 ≤ v ∧ v ≤ 2
  case neg =>
    refine ⟨(-9223372036854775808), zU I 0 6 0, zU (zU I 0 6 0) 55 0 0, J, J, ?_, ?_, inv_ft hI⟩
    · simp only [nX8_cell, eX8_cell_0, eX8_cell_1, eX8_cell_2, eX8_cell_5, eX8_cell_6, eX8_cell_9, eX8_cell_12, eX8_cell_13, eX8_cell_16, eX8_cell_19, eX8_cell_22, Option.bind_some, Option.toList_some, Option.toList_none, List.cons_append, List.nil_append, G_o0, G_h0_0, G_r0_0, G_h0_1, G_r0_1, G_h0_2, G_r0_2, G_h0_3, G_r0_3, G_h0_4, G_r0_4, G_o10, G_h10_0, G_r10_0, G_h10_1, G_r10_1, G_q11, G_l11, G_o12, G_h12_0, G_r12_0, G_h12_1, G_r12_1, G_a13, G_l13, G_a14, G_l14, G_q1, G_l1, qX8_isSheet, hkt, zb_1, zb_0, not_true_eq_false, not_false_eq_true, if_true, if_false, G_1h hq, G_1r hq, zIn_4 hq, zc_n (show q ≤ 1000 by omega), G_sh_o hq, G_sh_h hq, G_sh_r hq, G_sh_a hq, G_sh_l hq, qX8_isLane, eq_false hv]
    · simp only [nX9_cell, eX9_cell_0, eX9_cell_1, eX9_cell_2, eX9_cell_5, eX9_cell_6, eX9_cell_9, eX9_cell_12, eX9_cell_13, eX9_cell_16, eX9_cell_19, eX9_cell_22, Option.bind_some, Option.toList_some, Option.toList_none, List.cons_append, List.nil_append, G_o55, G_h55_2, G_r55_2, G_a56, G_l56, G_h55_3, G_r55_3, G_a57, G_l57, G_h55_4, G_r55_4, G_a58, G_l58, G_h55_7, G_r55_7, G_a59, G_l59, G_h55_8, G_r55_8, G_a60, G_l60, G_h55_9, G_r55_9, G_a61, G_l61, G_h55_10, G_r55_10, G_a62, G_l62, G_h55_11, G_r55_11, G_a63, G_l63, G_h55_29, G_r55_29, G_a69, G_l69, G_h55_30, G_r55_30, G_a70, G_l70, qX9_isSheet, hkm, zb_1, zb_0, not_true_eq_false, not_false_eq_true, if_true, if_false, zIn_4 hq, zc_n (show q ≤ 1000 by omega), qX9_isSort, eq_false hv]
  have hvt := eq_true hv
  rcases (b q hq).1 with ⟨s1, s2⟩ | ⟨s1, s2, s3, s4, m, hm, s5⟩
  · refine ⟨(-9223372036854775808), zU I 0 6 1, zU (zU I 0 6 1) 55 0 1, J, J, ?_, ?_, inv_ft hI⟩
    · simp only [nX8_cell, eX8_cell_0, eX8_cell_1, eX8_cell_2, eX8_cell_5, eX8_cell_6, eX8_cell_9, eX8_cell_12, eX8_cell_13, eX8_cell_16, eX8_cell_19, eX8_cell_22, eX8_cell_23, eX8_cell_24, eX8_cell_27, eX8_cell_28, eX8_cell_29, eX8_cell_31, eX8_cell_33, eX8_cell_34, eX8_cell_37, eX8_cell_39, eX8_cell_41, eX8_cell_44, eX8_cell_46, eX8_cell_47, eX8_cell_50, eX8_cell_53, eX8_cell_54, eX8_cell_56, eX8_cell_58, eX8_cell_61, eX8_cell_62, eX8_cell_64, eX8_cell_67, eX8_cell_68, eX8_cell_71, eX8_cell_72, eX8_cell_74, eX8_cell_77, eX8_cell_78, eX8_cell_79, eX8_cell_80, Option.bind_some, Option.toList_some, Option.toList_none, List.cons_append, List.nil_append, G_o0, G_h0_0, G_r0_0, G_h0_1, G_r0_1, G_h0_2, G_r0_2, G_h0_3, G_r0_3, G_h0_4, G_r0_4, G_o10, G_h10_0, G_r10_0, G_h10_1, G_r10_1, G_q11, G_l11, G_o12, G_h12_0, G_r12_0, G_h12_1, G_r12_1, G_a13, G_l13, G_a14, G_l14, G_q1, G_l1, qX8_isSheet, hkt, zb_1, zb_0, not_true_eq_false, not_false_eq_true, if_true, if_false, G_1h hq, G_1r hq, zIn_4 hq, zc_n (show q ≤ 1000 by omega), G_sh_o hq, G_sh_h hq, G_sh_r hq, G_sh_a hq, G_sh_l hq, qX8_isLane, hvt, o0 0 (2 * q + 2) hqs, o0 0 (2 * q + 3) hqc, qX6_faultTakenAs hq, eq_true s1, show ((1 : Int32) ≠ 0) = True from by decide, show ((1 : Int32) = 0) = False from by decide, qX8_failed, zU_uu, ne_eq]
    · simp only [nX9_cell, eX9_cell_0, eX9_cell_1, eX9_cell_2, eX9_cell_5, eX9_cell_6, eX9_cell_9, eX9_cell_12, eX9_cell_13, eX9_cell_16, eX9_cell_19, eX9_cell_22, eX9_cell_23, eX9_cell_24, eX9_cell_27, eX9_cell_28, eX9_cell_29, eX9_cell_31, eX9_cell_34, eX9_cell_35, eX9_cell_38, eX9_cell_39, eX9_cell_40, eX9_cell_41, eX9_cell_44, eX9_cell_45, eX9_cell_46, eX9_cell_49, eX9_cell_50, eX9_cell_51, eX9_cell_54, eX9_cell_55, eX9_cell_56, eX9_cell_58, eX9_cell_61, eX9_cell_62, eX9_cell_63, eX9_cell_66, Option.bind_some, Option.toList_some, Option.toList_none, List.cons_append, List.nil_append, G_o55, G_h55_2, G_r55_2, G_a56, G_l56, G_h55_3, G_r55_3, G_a57, G_l57, G_h55_4, G_r55_4, G_a58, G_l58, G_h55_7, G_r55_7, G_a59, G_l59, G_h55_8, G_r55_8, G_a60, G_l60, G_h55_9, G_r55_9, G_a61, G_l61, G_h55_10, G_r55_10, G_a62, G_l62, G_h55_11, G_r55_11, G_a63, G_l63, G_h55_29, G_r55_29, G_a69, G_l69, G_h55_30, G_r55_30, G_a70, G_l70, qX9_isSheet, hkm, zb_1, zb_0, not_true_eq_false, not_false_eq_true, if_true, if_false, zIn_4 hq, zc_n (show q ≤ 1000 by omega), qX9_isSort, hvt, o5 1 0 56 (by decide) (by decide), o5 1 0 57 (by decide) (by decide), eq_true s2, ne_eq, qX9_lost, zU_uu]
  have s9 : (I 56 q = -9) = False := eq_false (by rw [s2]; intro e; rw [e] at s3; exact absurd s3.1 (by decide))
  have s10 : (I (2 * q + 2) 1 = 0) = False := eq_false (by rw [s1]; decide)
  have ii := in_iff (k := i) (nI_60 hm)
  by_cases hl : I (2 * q + 2) 2 = v
  · have hlm : I 56 q = v := by rw [s2]; exact hl
    by_cases hi : 0 ≤ i ∧ i < nI m
    · have hit := eq_true hi
      have him := eq_true (ii.mpr hi)
      obtain ⟨p, hp, rfl⟩ := zIdx hi.1 hi.2 (by omega)
      have e9 := (b q hq).2 p (by omega)
      refine ⟨(I 58 (60 * q + p)).toInt64, zU I 0 6 0, zU (zU I 0 6 0) 55 0 0, J, J, ?_, ?_, inv_ft hI⟩
      · simp only [nX8_cell, eX8_cell_0, eX8_cell_1, eX8_cell_2, eX8_cell_5, eX8_cell_6, eX8_cell_9, eX8_cell_12, eX8_cell_13, eX8_cell_16, eX8_cell_19, eX8_cell_22, eX8_cell_23, eX8_cell_24, eX8_cell_27, eX8_cell_28, eX8_cell_29, eX8_cell_31, eX8_cell_33, eX8_cell_34, eX8_cell_37, eX8_cell_39, eX8_cell_41, eX8_cell_44, eX8_cell_46, eX8_cell_47, eX8_cell_50, eX8_cell_53, eX8_cell_54, eX8_cell_56, eX8_cell_58, eX8_cell_61, eX8_cell_62, eX8_cell_64, eX8_cell_67, eX8_cell_68, eX8_cell_71, eX8_cell_72, eX8_cell_74, eX8_cell_77, eX8_cell_78, eX8_cell_79, eX8_cell_80, Option.bind_some, Option.toList_some, Option.toList_none, List.cons_append, List.nil_append, G_o0, G_h0_0, G_r0_0, G_h0_1, G_r0_1, G_h0_2, G_r0_2, G_h0_3, G_r0_3, G_h0_4, G_r0_4, G_o10, G_h10_0, G_r10_0, G_h10_1, G_r10_1, G_q11, G_l11, G_o12, G_h12_0, G_r12_0, G_h12_1, G_r12_1, G_a13, G_l13, G_a14, G_l14, G_q1, G_l1, qX8_isSheet, hkt, zb_1, zb_0, not_true_eq_false, not_false_eq_true, if_true, if_false, G_1h hq, G_1r hq, zIn_4 hq, zc_n (show q ≤ 1000 by omega), G_sh_o hq, G_sh_h hq, G_sh_r hq, G_sh_a hq, G_sh_l hq, qX8_isLane, hvt, o0 0 (2 * q + 2) hqs, o0 0 (2 * q + 3) hqc, qX6_faultTakenAs hq, s10, eq_true hl, qX6_hasCell hq, s5, hit, ne_eq, zIn_60 (show p < 60 by omega), zc_n (show p ≤ 1000 by omega), e9]
      · simp only [nX9_cell, eX9_cell_0, eX9_cell_1, eX9_cell_2, eX9_cell_5, eX9_cell_6, eX9_cell_9, eX9_cell_12, eX9_cell_13, eX9_cell_16, eX9_cell_19, eX9_cell_22, eX9_cell_23, eX9_cell_24, eX9_cell_27, eX9_cell_28, eX9_cell_29, eX9_cell_31, eX9_cell_34, eX9_cell_35, eX9_cell_38, eX9_cell_39, eX9_cell_40, eX9_cell_41, eX9_cell_44, eX9_cell_45, eX9_cell_46, eX9_cell_49, eX9_cell_50, eX9_cell_51, eX9_cell_54, eX9_cell_55, eX9_cell_56, eX9_cell_58, eX9_cell_61, eX9_cell_62, eX9_cell_63, eX9_cell_66, eX9_cell_67, eX9_cell_68, eX9_cell_69, eX9_cell_70, eX9_cell_73, eX9_cell_74, eX9_cell_75, eX9_cell_76, eX9_cell_77, eX9_cell_80, eX9_cell_83, eX9_cell_84, eX9_cell_85, eX9_cell_88, eX9_cell_89, eX9_cell_90, eX9_cell_93, eX9_cell_95, eX9_cell_96, eX9_cell_97, eX9_cell_98, eX9_cell_99, eX9_cell_100, eX9_cell_101, Option.bind_some, Option.toList_some, Option.toList_none, List.cons_append, List.nil_append, G_o55, G_h55_2, G_r55_2, G_a56, G_l56, G_h55_3, G_r55_3, G_a57, G_l57, G_h55_4, G_r55_4, G_a58, G_l58, G_h55_7, G_r55_7, G_a59, G_l59, G_h55_8, G_r55_8, G_a60, G_l60, G_h55_9, G_r55_9, G_a61, G_l61, G_h55_10, G_r55_10, G_a62, G_l62, G_h55_11, G_r55_11, G_a63, G_l63, G_h55_29, G_r55_29, G_a69, G_l69, G_h55_30, G_r55_30, G_a70, G_l70, qX9_isSheet, hkm, zb_1, zb_0, not_true_eq_false, not_false_eq_true, if_true, if_false, zIn_4 hq, zc_n (show q ≤ 1000 by omega), qX9_isSort, hvt, o5 0 0 56 (by decide) (by decide), o5 0 0 57 (by decide) (by decide), o5 0 0 58 (by decide) (by decide), s9, eq_true hlm, ne_eq, qX9_within, s4, s5, him, e60, nI_add, zIn_240 (show 60 * q + p < 240 by omega), zc_n (show 60 * q + p ≤ 1000 by omega)]
    · have hit := eq_false hi
      have him := eq_false (fun x => hi (ii.mp x))
      refine ⟨(-9223372036854775808), zU I 0 6 3, zU (zU I 0 6 3) 55 0 3, J, J, ?_, ?_, inv_ft hI⟩
      · simp only [nX8_cell, eX8_cell_0, eX8_cell_1, eX8_cell_2, eX8_cell_5, eX8_cell_6, eX8_cell_9, eX8_cell_12, eX8_cell_13, eX8_cell_16, eX8_cell_19, eX8_cell_22, eX8_cell_23, eX8_cell_24, eX8_cell_27, eX8_cell_28, eX8_cell_29, eX8_cell_31, eX8_cell_33, eX8_cell_34, eX8_cell_37, eX8_cell_39, eX8_cell_41, eX8_cell_44, eX8_cell_46, eX8_cell_47, eX8_cell_50, eX8_cell_53, eX8_cell_54, eX8_cell_56, eX8_cell_58, eX8_cell_61, eX8_cell_62, eX8_cell_64, eX8_cell_67, eX8_cell_68, eX8_cell_71, Option.bind_some, Option.toList_some, Option.toList_none, List.cons_append, List.nil_append, G_o0, G_h0_0, G_r0_0, G_h0_1, G_r0_1, G_h0_2, G_r0_2, G_h0_3, G_r0_3, G_h0_4, G_r0_4, G_o10, G_h10_0, G_r10_0, G_h10_1, G_r10_1, G_q11, G_l11, G_o12, G_h12_0, G_r12_0, G_h12_1, G_r12_1, G_a13, G_l13, G_a14, G_l14, G_q1, G_l1, qX8_isSheet, hkt, zb_1, zb_0, not_true_eq_false, not_false_eq_true, if_true, if_false, G_1h hq, G_1r hq, zIn_4 hq, zc_n (show q ≤ 1000 by omega), G_sh_o hq, G_sh_h hq, G_sh_r hq, G_sh_a hq, G_sh_l hq, qX8_isLane, hvt, o0 0 (2 * q + 2) hqs, o0 0 (2 * q + 3) hqc, qX6_faultTakenAs hq, s10, eq_true hl, qX6_hasCell hq, s5, hit, ne_eq, show ((3 : Int32) = 0) = False from by decide, qX8_failed, zU_uu]
      · simp only [nX9_cell, eX9_cell_0, eX9_cell_1, eX9_cell_2, eX9_cell_5, eX9_cell_6, eX9_cell_9, eX9_cell_12, eX9_cell_13, eX9_cell_16, eX9_cell_19, eX9_cell_22, eX9_cell_23, eX9_cell_24, eX9_cell_27, eX9_cell_28, eX9_cell_29, eX9_cell_31, eX9_cell_34, eX9_cell_35, eX9_cell_38, eX9_cell_39, eX9_cell_40, eX9_cell_41, eX9_cell_44, eX9_cell_45, eX9_cell_46, eX9_cell_49, eX9_cell_50, eX9_cell_51, eX9_cell_54, eX9_cell_55, eX9_cell_56, eX9_cell_58, eX9_cell_61, eX9_cell_62, eX9_cell_63, eX9_cell_66, eX9_cell_67, eX9_cell_68, eX9_cell_69, eX9_cell_70, eX9_cell_73, eX9_cell_74, eX9_cell_75, eX9_cell_76, eX9_cell_77, eX9_cell_80, eX9_cell_83, eX9_cell_84, eX9_cell_85, eX9_cell_88, Option.bind_some, Option.toList_some, Option.toList_none, List.cons_append, List.nil_append, G_o55, G_h55_2, G_r55_2, G_a56, G_l56, G_h55_3, G_r55_3, G_a57, G_l57, G_h55_4, G_r55_4, G_a58, G_l58, G_h55_7, G_r55_7, G_a59, G_l59, G_h55_8, G_r55_8, G_a60, G_l60, G_h55_9, G_r55_9, G_a61, G_l61, G_h55_10, G_r55_10, G_a62, G_l62, G_h55_11, G_r55_11, G_a63, G_l63, G_h55_29, G_r55_29, G_a69, G_l69, G_h55_30, G_r55_30, G_a70, G_l70, qX9_isSheet, hkm, zb_1, zb_0, not_true_eq_false, not_false_eq_true, if_true, if_false, zIn_4 hq, zc_n (show q ≤ 1000 by omega), qX9_isSort, hvt, o5 3 0 56 (by decide) (by decide), o5 3 0 57 (by decide) (by decide), s9, eq_true hlm, ne_eq, qX9_within, s4, s5, him, qX9_lost, zU_uu]
  · have hlm : ¬ I 56 q = v := by rw [s2]; exact hl
    refine ⟨(-9223372036854775808), zU I 0 6 2, zU (zU I 0 6 2) 55 0 2, J, J, ?_, ?_, inv_ft hI⟩
    · simp only [nX8_cell, eX8_cell_0, eX8_cell_1, eX8_cell_2, eX8_cell_5, eX8_cell_6, eX8_cell_9, eX8_cell_12, eX8_cell_13, eX8_cell_16, eX8_cell_19, eX8_cell_22, eX8_cell_23, eX8_cell_24, eX8_cell_27, eX8_cell_28, eX8_cell_29, eX8_cell_31, eX8_cell_33, eX8_cell_34, eX8_cell_37, eX8_cell_39, eX8_cell_41, eX8_cell_44, eX8_cell_46, eX8_cell_47, eX8_cell_50, eX8_cell_53, eX8_cell_54, eX8_cell_56, eX8_cell_58, eX8_cell_61, eX8_cell_62, eX8_cell_64, eX8_cell_67, eX8_cell_68, eX8_cell_71, Option.bind_some, Option.toList_some, Option.toList_none, List.cons_append, List.nil_append, G_o0, G_h0_0, G_r0_0, G_h0_1, G_r0_1, G_h0_2, G_r0_2, G_h0_3, G_r0_3, G_h0_4, G_r0_4, G_o10, G_h10_0, G_r10_0, G_h10_1, G_r10_1, G_q11, G_l11, G_o12, G_h12_0, G_r12_0, G_h12_1, G_r12_1, G_a13, G_l13, G_a14, G_l14, G_q1, G_l1, qX8_isSheet, hkt, zb_1, zb_0, not_true_eq_false, not_false_eq_true, if_true, if_false, G_1h hq, G_1r hq, zIn_4 hq, zc_n (show q ≤ 1000 by omega), G_sh_o hq, G_sh_h hq, G_sh_r hq, G_sh_a hq, G_sh_l hq, qX8_isLane, hvt, o0 0 (2 * q + 2) hqs, o0 0 (2 * q + 3) hqc, qX6_faultTakenAs hq, s10, eq_false hl, ne_eq, show ((2 : Int32) = 0) = False from by decide, qX8_failed, zU_uu]
    · simp only [nX9_cell, eX9_cell_0, eX9_cell_1, eX9_cell_2, eX9_cell_5, eX9_cell_6, eX9_cell_9, eX9_cell_12, eX9_cell_13, eX9_cell_16, eX9_cell_19, eX9_cell_22, eX9_cell_23, eX9_cell_24, eX9_cell_27, eX9_cell_28, eX9_cell_29, eX9_cell_31, eX9_cell_34, eX9_cell_35, eX9_cell_38, eX9_cell_39, eX9_cell_40, eX9_cell_41, eX9_cell_44, eX9_cell_45, eX9_cell_46, eX9_cell_49, Option.bind_some, Option.toList_some, Option.toList_none, List.cons_append, List.nil_append, G_o55, G_h55_2, G_r55_2, G_a56, G_l56, G_h55_3, G_r55_3, G_a57, G_l57, G_h55_4, G_r55_4, G_a58, G_l58, G_h55_7, G_r55_7, G_a59, G_l59, G_h55_8, G_r55_8, G_a60, G_l60, G_h55_9, G_r55_9, G_a61, G_l61, G_h55_10, G_r55_10, G_a62, G_l62, G_h55_11, G_r55_11, G_a63, G_l63, G_h55_29, G_r55_29, G_a69, G_l69, G_h55_30, G_r55_30, G_a70, G_l70, qX9_isSheet, hkm, zb_1, zb_0, not_true_eq_false, not_false_eq_true, if_true, if_false, zIn_4 hq, zc_n (show q ≤ 1000 by omega), qX9_isSort, hvt, o5 2 0 56 (by decide) (by decide), o5 2 0 57 (by decide) (by decide), s9, eq_false hlm, ne_eq, qX9_lost, zU_uu]

end S
