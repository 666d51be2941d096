set_option maxHeartbeats 1000000 in
theorem zr_ite {p : Prop} {dp : Decidable p} {a b : Int32} {h : zM} : (if p then some (some (Value.int a), h) else some (some (Value.int b), h)) = some (some (Value.int (if p then a else b)), h) := by split <;> rfl
set_option maxHeartbeats 1000000 in
theorem zi_not {p : Prop} {dp : Decidable p} {dn : Decidable (¬ p)} {α : Type} {a b : α} : @ite α (¬ p) dn a b = @ite α p dp b a := by
  by_cases h : p
  · rw [if_pos h, if_neg (fun x => x h)]
  · rw [if_neg h, if_pos h]
set_option maxHeartbeats 1000000 in
theorem nI_nn {a : Nat} (h : a < 2 ^ 31) : 0 ≤ nI a := (nI_leI (a := 0) (by omega) h).mpr (Nat.zero_le _)
set_option maxHeartbeats 1000000 in
theorem inv_ft {I : Nat → Nat → Int32} {f : Int32} (hI : zInv I) : zInv (zU (zU I 0 6 f) 55 0 f) :=
  inv_fl hI (fun c h _ _ => zU_ne _ _ _ h) (zU_k _ _ _ (by decide)) (zU_at _ _ _ _)
set_option maxHeartbeats 1000000 in
theorem inv_tr {I : Nat → Nat → Int32} {t : Int32} (hI : zInv I) : zInv (zU (zU I 0 5 t) 55 1 t) := by
  have e55 : ∀ k, k ≠ 1 → zU (zU I 0 5 t) 55 1 t 55 k = I 55 k := fun k hk => by rw [zU_k _ _ _ hk, zU_ne _ _ _ (by decide)]
  refine hI.keep (fun c hc => ?_) ?_ ?_ (e55 5 (by decide)) (e55 6 (by decide)) (e55 22 (by decide)) (e55 28 (by decide))
  · rw [zU_ne _ _ _ (by omega), zU_ne _ _ _ (by omega)]
  · rw [e55 0 (by decide), zU_ne _ _ _ (by decide), zU_k _ _ _ (by decide)]; exact hI.1.1
  · rw [zU_at, zU_ne _ _ _ (by decide), zU_at]
set_option maxHeartbeats 1000000 in
theorem inv_sure {I : Nat → Nat → Int32} {j : Nat} {v : Int32} (hI : zInv I) (hj : j < 6) (hv : 0 ≤ v ∧ v ≤ 10) : zInv (zU (zU I (j + 15) 1 v) 60 j v) := by
  obtain ⟨⟨a1, a2, a3⟩, b, c1, c2, c3, N, ⟨n1, n2, n3, n4, n5, n6⟩, C, r1, r2, r3, r4, r5⟩ := hI
  have o : ∀ c, c ≠ j + 15 → c ≠ 60 → zU (zU I (j + 15) 1 v) 60 j v c = I c := fun c x y => by rw [zU_ne _ _ _ y, zU_ne _ _ _ x]
  have op : ∀ k i, k < 6 → zU (zU I (j + 15) 1 v) 60 j v (k + 15) i = if k = j ∧ i = 1 then v else I (k + 15) i := fun k i hk => by
    rw [zU_ne _ _ _ (show k + 15 ≠ 60 by omega), zU_app]
    by_cases e : k = j ∧ i = 1
    · rw [if_pos e, if_pos ⟨by omega, e.2⟩]
    · rw [if_neg e, if_neg (by omega)]
  have om : ∀ i k, i < 5 → k < 6 → zU (zU I (j + 15) 1 v) 60 j v (i + 59) k = if k = j ∧ i = 1 then v else I (i + 59) k := fun i k hi hk => by
    rw [zU_app, zU_ne _ _ _ (show i + 59 ≠ j + 15 by omega)]
    by_cases e : k = j ∧ i = 1
    · rw [if_pos e, if_pos ⟨by omega, e.1⟩]
    · rw [if_neg e, if_neg (by omega)]
  refine ⟨⟨?_, ?_, ?_⟩, fun k hk => ?_, fun k i hk hi => ?_, fun k i hk hi => ?_, fun k hk => ?_, N, ⟨n1, ?_, ?_, ?_, ?_, ?_⟩, C, r1, ?_, ?_, r4, fun q hq => ?_⟩
  · rw [o 0 (by omega) (by omega), o 55 (by omega) (by omega)]; exact a1
  · rw [o 0 (by omega) (by omega), o 55 (by omega) (by omega)]; exact a2
  · rw [o 55 (by omega) (by omega)]; exact a3
  · rw [o (2 * k + 2) (by omega) (by omega), o (2 * k + 3) (by omega) (by omega), o 56 (by omega) (by omega), o 57 (by omega) (by omega), o 58 (by omega) (by omega)]
    exact b k hk
  · rw [op k i hk, if_neg (by omega)]; exact c1 k i hk hi
  · rw [op k i hk, om i k hi hk]
    by_cases e : k = j ∧ i = 1
    · rw [if_pos e, if_pos e]
    · rw [if_neg e, if_neg e]; exact c2 k i hk hi
  · obtain ⟨p0, p1, p2, p3, p4⟩ := c3 k hk
    refine ⟨?_, ?_, ?_, ?_, ?_⟩
    · rw [op k 0 hk, if_neg (by omega)]; exact p0
    · rw [op k 1 hk]
      by_cases e : k = j ∧ 1 = 1
      · rw [if_pos e]; exact hv
      · rw [if_neg e]; exact p1
    · rw [op k 2 hk, if_neg (by omega)]; exact p2
    · rw [op k 3 hk, if_neg (by omega)]; exact p3
    · rw [op k 4 hk, if_neg (by omega)]; exact p4
  · rw [o 10 (by omega) (by omega)]; exact n2
  · rw [o 55 (by omega) (by omega)]; exact n3
  · rw [o 10 (by omega) (by omega), o 55 (by omega) (by omega)]; exact n4
  · rw [o 10 (by omega) (by omega)]; exact n5
  · rw [o 10 (by omega) (by omega)]; exact n6
  · rw [o 12 (by omega) (by omega)]; exact r2
  · rw [o 55 (by omega) (by omega)]; exact r3
  · rw [o 13 (by omega) (by omega), o 14 (by omega) (by omega), o 69 (by omega) (by omega), o 70 (by omega) (by omega)]; exact r5 q hq
set_option maxHeartbeats 1000000 in
theorem inv_min {I : Nat → Nat → Int32} {v : Int32} (hI : zInv I) (h0 : ¬ I 10 2 = 0) (hv : 5 ≤ v ∧ v ≤ 60) : zInv (zU (zU I 10 3 v) 55 5 v) := by
  obtain ⟨⟨a1, a2, a3⟩, b, c1, c2, c3, N, ⟨n1, n2, n3, n4, n5, n6⟩, C, r1, r2, r3, r4, r5⟩ := hI
  have o : ∀ c, c ≠ 10 → c ≠ 55 → zU (zU I 10 3 v) 55 5 v c = I c := fun c x y => by rw [zU_ne _ _ _ y, zU_ne _ _ _ x]
  have o5 : ∀ k, k ≠ 5 → zU (zU I 10 3 v) 55 5 v 55 k = I 55 k := fun k h => by rw [zU_k _ _ _ h, zU_ne _ _ _ (by decide)]
  have e1 : zU (zU I 10 3 v) 55 5 v 10 3 = v := by rw [zU_ne _ _ _ (by decide), zU_at]
  have e2 : zU (zU I 10 3 v) 55 5 v 10 2 = I 10 2 := by rw [zU_ne _ _ _ (by decide), zU_k _ _ _ (by decide)]
  have hN : N ≠ 0 := fun e => h0 (by rw [n2, e]; rfl)
  refine ⟨⟨?_, ?_, ?_⟩, fun k hk => ?_, fun k i hk hi => ?_, fun k i hk hi => ?_, fun k hk => ?_, N, ⟨n1, ?_, ?_, ?_, ?_, ?_⟩, C, r1, ?_, ?_, r4, fun q hq => ?_⟩
  · rw [o 0 (by omega) (by omega), o5 0 (by omega)]; exact a1
  · rw [o 0 (by omega) (by omega), o5 1 (by omega)]; exact a2
  · rw [o5 22 (by omega)]; exact a3
  · rw [o (2 * k + 2) (by omega) (by omega), o (2 * k + 3) (by omega) (by omega), o 56 (by omega) (by omega), o 57 (by omega) (by omega), o 58 (by omega) (by omega)]
    exact b k hk
  · rw [o (k + 15) (by omega) (by omega)]; exact c1 k i hk hi
  · rw [o (k + 15) (by omega) (by omega), o (i + 59) (by omega) (by omega)]; exact c2 k i hk hi
  · rw [o (k + 15) (by omega) (by omega)]; exact c3 k hk
  · rw [e2]; exact n2
  · rw [o5 6 (by omega)]; exact n3
  · rw [e1, zU_at]
  · rw [e1]; exact fun _ => hv
  · exact fun e => absurd e hN
  · rw [o 12 (by omega) (by omega)]; exact r2
  · rw [o5 28 (by omega)]; exact r3
  · rw [o 13 (by omega) (by omega), o 14 (by omega) (by omega), o 69 (by omega) (by omega), o 70 (by omega) (by omega)]; exact r5 q hq
/-! the readings change -/
set_option maxHeartbeats 1000000 in
theorem inv_rd {I I' : Nat → Nat → Int32} {C : Nat} (hI : zInv I) (o : ∀ c, c ≠ 12 → c ≠ 13 → c ≠ 14 → c ≠ 55 → c ≠ 69 → c ≠ 70 → I' c = I c) (o5 : ∀ k, k ≠ 28 → I' 55 k = I 55 k) (hC : C ≤ 8) (h1 : I' 12 2 = nI C) (h2 : I' 55 28 = nI C) (h3 : I 10 2 = 0 → C = 0) (h4 : ∀ q, q < C → I' 13 q = I' 69 q ∧ I' 14 q = I' 70 q ∧ (0 ≤ I' 13 q ∧ I' 13 q < I 10 2)) : zInv I' := by
  obtain ⟨⟨a1, a2, a3⟩, b, c1, c2, c3, N, ⟨n1, n2, n3, n4, n5, n6⟩, C', r1, r2, r3, r4, r5⟩ := hI
  refine ⟨⟨?_, ?_, ?_⟩, fun k hk => ?_, fun k i hk hi => ?_, fun k i hk hi => ?_, fun k hk => ?_, N, ⟨n1, ?_, ?_, ?_, ?_, ?_⟩, C, hC, h1, h2, fun e => h3 (by rw [n2, e]; rfl), fun q hq => ?_⟩
  · rw [o 0 (by omega) (by omega) (by omega) (by omega) (by omega) (by omega), o5 0 (by omega)]; exact a1
  · rw [o 0 (by omega) (by omega) (by omega) (by omega) (by omega) (by omega), o5 1 (by omega)]; exact a2
  · rw [o5 22 (by omega)]; exact a3
  · rw [o (2 * k + 2) (by omega) (by omega) (by omega) (by omega) (by omega) (by omega), o (2 * k + 3) (by omega) (by omega) (by omega) (by omega) (by omega) (by omega), o 56 (by omega) (by omega) (by omega) (by omega) (by omega) (by omega), o 57 (by omega) (by omega) (by omega) (by omega) (by omega) (by omega), o 58 (by omega) (by omega) (by omega) (by omega) (by omega) (by omega)]
    exact b k hk
  · rw [o (k + 15) (by omega) (by omega) (by omega) (by omega) (by omega) (by omega)]; exact c1 k i hk hi
  · rw [o (k + 15) (by omega) (by omega) (by omega) (by omega) (by omega) (by omega), o (i + 59) (by omega) (by omega) (by omega) (by omega) (by omega) (by omega)]; exact c2 k i hk hi
  · rw [o (k + 15) (by omega) (by omega) (by omega) (by omega) (by omega) (by omega)]; exact c3 k hk
  · rw [o 10 (by omega) (by omega) (by omega) (by omega) (by omega) (by omega)]; exact n2
  · rw [o5 6 (by omega)]; exact n3
  · rw [o 10 (by omega) (by omega) (by omega) (by omega) (by omega) (by omega), o5 5 (by omega)]; exact n4
  · rw [o 10 (by omega) (by omega) (by omega) (by omega) (by omega) (by omega)]; exact n5
  · rw [o 10 (by omega) (by omega) (by omega) (by omega) (by omega) (by omega)]; exact n6
  · obtain ⟨x, y, z⟩ := h4 q hq
    rw [n2] at z
    obtain ⟨a, ha, e⟩ := zIdx z.1 z.2 (by omega)
    exact ⟨x, y, a, ha, e⟩
section S
variable {L : Nat} {xs : Nat → Int32} {d : Nat} {J : Nat → Nat → Int64}
set_option maxHeartbeats 1000000 in
theorem op_ofPlace {I : Nat → Nat → Int32} (hI : zInv I) (k w : Int32) : zOp L xs d 49 105 [.int k, .int w] I J := by
  obtain ⟨⟨a1, a2, a3⟩, b, c1, c2, c3, N, ⟨n1, n2, n3, n4, n5, n6⟩, C, r1, r2, r3, r4, r5⟩ := id hI
  by_cases hp : 0 ≤ k ∧ k < nI N
  case neg =>
    refine ⟨(-1), I, I, J, J, ?_, ?_, hI⟩
    · simp only [nX8_ofPlace, eX8_ofPlace_0, eX8_ofPlace_1, eX8_ofPlace_4, eX8_ofPlace_5, eX8_ofPlace_8, eX8_ofPlace_11, eX8_ofPlace_12, Option.bind_some, Option.toList_some, Option.toList_none, List.cons_append, List.nil_append, G_o0, G_h0_0, G_r0_0, G_h0_1, G_r0_1, G_h0_2, G_r0_2, G_h0_3, G_r0_3, G_h0_4, G_r0_4, G_o10, G_h10_0, G_r10_0, G_h10_1, G_r10_1, G_q11, G_l11, G_o12, G_h12_0, G_r12_0, G_h12_1, G_r12_1, G_a13, G_l13, G_a14, G_l14, G_q1, G_l1, qX0_hasPlace, n2, eq_false hp, zb_1, if_false]
    · simp only [nX9_ofPlace, eX9_ofPlace_0, eX9_ofPlace_1, eX9_ofPlace_2, eX9_ofPlace_5, eX9_ofPlace_8, eX9_ofPlace_9, Option.bind_some, Option.toList_some, Option.toList_none, List.cons_append, List.nil_append, G_o55, G_h55_2, G_r55_2, G_a56, G_l56, G_h55_3, G_r55_3, G_a57, G_l57, G_h55_4, G_r55_4, G_a58, G_l58, G_h55_7, G_r55_7, G_a59, G_l59, G_h55_8, G_r55_8, G_a60, G_l60, G_h55_9, G_r55_9, G_a61, G_l61, G_h55_10, G_r55_10, G_a62, G_l62, G_h55_11, G_r55_11, G_a63, G_l63, G_h55_29, G_r55_29, G_a69, G_l69, G_h55_30, G_r55_30, G_a70, G_l70, qX9_isPlace, n3, eq_false hp, zb_1, if_false]
  obtain ⟨j, hj, rfl⟩ := zIdx hp.1 hp.2 (by omega)
  have hpt := eq_true hp
  have e0 : I (j + 15) 0 = I 59 j := c2 j 0 (by omega) (by decide)
  have e1 : I (j + 15) 1 = I 60 j := c2 j 1 (by omega) (by decide)
  have e2 : I (j + 15) 2 = I 61 j := c2 j 2 (by omega) (by decide)
  have e3 : I (j + 15) 3 = I 62 j := c2 j 3 (by omega) (by decide)
  have e4 : I (j + 15) 4 = I 63 j := c2 j 4 (by omega) (by decide)
  have hk3 : I 59 j = 0 ∨ I 59 j = 1 ∨ I 59 j = 2 := by
    have := (c3 j (by omega)).1
    rw [e0] at this
    exact this
  have eg : (if I 59 j = 0 then 3 else if I 59 j = 1 then 2 else 1) = 3 - I 59 j := by
    rcases hk3 with h | h | h <;> rw [h] <;> decide +kernel
  refine ⟨(if w = 0 then I 59 j else if w = 1 then I 60 j else if w = 2 then I 61 j else if w = 3 then I 62 j else if w = 4 then I 63 j else if w = 5 then 3 - I 59 j else -2), I, I, J, J, ?_, ?_, hI⟩
  · simp only [nX8_ofPlace, eX8_ofPlace_0, eX8_ofPlace_1, eX8_ofPlace_4, eX8_ofPlace_5, eX8_ofPlace_8, eX8_ofPlace_11, eX8_ofPlace_12, eX8_ofPlace_13, eX8_ofPlace_14, eX8_ofPlace_17, eX8_ofPlace_20, eX8_ofPlace_21, eX8_ofPlace_22, eX8_ofPlace_23, eX8_ofPlace_24, eX8_ofPlace_64, eX8_ofPlace_65, eX8_ofPlace_68, eX8_ofPlace_69, eX8_ofPlace_70, eX8_ofPlace_73, eX8_ofPlace_74, eX8_ofPlace_75, eX8_ofPlace_78, eX8_ofPlace_79, eX8_ofPlace_80, eX8_ofPlace_83, eX8_ofPlace_84, eX8_ofPlace_85, eX8_ofPlace_88, eX8_ofPlace_89, eX8_ofPlace_90, eX8_ofPlace_93, eX8_ofPlace_94, eX8_ofPlace_96, Option.bind_some, Option.toList_some, Option.toList_none, List.cons_append, List.nil_append, G_o0, G_h0_0, G_r0_0, G_h0_1, G_r0_1, G_h0_2, G_r0_2, G_h0_3, G_r0_3, G_h0_4, G_r0_4, G_o10, G_h10_0, G_r10_0, G_h10_1, G_r10_1, G_q11, G_l11, G_o12, G_h12_0, G_r12_0, G_h12_1, G_r12_1, G_a13, G_l13, G_a14, G_l14, G_q1, G_l1, qX0_hasPlace, n2, hpt, zb_1, if_true, zIn_6 (show j < 6 by omega), zc_n (show j ≤ 1000 by omega), G_11h (show j < 6 by omega), G_11r (show j < 6 by omega), G_pl_o (show j < 6 by omega), qX1_gains (show j < 6 by omega), zSw_c, zSw_n, zX_ite, e0, e1, e2, e3, e4, eg, zr_ite]
  · simp only [nX9_ofPlace, eX9_ofPlace_0, eX9_ofPlace_1, eX9_ofPlace_2, eX9_ofPlace_5, eX9_ofPlace_8, eX9_ofPlace_9, eX9_ofPlace_10, eX9_ofPlace_11, eX9_ofPlace_48, eX9_ofPlace_49, eX9_ofPlace_52, eX9_ofPlace_53, eX9_ofPlace_54, eX9_ofPlace_55, eX9_ofPlace_56, eX9_ofPlace_59, eX9_ofPlace_60, eX9_ofPlace_61, eX9_ofPlace_62, eX9_ofPlace_63, eX9_ofPlace_66, eX9_ofPlace_67, eX9_ofPlace_68, eX9_ofPlace_69, eX9_ofPlace_70, eX9_ofPlace_73, eX9_ofPlace_74, eX9_ofPlace_75, eX9_ofPlace_76, eX9_ofPlace_77, eX9_ofPlace_80, eX9_ofPlace_81, eX9_ofPlace_82, eX9_ofPlace_83, eX9_ofPlace_84, eX9_ofPlace_85, eX9_ofPlace_88, eX9_ofPlace_89, eX9_ofPlace_91, Option.bind_some, Option.toList_some, Option.toList_none, List.cons_append, List.nil_append, G_o55, G_h55_2, G_r55_2, G_a56, G_l56, G_h55_3, G_r55_3, G_a57, G_l57, G_h55_4, G_r55_4, G_a58, G_l58, G_h55_7, G_r55_7, G_a59, G_l59, G_h55_8, G_r55_8, G_a60, G_l60, G_h55_9, G_r55_9, G_a61, G_l61, G_h55_10, G_r55_10, G_a62, G_l62, G_h55_11, G_r55_11, G_a63, G_l63, G_h55_29, G_r55_29, G_a69, G_l69, G_h55_30, G_r55_30, G_a70, G_l70, qX9_isPlace, n3, hpt, zb_1, if_true, zIn_6 (show j < 6 by omega), zc_n (show j ≤ 1000 by omega), G_11h (show j < 6 by omega), G_11r (show j < 6 by omega), G_pl_o (show j < 6 by omega), qX9_gains (show j < 6 by omega), zSw_c, zSw_n, zX_ite, zr_ite]
set_option maxHeartbeats 1000000 in
theorem op_sure {I : Nat → Nat → Int32} (hI : zInv I) (k v : Int32) : zOp L xs d 50 106 [.int k, .int v] I J := by
  obtain ⟨⟨a1, a2, a3⟩, b, c1, c2, c3, N, ⟨n1, n2, n3, n4, n5, n6⟩, C, r1, r2, r3, r4, r5⟩ := id hI
  by_cases hp : 0 ≤ k ∧ k < nI N
  case neg =>
    refine ⟨(-1), I, I, J, J, ?_, ?_, hI⟩
    · simp only [nX8_sure, eX8_sure_0, eX8_sure_1, eX8_sure_4, eX8_sure_5, eX8_sure_8, eX8_sure_11, eX8_sure_12, Option.bind_some, Option.toList_some, Option.toList_none, List.cons_append, List.nil_append, G_o0, G_h0_0, G_r0_0, G_h0_1, G_r0_1, G_h0_2, G_r0_2, G_h0_3, G_r0_3, G_h0_4, G_r0_4, G_o10, G_h10_0, G_r10_0, G_h10_1, G_r10_1, G_q11, G_l11, G_o12, G_h12_0, G_r12_0, G_h12_1, G_r12_1, G_a13, G_l13, G_a14, G_l14, G_q1, G_l1, qX0_hasPlace, n2, eq_false hp, zb_1, if_false]
    · simp only [nX9_sure, eX9_sure_0, eX9_sure_1, eX9_sure_2, eX9_sure_5, eX9_sure_8, eX9_sure_9, Option.bind_some, Option.toList_some, Option.toList_none, List.cons_append, List.nil_append, G_o55, G_h55_2, G_r55_2, G_a56, G_l56, G_h55_3, G_r55_3, G_a57, G_l57, G_h55_4, G_r55_4, G_a58, G_l58, G_h55_7, G_r55_7, G_a59, G_l59, G_h55_8, G_r55_8, G_a60, G_l60, G_h55_9, G_r55_9, G_a61, G_l61, G_h55_10, G_r55_10, G_a62, G_l62, G_h55_11, G_r55_11, G_a63, G_l63, G_h55_29, G_r55_29, G_a69, G_l69, G_h55_30, G_r55_30, G_a70, G_l70, qX9_isPlace, n3, eq_false hp, zb_1, if_false]
  obtain ⟨j, hj, rfl⟩ := zIdx hp.1 hp.2 (by omega)
  have hpt := eq_true hp
  have e0 : I (j + 15) 0 = I 59 j := c2 j 0 (by omega) (by decide)
  have e1 : I (j + 15) 1 = I 60 j := c2 j 1 (by omega) (by decide)
  have e2 : I (j + 15) 2 = I 61 j := c2 j 2 (by omega) (by decide)
  have e3 : I (j + 15) 3 = I 62 j := c2 j 3 (by omega) (by decide)
  have e4 : I (j + 15) 4 = I 63 j := c2 j 4 (by omega) (by decide)
  have hk3 : I 59 j = 0 ∨ I 59 j = 1 ∨ I 59 j = 2 := by
    have := (c3 j (by omega)).1
    rw [e0] at this
    exact this
  by_cases hv : 0 ≤ v ∧ v ≤ 10
  · have hvt := eq_true hv
    refine ⟨(I 60 j), zU I (j + 15) 1 v, zU (zU I (j + 15) 1 v) 60 j v, J, J, ?_, ?_, inv_sure hI (by omega) hv⟩
    · simp only [nX8_sure, eX8_sure_0, eX8_sure_1, eX8_sure_4, eX8_sure_5, eX8_sure_8, eX8_sure_11, eX8_sure_12, eX8_sure_13, eX8_sure_14, eX8_sure_17, eX8_sure_20, eX8_sure_22, eX8_sure_23, eX8_sure_24, eX8_sure_27, eX8_sure_30, eX8_sure_31, eX8_sure_32, eX8_sure_35, eX8_sure_36, eX8_sure_37, eX8_sure_40, eX8_sure_43, eX8_sure_44, eX8_sure_45, eX8_sure_46, eX8_sure_49, eX8_sure_50, Option.bind_some, Option.toList_some, Option.toList_none, List.cons_append, List.nil_append, G_o0, G_h0_0, G_r0_0, G_h0_1, G_r0_1, G_h0_2, G_r0_2, G_h0_3, G_r0_3, G_h0_4, G_r0_4, G_o10, G_h10_0, G_r10_0, G_h10_1, G_r10_1, G_q11, G_l11, G_o12, G_h12_0, G_r12_0, G_h12_1, G_r12_1, G_a13, G_l13, G_a14, G_l14, G_q1, G_l1, qX0_hasPlace, qX8_isSureness, n2, hpt, hvt, zb_1, if_true, zIn_6 (show j < 6 by omega), zc_n (show j ≤ 1000 by omega), G_11h (show j < 6 by omega), G_11r (show j < 6 by omega), G_pl_o (show j < 6 by omega), e1]
    · have o6 : zU I (j + 15) 1 v 55 6 = nI N := by rw [zU_ne _ _ _ (by omega)]; exact n3
      have o60 : zU I (j + 15) 1 v 60 = I 60 := zU_ne _ _ _ (by omega)
      simp only [nX9_sure, eX9_sure_0, eX9_sure_1, eX9_sure_2, eX9_sure_5, eX9_sure_8, eX9_sure_9, eX9_sure_10, eX9_sure_11, eX9_sure_12, eX9_sure_14, eX9_sure_17, eX9_sure_20, eX9_sure_22, eX9_sure_23, eX9_sure_24, eX9_sure_27, eX9_sure_28, eX9_sure_29, eX9_sure_30, eX9_sure_31, eX9_sure_34, eX9_sure_35, eX9_sure_36, eX9_sure_37, eX9_sure_38, Option.bind_some, Option.toList_some, Option.toList_none, List.cons_append, List.nil_append, G_o55, G_h55_2, G_r55_2, G_a56, G_l56, G_h55_3, G_r55_3, G_a57, G_l57, G_h55_4, G_r55_4, G_a58, G_l58, G_h55_7, G_r55_7, G_a59, G_l59, G_h55_8, G_r55_8, G_a60, G_l60, G_h55_9, G_r55_9, G_a61, G_l61, G_h55_10, G_r55_10, G_a62, G_l62, G_h55_11, G_r55_11, G_a63, G_l63, G_h55_29, G_r55_29, G_a69, G_l69, G_h55_30, G_r55_30, G_a70, G_l70, qX9_isPlace, qX9_within, o6, o60, hpt, hvt, zb_1, if_true, zIn_6 (show j < 6 by omega), zc_n (show j ≤ 1000 by omega), G_11h (show j < 6 by omega), G_11r (show j < 6 by omega), G_pl_o (show j < 6 by omega)]
  · refine ⟨(-2), I, I, J, J, ?_, ?_, hI⟩
    · simp only [nX8_sure, eX8_sure_0, eX8_sure_1, eX8_sure_4, eX8_sure_5, eX8_sure_8, eX8_sure_11, eX8_sure_12, eX8_sure_13, eX8_sure_14, eX8_sure_17, eX8_sure_20, eX8_sure_22, Option.bind_some, Option.toList_some, Option.toList_none, List.cons_append, List.nil_append, G_o0, G_h0_0, G_r0_0, G_h0_1, G_r0_1, G_h0_2, G_r0_2, G_h0_3, G_r0_3, G_h0_4, G_r0_4, G_o10, G_h10_0, G_r10_0, G_h10_1, G_r10_1, G_q11, G_l11, G_o12, G_h12_0, G_r12_0, G_h12_1, G_r12_1, G_a13, G_l13, G_a14, G_l14, G_q1, G_l1, qX0_hasPlace, qX8_isSureness, n2, hpt, eq_false hv, zb_1, if_true, if_false]
    · simp only [nX9_sure, eX9_sure_0, eX9_sure_1, eX9_sure_2, eX9_sure_5, eX9_sure_8, eX9_sure_9, eX9_sure_10, eX9_sure_11, eX9_sure_12, eX9_sure_14, eX9_sure_17, eX9_sure_20, eX9_sure_22, Option.bind_some, Option.toList_some, Option.toList_none, List.cons_append, List.nil_append, G_o55, G_h55_2, G_r55_2, G_a56, G_l56, G_h55_3, G_r55_3, G_a57, G_l57, G_h55_4, G_r55_4, G_a58, G_l58, G_h55_7, G_r55_7, G_a59, G_l59, G_h55_8, G_r55_8, G_a60, G_l60, G_h55_9, G_r55_9, G_a61, G_l61, G_h55_10, G_r55_10, G_a62, G_l62, G_h55_11, G_r55_11, G_a63, G_l63, G_h55_29, G_r55_29, G_a69, G_l69, G_h55_30, G_r55_30, G_a70, G_l70, qX9_isPlace, qX9_within, n3, hpt, eq_false hv, zb_1, if_true, if_false]
set_option maxHeartbeats 1000000 in
theorem op_minutes {I : Nat → Nat → Int32} (hI : zInv I) (v : Int32) : zOp L xs d 51 107 [.int v] I J := by
  obtain ⟨⟨a1, a2, a3⟩, b, c1, c2, c3, N, ⟨n1, n2, n3, n4, n5, n6⟩, C, r1, r2, r3, r4, r5⟩ := id hI
  by_cases hv : 5 ≤ v ∧ v ≤ 60
  · have hvt := eq_true hv
    have v1 : (v < 5) = False := eq_false (by grind)
    have v2 : (v ≤ 60) = True := eq_true hv.2
    by_cases h0 : I 10 2 = 0
    · have h0m : I 55 6 = 0 := by rw [n3, ← n2]; exact h0
      refine ⟨(-3), I, I, J, J, ?_, ?_, hI⟩
      · simp only [nX8_minutes, eX8_minutes_0, eX8_minutes_1, eX8_minutes_2, eX8_minutes_5, eX8_minutes_6, eX8_minutes_8, eX8_minutes_11, eX8_minutes_13, eX8_minutes_14, eX8_minutes_15, eX8_minutes_18, eX8_minutes_21, eX8_minutes_24, eX8_minutes_26, Option.bind_some, Option.toList_some, Option.toList_none, List.cons_append, List.nil_append, G_o0, G_h0_0, G_r0_0, G_h0_1, G_r0_1, G_h0_2, G_r0_2, G_h0_3, G_r0_3, G_h0_4, G_r0_4, G_o10, G_h10_0, G_r10_0, G_h10_1, G_r10_1, G_q11, G_l11, G_o12, G_h12_0, G_r12_0, G_h12_1, G_r12_1, G_a13, G_l13, G_a14, G_l14, G_q1, G_l1, v1, v2, if_true, if_false, qX0_isMissing, eq_true h0, zb_0, not_true_eq_false]
      · simp only [nX9_minutes, eX9_minutes_0, eX9_minutes_1, eX9_minutes_2, eX9_minutes_4, eX9_minutes_7, eX9_minutes_10, eX9_minutes_12, eX9_minutes_13, eX9_minutes_14, eX9_minutes_17, eX9_minutes_20, eX9_minutes_22, Option.bind_some, Option.toList_some, Option.toList_none, List.cons_append, List.nil_append, G_o55, G_h55_2, G_r55_2, G_a56, G_l56, G_h55_3, G_r55_3, G_a57, G_l57, G_h55_4, G_r55_4, G_a58, G_l58, G_h55_7, G_r55_7, G_a59, G_l59, G_h55_8, G_r55_8, G_a60, G_l60, G_h55_9, G_r55_9, G_a61, G_l61, G_h55_10, G_r55_10, G_a62, G_l62, G_h55_11, G_r55_11, G_a63, G_l63, G_h55_29, G_r55_29, G_a69, G_l69, G_h55_30, G_r55_30, G_a70, G_l70, qX9_within, hvt, zb_1, if_true, eq_true h0m, ne_eq, not_true_eq_false, if_false]
    · have h0m : ¬ I 55 6 = 0 := by rw [n3, ← n2]; exact h0
      refine ⟨(I 55 5), zU I 10 3 v, zU (zU I 10 3 v) 55 5 v, J, J, ?_, ?_, inv_min hI h0 hv⟩
      · simp only [nX8_minutes, eX8_minutes_0, eX8_minutes_1, eX8_minutes_2, eX8_minutes_5, eX8_minutes_6, eX8_minutes_8, eX8_minutes_11, eX8_minutes_13, eX8_minutes_14, eX8_minutes_15, eX8_minutes_18, eX8_minutes_21, eX8_minutes_24, eX8_minutes_26, eX8_minutes_27, eX8_minutes_28, eX8_minutes_31, eX8_minutes_34, eX8_minutes_35, eX8_minutes_36, eX8_minutes_39, eX8_minutes_40, eX8_minutes_43, eX8_minutes_44, Option.bind_some, Option.toList_some, Option.toList_none, List.cons_append, List.nil_append, G_o0, G_h0_0, G_r0_0, G_h0_1, G_r0_1, G_h0_2, G_r0_2, G_h0_3, G_r0_3, G_h0_4, G_r0_4, G_o10, G_h10_0, G_r10_0, G_h10_1, G_r10_1, G_q11, G_l11, G_o12, G_h12_0, G_r12_0, G_h12_1, G_r12_1, G_a13, G_l13, G_a14, G_l14, G_q1, G_l1, v1, v2, if_true, if_false, qX0_isMissing, eq_false h0, zb_0, not_false_eq_true, n4]
      · have o5 : zU I 10 3 v 55 = I 55 := zU_ne _ _ _ (by decide)
        simp only [nX9_minutes, eX9_minutes_0, eX9_minutes_1, eX9_minutes_2, eX9_minutes_4, eX9_minutes_7, eX9_minutes_10, eX9_minutes_12, eX9_minutes_13, eX9_minutes_14, eX9_minutes_17, eX9_minutes_20, eX9_minutes_22, eX9_minutes_23, eX9_minutes_24, eX9_minutes_27, eX9_minutes_28, eX9_minutes_29, eX9_minutes_30, eX9_minutes_33, eX9_minutes_34, Option.bind_some, Option.toList_some, Option.toList_none, List.cons_append, List.nil_append, G_o55, G_h55_2, G_r55_2, G_a56, G_l56, G_h55_3, G_r55_3, G_a57, G_l57, G_h55_4, G_r55_4, G_a58, G_l58, G_h55_7, G_r55_7, G_a59, G_l59, G_h55_8, G_r55_8, G_a60, G_l60, G_h55_9, G_r55_9, G_a61, G_l61, G_h55_10, G_r55_10, G_a62, G_l62, G_h55_11, G_r55_11, G_a63, G_l63, G_h55_29, G_r55_29, G_a69, G_l69, G_h55_30, G_r55_30, G_a70, G_l70, qX9_within, hvt, zb_1, if_true, o5, eq_false h0m, ne_eq, not_false_eq_true]
  · refine ⟨(-2), I, I, J, J, ?_, ?_, hI⟩
    · by_cases v1 : v < 5
      · simp only [nX8_minutes, eX8_minutes_0, eX8_minutes_1, eX8_minutes_2, eX8_minutes_5, eX8_minutes_6, eX8_minutes_8, eX8_minutes_11, eX8_minutes_13, Option.bind_some, Option.toList_some, Option.toList_none, List.cons_append, List.nil_append, G_o0, G_h0_0, G_r0_0, G_h0_1, G_r0_1, G_h0_2, G_r0_2, G_h0_3, G_r0_3, G_h0_4, G_r0_4, G_o10, G_h10_0, G_r10_0, G_h10_1, G_r10_1, G_q11, G_l11, G_o12, G_h12_0, G_r12_0, G_h12_1, G_r12_1, G_a13, G_l13, G_a14, G_l14, G_q1, G_l1, eq_true v1, if_true]
      · have v2 : (v ≤ 60) = False := eq_false (by grind)
        simp only [nX8_minutes, eX8_minutes_0, eX8_minutes_1, eX8_minutes_2, eX8_minutes_5, eX8_minutes_6, eX8_minutes_8, eX8_minutes_11, eX8_minutes_13, Option.bind_some, Option.toList_some, Option.toList_none, List.cons_append, List.nil_append, G_o0, G_h0_0, G_r0_0, G_h0_1, G_r0_1, G_h0_2, G_r0_2, G_h0_3, G_r0_3, G_h0_4, G_r0_4, G_o10, G_h10_0, G_r10_0, G_h10_1, G_r10_1, G_q11, G_l11, G_o12, G_h12_0, G_r12_0, G_h12_1, G_r12_1, G_a13, G_l13, G_a14, G_l14, G_q1, G_l1, eq_false v1, v2, if_false]
    · simp only [nX9_minutes, eX9_minutes_0, eX9_minutes_1, eX9_minutes_2, eX9_minutes_4, eX9_minutes_7, eX9_minutes_10, eX9_minutes_12, Option.bind_some, Option.toList_some, Option.toList_none, List.cons_append, List.nil_append, G_o55, G_h55_2, G_r55_2, G_a56, G_l56, G_h55_3, G_r55_3, G_a57, G_l57, G_h55_4, G_r55_4, G_a58, G_l58, G_h55_7, G_r55_7, G_a59, G_l59, G_h55_8, G_r55_8, G_a60, G_l60, G_h55_9, G_r55_9, G_a61, G_l61, G_h55_10, G_r55_10, G_a62, G_l62, G_h55_11, G_r55_11, G_a63, G_l63, G_h55_29, G_r55_29, G_a69, G_l69, G_h55_30, G_r55_30, G_a70, G_l70, qX9_within, eq_false hv, zb_1, if_false]
set_option maxHeartbeats 1000000 in
theorem op_reading {I : Nat → Nat → Int32} (hI : zInv I) (k v : Int32) : zOp L xs d 60 137 [.int k, .int v] I J := by
  obtain ⟨⟨a1, a2, a3⟩, b, c1, c2, c3, N, ⟨n1, n2, n3, n4, n5, n6⟩, C, r1, r2, r3, r4, r5⟩ := id hI
  by_cases hp : 0 ≤ k ∧ k < nI N
  case neg =>
    refine ⟨(-1), I, I, J, J, ?_, ?_, hI⟩
    · simp only [nX8_reading, eX8_reading_0, eX8_reading_1, eX8_reading_4, eX8_reading_5, eX8_reading_8, eX8_reading_11, eX8_reading_12, Option.bind_some, Option.toList_some, Option.toList_none, List.cons_append, List.nil_append, G_o0, G_h0_0, G_r0_0, G_h0_1, G_r0_1, G_h0_2, G_r0_2, G_h0_3, G_r0_3, G_h0_4, G_r0_4, G_o10, G_h10_0, G_r10_0, G_h10_1, G_r10_1, G_q11, G_l11, G_o12, G_h12_0, G_r12_0, G_h12_1, G_r12_1, G_a13, G_l13, G_a14, G_l14, G_q1, G_l1, qX0_hasPlace, n2, eq_false hp, zb_1, if_false]
    · simp only [nX9_reading, eX9_reading_0, eX9_reading_1, eX9_reading_2, eX9_reading_5, eX9_reading_8, eX9_reading_9, Option.bind_some, Option.toList_some, Option.toList_none, List.cons_append, List.nil_append, G_o55, G_h55_2, G_r55_2, G_a56, G_l56, G_h55_3, G_r55_3, G_a57, G_l57, G_h55_4, G_r55_4, G_a58, G_l58, G_h55_7, G_r55_7, G_a59, G_l59, G_h55_8, G_r55_8, G_a60, G_l60, G_h55_9, G_r55_9, G_a61, G_l61, G_h55_10, G_r55_10, G_a62, G_l62, G_h55_11, G_r55_11, G_a63, G_l63, G_h55_29, G_r55_29, G_a69, G_l69, G_h55_30, G_r55_30, G_a70, G_l70, qX9_isPlace, n3, eq_false hp, zb_1, if_false]
  obtain ⟨j, hj, rfl⟩ := zIdx hp.1 hp.2 (by omega)
  have hpt := eq_true hp
  have e0 : I (j + 15) 0 = I 59 j := c2 j 0 (by omega) (by decide)
  have e1 : I (j + 15) 1 = I 60 j := c2 j 1 (by omega) (by decide)
  have e2 : I (j + 15) 2 = I 61 j := c2 j 2 (by omega) (by decide)
  have e3 : I (j + 15) 3 = I 62 j := c2 j 3 (by omega) (by decide)
  have e4 : I (j + 15) 4 = I 63 j := c2 j 4 (by omega) (by decide)
  have hk3 : I 59 j = 0 ∨ I 59 j = 1 ∨ I 59 j = 2 := by
    have := (c3 j (by omega)).1
    rw [e0] at this
    exact this
  by_cases hv : 0 ≤ v ∧ v ≤ 10
  · have hvt := eq_true hv
    by_cases hC : C = 8
    · subst hC
      refine ⟨(-4), I, I, J, J, ?_, ?_, hI⟩
      · simp only [nX8_reading, eX8_reading_0, eX8_reading_1, eX8_reading_4, eX8_reading_5, eX8_reading_8, eX8_reading_11, eX8_reading_12, eX8_reading_13, eX8_reading_14, eX8_reading_17, eX8_reading_20, eX8_reading_22, eX8_reading_23, eX8_reading_24, eX8_reading_27, eX8_reading_30, eX8_reading_31, eX8_reading_32, eX8_reading_35, eX8_reading_37, eX8_reading_40, eX8_reading_42, Option.bind_some, Option.toList_some, Option.toList_none, List.cons_append, List.nil_append, G_o0, G_h0_0, G_r0_0, G_h0_1, G_r0_1, G_h0_2, G_r0_2, G_h0_3, G_r0_3, G_h0_4, G_r0_4, G_o10, G_h10_0, G_r10_0, G_h10_1, G_r10_1, G_q11, G_l11, G_o12, G_h12_0, G_r12_0, G_h12_1, G_r12_1, G_a13, G_l13, G_a14, G_l14, G_q1, G_l1, qX0_hasPlace, qX8_isSureness, n2, hpt, hvt, zb_1, if_true, r2, show (nI 8 < 8) = False from eq_false (by decide +kernel), if_false]
      · simp only [nX9_reading, eX9_reading_0, eX9_reading_1, eX9_reading_2, eX9_reading_5, eX9_reading_8, eX9_reading_9, eX9_reading_10, eX9_reading_11, eX9_reading_12, eX9_reading_14, eX9_reading_17, eX9_reading_20, eX9_reading_22, eX9_reading_23, eX9_reading_24, eX9_reading_27, eX9_reading_29, eX9_reading_32, eX9_reading_34, Option.bind_some, Option.toList_some, Option.toList_none, List.cons_append, List.nil_append, G_o55, G_h55_2, G_r55_2, G_a56, G_l56, G_h55_3, G_r55_3, G_a57, G_l57, G_h55_4, G_r55_4, G_a58, G_l58, G_h55_7, G_r55_7, G_a59, G_l59, G_h55_8, G_r55_8, G_a60, G_l60, G_h55_9, G_r55_9, G_a61, G_l61, G_h55_10, G_r55_10, G_a62, G_l62, G_h55_11, G_r55_11, G_a63, G_l63, G_h55_29, G_r55_29, G_a69, G_l69, G_h55_30, G_r55_30, G_a70, G_l70, qX9_isPlace, qX9_within, n3, hpt, hvt, zb_1, if_true, r3, show (nI 8 ≠ 8) = False from eq_false (by decide +kernel), if_false]
    · have cl : (nI C < 8) = True := eq_true ((nI_ltI (a := C) (b := 8) (by omega) (by omega)).mpr (by omega))
      have cn : (nI C ≠ 8) = True := eq_true (fun e => hC ((nI_eq (a := C) (b := 8) (by omega) (by omega)).mp e))
      have s1 : nI (C + 1) - 1 = nI C := pk_sub (a := C + 1) (b := 1) (by omega)
      have k12 : ∀ x y : Int32, zU (zU I 13 C x) 14 C y 12 = I 12 := fun x y => by rw [zU_ne _ _ _ (by decide), zU_ne _ _ _ (by decide)]
      have k12a : ∀ x : Int32, zU I 13 C x 12 = I 12 := fun x => zU_ne _ _ _ (by decide)
      have k12b : ∀ (K : Nat → Nat → Int32) (x : Int32), zU K 12 2 x 12 2 = x := fun K x => zU_at _ _ _ _
      let I1 := zU (zU (zU I 13 C (nI j)) 14 C v) 12 2 (nI (C + 1))
      have i55 : I1 55 = I 55 := by show zU (zU (zU I 13 C (nI j)) 14 C v) 12 2 (nI (C + 1)) 55 = I 55; rw [zU_ne _ _ _ (by decide), zU_ne _ _ _ (by decide), zU_ne _ _ _ (by decide)]
      have m55 : ∀ (x y : Int32), zU (zU I1 69 C x) 70 C y 55 = I 55 := fun x y => by rw [zU_ne _ _ _ (by decide), zU_ne _ _ _ (by decide), i55]
      have m55a : ∀ (x : Int32), zU I1 69 C x 55 = I 55 := fun x => by rw [zU_ne _ _ _ (by decide), i55]
      refine ⟨(nI C), I1, zU (zU (zU I1 69 C (nI j)) 70 C v) 55 28 (nI (C + 1)), J, J, ?_, ?_, ?_⟩
      · have ad : zE zCd (zGG L xs) d 3 [.ref 12, .int (nI j), .int v] (I, J) = some (none, (I1, J)) := by
          simp only [nX4_add, eX4_add_0, eX4_add_1, eX4_add_4, eX4_add_5, eX4_add_8, eX4_add_9, eX4_add_10, eX4_add_11, eX4_add_14, eX4_add_15, eX4_add_18, eX4_add_19, eX4_add_20, eX4_add_21, eX4_add_22, eX4_add_25, eX4_add_26, eX4_add_27, eX4_add_30, Option.bind_some, Option.toList_some, Option.toList_none, List.cons_append, List.nil_append, G_o0, G_h0_0, G_r0_0, G_h0_1, G_r0_1, G_h0_2, G_r0_2, G_h0_3, G_r0_3, G_h0_4, G_r0_4, G_o10, G_h10_0, G_r10_0, G_h10_1, G_r10_1, G_q11, G_l11, G_o12, G_h12_0, G_r12_0, G_h12_1, G_r12_1, G_a13, G_l13, G_a14, G_l14, G_q1, G_l1, r2, zIn_8 (show C < 8 by omega), zc_n (show C ≤ 1000 by omega), k12, k12a, nI_1]
          rfl
        have i12 : I1 12 2 = nI (C + 1) := zU_at _ _ _ _
        simp only [nX8_reading, eX8_reading_0, eX8_reading_1, eX8_reading_4, eX8_reading_5, eX8_reading_8, eX8_reading_11, eX8_reading_12, eX8_reading_13, eX8_reading_14, eX8_reading_17, eX8_reading_20, eX8_reading_22, eX8_reading_23, eX8_reading_24, eX8_reading_27, eX8_reading_30, eX8_reading_31, eX8_reading_32, eX8_reading_35, eX8_reading_37, eX8_reading_40, eX8_reading_42, eX8_reading_43, eX8_reading_44, eX8_reading_45, eX8_reading_46, eX8_reading_49, eX8_reading_50, eX8_reading_53, eX8_reading_54, eX8_reading_55, Option.bind_some, Option.toList_some, Option.toList_none, List.cons_append, List.nil_append, G_o0, G_h0_0, G_r0_0, G_h0_1, G_r0_1, G_h0_2, G_r0_2, G_h0_3, G_r0_3, G_h0_4, G_r0_4, G_o10, G_h10_0, G_r10_0, G_h10_1, G_r10_1, G_q11, G_l11, G_o12, G_h12_0, G_r12_0, G_h12_1, G_r12_1, G_a13, G_l13, G_a14, G_l14, G_q1, G_l1, qX0_hasPlace, qX8_isSureness, n2, hpt, hvt, zb_1, if_true, r2, cl, ad, i12, s1]
      · have k28 : ∀ (K : Nat → Nat → Int32) (x : Int32), zU K 55 28 x 55 28 = x := fun K x => zU_at _ _ _ _
        simp only [nX9_reading, eX9_reading_0, eX9_reading_1, eX9_reading_2, eX9_reading_5, eX9_reading_8, eX9_reading_9, eX9_reading_10, eX9_reading_11, eX9_reading_12, eX9_reading_14, eX9_reading_17, eX9_reading_20, eX9_reading_22, eX9_reading_23, eX9_reading_24, eX9_reading_27, eX9_reading_29, eX9_reading_32, eX9_reading_34, eX9_reading_35, eX9_reading_36, eX9_reading_39, eX9_reading_40, eX9_reading_43, eX9_reading_44, eX9_reading_45, eX9_reading_46, eX9_reading_49, eX9_reading_50, eX9_reading_53, eX9_reading_54, eX9_reading_55, eX9_reading_56, eX9_reading_57, eX9_reading_60, eX9_reading_61, eX9_reading_62, eX9_reading_65, eX9_reading_66, eX9_reading_69, eX9_reading_70, eX9_reading_71, Option.bind_some, Option.toList_some, Option.toList_none, List.cons_append, List.nil_append, G_o55, G_h55_2, G_r55_2, G_a56, G_l56, G_h55_3, G_r55_3, G_a57, G_l57, G_h55_4, G_r55_4, G_a58, G_l58, G_h55_7, G_r55_7, G_a59, G_l59, G_h55_8, G_r55_8, G_a60, G_l60, G_h55_9, G_r55_9, G_a61, G_l61, G_h55_10, G_r55_10, G_a62, G_l62, G_h55_11, G_r55_11, G_a63, G_l63, G_h55_29, G_r55_29, G_a69, G_l69, G_h55_30, G_r55_30, G_a70, G_l70, qX9_isPlace, qX9_within, i55, n3, hpt, hvt, zb_1, if_true, r3, cn, m55, m55a, zIn_8 (show C < 8 by omega), zc_n (show C ≤ 1000 by omega), nI_1, k28, s1]
      · generalize hK : zU (zU (zU I1 69 C (nI j)) 70 C v) 55 28 (nI (C + 1)) = K
        have kc : ∀ c, c ≠ 12 → c ≠ 13 → c ≠ 14 → c ≠ 55 → c ≠ 69 → c ≠ 70 → K c = I c := fun c x1 x2 x3 x4 x5 x6 => by
          rw [← hK, zU_ne _ _ _ x4, zU_ne _ _ _ x6, zU_ne _ _ _ x5]
          show zU (zU (zU I 13 C (nI j)) 14 C v) 12 2 (nI (C + 1)) c = I c
          rw [zU_ne _ _ _ x1, zU_ne _ _ _ x3, zU_ne _ _ _ x2]
        have k5 : ∀ k, k ≠ 28 → K 55 k = I 55 k := fun k h => by rw [← hK, zU_k _ _ _ h, m55]
        have e13 : ∀ q, K 13 q = if q = C then nI j else I 13 q := fun q => by
          rw [← hK, zU_ne _ _ _ (by decide), zU_ne _ _ _ (by decide), zU_ne _ _ _ (by decide)]
          show zU (zU (zU I 13 C (nI j)) 14 C v) 12 2 (nI (C + 1)) 13 q = _
          rw [zU_ne _ _ _ (by decide), zU_ne _ _ _ (by decide), zU_app]
          simp only [true_and]
        have e14 : ∀ q, K 14 q = if q = C then v else I 14 q := fun q => by
          rw [← hK, zU_ne _ _ _ (by decide), zU_ne _ _ _ (by decide), zU_ne _ _ _ (by decide)]
          show zU (zU (zU I 13 C (nI j)) 14 C v) 12 2 (nI (C + 1)) 14 q = _
          rw [zU_ne _ _ _ (by decide), zU_app, zU_ne _ _ _ (by decide)]
          simp only [true_and]
        have i69 : I1 69 = I 69 := by show zU (zU (zU I 13 C (nI j)) 14 C v) 12 2 (nI (C + 1)) 69 = I 69; rw [zU_ne _ _ _ (by decide), zU_ne _ _ _ (by decide), zU_ne _ _ _ (by decide)]
        have i70 : I1 70 = I 70 := by show zU (zU (zU I 13 C (nI j)) 14 C v) 12 2 (nI (C + 1)) 70 = I 70; rw [zU_ne _ _ _ (by decide), zU_ne _ _ _ (by decide), zU_ne _ _ _ (by decide)]
        have e69 : ∀ q, K 69 q = if q = C then nI j else I 69 q := fun q => by
          rw [← hK, zU_ne _ _ _ (by decide), zU_ne _ _ _ (by decide), zU_app, i69]
          simp only [true_and]
        have e70 : ∀ q, K 70 q = if q = C then v else I 70 q := fun q => by
          rw [← hK, zU_ne _ _ _ (by decide), zU_app, zU_ne _ _ _ (by decide), i70]
          simp only [true_and]
        refine inv_rd (C := C + 1) hI kc k5 (by omega) ?_ ?_ ?_ (fun q hq => ?_)
        · rw [← hK, zU_ne _ _ _ (by decide), zU_ne _ _ _ (by decide), zU_ne _ _ _ (by decide)]; exact zU_at _ _ _ _
        · rw [← hK, zU_at]
        · intro e
          rw [n2] at e
          have := (nI_eq (a := N) (b := 0) (by omega) (by omega)).mp e
          omega
        · rw [e13, e14, e69, e70, n2]
          by_cases e : q = C
          · simp only [if_pos e]; exact ⟨trivial, trivial, hp⟩
          · simp only [if_neg e]
            obtain ⟨x, y, a, ha, z⟩ := r5 q (by omega)
            exact ⟨x, y, by rw [z]; exact ⟨nI_nn (by omega), (nI_ltI (by omega) (by omega)).mpr ha⟩⟩
  · refine ⟨(-2), I, I, J, J, ?_, ?_, hI⟩
    · simp only [nX8_reading, eX8_reading_0, eX8_reading_1, eX8_reading_4, eX8_reading_5, eX8_reading_8, eX8_reading_11, eX8_reading_12, eX8_reading_13, eX8_reading_14, eX8_reading_17, eX8_reading_20, eX8_reading_22, Option.bind_some, Option.toList_some, Option.toList_none, List.cons_append, List.nil_append, G_o0, G_h0_0, G_r0_0, G_h0_1, G_r0_1, G_h0_2, G_r0_2, G_h0_3, G_r0_3, G_h0_4, G_r0_4, G_o10, G_h10_0, G_r10_0, G_h10_1, G_r10_1, G_q11, G_l11, G_o12, G_h12_0, G_r12_0, G_h12_1, G_r12_1, G_a13, G_l13, G_a14, G_l14, G_q1, G_l1, qX0_hasPlace, qX8_isSureness, n2, hpt, eq_false hv, zb_1, if_true, if_false]
    · simp only [nX9_reading, eX9_reading_0, eX9_reading_1, eX9_reading_2, eX9_reading_5, eX9_reading_8, eX9_reading_9, eX9_reading_10, eX9_reading_11, eX9_reading_12, eX9_reading_14, eX9_reading_17, eX9_reading_20, eX9_reading_22, Option.bind_some, Option.toList_some, Option.toList_none, List.cons_append, List.nil_append, G_o55, G_h55_2, G_r55_2, G_a56, G_l56, G_h55_3, G_r55_3, G_a57, G_l57, G_h55_4, G_r55_4, G_a58, G_l58, G_h55_7, G_r55_7, G_a59, G_l59, G_h55_8, G_r55_8, G_a60, G_l60, G_h55_9, G_r55_9, G_a61, G_l61, G_h55_10, G_r55_10, G_a62, G_l62, G_h55_11, G_r55_11, G_a63, G_l63, G_h55_29, G_r55_29, G_a69, G_l69, G_h55_30, G_r55_30, G_a70, G_l70, qX9_isPlace, qX9_within, n3, hpt, eq_false hv, zb_1, if_true, if_false]
set_option maxHeartbeats 1000000 in
theorem op_back {I : Nat → Nat → Int32} (hI : zInv I) (k : Int32) : zOp L xs d 61 138 [.int k] I J := by
  obtain ⟨⟨a1, a2, a3⟩, b, c1, c2, c3, N, ⟨n1, n2, n3, n4, n5, n6⟩, C, r1, r2, r3, r4, r5⟩ := id hI
  by_cases hk : 0 ≤ k ∧ k ≤ nI C
  · obtain ⟨q, hq, rfl⟩ := zIdl hk.1 hk.2 (by omega)
    have h1 : (nI q < 0) = False := eq_false (by grind)
    have h2 : (nI q ≤ nI C) = True := eq_true hk.2
    have hkt := eq_true hk
    have es : nI C - nI q = nI (C - q) := pk_sub (by omega)
    refine ⟨(nI (C - q)), zU I 12 2 (nI (C - q)), zU (zU I 12 2 (nI (C - q))) 55 28 (nI (C - q)), J, J, ?_, ?_, ?_⟩
    · have k12 : zU I 12 2 (nI (C - q)) 12 2 = nI (C - q) := zU_at _ _ _ _
      simp only [nX8_back, eX8_back_0, eX8_back_1, eX8_back_4, eX8_back_7, eX8_back_8, eX8_back_9, eX8_back_12, eX8_back_13, eX8_back_14, eX8_back_17, eX8_back_20, eX8_back_22, eX8_back_23, eX8_back_24, eX8_back_25, eX8_back_28, eX8_back_29, eX8_back_30, eX8_back_33, eX8_back_34, eX8_back_37, Option.bind_some, Option.toList_some, Option.toList_none, List.cons_append, List.nil_append, G_o0, G_h0_0, G_r0_0, G_h0_1, G_r0_1, G_h0_2, G_r0_2, G_h0_3, G_r0_3, G_h0_4, G_r0_4, G_o10, G_h10_0, G_r10_0, G_h10_1, G_r10_1, G_q11, G_l11, G_o12, G_h12_0, G_r12_0, G_h12_1, G_r12_1, G_a13, G_l13, G_a14, G_l14, G_q1, G_l1, r2, h1, h2, if_true, if_false, es, k12]
    · have k28 : zU (zU I 12 2 (nI (C - q))) 55 28 (nI (C - q)) 55 28 = nI (C - q) := zU_at _ _ _ _
      have k55 : zU I 12 2 (nI (C - q)) 55 = I 55 := zU_ne _ _ _ (by decide)
      simp only [nX9_back, eX9_back_0, eX9_back_1, eX9_back_2, eX9_back_3, eX9_back_6, eX9_back_9, eX9_back_12, eX9_back_14, eX9_back_15, eX9_back_16, eX9_back_17, eX9_back_20, eX9_back_21, eX9_back_22, eX9_back_25, eX9_back_26, eX9_back_29, Option.bind_some, Option.toList_some, Option.toList_none, List.cons_append, List.nil_append, G_o55, G_h55_2, G_r55_2, G_a56, G_l56, G_h55_3, G_r55_3, G_a57, G_l57, G_h55_4, G_r55_4, G_a58, G_l58, G_h55_7, G_r55_7, G_a59, G_l59, G_h55_8, G_r55_8, G_a60, G_l60, G_h55_9, G_r55_9, G_a61, G_l61, G_h55_10, G_r55_10, G_a62, G_l62, G_h55_11, G_r55_11, G_a63, G_l63, G_h55_29, G_r55_29, G_a69, G_l69, G_h55_30, G_r55_30, G_a70, G_l70, qX9_within, k55, r3, hkt, zb_1, if_true, es, k28]
    · refine inv_rd (C := C - q) hI (fun c x1 x2 x3 x4 x5 x6 => by rw [zU_ne _ _ _ x4, zU_ne _ _ _ x1]) (fun k h => by rw [zU_k _ _ _ h, zU_ne _ _ _ (by decide)]) (by omega) (by rw [zU_ne _ _ _ (by decide), zU_at]) (zU_at _ _ _ _) ?_ (fun p hp => ?_)
      · intro e
        rw [n2] at e
        have := (nI_eq (a := N) (b := 0) (by omega) (by omega)).mp e
        have := r4 this
        omega
      · obtain ⟨x, y, a, ha, z⟩ := r5 p (by omega)
        have o : ∀ c, c ≠ 12 → c ≠ 55 → zU (zU I 12 2 (nI (C - q))) 55 28 (nI (C - q)) c = I c := fun c x y => by rw [zU_ne _ _ _ y, zU_ne _ _ _ x]
        rw [o 13 (by decide) (by decide), o 14 (by decide) (by decide), o 69 (by decide) (by decide), o 70 (by decide) (by decide), n2]
        exact ⟨x, y, by rw [z]; exact ⟨nI_nn (by omega), (nI_ltI (by omega) (by omega)).mpr ha⟩⟩
  · refine ⟨(-2), I, I, J, J, ?_, ?_, hI⟩
    · by_cases h1 : k < 0
      · simp only [nX8_back, eX8_back_0, eX8_back_1, eX8_back_4, eX8_back_7, eX8_back_8, eX8_back_9, eX8_back_12, eX8_back_13, eX8_back_14, eX8_back_17, eX8_back_20, eX8_back_22, Option.bind_some, Option.toList_some, Option.toList_none, List.cons_append, List.nil_append, G_o0, G_h0_0, G_r0_0, G_h0_1, G_r0_1, G_h0_2, G_r0_2, G_h0_3, G_r0_3, G_h0_4, G_r0_4, G_o10, G_h10_0, G_r10_0, G_h10_1, G_r10_1, G_q11, G_l11, G_o12, G_h12_0, G_r12_0, G_h12_1, G_r12_1, G_a13, G_l13, G_a14, G_l14, G_q1, G_l1, eq_true h1, if_true]
      · have h2 : (k ≤ nI C) = False := eq_false (by grind)
        simp only [nX8_back, eX8_back_0, eX8_back_1, eX8_back_4, eX8_back_7, eX8_back_8, eX8_back_9, eX8_back_12, eX8_back_13, eX8_back_14, eX8_back_17, eX8_back_20, eX8_back_22, Option.bind_some, Option.toList_some, Option.toList_none, List.cons_append, List.nil_append, G_o0, G_h0_0, G_r0_0, G_h0_1, G_r0_1, G_h0_2, G_r0_2, G_h0_3, G_r0_3, G_h0_4, G_r0_4, G_o10, G_h10_0, G_r10_0, G_h10_1, G_r10_1, G_q11, G_l11, G_o12, G_h12_0, G_r12_0, G_h12_1, G_r12_1, G_a13, G_l13, G_a14, G_l14, G_q1, G_l1, r2, eq_false h1, h2, if_false]
    · simp only [nX9_back, eX9_back_0, eX9_back_1, eX9_back_2, eX9_back_3, eX9_back_6, eX9_back_9, eX9_back_12, eX9_back_14, Option.bind_some, Option.toList_some, Option.toList_none, List.cons_append, List.nil_append, G_o55, G_h55_2, G_r55_2, G_a56, G_l56, G_h55_3, G_r55_3, G_a57, G_l57, G_h55_4, G_r55_4, G_a58, G_l58, G_h55_7, G_r55_7, G_a59, G_l59, G_h55_8, G_r55_8, G_a60, G_l60, G_h55_9, G_r55_9, G_a61, G_l61, G_h55_10, G_r55_10, G_a62, G_l62, G_h55_11, G_r55_11, G_a63, G_l63, G_h55_29, G_r55_29, G_a69, G_l69, G_h55_30, G_r55_30, G_a70, G_l70, qX9_within, r3, eq_false hk, zb_1, if_false]
set_option maxHeartbeats 1000000 in
theorem op_hum {I : Nat → Nat → Int32} (hI : zInv I) (k : Int32) : zOp L xs d 70 149 [.int k] I J := by
  obtain ⟨⟨a1, a2, a3⟩, b, c1, c2, c3, N, ⟨n1, n2, n3, n4, n5, n6⟩, C, r1, r2, r3, r4, r5⟩ := id hI
  by_cases hp : 0 ≤ k ∧ k < nI N
  case neg =>
    refine ⟨(-1), I, I, J, J, ?_, ?_, hI⟩
    · simp only [nX8_hum, eX8_hum_0, eX8_hum_1, eX8_hum_4, eX8_hum_5, eX8_hum_8, eX8_hum_11, eX8_hum_12, Option.bind_some, Option.toList_some, Option.toList_none, List.cons_append, List.nil_append, G_o0, G_h0_0, G_r0_0, G_h0_1, G_r0_1, G_h0_2, G_r0_2, G_h0_3, G_r0_3, G_h0_4, G_r0_4, G_o10, G_h10_0, G_r10_0, G_h10_1, G_r10_1, G_q11, G_l11, G_o12, G_h12_0, G_r12_0, G_h12_1, G_r12_1, G_a13, G_l13, G_a14, G_l14, G_q1, G_l1, qX0_hasPlace, n2, eq_false hp, zb_1, if_false]
    · simp only [nX9_hum, eX9_hum_0, eX9_hum_1, eX9_hum_2, eX9_hum_5, eX9_hum_8, eX9_hum_9, Option.bind_some, Option.toList_some, Option.toList_none, List.cons_append, List.nil_append, G_o55, G_h55_2, G_r55_2, G_a56, G_l56, G_h55_3, G_r55_3, G_a57, G_l57, G_h55_4, G_r55_4, G_a58, G_l58, G_h55_7, G_r55_7, G_a59, G_l59, G_h55_8, G_r55_8, G_a60, G_l60, G_h55_9, G_r55_9, G_a61, G_l61, G_h55_10, G_r55_10, G_a62, G_l62, G_h55_11, G_r55_11, G_a63, G_l63, G_h55_29, G_r55_29, G_a69, G_l69, G_h55_30, G_r55_30, G_a70, G_l70, qX9_isPlace, n3, eq_false hp, zb_1, if_false]
  obtain ⟨j, hj, rfl⟩ := zIdx hp.1 hp.2 (by omega)
  have hpt := eq_true hp
  have e0 : I (j + 15) 0 = I 59 j := c2 j 0 (by omega) (by decide)
  have e1 : I (j + 15) 1 = I 60 j := c2 j 1 (by omega) (by decide)
  have e2 : I (j + 15) 2 = I 61 j := c2 j 2 (by omega) (by decide)
  have e3 : I (j + 15) 3 = I 62 j := c2 j 3 (by omega) (by decide)
  have e4 : I (j + 15) 4 = I 63 j := c2 j 4 (by omega) (by decide)
  have hk3 : I 59 j = 0 ∨ I 59 j = 1 ∨ I 59 j = 2 := by
    have := (c3 j (by omega)).1
    rw [e0] at this
    exact this
  by_cases h2 : I 59 j = 2
  · refine ⟨30, zU I 0 5 (31 * I 0 5 + 5), zU (zU I 0 5 (31 * I 0 5 + 5)) 55 1 (31 * I 0 5 + 5), J, J, ?_, ?_, inv_tr hI⟩
    · simp only [nX8_hum, eX8_hum_0, eX8_hum_1, eX8_hum_4, eX8_hum_5, eX8_hum_8, eX8_hum_11, eX8_hum_12, eX8_hum_13, eX8_hum_14, eX8_hum_17, eX8_hum_20, eX8_hum_21, eX8_hum_22, eX8_hum_25, eX8_hum_26, eX8_hum_29, eX8_hum_30, eX8_hum_31, eX8_hum_34, eX8_hum_36, eX8_hum_37, eX8_hum_38, eX8_hum_39, eX8_hum_42, eX8_hum_43, Option.bind_some, Option.toList_some, Option.toList_none, List.cons_append, List.nil_append, G_o0, G_h0_0, G_r0_0, G_h0_1, G_r0_1, G_h0_2, G_r0_2, G_h0_3, G_r0_3, G_h0_4, G_r0_4, G_o10, G_h10_0, G_r10_0, G_h10_1, G_r10_1, G_q11, G_l11, G_o12, G_h12_0, G_r12_0, G_h12_1, G_r12_1, G_a13, G_l13, G_a14, G_l14, G_q1, G_l1, qX0_hasPlace, n2, hpt, zb_1, if_true, zIn_6 (show j < 6 by omega), zc_n (show j ≤ 1000 by omega), G_11h (show j < 6 by omega), G_11r (show j < 6 by omega), G_pl_o (show j < 6 by omega), e0, eq_true h2, ne_eq, not_true_eq_false, if_false, qX8_leaveTrace]
    · have o : ∀ (K : Nat → Nat → Int32) (x : Int32), zU K 55 1 x 59 = K 59 := fun K x => zU_ne _ _ _ (by decide)
      have o0 : ∀ c, c ≠ 0 → zU I 0 5 (31 * I 0 5 + 5) c = I c := fun c h => zU_ne _ _ _ h
      simp only [nX9_hum, eX9_hum_0, eX9_hum_1, eX9_hum_2, eX9_hum_5, eX9_hum_8, eX9_hum_9, eX9_hum_10, eX9_hum_11, eX9_hum_12, eX9_hum_15, eX9_hum_16, eX9_hum_17, eX9_hum_18, eX9_hum_21, eX9_hum_22, eX9_hum_25, eX9_hum_26, eX9_hum_29, eX9_hum_30, eX9_hum_33, eX9_hum_34, eX9_hum_35, eX9_hum_36, eX9_hum_39, eX9_hum_41, eX9_hum_44, eX9_hum_45, Option.bind_some, Option.toList_some, Option.toList_none, List.cons_append, List.nil_append, G_o55, G_h55_2, G_r55_2, G_a56, G_l56, G_h55_3, G_r55_3, G_a57, G_l57, G_h55_4, G_r55_4, G_a58, G_l58, G_h55_7, G_r55_7, G_a59, G_l59, G_h55_8, G_r55_8, G_a60, G_l60, G_h55_9, G_r55_9, G_a61, G_l61, G_h55_10, G_r55_10, G_a62, G_l62, G_h55_11, G_r55_11, G_a63, G_l63, G_h55_29, G_r55_29, G_a69, G_l69, G_h55_30, G_r55_30, G_a70, G_l70, qX9_isPlace, o0 55 (by decide), o0 59 (by decide), n3, hpt, zb_1, if_true, zIn_6 (show j < 6 by omega), zc_n (show j ≤ 1000 by omega), G_11h (show j < 6 by omega), G_11r (show j < 6 by omega), G_pl_o (show j < 6 by omega), o, eq_true h2, ne_eq, not_true_eq_false, if_false, qX9_begins, ← a2]
  · refine ⟨(nI j), zU I 0 5 (31 * I 0 5 + 4), zU (zU I 0 5 (31 * I 0 5 + 4)) 55 1 (31 * I 0 5 + 4), J, J, ?_, ?_, inv_tr hI⟩
    · simp only [nX8_hum, eX8_hum_0, eX8_hum_1, eX8_hum_4, eX8_hum_5, eX8_hum_8, eX8_hum_11, eX8_hum_12, eX8_hum_13, eX8_hum_14, eX8_hum_17, eX8_hum_20, eX8_hum_21, eX8_hum_22, eX8_hum_25, eX8_hum_26, eX8_hum_29, eX8_hum_30, eX8_hum_31, eX8_hum_34, eX8_hum_36, eX8_hum_37, eX8_hum_38, eX8_hum_39, eX8_hum_42, eX8_hum_43, Option.bind_some, Option.toList_some, Option.toList_none, List.cons_append, List.nil_append, G_o0, G_h0_0, G_r0_0, G_h0_1, G_r0_1, G_h0_2, G_r0_2, G_h0_3, G_r0_3, G_h0_4, G_r0_4, G_o10, G_h10_0, G_r10_0, G_h10_1, G_r10_1, G_q11, G_l11, G_o12, G_h12_0, G_r12_0, G_h12_1, G_r12_1, G_a13, G_l13, G_a14, G_l14, G_q1, G_l1, qX0_hasPlace, n2, hpt, zb_1, if_true, zIn_6 (show j < 6 by omega), zc_n (show j ≤ 1000 by omega), G_11h (show j < 6 by omega), G_11r (show j < 6 by omega), G_pl_o (show j < 6 by omega), e0, eq_false h2, ne_eq, not_false_eq_true, qX8_leaveTrace]
    · have o : ∀ (K : Nat → Nat → Int32) (x : Int32), zU K 55 1 x 59 = K 59 := fun K x => zU_ne _ _ _ (by decide)
      have o0 : ∀ c, c ≠ 0 → zU I 0 5 (31 * I 0 5 + 4) c = I c := fun c h => zU_ne _ _ _ h
      simp only [nX9_hum, eX9_hum_0, eX9_hum_1, eX9_hum_2, eX9_hum_5, eX9_hum_8, eX9_hum_9, eX9_hum_10, eX9_hum_11, eX9_hum_12, eX9_hum_15, eX9_hum_16, eX9_hum_17, eX9_hum_18, eX9_hum_21, eX9_hum_22, eX9_hum_25, eX9_hum_26, eX9_hum_29, eX9_hum_30, eX9_hum_33, eX9_hum_34, eX9_hum_35, eX9_hum_36, eX9_hum_39, eX9_hum_41, eX9_hum_44, eX9_hum_45, Option.bind_some, Option.toList_some, Option.toList_none, List.cons_append, List.nil_append, G_o55, G_h55_2, G_r55_2, G_a56, G_l56, G_h55_3, G_r55_3, G_a57, G_l57, G_h55_4, G_r55_4, G_a58, G_l58, G_h55_7, G_r55_7, G_a59, G_l59, G_h55_8, G_r55_8, G_a60, G_l60, G_h55_9, G_r55_9, G_a61, G_l61, G_h55_10, G_r55_10, G_a62, G_l62, G_h55_11, G_r55_11, G_a63, G_l63, G_h55_29, G_r55_29, G_a69, G_l69, G_h55_30, G_r55_30, G_a70, G_l70, qX9_isPlace, o0 55 (by decide), o0 59 (by decide), n3, hpt, zb_1, if_true, zIn_6 (show j < 6 by omega), zc_n (show j ≤ 1000 by omega), G_11h (show j < 6 by omega), G_11r (show j < 6 by omega), G_pl_o (show j < 6 by omega), o, eq_false h2, ne_eq, not_false_eq_true, qX9_begins, ← a2]
set_option maxHeartbeats 1000000 in
theorem op_tell {I : Nat → Nat → Int32} (hI : zInv I) (k : Int32) : zOp L xs d 69 148 [.int k] I J := by
  obtain ⟨⟨a1, a2, a3⟩, b, c1, c2, c3, N, ⟨n1, n2, n3, n4, n5, n6⟩, C, r1, r2, r3, r4, r5⟩ := id hI
  by_cases hp : 0 ≤ k ∧ k < nI N
  case neg =>
    refine ⟨(-1), I, I, J, J, ?_, ?_, hI⟩
    · simp only [nX8_tell, eX8_tell_0, eX8_tell_1, eX8_tell_4, eX8_tell_5, eX8_tell_8, eX8_tell_11, eX8_tell_12, Option.bind_some, Option.toList_some, Option.toList_none, List.cons_append, List.nil_append, G_o0, G_h0_0, G_r0_0, G_h0_1, G_r0_1, G_h0_2, G_r0_2, G_h0_3, G_r0_3, G_h0_4, G_r0_4, G_o10, G_h10_0, G_r10_0, G_h10_1, G_r10_1, G_q11, G_l11, G_o12, G_h12_0, G_r12_0, G_h12_1, G_r12_1, G_a13, G_l13, G_a14, G_l14, G_q1, G_l1, qX0_hasPlace, n2, eq_false hp, zb_1, if_false]
    · simp only [nX9_tell, eX9_tell_0, eX9_tell_1, eX9_tell_2, eX9_tell_5, eX9_tell_8, eX9_tell_9, Option.bind_some, Option.toList_some, Option.toList_none, List.cons_append, List.nil_append, G_o55, G_h55_2, G_r55_2, G_a56, G_l56, G_h55_3, G_r55_3, G_a57, G_l57, G_h55_4, G_r55_4, G_a58, G_l58, G_h55_7, G_r55_7, G_a59, G_l59, G_h55_8, G_r55_8, G_a60, G_l60, G_h55_9, G_r55_9, G_a61, G_l61, G_h55_10, G_r55_10, G_a62, G_l62, G_h55_11, G_r55_11, G_a63, G_l63, G_h55_29, G_r55_29, G_a69, G_l69, G_h55_30, G_r55_30, G_a70, G_l70, qX9_isPlace, n3, eq_false hp, zb_1, if_false]
  obtain ⟨j, hj, rfl⟩ := zIdx hp.1 hp.2 (by omega)
  have hpt := eq_true hp
  have e0 : I (j + 15) 0 = I 59 j := c2 j 0 (by omega) (by decide)
  have e1 : I (j + 15) 1 = I 60 j := c2 j 1 (by omega) (by decide)
  have e2 : I (j + 15) 2 = I 61 j := c2 j 2 (by omega) (by decide)
  have e3 : I (j + 15) 3 = I 62 j := c2 j 3 (by omega) (by decide)
  have e4 : I (j + 15) 4 = I 63 j := c2 j 4 (by omega) (by decide)
  have hk3 : I 59 j = 0 ∨ I 59 j = 1 ∨ I 59 j = 2 := by
    have := (c3 j (by omega)).1
    rw [e0] at this
    exact this
  have t1 : ∀ K : Nat → Nat → Int32, zE zCd (zGG L xs) d 85 [.ref 0, .ref (j + 15)] (K, J) = some (some (.int (K (j + 15) 2)), (zU K 0 5 (31 * K 0 5 + 1), J)) := fun K => qX8_toldAsPlain (show j < 6 by omega)
  have ou : ∀ (K : Nat → Nat → Int32) (x : Int32), zU K 0 5 x (j + 15) = K (j + 15) := fun K x => zU_ne _ _ _ (by omega)
  have oa : ∀ (K : Nat → Nat → Int32) (x : Int32), zU K 0 5 x 0 5 = x := fun K x => zU_at _ _ _ _
  have om : ∀ (K : Nat → Nat → Int32) (x : Int32), zU K 55 1 x 55 1 = x := fun K x => zU_at _ _ _ _
  have t2 : ∀ K : Nat → Nat → Int32, zE zCd (zGG L xs) d 86 [.ref 0, .ref (j + 15)] (K, J) = some (some (.int (K (j + 15) 2 + 100)), (zU K 0 5 (31 * (31 * K 0 5 + 2) + 1), J)) := fun K => by
    simp only [nX8_toldAsKnotty, eX8_toldAsKnotty_0, eX8_toldAsKnotty_1, eX8_toldAsKnotty_2, eX8_toldAsKnotty_5, eX8_toldAsKnotty_6, eX8_toldAsKnotty_7, eX8_toldAsKnotty_10, eX8_toldAsKnotty_12, eX8_toldAsKnotty_13, Option.bind_some, Option.toList_some, Option.toList_none, List.cons_append, List.nil_append, G_o0, G_h0_0, G_r0_0, G_h0_1, G_r0_1, G_h0_2, G_r0_2, G_h0_3, G_r0_3, G_h0_4, G_r0_4, G_o10, G_h10_0, G_r10_0, G_h10_1, G_r10_1, G_q11, G_l11, G_o12, G_h12_0, G_r12_0, G_h12_1, G_r12_1, G_a13, G_l13, G_a14, G_l14, G_q1, G_l1, qX8_leaveTrace, t1, ou, oa, zU_uu]
  have o0 : ∀ (x : Int32) c, c ≠ 0 → zU I 0 5 x c = I c := fun x c h => zU_ne _ _ _ h
  rcases hk3 with h | h | h
  · have h1 : ¬ (0 : Int32) = 1 := by decide
    have h2 : ¬ (0 : Int32) = 2 := by decide
    refine ⟨(I 61 j), zU I 0 5 (31 * I 0 5 + 1), zU (zU I 0 5 (31 * I 0 5 + 1)) 55 1 (31 * I 0 5 + 1), J, J, ?_, ?_, inv_tr hI⟩
    · simp only [nX8_tell, eX8_tell_0, eX8_tell_1, eX8_tell_4, eX8_tell_5, eX8_tell_8, eX8_tell_11, eX8_tell_12, eX8_tell_13, eX8_tell_14, eX8_tell_17, eX8_tell_20, eX8_tell_21, eX8_tell_22, eX8_tell_23, eX8_tell_24, eX8_tell_27, eX8_tell_52, eX8_tell_53, eX8_tell_54, eX8_tell_57, eX8_tell_58, eX8_tell_59, eX8_tell_60, eX8_tell_63, eX8_tell_64, eX8_tell_65, eX8_tell_66, eX8_tell_69, Option.bind_some, Option.toList_some, Option.toList_none, List.cons_append, List.nil_append, G_o0, G_h0_0, G_r0_0, G_h0_1, G_r0_1, G_h0_2, G_r0_2, G_h0_3, G_r0_3, G_h0_4, G_r0_4, G_o10, G_h10_0, G_r10_0, G_h10_1, G_r10_1, G_q11, G_l11, G_o12, G_h12_0, G_r12_0, G_h12_1, G_r12_1, G_a13, G_l13, G_a14, G_l14, G_q1, G_l1, qX0_hasPlace, n2, hpt, zb_1, if_true, zIn_6 (show j < 6 by omega), zc_n (show j ≤ 1000 by omega), G_11h (show j < 6 by omega), G_11r (show j < 6 by omega), G_pl_o (show j < 6 by omega), e0, e2, h, zSw_c, zSw_n, t1]
    · simp only [nX9_tell, eX9_tell_0, eX9_tell_1, eX9_tell_2, eX9_tell_5, eX9_tell_8, eX9_tell_9, eX9_tell_10, eX9_tell_11, eX9_tell_14, eX9_tell_15, eX9_tell_16, eX9_tell_17, eX9_tell_18, eX9_tell_21, eX9_tell_22, eX9_tell_23, eX9_tell_48, eX9_tell_49, eX9_tell_50, eX9_tell_53, eX9_tell_54, eX9_tell_55, eX9_tell_58, eX9_tell_59, eX9_tell_61, eX9_tell_62, eX9_tell_63, eX9_tell_64, eX9_tell_65, eX9_tell_68, eX9_tell_69, eX9_tell_70, eX9_tell_73, eX9_tell_74, eX9_tell_75, eX9_tell_78, eX9_tell_79, eX9_tell_80, eX9_tell_83, eX9_tell_84, eX9_tell_85, eX9_tell_86, eX9_tell_88, eX9_tell_89, eX9_tell_90, eX9_tell_91, eX9_tell_92, eX9_tell_95, eX9_tell_96, Option.bind_some, Option.toList_some, Option.toList_none, List.cons_append, List.nil_append, G_o55, G_h55_2, G_r55_2, G_a56, G_l56, G_h55_3, G_r55_3, G_a57, G_l57, G_h55_4, G_r55_4, G_a58, G_l58, G_h55_7, G_r55_7, G_a59, G_l59, G_h55_8, G_r55_8, G_a60, G_l60, G_h55_9, G_r55_9, G_a61, G_l61, G_h55_10, G_r55_10, G_a62, G_l62, G_h55_11, G_r55_11, G_a63, G_l63, G_h55_29, G_r55_29, G_a69, G_l69, G_h55_30, G_r55_30, G_a70, G_l70, qX9_isPlace, o0 _ 55 (by decide), o0 _ 59 (by decide), o0 _ 61 (by decide), n3, hpt, zb_1, if_true, zIn_6 (show j < 6 by omega), zc_n (show j ≤ 1000 by omega), G_11h (show j < 6 by omega), G_11r (show j < 6 by omega), G_pl_o (show j < 6 by omega), h, zSw_c, zSw_n, h1, h2, if_false, qX9_begins, ← a2]
  · have h1 : ¬ (1 : Int32) = 0 := by decide
    refine ⟨(I 61 j + 100), zU I 0 5 (31 * (31 * I 0 5 + 2) + 1), zU (zU I 0 5 (31 * (31 * I 0 5 + 2) + 1)) 55 1 (31 * (31 * I 0 5 + 2) + 1), J, J, ?_, ?_, inv_tr hI⟩
    · simp only [nX8_tell, eX8_tell_0, eX8_tell_1, eX8_tell_4, eX8_tell_5, eX8_tell_8, eX8_tell_11, eX8_tell_12, eX8_tell_13, eX8_tell_14, eX8_tell_17, eX8_tell_20, eX8_tell_21, eX8_tell_22, eX8_tell_23, eX8_tell_24, eX8_tell_27, eX8_tell_52, eX8_tell_53, eX8_tell_54, eX8_tell_57, eX8_tell_58, eX8_tell_59, eX8_tell_60, eX8_tell_63, eX8_tell_64, eX8_tell_65, eX8_tell_66, eX8_tell_69, Option.bind_some, Option.toList_some, Option.toList_none, List.cons_append, List.nil_append, G_o0, G_h0_0, G_r0_0, G_h0_1, G_r0_1, G_h0_2, G_r0_2, G_h0_3, G_r0_3, G_h0_4, G_r0_4, G_o10, G_h10_0, G_r10_0, G_h10_1, G_r10_1, G_q11, G_l11, G_o12, G_h12_0, G_r12_0, G_h12_1, G_r12_1, G_a13, G_l13, G_a14, G_l14, G_q1, G_l1, qX0_hasPlace, n2, hpt, zb_1, if_true, zIn_6 (show j < 6 by omega), zc_n (show j ≤ 1000 by omega), G_11h (show j < 6 by omega), G_11r (show j < 6 by omega), G_pl_o (show j < 6 by omega), e0, e2, h, h1, if_false, zSw_c, zSw_n, t2]
    · simp only [nX9_tell, eX9_tell_0, eX9_tell_1, eX9_tell_2, eX9_tell_5, eX9_tell_8, eX9_tell_9, eX9_tell_10, eX9_tell_11, eX9_tell_14, eX9_tell_15, eX9_tell_16, eX9_tell_17, eX9_tell_18, eX9_tell_21, eX9_tell_22, eX9_tell_23, eX9_tell_48, eX9_tell_49, eX9_tell_50, eX9_tell_53, eX9_tell_54, eX9_tell_55, eX9_tell_58, eX9_tell_59, eX9_tell_61, eX9_tell_62, eX9_tell_63, eX9_tell_64, eX9_tell_65, eX9_tell_68, eX9_tell_69, eX9_tell_70, eX9_tell_73, eX9_tell_74, eX9_tell_75, eX9_tell_78, eX9_tell_79, eX9_tell_80, eX9_tell_83, eX9_tell_84, eX9_tell_85, eX9_tell_86, eX9_tell_88, eX9_tell_89, eX9_tell_90, eX9_tell_91, eX9_tell_92, eX9_tell_95, eX9_tell_96, Option.bind_some, Option.toList_some, Option.toList_none, List.cons_append, List.nil_append, G_o55, G_h55_2, G_r55_2, G_a56, G_l56, G_h55_3, G_r55_3, G_a57, G_l57, G_h55_4, G_r55_4, G_a58, G_l58, G_h55_7, G_r55_7, G_a59, G_l59, G_h55_8, G_r55_8, G_a60, G_l60, G_h55_9, G_r55_9, G_a61, G_l61, G_h55_10, G_r55_10, G_a62, G_l62, G_h55_11, G_r55_11, G_a63, G_l63, G_h55_29, G_r55_29, G_a69, G_l69, G_h55_30, G_r55_30, G_a70, G_l70, qX9_isPlace, o0 _ 55 (by decide), o0 _ 59 (by decide), o0 _ 61 (by decide), n3, hpt, zb_1, if_true, zIn_6 (show j < 6 by omega), zc_n (show j ≤ 1000 by omega), G_11h (show j < 6 by omega), G_11r (show j < 6 by omega), G_pl_o (show j < 6 by omega), h, zSw_c, zSw_n, qX9_begins, om, zU_uu, ← a2]
  · have h1 : ¬ (2 : Int32) = 0 := by decide
    have h2 : ¬ (2 : Int32) = 1 := by decide
    have ev : I 61 j + 100 + I 61 j = 2 * I 61 j + 100 := by grind
    refine ⟨(2 * I 61 j + 100), zU I 0 5 (31 * (31 * (31 * (31 * I 0 5 + 3) + 2) + 1) + 1), zU (zU I 0 5 (31 * (31 * (31 * (31 * I 0 5 + 3) + 2) + 1) + 1)) 55 1 (31 * (31 * (31 * (31 * I 0 5 + 3) + 2) + 1) + 1), J, J, ?_, ?_, inv_tr hI⟩
    · have t3 : zE zCd (zGG L xs) d 87 [.ref 0, .ref (j + 15)] (I, J) = some (some (.int (2 * I 61 j + 100)), (zU I 0 5 (31 * (31 * (31 * (31 * I 0 5 + 3) + 2) + 1) + 1), J)) := by
        simp only [nX8_toldAsHigh, eX8_toldAsHigh_0, eX8_toldAsHigh_1, eX8_toldAsHigh_2, eX8_toldAsHigh_5, eX8_toldAsHigh_6, eX8_toldAsHigh_7, eX8_toldAsHigh_10, eX8_toldAsHigh_11, eX8_toldAsHigh_12, eX8_toldAsHigh_13, eX8_toldAsHigh_14, eX8_toldAsHigh_17, eX8_toldAsHigh_18, Option.bind_some, Option.toList_some, Option.toList_none, List.cons_append, List.nil_append, G_o0, G_h0_0, G_r0_0, G_h0_1, G_r0_1, G_h0_2, G_r0_2, G_h0_3, G_r0_3, G_h0_4, G_r0_4, G_o10, G_h10_0, G_r10_0, G_h10_1, G_r10_1, G_q11, G_l11, G_o12, G_h12_0, G_r12_0, G_h12_1, G_r12_1, G_a13, G_l13, G_a14, G_l14, G_q1, G_l1, qX8_leaveTrace, t1, t2, ou, oa, zU_uu, e2, ev]
      simp only [nX8_tell, eX8_tell_0, eX8_tell_1, eX8_tell_4, eX8_tell_5, eX8_tell_8, eX8_tell_11, eX8_tell_12, eX8_tell_13, eX8_tell_14, eX8_tell_17, eX8_tell_20, eX8_tell_21, eX8_tell_22, eX8_tell_23, eX8_tell_24, eX8_tell_27, eX8_tell_52, eX8_tell_53, eX8_tell_54, eX8_tell_57, eX8_tell_58, eX8_tell_59, eX8_tell_60, eX8_tell_63, eX8_tell_64, eX8_tell_65, eX8_tell_66, eX8_tell_69, Option.bind_some, Option.toList_some, Option.toList_none, List.cons_append, List.nil_append, G_o0, G_h0_0, G_r0_0, G_h0_1, G_r0_1, G_h0_2, G_r0_2, G_h0_3, G_r0_3, G_h0_4, G_r0_4, G_o10, G_h10_0, G_r10_0, G_h10_1, G_r10_1, G_q11, G_l11, G_o12, G_h12_0, G_r12_0, G_h12_1, G_r12_1, G_a13, G_l13, G_a14, G_l14, G_q1, G_l1, qX0_hasPlace, n2, hpt, zb_1, if_true, zIn_6 (show j < 6 by omega), zc_n (show j ≤ 1000 by omega), G_11h (show j < 6 by omega), G_11r (show j < 6 by omega), G_pl_o (show j < 6 by omega), e0, h, h1, h2, if_false, zSw_c, zSw_n, t3]
    · simp only [nX9_tell, eX9_tell_0, eX9_tell_1, eX9_tell_2, eX9_tell_5, eX9_tell_8, eX9_tell_9, eX9_tell_10, eX9_tell_11, eX9_tell_14, eX9_tell_15, eX9_tell_16, eX9_tell_17, eX9_tell_18, eX9_tell_21, eX9_tell_22, eX9_tell_23, eX9_tell_48, eX9_tell_49, eX9_tell_50, eX9_tell_53, eX9_tell_54, eX9_tell_55, eX9_tell_58, eX9_tell_59, eX9_tell_61, eX9_tell_62, eX9_tell_63, eX9_tell_64, eX9_tell_65, eX9_tell_68, eX9_tell_69, eX9_tell_70, eX9_tell_73, eX9_tell_74, eX9_tell_75, eX9_tell_78, eX9_tell_79, eX9_tell_80, eX9_tell_83, eX9_tell_84, eX9_tell_85, eX9_tell_86, eX9_tell_88, eX9_tell_89, eX9_tell_90, eX9_tell_91, eX9_tell_92, eX9_tell_95, eX9_tell_96, Option.bind_some, Option.toList_some, Option.toList_none, List.cons_append, List.nil_append, G_o55, G_h55_2, G_r55_2, G_a56, G_l56, G_h55_3, G_r55_3, G_a57, G_l57, G_h55_4, G_r55_4, G_a58, G_l58, G_h55_7, G_r55_7, G_a59, G_l59, G_h55_8, G_r55_8, G_a60, G_l60, G_h55_9, G_r55_9, G_a61, G_l61, G_h55_10, G_r55_10, G_a62, G_l62, G_h55_11, G_r55_11, G_a63, G_l63, G_h55_29, G_r55_29, G_a69, G_l69, G_h55_30, G_r55_30, G_a70, G_l70, qX9_isPlace, o0 _ 55 (by decide), o0 _ 59 (by decide), o0 _ 61 (by decide), n3, hpt, zb_1, if_true, zIn_6 (show j < 6 by omega), zc_n (show j ≤ 1000 by omega), G_11h (show j < 6 by omega), G_11r (show j < 6 by omega), G_pl_o (show j < 6 by omega), h, h2, if_false, zSw_c, zSw_n, qX9_begins, om, zU_uu, ← a2]
set_option maxHeartbeats 1000000 in
theorem op_as {I : Nat → Nat → Int32} (hI : zInv I) (k v : Int32) : zOp L xs d 71 150 [.int k, .int v] I J := by
  obtain ⟨⟨a1, a2, a3⟩, b, c1, c2, c3, N, ⟨n1, n2, n3, n4, n5, n6⟩, C, r1, r2, r3, r4, r5⟩ := id hI
  have o0 : ∀ (x : Int32) c, c ≠ 0 → zU I 0 6 x c = I c := fun x c h => zU_ne _ _ _ h
  have o5 : ∀ (x y : Int32) c, c ≠ 0 → zU (zU I 0 6 x) 55 0 y 55 c = I 55 c := fun x y c h => by rw [zU_k _ _ _ h, zU_ne _ _ _ (by decide)]
  by_cases hp : 0 ≤ k ∧ k < nI N
  case neg =>
    refine ⟨(-1), zU I 0 6 0, zU (zU I 0 6 0) 55 0 0, J, J, ?_, ?_, inv_ft hI⟩
    · simp only [nX8_as, eX8_as_0, eX8_as_1, eX8_as_2, eX8_as_5, eX8_as_6, eX8_as_9, eX8_as_10, eX8_as_13, eX8_as_16, eX8_as_17, Option.bind_some, Option.toList_some, Option.toList_none, List.cons_append, List.nil_append, G_o0, G_h0_0, G_r0_0, G_h0_1, G_r0_1, G_h0_2, G_r0_2, G_h0_3, G_r0_3, G_h0_4, G_r0_4, G_o10, G_h10_0, G_r10_0, G_h10_1, G_r10_1, G_q11, G_l11, G_o12, G_h12_0, G_r12_0, G_h12_1, G_r12_1, G_a13, G_l13, G_a14, G_l14, G_q1, G_l1, qX0_hasPlace, o0 0 10 (by decide), n2, eq_false hp, zb_1, if_false]
    · simp only [nX9_as, eX9_as_0, eX9_as_1, eX9_as_2, eX9_as_5, eX9_as_6, eX9_as_7, eX9_as_10, eX9_as_13, eX9_as_14, Option.bind_some, Option.toList_some, Option.toList_none, List.cons_append, List.nil_append, G_o55, G_h55_2, G_r55_2, G_a56, G_l56, G_h55_3, G_r55_3, G_a57, G_l57, G_h55_4, G_r55_4, G_a58, G_l58, G_h55_7, G_r55_7, G_a59, G_l59, G_h55_8, G_r55_8, G_a60, G_l60, G_h55_9, G_r55_9, G_a61, G_l61, G_h55_10, G_r55_10, G_a62, G_l62, G_h55_11, G_r55_11, G_a63, G_l63, G_h55_29, G_r55_29, G_a69, G_l69, G_h55_30, G_r55_30, G_a70, G_l70, qX9_isPlace, o5 0 0 6 (by decide), n3, eq_false hp, zb_1, if_false]
  obtain ⟨j, hj, rfl⟩ := zIdx hp.1 hp.2 (by omega)
  have hpt := eq_true hp
  have e0 : I (j + 15) 0 = I 59 j := c2 j 0 (by omega) (by decide)
  have oj : zU I 0 6 0 (j + 15) = I (j + 15) := zU_ne _ _ _ (by omega)
  have om : zU (zU I 0 6 0) 55 0 0 59 = I 59 := by rw [zU_ne _ _ _ (by decide), zU_ne _ _ _ (by decide)]
  by_cases hv : 0 ≤ v ∧ v ≤ 2
  · have hvt := eq_true hv
    have v1 : (v < 0) = False := eq_false (by grind)
    have v2 : (v ≤ 2) = True := eq_true hv.2
    by_cases hk : v ≤ I 59 j
    · have hkm : (I 59 j < v) = False := eq_false (by grind)
      refine ⟨1, zU I 0 6 0, zU (zU I 0 6 0) 55 0 0, J, J, ?_, ?_, inv_ft hI⟩
      · simp only [nX8_as, eX8_as_0, eX8_as_1, eX8_as_2, eX8_as_5, eX8_as_6, eX8_as_9, eX8_as_10, eX8_as_13, eX8_as_16, eX8_as_17, eX8_as_18, eX8_as_19, eX8_as_22, eX8_as_23, eX8_as_24, eX8_as_27, eX8_as_29, eX8_as_30, eX8_as_31, eX8_as_34, eX8_as_37, eX8_as_38, eX8_as_39, eX8_as_40, eX8_as_43, eX8_as_46, eX8_as_47, eX8_as_50, eX8_as_51, eX8_as_52, eX8_as_55, Option.bind_some, Option.toList_some, Option.toList_none, List.cons_append, List.nil_append, G_o0, G_h0_0, G_r0_0, G_h0_1, G_r0_1, G_h0_2, G_r0_2, G_h0_3, G_r0_3, G_h0_4, G_r0_4, G_o10, G_h10_0, G_r10_0, G_h10_1, G_r10_1, G_q11, G_l11, G_o12, G_h12_0, G_r12_0, G_h12_1, G_r12_1, G_a13, G_l13, G_a14, G_l14, G_q1, G_l1, qX0_hasPlace, o0 0 10 (by decide), n2, hpt, v1, v2, zb_1, zb_0, if_true, if_false, zIn_6 (show j < 6 by omega), zc_n (show j ≤ 1000 by omega), G_11h (show j < 6 by omega), G_11r (show j < 6 by omega), G_pl_o (show j < 6 by omega), qX1_isAlso (show j < 6 by omega), oj, e0, eq_true hk, not_true_eq_false]
      · simp only [nX9_as, eX9_as_0, eX9_as_1, eX9_as_2, eX9_as_5, eX9_as_6, eX9_as_7, eX9_as_10, eX9_as_13, eX9_as_14, eX9_as_15, eX9_as_16, eX9_as_17, eX9_as_18, eX9_as_21, eX9_as_24, eX9_as_26, eX9_as_27, eX9_as_28, eX9_as_31, eX9_as_32, eX9_as_33, eX9_as_34, eX9_as_37, eX9_as_38, eX9_as_41, eX9_as_42, eX9_as_43, eX9_as_46, Option.bind_some, Option.toList_some, Option.toList_none, List.cons_append, List.nil_append, G_o55, G_h55_2, G_r55_2, G_a56, G_l56, G_h55_3, G_r55_3, G_a57, G_l57, G_h55_4, G_r55_4, G_a58, G_l58, G_h55_7, G_r55_7, G_a59, G_l59, G_h55_8, G_r55_8, G_a60, G_l60, G_h55_9, G_r55_9, G_a61, G_l61, G_h55_10, G_r55_10, G_a62, G_l62, G_h55_11, G_r55_11, G_a63, G_l63, G_h55_29, G_r55_29, G_a69, G_l69, G_h55_30, G_r55_30, G_a70, G_l70, qX9_isPlace, qX9_within, o5 0 0 6 (by decide), n3, hpt, hvt, zb_1, if_true, zIn_6 (show j < 6 by omega), zc_n (show j ≤ 1000 by omega), G_11h (show j < 6 by omega), G_11r (show j < 6 by omega), G_pl_o (show j < 6 by omega), om, hkm, if_false]
    · have hkm : (I 59 j < v) = True := eq_true (by grind)
      refine ⟨(-10 - 2), zU I 0 6 2, zU (zU I 0 6 2) 55 0 2, J, J, ?_, ?_, inv_ft hI⟩
      · simp only [nX8_as, eX8_as_0, eX8_as_1, eX8_as_2, eX8_as_5, eX8_as_6, eX8_as_9, eX8_as_10, eX8_as_13, eX8_as_16, eX8_as_17, eX8_as_18, eX8_as_19, eX8_as_22, eX8_as_23, eX8_as_24, eX8_as_27, eX8_as_29, eX8_as_30, eX8_as_31, eX8_as_34, eX8_as_37, eX8_as_38, eX8_as_39, eX8_as_40, eX8_as_43, eX8_as_46, eX8_as_47, eX8_as_50, eX8_as_51, eX8_as_52, eX8_as_55, Option.bind_some, Option.toList_some, Option.toList_none, List.cons_append, List.nil_append, G_o0, G_h0_0, G_r0_0, G_h0_1, G_r0_1, G_h0_2, G_r0_2, G_h0_3, G_r0_3, G_h0_4, G_r0_4, G_o10, G_h10_0, G_r10_0, G_h10_1, G_r10_1, G_q11, G_l11, G_o12, G_h12_0, G_r12_0, G_h12_1, G_r12_1, G_a13, G_l13, G_a14, G_l14, G_q1, G_l1, qX0_hasPlace, o0 0 10 (by decide), n2, hpt, v1, v2, zb_1, zb_0, if_true, if_false, zIn_6 (show j < 6 by omega), zc_n (show j ≤ 1000 by omega), G_11h (show j < 6 by omega), G_11r (show j < 6 by omega), G_pl_o (show j < 6 by omega), qX1_isAlso (show j < 6 by omega), oj, e0, eq_false hk, not_false_eq_true, qX8_failed, zU_uu]
      · have omx : zU (zU I 0 6 2) 55 0 0 59 = I 59 := by rw [zU_ne _ _ _ (by decide), zU_ne _ _ _ (by decide)]
        simp only [nX9_as, eX9_as_0, eX9_as_1, eX9_as_2, eX9_as_5, eX9_as_6, eX9_as_7, eX9_as_10, eX9_as_13, eX9_as_14, eX9_as_15, eX9_as_16, eX9_as_17, eX9_as_18, eX9_as_21, eX9_as_24, eX9_as_26, eX9_as_27, eX9_as_28, eX9_as_31, eX9_as_32, eX9_as_33, eX9_as_34, eX9_as_37, eX9_as_38, eX9_as_41, eX9_as_42, eX9_as_43, eX9_as_46, Option.bind_some, Option.toList_some, Option.toList_none, List.cons_append, List.nil_append, G_o55, G_h55_2, G_r55_2, G_a56, G_l56, G_h55_3, G_r55_3, G_a57, G_l57, G_h55_4, G_r55_4, G_a58, G_l58, G_h55_7, G_r55_7, G_a59, G_l59, G_h55_8, G_r55_8, G_a60, G_l60, G_h55_9, G_r55_9, G_a61, G_l61, G_h55_10, G_r55_10, G_a62, G_l62, G_h55_11, G_r55_11, G_a63, G_l63, G_h55_29, G_r55_29, G_a69, G_l69, G_h55_30, G_r55_30, G_a70, G_l70, qX9_isPlace, qX9_within, o5 2 0 6 (by decide), n3, hpt, hvt, zb_1, if_true, zIn_6 (show j < 6 by omega), zc_n (show j ≤ 1000 by omega), G_11h (show j < 6 by omega), G_11r (show j < 6 by omega), G_pl_o (show j < 6 by omega), omx, hkm, qX9_fails, zU_uu]
  · refine ⟨(-2), zU I 0 6 0, zU (zU I 0 6 0) 55 0 0, J, J, ?_, ?_, inv_ft hI⟩
    · by_cases v1 : v < 0
      · simp only [nX8_as, eX8_as_0, eX8_as_1, eX8_as_2, eX8_as_5, eX8_as_6, eX8_as_9, eX8_as_10, eX8_as_13, eX8_as_16, eX8_as_17, eX8_as_18, eX8_as_19, eX8_as_22, eX8_as_23, eX8_as_24, eX8_as_27, eX8_as_29, Option.bind_some, Option.toList_some, Option.toList_none, List.cons_append, List.nil_append, G_o0, G_h0_0, G_r0_0, G_h0_1, G_r0_1, G_h0_2, G_r0_2, G_h0_3, G_r0_3, G_h0_4, G_r0_4, G_o10, G_h10_0, G_r10_0, G_h10_1, G_r10_1, G_q11, G_l11, G_o12, G_h12_0, G_r12_0, G_h12_1, G_r12_1, G_a13, G_l13, G_a14, G_l14, G_q1, G_l1, qX0_hasPlace, o0 0 10 (by decide), n2, hpt, zb_1, if_true, eq_true v1]
      · have v2 : (v ≤ 2) = False := eq_false (by grind)
        simp only [nX8_as, eX8_as_0, eX8_as_1, eX8_as_2, eX8_as_5, eX8_as_6, eX8_as_9, eX8_as_10, eX8_as_13, eX8_as_16, eX8_as_17, eX8_as_18, eX8_as_19, eX8_as_22, eX8_as_23, eX8_as_24, eX8_as_27, eX8_as_29, Option.bind_some, Option.toList_some, Option.toList_none, List.cons_append, List.nil_append, G_o0, G_h0_0, G_r0_0, G_h0_1, G_r0_1, G_h0_2, G_r0_2, G_h0_3, G_r0_3, G_h0_4, G_r0_4, G_o10, G_h10_0, G_r10_0, G_h10_1, G_r10_1, G_q11, G_l11, G_o12, G_h12_0, G_r12_0, G_h12_1, G_r12_1, G_a13, G_l13, G_a14, G_l14, G_q1, G_l1, qX0_hasPlace, o0 0 10 (by decide), n2, hpt, zb_1, if_true, eq_false v1, v2, if_false]
    · simp only [nX9_as, eX9_as_0, eX9_as_1, eX9_as_2, eX9_as_5, eX9_as_6, eX9_as_7, eX9_as_10, eX9_as_13, eX9_as_14, eX9_as_15, eX9_as_16, eX9_as_17, eX9_as_18, eX9_as_21, eX9_as_24, eX9_as_26, Option.bind_some, Option.toList_some, Option.toList_none, List.cons_append, List.nil_append, G_o55, G_h55_2, G_r55_2, G_a56, G_l56, G_h55_3, G_r55_3, G_a57, G_l57, G_h55_4, G_r55_4, G_a58, G_l58, G_h55_7, G_r55_7, G_a59, G_l59, G_h55_8, G_r55_8, G_a60, G_l60, G_h55_9, G_r55_9, G_a61, G_l61, G_h55_10, G_r55_10, G_a62, G_l62, G_h55_11, G_r55_11, G_a63, G_l63, G_h55_29, G_r55_29, G_a69, G_l69, G_h55_30, G_r55_30, G_a70, G_l70, qX9_isPlace, qX9_within, o5 0 0 6 (by decide), n3, hpt, eq_false hv, zb_1, if_true, if_false]
set_option maxHeartbeats 1000000 in
theorem op_trace {I : Nat → Nat → Int32} (hI : zInv I) : zOp L xs d 72 151 [] I J := by
  refine ⟨(I 0 5), I, I, J, J, ?_, ?_, hI⟩
  · simp only [nX8_trace, eX8_trace_0, eX8_trace_1, eX8_trace_4, Option.bind_some, Option.toList_some, Option.toList_none, List.cons_append, List.nil_append, G_o0, G_h0_0, G_r0_0, G_h0_1, G_r0_1, G_h0_2, G_r0_2, G_h0_3, G_r0_3, G_h0_4, G_r0_4, G_o10, G_h10_0, G_r10_0, G_h10_1, G_r10_1, G_q11, G_l11, G_o12, G_h12_0, G_r12_0, G_h12_1, G_r12_1, G_a13, G_l13, G_a14, G_l14, G_q1, G_l1]
  · simp only [nX9_trace, eX9_trace_0, eX9_trace_1, eX9_trace_4, Option.bind_some, Option.toList_some, Option.toList_none, List.cons_append, List.nil_append, G_o55, G_h55_2, G_r55_2, G_a56, G_l56, G_h55_3, G_r55_3, G_a57, G_l57, G_h55_4, G_r55_4, G_a58, G_l58, G_h55_7, G_r55_7, G_a59, G_l59, G_h55_8, G_r55_8, G_a60, G_l60, G_h55_9, G_r55_9, G_a61, G_l61, G_h55_10, G_r55_10, G_a62, G_l62, G_h55_11, G_r55_11, G_a63, G_l63, G_h55_29, G_r55_29, G_a69, G_l69, G_h55_30, G_r55_30, G_a70, G_l70]
    rw [hI.1.2.1]
set_option maxHeartbeats 1000000 in
theorem op_fault {I : Nat → Nat → Int32} (hI : zInv I) : zOp L xs d 73 152 [] I J := by
  refine ⟨(I 0 6), I, I, J, J, ?_, ?_, hI⟩
  · simp only [nX8_fault, eX8_fault_0, eX8_fault_1, eX8_fault_4, Option.bind_some, Option.toList_some, Option.toList_none, List.cons_append, List.nil_append, G_o0, G_h0_0, G_r0_0, G_h0_1, G_r0_1, G_h0_2, G_r0_2, G_h0_3, G_r0_3, G_h0_4, G_r0_4, G_o10, G_h10_0, G_r10_0, G_h10_1, G_r10_1, G_q11, G_l11, G_o12, G_h12_0, G_r12_0, G_h12_1, G_r12_1, G_a13, G_l13, G_a14, G_l14, G_q1, G_l1]
  · simp only [nX9_fault, eX9_fault_0, eX9_fault_1, eX9_fault_4, Option.bind_some, Option.toList_some, Option.toList_none, List.cons_append, List.nil_append, G_o55, G_h55_2, G_r55_2, G_a56, G_l56, G_h55_3, G_r55_3, G_a57, G_l57, G_h55_4, G_r55_4, G_a58, G_l58, G_h55_7, G_r55_7, G_a59, G_l59, G_h55_8, G_r55_8, G_a60, G_l60, G_h55_9, G_r55_9, G_a61, G_l61, G_h55_10, G_r55_10, G_a62, G_l62, G_h55_11, G_r55_11, G_a63, G_l63, G_h55_29, G_r55_29, G_a69, G_l69, G_h55_30, G_r55_30, G_a70, G_l70]
    rw [hI.1.1]
set_option maxHeartbeats 1000000 in
theorem op_many {I : Nat → Nat → Int32} (hI : zInv I) (w : Int32) : zOp L xs d 74 153 [.int w] I J := by
  obtain ⟨⟨a1, a2, a3⟩, b, c1, c2, c3, N, ⟨n1, n2, n3, n4, n5, n6⟩, C, r1, r2, r3, r4, r5⟩ := id hI
  have hj : (if nI N - 1 < 0 then 0 else nI N - 1) = nI (N - 1) := zjc n1
  have hm : (if nI N = 0 then 0 else nI N - 1) = nI (N - 1) := zmj n1
  refine ⟨(if w = 0 then nI N else if w = 1 then nI (N - 1) else if w = 2 then I 55 5 else if w = 3 then nI C else -2), I, I, J, J, ?_, ?_, hI⟩
  · simp only [nX8_many, eX8_many_0, eX8_many_1, eX8_many_32, eX8_many_33, eX8_many_36, eX8_many_39, eX8_many_40, eX8_many_41, eX8_many_44, eX8_many_47, eX8_many_48, eX8_many_49, eX8_many_52, eX8_many_55, eX8_many_56, eX8_many_57, eX8_many_60, eX8_many_63, eX8_many_66, eX8_many_67, eX8_many_69, Option.bind_some, Option.toList_some, Option.toList_none, List.cons_append, List.nil_append, G_o0, G_h0_0, G_r0_0, G_h0_1, G_r0_1, G_h0_2, G_r0_2, G_h0_3, G_r0_3, G_h0_4, G_r0_4, G_o10, G_h10_0, G_r10_0, G_h10_1, G_r10_1, G_q11, G_l11, G_o12, G_h12_0, G_r12_0, G_h12_1, G_r12_1, G_a13, G_l13, G_a14, G_l14, G_q1, G_l1, zSw_c, zSw_n, zX_ite, n2, n4, r2, qX0_joinCount, hj, zr_ite]
  · simp only [nX9_many, eX9_many_0, eX9_many_1, eX9_many_4, eX9_many_5, eX9_many_8, eX9_many_11, eX9_many_12, eX9_many_13, eX9_many_16, eX9_many_17, eX9_many_20, eX9_many_23, eX9_many_24, eX9_many_25, eX9_many_28, eX9_many_29, eX9_many_32, eX9_many_35, eX9_many_36, eX9_many_37, eX9_many_40, eX9_many_41, eX9_many_44, eX9_many_47, eX9_many_49, Option.bind_some, Option.toList_some, Option.toList_none, List.cons_append, List.nil_append, G_o55, G_h55_2, G_r55_2, G_a56, G_l56, G_h55_3, G_r55_3, G_a57, G_l57, G_h55_4, G_r55_4, G_a58, G_l58, G_h55_7, G_r55_7, G_a59, G_l59, G_h55_8, G_r55_8, G_a60, G_l60, G_h55_9, G_r55_9, G_a61, G_l61, G_h55_10, G_r55_10, G_a62, G_l62, G_h55_11, G_r55_11, G_a63, G_l63, G_h55_29, G_r55_29, G_a69, G_l69, G_h55_30, G_r55_30, G_a70, G_l70, ne_eq, zi_not, n3, r3, qX9_joins, hm, zr_ite]

end S
