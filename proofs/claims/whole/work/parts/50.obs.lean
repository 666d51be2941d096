set_option maxHeartbeats 1000000 in
theorem fs_split {α : Type} (so : α → Bool) (g : Option α → α → Option α) : ∀ (l : List α) (o : Option α) (c : Nat), l.foldl (fun (s : Option α × Nat) p => if so p = true then (g s.1 p, s.2 + 1) else s) (o, c) = ((l.filter so).foldl g o, c + (l.filter so).length) := by
  intro l
  induction l with
  | nil => intro o c; rfl
  | cons a l ih =>
    intro o c
    rw [List.foldl_cons]
    by_cases h : so a = true
    · rw [if_pos h, ih, List.filter_cons_of_pos h, List.foldl_cons, List.length_cons]
      congr 1
      omega
    · rw [if_neg h, ih, List.filter_cons_of_neg h]
set_option maxHeartbeats 1000000 in
theorem BF_filter {α : Type} {LV : Nat → List α} {p : α → Bool} : ∀ t : Nat, (BF LV t).filter p = BF (fun n => (LV n).filter p) t := by
  intro t
  induction t with
  | zero => rfl
  | succ t ih => rw [BF, List.filter_append, ih]; rfl
set_option maxHeartbeats 1000000 in
theorem filter_sw {α : Type} {p q : α → Bool} {l : List α} : (l.filter p).filter q = (l.filter q).filter p := by
  rw [List.filter_filter, List.filter_filter]
  refine List.filter_congr (fun x _ => Bool.and_comm _ _)
set_option maxHeartbeats 1000000 in
theorem dfs_best {N : Nat} {mn : Int32} {f : Nat → Nat → Int32} {t : Nat} {Q : zPs} {v : List Nat → Int} : (dfs N mn f t Q).foldl (bst v List.length) none = (BF (fun n => lev N mn f n Q) t).foldl (bst v (fun _ => 0)) none :=
  fold_eq v List.length _ _ t (fun n => dfs_filter t n Q)
set_option maxHeartbeats 1000000 in
theorem dfs_seen {N : Nat} {mn : Int32} {f : Nat → Nat → Int32} {t : Nat} {Q : zPs} {so : List Nat → Bool} : (dfs N mn f t Q).foldl (wSn so) (none, 0) = (BF (fun n => lev N mn f n Q) t).foldl (wSm so) (none, 0) := by
  have e1 := fs_split so (bst (fun _ => (0 : Int)) List.length) (dfs N mn f t Q) none 0
  have e2 := fs_split so (bst (fun _ => (0 : Int)) (fun _ => 0)) (BF (fun n => lev N mn f n Q) t) none 0
  have hl : ∀ n, ((dfs N mn f t Q).filter so).filter (fun p => decide (p.length = n)) = if n ≤ t then (lev N mn f n Q).filter so else [] := fun n => by
    rw [filter_sw, dfs_filter]
    by_cases h : n ≤ t
    · rw [if_pos h, if_pos h]
    · rw [if_neg h, if_neg h]; rfl
  have e3 := fold_eq (fun _ => (0 : Int)) List.length ((dfs N mn f t Q).filter so) (fun n => (lev N mn f n Q).filter so) t hl
  have e4 : ((dfs N mn f t Q).filter so).length = ((BF (fun n => lev N mn f n Q) t).filter so).length := by
    have c := cnt_eq List.length ((dfs N mn f t Q).filter so) t
    rw [BF_congr (fun n hn => by rw [hl n, if_pos hn]), ← BF_filter] at c
    rw [c]
    congr 1
    symm
    rw [List.filter_eq_self]
    intro p hp
    exact decide_eq_true (dfs_len (List.mem_filter.mp hp).1)
  rw [← BF_filter] at e3
  rw [e3, e4] at e1
  exact e1.trans e2.symm
set_option maxHeartbeats 1000000 in
theorem dfs_some {N : Nat} {mn : Int32} {f : Nat → Nat → Int32} {t : Nat} {Q : zPs} {v : List Nat → Int} {ln : List Nat → Nat} : ∃ y, (dfs N mn f t Q).foldl (bst v ln) none = some y := by
  have key : ∀ l : List (List Nat), ∃ y, (([] : List Nat) :: l).foldl (bst v ln) none = some y := fun l => by
    obtain ⟨m1, z, m2, -, h, -⟩ := bst_char v ln l [] [] [] (fun y hy => by simp at hy) (fun y hy => by simp at hy)
    exact ⟨z, h⟩
  cases t with
  | zero => exact key []
  | succ t => exact key _
set_option maxHeartbeats 1000000 in
theorem dgl_lt {S : Nat} (hS : 0 < S) : ∀ (n x a : Nat), a ∈ dgl S n x → a < S := by
  intro n
  induction n with
  | zero => intro x a h; simp [dgl] at h
  | succ n ih =>
    intro x a h
    rw [dgl, List.mem_cons] at h
    rcases h with rfl | h
    · exact Nat.mod_lt _ hS
    · exact ih x a h
set_option maxHeartbeats 1000000 in
theorem pl_ok {N n x s : Nat} (h6 : N ≤ 6) (h : s ∈ pl N n x) : pOk N s := by
  rw [pl, List.mem_map] at h
  obtain ⟨a, ha, rfl⟩ := h
  exact stl_ok h6 (dgl_lt (by omega) _ _ _ ha)
set_option maxHeartbeats 1000000 in
theorem endQ_eq {N : Nat} {f : Nat → Nat → Int32} (h6 : N ≤ 6) (hk : pKd N f) : ∀ (p : List Nat) (P Q : zPs), pEq N P Q → (∀ s, s ∈ p → pOk N s) → ∃ P', pEq N P' (endQ N f Q p) := by
  intro p
  induction p with
  | nil => intro P Q h _; exact ⟨P, h⟩
  | cons s p ih =>
    intro P Q h hs
    exact ih _ _ (h.stp h6 (hs s (by simp)) hk).1 (fun s hs' => hs s (by simp [hs']))
set_option maxHeartbeats 1000000 in
theorem pSo_congr {S a v a' v' : Nat → Int32} {C : Nat} (h : ∀ q, q < C → a q = a' q ∧ v q = v' q) : ∀ (r k : Nat), k + r = C → pSo S a v k r = pSo S a' v' k r := by
  intro r
  induction r with
  | zero => intro k _; rfl
  | succ r ih =>
    intro k hk
    obtain ⟨e1, e2⟩ := h k (by omega)
    simp only [pSo]
    rw [ih (k + 1) (by omega), e1, e2]
set_option maxHeartbeats 1000000 in
theorem inv_se {I I1 I2 : Nat → Nat → Int32} (hI : zInv I) (h1 : ∀ c, c < 27 ∨ 55 ≤ c → I1 c = I c) (h2 : mFr I1 I2) : zInv I2 := by
  have o : ∀ c, (c < 27 ∨ 56 ≤ c) → (c < 65 ∨ 68 < c) → I2 c = I c := fun c a b => by rw [h2.1 c (by omega) b, h1 c (by omega)]
  have o5 : ∀ k, k ≠ 16 → k ≠ 17 → k ≠ 21 → k ≠ 23 → k ≠ 25 → k ≠ 26 → I2 55 k = I 55 k := fun k a b c e f g => by rw [h2.2 k a b c e f g, h1 55 (by decide)]
  refine hI.keep (fun c hc => o c (by omega) (by omega)) ?_ ?_ ?_ ?_ ?_ ?_
  · rw [o 0 (by decide) (by decide), o5 0 (by decide) (by decide) (by decide) (by decide) (by decide) (by decide)]; exact hI.1.1
  · rw [o 0 (by decide) (by decide), o5 1 (by decide) (by decide) (by decide) (by decide) (by decide) (by decide)]; exact hI.1.2.1
  · exact o5 5 (by decide) (by decide) (by decide) (by decide) (by decide) (by decide)
  · exact o5 6 (by decide) (by decide) (by decide) (by decide) (by decide) (by decide)
  · exact o5 22 (by decide) (by decide) (by decide) (by decide) (by decide) (by decide)
  · exact o5 28 (by decide) (by decide) (by decide) (by decide) (by decide) (by decide)
set_option maxHeartbeats 1000000 in
theorem in3 {x : Int32} : (0 ≤ x ∧ x ≤ 2) ↔ (0 ≤ x ∧ x < 3) := by
  constructor <;> intro h <;> grind
set_option maxHeartbeats 1000000 in
theorem in4 {x : Int32} : (-1 ≤ x ∧ x ≤ 2) ↔ (-1 ≤ x ∧ x < 3) := by
  constructor <;> intro h <;> grind
section S
variable {L : Nat} {xs : Nat → Int32} {d : Nat} {J : Nat → Nat → Int64}
set_option maxHeartbeats 1000000 in
theorem op_best {I : Nat → Nat → Int32} (hI : zInv I) (n q : Int32) : zOp L xs (d + 5) 56 131 [.int n, .int q] I J := by
  obtain ⟨⟨a1, a2, a3⟩, b, c1, c2, c3, N, ⟨n1, n2, n3, n4, n5, n6⟩, C, r1, r2, r3, r4, r5⟩ := id hI
  by_cases ha : (0 ≤ n ∧ n ≤ 3) ∧ (0 ≤ q ∧ q < 3)
  case neg =>
    refine ⟨(-2), I, I, J, J, ?_, ?_, hI⟩
    · by_cases g1 : n < 0
      · simp only [nX8_best, eX8_best_0, eX8_best_1, eX8_best_4, eX8_best_5, eX8_best_6, eX8_best_9, eX8_best_10, eX8_best_13, eX8_best_14, eX8_best_15, eX8_best_18, eX8_best_20, Option.bind_some, Option.toList_some, Option.toList_none, List.cons_append, List.nil_append, G_o0, G_h0_0, G_r0_0, G_h0_1, G_r0_1, G_h0_2, G_r0_2, G_h0_3, G_r0_3, G_h0_4, G_r0_4, G_o10, G_h10_0, G_r10_0, G_h10_1, G_r10_1, G_q11, G_l11, G_o12, G_h12_0, G_r12_0, G_h12_1, G_r12_1, G_a13, G_l13, G_a14, G_l14, G_q1, G_l1, eq_true g1, if_true]
      by_cases g2 : 3 < n
      · simp only [nX8_best, eX8_best_0, eX8_best_1, eX8_best_4, eX8_best_5, eX8_best_6, eX8_best_9, eX8_best_10, eX8_best_13, eX8_best_14, eX8_best_15, eX8_best_18, eX8_best_20, Option.bind_some, Option.toList_some, Option.toList_none, List.cons_append, List.nil_append, G_o0, G_h0_0, G_r0_0, G_h0_1, G_r0_1, G_h0_2, G_r0_2, G_h0_3, G_r0_3, G_h0_4, G_r0_4, G_o10, G_h10_0, G_r10_0, G_h10_1, G_r10_1, G_q11, G_l11, G_o12, G_h12_0, G_r12_0, G_h12_1, G_r12_1, G_a13, G_l13, G_a14, G_l14, G_q1, G_l1, eq_false g1, eq_true g2, if_true, if_false]
      by_cases g3 : q < 0
      · simp only [nX8_best, eX8_best_0, eX8_best_1, eX8_best_4, eX8_best_5, eX8_best_6, eX8_best_9, eX8_best_10, eX8_best_13, eX8_best_14, eX8_best_15, eX8_best_18, eX8_best_20, Option.bind_some, Option.toList_some, Option.toList_none, List.cons_append, List.nil_append, G_o0, G_h0_0, G_r0_0, G_h0_1, G_r0_1, G_h0_2, G_r0_2, G_h0_3, G_r0_3, G_h0_4, G_r0_4, G_o10, G_h10_0, G_r10_0, G_h10_1, G_r10_1, G_q11, G_l11, G_o12, G_h12_0, G_r12_0, G_h12_1, G_r12_1, G_a13, G_l13, G_a14, G_l14, G_q1, G_l1, eq_false g1, eq_false g2, eq_true g3, if_true, if_false]
      have g4 : ¬ q < 3 := fun x => ha ⟨by grind, by grind, x⟩
      simp only [nX8_best, eX8_best_0, eX8_best_1, eX8_best_4, eX8_best_5, eX8_best_6, eX8_best_9, eX8_best_10, eX8_best_13, eX8_best_14, eX8_best_15, eX8_best_18, eX8_best_20, Option.bind_some, Option.toList_some, Option.toList_none, List.cons_append, List.nil_append, G_o0, G_h0_0, G_r0_0, G_h0_1, G_r0_1, G_h0_2, G_r0_2, G_h0_3, G_r0_3, G_h0_4, G_r0_4, G_o10, G_h10_0, G_r10_0, G_h10_1, G_r10_1, G_q11, G_l11, G_o12, G_h12_0, G_r12_0, G_h12_1, G_r12_1, G_a13, G_l13, G_a14, G_l14, G_q1, G_l1, eq_false g1, eq_false g2, eq_false g3, eq_false g4, if_true, if_false]
    · by_cases g1 : 0 ≤ n ∧ n ≤ 3
      · have g2 : ¬ (0 ≤ q ∧ q ≤ 2) := fun x => ha ⟨g1, in3.mp x⟩
        simp only [nX9_best, eX9_best_0, eX9_best_1, eX9_best_2, eX9_best_3, eX9_best_6, eX9_best_9, eX9_best_10, eX9_best_11, eX9_best_12, eX9_best_15, eX9_best_18, eX9_best_20, Option.bind_some, Option.toList_some, Option.toList_none, List.cons_append, List.nil_append, G_o55, G_h55_2, G_r55_2, G_a56, G_l56, G_h55_3, G_r55_3, G_a57, G_l57, G_h55_4, G_r55_4, G_a58, G_l58, G_h55_7, G_r55_7, G_a59, G_l59, G_h55_8, G_r55_8, G_a60, G_l60, G_h55_9, G_r55_9, G_a61, G_l61, G_h55_10, G_r55_10, G_a62, G_l62, G_h55_11, G_r55_11, G_a63, G_l63, G_h55_29, G_r55_29, G_a69, G_l69, G_h55_30, G_r55_30, G_a70, G_l70, qX9_within, eq_true g1, eq_false g2, zb_0, zb_1, not_true_eq_false, if_false]
      · simp only [nX9_best, eX9_best_0, eX9_best_1, eX9_best_2, eX9_best_3, eX9_best_6, eX9_best_9, eX9_best_10, eX9_best_11, eX9_best_12, eX9_best_15, eX9_best_18, eX9_best_20, Option.bind_some, Option.toList_some, Option.toList_none, List.cons_append, List.nil_append, G_o55, G_h55_2, G_r55_2, G_a56, G_l56, G_h55_3, G_r55_3, G_a57, G_l57, G_h55_4, G_r55_4, G_a58, G_l58, G_h55_7, G_r55_7, G_a59, G_l59, G_h55_8, G_r55_8, G_a60, G_l60, G_h55_9, G_r55_9, G_a61, G_l61, G_h55_10, G_r55_10, G_a62, G_l62, G_h55_11, G_r55_11, G_a63, G_l63, G_h55_29, G_r55_29, G_a69, G_l69, G_h55_30, G_r55_30, G_a70, G_l70, qX9_within, eq_false g1, zb_0, not_false_eq_true, if_true]
  have g1 : (n < 0) = False := eq_false (by grind)
  have g2 : (3 < n) = False := eq_false (by grind)
  have g3 : (q < 0) = False := eq_false (by grind)
  have g4 : (q < 3) = True := eq_true ha.2.2
  have w1 := eq_true ha.1
  have w2 := eq_true (in3.mpr ha.2)
  by_cases h0 : N = 0
  · have e1 : I 10 2 = 0 := by rw [n2, h0]; rfl
    have e2 : I 55 6 = 0 := by rw [n3, h0]; rfl
    refine ⟨(-3), I, I, J, J, ?_, ?_, hI⟩
    · simp only [nX8_best, eX8_best_0, eX8_best_1, eX8_best_4, eX8_best_5, eX8_best_6, eX8_best_9, eX8_best_10, eX8_best_13, eX8_best_14, eX8_best_15, eX8_best_18, eX8_best_20, eX8_best_21, eX8_best_22, eX8_best_25, eX8_best_28, eX8_best_31, eX8_best_33, Option.bind_some, Option.toList_some, Option.toList_none, List.cons_append, List.nil_append, G_o0, G_h0_0, G_r0_0, G_h0_1, G_r0_1, G_h0_2, G_r0_2, G_h0_3, G_r0_3, G_h0_4, G_r0_4, G_o10, G_h10_0, G_r10_0, G_h10_1, G_r10_1, G_q11, G_l11, G_o12, G_h12_0, G_r12_0, G_h12_1, G_r12_1, G_a13, G_l13, G_a14, G_l14, G_q1, G_l1, g1, g2, g3, g4, if_true, if_false, qX0_isMissing, eq_true e1, zb_0, not_true_eq_false]
    · simp only [nX9_best, eX9_best_0, eX9_best_1, eX9_best_2, eX9_best_3, eX9_best_6, eX9_best_9, eX9_best_10, eX9_best_11, eX9_best_12, eX9_best_15, eX9_best_18, eX9_best_20, eX9_best_21, eX9_best_22, eX9_best_25, eX9_best_28, eX9_best_30, Option.bind_some, Option.toList_some, Option.toList_none, List.cons_append, List.nil_append, G_o55, G_h55_2, G_r55_2, G_a56, G_l56, G_h55_3, G_r55_3, G_a57, G_l57, G_h55_4, G_r55_4, G_a58, G_l58, G_h55_7, G_r55_7, G_a59, G_l59, G_h55_8, G_r55_8, G_a60, G_l60, G_h55_9, G_r55_9, G_a61, G_l61, G_h55_10, G_r55_10, G_a62, G_l62, G_h55_11, G_r55_11, G_a63, G_l63, G_h55_29, G_r55_29, G_a69, G_l69, G_h55_30, G_r55_30, G_a70, G_l70, qX9_within, w1, w2, zb_0, zb_1, not_true_eq_false, not_false_eq_true, if_true, if_false, eq_true e2, ne_eq]
  have e1 : ¬ I 10 2 = 0 := fun e => h0 ((nI_eq (a := N) (b := 0) (by omega) (by omega)).mp (n2.symm.trans e))
  have e2 : ¬ I 55 6 = 0 := fun e => h0 ((nI_eq (a := N) (b := 0) (by omega) (by omega)).mp (n3.symm.trans e))
  obtain ⟨m, hm, rfl⟩ := zIdl (n := 3) ha.1.1 ha.1.2 (by decide)
  obtain ⟨p, hp, rfl⟩ := zIdx (n := 3) ha.2.1 ha.2.2 (by decide)
  have hF := hI.F
  have hkd : pKd N (mF I) := fun k hk => by
    rw [← hF]
    simp only [cF, if_pos (show k < 6 by omega)]
    exact (c3 k (by omega)).1
  have h60 : ∀ k, k < N → I (k + 15) 1 = I 60 k ∧ (0 ≤ I 60 k ∧ I 60 k ≤ 10) := fun k hk => by
    have e : I (k + 15) 1 = I 60 k := c2 k 1 (by omega) (by decide)
    have := (c3 k (by omega)).2.1
    rw [e] at this
    exact ⟨e, this⟩
  obtain ⟨I1, J1, y1, y2, y3⟩ := qX5_lookForBest (L := L) (xs := xs) (J := J) (I := I) (d0 := d + 5 - m) (N := N) (n := m) (r := I 60) n2 n1 (by rw [hF]; exact hkd) hm h60
  rw [show d + 5 - m + m = d + 5 by omega] at y1
  rw [hF, n4, dfs_best] at y3
  have i55 : I1 55 = I 55 := y2 55 (by decide)
  have eF1 : mF I1 = mF I := by
    funext k j
    simp only [mF]
    split
    · rw [y2 (j + 59) (by omega)]
    · rfl
  have i60 : I1 60 = I 60 := y2 60 (by decide)
  have hB : mBase I1 N := ⟨by rw [i55]; exact n3, ⟨by omega, n1⟩, by rw [i55]; exact a3, by rw [eF1]; exact hkd, by rw [i60]; exact fun k hk => (h60 k hk).2⟩
  obtain ⟨I2, J2, z1, z2, z3⟩ := qX9_findBest (L := L) (xs := xs) (d := d + 5) (J := J1) hB hm
  rw [eF1, i55, i60] at z3
  obtain ⟨y, ey⟩ := dfs_some (N := N) (mn := I 55 5) (f := mF I) (t := m) (Q := bQ (I 60)) (v := vI N (mF I) (bQ (I 60))) (ln := List.length)
  rw [dfs_best] at ey
  rw [ey] at y3 z3
  obtain ⟨-, kp⟩ := y3
  obtain ⟨n', x', q1, q2, q3, q4, q5, q6⟩ := z3
  obtain ⟨I3, u1, u2, u3, u4, -⟩ := qX9_goesRow (L := L) (xs := xs) (d := d + 5) (J := J2) (I := I2) (N := N) (n := n') (x := x') (hB.fr z2) q2 q3
  have ks := qX5_keptStep (L := L) (xs := xs) (d := d + 5) (J := J1) (I := I1) (o := some y) hp kp
  have f3 : mFr I1 I3 := z2.trans ⟨u2, fun k a b c e _ _ => u3 k a b c e⟩
  refine ⟨(kAns (some y) p), I1, I3, J1, J2, ?_, ?_, inv_se hI y2 f3⟩
  · simp only [nX8_best, eX8_best_0, eX8_best_1, eX8_best_4, eX8_best_5, eX8_best_6, eX8_best_9, eX8_best_10, eX8_best_13, eX8_best_14, eX8_best_15, eX8_best_18, eX8_best_20, eX8_best_21, eX8_best_22, eX8_best_25, eX8_best_28, eX8_best_31, eX8_best_33, eX8_best_34, eX8_best_35, eX8_best_38, eX8_best_39, eX8_best_42, eX8_best_43, eX8_best_46, eX8_best_47, eX8_best_50, eX8_best_51, eX8_best_54, Option.bind_some, Option.toList_some, Option.toList_none, List.cons_append, List.nil_append, G_o0, G_h0_0, G_r0_0, G_h0_1, G_r0_1, G_h0_2, G_r0_2, G_h0_3, G_r0_3, G_h0_4, G_r0_4, G_o10, G_h10_0, G_r10_0, G_h10_1, G_r10_1, G_q11, G_l11, G_o12, G_h12_0, G_r12_0, G_h12_1, G_r12_1, G_a13, G_l13, G_a14, G_l14, G_q1, G_l1, g1, g2, g3, g4, if_true, if_false, qX0_isMissing, eq_false e1, zb_0, not_false_eq_true, G_o27, y1, ks]
  · have u25 : I3 55 25 = nI n' := by rw [u3 25 (by decide) (by decide) (by decide) (by decide)]; exact q4
    have el : (nI n' ≤ nI p) = (n' ≤ p) := zle (by omega) (by omega)
    have yl : y.length = n' := by rw [q1, pl_len]
    by_cases hl : p < n'
    · have ek : kAns (some y) p = I3 68 p := by rw [u4 p hl, ← q1]; exact if_pos (by omega)
      rw [ek]
      simp only [nX9_best, eX9_best_0, eX9_best_1, eX9_best_2, eX9_best_3, eX9_best_6, eX9_best_9, eX9_best_10, eX9_best_11, eX9_best_12, eX9_best_15, eX9_best_18, eX9_best_20, eX9_best_21, eX9_best_22, eX9_best_25, eX9_best_28, eX9_best_30, eX9_best_31, eX9_best_32, eX9_best_33, eX9_best_36, eX9_best_37, eX9_best_38, eX9_best_41, eX9_best_42, eX9_best_45, eX9_best_48, eX9_best_49, eX9_best_50, eX9_best_51, eX9_best_54, eX9_best_57, eX9_best_58, eX9_best_61, eX9_best_62, eX9_best_63, eX9_best_66, eX9_best_68, Option.bind_some, Option.toList_some, Option.toList_none, List.cons_append, List.nil_append, G_o55, G_h55_2, G_r55_2, G_a56, G_l56, G_h55_3, G_r55_3, G_a57, G_l57, G_h55_4, G_r55_4, G_a58, G_l58, G_h55_7, G_r55_7, G_a59, G_l59, G_h55_8, G_r55_8, G_a60, G_l60, G_h55_9, G_r55_9, G_a61, G_l61, G_h55_10, G_r55_10, G_a62, G_l62, G_h55_11, G_r55_11, G_a63, G_l63, G_h55_29, G_r55_29, G_a69, G_l69, G_h55_30, G_r55_30, G_a70, G_l70, G_h55_24, G_r55_24, G_a68, G_l68, qX9_within, w1, w2, zb_0, zb_1, not_true_eq_false, if_true, if_false, i55, eq_false e2, ne_eq, not_false_eq_true, z1, q4, q5, u1, u25, el, eq_false (show ¬ n' ≤ p by omega), zIn_20 (show p < 20 by omega), zc_n (show p ≤ 1000 by omega)]
    · have ek : kAns (some y) p = -9 := if_neg (by omega)
      rw [ek]
      simp only [nX9_best, eX9_best_0, eX9_best_1, eX9_best_2, eX9_best_3, eX9_best_6, eX9_best_9, eX9_best_10, eX9_best_11, eX9_best_12, eX9_best_15, eX9_best_18, eX9_best_20, eX9_best_21, eX9_best_22, eX9_best_25, eX9_best_28, eX9_best_30, eX9_best_31, eX9_best_32, eX9_best_33, eX9_best_36, eX9_best_37, eX9_best_38, eX9_best_41, eX9_best_42, eX9_best_45, eX9_best_48, eX9_best_49, eX9_best_50, eX9_best_51, eX9_best_54, eX9_best_57, eX9_best_58, eX9_best_61, eX9_best_62, eX9_best_63, eX9_best_66, eX9_best_68, Option.bind_some, Option.toList_some, Option.toList_none, List.cons_append, List.nil_append, G_o55, G_h55_2, G_r55_2, G_a56, G_l56, G_h55_3, G_r55_3, G_a57, G_l57, G_h55_4, G_r55_4, G_a58, G_l58, G_h55_7, G_r55_7, G_a59, G_l59, G_h55_8, G_r55_8, G_a60, G_l60, G_h55_9, G_r55_9, G_a61, G_l61, G_h55_10, G_r55_10, G_a62, G_l62, G_h55_11, G_r55_11, G_a63, G_l63, G_h55_29, G_r55_29, G_a69, G_l69, G_h55_30, G_r55_30, G_a70, G_l70, G_h55_24, G_r55_24, G_a68, G_l68, qX9_within, w1, w2, zb_0, zb_1, not_true_eq_false, if_true, if_false, i55, eq_false e2, ne_eq, not_false_eq_true, z1, q4, q5, u1, u25, el, eq_true (show n' ≤ p by omega)]
set_option maxHeartbeats 1000000 in
theorem op_top {I : Nat → Nat → Int32} (hI : zInv I) (n w : Int32) : zOpL L xs (d + 5) 57 132 [.int n, .int w] I J := by
  obtain ⟨⟨a1, a2, a3⟩, b, c1, c2, c3, N, ⟨n1, n2, n3, n4, n5, n6⟩, C, r1, r2, r3, r4, r5⟩ := id hI
  by_cases ha : 0 ≤ n ∧ n ≤ 3
  case neg =>
    refine ⟨(-9223372036854775808), I, I, J, J, ?_, ?_, hI⟩
    · by_cases g1 : n < 0
      · simp only [nX8_top, eX8_top_0, eX8_top_1, eX8_top_4, eX8_top_5, eX8_top_6, eX8_top_9, eX8_top_10, eX8_top_13, eX8_top_16, eX8_top_17, eX8_top_20, eX8_top_23, eX8_top_26, eX8_top_29, Option.bind_some, Option.toList_some, Option.toList_none, List.cons_append, List.nil_append, G_o0, G_h0_0, G_r0_0, G_h0_1, G_r0_1, G_h0_2, G_r0_2, G_h0_3, G_r0_3, G_h0_4, G_r0_4, G_o10, G_h10_0, G_r10_0, G_h10_1, G_r10_1, G_q11, G_l11, G_o12, G_h12_0, G_r12_0, G_h12_1, G_r12_1, G_a13, G_l13, G_a14, G_l14, G_q1, G_l1, eq_true g1, if_true]
      have g2 : 3 < n := by grind
      simp only [nX8_top, eX8_top_0, eX8_top_1, eX8_top_4, eX8_top_5, eX8_top_6, eX8_top_9, eX8_top_10, eX8_top_13, eX8_top_16, eX8_top_17, eX8_top_20, eX8_top_23, eX8_top_26, eX8_top_29, Option.bind_some, Option.toList_some, Option.toList_none, List.cons_append, List.nil_append, G_o0, G_h0_0, G_r0_0, G_h0_1, G_r0_1, G_h0_2, G_r0_2, G_h0_3, G_r0_3, G_h0_4, G_r0_4, G_o10, G_h10_0, G_r10_0, G_h10_1, G_r10_1, G_q11, G_l11, G_o12, G_h12_0, G_r12_0, G_h12_1, G_r12_1, G_a13, G_l13, G_a14, G_l14, G_q1, G_l1, eq_false g1, eq_true g2, if_true, if_false]
    · simp only [nX9_top, eX9_top_0, eX9_top_1, eX9_top_2, eX9_top_3, eX9_top_6, eX9_top_9, eX9_top_10, eX9_top_11, eX9_top_12, eX9_top_15, eX9_top_18, eX9_top_19, eX9_top_22, eX9_top_25, eX9_top_28, Option.bind_some, Option.toList_some, Option.toList_none, List.cons_append, List.nil_append, G_o55, G_h55_2, G_r55_2, G_a56, G_l56, G_h55_3, G_r55_3, G_a57, G_l57, G_h55_4, G_r55_4, G_a58, G_l58, G_h55_7, G_r55_7, G_a59, G_l59, G_h55_8, G_r55_8, G_a60, G_l60, G_h55_9, G_r55_9, G_a61, G_l61, G_h55_10, G_r55_10, G_a62, G_l62, G_h55_11, G_r55_11, G_a63, G_l63, G_h55_29, G_r55_29, G_a69, G_l69, G_h55_30, G_r55_30, G_a70, G_l70, qX9_within, eq_false ha, zb_0, not_false_eq_true, if_true]
  have g1 : (n < 0) = False := eq_false (by grind)
  have g2 : (3 < n) = False := eq_false (by grind)
  have w1 := eq_true ha
  by_cases hw : w = 0 ∨ w = 1
  case neg =>
    have hwm := eq_false (fun x => hw (hs_iff.mpr x))
    refine ⟨(-9223372036854775808), I, I, J, J, ?_, ?_, hI⟩
    · simp only [nX8_top, eX8_top_0, eX8_top_1, eX8_top_4, eX8_top_5, eX8_top_6, eX8_top_9, eX8_top_10, eX8_top_13, eX8_top_16, eX8_top_17, eX8_top_20, eX8_top_23, eX8_top_26, eX8_top_29, Option.bind_some, Option.toList_some, Option.toList_none, List.cons_append, List.nil_append, G_o0, G_h0_0, G_r0_0, G_h0_1, G_r0_1, G_h0_2, G_r0_2, G_h0_3, G_r0_3, G_h0_4, G_r0_4, G_o10, G_h10_0, G_r10_0, G_h10_1, G_r10_1, G_q11, G_l11, G_o12, G_h12_0, G_r12_0, G_h12_1, G_r12_1, G_a13, G_l13, G_a14, G_l14, G_q1, G_l1, g1, g2, qX8_isHalfOfShare, eq_false hw, zb_0, not_false_eq_true, if_true, if_false]
    · simp only [nX9_top, eX9_top_0, eX9_top_1, eX9_top_2, eX9_top_3, eX9_top_6, eX9_top_9, eX9_top_10, eX9_top_11, eX9_top_12, eX9_top_15, eX9_top_18, eX9_top_19, eX9_top_22, eX9_top_25, eX9_top_28, Option.bind_some, Option.toList_some, Option.toList_none, List.cons_append, List.nil_append, G_o55, G_h55_2, G_r55_2, G_a56, G_l56, G_h55_3, G_r55_3, G_a57, G_l57, G_h55_4, G_r55_4, G_a58, G_l58, G_h55_7, G_r55_7, G_a59, G_l59, G_h55_8, G_r55_8, G_a60, G_l60, G_h55_9, G_r55_9, G_a61, G_l61, G_h55_10, G_r55_10, G_a62, G_l62, G_h55_11, G_r55_11, G_a63, G_l63, G_h55_29, G_r55_29, G_a69, G_l69, G_h55_30, G_r55_30, G_a70, G_l70, qX9_within, w1, hwm, zb_0, not_true_eq_false, not_false_eq_true, if_true, if_false]
  have hwt := eq_true hw
  have hwm := eq_true (hs_iff.mp hw)
  by_cases h0 : N = 0
  · have e1 : I 10 2 = 0 := by rw [n2, h0]; rfl
    have e2 : I 55 6 = 0 := by rw [n3, h0]; rfl
    refine ⟨(-9223372036854775808), I, I, J, J, ?_, ?_, hI⟩
    · simp only [nX8_top, eX8_top_0, eX8_top_1, eX8_top_4, eX8_top_5, eX8_top_6, eX8_top_9, eX8_top_10, eX8_top_13, eX8_top_16, eX8_top_17, eX8_top_20, eX8_top_23, eX8_top_26, eX8_top_29, Option.bind_some, Option.toList_some, Option.toList_none, List.cons_append, List.nil_append, G_o0, G_h0_0, G_r0_0, G_h0_1, G_r0_1, G_h0_2, G_r0_2, G_h0_3, G_r0_3, G_h0_4, G_r0_4, G_o10, G_h10_0, G_r10_0, G_h10_1, G_r10_1, G_q11, G_l11, G_o12, G_h12_0, G_r12_0, G_h12_1, G_r12_1, G_a13, G_l13, G_a14, G_l14, G_q1, G_l1, g1, g2, qX8_isHalfOfShare, hwt, zb_0, not_true_eq_false, if_true, if_false, qX0_isMissing, eq_true e1]
    · simp only [nX9_top, eX9_top_0, eX9_top_1, eX9_top_2, eX9_top_3, eX9_top_6, eX9_top_9, eX9_top_10, eX9_top_11, eX9_top_12, eX9_top_15, eX9_top_18, eX9_top_19, eX9_top_22, eX9_top_25, eX9_top_28, Option.bind_some, Option.toList_some, Option.toList_none, List.cons_append, List.nil_append, G_o55, G_h55_2, G_r55_2, G_a56, G_l56, G_h55_3, G_r55_3, G_a57, G_l57, G_h55_4, G_r55_4, G_a58, G_l58, G_h55_7, G_r55_7, G_a59, G_l59, G_h55_8, G_r55_8, G_a60, G_l60, G_h55_9, G_r55_9, G_a61, G_l61, G_h55_10, G_r55_10, G_a62, G_l62, G_h55_11, G_r55_11, G_a63, G_l63, G_h55_29, G_r55_29, G_a69, G_l69, G_h55_30, G_r55_30, G_a70, G_l70, qX9_within, w1, hwm, zb_0, not_true_eq_false, if_true, if_false, eq_true e2, ne_eq]
  have e1 : ¬ I 10 2 = 0 := fun e => h0 ((nI_eq (a := N) (b := 0) (by omega) (by omega)).mp (n2.symm.trans e))
  have e2 : ¬ I 55 6 = 0 := fun e => h0 ((nI_eq (a := N) (b := 0) (by omega) (by omega)).mp (n3.symm.trans e))
  obtain ⟨m, hm, rfl⟩ := zIdl (n := 3) ha.1 ha.2 (by decide)
  have hF := hI.F
  have hkd : pKd N (mF I) := fun k hk => by
    rw [← hF]
    simp only [cF, if_pos (show k < 6 by omega)]
    exact (c3 k (by omega)).1
  have h60 : ∀ k, k < N → I (k + 15) 1 = I 60 k ∧ (0 ≤ I 60 k ∧ I 60 k ≤ 10) := fun k hk => by
    have e : I (k + 15) 1 = I 60 k := c2 k 1 (by omega) (by decide)
    have := (c3 k (by omega)).2.1
    rw [e] at this
    exact ⟨e, this⟩
  obtain ⟨I1, J1, y1, y2, y3⟩ := qX5_lookForBest (L := L) (xs := xs) (J := J) (I := I) (d0 := d + 5 - m) (N := N) (n := m) (r := I 60) n2 n1 (by rw [hF]; exact hkd) hm h60
  rw [show d + 5 - m + m = d + 5 by omega] at y1
  rw [hF, n4, dfs_best] at y3
  have i55 : I1 55 = I 55 := y2 55 (by decide)
  have eF1 : mF I1 = mF I := by
    funext k j
    simp only [mF]
    split
    · rw [y2 (j + 59) (by omega)]
    · rfl
  have i60 : I1 60 = I 60 := y2 60 (by decide)
  have hB : mBase I1 N := ⟨by rw [i55]; exact n3, ⟨by omega, n1⟩, by rw [i55]; exact a3, by rw [eF1]; exact hkd, by rw [i60]; exact fun k hk => (h60 k hk).2⟩
  obtain ⟨I2, J2, z1, z2, z3⟩ := qX9_findBest (L := L) (xs := xs) (d := d + 5) (J := J1) hB hm
  rw [eF1, i55, i60] at z3
  obtain ⟨y, ey⟩ := dfs_some (N := N) (mn := I 55 5) (f := mF I) (t := m) (Q := bQ (I 60)) (v := vI N (mF I) (bQ (I 60))) (ln := List.length)
  rw [dfs_best] at ey
  rw [ey] at y3 z3
  obtain ⟨mp, -⟩ := y3
  obtain ⟨n', x', q1, q2, q3, q4, q5, q6⟩ := z3
  have hb : pEq N (bQ (I 60)) (bQ (I 60)) := ⟨fun k hk => ⟨rfl, rfl, (h60 k hk).2⟩, fun k hk => ⟨rfl, by simp only [bQ]; decide⟩, rfl, rfl⟩
  obtain ⟨P', hP'⟩ := endQ_eq (f := mF I) n1 hkd y (bQ (I 60)) (bQ (I 60)) hb (fun s hs => pl_ok n1 (by rw [← q1]; exact hs))
  obtain ⟨u, hu, eu⟩ := pRt_N n1 hP'
  have ev : v64 N (mF I) (bQ (I 60)) y = lN u := by rw [← eu, hP'.rt]; rfl
  rw [ev] at mp q6
  have t60 := ten_lt (n := N + (N - 1)) (by omega)
  have p1 := qX0_wholeParts (L := L) (xs := xs) (d := d + 5) (J := J1) (I := I1) (N := N) (by rw [y2 10 (by decide)]; exact n2) n1
  have p2 := qX9_parts (L := L) (xs := xs) (d := d + 5) (J := J2) (I := I2) (N := N) (hB.fr z2).1 n1
  rw [ten_N] at p1 p2
  have s1 := qX8_shareOf (L := L) (xs := xs) (d := d + 5) (J := J1) (I := I1) (w := w) (u := u) (l := 10 ^ (N + (N - 1))) (by omega) t60 (Nat.pow_pos (by decide))
  have s2 := qX9_inLeastTerms (L := L) (xs := xs) (d := d + 5) (J := J2) (I := I2) (w := w) (u := u) (l := 10 ^ (N + (N - 1))) (by omega) t60 (Nat.pow_pos (by decide))
  refine ⟨(shr w u (10 ^ (N + (N - 1)))), I1, I2, J1, J2, ?_, ?_, inv_se hI y2 z2⟩
  · simp only [nX8_top, eX8_top_0, eX8_top_1, eX8_top_4, eX8_top_5, eX8_top_6, eX8_top_9, eX8_top_10, eX8_top_13, eX8_top_16, eX8_top_17, eX8_top_20, eX8_top_23, eX8_top_26, eX8_top_29, eX8_top_30, eX8_top_31, eX8_top_34, eX8_top_35, eX8_top_38, eX8_top_39, eX8_top_42, eX8_top_43, eX8_top_46, eX8_top_49, eX8_top_50, eX8_top_53, eX8_top_56, eX8_top_57, eX8_top_60, Option.bind_some, Option.toList_some, Option.toList_none, List.cons_append, List.nil_append, G_o0, G_h0_0, G_r0_0, G_h0_1, G_r0_1, G_h0_2, G_r0_2, G_h0_3, G_r0_3, G_h0_4, G_r0_4, G_o10, G_h10_0, G_r10_0, G_h10_1, G_r10_1, G_q11, G_l11, G_o12, G_h12_0, G_r12_0, G_h12_1, G_r12_1, G_a13, G_l13, G_a14, G_l14, G_q1, G_l1, g1, g2, qX8_isHalfOfShare, hwt, zb_0, not_true_eq_false, not_false_eq_true, if_true, if_false, qX0_isMissing, eq_false e1, G_o27, y1, mp, p1, s1]
  · simp only [nX9_top, eX9_top_0, eX9_top_1, eX9_top_2, eX9_top_3, eX9_top_6, eX9_top_9, eX9_top_10, eX9_top_11, eX9_top_12, eX9_top_15, eX9_top_18, eX9_top_19, eX9_top_22, eX9_top_25, eX9_top_28, eX9_top_29, eX9_top_30, eX9_top_31, eX9_top_34, eX9_top_35, eX9_top_38, eX9_top_39, eX9_top_42, eX9_top_43, eX9_top_46, Option.bind_some, Option.toList_some, Option.toList_none, List.cons_append, List.nil_append, G_o55, G_h55_2, G_r55_2, G_a56, G_l56, G_h55_3, G_r55_3, G_a57, G_l57, G_h55_4, G_r55_4, G_a58, G_l58, G_h55_7, G_r55_7, G_a59, G_l59, G_h55_8, G_r55_8, G_a60, G_l60, G_h55_9, G_r55_9, G_a61, G_l61, G_h55_10, G_r55_10, G_a62, G_l62, G_h55_11, G_r55_11, G_a63, G_l63, G_h55_29, G_r55_29, G_a69, G_l69, G_h55_30, G_r55_30, G_a70, G_l70, qX9_within, w1, hwm, zb_0, not_true_eq_false, if_true, if_false, i55, eq_false e2, ne_eq, not_false_eq_true, z1, q6, p2, s2]
set_option maxHeartbeats 1000000 in
theorem op_plans {I : Nat → Nat → Int32} (hI : zInv I) (n q : Int32) : zOp L xs (d + 5) 62 140 [.int n, .int q] I J := by
  obtain ⟨⟨a1, a2, a3⟩, b, c1, c2, c3, N, ⟨n1, n2, n3, n4, n5, n6⟩, C, r1, r2, r3, r4, r5⟩ := id hI
  by_cases ha : (0 ≤ n ∧ n ≤ 3) ∧ (-1 ≤ q ∧ q < 3)
  case neg =>
    refine ⟨(-2), I, I, J, J, ?_, ?_, hI⟩
    · by_cases g1 : n < 0
      · simp only [nX8_plans, eX8_plans_0, eX8_plans_1, eX8_plans_4, eX8_plans_5, eX8_plans_6, eX8_plans_9, eX8_plans_10, eX8_plans_11, eX8_plans_14, eX8_plans_15, eX8_plans_16, eX8_plans_19, eX8_plans_21, Option.bind_some, Option.toList_some, Option.toList_none, List.cons_append, List.nil_append, G_o0, G_h0_0, G_r0_0, G_h0_1, G_r0_1, G_h0_2, G_r0_2, G_h0_3, G_r0_3, G_h0_4, G_r0_4, G_o10, G_h10_0, G_r10_0, G_h10_1, G_r10_1, G_q11, G_l11, G_o12, G_h12_0, G_r12_0, G_h12_1, G_r12_1, G_a13, G_l13, G_a14, G_l14, G_q1, G_l1, eq_true g1, if_true]
      by_cases g2 : 3 < n
      · simp only [nX8_plans, eX8_plans_0, eX8_plans_1, eX8_plans_4, eX8_plans_5, eX8_plans_6, eX8_plans_9, eX8_plans_10, eX8_plans_11, eX8_plans_14, eX8_plans_15, eX8_plans_16, eX8_plans_19, eX8_plans_21, Option.bind_some, Option.toList_some, Option.toList_none, List.cons_append, List.nil_append, G_o0, G_h0_0, G_r0_0, G_h0_1, G_r0_1, G_h0_2, G_r0_2, G_h0_3, G_r0_3, G_h0_4, G_r0_4, G_o10, G_h10_0, G_r10_0, G_h10_1, G_r10_1, G_q11, G_l11, G_o12, G_h12_0, G_r12_0, G_h12_1, G_r12_1, G_a13, G_l13, G_a14, G_l14, G_q1, G_l1, eq_false g1, eq_true g2, if_true, if_false]
      by_cases g3 : q < -1
      · simp only [nX8_plans, eX8_plans_0, eX8_plans_1, eX8_plans_4, eX8_plans_5, eX8_plans_6, eX8_plans_9, eX8_plans_10, eX8_plans_11, eX8_plans_14, eX8_plans_15, eX8_plans_16, eX8_plans_19, eX8_plans_21, Option.bind_some, Option.toList_some, Option.toList_none, List.cons_append, List.nil_append, G_o0, G_h0_0, G_r0_0, G_h0_1, G_r0_1, G_h0_2, G_r0_2, G_h0_3, G_r0_3, G_h0_4, G_r0_4, G_o10, G_h10_0, G_r10_0, G_h10_1, G_r10_1, G_q11, G_l11, G_o12, G_h12_0, G_r12_0, G_h12_1, G_r12_1, G_a13, G_l13, G_a14, G_l14, G_q1, G_l1, eq_false g1, eq_false g2, eq_true g3, if_true, if_false]
      have g4 : ¬ q < 3 := fun x => ha ⟨by grind, by grind, x⟩
      simp only [nX8_plans, eX8_plans_0, eX8_plans_1, eX8_plans_4, eX8_plans_5, eX8_plans_6, eX8_plans_9, eX8_plans_10, eX8_plans_11, eX8_plans_14, eX8_plans_15, eX8_plans_16, eX8_plans_19, eX8_plans_21, Option.bind_some, Option.toList_some, Option.toList_none, List.cons_append, List.nil_append, G_o0, G_h0_0, G_r0_0, G_h0_1, G_r0_1, G_h0_2, G_r0_2, G_h0_3, G_r0_3, G_h0_4, G_r0_4, G_o10, G_h10_0, G_r10_0, G_h10_1, G_r10_1, G_q11, G_l11, G_o12, G_h12_0, G_r12_0, G_h12_1, G_r12_1, G_a13, G_l13, G_a14, G_l14, G_q1, G_l1, eq_false g1, eq_false g2, eq_false g3, eq_false g4, if_true, if_false]
    · by_cases g1 : 0 ≤ n ∧ n ≤ 3
      · have g2 : ¬ (-1 ≤ q ∧ q ≤ 2) := fun x => ha ⟨g1, in4.mp x⟩
        simp only [nX9_plans, eX9_plans_0, eX9_plans_1, eX9_plans_2, eX9_plans_3, eX9_plans_6, eX9_plans_9, eX9_plans_10, eX9_plans_11, eX9_plans_12, eX9_plans_15, eX9_plans_18, eX9_plans_20, Option.bind_some, Option.toList_some, Option.toList_none, List.cons_append, List.nil_append, G_o55, G_h55_2, G_r55_2, G_a56, G_l56, G_h55_3, G_r55_3, G_a57, G_l57, G_h55_4, G_r55_4, G_a58, G_l58, G_h55_7, G_r55_7, G_a59, G_l59, G_h55_8, G_r55_8, G_a60, G_l60, G_h55_9, G_r55_9, G_a61, G_l61, G_h55_10, G_r55_10, G_a62, G_l62, G_h55_11, G_r55_11, G_a63, G_l63, G_h55_29, G_r55_29, G_a69, G_l69, G_h55_30, G_r55_30, G_a70, G_l70, qX9_within, eq_true g1, eq_false g2, zb_0, zb_1, not_true_eq_false, if_false]
      · simp only [nX9_plans, eX9_plans_0, eX9_plans_1, eX9_plans_2, eX9_plans_3, eX9_plans_6, eX9_plans_9, eX9_plans_10, eX9_plans_11, eX9_plans_12, eX9_plans_15, eX9_plans_18, eX9_plans_20, Option.bind_some, Option.toList_some, Option.toList_none, List.cons_append, List.nil_append, G_o55, G_h55_2, G_r55_2, G_a56, G_l56, G_h55_3, G_r55_3, G_a57, G_l57, G_h55_4, G_r55_4, G_a58, G_l58, G_h55_7, G_r55_7, G_a59, G_l59, G_h55_8, G_r55_8, G_a60, G_l60, G_h55_9, G_r55_9, G_a61, G_l61, G_h55_10, G_r55_10, G_a62, G_l62, G_h55_11, G_r55_11, G_a63, G_l63, G_h55_29, G_r55_29, G_a69, G_l69, G_h55_30, G_r55_30, G_a70, G_l70, qX9_within, eq_false g1, zb_0, not_false_eq_true, if_true]
  have g1 : (n < 0) = False := eq_false (by grind)
  have g2 : (3 < n) = False := eq_false (by grind)
  have g3 : (q < -1) = False := eq_false (by grind)
  have g4 : (q < 3) = True := eq_true ha.2.2
  have w1 := eq_true ha.1
  have w2 := eq_true (in4.mpr ha.2)
  by_cases h0 : N = 0
  · have e1 : I 10 2 = 0 := by rw [n2, h0]; rfl
    have e2 : I 55 6 = 0 := by rw [n3, h0]; rfl
    refine ⟨(-3), I, I, J, J, ?_, ?_, hI⟩
    · simp only [nX8_plans, eX8_plans_0, eX8_plans_1, eX8_plans_4, eX8_plans_5, eX8_plans_6, eX8_plans_9, eX8_plans_10, eX8_plans_11, eX8_plans_14, eX8_plans_15, eX8_plans_16, eX8_plans_19, eX8_plans_21, eX8_plans_22, eX8_plans_23, eX8_plans_26, eX8_plans_29, eX8_plans_32, eX8_plans_34, Option.bind_some, Option.toList_some, Option.toList_none, List.cons_append, List.nil_append, G_o0, G_h0_0, G_r0_0, G_h0_1, G_r0_1, G_h0_2, G_r0_2, G_h0_3, G_r0_3, G_h0_4, G_r0_4, G_o10, G_h10_0, G_r10_0, G_h10_1, G_r10_1, G_q11, G_l11, G_o12, G_h12_0, G_r12_0, G_h12_1, G_r12_1, G_a13, G_l13, G_a14, G_l14, G_q1, G_l1, g1, g2, g3, g4, if_true, if_false, qX0_isMissing, eq_true e1, zb_0, not_true_eq_false]
    · simp only [nX9_plans, eX9_plans_0, eX9_plans_1, eX9_plans_2, eX9_plans_3, eX9_plans_6, eX9_plans_9, eX9_plans_10, eX9_plans_11, eX9_plans_12, eX9_plans_15, eX9_plans_18, eX9_plans_20, eX9_plans_21, eX9_plans_22, eX9_plans_25, eX9_plans_28, eX9_plans_30, Option.bind_some, Option.toList_some, Option.toList_none, List.cons_append, List.nil_append, G_o55, G_h55_2, G_r55_2, G_a56, G_l56, G_h55_3, G_r55_3, G_a57, G_l57, G_h55_4, G_r55_4, G_a58, G_l58, G_h55_7, G_r55_7, G_a59, G_l59, G_h55_8, G_r55_8, G_a60, G_l60, G_h55_9, G_r55_9, G_a61, G_l61, G_h55_10, G_r55_10, G_a62, G_l62, G_h55_11, G_r55_11, G_a63, G_l63, G_h55_29, G_r55_29, G_a69, G_l69, G_h55_30, G_r55_30, G_a70, G_l70, qX9_within, w1, w2, zb_0, zb_1, not_true_eq_false, not_false_eq_true, if_true, if_false, eq_true e2, ne_eq]
  have e1 : ¬ I 10 2 = 0 := fun e => h0 ((nI_eq (a := N) (b := 0) (by omega) (by omega)).mp (n2.symm.trans e))
  have e2 : ¬ I 55 6 = 0 := fun e => h0 ((nI_eq (a := N) (b := 0) (by omega) (by omega)).mp (n3.symm.trans e))
  obtain ⟨m, hm, rfl⟩ := zIdl (n := 3) ha.1.1 ha.1.2 (by decide)
  have hF := hI.F
  have hkd : pKd N (mF I) := fun k hk => by
    rw [← hF]
    simp only [cF, if_pos (show k < 6 by omega)]
    exact (c3 k (by omega)).1
  have h60 : ∀ k, k < N → I (k + 15) 1 = I 60 k ∧ (0 ≤ I 60 k ∧ I 60 k ≤ 10) := fun k hk => by
    have e : I (k + 15) 1 = I 60 k := c2 k 1 (by omega) (by decide)
    have := (c3 k (by omega)).2.1
    rw [e] at this
    exact ⟨e, this⟩
  obtain ⟨I1, J1, y1, y2, y3⟩ := qX5_lookForSeen (L := L) (xs := xs) (J := J) (I := I) (d0 := d + 5 - m) (N := N) (n := m) (C := C) (r := I 60) n2 n1 (by rw [hF]; exact hkd) hm h60 r2 r1 (fun q hq => (r5 q hq).2.2)
  rw [show d + 5 - m + m = d + 5 by omega] at y1
  have eso : soB N (mF I) (bQ (I 60)) (I 13) (I 14) C = soB N (mF I) (bQ (I 60)) (I 69) (I 70) C := by
    funext p
    exact pSo_congr (fun q hq => ⟨(r5 q hq).1, (r5 q hq).2.1⟩) C 0 (by omega)
  rw [hF, n4, eso, dfs_seen] at y3
  have i55 : I1 55 = I 55 := y2 55 (by decide)
  have eF1 : mF I1 = mF I := by
    funext k j
    simp only [mF]
    split
    · rw [y2 (j + 59) (by omega)]
    · rfl
  have i60 : I1 60 = I 60 := y2 60 (by decide)
  have i69 : I1 69 = I 69 := y2 69 (by decide)
  have i70 : I1 70 = I 70 := y2 70 (by decide)
  have hB : mBase I1 N := ⟨by rw [i55]; exact n3, ⟨by omega, n1⟩, by rw [i55]; exact a3, by rw [eF1]; exact hkd, by rw [i60]; exact fun k hk => (h60 k hk).2⟩
  obtain ⟨I2, many, fl, fs, v7, v8, z1, z2, z3⟩ := lp_po (L := L) (xs := xs) (d := d + 5) (J := J1) (q := q) hB hm (by rw [i55]; exact r3) r1 (by rw [i69]; exact fun q hq => by rw [← (r5 q hq).1]; exact (r5 q hq).2.2) (m + 1) 0 .null .null I1 0 0 0 (by omega) mFr.refl ⟨rfl, rfl, rfl, rfl⟩ (Nat.le_refl _)
  rw [← BF_LF, BF_congr (fun n _ => LVn_eq hB.2.1.1 hB.2.1.2), eF1, i55, i60, i69, i70] at z3
  generalize hs : (BF (fun n => lev N (I 55 5) (mF I) n (bQ (I 60))) m).foldl (wSm (soB N (mF I) (bQ (I 60)) (I 69) (I 70) C)) (none, 0) = s at y3 z3
  obtain ⟨t1, t2⟩ := y3
  obtain ⟨t3, t4⟩ := z3
  have pre : zE zCd (zGG L xs) (d + 5) 140 [.ref 55, .int (nI m), .int q] (I1, J1) = zX zCd (zGG L xs) (d + 5) 140 125 [.ref 55, .int (nI m), .int q, .int many, .int fl, .int fs, .int (nI (m + 1)), v7, v8] [] (I2, J1) := by
    simp only [nX9_plans, eX9_plans_0, eX9_plans_1, eX9_plans_2, eX9_plans_3, eX9_plans_6, eX9_plans_9, eX9_plans_10, eX9_plans_11, eX9_plans_12, eX9_plans_15, eX9_plans_18, eX9_plans_20, eX9_plans_21, eX9_plans_22, eX9_plans_25, eX9_plans_28, eX9_plans_30, eX9_plans_31, eX9_plans_32, eX9_plans_33, eX9_plans_34, eX9_plans_36, eX9_plans_37, eX9_plans_39, eX9_plans_40, Option.bind_some, Option.toList_some, Option.toList_none, List.cons_append, List.nil_append, G_o55, G_h55_2, G_r55_2, G_a56, G_l56, G_h55_3, G_r55_3, G_a57, G_l57, G_h55_4, G_r55_4, G_a58, G_l58, G_h55_7, G_r55_7, G_a59, G_l59, G_h55_8, G_r55_8, G_a60, G_l60, G_h55_9, G_r55_9, G_a61, G_l61, G_h55_10, G_r55_10, G_a62, G_l62, G_h55_11, G_r55_11, G_a63, G_l63, G_h55_29, G_r55_29, G_a69, G_l69, G_h55_30, G_r55_30, G_a70, G_l70, G_h55_24, G_r55_24, G_a68, G_l68, qX9_within, w1, w2, zb_0, zb_1, not_true_eq_false, if_true, if_false, i55, eq_false e2, ne_eq, not_false_eq_true]
    exact z1
  by_cases hq : q = -1
  · refine ⟨(nI s.2), I1, I2, J1, J1, ?_, ?_, inv_se hI y2 z2⟩
    · simp only [nX8_plans, eX8_plans_0, eX8_plans_1, eX8_plans_4, eX8_plans_5, eX8_plans_6, eX8_plans_9, eX8_plans_10, eX8_plans_11, eX8_plans_14, eX8_plans_15, eX8_plans_16, eX8_plans_19, eX8_plans_21, eX8_plans_22, eX8_plans_23, eX8_plans_26, eX8_plans_29, eX8_plans_32, eX8_plans_34, eX8_plans_35, eX8_plans_36, eX8_plans_39, eX8_plans_40, eX8_plans_43, eX8_plans_44, eX8_plans_47, eX8_plans_48, eX8_plans_49, eX8_plans_52, eX8_plans_53, eX8_plans_56, eX8_plans_59, eX8_plans_62, eX8_plans_63, eX8_plans_66, eX8_plans_67, eX8_plans_70, Option.bind_some, Option.toList_some, Option.toList_none, List.cons_append, List.nil_append, G_o0, G_h0_0, G_r0_0, G_h0_1, G_r0_1, G_h0_2, G_r0_2, G_h0_3, G_r0_3, G_h0_4, G_r0_4, G_o10, G_h10_0, G_r10_0, G_h10_1, G_r10_1, G_q11, G_l11, G_o12, G_h12_0, G_r12_0, G_h12_1, G_r12_1, G_a13, G_l13, G_a14, G_l14, G_q1, G_l1, g1, g2, g3, g4, if_true, if_false, qX0_isMissing, eq_false e1, zb_0, not_false_eq_true, G_o27, y1, eq_true hq, ne_eq, not_true_eq_false, t1]
    · rw [pre]
      simp only [eX9_plans_125, eX9_plans_126, eX9_plans_127, eX9_plans_130, eX9_plans_131, eq_true hq, ne_eq, not_true_eq_false, if_false, t3]
  · obtain ⟨p, hp, rfl⟩ := zIdx (x := q) (n := 3) (by grind) ha.2.2 (by decide)
    have ks := qX5_keptStep (L := L) (xs := xs) (d := d + 5) (J := J1) (I := I1) (o := s.1) hp t2
    have fin : ∃ (n' x' : Nat), n' ≤ 3 ∧ x' < 1000000 ∧ fl = nI n' ∧ fs = nI x' ∧ kAns s.1 p = if p < n' then nI ((pl N n' x').getD p 0) else -9 := by
      cases ho : s.1 with
      | none =>
        rw [ho] at t4
        obtain ⟨-, q2, q3⟩ : s.2 = 0 ∧ fl = 0 ∧ fs = 0 := t4
        exact ⟨0, 0, by omega, by omega, q2, q3, rfl⟩
      | some y =>
        rw [ho] at t4
        obtain ⟨-, n', x', q1, q2, q3, q4, q5⟩ := t4
        refine ⟨n', x', q2, q3, q4, q5, ?_⟩
        rw [← q1]
        show (if p < y.length then nI (y.getD p 0) else -9) = _
        rw [q1, pl_len]
    obtain ⟨n', x', q2, q3, q4, q5, ek⟩ := fin
    subst q4
    subst q5
    obtain ⟨I3, u1, u2, u3, u4, -⟩ := qX9_goesRow (L := L) (xs := xs) (d := d + 5) (J := J1) (I := I2) (N := N) (n := n') (x := x') (hB.fr z2) q2 q3
    have f3 : mFr I1 I3 := z2.trans ⟨u2, fun k a b c e _ _ => u3 k a b c e⟩
    have el : (nI n' ≤ nI p) = (n' ≤ p) := zle (by omega) (by omega)
    refine ⟨(kAns s.1 p), I1, I3, J1, J1, ?_, ?_, inv_se hI y2 f3⟩
    · simp only [nX8_plans, eX8_plans_0, eX8_plans_1, eX8_plans_4, eX8_plans_5, eX8_plans_6, eX8_plans_9, eX8_plans_10, eX8_plans_11, eX8_plans_14, eX8_plans_15, eX8_plans_16, eX8_plans_19, eX8_plans_21, eX8_plans_22, eX8_plans_23, eX8_plans_26, eX8_plans_29, eX8_plans_32, eX8_plans_34, eX8_plans_35, eX8_plans_36, eX8_plans_39, eX8_plans_40, eX8_plans_43, eX8_plans_44, eX8_plans_47, eX8_plans_48, eX8_plans_49, eX8_plans_52, eX8_plans_53, eX8_plans_56, eX8_plans_59, eX8_plans_62, eX8_plans_63, eX8_plans_66, eX8_plans_67, eX8_plans_70, Option.bind_some, Option.toList_some, Option.toList_none, List.cons_append, List.nil_append, G_o0, G_h0_0, G_r0_0, G_h0_1, G_r0_1, G_h0_2, G_r0_2, G_h0_3, G_r0_3, G_h0_4, G_r0_4, G_o10, G_h10_0, G_r10_0, G_h10_1, G_r10_1, G_q11, G_l11, G_o12, G_h12_0, G_r12_0, G_h12_1, G_r12_1, G_a13, G_l13, G_a14, G_l14, G_q1, G_l1, g1, g2, g3, g4, if_true, if_false, qX0_isMissing, eq_false e1, zb_0, not_false_eq_true, G_o27, y1, eq_false hq, ne_eq, ks]
    · rw [pre, ek]
      by_cases hl : p < n'
      · rw [if_pos hl, ← u4 p hl]
        simp only [eX9_plans_125, eX9_plans_126, eX9_plans_127, eX9_plans_130, eX9_plans_131, eX9_plans_132, eX9_plans_133, eX9_plans_135, eX9_plans_137, eX9_plans_140, eX9_plans_141, eX9_plans_142, eX9_plans_144, eX9_plans_147, eX9_plans_148, eX9_plans_151, eX9_plans_152, eX9_plans_153, eX9_plans_156, eX9_plans_158, Option.bind_some, Option.toList_some, Option.toList_none, List.cons_append, List.nil_append, G_o55, G_h55_2, G_r55_2, G_a56, G_l56, G_h55_3, G_r55_3, G_a57, G_l57, G_h55_4, G_r55_4, G_a58, G_l58, G_h55_7, G_r55_7, G_a59, G_l59, G_h55_8, G_r55_8, G_a60, G_l60, G_h55_9, G_r55_9, G_a61, G_l61, G_h55_10, G_r55_10, G_a62, G_l62, G_h55_11, G_r55_11, G_a63, G_l63, G_h55_29, G_r55_29, G_a69, G_l69, G_h55_30, G_r55_30, G_a70, G_l70, G_h55_24, G_r55_24, G_a68, G_l68, eq_false hq, ne_eq, not_false_eq_true, if_true, if_false, u1, el, eq_false (show ¬ n' ≤ p by omega), zIn_20 (show p < 20 by omega), zc_n (show p ≤ 1000 by omega)]
      · rw [if_neg hl]
        simp only [eX9_plans_125, eX9_plans_126, eX9_plans_127, eX9_plans_130, eX9_plans_131, eX9_plans_132, eX9_plans_133, eX9_plans_135, eX9_plans_137, eX9_plans_140, eX9_plans_141, eX9_plans_142, eX9_plans_144, eX9_plans_147, eX9_plans_148, eX9_plans_151, eX9_plans_152, eX9_plans_153, eX9_plans_156, eX9_plans_158, Option.bind_some, Option.toList_some, Option.toList_none, List.cons_append, List.nil_append, G_o55, G_h55_2, G_r55_2, G_a56, G_l56, G_h55_3, G_r55_3, G_a57, G_l57, G_h55_4, G_r55_4, G_a58, G_l58, G_h55_7, G_r55_7, G_a59, G_l59, G_h55_8, G_r55_8, G_a60, G_l60, G_h55_9, G_r55_9, G_a61, G_l61, G_h55_10, G_r55_10, G_a62, G_l62, G_h55_11, G_r55_11, G_a63, G_l63, G_h55_29, G_r55_29, G_a69, G_l69, G_h55_30, G_r55_30, G_a70, G_l70, G_h55_24, G_r55_24, G_a68, G_l68, eq_false hq, ne_eq, not_false_eq_true, if_true, if_false, u1, el, eq_true (show n' ≤ p by omega)]

end S
