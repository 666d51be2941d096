def LF {α : Type} (LV : Nat → List α) : Nat → List α
  | 0 => []
  | n + 1 => LF LV n ++ LV n
set_option maxHeartbeats 1000000 in
theorem BF_LF {α : Type} {LV : Nat → List α} : ∀ t : Nat, BF LV t = LF LV (t + 1) := by
  intro t
  induction t with
  | zero => rfl
  | succ t ih => rw [BF, ih]; rfl
def Rm (N : Nat) (f : Nat → Nat → Int32) (Q0 : zPs) (o : Option (List Nat)) (I : Nat → Nat → Int32) (J : Nat → Nat → Int64) : Prop := match o with
  | none => I 55 25 = -9
  | some y => ∃ n x, y = pl N n x ∧ n ≤ 3 ∧ x < 1000000 ∧ I 55 25 = nI n ∧ I 55 26 = nI x ∧ J 55 27 = v64 N f Q0 y
noncomputable def LVn (I0 : Nat → Nat → Int32) (N n : Nat) : List (List Nat) := ((List.range ((2 * N + 2) ^ n)).map (pl N n)).filter (vB N (I0 55 5) (mF I0) (bQ (I0 60)))
set_option maxHeartbeats 1000000 in
theorem LVn_eq {I0 : Nat → Nat → Int32} {N n : Nat} (h1 : 1 ≤ N) (h6 : N ≤ 6) : LVn I0 N n = lev N (I0 55 5) (mF I0) n (bQ (I0 60)) := by
  rw [lev_als h1 h6, als_pl]
  rfl
section S
variable {L : Nat} {xs : Nat → Int32} {d : Nat}
set_option maxHeartbeats 1000000 in
theorem lp_fb {I0 : Nat → Nat → Int32} {N n : Nat} {m : Int32} (hB : mBase I0 N) (hn : n ≤ 3) : ∀ (r x : Nat) (I : Nat → Nat → Int32) (J : Nat → Nat → Int64) (o : Option (List Nat)), x + r = (2 * N + 2) ^ n → mFr I0 I → Rm N (mF I0) (bQ (I0 60)) o I J → ∃ I' J', zX zCd (zGG L xs) d 130 22 [.ref 55, .int m, .int (nI n), .int (nI ((2 * N + 2) ^ n)), .int (nI x)] [] (I, J) = zX zCd (zGG L xs) d 130 8 [.ref 55, .int m, .int (nI (n + 1)), .int (nI ((2 * N + 2) ^ n)), .int (nI ((2 * N + 2) ^ n))] [] (I', J') ∧ mFr I0 I' ∧ Rm N (mF I0) (bQ (I0 60)) ((((List.range' x r).map (pl N n)).filter (vB N (I0 55 5) (mF I0) (bQ (I0 60)))).foldl (bst (vI N (mF I0) (bQ (I0 60))) (fun _ => 0)) o) I' J' := by
  have hS := pw3 (N := N) (n := n) hB.2.1.2 hn
  have h6 := hB.2.1.2
  intro r
  induction r with
  | zero =>
    intro x I J o h hf hR
    obtain rfl : x = (2 * N + 2) ^ n := by omega
    refine ⟨I, J, ?_, hf, hR⟩
    rw [eX9_findBest_22]
    simp only [eX9_findBest_24, eX9_findBest_25, eX9_findBest_84, eX9_findBest_87, Int32.le_refl, if_true, nI_1]
  | succ r ih =>
    intro x I J o h hf hR
    have el : (nI ((2 * N + 2) ^ n) ≤ nI x) = False := by rw [zle (by omega) (by omega)]; exact eq_false (by omega)
    have hBI := hB.fr hf
    obtain ⟨I1, g1, g2, g3, g4, g5⟩ := qX9_goesRow (L := L) (xs := xs) (d := d) (J := J) (I := I) (N := N) (n := n) (x := x) hBI hn (by omega)
    rw [hf.2 5 (by decide) (by decide) (by decide) (by decide) (by decide) (by decide), hf.F, hf.1 60 (by decide) (by decide)] at g1 g5
    have f1 : mFr I0 I1 := hf.trans ⟨g2, fun k a b c e _ _ => g3 k a b c e⟩
    rw [List.range'_succ, List.map_cons]
    have next : ∀ (K : Nat → Nat → Int32) (JJ : Nat → Nat → Int64), zX zCd (zGG L xs) d 130 78 [.ref 55, .int m, .int (nI n), .int (nI ((2 * N + 2) ^ n)), .int (nI x)] [] (K, JJ) = zX zCd (zGG L xs) d 130 22 [.ref 55, .int m, .int (nI n), .int (nI ((2 * N + 2) ^ n)), .int (nI (x + 1))] [] (K, JJ) := fun K JJ => by
      simp only [eX9_findBest_78, eX9_findBest_81, nI_1]
    by_cases hv : qV N (I0 55 5) (mF I0) (pl N n x) (bQ (I0 60))
    · rw [zb_t hv] at g1
      obtain ⟨P, p1, p2⟩ := g5 hv
      rw [List.filter_cons_of_pos (vB_iff.mpr hv), List.foldl_cons]
      have ev : pRt N (zgM I1) = v64 N (mF I0) (bQ (I0 60)) (pl N n x) := by rw [← p2.rt, p1.rt]; rfl
      have m6 : I1 55 6 = nI N := (hB.fr f1).1
      have rn := qX9_rightNow (L := L) (xs := xs) (d := d) (J := J) m6 h6
      rw [ev] at rn
      generalize hV : v64 N (mF I0) (bQ (I0 60)) (pl N n x) = V at rn
      generalize hI2 : zU (zU I1 55 25 (nI n)) 55 26 (nI x) = I2
      have jo : ∀ c, c ≠ 55 → I2 c = I1 c := fun c h => by rw [← hI2, zU_ne _ _ _ h, zU_ne _ _ _ h]
      have j5 : ∀ k, k ≠ 25 → k ≠ 26 → I2 55 k = I1 55 k := fun k a b => by rw [← hI2, zU_k _ _ _ b, zU_k _ _ _ a]
      have ez : zgM I2 = zgM I1 := by
        simp only [zgM]
        rw [jo 65 (by decide), jo 66 (by decide), jo 67 (by decide), j5 16 (by decide) (by decide), j5 17 (by decide) (by decide)]
      have rn2 := qX9_rightNow (L := L) (xs := xs) (d := d) (J := J) (I := I2) (N := N) (by rw [j5 6 (by decide) (by decide)]; exact m6) h6
      rw [ez, ev, hV] at rn2
      have f2 : mFr I0 I2 := f1.trans ⟨fun c a _ => jo c a, fun k _ _ _ _ a b => j5 k a b⟩
      have upd : zX zCd (zGG L xs) d 130 59 [.ref 55, .int m, .int (nI n), .int (nI ((2 * N + 2) ^ n)), .int (nI x)] [] (I1, J) = zX zCd (zGG L xs) d 130 22 [.ref 55, .int m, .int (nI n), .int (nI ((2 * N + 2) ^ n)), .int (nI (x + 1))] [] (I2, zUL J 55 27 V) := by
        simp only [eX9_findBest_59, eX9_findBest_60, eX9_findBest_61, eX9_findBest_64, eX9_findBest_65, eX9_findBest_67, eX9_findBest_70, eX9_findBest_71, eX9_findBest_72, eX9_findBest_75, Option.bind_some, Option.toList_some, Option.toList_none, List.cons_append, List.nil_append, G_o55, hI2, rn2]
        rw [next]
      have R2 : Rm N (mF I0) (bQ (I0 60)) (some (pl N n x)) I2 (zUL J 55 27 V) := ⟨n, x, rfl, hn, by omega, by rw [← hI2, zU_k _ _ _ (by decide), zU_at], by rw [← hI2, zU_at], by rw [hV]; simp [zUL]⟩
      cases o with
      | none =>
        have hR : I 55 25 = -9 := hR
        obtain ⟨I3, J3, y1, y2, y3⟩ := ih (x + 1) I2 (zUL J 55 27 V) (some (pl N n x)) (by omega) f2 R2
        refine ⟨I3, J3, ?_, y2, y3⟩
        rw [eX9_findBest_22]
        simp only [eX9_findBest_24, eX9_findBest_25, eX9_findBest_28, eX9_findBest_29, eX9_findBest_31, eX9_findBest_32, eX9_findBest_35, eX9_findBest_38, eX9_findBest_39, eX9_findBest_42, eX9_findBest_44, Option.bind_some, Option.toList_some, Option.toList_none, List.cons_append, List.nil_append, el, if_false, if_true, G_o55, g1, show ((1 : Int32) = 0) = False from by decide, g3 25 (by decide) (by decide) (by decide) (by decide), hR]
        rw [upd]
        exact y1
      | some y =>
        obtain ⟨n', x', r1, r2, r3, r4, r5, r6⟩ := id hR
        have e9 : (nI n' = -9) = False := eq_false (nI_m9 (by omega))
        by_cases hb : V ≤ J 55 27
        · have hbt : ¬ btr (vI N (mF I0) (bQ (I0 60))) (fun _ => 0) (pl N n x) y := by
            unfold btr vI
            rw [hV, ← r6]
            rw [Int64.le_iff_toInt_le] at hb
            dsimp only
            omega
          rw [bst_k hbt]
          have R1 : Rm N (mF I0) (bQ (I0 60)) (some y) I1 J := ⟨n', x', r1, r2, r3, by rw [g3 25 (by decide) (by decide) (by decide) (by decide)]; exact r4, by rw [g3 26 (by decide) (by decide) (by decide) (by decide)]; exact r5, r6⟩
          obtain ⟨I3, J3, y1, y2, y3⟩ := ih (x + 1) I1 J (some y) (by omega) f1 R1
          refine ⟨I3, J3, ?_, y2, y3⟩
          rw [eX9_findBest_22]
          simp only [eX9_findBest_24, eX9_findBest_25, eX9_findBest_28, eX9_findBest_29, eX9_findBest_31, eX9_findBest_32, eX9_findBest_35, eX9_findBest_38, eX9_findBest_39, eX9_findBest_42, eX9_findBest_44, eX9_findBest_47, eX9_findBest_48, eX9_findBest_51, eX9_findBest_52, eX9_findBest_55, eX9_findBest_56, Option.bind_some, Option.toList_some, Option.toList_none, List.cons_append, List.nil_append, el, if_false, if_true, G_o55, g1, show ((1 : Int32) = 0) = False from by decide, g3 25 (by decide) (by decide) (by decide) (by decide), r4, e9, rn, cmp_l, eq_true hb]
          rw [next]
          exact y1
        · have hbt : btr (vI N (mF I0) (bQ (I0 60))) (fun _ => 0) (pl N n x) y := by
            unfold btr vI
            rw [hV, ← r6]
            rw [Int64.le_iff_toInt_le] at hb
            left
            omega
          rw [bst_y hbt]
          obtain ⟨I3, J3, y1, y2, y3⟩ := ih (x + 1) I2 (zUL J 55 27 V) (some (pl N n x)) (by omega) f2 R2
          refine ⟨I3, J3, ?_, y2, y3⟩
          rw [eX9_findBest_22]
          simp only [eX9_findBest_24, eX9_findBest_25, eX9_findBest_28, eX9_findBest_29, eX9_findBest_31, eX9_findBest_32, eX9_findBest_35, eX9_findBest_38, eX9_findBest_39, eX9_findBest_42, eX9_findBest_44, eX9_findBest_47, eX9_findBest_48, eX9_findBest_51, eX9_findBest_52, eX9_findBest_55, eX9_findBest_56, Option.bind_some, Option.toList_some, Option.toList_none, List.cons_append, List.nil_append, el, if_false, if_true, G_o55, g1, show ((1 : Int32) = 0) = False from by decide, g3 25 (by decide) (by decide) (by decide) (by decide), r4, e9, rn, cmp_l, eq_false hb]
          rw [upd]
          exact y1
    · rw [zb_f hv] at g1
      rw [List.filter_cons_of_neg (fun y => hv (vB_iff.mp y))]
      have R1 : Rm N (mF I0) (bQ (I0 60)) o I1 J := by
        cases o with
        | none =>
          have hR : I 55 25 = -9 := hR
          show I1 55 25 = -9
          rw [g3 25 (by decide) (by decide) (by decide) (by decide)]
          exact hR
        | some y =>
          obtain ⟨n', x', r1, r2, r3, r4, r5, r6⟩ := hR
          exact ⟨n', x', r1, r2, r3, by rw [g3 25 (by decide) (by decide) (by decide) (by decide)]; exact r4, by rw [g3 26 (by decide) (by decide) (by decide) (by decide)]; exact r5, r6⟩
      obtain ⟨I3, J3, y1, y2, y3⟩ := ih (x + 1) I1 J o (by omega) f1 R1
      refine ⟨I3, J3, ?_, y2, y3⟩
      rw [eX9_findBest_22]
      simp only [eX9_findBest_24, eX9_findBest_25, eX9_findBest_28, eX9_findBest_29, eX9_findBest_31, eX9_findBest_32, eX9_findBest_35, Option.bind_some, Option.toList_some, Option.toList_none, List.cons_append, List.nil_append, el, if_false, if_true, G_o55, g1]
      rw [next]
      exact y1
set_option maxHeartbeats 1000000 in
theorem lp_fo {I0 : Nat → Nat → Int32} {N mo : Nat} (hB : mBase I0 N) (hmo : mo ≤ 3) : ∀ (r n : Nat) (v3 v4 : Value) (I : Nat → Nat → Int32) (J : Nat → Nat → Int64), n + r = mo + 1 → mFr I0 I → Rm N (mF I0) (bQ (I0 60)) ((LF (LVn I0 N) n).foldl (bst (vI N (mF I0) (bQ (I0 60))) (fun _ => 0)) none) I J → ∃ I' J', zX zCd (zGG L xs) d 130 8 [.ref 55, .int (nI mo), .int (nI n), v3, v4] [] (I, J) = some (none, (I', J')) ∧ mFr I0 I' ∧ Rm N (mF I0) (bQ (I0 60)) ((LF (LVn I0 N) (mo + 1)).foldl (bst (vI N (mF I0) (bQ (I0 60))) (fun _ => 0)) none) I' J' := by
  intro r
  induction r with
  | zero =>
    intro n v3 v4 I J h hf hR
    obtain rfl : n = mo + 1 := by omega
    refine ⟨I, J, ?_, hf, hR⟩
    have el : (nI mo < nI (mo + 1)) = True := by rw [zlt (by omega) (by omega)]; exact eq_true (by omega)
    rw [eX9_findBest_8]
    simp only [eX9_findBest_9, eX9_findBest_10, eX9_findBest_90, el, if_true]
  | succ r ih =>
    intro n v3 v4 I J h hf hR
    have el : (nI mo < nI n) = False := by rw [zlt (by omega) (by omega)]; exact eq_false (by omega)
    have rw1 := qX9_rows (L := L) (xs := xs) (d := d) (J := J) (I := I) (N := N) (n := n) (hB.fr hf).1 hB.2.1.2 (by omega)
    obtain ⟨I1, J1, y1, y2, y3⟩ := lp_fb (L := L) (xs := xs) (d := d) (m := nI mo) hB (show n ≤ 3 by omega) ((2 * N + 2) ^ n) 0 I J _ (by omega) hf hR
    rw [← List.foldl_append, ← List.range_eq_range'] at y3
    obtain ⟨I2, J2, z1, z2, z3⟩ := ih (n + 1) _ _ I1 J1 (by omega) y2 y3
    refine ⟨I2, J2, ?_, z2, z3⟩
    rw [eX9_findBest_8]
    simp only [eX9_findBest_9, eX9_findBest_10, eX9_findBest_13, eX9_findBest_14, eX9_findBest_15, eX9_findBest_18, eX9_findBest_19, eX9_findBest_20, Option.bind_some, Option.toList_some, Option.toList_none, List.cons_append, List.nil_append, el, if_false, G_o55, rw1]
    exact y1.trans z1
set_option maxHeartbeats 1000000 in
theorem qX9_findBest {I0 : Nat → Nat → Int32} {J : Nat → Nat → Int64} {N mo : Nat} (hB : mBase I0 N) (hmo : mo ≤ 3) : ∃ I' J', zE zCd (zGG L xs) d 130 [.ref 55, .int (nI mo)] (I0, J) = some (none, (I', J')) ∧ mFr I0 I' ∧ Rm N (mF I0) (bQ (I0 60)) ((BF (fun n => lev N (I0 55 5) (mF I0) n (bQ (I0 60))) mo).foldl (bst (vI N (mF I0) (bQ (I0 60))) (fun _ => 0)) none) I' J' := by
  have f1 : mFr I0 (zU I0 55 25 (-9)) := ⟨fun c a _ => zU_ne _ _ _ a, fun k _ _ _ _ a _ => zU_k _ _ _ a⟩
  obtain ⟨I', J', y1, y2, y3⟩ := lp_fo (L := L) (xs := xs) (d := d) hB hmo (mo + 1) 0 .null .null (zU I0 55 25 (-9)) J (by omega) f1 (show Rm N (mF I0) (bQ (I0 60)) none _ J from zU_at _ _ _ _)
  refine ⟨I', J', ?_, y2, ?_⟩
  · simp only [nX9_findBest, eX9_findBest_0, eX9_findBest_1, eX9_findBest_3, eX9_findBest_6, eX9_findBest_7, G_o55]
    exact y1
  · rw [← BF_LF, BF_congr (fun n _ => LVn_eq hB.2.1.1 hB.2.1.2)] at y3
    exact y3
/-! which plans were played -/
noncomputable def wSm (so : List Nat → Bool) (s : Option (List Nat) × Nat) (p : List Nat) : Option (List Nat) × Nat := if so p = true then (bst (fun _ => 0) (fun _ => 0) s.1 p, s.2 + 1) else s
def Rp (N : Nat) (s : Option (List Nat) × Nat) (many fl fs : Int32) : Prop := many = nI s.2 ∧ match s.1 with
  | none => s.2 = 0 ∧ fl = 0 ∧ fs = 0
  | some y => 0 < s.2 ∧ ∃ n x, y = pl N n x ∧ n ≤ 3 ∧ x < 1000000 ∧ fl = nI n ∧ fs = nI x
set_option maxHeartbeats 1000000 in
theorem lp_pn {I0 : Nat → Nat → Int32} {J : Nat → Nat → Int64} {N n C : Nat} {m q : Int32} (hB : mBase I0 N) (hn : n ≤ 3) (hC : I0 55 28 = nI C) (h8 : C ≤ 8) (ha : ∀ q, q < C → ∃ a, a < N ∧ I0 69 q = nI a) : ∀ (r x : Nat) (I : Nat → Nat → Int32) (s : Option (List Nat) × Nat) (many fl fs : Int32), x + r = (2 * N + 2) ^ n → mFr I0 I → Rp N s many fl fs → s.2 ≤ 3000 * n + x → ∃ I' many' fl' fs', zX zCd (zGG L xs) d 140 59 [.ref 55, .int m, .int q, .int many, .int fl, .int fs, .int (nI n), .int (nI ((2 * N + 2) ^ n)), .int (nI x)] [] (I, J) = zX zCd (zGG L xs) d 140 42 [.ref 55, .int m, .int q, .int many', .int fl', .int fs', .int (nI (n + 1)), .int (nI ((2 * N + 2) ^ n)), .int (nI ((2 * N + 2) ^ n))] [] (I', J) ∧ mFr I0 I' ∧ Rp N ((((List.range' x r).map (pl N n)).filter (vB N (I0 55 5) (mF I0) (bQ (I0 60)))).foldl (wSm (soB N (mF I0) (bQ (I0 60)) (I0 69) (I0 70) C)) s) many' fl' fs' ∧ ((((List.range' x r).map (pl N n)).filter (vB N (I0 55 5) (mF I0) (bQ (I0 60)))).foldl (wSm (soB N (mF I0) (bQ (I0 60)) (I0 69) (I0 70) C)) s).2 ≤ 3000 * (n + 1) := by
  have hS := pw3 (N := N) (n := n) hB.2.1.2 hn
  have h6 := hB.2.1.2
  intro r
  induction r with
  | zero =>
    intro x I s many fl fs h hf hR hb
    obtain rfl : x = (2 * N + 2) ^ n := by omega
    refine ⟨I, many, fl, fs, ?_, hf, hR, by show s.2 ≤ _; omega⟩
    rw [eX9_plans_59]
    simp only [eX9_plans_61, eX9_plans_63, eX9_plans_119, eX9_plans_122, Int32.le_refl, if_true, nI_1]
  | succ r ih =>
    intro x I s many fl fs h hf hR hb
    have el : (nI ((2 * N + 2) ^ n) ≤ nI x) = False := by rw [zle (by omega) (by omega)]; exact eq_false (by omega)
    have hBI := hB.fr hf
    obtain ⟨I1, g1, g2, g3, g4, g5⟩ := qX9_goesRow (L := L) (xs := xs) (d := d) (J := J) (I := I) (N := N) (n := n) (x := x) hBI hn (by omega)
    rw [hf.2 5 (by decide) (by decide) (by decide) (by decide) (by decide) (by decide), hf.F, hf.1 60 (by decide) (by decide)] at g1 g5
    have f1 : mFr I0 I1 := hf.trans ⟨g2, fun k a b c e _ _ => g3 k a b c e⟩
    rw [List.range'_succ, List.map_cons]
    have next : ∀ (K : Nat → Nat → Int32) (a b c : Int32), zX zCd (zGG L xs) d 140 113 [.ref 55, .int m, .int q, .int a, .int b, .int c, .int (nI n), .int (nI ((2 * N + 2) ^ n)), .int (nI x)] [] (K, J) = zX zCd (zGG L xs) d 140 59 [.ref 55, .int m, .int q, .int a, .int b, .int c, .int (nI n), .int (nI ((2 * N + 2) ^ n)), .int (nI (x + 1))] [] (K, J) := fun K a b c => by
      simp only [eX9_plans_113, eX9_plans_116, nI_1]
    by_cases hv : qV N (I0 55 5) (mF I0) (pl N n x) (bQ (I0 60))
    · rw [zb_t hv] at g1
      obtain ⟨P, p1, p2⟩ := g5 hv
      rw [List.filter_cons_of_pos (vB_iff.mpr hv), List.foldl_cons]
      have so := qX9_areSo (L := L) (xs := xs) (d := d) (J := J) (I := I1) (C := C) (by rw [f1.2 28 (by decide) (by decide) (by decide) (by decide) (by decide) (by decide)]; exact hC) h8 (fun k hk => by
        rw [f1.1 69 (by decide) (by decide)]
        obtain ⟨a, h1, h2⟩ := ha k hk
        rw [h2]
        exact zIv_lt h6 h1)
      have es : pSo (I1 65) (I1 69) (I1 70) 0 C = soB N (mF I0) (bQ (I0 60)) (I0 69) (I0 70) C (pl N n x) := by
        rw [f1.1 69 (by decide) (by decide), f1.1 70 (by decide) (by decide)]
        have e1 := so_eq (C := C) (a := I0 69) (v := I0 70) (a' := I0 69) (v' := I0 70) h6 p1 (fun q hq => ⟨rfl, rfl, ha q hq⟩) C 0 (by omega)
        have e2 := so_eq (C := C) (a := I0 69) (v := I0 70) (a' := I0 69) (v' := I0 70) h6 p2 (fun q hq => ⟨rfl, rfl, ha q hq⟩) C 0 (by omega)
        exact e2.symm.trans e1
      rw [es] at so
      by_cases hso : soB N (mF I0) (bQ (I0 60)) (I0 69) (I0 70) C (pl N n x) = true
      · rw [if_pos hso] at so
        have ew : wSm (soB N (mF I0) (bQ (I0 60)) (I0 69) (I0 70) C) s (pl N n x) = (bst (fun _ => 0) (fun _ => 0) s.1 (pl N n x), s.2 + 1) := if_pos hso
        rw [ew]
        obtain ⟨r1, r2⟩ := id hR
        cases ho : s.1 with
        | none =>
          rw [ho] at r2
          obtain ⟨q1, q2, q3⟩ : s.2 = 0 ∧ fl = 0 ∧ fs = 0 := r2
          obtain ⟨I3, a, b, c, y1, y2, y3, y4⟩ := ih (x + 1) I1 (some (pl N n x), s.2 + 1) (nI (s.2 + 1)) (nI n) (nI x) (by omega) f1 ⟨rfl, by show 0 < s.2 + 1; omega, n, x, rfl, hn, by omega, rfl, rfl⟩ (by show s.2 + 1 ≤ _; omega)
          refine ⟨I3, a, b, c, ?_, y2, y3, y4⟩
          have m0 : many = 0 := by rw [r1, q1]; rfl
          rw [eX9_plans_59]
          simp only [eX9_plans_61, eX9_plans_63, eX9_plans_66, eX9_plans_67, eX9_plans_69, eX9_plans_71, eX9_plans_74, eX9_plans_77, eX9_plans_78, eX9_plans_81, eX9_plans_84, eX9_plans_85, eX9_plans_88, eX9_plans_90, eX9_plans_93, eX9_plans_95, eX9_plans_97, eX9_plans_98, eX9_plans_101, eX9_plans_103, eX9_plans_106, eX9_plans_108, eX9_plans_110, Option.bind_some, Option.toList_some, Option.toList_none, List.cons_append, List.nil_append, el, if_false, G_o55, g1, so, show ((1 : Int32) = 0) = False from by decide, eq_true m0, ne_eq, not_true_eq_false, next]
          have m1 : many + 1 = nI (s.2 + 1) := by rw [r1, nI_1]
          rw [m1]
          exact y1
        | some y =>
          rw [ho] at r2
          obtain ⟨q1, n', x', q2⟩ := r2
          rw [bst_k (show ¬ btr (fun _ => 0) (fun _ => 0) (pl N n x) y from fun z => by
            have z : (0 : Int) < 0 ∨ ((0 : Int) = 0 ∧ (0 : Nat) < 0) := z
            omega)]
          obtain ⟨I3, a, b, c, y1, y2, y3, y4⟩ := ih (x + 1) I1 (some y, s.2 + 1) (nI (s.2 + 1)) fl fs (by omega) f1 ⟨rfl, by show 0 < s.2 + 1; omega, n', x', q2⟩ (by show s.2 + 1 ≤ _; omega)
          refine ⟨I3, a, b, c, ?_, y2, y3, y4⟩
          have m0 : ¬ many = 0 := by
            rw [r1]
            intro e
            have := (nI_eq (a := s.2) (b := 0) (by omega) (by omega)).mp e
            omega
          rw [eX9_plans_59]
          simp only [eX9_plans_61, eX9_plans_63, eX9_plans_66, eX9_plans_67, eX9_plans_69, eX9_plans_71, eX9_plans_74, eX9_plans_77, eX9_plans_78, eX9_plans_81, eX9_plans_84, eX9_plans_85, eX9_plans_88, eX9_plans_90, eX9_plans_93, eX9_plans_95, eX9_plans_97, eX9_plans_98, eX9_plans_101, eX9_plans_103, eX9_plans_106, eX9_plans_108, eX9_plans_110, Option.bind_some, Option.toList_some, Option.toList_none, List.cons_append, List.nil_append, el, if_false, G_o55, g1, so, show ((1 : Int32) = 0) = False from by decide, eq_false m0, ne_eq, not_false_eq_true, if_true, next]
          have m1 : many + 1 = nI (s.2 + 1) := by rw [r1, nI_1]
          rw [m1]
          exact y1
      · rw [if_neg hso] at so
        have ew : wSm (soB N (mF I0) (bQ (I0 60)) (I0 69) (I0 70) C) s (pl N n x) = s := if_neg hso
        rw [ew]
        obtain ⟨I3, a, b, c, y1, y2, y3, y4⟩ := ih (x + 1) I1 s many fl fs (by omega) f1 hR (by omega)
        refine ⟨I3, a, b, c, ?_, y2, y3, y4⟩
        rw [eX9_plans_59]
        simp only [eX9_plans_61, eX9_plans_63, eX9_plans_66, eX9_plans_67, eX9_plans_69, eX9_plans_71, eX9_plans_74, eX9_plans_77, eX9_plans_78, eX9_plans_81, Option.bind_some, Option.toList_some, Option.toList_none, List.cons_append, List.nil_append, el, if_false, if_true, G_o55, g1, so, show ((1 : Int32) = 0) = False from by decide, next]
        exact y1
    · rw [zb_f hv] at g1
      rw [List.filter_cons_of_neg (fun y => hv (vB_iff.mp y))]
      obtain ⟨I3, a, b, c, y1, y2, y3, y4⟩ := ih (x + 1) I1 s many fl fs (by omega) f1 hR (by omega)
      refine ⟨I3, a, b, c, ?_, y2, y3, y4⟩
      rw [eX9_plans_59]
      simp only [eX9_plans_61, eX9_plans_63, eX9_plans_66, eX9_plans_67, eX9_plans_69, eX9_plans_71, eX9_plans_74, Option.bind_some, Option.toList_some, Option.toList_none, List.cons_append, List.nil_append, el, if_false, if_true, G_o55, g1, next]
      exact y1
set_option maxHeartbeats 1000000 in
theorem lp_po {I0 : Nat → Nat → Int32} {J : Nat → Nat → Int64} {N mo C : Nat} {q : Int32} (hB : mBase I0 N) (hmo : mo ≤ 3) (hC : I0 55 28 = nI C) (h8 : C ≤ 8) (ha : ∀ q, q < C → ∃ a, a < N ∧ I0 69 q = nI a) : ∀ (r n : Nat) (v7 v8 : Value) (I : Nat → Nat → Int32) (many fl fs : Int32), n + r = mo + 1 → mFr I0 I → Rp N ((LF (LVn I0 N) n).foldl (wSm (soB N (mF I0) (bQ (I0 60)) (I0 69) (I0 70) C)) (none, 0)) many fl fs → ((LF (LVn I0 N) n).foldl (wSm (soB N (mF I0) (bQ (I0 60)) (I0 69) (I0 70) C)) (none, 0)).2 ≤ 3000 * n → ∃ I' many' fl' fs' v7' v8', zX zCd (zGG L xs) d 140 42 [.ref 55, .int (nI mo), .int q, .int many, .int fl, .int fs, .int (nI n), v7, v8] [] (I, J) = zX zCd (zGG L xs) d 140 125 [.ref 55, .int (nI mo), .int q, .int many', .int fl', .int fs', .int (nI (mo + 1)), v7', v8'] [] (I', J) ∧ mFr I0 I' ∧ Rp N ((LF (LVn I0 N) (mo + 1)).foldl (wSm (soB N (mF I0) (bQ (I0 60)) (I0 69) (I0 70) C)) (none, 0)) many' fl' fs' := by
  intro r
  induction r with
  | zero =>
    intro n v7 v8 I many fl fs h hf hR hb
    obtain rfl : n = mo + 1 := by omega
    refine ⟨I, many, fl, fs, v7, v8, ?_, hf, hR⟩
    have el : (nI mo < nI (mo + 1)) = True := by rw [zlt (by omega) (by omega)]; exact eq_true (by omega)
    rw [eX9_plans_42]
    simp only [eX9_plans_44, eX9_plans_45, el, if_true]
  | succ r ih =>
    intro n v7 v8 I many fl fs h hf hR hb
    have el : (nI mo < nI n) = False := by rw [zlt (by omega) (by omega)]; exact eq_false (by omega)
    have rw1 := qX9_rows (L := L) (xs := xs) (d := d) (J := J) (I := I) (N := N) (n := n) (hB.fr hf).1 hB.2.1.2 (by omega)
    obtain ⟨I1, a, b, c, y1, y2, y3, y4⟩ := lp_pn (L := L) (xs := xs) (d := d) (J := J) (m := nI mo) (q := q) hB (show n ≤ 3 by omega) hC h8 ha ((2 * N + 2) ^ n) 0 I _ many fl fs (by omega) hf hR (by omega)
    rw [← List.foldl_append, ← List.range_eq_range'] at y3 y4
    obtain ⟨I2, a2, b2, c2, v72, v82, z1, z2, z3⟩ := ih (n + 1) _ _ I1 a b c (by omega) y2 y3 y4
    refine ⟨I2, a2, b2, c2, v72, v82, ?_, z2, z3⟩
    rw [eX9_plans_42]
    simp only [eX9_plans_44, eX9_plans_45, eX9_plans_48, eX9_plans_49, eX9_plans_51, eX9_plans_54, eX9_plans_56, eX9_plans_57, Option.bind_some, Option.toList_some, Option.toList_none, List.cons_append, List.nil_append, el, if_false, G_o55, rw1]
    exact y1.trans z1
end S
