def le3 : Nat → Nat → List Nat
  | 0, _ => []
  | n + 1, x => x % 3 :: le3 n (x / 3)
set_option maxHeartbeats 1000000 in
theorem le3_len : ∀ n x : Nat, (le3 n x).length = n := by
  intro n
  induction n with
  | zero => intro x; rfl
  | succ n ih => intro x; rw [le3, List.length_cons, ih]
set_option maxHeartbeats 1000000 in
theorem le3_lt : ∀ n x w : Nat, w ∈ le3 n x → w < 3 := by
  intro n
  induction n with
  | zero => intro x w h; simp [le3] at h
  | succ n ih =>
    intro x w h
    rw [le3, List.mem_cons] at h
    rcases h with rfl | h
    · exact Nat.mod_lt _ (by decide)
    · exact ih _ w h
set_option maxHeartbeats 1000000 in
theorem le3_ex : ∀ r : List Nat, (∀ w, w ∈ r → w < 3) → ∃ y, y < 3 ^ r.length ∧ r = le3 r.length y := by
  intro r
  induction r with
  | nil => intro _; exact ⟨0, by decide, rfl⟩
  | cons w r ih =>
    intro h
    obtain ⟨y, h1, h2⟩ := ih (fun x hx => h x (by simp [hx]))
    have hw := h w (by simp)
    refine ⟨w + 3 * y, ?_, ?_⟩
    · rw [List.length_cons, Nat.pow_succ]; omega
    · rw [List.length_cons, le3, show (w + 3 * y) % 3 = w by omega, show (w + 3 * y) / 3 = y by omega, ← h2]
def fFr (I I' : Nat → Nat → Int32) : Prop := (∀ c, c ≠ 55 → (c < 65 ∨ 67 < c) → I' c = I c) ∧ (∀ k, k ≠ 16 → k ≠ 17 → k ≠ 21 → I' 55 k = I 55 k)
set_option maxHeartbeats 1000000 in
theorem fFr.refl {I : Nat → Nat → Int32} : fFr I I := ⟨fun _ _ _ => rfl, fun _ _ _ _ => rfl⟩
set_option maxHeartbeats 1000000 in
theorem fFr.trans {A B D : Nat → Nat → Int32} (h : fFr A B) (g : fFr B D) : fFr A D := ⟨fun c a b => (g.1 c a b).trans (h.1 c a b), fun k a b c => (g.2 k a b c).trans (h.2 k a b c)⟩
set_option maxHeartbeats 1000000 in
theorem fFr.M {I : Nat → Nat → Int32} {P : zPs} {w : Int32} : fFr I (zsM I P w) := ⟨fun c a b => zsM_ne _ _ _ (by omega) (by omega) (by omega) a, fun k a b c => zsM_55 _ _ _ a b c⟩
set_option maxHeartbeats 1000000 in
theorem fFr.F {A B : Nat → Nat → Int32} (h : fFr A B) : mF B = mF A := by
  funext k j
  simp only [mF]
  split
  · rw [h.1 (j + 59) (by omega) (by omega)]
  · rfl
def fBase (I : Nat → Nat → Int32) (N : Nat) : Prop := I 55 6 = nI N ∧ N ≤ 6 ∧ I 55 22 = 1 ∧ pKd N (mF I) ∧ ∀ k, k < N → 0 ≤ I 60 k ∧ I 60 k ≤ 10
set_option maxHeartbeats 1000000 in
theorem fBase.fr {I I' : Nat → Nat → Int32} {N : Nat} (h : fBase I N) (g : fFr I I') : fBase I' N := by
  obtain ⟨h1, h2, h3, h4, h5⟩ := h
  refine ⟨by rw [g.2 6 (by decide) (by decide) (by decide)]; exact h1, h2, by rw [g.2 22 (by decide) (by decide) (by decide)]; exact h3, by rw [g.F]; exact h4, ?_⟩
  rw [g.1 60 (by decide) (by decide)]
  exact h5
section S
variable {L : Nat} {xs : Nat → Int32} {d : Nat} {J : Nat → Nat → Int64}
set_option maxHeartbeats 1000000 in
theorem lp_fw {I0 : Nat → Nat → Int32} {N n k : Nat} {v a3 : Int32} (hB : fBase I0 N) (hk : k < N) (hn : n ≤ 5) : ∀ (r j x : Nat) (w7 : Value) (I : Nat → Nat → Int32) (P Q : zPs), j + r = n → x < 1000000 → fFr I0 I → pEq N P Q → pEq N P (zgM I) → ∃ I', zX zCd (zGG L xs) d 133 10 [.ref 55, .int (nI k), .int v, .int a3, .int (nI n), .int (nI x), .int (nI j), w7] [] (I, J) = some (some (.int (if (endW N (mF I0) k Q (le3 r x)).1 k < v then -9 else (endW N (mF I0) k Q (le3 r x)).2.2.2.1)), (I', J)) ∧ fFr I0 I' := by
  have h6 := hB.2.1
  intro r
  induction r with
  | zero =>
    intro j x w7 I P Q h hx hf hp hq
    obtain rfl : j = n := by omega
    refine ⟨I, ?_, hf⟩
    have es : I 65 k = Q.1 k := (hq.1 k hk).1.symm.trans (hp.1 k hk).1
    have et : I 55 16 = Q.2.2.2.1 := hq.2.2.1.symm.trans hp.2.2.1
    rw [eX9_freeRow_10]
    show _ = some (some (Value.int (if Q.1 k < v then -9 else Q.2.2.2.1)), (I, J))
    by_cases hv : Q.1 k < v
    · rw [if_pos hv]
      simp only [eX9_freeRow_12, eX9_freeRow_14, eX9_freeRow_64, eX9_freeRow_65, eX9_freeRow_68, eX9_freeRow_69, eX9_freeRow_70, eX9_freeRow_71, eX9_freeRow_74, eX9_freeRow_75, eX9_freeRow_78, eX9_freeRow_81, eX9_freeRow_83, Int32.le_refl, if_true, Option.bind_some, Option.toList_some, Option.toList_none, List.cons_append, List.nil_append, G_o55, G_h55_2, G_r55_2, G_a56, G_l56, G_h55_3, G_r55_3, G_a57, G_l57, G_h55_4, G_r55_4, G_a58, G_l58, G_h55_7, G_r55_7, G_a59, G_l59, G_h55_8, G_r55_8, G_a60, G_l60, G_h55_9, G_r55_9, G_a61, G_l61, G_h55_10, G_r55_10, G_a62, G_l62, G_h55_11, G_r55_11, G_a63, G_l63, G_h55_29, G_r55_29, G_a69, G_l69, G_h55_30, G_r55_30, G_a70, G_l70, G_h55_18, G_r55_18, G_a65, G_l65, zIn_6 (show k < 6 by omega), zc_n (show k ≤ 1000 by omega), es, eq_true hv]
    · rw [if_neg hv]
      simp only [eX9_freeRow_12, eX9_freeRow_14, eX9_freeRow_64, eX9_freeRow_65, eX9_freeRow_68, eX9_freeRow_69, eX9_freeRow_70, eX9_freeRow_71, eX9_freeRow_74, eX9_freeRow_75, eX9_freeRow_78, eX9_freeRow_81, eX9_freeRow_83, Int32.le_refl, if_true, Option.bind_some, Option.toList_some, Option.toList_none, List.cons_append, List.nil_append, G_o55, G_h55_2, G_r55_2, G_a56, G_l56, G_h55_3, G_r55_3, G_a57, G_l57, G_h55_4, G_r55_4, G_a58, G_l58, G_h55_7, G_r55_7, G_a59, G_l59, G_h55_8, G_r55_8, G_a60, G_l60, G_h55_9, G_r55_9, G_a61, G_l61, G_h55_10, G_r55_10, G_a62, G_l62, G_h55_11, G_r55_11, G_a63, G_l63, G_h55_29, G_r55_29, G_a69, G_l69, G_h55_30, G_r55_30, G_a70, G_l70, G_h55_18, G_r55_18, G_a65, G_l65, zIn_6 (show k < 6 by omega), zc_n (show k ≤ 1000 by omega), es, eq_false hv, if_false, et]
  | succ r ih =>
    intro j x w7 I P Q h hx hf hp hq
    have el : (nI n ≤ nI j) = False := by rw [zle (show n ≤ 1000000 by omega) (show j ≤ 1000000 by omega)]; exact eq_false (by omega)
    have er : nI x - nI (x / 3) * 3 = nI (x % 3) := by
      have h1 : nI x - nI x / 3 * 3 = nI (x % 3) := pk_rem (d := 3) (by omega) (by decide) (by decide)
      have h2 : nI x / 3 = nI (x / 3) := pk_div (d := 3) (by omega) (by decide) (by decide)
      rw [h2] at h1
      exact h1
    have ed : nI x / 3 = nI (x / 3) := pk_div (d := 3) (by omega) (by decide) (by decide)
    have hm : x % 3 < 3 := Nat.mod_lt _ (by decide)
    have hBI := hB.fr hf
    have hok : pOk N (wS k (x % 3)) := wS_ok h6 hk
    have mf := qX9_mayFree (L := L) (xs := xs) (d := d) (J := J) (I := I) (v := nI (wS k (x % 3))) hBI.2.2.1
    have sy := qX9_stepY (L := L) (xs := xs) (d := d) (J := J) (I := I) (N := N) (s := wS k (x % 3)) hBI.1 h6 hok mf
    rw [hf.F] at sy
    generalize zb (mWr (mF I0) (wS k (x % 3)) (zgM I)) (mWr_dec _ _ _) = u at sy
    have pre : zX zCd (zGG L xs) d 133 10 [.ref 55, .int (nI k), .int v, .int a3, .int (nI n), .int (nI x), .int (nI j), w7] [] (I, J) = zX zCd (zGG L xs) d 133 54 [.ref 55, .int (nI k), .int v, .int a3, .int (nI n), .int (nI (x / 3)), .int (nI j), .int (nI (x % 3))] [.int (nI (wS k (x % 3))), .ref 55] (I, J) := by
      rw [eX9_freeRow_10]
      generalize hw : x % 3 = w at hm er ⊢
      rcases (show w = 0 ∨ w = 1 ∨ w = 2 by omega) with rfl | rfl | rfl
      · simp only [eX9_freeRow_12, eX9_freeRow_14, eX9_freeRow_17, eX9_freeRow_19, eX9_freeRow_20, eX9_freeRow_21, eX9_freeRow_23, eX9_freeRow_25, eX9_freeRow_26, eX9_freeRow_27, eX9_freeRow_29, eX9_freeRow_30, eX9_freeRow_32, eX9_freeRow_35, eX9_freeRow_36, eX9_freeRow_39, eX9_freeRow_41, eX9_freeRow_42, eX9_freeRow_45, eX9_freeRow_47, eX9_freeRow_48, eX9_freeRow_49, eX9_freeRow_52, el, if_false, z3n0, not_false_eq_true, ed, er, show (nI 0 ≠ 0) = False from eq_false (by decide +kernel)]
        rfl
      · simp only [eX9_freeRow_12, eX9_freeRow_14, eX9_freeRow_17, eX9_freeRow_19, eX9_freeRow_20, eX9_freeRow_21, eX9_freeRow_23, eX9_freeRow_25, eX9_freeRow_26, eX9_freeRow_27, eX9_freeRow_29, eX9_freeRow_30, eX9_freeRow_32, eX9_freeRow_35, eX9_freeRow_36, eX9_freeRow_39, eX9_freeRow_41, eX9_freeRow_42, eX9_freeRow_45, eX9_freeRow_47, eX9_freeRow_48, eX9_freeRow_49, eX9_freeRow_52, el, if_true, if_false, z3n0, not_false_eq_true, ed, er, show (nI 1 ≠ 0) = True from eq_true (by decide +kernel), show (nI 1 ≠ 1) = False from eq_false (by decide +kernel)]
        rw [show (10 : Int32) + nI k = nI (10 + k) from nI_add 10 k]
        rfl
      · simp only [eX9_freeRow_12, eX9_freeRow_14, eX9_freeRow_17, eX9_freeRow_19, eX9_freeRow_20, eX9_freeRow_21, eX9_freeRow_23, eX9_freeRow_25, eX9_freeRow_26, eX9_freeRow_27, eX9_freeRow_29, eX9_freeRow_30, eX9_freeRow_32, eX9_freeRow_35, eX9_freeRow_36, eX9_freeRow_39, eX9_freeRow_41, eX9_freeRow_42, eX9_freeRow_45, eX9_freeRow_47, eX9_freeRow_48, eX9_freeRow_49, eX9_freeRow_52, el, if_true, if_false, z3n0, not_false_eq_true, ed, er, show (nI 2 ≠ 0) = True from eq_true (by decide +kernel), show (nI 2 ≠ 1) = True from eq_true (by decide +kernel)]
        rfl
    obtain ⟨I', y1, y2⟩ := ih (j + 1) (x / 3) (.int (nI (x % 3))) (zsM I (mStp N (mF I0) (wS k (x % 3)) (zgM I)) u) _ _ (by omega) (by omega) (hf.trans fFr.M) (hp.stp h6 hok hB.2.2.2.1).1 (by rw [zsM_g]; exact (hq.stp h6 hok hB.2.2.2.1).1)
    refine ⟨I', ?_, y2⟩
    rw [pre]
    simp only [eX9_freeRow_54, eX9_freeRow_57, eX9_freeRow_58, eX9_freeRow_61, Option.bind_some, Option.toList_some, Option.toList_none, List.cons_append, List.nil_append, G_o55, sy, nI_1]
    exact y1
set_option maxHeartbeats 1000000 in
theorem qX9_freeRow {I0 I : Nat → Nat → Int32} {N n k x : Nat} {v : Int32} (hB : fBase I0 N) (hk : k < N) (hn : n ≤ 5) (hx : x < 1000000) (hf : fFr I0 I) : ∃ I', zE zCd (zGG L xs) d 133 [.ref 55, .int (nI k), .int v, .int (nI x), .int (nI n)] (I, J) = some (some (.int (if (endW N (mF I0) k (bQ (I0 60)) (le3 n x)).1 k < v then -9 else (endW N (mF I0) k (bQ (I0 60)) (le3 n x)).2.2.2.1)), (I', J)) ∧ fFr I0 I' := by
  have hBI := hB.fr hf
  have bg := qX9_begin (L := L) (xs := xs) (d := d) (J := J) (I := I) (N := N) hBI.1 hB.2.1
  have h60 : I 60 = I0 60 := hf.1 60 (by decide) (by decide)
  have hb : pEq N (bQ (I0 60)) (bQ (I0 60)) := ⟨fun k hk => ⟨rfl, rfl, hB.2.2.2.2 k hk⟩, fun k hk => ⟨rfl, by simp only [bQ]; decide⟩, rfl, rfl⟩
  have hb2 : pEq N (bQ (I0 60)) (mBg N I) := by
    refine ⟨fun k hk => ?_, fun k hk => ?_, rfl, rfl⟩
    · simp only [bQ, mBg, if_pos hk, h60]
      exact ⟨trivial, trivial, hB.2.2.2.2 k hk⟩
    · simp only [bQ, mBg, if_pos hk]
      exact ⟨trivial, by decide⟩
  obtain ⟨I', y1, y2⟩ := lp_fw (L := L) (xs := xs) (d := d) (J := J) (v := v) (a3 := nI x) hB hk hn n 0 x .null (zsM I (mBg N I) (I 55 21)) _ _ (by omega) hx (hf.trans fFr.M) hb (by rw [zsM_g]; exact hb2)
  refine ⟨I', ?_, y2⟩
  simp only [nX9_freeRow, eX9_freeRow_0, eX9_freeRow_1, eX9_freeRow_4, eX9_freeRow_5, eX9_freeRow_7, eX9_freeRow_8, Option.bind_some, Option.toList_some, Option.toList_none, List.cons_append, List.nil_append, G_o55, bg]
  exact y1
/-- what was tried: all shorter ones, x of those of n steps -/
def SMn (n x : Nat) (q : List Nat) : Prop := (∃ m y, m < n ∧ y < 3 ^ m ∧ q = le3 m y) ∨ (∃ y, y < x ∧ q = le3 n y)

set_option maxHeartbeats 1000000 in
theorem lp_si {I0 : Nat → Nat → Int32} {N n k : Nat} {v : Int32} (hB : fBase I0 N) (hk : k < N) (hn : n ≤ 5) (hf2 : 0 ≤ mF I0 k 2 ∧ mF I0 k 2 ≤ 9) : ∀ (r x : Nat) (w7 : Value) (I : Nat → Nat → Int32) (l : Int32), x + r = 3 ^ n → fFr I0 I → MN (okW N (mF I0) k v (bQ (I0 60))) (miW N (mF I0) k (bQ (I0 60))) (SMn n x) l → ∃ I' l' w7', zX zCd (zGG L xs) d 134 46 [.ref 55, .int (nI k), .int v, .int l, .int (nI (3 ^ n)), .int (nI n), .int (nI x), w7] [] (I, J) = zX zCd (zGG L xs) d 134 37 [.ref 55, .int (nI k), .int v, .int l', .int (nI (3 ^ (n + 1))), .int (nI (n + 1)), .int (nI (3 ^ n)), w7'] [] (I', J) ∧ fFr I0 I' ∧ MN (okW N (mF I0) k v (bQ (I0 60))) (miW N (mF I0) k (bQ (I0 60))) (SMn (n + 1) 0) l' := by
  have h3 : 3 ^ n ≤ 243 := Nat.le_trans (Nat.pow_le_pow_right (by decide) hn) (by decide)
  intro r
  induction r with
  | zero =>
    intro x w7 I l h hf hM
    obtain rfl : x = 3 ^ n := by omega
    refine ⟨I, l, w7, ?_, hf, hM.congr (fun q => ?_)⟩
    · have em : nI (3 ^ n) * 3 = nI (3 ^ (n + 1)) := by rw [Nat.pow_succ]; exact pk_mul _ 3
      rw [eX9_soonest_46]
      simp only [eX9_soonest_48, eX9_soonest_50, eX9_soonest_97, eX9_soonest_99, eX9_soonest_100, eX9_soonest_101, eX9_soonest_103, eX9_soonest_106, Int32.le_refl, if_true, em, nI_1]
    · constructor
      · rintro (⟨m, y, a, b, c⟩ | ⟨y, b, c⟩)
        · exact Or.inl ⟨m, y, by omega, b, c⟩
        · exact Or.inl ⟨n, y, by omega, b, c⟩
      · rintro (⟨m, y, a, b, c⟩ | ⟨y, b, c⟩)
        · by_cases e : m = n
          · subst e; exact Or.inr ⟨y, b, c⟩
          · exact Or.inl ⟨m, y, by omega, b, c⟩
        · omega
  | succ r ih =>
    intro x w7 I l h hf hM
    have el : (nI (3 ^ n) ≤ nI x) = False := by rw [zle (by omega) (by omega)]; exact eq_false (by omega)
    obtain ⟨I1, f1, f2⟩ := qX9_freeRow (L := L) (xs := xs) (d := d) (J := J) (x := x) (v := v) hB hk hn (by omega) hf
    obtain ⟨m, em, hm⟩ := endW_m (N := N) (f := mF I0) (k := k) (by have := hB.2.1; omega) hf2 (le3 n x) (bQ (I0 60)) 0 rfl
    rw [le3_len] at hm
    have h9 : miW N (mF I0) k (bQ (I0 60)) (le3 n x) ≠ -9 := by
      unfold miW
      rw [em]
      exact nI_m9 (by omega)
    have st := hM.step (p := le3 n x) h9
    have st2 := st.congr (S' := SMn n (x + 1)) (fun q => by
      constructor
      · rintro ((h | ⟨y, b, c⟩) | h)
        · exact Or.inl h
        · exact Or.inr ⟨y, by omega, c⟩
        · exact Or.inr ⟨x, by omega, h⟩
      · rintro (h | ⟨y, b, c⟩)
        · exact Or.inl (Or.inl h)
        · by_cases e : y = x
          · subst e; exact Or.inr c
          · exact Or.inl (Or.inr ⟨y, by omega, c⟩))
    generalize hmi : miW N (mF I0) k (bQ (I0 60)) (le3 n x) = mi at h9 st2
    have hmi' : (endW N (mF I0) k (bQ (I0 60)) (le3 n x)).2.2.2.1 = mi := hmi
    rw [hmi'] at f1
    have main : ∃ l', zX zCd (zGG L xs) d 134 46 [.ref 55, .int (nI k), .int v, .int l, .int (nI (3 ^ n)), .int (nI n), .int (nI x), w7] [] (I, J) = zX zCd (zGG L xs) d 134 46 [.ref 55, .int (nI k), .int v, .int l', .int (nI (3 ^ n)), .int (nI n), .int (nI (x + 1)), .int (if (endW N (mF I0) k (bQ (I0 60)) (le3 n x)).1 k < v then -9 else mi)] [] (I1, J) ∧ MN (okW N (mF I0) k v (bQ (I0 60))) (miW N (mF I0) k (bQ (I0 60))) (SMn n (x + 1)) l' := by
      by_cases hv : (endW N (mF I0) k (bQ (I0 60)) (le3 n x)).1 k < v
      · rw [gmn_n (ok := okW N (mF I0) k v (bQ (I0 60)) (le3 n x)) (fun y => absurd hv y.1)] at st2
        refine ⟨l, ?_, st2⟩
        rw [if_pos hv] at f1 ⊢
        conv => lhs; rw [eX9_soonest_46]
        simp only [eX9_soonest_48, eX9_soonest_50, eX9_soonest_53, eX9_soonest_54, eX9_soonest_55, eX9_soonest_56, eX9_soonest_58, eX9_soonest_60, eX9_soonest_63, eX9_soonest_65, eX9_soonest_67, eX9_soonest_69, eX9_soonest_72, eX9_soonest_73, eX9_soonest_75, eX9_soonest_78, eX9_soonest_80, eX9_soonest_81, eX9_soonest_84, eX9_soonest_86, eX9_soonest_89, eX9_soonest_90, eX9_soonest_91, eX9_soonest_94, Option.bind_some, Option.toList_some, Option.toList_none, List.cons_append, List.nil_append, el, if_false, if_true, G_o55, f1, nI_1]
      · have hvo : okW N (mF I0) k v (bQ (I0 60)) (le3 n x) := hv
        rw [if_neg hv] at f1 ⊢
        by_cases hl9 : l = -9
        · rw [gmn_y ⟨hvo, Or.inl hl9⟩] at st2
          refine ⟨mi, ?_, st2⟩
          conv => lhs; rw [eX9_soonest_46]
          simp only [eX9_soonest_48, eX9_soonest_50, eX9_soonest_53, eX9_soonest_54, eX9_soonest_55, eX9_soonest_56, eX9_soonest_58, eX9_soonest_60, eX9_soonest_63, eX9_soonest_65, eX9_soonest_67, eX9_soonest_69, eX9_soonest_72, eX9_soonest_73, eX9_soonest_75, eX9_soonest_78, eX9_soonest_80, eX9_soonest_81, eX9_soonest_84, eX9_soonest_86, eX9_soonest_89, eX9_soonest_90, eX9_soonest_91, eX9_soonest_94, Option.bind_some, Option.toList_some, Option.toList_none, List.cons_append, List.nil_append, el, if_false, if_true, G_o55, f1, eq_false h9, eq_true hl9, nI_1]
        · by_cases hlt : mi < l
          · rw [gmn_y ⟨hvo, Or.inr hlt⟩] at st2
            refine ⟨mi, ?_, st2⟩
            conv => lhs; rw [eX9_soonest_46]
            simp only [eX9_soonest_48, eX9_soonest_50, eX9_soonest_53, eX9_soonest_54, eX9_soonest_55, eX9_soonest_56, eX9_soonest_58, eX9_soonest_60, eX9_soonest_63, eX9_soonest_65, eX9_soonest_67, eX9_soonest_69, eX9_soonest_72, eX9_soonest_73, eX9_soonest_75, eX9_soonest_78, eX9_soonest_80, eX9_soonest_81, eX9_soonest_84, eX9_soonest_86, eX9_soonest_89, eX9_soonest_90, eX9_soonest_91, eX9_soonest_94, Option.bind_some, Option.toList_some, Option.toList_none, List.cons_append, List.nil_append, el, if_false, if_true, G_o55, f1, eq_false h9, eq_false hl9, eq_false (show ¬ l ≤ mi from by grind), nI_1]
          · rw [gmn_n (fun y => by rcases y.2 with z | z; exact hl9 z; exact hlt z)] at st2
            refine ⟨l, ?_, st2⟩
            conv => lhs; rw [eX9_soonest_46]
            simp only [eX9_soonest_48, eX9_soonest_50, eX9_soonest_53, eX9_soonest_54, eX9_soonest_55, eX9_soonest_56, eX9_soonest_58, eX9_soonest_60, eX9_soonest_63, eX9_soonest_65, eX9_soonest_67, eX9_soonest_69, eX9_soonest_72, eX9_soonest_73, eX9_soonest_75, eX9_soonest_78, eX9_soonest_80, eX9_soonest_81, eX9_soonest_84, eX9_soonest_86, eX9_soonest_89, eX9_soonest_90, eX9_soonest_91, eX9_soonest_94, Option.bind_some, Option.toList_some, Option.toList_none, List.cons_append, List.nil_append, el, if_false, if_true, G_o55, f1, eq_false h9, eq_false hl9, eq_true (show l ≤ mi from by grind), nI_1]
    obtain ⟨l', m1, m2⟩ := main
    obtain ⟨I2, l2, w2, y1, y2, y3⟩ := ih (x + 1) _ I1 l' (by omega) f2 m2
    exact ⟨I2, l2, w2, m1.trans y1, y2, y3⟩
set_option maxHeartbeats 1000000 in
theorem lp_so2 {I0 : Nat → Nat → Int32} {N k : Nat} {v : Int32} (hB : fBase I0 N) (hk : k < N) (hf2 : 0 ≤ mF I0 k 2 ∧ mF I0 k 2 ≤ 9) : ∀ (r n : Nat) (v6 v7 : Value) (I : Nat → Nat → Int32) (l : Int32), n + r = 6 → fFr I0 I → MN (okW N (mF I0) k v (bQ (I0 60))) (miW N (mF I0) k (bQ (I0 60))) (SMn n 0) l → ∃ I' l', zX zCd (zGG L xs) d 134 37 [.ref 55, .int (nI k), .int v, .int l, .int (nI (3 ^ n)), .int (nI n), v6, v7] [] (I, J) = some (some (.int l'), (zU I' 55 22 0, J)) ∧ fFr I0 I' ∧ MN (okW N (mF I0) k v (bQ (I0 60))) (miW N (mF I0) k (bQ (I0 60))) (SMn 6 0) l' := by
  intro r
  induction r with
  | zero =>
    intro n v6 v7 I l h hf hM
    obtain rfl : n = 6 := by omega
    refine ⟨I, l, ?_, hf, hM⟩
    rw [eX9_soonest_37]
    simp only [eX9_soonest_39, eX9_soonest_40, eX9_soonest_109, eX9_soonest_110, eX9_soonest_111, eX9_soonest_114, eX9_soonest_115, show ((5 : Int32) < nI 6) = True from eq_true (by decide +kernel), if_true, G_o55, zT_0]
  | succ r ih =>
    intro n v6 v7 I l h hf hM
    have el : ((5 : Int32) < nI n) = False := by rw [show ((5 : Int32) < nI n) = (5 < n) from @zlt 5 n (by omega) (by omega)]; exact eq_false (by omega)
    obtain ⟨I1, l1, w1, y1, y2, y3⟩ := lp_si (L := L) (xs := xs) (d := d) (J := J) (v := v) hB hk (show n ≤ 5 by omega) hf2 (3 ^ n) 0 v7 I l (by omega) hf hM
    obtain ⟨I2, l2, z1, z2, z3⟩ := ih (n + 1) _ w1 I1 l1 (by omega) y2 y3
    refine ⟨I2, l2, ?_, z2, z3⟩
    rw [eX9_soonest_37]
    simp only [eX9_soonest_39, eX9_soonest_40, eX9_soonest_43, eX9_soonest_44, el, if_false]
    exact y1.trans z1

set_option maxHeartbeats 1000000 in
theorem op_soonest {I : Nat → Nat → Int32} (hI : zInv I) (k v : Int32) : zOp L xs (d + 5) 58 134 [.int k, .int v] I J := by
  obtain ⟨⟨a1, a2, a3⟩, b, c1, c2, c3, N, ⟨n1, n2, n3, n4, n5, n6⟩, C, r1, r2, r3, r4, r5⟩ := id hI
  by_cases hp : 0 ≤ k ∧ k < nI N
  case neg =>
    refine ⟨(-1), I, I, J, J, ?_, ?_, hI⟩
    · simp only [nX8_soonest, eX8_soonest_0, eX8_soonest_1, eX8_soonest_4, eX8_soonest_5, eX8_soonest_8, eX8_soonest_11, eX8_soonest_12, Option.bind_some, Option.toList_some, Option.toList_none, List.cons_append, List.nil_append, G_o0, G_h0_0, G_r0_0, G_h0_1, G_r0_1, G_h0_2, G_r0_2, G_h0_3, G_r0_3, G_h0_4, G_r0_4, G_o10, G_h10_0, G_r10_0, G_h10_1, G_r10_1, G_q11, G_l11, G_o12, G_h12_0, G_r12_0, G_h12_1, G_r12_1, G_a13, G_l13, G_a14, G_l14, G_q1, G_l1, qX0_hasPlace, n2, eq_false hp, zb_1, if_false]
    · simp only [nX9_soonest, eX9_soonest_0, eX9_soonest_1, eX9_soonest_2, eX9_soonest_5, eX9_soonest_8, eX9_soonest_9, Option.bind_some, Option.toList_some, Option.toList_none, List.cons_append, List.nil_append, G_o55, G_h55_2, G_r55_2, G_a56, G_l56, G_h55_3, G_r55_3, G_a57, G_l57, G_h55_4, G_r55_4, G_a58, G_l58, G_h55_7, G_r55_7, G_a59, G_l59, G_h55_8, G_r55_8, G_a60, G_l60, G_h55_9, G_r55_9, G_a61, G_l61, G_h55_10, G_r55_10, G_a62, G_l62, G_h55_11, G_r55_11, G_a63, G_l63, G_h55_29, G_r55_29, G_a69, G_l69, G_h55_30, G_r55_30, G_a70, G_l70, qX9_isPlace, n3, eq_false hp, zb_1, if_false]
  obtain ⟨j, hj, rfl⟩ := zIdx hp.1 hp.2 (by omega)
  have hpt := eq_true hp
  have e0 : I (j + 15) 0 = I 59 j := c2 j 0 (by omega) (by decide)
  have e1 : I (j + 15) 1 = I 60 j := c2 j 1 (by omega) (by decide)
  have e2 : I (j + 15) 2 = I 61 j := c2 j 2 (by omega) (by decide)
  have e3 : I (j + 15) 3 = I 62 j := c2 j 3 (by omega) (by decide)
  have e4 : I (j + 15) 4 = I 63 j := c2 j 4 (by omega) (by decide)
  have hk3 : I 59 j = 0 ∨ I 59 j = 1 ∨ I 59 j = 2 := by
    have := (c3 j (by omega)).1
    rw [e0] at this
    exact this
  by_cases hv : 0 ≤ v ∧ v ≤ 10
  case neg =>
    refine ⟨(-2), I, I, J, J, ?_, ?_, hI⟩
    · simp only [nX8_soonest, eX8_soonest_0, eX8_soonest_1, eX8_soonest_4, eX8_soonest_5, eX8_soonest_8, eX8_soonest_11, eX8_soonest_12, eX8_soonest_13, eX8_soonest_14, eX8_soonest_17, eX8_soonest_20, eX8_soonest_22, Option.bind_some, Option.toList_some, Option.toList_none, List.cons_append, List.nil_append, G_o0, G_h0_0, G_r0_0, G_h0_1, G_r0_1, G_h0_2, G_r0_2, G_h0_3, G_r0_3, G_h0_4, G_r0_4, G_o10, G_h10_0, G_r10_0, G_h10_1, G_r10_1, G_q11, G_l11, G_o12, G_h12_0, G_r12_0, G_h12_1, G_r12_1, G_a13, G_l13, G_a14, G_l14, G_q1, G_l1, qX0_hasPlace, qX8_isSureness, n2, hpt, eq_false hv, zb_1, if_true, if_false]
    · simp only [nX9_soonest, eX9_soonest_0, eX9_soonest_1, eX9_soonest_2, eX9_soonest_5, eX9_soonest_8, eX9_soonest_9, eX9_soonest_10, eX9_soonest_11, eX9_soonest_12, eX9_soonest_14, eX9_soonest_17, eX9_soonest_20, eX9_soonest_22, Option.bind_some, Option.toList_some, Option.toList_none, List.cons_append, List.nil_append, G_o55, G_h55_2, G_r55_2, G_a56, G_l56, G_h55_3, G_r55_3, G_a57, G_l57, G_h55_4, G_r55_4, G_a58, G_l58, G_h55_7, G_r55_7, G_a59, G_l59, G_h55_8, G_r55_8, G_a60, G_l60, G_h55_9, G_r55_9, G_a61, G_l61, G_h55_10, G_r55_10, G_a62, G_l62, G_h55_11, G_r55_11, G_a63, G_l63, G_h55_29, G_r55_29, G_a69, G_l69, G_h55_30, G_r55_30, G_a70, G_l70, qX9_isPlace, qX9_within, n3, hpt, eq_false hv, zb_1, if_true, if_false]
  have hvt := eq_true hv
  have hF := hI.F
  have hkd : pKd N (mF I) := fun k hk => by
    rw [← hF]
    simp only [cF, if_pos (show k < 6 by omega)]
    exact (c3 k (by omega)).1
  have h60 : ∀ k, k < N → I (k + 15) 1 = I 60 k ∧ (0 ≤ I 60 k ∧ I 60 k ≤ 10) := fun k hk => by
    have e : I (k + 15) 1 = I 60 k := c2 k 1 (by omega) (by decide)
    have := (c3 k (by omega)).2.1
    rw [e] at this
    exact ⟨e, this⟩
  have hf2 : 0 ≤ mF I j 2 ∧ mF I j 2 ≤ 9 := by
    rw [← hF]
    simp only [cF, if_pos (show j < 6 by omega)]
    exact (c3 j (by omega)).2.2.1
  -- the class
  have jo : ∀ c, c ≠ 27 → zU I 27 5 (-9) c = I c := fun c h => zU_ne _ _ _ h
  have hp0 : zPg (zGG L xs) 31 := zPg_af (L := L) (xs := xs) (k := 0) (by omega)
  have bg := qX3_begin (L := L) (xs := xs) (d := d + 5) (J := J) (I := zU I 27 5 (-9)) hp0
  generalize hI1 : zsP 31 (zU I 27 5 (-9)) (cBg 31 (zU I 27 5 (-9))) = I1 at bg
  have i1o : ∀ c, c < 31 ∨ 34 < c → I1 c = zU I 27 5 (-9) c := fun c h => by rw [← hI1, zsP_ne _ _ _ (by omega)]
  have hc0 : tCtx I N 0 (bQ (I 60)) I1 := by
    refine ⟨fun c hc => by rw [i1o c (by omega), jo c (by omega)], ?_⟩
    show pEq N (zgP 31 I1) (bQ (I 60))
    rw [← hI1, zgP_s]
    exact bQ_c n1 (fun k hk => by rw [jo (k + 15) (by omega)]; exact h60 k hk)
  have i5 : I1 27 5 = -9 := by rw [i1o 27 (by omega), zU_at]
  obtain ⟨I2, y1, y2, y3⟩ := ts (L := L) (xs := xs) (d0 := d) (J := J) (I0 := I) (N := N) (k := j) (v := v) (Q0 := bQ (I 60)) n2 n1 (by rw [hF]; exact hkd) hj rfl (by rw [hF]; exact hf2) 5 0 (bQ (I 60)) [] I1 (fun _ => False) (by omega) rfl hc0 rfl (by rw [i5]; exact Or.inl ⟨rfl, fun p h => h.elim⟩)
  rw [hF] at y3
  have o2 : ∀ c, c < 27 ∨ 55 ≤ c → I2 c = I c := fun c h => by rw [y2.1 c (by omega), i1o c (by omega), jo c (by omega)]
  have lm : zE zCd (zGG L xs) (d + 5) 46 [.ref 27, .ref 10, .int (nI j), .int v] (I, J) = some (some (.int (I2 27 5)), (I2, J)) := by
    have y1' : zE zCd (zGG L xs) (d + 5) 47 [.ref 27, .ref 10, .int 0, .int (nI j), .int v] (I1, J) = some (none, (I2, J)) := y1
    have h0 := G_28h (L := L) (xs := xs) (k := 0) (by omega)
    have r0 : zRf (zGG L xs) 28 0 = 31 := G_28r (L := L) (xs := xs) (k := 0) (by omega)
    simp only [nX5_leastMinutes, eX5_leastMinutes_0, eX5_leastMinutes_1, eX5_leastMinutes_3, eX5_leastMinutes_6, eX5_leastMinutes_7, eX5_leastMinutes_10, eX5_leastMinutes_11, eX5_leastMinutes_12, eX5_leastMinutes_13, eX5_leastMinutes_16, eX5_leastMinutes_17, eX5_leastMinutes_18, eX5_leastMinutes_19, eX5_leastMinutes_20, eX5_leastMinutes_21, eX5_leastMinutes_24, eX5_leastMinutes_25, eX5_leastMinutes_28, Option.bind_some, Option.toList_some, Option.toList_none, List.cons_append, List.nil_append, G_o27, G_h27_0, G_r27_0, G_q28, G_l28, show zIv 0 6 from zIn_6 (k := 0) (by omega), zt0, h0, r0, hp0.2.1, bg, y1']
  -- the reference
  have i55 : I2 55 = I 55 := o2 55 (by decide)
  generalize hI3 : zU I2 55 22 1 = I3
  have k3o : ∀ c, c ≠ 55 → I3 c = I2 c := fun c h => by rw [← hI3, zU_ne _ _ _ h]
  have k35 : ∀ k, k ≠ 22 → I3 55 k = I 55 k := fun k h => by rw [← hI3, zU_k _ _ _ h, i55]
  have eF3 : mF I3 = mF I := by
    funext k j
    simp only [mF]
    split
    · rw [k3o (j + 59) (by omega), o2 (j + 59) (by omega)]
    · rfl
  have e60 : I3 60 = I 60 := by rw [k3o 60 (by decide), o2 60 (by decide)]
  have hB : fBase I3 N := ⟨by rw [k35 6 (by decide)]; exact n3, n1, by rw [← hI3, zU_at], by rw [eF3]; exact hkd, by rw [e60]; exact fun k hk => (h60 k hk).2⟩
  obtain ⟨I4, l', z1, z2, z3⟩ := lp_so2 (L := L) (xs := xs) (d := d + 5) (J := J) (v := v) hB hj (by rw [eF3]; exact hf2) 6 0 .null .null I3 (-9) (by omega) fFr.refl (Or.inl ⟨rfl, fun p h => by rcases h with ⟨m, y, a, -⟩ | ⟨y, a, -⟩ <;> omega⟩)
  rw [eF3, e60] at z3
  have el : I2 27 5 = l' := by
    refine MN.uniq (y3.congr (fun q => ?_)) z3
    constructor
    · rintro (h | ⟨u, h1, h2, h3⟩)
      · exact h.elim
      · obtain ⟨y, h4, h5⟩ := le3_ex u h2
        exact Or.inl ⟨u.length, y, by omega, h4, h3.trans h5⟩
    · rintro (⟨m, y, h1, h2, rfl⟩ | ⟨y, h1, -⟩)
      · exact Or.inr ⟨le3 m y, by rw [le3_len]; omega, le3_lt m y, rfl⟩
      · omega
  have q5 : ∀ k, k ≠ 16 → k ≠ 17 → k ≠ 21 → k ≠ 22 → zU I4 55 22 0 55 k = I 55 k := fun k a b c e => by rw [zU_k _ _ _ e, z2.2 k a b c, k35 k e]
  have qo : ∀ c, (c < 27 ∨ 56 ≤ c) → (c < 65 ∨ 67 < c) → zU I4 55 22 0 c = I c := fun c a b => by rw [zU_ne _ _ _ (by omega), z2.1 c (by omega) b, k3o c (by omega), o2 c (by omega)]
  refine ⟨l', I2, zU I4 55 22 0, J, J, ?_, ?_, ?_⟩
  · rw [← el]
    simp only [nX8_soonest, eX8_soonest_0, eX8_soonest_1, eX8_soonest_4, eX8_soonest_5, eX8_soonest_8, eX8_soonest_11, eX8_soonest_12, eX8_soonest_13, eX8_soonest_14, eX8_soonest_17, eX8_soonest_20, eX8_soonest_22, eX8_soonest_23, eX8_soonest_24, eX8_soonest_27, eX8_soonest_28, eX8_soonest_31, eX8_soonest_32, eX8_soonest_33, eX8_soonest_36, Option.bind_some, Option.toList_some, Option.toList_none, List.cons_append, List.nil_append, G_o0, G_h0_0, G_r0_0, G_h0_1, G_r0_1, G_h0_2, G_r0_2, G_h0_3, G_r0_3, G_h0_4, G_r0_4, G_o10, G_h10_0, G_r10_0, G_h10_1, G_r10_1, G_q11, G_l11, G_o12, G_h12_0, G_r12_0, G_h12_1, G_r12_1, G_a13, G_l13, G_a14, G_l14, G_q1, G_l1, qX0_hasPlace, qX8_isSureness, n2, hpt, hvt, zb_1, if_true, G_o27, lm]
  · simp only [nX9_soonest, eX9_soonest_0, eX9_soonest_1, eX9_soonest_2, eX9_soonest_5, eX9_soonest_8, eX9_soonest_9, eX9_soonest_10, eX9_soonest_11, eX9_soonest_12, eX9_soonest_14, eX9_soonest_17, eX9_soonest_20, eX9_soonest_22, eX9_soonest_23, eX9_soonest_24, eX9_soonest_25, eX9_soonest_28, eX9_soonest_30, eX9_soonest_31, eX9_soonest_32, eX9_soonest_34, eX9_soonest_35, Option.bind_some, Option.toList_some, Option.toList_none, List.cons_append, List.nil_append, G_o55, G_h55_2, G_r55_2, G_a56, G_l56, G_h55_3, G_r55_3, G_a57, G_l57, G_h55_4, G_r55_4, G_a58, G_l58, G_h55_7, G_r55_7, G_a59, G_l59, G_h55_8, G_r55_8, G_a60, G_l60, G_h55_9, G_r55_9, G_a61, G_l61, G_h55_10, G_r55_10, G_a62, G_l62, G_h55_11, G_r55_11, G_a63, G_l63, G_h55_29, G_r55_29, G_a69, G_l69, G_h55_30, G_r55_30, G_a70, G_l70, qX9_isPlace, qX9_within, i55, n3, hpt, hvt, zb_1, if_true, zT_1, hI3]
    exact z1
  · refine hI.keep (fun c hc => qo c (by omega) (by omega)) ?_ ?_ ?_ ?_ ?_ ?_
    · rw [qo 0 (by decide) (by decide), q5 0 (by decide) (by decide) (by decide) (by decide)]; exact a1
    · rw [qo 0 (by decide) (by decide), q5 1 (by decide) (by decide) (by decide) (by decide)]; exact a2
    · exact q5 5 (by decide) (by decide) (by decide) (by decide)
    · exact q5 6 (by decide) (by decide) (by decide) (by decide)
    · rw [zU_at]; exact a3.symm
    · exact q5 28 (by decide) (by decide) (by decide) (by decide)

end S
