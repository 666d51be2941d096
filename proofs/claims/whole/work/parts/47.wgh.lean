/-! what the class keeps -/
def v64 (N : Nat) (f : Nat → Nat → Int32) (Q0 : zPs) (p : List Nat) : Int64 := pRt N (endQ N f Q0 p)
def vI (N : Nat) (f : Nat → Nat → Int32) (Q0 : zPs) (p : List Nat) : Int := (v64 N f Q0 p).toInt
def Kp (y : List Nat) (kc : Int32) (K : Nat → Int32) : Prop := kc = nI y.length ∧ y.length ≤ 3 ∧ ∀ i, i < y.length → K i = nI (y.getD i 0)
def Ko (o : Option (List Nat)) (kc : Int32) (K : Nat → Int32) : Prop := match o with
  | none => kc = -1
  | some y => Kp y kc K
def Rb (N : Nat) (f : Nat → Nat → Int32) (Q0 : zPs) (o : Option (List Nat)) (kc _sm : Int32) (K : Nat → Int32) (mp : Int64) : Prop := match o with
  | none => mp = -1 ∧ kc = -1
  | some y => mp = v64 N f Q0 y ∧ Kp y kc K
noncomputable def soB (N : Nat) (f : Nat → Nat → Int32) (Q0 : zPs) (a v : Nat → Int32) (C : Nat) (p : List Nat) : Bool := pSo (endQ N f Q0 p).1 a v 0 C
noncomputable def wSn (so : List Nat → Bool) (s : Option (List Nat) × Nat) (p : List Nat) : Option (List Nat) × Nat := if so p = true then (bst (fun _ => 0) List.length s.1 p, s.2 + 1) else s
def Rs (s : Option (List Nat) × Nat) (kc sm : Int32) (K : Nat → Int32) (_mp : Int64) : Prop := sm = nI s.2 ∧ Ko s.1 kc K
set_option maxHeartbeats 1000000 in
theorem i64_le {u : Nat} (h : u < 2 ^ 60) : (-1 : Int64) < lN u := by
  rcases Nat.eq_zero_or_pos u with rfl | h0
  · decide +kernel
  · have g : (0 : Int64) < lN u := (pk_lLT (a := 0) (b := u) (by omega) (by omega)).mpr h0
    rw [Int64.lt_iff_toInt_lt] at g ⊢
    have e0 : (0 : Int64).toInt = 0 := by decide
    have e1 : (-1 : Int64).toInt = -1 := by decide
    omega
set_option maxHeartbeats 1000000 in
theorem cmp_g {x y : Int64} : ((0 : Int32) < lg_cmp x y) = (y < x) := propext (lg_cmp_gt x y)
set_option maxHeartbeats 1000000 in
theorem cmp_l {x y : Int64} : (lg_cmp x y ≤ 0) = (x ≤ y) := propext (lg_cmp_le x y)
set_option maxHeartbeats 1000000 in
theorem cmp_n {x y : Int64} : (lg_cmp x y ≠ 0) = ¬ (x = y) := by rw [ne_eq, show (lg_cmp x y = 0) = (x = y) from propext (lg_cmp_eq x y)]
set_option maxHeartbeats 1000000 in
theorem kp_cpy {pre : List Nat} {dd : Nat} {T K : Nat → Int32} (h3 : dd ≤ 3) (hl : pre.length = dd) (ht : ∀ i, i < dd → T i = nI (pre.getD i 0)) : Kp pre (nI dd) (va_cpy T K 0 0 dd) := by
  refine ⟨by rw [hl], by omega, fun i hi => ?_⟩
  rw [pk_cpy_in (by omega) (by omega), show 0 + (i - 0) = i by omega]
  exact ht i (by omega)
section S
variable {L : Nat} {xs : Nat → Int32} {d : Nat} {J : Nat → Nat → Int64} {I : Nat → Nat → Int32}
set_option maxHeartbeats 1000000 in
theorem qX5_keep {dd : Nat} (h3 : dd ≤ 3) : zE zCd (zGG L xs) d 45 [.ref 27, .int (nI dd)] (I, J) = some (none, (zU (zUr I 30 (va_cpy (I 29) (I 30) 0 0 dd)) 27 3 (nI dd), J)) := by
  have n0 : (nI dd < 0) = False := by rw [show (nI dd < 0) = (dd < 0) from @zlt dd 0 (by omega) (by omega)]; exact eq_false (by omega)
  simp only [nX5_keep, eX5_keep_0, eX5_keep_1, eX5_keep_4, eX5_keep_5, eX5_keep_6, eX5_keep_9, eX5_keep_10, eX5_keep_11, eX5_keep_14, eX5_keep_15, eX5_keep_16, eX5_keep_19, Option.bind_some, Option.toList_some, Option.toList_none, List.cons_append, List.nil_append, G_o27, G_h27_1, G_r27_1, G_h27_2, G_r27_2, G_a29, G_l29, G_a30, G_l30, zn00, n0, not_false_eq_true, zt0, zc_n (show dd ≤ 1000 by omega), Nat.zero_add, h3]
set_option maxHeartbeats 1000000 in
theorem qX5_weighBest {I0 : Nat → Nat → Int32} {N dd : Nat} {Q Q0 : zPs} {pre : List Nat} {o : Option (List Nat)} (hN : I0 10 2 = nI N) (h6 : N ≤ 6) (hd : dd ≤ 3) (hc : cCtx I0 N dd Q pre I) (he : endQ N (cF I0) Q0 pre = Q) (hR : Rb N (cF I0) Q0 o (I 27 3) (I 27 7) (I 30) (J 27 6)) : ∃ I' J', zE zCd (zGG L xs) d 43 [.ref 27, .ref 10, .int (nI dd)] (I, J) = some (none, (I', J')) ∧ cFr dd I I' ∧ Rb N (cF I0) Q0 (bst (vI N (cF I0) Q0) List.length o pre) (I' 27 3) (I' 27 7) (I' 30) (J' 27 6) := by
  obtain ⟨k1, k2, k3, k4, k5⟩ := id hc
  have iN : I 10 2 = nI N := by rw [k1 10 (by decide)]; exact hN
  have hpg := zPg_af (L := L) (xs := xs) (k := dd) (by omega)
  have rp := qX3_rightParts (L := L) (xs := xs) (d := d) (J := J) (I := I) hpg iN h6
  have ev : pRt N (zgP (4 * dd + 31) I) = v64 N (cF I0) Q0 pre := by rw [k3.rt, ← he]; rfl
  rw [ev] at rp
  obtain ⟨u, hu, eu⟩ := pRt_N h6 k3
  rw [ev] at eu
  have hu60 : u < 2 ^ 60 := Nat.lt_of_le_of_lt hu (ten_lt (by omega))
  generalize hV : v64 N (cF I0) Q0 pre = V at rp eu
  have kp := fun JJ : Nat → Nat → Int64 => qX5_keep (L := L) (xs := xs) (d := d) (J := JJ) (I := I) hd
  generalize hI' : zU (zUr I 30 (va_cpy (I 29) (I 30) 0 0 dd)) 27 3 (nI dd) = I' at kp
  have io : ∀ c, c ≠ 27 → c ≠ 30 → I' c = I c := fun c x y => by rw [← hI', zU_ne _ _ _ x, zUr_ne _ _ y]
  have i27 : ∀ k, k ≠ 3 → I' 27 k = I 27 k := fun k h => by rw [← hI', zU_k _ _ _ h, zUr_ne _ _ (by decide)]
  have i3 : I' 27 3 = nI dd := by rw [← hI', zU_at]
  have i30 : I' 30 = va_cpy (I 29) (I 30) 0 0 dd := by rw [← hI', zU_ne _ _ _ (by decide), zUr_self]
  have fr : cFr dd I I' := ⟨fun c hc => io c (by omega) (by omega), fun k a _ => i27 k a, fun i _ => by rw [io 29 (by decide) (by decide)]⟩
  have kk : Kp pre (I' 27 3) (I' 30) := by rw [i3, i30]; exact kp_cpy hd k4 k5
  have u6 : ∀ x : Int64, zUL J 27 6 x 27 6 = x := fun x => by simp [zUL]
  have keep : (zX zCd (zGG L xs) d 43 37 [.ref 27, .ref 10, .int (nI dd), .long V, .null] [] (I, J)) = some (none, (I', zUL J 27 6 V)) := by
    simp only [eX5_weighBest_37, eX5_weighBest_38, eX5_weighBest_39, eX5_weighBest_42, eX5_weighBest_43, eX5_weighBest_44, eX5_weighBest_47, Option.bind_some, Option.toList_some, Option.toList_none, List.cons_append, List.nil_append, G_o27, kp]
  have pre0 : zE zCd (zGG L xs) d 43 [.ref 27, .ref 10, .int (nI dd)] (I, J) = if J 27 6 < V then zX zCd (zGG L xs) d 43 37 [.ref 27, .ref 10, .int (nI dd), .long V, .null] [] (I, J) else zX zCd (zGG L xs) d 43 20 [.ref 27, .ref 10, .int (nI dd), .long V, .null] [] (I, J) := by
    simp only [nX5_weighBest, eX5_weighBest_0, eX5_weighBest_1, eX5_weighBest_4, eX5_weighBest_5, eX5_weighBest_6, eX5_weighBest_7, eX5_weighBest_10, eX5_weighBest_11, eX5_weighBest_12, eX5_weighBest_13, eX5_weighBest_16, eX5_weighBest_17, Option.bind_some, Option.toList_some, Option.toList_none, List.cons_append, List.nil_append, G_o27, G_h27_0, G_r27_0, G_q28, G_l28, zIn_6 (show dd < 6 by omega), zc_n (show dd ≤ 1000 by omega), G_28h (show dd < 6 by omega), G_28r (show dd < 6 by omega), hpg.2.1, rp, cmp_g]
  rw [pre0]
  have done : ∃ I'' J'', some ((none : Option Value), (I', zUL J 27 6 V)) = some (none, (I'', J'')) ∧ cFr dd I I'' ∧ Rb N (cF I0) Q0 (some pre) (I'' 27 3) (I'' 27 7) (I'' 30) (J'' 27 6) :=
    ⟨I', zUL J 27 6 V, rfl, fr, ⟨by rw [u6, hV], kk⟩⟩
  cases o with
  | none =>
    obtain ⟨r1, r2⟩ := hR
    rw [if_pos (by rw [r1, eu]; exact i64_le hu60), keep]
    exact done
  | some y =>
    obtain ⟨r1, r2, r3, r4⟩ := id hR
    by_cases hb : J 27 6 < V
    · have hbt : btr (vI N (cF I0) Q0) List.length pre y := Or.inl (by unfold vI; rw [hV, ← r1]; exact Int64.lt_iff_toInt_lt.mp hb)
      rw [if_pos hb, keep, bst_y hbt]
      exact done
    · rw [if_neg hb]
      have el : (nI y.length ≤ nI dd) = (y.length ≤ dd) := zle (by omega) (by omega)
      by_cases hb2 : V = J 27 6 ∧ dd < y.length
      · have hbt : btr (vI N (cF I0) Q0) List.length pre y := Or.inr ⟨by unfold vI; rw [hV, ← r1, hb2.1], by rw [k4]; exact hb2.2⟩
        rw [bst_y hbt]
        have : zX zCd (zGG L xs) d 43 20 [.ref 27, .ref 10, .int (nI dd), .long V, .null] [] (I, J) = some (none, (I', zUL J 27 6 V)) := by
          rw [← keep]
          simp only [eX5_weighBest_20, eX5_weighBest_21, eX5_weighBest_22, eX5_weighBest_25, eX5_weighBest_26, eX5_weighBest_29, eX5_weighBest_30, eX5_weighBest_31, eX5_weighBest_34, G_o27, cmp_n, eq_true hb2.1, not_true_eq_false, if_false, r2, el, eq_false (show ¬ y.length ≤ dd by omega)]
        rw [this]
        exact done
      · have hbt : ¬ btr (vI N (cF I0) Q0) List.length pre y := by
          rintro (h | ⟨h, h2⟩)
          · unfold vI at h
            rw [hV, ← r1] at h
            exact hb (Int64.lt_iff_toInt_lt.mpr h)
          · unfold vI at h
            rw [hV, ← r1] at h
            exact hb2 ⟨Int64.toInt_inj.mp h, by rw [k4] at h2; exact h2⟩
        rw [bst_k hbt]
        refine ⟨I, J, ?_, cFr.refl, hR⟩
        by_cases hv : V = J 27 6
        · simp only [eX5_weighBest_20, eX5_weighBest_21, eX5_weighBest_22, eX5_weighBest_25, eX5_weighBest_26, eX5_weighBest_29, eX5_weighBest_30, eX5_weighBest_31, eX5_weighBest_34, eX5_weighBest_47, G_o27, cmp_n, eq_true hv, not_true_eq_false, if_false, if_true, r2, el, eq_true (show y.length ≤ dd from Nat.le_of_not_lt (fun x => hb2 ⟨hv, x⟩))]
        · simp only [eX5_weighBest_20, eX5_weighBest_21, eX5_weighBest_22, eX5_weighBest_25, eX5_weighBest_26, eX5_weighBest_29, eX5_weighBest_30, eX5_weighBest_31, eX5_weighBest_34, eX5_weighBest_47, G_o27, cmp_n, eq_false hv, not_false_eq_true, if_true]
set_option maxHeartbeats 1000000 in
theorem qX5_weighSeen {I0 : Nat → Nat → Int32} {N dd C : Nat} {Q Q0 : zPs} {pre : List Nat} {s : Option (List Nat) × Nat} (h6 : N ≤ 6) (hd : dd ≤ 3) (hC : I0 12 2 = nI C) (h8 : C ≤ 8) (ha : ∀ q, q < C → ∃ a, a < N ∧ I0 13 q = nI a) (hc : cCtx I0 N dd Q pre I) (he : endQ N (cF I0) Q0 pre = Q) (hR : Rs s (I 27 3) (I 27 7) (I 30) (J 27 6)) : ∃ I', zE zCd (zGG L xs) d 44 [.ref 27, .ref 10, .int (nI dd)] (I, J) = some (none, (I', J)) ∧ cFr dd I I' ∧ Rs (wSn (soB N (cF I0) Q0 (I0 13) (I0 14) C) s pre) (I' 27 3) (I' 27 7) (I' 30) (J 27 6) := by
  obtain ⟨k1, k2, k3, k4, k5⟩ := id hc
  have hpg := zPg_af (L := L) (xs := xs) (k := dd) (by omega)
  have so := qX4_areSo (L := L) (xs := xs) (d := d) (J := J) (I := I) (p := 4 * dd + 31) (C := C) hpg (by rw [k1 12 (by decide)]; exact hC) h8 (fun k hk => by
    rw [k1 13 (by decide)]
    obtain ⟨a, h1, h2⟩ := ha k hk
    rw [h2]
    exact zIv_lt h6 h1)
  have e0 : pSo (I (4 * dd + 31 + 1)) (I 13) (I 14) 0 C = soB N (cF I0) Q0 (I0 13) (I0 14) C pre := by
    rw [k1 13 (by decide), k1 14 (by decide)]
    unfold soB
    rw [he]
    exact so_eq (P := zgP (4 * dd + 31) I) h6 k3 (fun q hq => ⟨rfl, rfl, ha q hq⟩) C 0 (by omega)
  rw [e0] at so
  obtain ⟨r1, r2⟩ := id hR
  by_cases hso : soB N (cF I0) Q0 (I0 13) (I0 14) C pre = true
  · rw [if_pos hso] at so
    have ew : wSn (soB N (cF I0) Q0 (I0 13) (I0 14) C) s pre = (bst (fun _ => 0) List.length s.1 pre, s.2 + 1) := if_pos hso
    rw [ew]
    generalize hI1 : zU I 27 7 (nI (s.2 + 1)) = I1
    have j27 : ∀ k, k ≠ 7 → I1 27 k = I 27 k := fun k h => by rw [← hI1, zU_k _ _ _ h]
    have j7 : I1 27 7 = nI (s.2 + 1) := by rw [← hI1, zU_at]
    have jo : ∀ c, c ≠ 27 → I1 c = I c := fun c h => by rw [← hI1, zU_ne _ _ _ h]
    have f1 : cFr dd I I1 := ⟨fun c hc => jo c (by omega), fun k _ b => j27 k b, fun i _ => by rw [jo 29 (by decide)]⟩
    have kp := qX5_keep (L := L) (xs := xs) (d := d) (J := J) (I := I1) hd
    generalize hI' : zU (zUr I1 30 (va_cpy (I1 29) (I1 30) 0 0 dd)) 27 3 (nI dd) = I' at kp
    have io : ∀ c, c ≠ 27 → c ≠ 30 → I' c = I1 c := fun c x y => by rw [← hI', zU_ne _ _ _ x, zUr_ne _ _ y]
    have i27 : ∀ k, k ≠ 3 → I' 27 k = I1 27 k := fun k h => by rw [← hI', zU_k _ _ _ h, zUr_ne _ _ (by decide)]
    have i3 : I' 27 3 = nI dd := by rw [← hI', zU_at]
    have i30 : I' 30 = va_cpy (I1 29) (I1 30) 0 0 dd := by rw [← hI', zU_ne _ _ _ (by decide), zUr_self]
    have f2 : cFr dd I I' := f1.trans ⟨fun c hc => io c (by omega) (by omega), fun k a _ => i27 k a, fun i _ => by rw [io 29 (by decide) (by decide)]⟩
    have kk : Kp pre (I' 27 3) (I' 30) := by
      rw [i3, i30, jo 29 (by decide)]
      exact kp_cpy hd k4 k5
    have pre0 : zE zCd (zGG L xs) d 44 [.ref 27, .ref 10, .int (nI dd)] (I, J) = zX zCd (zGG L xs) d 44 27 [.ref 27, .ref 10, .int (nI dd)] [] (I1, J) := by
      simp only [nX5_weighSeen, eX5_weighSeen_0, eX5_weighSeen_1, eX5_weighSeen_4, eX5_weighSeen_5, eX5_weighSeen_8, eX5_weighSeen_9, eX5_weighSeen_10, eX5_weighSeen_13, eX5_weighSeen_16, eX5_weighSeen_17, eX5_weighSeen_18, eX5_weighSeen_19, eX5_weighSeen_22, eX5_weighSeen_23, eX5_weighSeen_24, Option.bind_some, Option.toList_some, Option.toList_none, List.cons_append, List.nil_append, G_o10, G_h10_1, G_r10_1, G_o12, G_o27, G_h27_0, G_r27_0, G_q28, G_l28, zIn_6 (show dd < 6 by omega), zc_n (show dd ≤ 1000 by omega), G_28h (show dd < 6 by omega), G_28r (show dd < 6 by omega), so, show ((1 : Int32) ≠ 0) = True from by decide, if_true, r1, nI_1, hI1]
    have keep : zX zCd (zGG L xs) d 44 43 [.ref 27, .ref 10, .int (nI dd)] [] (I1, J) = some (none, (I', J)) := by
      simp only [eX5_weighSeen_43, eX5_weighSeen_44, eX5_weighSeen_45, eX5_weighSeen_48, Option.bind_some, Option.toList_some, Option.toList_none, List.cons_append, List.nil_append, G_o27, kp]
    have j3 := j27 3 (by decide)
    rw [pre0]
    cases ho : s.1 with
    | none =>
      rw [ho] at r2
      have r2 : I 27 3 = -1 := r2
      refine ⟨I', ?_, f2, ⟨by rw [i27 7 (by decide), j7], kk⟩⟩
      rw [← keep]
      simp only [eX5_weighSeen_27, eX5_weighSeen_28, eX5_weighSeen_31, eX5_weighSeen_32, G_o27, j3, r2, if_true]
    | some y =>
      rw [ho] at r2
      obtain ⟨q1, q2, q3⟩ : Kp y (I 27 3) (I 30) := r2
      have en : (nI y.length = -1) = False := eq_false (fun e => by
        have := nI_toInt (n := y.length) (by omega)
        rw [e] at this
        have h2 : (-1 : Int32).toInt = -1 := by decide
        omega)
      have el : (nI y.length ≤ nI dd) = (y.length ≤ dd) := zle (by omega) (by omega)
      by_cases hl : dd < y.length
      · rw [bst_y (show btr (fun _ => 0) List.length pre y from Or.inr ⟨rfl, by rw [k4]; exact hl⟩)]
        refine ⟨I', ?_, f2, ⟨by rw [i27 7 (by decide), j7], kk⟩⟩
        rw [← keep]
        simp only [eX5_weighSeen_27, eX5_weighSeen_28, eX5_weighSeen_31, eX5_weighSeen_32, eX5_weighSeen_35, eX5_weighSeen_36, eX5_weighSeen_37, eX5_weighSeen_40, G_o27, j3, q1, en, el, eq_false (show ¬ y.length ≤ dd by omega), if_false]
      · rw [bst_k (show ¬ btr (fun _ => 0) List.length pre y from fun x => by
          have x : (0 : Int) < 0 ∨ ((0 : Int) = 0 ∧ pre.length < y.length) := x
          omega)]
        refine ⟨I1, ?_, f1, ⟨j7, ?_⟩⟩
        · simp only [eX5_weighSeen_27, eX5_weighSeen_28, eX5_weighSeen_31, eX5_weighSeen_32, eX5_weighSeen_35, eX5_weighSeen_36, eX5_weighSeen_37, eX5_weighSeen_40, eX5_weighSeen_48, G_o27, j3, q1, en, el, eq_true (show y.length ≤ dd by omega), if_true, if_false]
        · rw [j3, jo 30 (by decide)]
          exact ⟨q1, q2, q3⟩
  · rw [if_neg hso] at so
    have ew : wSn (soB N (cF I0) Q0 (I0 13) (I0 14) C) s pre = s := if_neg hso
    rw [ew]
    refine ⟨I, ?_, cFr.refl, hR⟩
    simp only [nX5_weighSeen, eX5_weighSeen_0, eX5_weighSeen_1, eX5_weighSeen_4, eX5_weighSeen_5, eX5_weighSeen_8, eX5_weighSeen_9, eX5_weighSeen_10, eX5_weighSeen_13, eX5_weighSeen_16, Option.bind_some, Option.toList_some, Option.toList_none, List.cons_append, List.nil_append, G_o10, G_h10_1, G_r10_1, G_o12, G_o27, G_h27_0, G_r27_0, G_q28, G_l28, zIn_6 (show dd < 6 by omega), zc_n (show dd ≤ 1000 by omega), G_28h (show dd < 6 by omega), G_28r (show dd < 6 by omega), so, show ((0 : Int32) ≠ 0) = False from by decide, if_false]
/-- where all begins, the same for both -/
def bQ (r : Nat → Int32) : zPs := (r, fun _ => 5, fun _ => 0, 0, 0)
set_option maxHeartbeats 1000000 in
theorem bQ_c {N p : Nat} {r : Nat → Int32} (h6 : N ≤ 6) (h : ∀ k, k < N → I (k + 15) 1 = r k ∧ (0 ≤ r k ∧ r k ≤ 10)) : pEq N (cBg p I) (bQ r) := by
  refine ⟨fun k hk => ?_, fun k hk => ?_, rfl, rfl⟩
  · obtain ⟨h1, h2⟩ := h k hk
    simp only [cBg, bQ, if_pos (show k < 6 by omega), h1]
    exact ⟨trivial, trivial, h2⟩
  · simp only [cBg, bQ, if_pos (show k < 5 by omega)]
    exact ⟨trivial, by decide⟩
set_option maxHeartbeats 1000000 in
theorem qX5_lookThrough {σ : Type} {R : σ → Int32 → Int32 → (Nat → Int32) → Int64 → Prop} {ws : σ → List Nat → σ} {N n d0 : Nat} {r : Nat → Int32} {s : σ} (hN : I 10 2 = nI N) (h6 : N ≤ 6) (hk : pKd N (cF I)) (hn : n ≤ 3) (hr : ∀ k, k < N → I (k + 15) 1 = r k ∧ (0 ≤ r k ∧ r k ≤ 10))
    (hW : ∀ (d dd : Nat) (m : Int32) (Q : zPs) (pre : List Nat) (I' : Nat → Nat → Int32) (J : Nat → Nat → Int64) (s : σ), dd ≤ 3 → cCtx I N dd Q pre I' → endQ N (cF I) (bQ r) pre = Q → R s (I' 27 3) (I' 27 7) (I' 30) (J 27 6) → ∃ I'' J'', zX zCd (zGG L xs) d 42 0 [.ref 27, .ref 10, .int (nI dd), .int m, .null, .null, .null, .null] [] (I', J) = zX zCd (zGG L xs) d 42 22 [.ref 27, .ref 10, .int (nI dd), .int m, .null, .null, .null, .null] [] (I'', J'') ∧ cFr dd I' I'' ∧ R (ws s pre) (I'' 27 3) (I'' 27 7) (I'' 30) (J'' 27 6))
    (hR : ∀ K : Nat → Int32, R s (-1) 0 K (-1)) : ∃ I' J', zE zCd (zGG L xs) (d0 + n) 41 [.ref 27, .ref 10, .int (nI n)] (I, J) = some (none, (I', J')) ∧ (∀ c, c < 27 ∨ 55 ≤ c → I' c = I c) ∧ R ((dfs N (I 10 3) (cF I) n (bQ r)).foldl ws s) (I' 27 3) (I' 27 7) (I' 30) (J' 27 6) := by
  have em : ((3 : Int32) < nI n) = False := by rw [show ((3 : Int32) < nI n) = (3 < n) from @zlt 3 n (by omega) (by omega)]; exact eq_false (by omega)
  generalize hI1 : zU (zU I 27 3 (-1)) 27 7 0 = I1
  have jo : ∀ c, c ≠ 27 → I1 c = I c := fun c h => by rw [← hI1, zU_ne _ _ _ h, zU_ne _ _ _ h]
  have hp0 : zPg (zGG L xs) 31 := zPg_af (L := L) (xs := xs) (k := 0) (by omega)
  have bg := qX3_begin (L := L) (xs := xs) (d := d0 + n) (J := zUL J 27 6 (-1)) (I := I1) hp0
  generalize hI2 : zsP 31 I1 (cBg 31 I1) = I2 at bg
  have i2o : ∀ c, c < 31 ∨ 34 < c → I2 c = I1 c := fun c h => by rw [← hI2, zsP_ne _ _ _ (by omega)]
  have hc : cCtx I N 0 (bQ r) [] I2 := by
    refine ⟨fun c hc => by rw [i2o c (by omega), jo c (by omega)], ?_, ?_, rfl, fun i hi => by omega⟩
    · rw [i2o 27 (by omega), ← hI1, zU_k _ _ _ (by decide), zU_k _ _ _ (by decide)]
    · show pEq N (zgP 31 I2) (bQ r)
      rw [← hI2, zgP_s]
      exact bQ_c h6 (fun k hk => by rw [jo (k + 15) (by omega)]; exact hr k hk)
  have hR2 : R s (I2 27 3) (I2 27 7) (I2 30) ((zUL J 27 6 (-1)) 27 6) := by
    rw [i2o 27 (by omega), ← hI1, zU_k _ _ _ (by decide), zU_at, zU_at]
    have : zUL J 27 6 (-1) 27 6 = -1 := by simp [zUL]
    rw [this]
    exact hR _
  obtain ⟨I3, J3, y1, y2, y3⟩ := tf (L := L) (xs := xs) (R := R) (ws := ws) (Q0 := bQ r) hN h6 hk hW d0 n 0 (bQ r) [] I2 (zUL J 27 6 (-1)) s (by omega) hc rfl hR2
  refine ⟨I3, J3, ?_, fun c hc => by rw [y2.1 c (by omega), i2o c (by omega), jo c (by omega)], ?_⟩
  · rw [Nat.zero_add] at y1
    have y1' : zE zCd (zGG L xs) (d0 + n) 42 [.ref 27, .ref 10, .int 0, .int (nI n)] (I2, zUL J 27 6 (-1)) = some (none, (I3, J3)) := y1
    have h0 := G_28h (L := L) (xs := xs) (k := 0) (by omega)
    have r0 : zRf (zGG L xs) 28 0 = 31 := G_28r (L := L) (xs := xs) (k := 0) (by omega)
    simp only [nX5_lookThrough, eX5_lookThrough_0, eX5_lookThrough_1, eX5_lookThrough_2, eX5_lookThrough_5, eX5_lookThrough_6, eX5_lookThrough_9, eX5_lookThrough_12, eX5_lookThrough_13, eX5_lookThrough_14, eX5_lookThrough_17, eX5_lookThrough_18, eX5_lookThrough_21, eX5_lookThrough_22, eX5_lookThrough_23, eX5_lookThrough_24, eX5_lookThrough_27, eX5_lookThrough_28, eX5_lookThrough_29, eX5_lookThrough_30, eX5_lookThrough_31, eX5_lookThrough_32, eX5_lookThrough_35, eX5_lookThrough_38, Option.bind_some, Option.toList_some, Option.toList_none, List.cons_append, List.nil_append, G_o27, G_h27_0, G_r27_0, G_q28, G_l28, show zIv 0 6 from zIn_6 (k := 0) (by omega), zt0, h0, r0, hI1, hp0.2.1, bg, em, if_false, y1']
  · have : (dfs N (I 10 3) (cF I) n (bQ r)).map (fun r => [] ++ r) = dfs N (I 10 3) (cF I) n (bQ r) := by simp
    rw [this] at y3
    exact y3
set_option maxHeartbeats 1000000 in
theorem qX5_lookForBest {N n d0 : Nat} {r : Nat → Int32} (hN : I 10 2 = nI N) (h6 : N ≤ 6) (hk : pKd N (cF I)) (hn : n ≤ 3) (hr : ∀ k, k < N → I (k + 15) 1 = r k ∧ (0 ≤ r k ∧ r k ≤ 10)) : ∃ I' J', zE zCd (zGG L xs) (d0 + n) 38 [.ref 27, .ref 10, .int (nI n)] (I, J) = some (none, (I', J')) ∧ (∀ c, c < 27 ∨ 55 ≤ c → I' c = I c) ∧ Rb N (cF I) (bQ r) ((dfs N (I 10 3) (cF I) n (bQ r)).foldl (bst (vI N (cF I) (bQ r)) List.length) none) (I' 27 3) (I' 27 7) (I' 30) (J' 27 6) := by
  have jo : ∀ c, c ≠ 27 → zU I 27 4 1 c = I c := fun c h => zU_ne _ _ _ h
  have ecF : cF (zU I 27 4 1) = cF I := cF_lo (fun c hc => jo c (by omega))
  obtain ⟨I', J', y1, y2, y3⟩ := qX5_lookThrough (L := L) (xs := xs) (J := J) (I := zU I 27 4 1) (d0 := d0) (N := N) (n := n) (r := r) (σ := Option (List Nat)) (R := Rb N (cF I) (bQ r)) (ws := bst (vI N (cF I) (bQ r)) List.length) (s := none) (by rw [jo 10 (by decide)]; exact hN) h6 (by rw [ecF]; exact hk) hn (fun k hk => by rw [jo (k + 15) (by omega)]; exact hr k hk) (fun d dd m Q pre I1 J1 s h3 hc he hR => by
    rw [ecF] at he
    have e0 : cF I = cF (zU I 27 4 1) := ecF.symm
    rw [e0] at hR he
    obtain ⟨I2, J2, z1, z2, z3⟩ := qX5_weighBest (L := L) (xs := xs) (d := d) (J := J1) (I := I1) (I0 := zU I 27 4 1) (N := N) (dd := dd) (Q := Q) (Q0 := bQ r) (pre := pre) (o := s) (by rw [jo 10 (by decide)]; exact hN) h6 h3 hc he hR
    rw [← e0] at z3
    refine ⟨I2, J2, ?_, z2, z3⟩
    have e4 : I1 27 4 = 1 := by rw [hc.2.1, zU_at]
    simp only [eX5_tryFrom_0, eX5_tryFrom_1, eX5_tryFrom_4, eX5_tryFrom_7, eX5_tryFrom_8, eX5_tryFrom_9, eX5_tryFrom_10, eX5_tryFrom_13, Option.bind_some, Option.toList_some, Option.toList_none, List.cons_append, List.nil_append, G_o27, e4, show ((1 : Int32) = 0) = False from by decide, if_false, z1]) (fun K => ⟨rfl, rfl⟩)
  rw [ecF, jo 10 (by decide)] at y3
  refine ⟨I', J', ?_, fun c hc => by rw [y2 c hc, jo c (by omega)], y3⟩
  simp only [nX5_lookForBest, eX5_lookForBest_0, eX5_lookForBest_1, eX5_lookForBest_2, eX5_lookForBest_5, eX5_lookForBest_6, eX5_lookForBest_7, eX5_lookForBest_8, eX5_lookForBest_11, Option.bind_some, Option.toList_some, Option.toList_none, List.cons_append, List.nil_append, G_o27, zT_1, y1]
set_option maxHeartbeats 1000000 in
theorem qX5_lookForSeen {N n d0 C : Nat} {r : Nat → Int32} (hN : I 10 2 = nI N) (h6 : N ≤ 6) (hk : pKd N (cF I)) (hn : n ≤ 3) (hr : ∀ k, k < N → I (k + 15) 1 = r k ∧ (0 ≤ r k ∧ r k ≤ 10)) (hC : I 12 2 = nI C) (h8 : C ≤ 8) (ha : ∀ q, q < C → ∃ a, a < N ∧ I 13 q = nI a) : ∃ I' J', zE zCd (zGG L xs) (d0 + n) 39 [.ref 27, .ref 10, .int (nI n)] (I, J) = some (none, (I', J')) ∧ (∀ c, c < 27 ∨ 55 ≤ c → I' c = I c) ∧ Rs ((dfs N (I 10 3) (cF I) n (bQ r)).foldl (wSn (soB N (cF I) (bQ r) (I 13) (I 14) C)) (none, 0)) (I' 27 3) (I' 27 7) (I' 30) (J' 27 6) := by
  have jo : ∀ c, c ≠ 27 → zU I 27 4 0 c = I c := fun c h => zU_ne _ _ _ h
  have ecF : cF (zU I 27 4 0) = cF I := cF_lo (fun c hc => jo c (by omega))
  obtain ⟨I', J', y1, y2, y3⟩ := qX5_lookThrough (L := L) (xs := xs) (J := J) (I := zU I 27 4 0) (d0 := d0) (N := N) (n := n) (r := r) (σ := Option (List Nat) × Nat) (R := Rs) (ws := wSn (soB N (cF I) (bQ r) (I 13) (I 14) C)) (s := (none, 0)) (by rw [jo 10 (by decide)]; exact hN) h6 (by rw [ecF]; exact hk) hn (fun k hk => by rw [jo (k + 15) (by omega)]; exact hr k hk) (fun d dd m Q pre I1 J1 s h3 hc he hR => by
    obtain ⟨I2, z1, z2, z3⟩ := qX5_weighSeen (L := L) (xs := xs) (d := d) (J := J1) (I := I1) (I0 := zU I 27 4 0) (N := N) (dd := dd) (C := C) (Q := Q) (Q0 := bQ r) (pre := pre) (s := s) h6 h3 (by rw [jo 12 (by decide)]; exact hC) h8 (by rw [jo 13 (by decide)]; exact ha) hc he hR
    rw [ecF, jo 13 (by decide), jo 14 (by decide)] at z3
    refine ⟨I2, J1, ?_, z2, z3⟩
    have e4 : I1 27 4 = 0 := by rw [hc.2.1, zU_at]
    simp only [eX5_tryFrom_0, eX5_tryFrom_1, eX5_tryFrom_4, eX5_tryFrom_7, eX5_tryFrom_8, eX5_tryFrom_9, eX5_tryFrom_10, eX5_tryFrom_13, eX5_tryFrom_16, eX5_tryFrom_17, eX5_tryFrom_18, eX5_tryFrom_19, Option.bind_some, Option.toList_some, Option.toList_none, List.cons_append, List.nil_append, G_o27, e4, if_true, z1]) (fun K => ⟨rfl, rfl⟩)
  rw [ecF, jo 10 (by decide)] at y3
  refine ⟨I', J', ?_, fun c hc => by rw [y2 c hc, jo c (by omega)], y3⟩
  simp only [nX5_lookForSeen, eX5_lookForSeen_0, eX5_lookForSeen_1, eX5_lookForSeen_2, eX5_lookForSeen_5, eX5_lookForSeen_6, eX5_lookForSeen_7, eX5_lookForSeen_8, eX5_lookForSeen_11, Option.bind_some, Option.toList_some, Option.toList_none, List.cons_append, List.nil_append, G_o27, zT_0, y1]
/-- what is told of the plan that was kept -/
def kAns (o : Option (List Nat)) (q : Nat) : Int32 := match o with
  | none => -9
  | some y => if q < y.length then nI (y.getD q 0) else -9
set_option maxHeartbeats 1000000 in
theorem qX5_keptStep {o : Option (List Nat)} {q : Nat} (hq : q < 3) (h : Ko o (I 27 3) (I 30)) : zE zCd (zGG L xs) d 40 [.ref 27, .int (nI q)] (I, J) = some (some (.int (kAns o q)), (I, J)) := by
  have n0 : (nI q < 0) = False := by rw [show (nI q < 0) = (q < 0) from @zlt q 0 (by omega) (by omega)]; exact eq_false (by omega)
  cases o with
  | none =>
    have h : I 27 3 = -1 := h
    have el : ((-1 : Int32) ≤ nI q) = True := eq_true (by
      have := nI_nn (a := q) (by omega)
      grind)
    simp only [nX5_keptStep, eX5_keptStep_0, eX5_keptStep_1, eX5_keptStep_4, eX5_keptStep_5, eX5_keptStep_6, eX5_keptStep_9, eX5_keptStep_12, eX5_keptStep_13, eX5_keptStep_16, eX5_keptStep_17, eX5_keptStep_18, eX5_keptStep_21, eX5_keptStep_23, G_o27, n0, if_false, h, el, if_true, kAns]
  | some y =>
    obtain ⟨h1, h2, h3⟩ : Kp y (I 27 3) (I 30) := h
    have el : (nI y.length ≤ nI q) = (y.length ≤ q) := zle (by omega) (by omega)
    by_cases hl : q < y.length
    · simp only [nX5_keptStep, eX5_keptStep_0, eX5_keptStep_1, eX5_keptStep_4, eX5_keptStep_5, eX5_keptStep_6, eX5_keptStep_9, eX5_keptStep_12, eX5_keptStep_13, eX5_keptStep_16, eX5_keptStep_17, eX5_keptStep_18, eX5_keptStep_21, eX5_keptStep_23, G_o27, G_h27_2, G_r27_2, G_a30, G_l30, n0, if_false, h1, el, eq_false (show ¬ y.length ≤ q by omega), zIn_3 hq, zc_n (show q ≤ 1000 by omega), h3 q hl, kAns, if_pos hl]
    · simp only [nX5_keptStep, eX5_keptStep_0, eX5_keptStep_1, eX5_keptStep_4, eX5_keptStep_5, eX5_keptStep_6, eX5_keptStep_9, eX5_keptStep_12, eX5_keptStep_13, eX5_keptStep_16, eX5_keptStep_17, eX5_keptStep_18, eX5_keptStep_21, eX5_keptStep_23, G_o27, n0, if_false, h1, el, eq_true (show y.length ≤ q by omega), if_true, kAns, if_neg hl]
end S
