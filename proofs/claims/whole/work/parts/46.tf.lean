/-! the class goes through all plans of a few steps -/
def cFr (dd : Nat) (I I' : Nat → Nat → Int32) : Prop := (∀ c, c < 27 ∨ c = 28 ∨ (31 ≤ c ∧ c < 4 * dd + 35) ∨ 55 ≤ c → I' c = I c) ∧ (∀ k, k ≠ 3 → k ≠ 7 → I' 27 k = I 27 k) ∧ (∀ i, i < dd → I' 29 i = I 29 i)
set_option maxHeartbeats 1000000 in
theorem cFr.refl {dd : Nat} {I : Nat → Nat → Int32} : cFr dd I I := ⟨fun _ _ => rfl, fun _ _ _ => rfl, fun _ _ => rfl⟩
set_option maxHeartbeats 1000000 in
theorem cFr.trans {dd : Nat} {A B D : Nat → Nat → Int32} (h : cFr dd A B) (g : cFr dd B D) : cFr dd A D :=
  ⟨fun c hc => (g.1 c hc).trans (h.1 c hc), fun k a b => (g.2.1 k a b).trans (h.2.1 k a b), fun i hi => (g.2.2 i hi).trans (h.2.2 i hi)⟩
set_option maxHeartbeats 1000000 in
theorem cFr.up {dd : Nat} {A B : Nat → Nat → Int32} (h : cFr (dd + 1) A B) : cFr dd A B :=
  ⟨fun c hc => h.1 c (by omega), h.2.1, fun i hi => h.2.2 i (by omega)⟩
def cCtx (I0 : Nat → Nat → Int32) (N dd : Nat) (Q : zPs) (pre : List Nat) (I : Nat → Nat → Int32) : Prop := (∀ c, c < 27 → I c = I0 c) ∧ I 27 4 = I0 27 4 ∧ pEq N (zgP (4 * dd + 31) I) Q ∧ pre.length = dd ∧ ∀ i, i < dd → I 29 i = nI (pre.getD i 0)
set_option maxHeartbeats 1000000 in
theorem cCtx.fr {I0 I I' : Nat → Nat → Int32} {N dd : Nat} {Q : zPs} {pre : List Nat} (h : cCtx I0 N dd Q pre I) (g : cFr dd I I') : cCtx I0 N dd Q pre I' := by
  obtain ⟨h1, h2, h3, h4, h5⟩ := h
  obtain ⟨g1, g2, g3⟩ := g
  refine ⟨fun c hc => by rw [g1 c (by omega), h1 c hc], by rw [g2 4 (by decide) (by decide), h2], ?_, h4, fun i hi => by rw [g3 i hi, h5 i hi]⟩
  have : zgP (4 * dd + 31) I' = zgP (4 * dd + 31) I := by
    simp only [zgP]
    rw [g1 (4 * dd + 31 + 1) (by omega), g1 (4 * dd + 31 + 2) (by omega), g1 (4 * dd + 31 + 3) (by omega), g1 (4 * dd + 31) (by omega)]
  rw [this]
  exact h3
set_option maxHeartbeats 1000000 in
theorem cst_d {j : Nat} (h : j < 14) : ∃ x, cst.drop j = x :: cst.drop (j + 1) ∧ zStf j = nI x ∧ x ≤ 21 := by
  rcases (show j = 0 ∨ j = 1 ∨ j = 2 ∨ j = 3 ∨ j = 4 ∨ j = 5 ∨ j = 6 ∨ j = 7 ∨ j = 8 ∨ j = 9 ∨ j = 10 ∨ j = 11 ∨ j = 12 ∨ j = 13 by omega) with rfl | rfl | rfl | rfl | rfl | rfl | rfl | rfl | rfl | rfl | rfl | rfl | rfl | rfl
  all_goals exact ⟨_, rfl, rfl, by decide⟩
set_option maxHeartbeats 1000000 in
theorem pStp_iff {N x : Nat} (h6 : N ≤ 6) (hx : x ≤ 1000) : pStp N (nI x) ↔ pOk N x := by
  constructor
  · rintro ⟨s, e, h⟩
    have hs : s ≤ 21 := by unfold pOk at h; omega
    rw [(nI_eq (by omega) (by omega)).mp e]
    exact h
  · intro h; exact ⟨x, rfl, h⟩
set_option maxHeartbeats 1000000 in
theorem cF_lo {I I' : Nat → Nat → Int32} (h : ∀ c, c < 27 → I c = I' c) : cF I = cF I' := by
  funext k j
  simp only [cF]
  split
  · rw [h _ (by omega)]
  · rfl
set_option maxHeartbeats 1000000 in
theorem endQ_s {N : Nat} {f : Nat → Nat → Int32} {Q : zPs} {p : List Nat} {s : Nat} : endQ N f Q (p ++ [s]) = mStp N f s (endQ N f Q p) := by
  unfold endQ
  rw [List.foldl_append]
  rfl
set_option maxHeartbeats 1000000 in
theorem lk_eq {N p : Nat} {I : Nat → Nat → Int32} {Q : zPs} (h6 : N ≤ 6) (h : pEq N (zgP p I) Q) : pEq N (cLk (p + 4) p I) Q := by
  obtain ⟨h1, h2, h3, h4⟩ := h
  refine ⟨fun k hk => ?_, fun k hk => ?_, h3, h4⟩
  · have := h1 k hk
    simp only [cLk, zgP] at this ⊢
    rw [if_pos (by omega), if_pos (by omega)]
    exact this
  · have := h2 k hk
    simp only [cLk, zgP] at this ⊢
    rw [if_pos (by omega)]
    exact this
set_option maxHeartbeats 1000000 in
theorem getD_s {p : List Nat} {x i : Nat} (h : i < p.length + 1) : (p ++ [x]).getD i 0 = if i = p.length then x else p.getD i 0 := by
  by_cases e : i = p.length
  · rw [if_pos e, e]; simp [List.getD]
  · rw [if_neg e]
    have : i < p.length := by omega
    simp [List.getD, this, List.getElem?_append_left]
section S
variable {L : Nat} {xs : Nat → Int32}
set_option maxHeartbeats 1000000 in
theorem tf_loop {σ : Type} {R : σ → Int32 → Int32 → (Nat → Int32) → Int64 → Prop} {ws : σ → List Nat → σ} {I0 : Nat → Nat → Int32} {N : Nat} {Q0 : zPs} (hN : I0 10 2 = nI N) (h6 : N ≤ 6) (hk : pKd N (cF I0)) {t dd d1 : Nat} {Q : zPs} {pre : List Nat} (hd : dd + (t + 1) ≤ 3) (he : endQ N (cF I0) Q0 pre = Q)
    (ih : ∀ (dd : Nat) (Q : zPs) (pre : List Nat) (I : Nat → Nat → Int32) (J : Nat → Nat → Int64) (s : σ), dd + t ≤ 3 → cCtx I0 N dd Q pre I → endQ N (cF I0) Q0 pre = Q → R s (I 27 3) (I 27 7) (I 30) (J 27 6) → ∃ I' J', zE zCd (zGG L xs) d1 42 [.ref 27, .ref 10, .int (nI dd), .int (nI (dd + t))] (I, J) = some (none, (I', J')) ∧ cFr dd I I' ∧ R (((dfs N (I0 10 3) (cF I0) t Q).map (fun r => pre ++ r)).foldl ws s) (I' 27 3) (I' 27 7) (I' 30) (J' 27 6)) :
    ∀ (r j : Nat) (w : Value) (I : Nat → Nat → Int32) (J : Nat → Nat → Int64) (s : σ), j + r = 14 → cCtx I0 N dd Q pre I → R s (I 27 3) (I 27 7) (I 30) (J 27 6) → ∃ I' J', zX zCd (zGG L xs) (d1 + 1) 42 41 [.ref 27, .ref 10, .int (nI dd), .int (nI (dd + (t + 1))), .ref zSteps, .int (nI 14), .int (nI j), w] [] (I, J) = some (none, (I', J')) ∧ cFr dd I I' ∧ R ((((cst.drop j).flatMap (fun s => kid (aOk N (I0 10 3) (cF I0) s Q) ((dfs N (I0 10 3) (cF I0) t (mStp N (cF I0) s Q)).map (fun r => s :: r)))).map (fun r => pre ++ r)).foldl ws s) (I' 27 3) (I' 27 7) (I' 30) (J' 27 6) := by
  intro r
  induction r with
  | zero =>
    intro j w I J s h hc hR
    obtain rfl : j = 14 := by omega
    refine ⟨I, J, ?_, cFr.refl, hR⟩
    rw [eX5_tryFrom_41]
    simp only [eX5_tryFrom_43, eX5_tryFrom_45, eX5_tryFrom_134, Int32.le_refl, if_true]
  | succ r ihr =>
    intro j w I J s h hc hR
    obtain ⟨x, hx1, hx2, hx3⟩ := cst_d (show j < 14 by omega)
    obtain ⟨k1, k2, k3, k4, k5⟩ := id hc
    have el : (nI 14 ≤ nI j) = False := by rw [zle (by omega) (show j ≤ 1000000 by omega)]; exact eq_false (by omega)
    have iN : I 10 2 = nI N := by rw [k1 10 (by decide)]; exact hN
    have hs := qhs (L := L) (xs := xs) (d := d1 + 1) (J := J) (I := I) (N := N) (x := nI x) iN h6
    have hpg := zPg_af (L := L) (xs := xs) (k := dd) (by omega)
    have skip : zX zCd (zGG L xs) (d1 + 1) 42 128 [.ref 27, .ref 10, .int (nI dd), .int (nI (dd + (t + 1))), .ref zSteps, .int (nI 14), .int (nI j), .int (nI x)] [] (I, J) = zX zCd (zGG L xs) (d1 + 1) 42 41 [.ref 27, .ref 10, .int (nI dd), .int (nI (dd + (t + 1))), .ref zSteps, .int (nI 14), .int (nI (j + 1)), .int (nI x)] [] (I, J) := by
      simp only [eX5_tryFrom_128, eX5_tryFrom_131, nI_1]
    rw [hx1, List.flatMap_cons]
    by_cases hok : pOk N x
    · rw [zb_t ((pStp_iff h6 (by omega)).mpr hok)] at hs
      have cb := qX3_canBe (L := L) (xs := xs) (d := d1 + 1) (J := J) (I := I) hpg iN h6 hok
      have ecF : cF I = cF I0 := cF_lo k1
      rw [ecF, k1 10 (by decide), zb_iff (dq := pCan_dec _ _ _ _ _) (k3.can (mn := I0 10 3) (f := cF I0) (s := x))] at cb
      by_cases hcan : pCan N (I0 10 3) (cF I0) x Q
      · rw [zb_t hcan] at cb
        rw [kid_y ⟨hok, hcan⟩, List.map_append, List.foldl_append]
        have hpg1 := zPg_af (L := L) (xs := xs) (k := dd + 1) (by omega)
        rw [show 4 * (dd + 1) + 31 = 4 * dd + 31 + 4 by omega] at hpg1
        have bl := qX3_becomeLike (L := L) (xs := xs) (d := d1 + 1) (J := J) (I := zU I 29 dd (nI x)) hpg1 hpg rfl
        generalize hI1 : zU I 29 dd (nI x) = I1 at bl
        have i1o : ∀ c, c ≠ 29 → I1 c = I c := fun c h => by rw [← hI1, zU_ne _ _ _ h]
        have e1 : zgP (4 * dd + 31) I1 = zgP (4 * dd + 31) I := by
          simp only [zgP]
          rw [i1o _ (by omega), i1o _ (by omega), i1o _ (by omega), i1o _ (by omega)]
        have hlk : pEq N (cLk (4 * dd + 31 + 4) (4 * dd + 31) I1) Q := lk_eq h6 (by rw [e1]; exact k3)
        generalize hP : cLk (4 * dd + 31 + 4) (4 * dd + 31) I1 = P at bl hlk
        have i2o : ∀ c, c < 4 * dd + 31 + 4 ∨ 4 * dd + 31 + 7 < c → zsP (4 * dd + 31 + 4) I1 P c = I1 c := fun c h => zsP_ne _ _ _ (by omega)
        have ps := qX3_playStep (L := L) (xs := xs) (d := d1 + 1) (J := J) (I := zsP (4 * dd + 31 + 4) I1 P) (N := N) (s := x) hpg1 (by rw [i2o 10 (by omega), i1o 10 (by decide)]; exact iN) h6 hok
        have e2 : cF (zsP (4 * dd + 31 + 4) I1 P) = cF I0 := cF_lo (fun c hc => by rw [i2o c (by omega), i1o c (by omega), k1 c hc])
        rw [e2, zgP_s, zsP_s] at ps
        generalize hI3 : zsP (4 * dd + 31 + 4) I1 (cStp N (cF I0) x P) = I3 at ps
        have i3o : ∀ c, c < 4 * dd + 31 + 4 ∨ 4 * dd + 31 + 7 < c → I3 c = I1 c := fun c h => by rw [← hI3]; exact zsP_ne _ _ _ (by omega)
        have st := (hlk.stp h6 hok hk).1
        have hc3 : cCtx I0 N (dd + 1) (mStp N (cF I0) x Q) (pre ++ [x]) I3 := by
          refine ⟨fun c hc => by rw [i3o c (by omega), i1o c (by omega), k1 c hc], by rw [i3o 27 (by omega), i1o 27 (by decide), k2], ?_, by rw [List.length_append, k4]; rfl, fun i hi => ?_⟩
          · rw [show 4 * (dd + 1) + 31 = 4 * dd + 31 + 4 by omega, ← hI3, zgP_s]
            exact st
          · rw [i3o 29 (by omega), ← hI1, zU_app, getD_s (by omega), k4]
            by_cases ei : i = dd
            · rw [if_pos ⟨rfl, ei⟩, if_pos ei]
            · rw [if_neg (fun x => ei x.2), if_neg ei]
              exact k5 i (by omega)
        have hR3 : R s (I3 27 3) (I3 27 7) (I3 30) (J 27 6) := by
          rw [i3o 27 (by omega), i3o 30 (by omega), i1o 27 (by decide), i1o 30 (by decide)]
          exact hR
        obtain ⟨I4, J4, z1, z2, z3⟩ := ih (dd + 1) _ (pre ++ [x]) I3 J s (by omega) hc3 (by rw [endQ_s, he]) hR3
        rw [show dd + 1 + t = dd + (t + 1) by omega] at z1
        have f3 : cFr dd I I3 := ⟨fun c hc => by rw [i3o c (by omega), i1o c (by omega)], fun k _ _ => by rw [i3o 27 (by omega), i1o 27 (by decide)], fun i hi => by rw [i3o 29 (by omega), ← hI1, zU_k _ _ _ (by omega)]⟩
        have f4 : cFr dd I I4 := f3.trans z2.up
        obtain ⟨I5, J5, y1, y2, y3⟩ := ihr (j + 1) (.int (nI x)) I4 J4 _ (by omega) (hc.fr f4) z3
        refine ⟨I5, J5, ?_, f4.trans y2, ?_⟩
        · rw [eX5_tryFrom_41]
          simp only [eX5_tryFrom_43, eX5_tryFrom_45, eX5_tryFrom_48, eX5_tryFrom_50, eX5_tryFrom_52, eX5_tryFrom_53, eX5_tryFrom_55, eX5_tryFrom_56, eX5_tryFrom_58, eX5_tryFrom_61, eX5_tryFrom_64, eX5_tryFrom_65, eX5_tryFrom_68, eX5_tryFrom_69, eX5_tryFrom_70, eX5_tryFrom_71, eX5_tryFrom_73, eX5_tryFrom_76, eX5_tryFrom_79, eX5_tryFrom_80, eX5_tryFrom_83, eX5_tryFrom_84, eX5_tryFrom_86, eX5_tryFrom_87, eX5_tryFrom_88, eX5_tryFrom_91, eX5_tryFrom_92, eX5_tryFrom_93, eX5_tryFrom_94, eX5_tryFrom_95, eX5_tryFrom_96, eX5_tryFrom_99, eX5_tryFrom_100, eX5_tryFrom_101, eX5_tryFrom_104, eX5_tryFrom_105, eX5_tryFrom_108, eX5_tryFrom_109, eX5_tryFrom_110, eX5_tryFrom_111, eX5_tryFrom_112, eX5_tryFrom_113, eX5_tryFrom_115, eX5_tryFrom_118, eX5_tryFrom_119, eX5_tryFrom_120, eX5_tryFrom_121, eX5_tryFrom_122, eX5_tryFrom_123, eX5_tryFrom_124, eX5_tryFrom_125, Option.bind_some, Option.toList_some, Option.toList_none, List.cons_append, List.nil_append, el, if_false, G_c100, G_l100, G_f100, zIn_14 (show j < 14 by omega), zc_n (show j ≤ 1000 by omega), hx2, G_o10, hs, show ((1 : Int32) = 0) = False from by decide, G_o27, G_h27_0, G_r27_0, G_h27_1, G_r27_1, G_q28, G_l28, zIn_6 (show dd < 6 by omega), zc_n (show dd ≤ 1000 by omega), G_28h (show dd < 6 by omega), G_28r (show dd < 6 by omega), hpg.2.1, cb, G_a29, G_l29, zIn_3 (show dd < 3 by omega), hI1, nI_1, zIn_6 (show dd + 1 < 6 by omega), zc_n (show dd + 1 ≤ 1000 by omega), G_28h (show dd + 1 < 6 by omega), G_28r (show dd + 1 < 6 by omega), show 4 * (dd + 1) + 31 = 4 * dd + 31 + 4 from by omega, hpg1.2.1, bl, ps, z1]
          simp only [eX5_tryFrom_128, eX5_tryFrom_131, nI_1]
          exact y1
        · have em : ∀ A : List (List Nat), (A.map (fun r => x :: r)).map (fun r => pre ++ r) = A.map (fun r => (pre ++ [x]) ++ r) := fun A => by
            rw [List.map_map]
            refine List.map_congr_left (fun r _ => ?_)
            simp
          rw [em]
          exact y3
      · rw [zb_f hcan] at cb
        rw [kid_n (fun x => hcan x.2), List.nil_append]
        obtain ⟨I5, J5, y1, y2, y3⟩ := ihr (j + 1) (.int (nI x)) I J _ (by omega) hc hR
        refine ⟨I5, J5, ?_, y2, y3⟩
        rw [eX5_tryFrom_41]
        simp only [eX5_tryFrom_43, eX5_tryFrom_45, eX5_tryFrom_48, eX5_tryFrom_50, eX5_tryFrom_52, eX5_tryFrom_53, eX5_tryFrom_55, eX5_tryFrom_56, eX5_tryFrom_58, eX5_tryFrom_61, eX5_tryFrom_64, eX5_tryFrom_65, eX5_tryFrom_68, eX5_tryFrom_69, eX5_tryFrom_70, eX5_tryFrom_71, eX5_tryFrom_73, eX5_tryFrom_76, Option.bind_some, Option.toList_some, Option.toList_none, List.cons_append, List.nil_append, el, if_false, if_true, G_c100, G_l100, G_f100, zIn_14 (show j < 14 by omega), zc_n (show j ≤ 1000 by omega), hx2, G_o10, hs, show ((1 : Int32) = 0) = False from by decide, G_o27, G_h27_0, G_r27_0, G_q28, G_l28, zIn_6 (show dd < 6 by omega), zc_n (show dd ≤ 1000 by omega), G_28h (show dd < 6 by omega), G_28r (show dd < 6 by omega), hpg.2.1, cb]
        rw [skip]
        exact y1
    · rw [zb_f (fun x => hok ((pStp_iff h6 (by omega)).mp x))] at hs
      rw [kid_n (fun x => hok x.1), List.nil_append]
      obtain ⟨I5, J5, y1, y2, y3⟩ := ihr (j + 1) (.int (nI x)) I J _ (by omega) hc hR
      refine ⟨I5, J5, ?_, y2, y3⟩
      rw [eX5_tryFrom_41]
      simp only [eX5_tryFrom_43, eX5_tryFrom_45, eX5_tryFrom_48, eX5_tryFrom_50, eX5_tryFrom_52, eX5_tryFrom_53, eX5_tryFrom_55, eX5_tryFrom_56, eX5_tryFrom_58, eX5_tryFrom_61, Option.bind_some, Option.toList_some, Option.toList_none, List.cons_append, List.nil_append, el, if_false, if_true, G_c100, G_l100, G_f100, zIn_14 (show j < 14 by omega), zc_n (show j ≤ 1000 by omega), hx2, G_o10, hs]
      rw [skip]
      exact y1
set_option maxHeartbeats 1000000 in
theorem tf {σ : Type} {R : σ → Int32 → Int32 → (Nat → Int32) → Int64 → Prop} {ws : σ → List Nat → σ} {I0 : Nat → Nat → Int32} {N : Nat} {Q0 : zPs} (hN : I0 10 2 = nI N) (h6 : N ≤ 6) (hk : pKd N (cF I0))
    (hW : ∀ (d dd : Nat) (m : Int32) (Q : zPs) (pre : List Nat) (I : Nat → Nat → Int32) (J : Nat → Nat → Int64) (s : σ), dd ≤ 3 → cCtx I0 N dd Q pre I → endQ N (cF I0) Q0 pre = Q → R s (I 27 3) (I 27 7) (I 30) (J 27 6) → ∃ I' J', zX zCd (zGG L xs) d 42 0 [.ref 27, .ref 10, .int (nI dd), .int m, .null, .null, .null, .null] [] (I, J) = zX zCd (zGG L xs) d 42 22 [.ref 27, .ref 10, .int (nI dd), .int m, .null, .null, .null, .null] [] (I', J') ∧ cFr dd I I' ∧ R (ws s pre) (I' 27 3) (I' 27 7) (I' 30) (J' 27 6)) (d0 : Nat) :
    ∀ (t dd : Nat) (Q : zPs) (pre : List Nat) (I : Nat → Nat → Int32) (J : Nat → Nat → Int64) (s : σ), dd + t ≤ 3 → cCtx I0 N dd Q pre I → endQ N (cF I0) Q0 pre = Q → R s (I 27 3) (I 27 7) (I 30) (J 27 6) → ∃ I' J', zE zCd (zGG L xs) (d0 + t) 42 [.ref 27, .ref 10, .int (nI dd), .int (nI (dd + t))] (I, J) = some (none, (I', J')) ∧ cFr dd I I' ∧ R (((dfs N (I0 10 3) (cF I0) t Q).map (fun r => pre ++ r)).foldl ws s) (I' 27 3) (I' 27 7) (I' 30) (J' 27 6) := by
  intro t
  induction t with
  | zero =>
    intro dd Q pre I J s hd hc he hR
    obtain ⟨I1, J1, w1, w2, w3⟩ := hW (d0 + 0) dd (nI (dd + 0)) Q pre I J s (by omega) hc he hR
    refine ⟨I1, J1, ?_, w2, ?_⟩
    · rw [nX5_tryFrom, w1]
      have el : (nI dd < nI dd) = False := by rw [zlt (show dd ≤ 1000000 by omega) (show dd ≤ 1000000 by omega)]; exact eq_false (by omega)
      simp only [eX5_tryFrom_22, eX5_tryFrom_23, eX5_tryFrom_24, eX5_tryFrom_27, Nat.add_zero, el, if_false]
    · simp only [dfs, List.map_cons, List.map_nil, List.append_nil, List.foldl_cons, List.foldl_nil]
      exact w3
  | succ t ih =>
    intro dd Q pre I J s hd hc he hR
    obtain ⟨I1, J1, w1, w2, w3⟩ := hW (d0 + (t + 1)) dd (nI (dd + (t + 1))) Q pre I J s (by omega) hc he hR
    obtain ⟨I2, J2, y1, y2, y3⟩ := tf_loop (L := L) (xs := xs) (R := R) (ws := ws) (Q0 := Q0) (d1 := d0 + t) hN h6 hk hd he ih 14 0 .null I1 J1 (ws s pre) (by omega) (hc.fr w2) w3
    refine ⟨I2, J2, ?_, w2.trans y2, ?_⟩
    · rw [nX5_tryFrom, w1, show d0 + (t + 1) = d0 + t + 1 from rfl]
      have el : (nI dd < nI (dd + (t + 1))) = True := by rw [zlt (show dd ≤ 1000000 by omega) (show dd + (t + 1) ≤ 1000000 by omega)]; exact eq_true (by omega)
      simp only [eX5_tryFrom_22, eX5_tryFrom_23, eX5_tryFrom_24, eX5_tryFrom_27, eX5_tryFrom_28, eX5_tryFrom_31, eX5_tryFrom_33, eX5_tryFrom_35, eX5_tryFrom_36, eX5_tryFrom_38, eX5_tryFrom_39, el, if_true, G_c100, G_l100]
      exact y1
    · rw [dfs, List.map_cons, List.foldl_cons, List.append_nil]
      exact y3
end S
