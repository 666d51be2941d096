def fK (f : Nat → Nat → Int32) (i : Nat) (x : Int32) : Nat → Nat → Int32 := fun k j => if k = i ∧ j = 0 then x else f k j
set_option maxHeartbeats 1000000 in
theorem cF_U {I : Nat → Nat → Int32} {i : Nat} {x : Int32} (hi : i < 6) : cF (zU I (i + 15) 0 x) = fK (cF I) i x := by
  funext k j
  simp only [cF, fK, zU_app]
  by_cases e : k = i ∧ j = 0
  · rw [if_pos (show k < 6 by omega), if_pos (show k + 15 = i + 15 ∧ j = 0 by omega), if_pos e]
  · rw [if_neg e]
    by_cases h6 : k < 6
    · rw [if_pos h6, if_neg (show ¬ (k + 15 = i + 15 ∧ j = 0) by omega), if_pos h6]
    · rw [if_neg h6, if_neg h6]
set_option maxHeartbeats 1000000 in
theorem mF_U {I : Nat → Nat → Int32} {i : Nat} {x : Int32} (hi : i < 6) : mF (zU I 59 i x) = fK (mF I) i x := by
  funext k j
  simp only [mF, fK, zU_app]
  by_cases e : k = i ∧ j = 0
  · rw [if_pos (show k < 6 ∧ j < 5 by omega), if_pos (show j + 59 = 59 ∧ k = i by omega), if_pos e]
  · rw [if_neg e]
    by_cases h6 : k < 6 ∧ j < 5
    · rw [if_pos h6, if_neg (show ¬ (j + 59 = 59 ∧ k = i) by omega), if_pos h6]
    · rw [if_neg h6, if_neg h6]
set_option maxHeartbeats 1000000 in
theorem zU_same (I : Nat → Nat → Int32) (c k : Nat) : zU I c k (I c k) = I := by
  funext a b
  simp only [zU_app]
  split
  · rename_i h; rw [h.1, h.2]
  · rfl
set_option maxHeartbeats 1000000 in
theorem zsW_U (I : Nat → Nat → Int32) (P : zPs) (w : Int32) {c : Nat} (k : Nat) (x : Int32) (h : c < 23) : zU (zsW I P w) c k x = zsW (zU I c k x) P w := by
  funext a b
  by_cases e : a < 23 ∨ 26 < a
  · rw [zsW_lo _ _ _ e, zU_app, zU_app, zsW_lo _ _ _ e]
  · rw [zU_app, if_neg (by omega)]
    by_cases e3 : a = 23
    · subst e3
      by_cases e5 : b = 5
      · subst e5; rw [zsW_5, zsW_5]
      · unfold zsW
        rw [zU_k _ _ _ e5, zU_k _ _ _ e5]
        simp only [zsP]
        rw [zU_ne _ _ _ (by omega)]
    · unfold zsW
      rw [zU_ne _ _ _ e3, zU_ne _ _ _ e3]
      simp only [zsP]
      rw [zU_ne _ _ _ (by omega)]
set_option maxHeartbeats 1000000 in
theorem zsM_U (I : Nat → Nat → Int32) (P : zPs) (w : Int32) {c : Nat} (k : Nat) (x : Int32) (h : c ≠ 55 ∧ c ≠ 65 ∧ c ≠ 66 ∧ c ≠ 67) : zU (zsM I P w) c k x = zsM (zU I c k x) P w := by
  obtain ⟨a1, a2, a3, a4⟩ := h
  refine zextM (fun j => ?_) (fun j => ?_) (fun j => ?_) (fun j => ?_) (fun e j b1 b2 b3 b4 => ?_)
  · rw [zU_ne _ _ _ (Ne.symm a2), zsM_65, zsM_65]
  · rw [zU_ne _ _ _ (Ne.symm a3), zsM_66, zsM_66]
  · rw [zU_ne _ _ _ (Ne.symm a4), zsM_67, zsM_67]
  · rw [zU_ne _ _ _ (Ne.symm a1)]
    simp only [zsM]
    simp only [zU_ne _ _ _ (Ne.symm a1)]
  · rw [zsM_ne _ _ _ b1 b2 b3 b4, zU_app, zU_app, zsM_ne _ _ _ b1 b2 b3 b4]
set_option maxHeartbeats 1000000 in
theorem so_eq {N C : Nat} {P Q : zPs} {a v a' v' : Nat → Int32} (h1 : N ≤ 6) (h : pEq N P Q) (ha : ∀ q, q < C → a q = a' q ∧ v q = v' q ∧ ∃ i, i < N ∧ a q = nI i) : ∀ (r k : Nat), k + r = C → pSo P.1 a v k r = pSo Q.1 a' v' k r := by
  intro r
  induction r with
  | zero => intro k _; rfl
  | succ r ih =>
    intro k hk
    obtain ⟨e1, e2, i, hi, e3⟩ := ha k (by omega)
    simp only [pSo]
    rw [ih (k + 1) (by omega), ← e1, ← e2, e3, zc_n (by omega), (h.1 i hi).1]
set_option maxHeartbeats 1000000 in
theorem zIv_lt {N a : Nat} (h1 : N ≤ 6) (h : a < N) : zIv (nI a) 6 := zIn_6 (by omega)
set_option maxHeartbeats 1000000 in
theorem or_ite {p : Prop} {dp : Decidable p} {f x : Int32} : (if p then f ||| x else f) = f ||| (if p then x else 0) := by
  split
  · rfl
  · exact (Int32.or_zero).symm
set_option maxHeartbeats 1000000 in
theorem kd_eq {I A B : Nat → Nat → Int32} {N m C i : Nat} {st : Nat → Nat} {x z : Int32} (hI : zInv I) (hN : I 10 2 = nI N) (h1 : N ≤ 6) (hi : i < N) (hx : x = 0 ∨ x = 1 ∨ x = 2) (hA : ∀ k, k < 6 → A (k + 15) 1 = I (k + 15) 1) (hB : B 60 = I 60) (hm : m ≤ 20) (hst : ∀ k, k < m → pOk N (st k)) (hC : ∀ q, q < C → I 13 q = I 69 q ∧ I 14 q = I 70 q ∧ ∃ a, a < N ∧ I 13 q = nI a) : pSo (cPl N (I 10 3) (fK (cF I) i x) st (-9) 0 m (cBg 23 A) (-9)).2.1.1 (I 13) (I 14) 0 C = pSo (mPl N (I 55 5) (fK (mF I) i x) st (-9) 0 0 m (mBg N B) z).2.1.1 (I 69) (I 70) 0 C := by
  have hF := hI.F
  obtain ⟨-, -, c1, c2, c3, N', ⟨n1, n2, n3, n4, n5, n6⟩, -⟩ := hI
  have hb : pEq N (cBg 23 A) (mBg N B) := bg_eq h1 (fun k hk => by
    rw [hA k (by omega), hB]
    exact ⟨c2 k 1 (by omega) (by decide), (c3 k (by omega)).2.1⟩)
  have hkd : pKd N (fK (mF I) i x) := fun k hk => by
    simp only [fK]
    split
    · exact hx
    · rw [← hF]
      simp only [cF, if_pos (show k < 6 by omega)]
      exact (c3 k (by omega)).1
  rw [hF, n4]
  exact so_eq h1 (pl_eq (mn := I 55 5) (lo := -9) (f := fK (mF I) i x) (st := st) h1 hkd m 0 0 (cBg 23 A) (mBg N B) (-9) z hb (by omega) (by omega) (fun j _ hj => hst j (by omega))).1 hC C 0 (by omega)
section S
variable {L : Nat} {xs : Nat → Int32} {d : Nat} {J : Nat → Nat → Int64}
set_option maxHeartbeats 1000000 in
theorem it_c {I : Nat → Nat → Int32} {N m C i : Nat} {st : Nat → Nat} {own fit x y u : Int32} {P : zPs} (hN : I 10 2 = nI N) (h1 : N ≤ 6) (hi : i < N) (hn : I 21 1 = nI m) (hm : m ≤ 20) (hst : ∀ k, k < m → I 22 k = nI (st k) ∧ pOk N (st k)) (hC : I 12 2 = nI C) (hC8 : C ≤ 8) (ha : ∀ q, q < C → zIv (I 13 q) 6) (hx : (2 < x) = False) : zX zCd (zGG L xs) d 83 10 [.ref 0, .ref (i + 15), .int own, .int fit, .int x] [] (zsW (zU I (i + 15) 0 y) P u, J) = zX zCd (zGG L xs) d 83 10 [.ref 0, .ref (i + 15), .int own, .int (fit ||| if pSo (cPl N (I 10 3) (fK (cF I) i x) st (-9) 0 m (cBg 23 (zsW (zU I (i + 15) 0 x) P u)) (-9)).2.1.1 (I 13) (I 14) 0 C = true then 1 <<< (x &&& 31) else 0), .int (x + 1)] [] (zsW (zU I (i + 15) 0 x) (cPl N (I 10 3) (fK (cF I) i x) st (-9) 0 m (cBg 23 (zsW (zU I (i + 15) 0 x) P u)) (-9)).2.1 (cPl N (I 10 3) (fK (cF I) i x) st (-9) 0 m (cBg 23 (zsW (zU I (i + 15) 0 x) P u)) (-9)).2.2, J) := by
  have e0 : zU (zsW (zU I (i + 15) 0 y) P u) (i + 15) 0 x = zsW (zU I (i + 15) 0 x) P u := by
    rw [zsW_U _ _ _ _ _ (by omega), zU_uu]
  have lo : ∀ (P : zPs) (u : Int32) (c : Nat), c = 10 ∨ c = 12 ∨ c = 13 ∨ c = 14 ∨ c = 21 ∨ c = 22 → zsW (zU I (i + 15) 0 x) P u c = I c := fun P u c h => by
    rw [zsW_lo _ _ _ (by omega), zU_ne _ _ _ (by omega)]
  have pp := qX3_playPlan (L := L) (xs := xs) (d := d) (J := J) (I := zsW (zU I (i + 15) 0 x) P u) (lo := -9) (N := N) (n := m) (st := st) (by rw [lo _ _ _ (by decide)]; exact hN) h1 (by rw [lo _ _ _ (by decide)]; exact hn) hm (fun k hk => by rw [lo _ _ _ (by decide)]; exact hst k hk)
  rw [cF_W, cF_U (by omega), lo _ _ _ (by decide)] at pp
  generalize (cPl N (I 10 3) (fK (cF I) i x) st (-9) 0 m (cBg 23 (zsW (zU I (i + 15) 0 x) P u)) (-9)) = A at pp ⊢
  obtain ⟨a, P1, u1⟩ := A
  dsimp only at pp ⊢
  rw [zsW_W] at pp
  have so := qX4_areSo (L := L) (xs := xs) (d := d) (J := J) (p := 23) (C := C) (I := zsW (zU I (i + 15) 0 x) P1 u1) zPg_23 (by rw [lo _ _ _ (by decide)]; exact hC) hC8 (fun k hk => by rw [lo _ _ _ (by decide)]; exact ha k hk)
  rw [show zsW (zU I (i + 15) 0 x) P1 u1 (23 + 1) = P1.1 from congrArg (fun x : zPs => x.1) (zsW_g (zU I (i + 15) 0 x) P1 u1), lo _ _ _ (by decide), lo _ _ _ (by decide)] at so
  rw [eX8_kindsThatFit_10]
  have e64 : ∀ w : Int32, zX zCd (zGG L xs) d 83 64 [.ref 0, .ref (i + 15), .int own, .int w, .int x] [] (zsW (zU I (i + 15) 0 x) P1 u1, J) = zX zCd (zGG L xs) d 83 10 [.ref 0, .ref (i + 15), .int own, .int w, .int (x + 1)] [] (zsW (zU I (i + 15) 0 x) P1 u1, J) := fun w => by
    simp only [eX8_kindsThatFit_64, eX8_kindsThatFit_67]
  by_cases hso : pSo P1.1 (I 13) (I 14) 0 C = true
  · rw [if_pos hso] at so ⊢
    simp only [eX8_kindsThatFit_12, eX8_kindsThatFit_13, eX8_kindsThatFit_16, eX8_kindsThatFit_17, eX8_kindsThatFit_19, eX8_kindsThatFit_22, eX8_kindsThatFit_23, eX8_kindsThatFit_26, eX8_kindsThatFit_27, eX8_kindsThatFit_30, eX8_kindsThatFit_31, eX8_kindsThatFit_34, eX8_kindsThatFit_36, eX8_kindsThatFit_39, eX8_kindsThatFit_40, eX8_kindsThatFit_41, eX8_kindsThatFit_44, eX8_kindsThatFit_47, eX8_kindsThatFit_48, eX8_kindsThatFit_51, eX8_kindsThatFit_54, eX8_kindsThatFit_57, eX8_kindsThatFit_58, eX8_kindsThatFit_59, eX8_kindsThatFit_61, eX8_kindsThatFit_62, eX8_kindsThatFit_63, Option.bind_some, Option.toList_some, Option.toList_none, List.cons_append, List.nil_append, hx, if_false, G_pl_o (show i < 6 by omega), e0, G_o0, G_h0_1, G_r0_1, G_h0_2, G_r0_2, G_h0_3, G_r0_3, G_o10, G_h10_1, G_r10_1, G_o23, G_o12, pp, so, show ((1 : Int32) = 0) = False from by decide, e64]
  · rw [if_neg hso] at so ⊢
    simp only [eX8_kindsThatFit_12, eX8_kindsThatFit_13, eX8_kindsThatFit_16, eX8_kindsThatFit_17, eX8_kindsThatFit_19, eX8_kindsThatFit_22, eX8_kindsThatFit_23, eX8_kindsThatFit_26, eX8_kindsThatFit_27, eX8_kindsThatFit_30, eX8_kindsThatFit_31, eX8_kindsThatFit_34, eX8_kindsThatFit_36, eX8_kindsThatFit_39, eX8_kindsThatFit_40, eX8_kindsThatFit_41, eX8_kindsThatFit_44, eX8_kindsThatFit_47, eX8_kindsThatFit_48, eX8_kindsThatFit_51, eX8_kindsThatFit_54, Option.bind_some, Option.toList_some, Option.toList_none, List.cons_append, List.nil_append, hx, if_false, if_true, G_pl_o (show i < 6 by omega), e0, G_o0, G_h0_1, G_r0_1, G_h0_2, G_r0_2, G_h0_3, G_r0_3, G_o10, G_h10_1, G_r10_1, G_o23, G_o12, pp, so, e64, Int32.or_zero]
set_option maxHeartbeats 1000000 in
theorem it_m {K : Nat → Nat → Int32} {N m C i : Nat} {st : Nat → Nat} {a2 a3 a4 a5 a6 a7 own fit x y z : Int32} {Q : zPs} (hN : K 55 6 = nI N) (h1 : N ≤ 6) (hi : i < N) (hn : K 55 23 = nI m) (hm : m ≤ 20) (hf : K 55 22 = 0) (hst : ∀ k, k < m → K 68 k = nI (st k) ∧ pOk N (st k)) (hC : K 55 28 = nI C) (hC8 : C ≤ 8) (ha : ∀ q, q < C → zIv (K 69 q) 6) (hx : (3 ≤ x) = False) : zX zCd (zGG L xs) d 141 89 [.ref 55, .int (nI i), .int a2, .int a3, .int a4, .int a5, .int a6, .int a7, .int own, .int fit, .int x] [] (zsM (zU K 59 i y) Q z, J) = zX zCd (zGG L xs) d 141 89 [.ref 55, .int (nI i), .int a2, .int a3, .int a4, .int a5, .int a6, .int a7, .int own, .int (fit ||| if pSo (mPl N (K 55 5) (fK (mF K) i x) st (-9) 0 0 m (mBg N (zsM (zU K 59 i x) Q z)) z).2.1.1 (K 69) (K 70) 0 C = true then 1 <<< (x &&& 31) else 0), .int (x + 1)] [] (zsM (zU K 59 i x) (mPl N (K 55 5) (fK (mF K) i x) st (-9) 0 0 m (mBg N (zsM (zU K 59 i x) Q z)) z).2.1 (mPl N (K 55 5) (fK (mF K) i x) st (-9) 0 0 m (mBg N (zsM (zU K 59 i x) Q z)) z).2.2, J) := by
  have e0 : zU (zsM (zU K 59 i y) Q z) 59 i x = zsM (zU K 59 i x) Q z := by
    rw [zsM_U _ _ _ _ _ (by decide), zU_uu]
  have l5 : ∀ (P : zPs) (u : Int32) (k : Nat), k ≠ 16 → k ≠ 17 → k ≠ 21 → zsM (zU K 59 i x) P u 55 k = K 55 k := fun P u k a b c => by
    rw [zsM_55 _ _ _ a b c, zU_ne _ _ _ (by decide)]
  have lo : ∀ (P : zPs) (u : Int32) (c : Nat), 68 ≤ c → zsM (zU K 59 i x) P u c = K c := fun P u c h => by
    rw [zsM_ne _ _ _ (by omega) (by omega) (by omega) (by omega), zU_ne _ _ _ (by omega)]
  have pp := qX9_go (L := L) (xs := xs) (d := d) (J := J) (I := zsM (zU K 59 i x) Q z) (lo := -9) (N := N) (n := m) (st := st) (by rw [l5 _ _ _ (by decide) (by decide) (by decide)]; exact hN) h1 (by rw [l5 _ _ _ (by decide) (by decide) (by decide)]; exact hn) hm (by rw [l5 _ _ _ (by decide) (by decide) (by decide)]; exact hf) (fun k hk => by rw [lo _ _ _ (by decide)]; exact hst k hk)
  rw [mF_M, mF_U (by omega), l5 _ _ _ (by decide) (by decide) (by decide), zsM_21] at pp
  generalize (mPl N (K 55 5) (fK (mF K) i x) st (-9) 0 0 m (mBg N (zsM (zU K 59 i x) Q z)) z) = A at pp ⊢
  obtain ⟨a, P1, u1⟩ := A
  dsimp only at pp ⊢
  rw [zsM_s] at pp
  have so := qX9_areSo (L := L) (xs := xs) (d := d) (J := J) (C := C) (I := zsM (zU K 59 i x) P1 u1) (by rw [l5 _ _ _ (by decide) (by decide) (by decide)]; exact hC) hC8 (fun k hk => by rw [lo _ _ _ (by decide)]; exact ha k hk)
  rw [zsM_65, lo _ _ _ (by decide), lo _ _ _ (by decide)] at so
  rw [eX9_kinds_89]
  by_cases hso : pSo P1.1 (K 69) (K 70) 0 C = true
  · rw [if_pos hso] at so ⊢
    simp only [eX9_kinds_91, eX9_kinds_92, eX9_kinds_95, eX9_kinds_96, eX9_kinds_99, eX9_kinds_100, eX9_kinds_102, eX9_kinds_103, eX9_kinds_104, eX9_kinds_106, eX9_kinds_109, eX9_kinds_110, eX9_kinds_112, eX9_kinds_113, eX9_kinds_116, eX9_kinds_119, eX9_kinds_120, eX9_kinds_122, eX9_kinds_123, eX9_kinds_126, eX9_kinds_127, eX9_kinds_128, eX9_kinds_130, eX9_kinds_133, Option.bind_some, Option.toList_some, Option.toList_none, List.cons_append, List.nil_append, hx, if_false, e0, G_o55, G_h55_7, G_r55_7, G_a59, G_l59, zIn_6 (show i < 6 by omega), zc_n (show i ≤ 1000 by omega), pp, so, show ((1 : Int32) = 0) = False from by decide]
  · rw [if_neg hso] at so ⊢
    simp only [eX9_kinds_91, eX9_kinds_92, eX9_kinds_95, eX9_kinds_96, eX9_kinds_99, eX9_kinds_100, eX9_kinds_102, eX9_kinds_103, eX9_kinds_104, eX9_kinds_106, eX9_kinds_109, eX9_kinds_110, eX9_kinds_112, eX9_kinds_113, eX9_kinds_116, eX9_kinds_119, eX9_kinds_120, eX9_kinds_122, eX9_kinds_123, eX9_kinds_126, eX9_kinds_127, eX9_kinds_128, eX9_kinds_130, eX9_kinds_133, Option.bind_some, Option.toList_some, Option.toList_none, List.cons_append, List.nil_append, hx, if_false, if_true, e0, G_o55, G_h55_7, G_r55_7, G_a59, G_l59, zIn_6 (show i < 6 by omega), zc_n (show i ≤ 1000 by omega), pp, so]
end S
