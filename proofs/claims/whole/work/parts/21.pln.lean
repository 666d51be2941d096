section S
variable {L : Nat} {xs : Nat → Int32} {d : Nat} {J : Nat → Nat → Int64}
/-- the readings from k on, r of them, are so -/
def pSo (S a v : Nat → Int32) (k : Nat) : Nat → Bool
  | 0 => true
  | r + 1 => if S (a k).toNatClampNeg = v k then pSo S a v (k + 1) r else false
set_option maxHeartbeats 1000000 in
theorem lp_so {p C : Nat} {I : Nat → Nat → Int32} (hp : zPg (zGG L xs) p) (hC : I 12 2 = nI C) (h1 : C ≤ 8) (ha : ∀ k, k < C → zIv (I 13 k) 6) : ∀ (r k : Nat), k + r = C → zX zCd (zGG L xs) d 4 2 [.ref 12, .ref p, .int (nI k)] [] (I, J) = some (some (.int (if pSo (I (p + 1)) (I 13) (I 14) k r = true then 1 else 0)), (I, J)) := by
  intro r
  induction r with
  | zero =>
    intro k h
    obtain rfl : k = C := by omega
    rw [eX4_areSo_2]
    simp only [eX4_areSo_3, eX4_areSo_4, eX4_areSo_7, eX4_areSo_10, eX4_areSo_11, eX4_areSo_14, eX4_areSo_15, eX4_areSo_18, eX4_areSo_19, eX4_areSo_20, eX4_areSo_21, eX4_areSo_22, eX4_areSo_25, eX4_areSo_26, eX4_areSo_27, eX4_areSo_30, eX4_areSo_31, eX4_areSo_32, eX4_areSo_35, eX4_areSo_38, eX4_areSo_39, G_o12, hC, Int32.le_refl, if_true, pSo, zT_1]
  | succ r ih =>
    intro k h
    rw [eX4_areSo_2]
    simp only [eX4_areSo_3, eX4_areSo_4, eX4_areSo_7, eX4_areSo_10, eX4_areSo_11, eX4_areSo_14, eX4_areSo_15, eX4_areSo_18, eX4_areSo_19, eX4_areSo_20, eX4_areSo_21, eX4_areSo_22, eX4_areSo_25, eX4_areSo_26, eX4_areSo_27, eX4_areSo_30, eX4_areSo_31, eX4_areSo_32, eX4_areSo_35, hp.2.1, hp.2.2.1, hp.2.2.2.2.2.1, G_o12, G_h12_0, G_r12_0, G_h12_1, G_r12_1, G_a13, G_l13, G_a14, G_l14, hC, zle (show C ≤ 1000000 by omega) (show k ≤ 1000000 by omega), if_neg (show ¬ C ≤ k by omega), zIn_8 (show k < 8 by omega), zc_n (show k ≤ 1000 by omega), ha k (by omega), nI_1, zT_0]
    rw [ih (k + 1) (by omega)]
    simp only [pSo]
    split <;> rfl
set_option maxHeartbeats 1000000 in
theorem qX4_areSo {p C : Nat} {I : Nat → Nat → Int32} (hp : zPg (zGG L xs) p) (hC : I 12 2 = nI C) (h1 : C ≤ 8) (ha : ∀ k, k < C → zIv (I 13 k) 6) : zE zCd (zGG L xs) d 4 [.ref 12, .ref p] (I, J) = some (some (.int (if pSo (I (p + 1)) (I 13) (I 14) 0 C = true then 1 else 0)), (I, J)) := by
  simp only [nX4_areSo, eX4_areSo_0, eX4_areSo_1]
  exact lp_so hp hC h1 ha C 0 (by omega)
/-- a plan from its k-th step on, r steps: the first that can't be, how things stand then, the first that made worse -/
noncomputable def cPl (N : Nat) (mn : Int32) (f : Nat → Nat → Int32) (st : Nat → Nat) (lo : Int32) (k : Nat) : Nat → zPs → Int32 → Int32 × zPs × Int32
  | 0, P, w => (-9, P, w)
  | r + 1, P, w => if nI k = lo then cPl N mn f st lo (k + 1) r P w else @ite _ (pCan N mn f (st k) P) (pCan_dec _ _ _ _ _) (cPl N mn f st lo (k + 1) r (cStp N f (st k) P) (@ite _ (cWr f (st k) P ∧ w = -9) (Classical.propDecidable _) (nI k) w)) (nI k, P, w)
/-- the memory while a plan is played -/
def zsW (I : Nat → Nat → Int32) (P : zPs) (w : Int32) : Nat → Nat → Int32 := zU (zsP 23 I P) 23 5 w
set_option maxHeartbeats 1000000 in
theorem zsW_lo (I : Nat → Nat → Int32) (P : zPs) (w : Int32) {c : Nat} (h : c < 23 ∨ 26 < c) : zsW I P w c = I c := by
  unfold zsW
  rw [zU_ne _ _ _ (by omega), zsP_ne _ _ _ (by omega)]
set_option maxHeartbeats 1000000 in
theorem zsW_g (I : Nat → Nat → Int32) (P : zPs) (w : Int32) : zgP 23 (zsW I P w) = P := by
  have e : zgP 23 (zsW I P w) = zgP 23 (zsP 23 I P) := by
    simp only [zgP, zsW, zU_ne _ _ _ (show 23 + 1 ≠ 23 by decide), zU_ne _ _ _ (show 23 + 2 ≠ 23 by decide), zU_ne _ _ _ (show 23 + 3 ≠ 23 by decide), zU_app]
    simp
  rw [e, zgP_s]
set_option maxHeartbeats 1000000 in
theorem zsW_s (I : Nat → Nat → Int32) (P P' : zPs) (w : Int32) : zsP 23 (zsW I P w) P' = zsW I P' w := by
  refine zext (p := 23) ?_ ?_ ?_ ?_ ?_ <;> intro k <;> intros <;> simp_all [zsW, zsP, zU] <;> grind
set_option maxHeartbeats 1000000 in
theorem zsW_w (I : Nat → Nat → Int32) (P : zPs) (w w' : Int32) : zU (zsW I P w) 23 5 w' = zsW I P w' := by
  funext c k
  simp only [zsW, zU_app]
  split <;> rfl
set_option maxHeartbeats 1000000 in
theorem zsW_5 (I : Nat → Nat → Int32) (P : zPs) (w : Int32) : zsW I P w 23 5 = w := by simp [zsW, zU]
set_option maxHeartbeats 1000000 in
theorem cF_W (I : Nat → Nat → Int32) (P : zPs) (w : Int32) : cF (zsW I P w) = cF I := by
  funext k j
  simp only [cF]
  split
  · rw [zsW_lo I P w (show k + 15 < 23 ∨ 26 < k + 15 by omega)]
  · rfl
set_option maxHeartbeats 1000000 in
theorem lp_plan {N n : Nat} {I : Nat → Nat → Int32} {st : Nat → Nat} {lo : Int32} (hN : I 10 2 = nI N) (h1 : N ≤ 6) (hn : I 21 1 = nI n) (h2 : n ≤ 20) (hst : ∀ k, k < n → I 22 k = nI (st k) ∧ pOk N (st k)) : ∀ (r k : Nat) (P : zPs) (w : Int32) (v : Value), k + r = n → zX zCd (zGG L xs) d 32 14 [.ref 23, .ref 10, .ref 21, .int lo, .int (nI k), v] [] (zsW I P w, J) = some (some (.int (cPl N (I 10 3) (cF I) st lo k r P w).1), (zsW I (cPl N (I 10 3) (cF I) st lo k r P w).2.1 (cPl N (I 10 3) (cF I) st lo k r P w).2.2, J)) := by
  intro r
  induction r with
  | zero =>
    intro k P w v h
    obtain rfl : k = n := by omega
    rw [eX3_playPlan_14]
    simp only [eX3_playPlan_16, eX3_playPlan_17, eX3_playPlan_20, eX3_playPlan_90, eX3_playPlan_92, G_o21, zsW_lo I P w (show 21 < 23 ∨ 26 < 21 by decide), hn, Int32.le_refl, if_true, cPl]
  | succ r ih =>
    intro k P w v h
    obtain ⟨hk, hok⟩ := hst k (by omega)
    have w10 := zsW_lo I P w (show 10 < 23 ∨ 26 < 10 by decide)
    have w21 := zsW_lo I P w (show 21 < 23 ∨ 26 < 21 by decide)
    have w22 := zsW_lo I P w (show 22 < 23 ∨ 26 < 22 by decide)
    have hN' : zsW I P w 10 2 = nI N := by rw [w10]; exact hN
    have cb := qX3_canBe (L := L) (xs := xs) (d := d) (J := J) zPg_23 hN' h1 hok
    have ps := qX3_playStep (L := L) (xs := xs) (d := d) (J := J) zPg_23 hN' h1 hok
    rw [zsW_g, cF_W, w10] at cb
    rw [zsW_g, cF_W, zsW_s] at ps
    rw [eX3_playPlan_14]
    have c1 : (nI n ≤ nI k) = False := by rw [zle (show n ≤ 1000000 by omega) (show k ≤ 1000000 by omega)]; exact eq_false (by omega)
    by_cases hlo : nI k = lo
    · subst hlo
      simp only [eX3_playPlan_16, eX3_playPlan_17, eX3_playPlan_20, eX3_playPlan_23, eX3_playPlan_25, eX3_playPlan_26, eX3_playPlan_29, eX3_playPlan_84, eX3_playPlan_87, G_o21, w21, hn, c1, ne_eq, not_true_eq_false, if_false, nI_1]
      rw [ih (k + 1) P w v (by omega)]
      simp only [cPl, if_true]
    · by_cases hc : pCan N (I 10 3) (cF I) (st k) P
      · rw [zb_t hc] at cb
        have e0 : cPl N (I 10 3) (cF I) st lo k (r + 1) P w = cPl N (I 10 3) (cF I) st lo (k + 1) r (cStp N (cF I) (st k) P) (@ite _ (cWr (cF I) (st k) P ∧ w = -9) (Classical.propDecidable _) (nI k) w) := by
          rw [cPl, if_neg hlo, if_pos hc]
        rw [e0]
        have w5 := zsW_5 I (cStp N (cF I) (st k) P) w
        by_cases hw : cWr (cF I) (st k) P
        · rw [zb_t hw] at ps
          by_cases hw9 : w = -9
          · rw [if_pos ⟨hw, hw9⟩]
            simp only [eX3_playPlan_16, eX3_playPlan_17, eX3_playPlan_20, eX3_playPlan_23, eX3_playPlan_25, eX3_playPlan_26, eX3_playPlan_29, eX3_playPlan_32, eX3_playPlan_33, eX3_playPlan_34, eX3_playPlan_35, eX3_playPlan_38, eX3_playPlan_40, eX3_playPlan_41, eX3_playPlan_44, eX3_playPlan_47, eX3_playPlan_49, eX3_playPlan_50, eX3_playPlan_51, eX3_playPlan_52, eX3_playPlan_53, eX3_playPlan_56, eX3_playPlan_58, eX3_playPlan_59, eX3_playPlan_62, eX3_playPlan_64, eX3_playPlan_66, eX3_playPlan_69, eX3_playPlan_70, eX3_playPlan_73, eX3_playPlan_75, eX3_playPlan_78, eX3_playPlan_79, eX3_playPlan_81, eX3_playPlan_84, eX3_playPlan_87, Option.bind_some, Option.toList_some, Option.toList_none, List.cons_append, List.nil_append, zPg_23.2.1, G_o23, G_o21, G_h21_0, G_r21_0, G_a22, G_l22, w21, w22, hn, c1, hlo, ne_eq, not_false_eq_true, if_true, if_false, zIn_20 (show k < 20 by omega), zc_n (show k ≤ 1000 by omega), hk, cb, ps, show ((1 : Int32) = 0) = False from by decide, w5, eq_true hw9, not_true_eq_false, zsW_w, nI_1]
            exact ih (k + 1) _ _ _ (by omega)
          · rw [if_neg (fun h => hw9 h.2)]
            simp only [eX3_playPlan_16, eX3_playPlan_17, eX3_playPlan_20, eX3_playPlan_23, eX3_playPlan_25, eX3_playPlan_26, eX3_playPlan_29, eX3_playPlan_32, eX3_playPlan_33, eX3_playPlan_34, eX3_playPlan_35, eX3_playPlan_38, eX3_playPlan_40, eX3_playPlan_41, eX3_playPlan_44, eX3_playPlan_47, eX3_playPlan_49, eX3_playPlan_50, eX3_playPlan_51, eX3_playPlan_52, eX3_playPlan_53, eX3_playPlan_56, eX3_playPlan_58, eX3_playPlan_59, eX3_playPlan_62, eX3_playPlan_64, eX3_playPlan_66, eX3_playPlan_69, eX3_playPlan_70, eX3_playPlan_73, eX3_playPlan_75, eX3_playPlan_78, eX3_playPlan_79, eX3_playPlan_81, eX3_playPlan_84, eX3_playPlan_87, Option.bind_some, Option.toList_some, Option.toList_none, List.cons_append, List.nil_append, zPg_23.2.1, G_o23, G_o21, G_h21_0, G_r21_0, G_a22, G_l22, w21, w22, hn, c1, hlo, ne_eq, not_false_eq_true, if_true, if_false, zIn_20 (show k < 20 by omega), zc_n (show k ≤ 1000 by omega), hk, cb, ps, show ((1 : Int32) = 0) = False from by decide, w5, hw9, nI_1]
            exact ih (k + 1) _ _ _ (by omega)
        · rw [zb_f hw] at ps
          rw [if_neg (fun h => hw h.1)]
          simp only [eX3_playPlan_16, eX3_playPlan_17, eX3_playPlan_20, eX3_playPlan_23, eX3_playPlan_25, eX3_playPlan_26, eX3_playPlan_29, eX3_playPlan_32, eX3_playPlan_33, eX3_playPlan_34, eX3_playPlan_35, eX3_playPlan_38, eX3_playPlan_40, eX3_playPlan_41, eX3_playPlan_44, eX3_playPlan_47, eX3_playPlan_49, eX3_playPlan_50, eX3_playPlan_51, eX3_playPlan_52, eX3_playPlan_53, eX3_playPlan_56, eX3_playPlan_58, eX3_playPlan_59, eX3_playPlan_62, eX3_playPlan_64, eX3_playPlan_66, eX3_playPlan_69, eX3_playPlan_70, eX3_playPlan_73, eX3_playPlan_75, eX3_playPlan_78, eX3_playPlan_79, eX3_playPlan_81, eX3_playPlan_84, eX3_playPlan_87, Option.bind_some, Option.toList_some, Option.toList_none, List.cons_append, List.nil_append, zPg_23.2.1, G_o23, G_o21, G_h21_0, G_r21_0, G_a22, G_l22, w21, w22, hn, c1, hlo, ne_eq, not_false_eq_true, if_true, if_false, zIn_20 (show k < 20 by omega), zc_n (show k ≤ 1000 by omega), hk, cb, ps, show ((1 : Int32) = 0) = False from by decide, nI_1]
          exact ih (k + 1) _ _ _ (by omega)
      · rw [zb_f hc] at cb
        have e0 : cPl N (I 10 3) (cF I) st lo k (r + 1) P w = (nI k, P, w) := by
          rw [cPl, if_neg hlo, if_neg hc]
        rw [e0]
        simp only [eX3_playPlan_16, eX3_playPlan_17, eX3_playPlan_20, eX3_playPlan_23, eX3_playPlan_25, eX3_playPlan_26, eX3_playPlan_29, eX3_playPlan_32, eX3_playPlan_33, eX3_playPlan_34, eX3_playPlan_35, eX3_playPlan_38, eX3_playPlan_40, eX3_playPlan_41, eX3_playPlan_44, eX3_playPlan_47, eX3_playPlan_49, Option.bind_some, Option.toList_some, Option.toList_none, List.cons_append, List.nil_append, zPg_23.2.1, G_o23, G_o21, G_h21_0, G_r21_0, G_a22, G_l22, w21, w22, hn, c1, hlo, ne_eq, not_false_eq_true, not_true_eq_false, if_true, if_false, zIn_20 (show k < 20 by omega), zc_n (show k ≤ 1000 by omega), hk, cb]
set_option maxHeartbeats 1000000 in
theorem qX3_playPlan {N n : Nat} {I : Nat → Nat → Int32} {st : Nat → Nat} {lo : Int32} (hN : I 10 2 = nI N) (h1 : N ≤ 6) (hn : I 21 1 = nI n) (h2 : n ≤ 20) (hst : ∀ k, k < n → I 22 k = nI (st k) ∧ pOk N (st k)) : zE zCd (zGG L xs) d 32 [.ref 23, .ref 10, .ref 21, .int lo] (I, J) = some (some (.int (cPl N (I 10 3) (cF I) st lo 0 n (cBg 23 I) (-9)).1), (zsW I (cPl N (I 10 3) (cF I) st lo 0 n (cBg 23 I) (-9)).2.1 (cPl N (I 10 3) (cF I) st lo 0 n (cBg 23 I) (-9)).2.2, J)) := by
  have b := qX3_begin (L := L) (xs := xs) (d := d) (J := J) (I := I) zPg_23
  simp only [nX3_playPlan, eX3_playPlan_0, eX3_playPlan_1, eX3_playPlan_2, eX3_playPlan_5, eX3_playPlan_6, eX3_playPlan_8, eX3_playPlan_11, eX3_playPlan_12, Option.bind_some, Option.toList_some, Option.toList_none, List.cons_append, List.nil_append, zPg_23.2.1, G_o23, b]
  exact lp_plan (L := L) (xs := xs) (d := d) (J := J) hN h1 hn h2 hst n 0 (cBg 23 I) (-9) .null (by omega)
end S
