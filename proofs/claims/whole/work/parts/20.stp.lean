set_option maxHeartbeats 1000000 in
theorem zt0 : (0 : Int32).toNatClampNeg = 0 := by decide +kernel
set_option maxHeartbeats 1000000 in
theorem zt5 : (5 : Int32).toNatClampNeg = 5 := by decide +kernel
set_option maxHeartbeats 1000000 in
theorem zt6 : (6 : Int32).toNatClampNeg = 6 := by decide +kernel
set_option maxHeartbeats 1000000 in
theorem zn00 : ((0 : Int32) < 0) = False := by decide +kernel
set_option maxHeartbeats 1000000 in
theorem zn50 : ((5 : Int32) < 0) = False := by decide +kernel
set_option maxHeartbeats 1000000 in
theorem zn60 : ((6 : Int32) < 0) = False := by decide +kernel
set_option maxHeartbeats 1000000 in
theorem zjc {N : Nat} (h : N ≤ 6) : (if nI N - 1 < 0 then 0 else nI N - 1) = nI (N - 1) := by
  rcases (show N = 0 ∨ N = 1 ∨ N = 2 ∨ N = 3 ∨ N = 4 ∨ N = 5 ∨ N = 6 by omega) with rfl | rfl | rfl | rfl | rfl | rfl | rfl <;> decide +kernel
set_option maxHeartbeats 1000000 in
theorem zb_iff {p q : Prop} {dp : Decidable p} {dq : Decidable q} (h : p ↔ q) : zb p dp = zb q dq := by
  by_cases hp : p
  · rw [zb_t hp, zb_t (h.mp hp)]
  · rw [zb_f hp, zb_f (fun x => hp (h.mpr x))]
set_option maxHeartbeats 1000000 in
theorem zext {p : Nat} {A B : Nat → Nat → Int32} (h1 : ∀ k, A (p + 1) k = B (p + 1) k) (h2 : ∀ k, A (p + 2) k = B (p + 2) k) (h3 : ∀ k, A (p + 3) k = B (p + 3) k) (h4 : ∀ k, A p k = B p k) (h5 : ∀ c k, c ≠ p + 1 → c ≠ p + 2 → c ≠ p + 3 → c ≠ p → A c k = B c k) : A = B := by
  funext c k
  by_cases e1 : c = p + 1
  · subst e1; exact h1 k
  · by_cases e2 : c = p + 2
    · subst e2; exact h2 k
    · by_cases e3 : c = p + 3
      · subst e3; exact h3 k
      · by_cases e4 : c = p
        · subst e4; exact h4 k
        · exact h5 c k e1 e2 e3 e4
def pRt (N : Nat) (P : zPs) : Int64 := zPrx (zPrd (fun k => (P.1 k).toInt64) N) (fun k => (P.2.1 k).toInt64) 0 (N - 1)
section S
variable {L : Nat} {xs : Nat → Int32} {d : Nat} {J : Nat → Nat → Int64}
noncomputable def cWr_dec (f : Nat → Nat → Int32) (s : Nat) (P : zPs) : Decidable (cWr f s P) := by unfold cWr; exact inferInstance
noncomputable def pCan_dec (N : Nat) (mn : Int32) (f : Nat → Nat → Int32) (s : Nat) (P : zPs) : Decidable (pCan N mn f s P) := by unfold pCan; exact inferInstance
set_option maxHeartbeats 1000000 in
theorem qX3_playStep {p N s : Nat} {I : Nat → Nat → Int32} (hp : zPg (zGG L xs) p) (hN : I 10 2 = nI N) (h1 : N ≤ 6) (hs : pOk N s) : zE zCd (zGG L xs) d 34 [.ref p, .ref 10, .int (nI s)] (I, J) = some (some (.int (zb (cWr (cF I) s (zgP p I)) (cWr_dec _ _ _))), (zsP p I (cStp N (cF I) s (zgP p I)), J)) := by
  have hs2 : s ≤ 1000 := by unfold pOk at hs; omega
  have e21 : (nI s ≠ 21) = (s ≠ 21) := by have := @zeq s 21 (by omega) (by omega); exact congrArg Not this
  have e20 : (nI s ≠ 20) = (s ≠ 20) := by have := @zeq s 20 (by omega) (by omega); exact congrArg Not this
  have p15 : 23 ≤ p := hp.1
  have r1 := qX3_runThrough (L := L) (xs := xs) (d := d) (J := J) (b := true) (I := I) hp
  have r0 := qX3_runThrough (L := L) (xs := xs) (d := d) (J := J) (b := false) (I := I) hp
  simp only [if_true, show (false = true) = False from by decide, if_false] at r1 r0
  have nw : ∀ (x : Int32), zU I p 4 x p 3 = I p 3 := fun x => by simp only [zU_app]; grind
  have nr2 : ∀ (r : Nat → Int32), zUr I (p + 2) r p 3 = I p 3 := fun r => by simp only [zUr_app]; grind
  have nr3 : ∀ (r q : Nat → Int32), zUr (zUr I (p + 1) r) (p + 3) q p 3 = I p 3 := fun r q => by simp only [zUr_app]; grind
  by_cases ht : I p 3 - I p 4 < 40
  · have htd : pTd (zgP p I) = false := by simp only [pTd, zgP]; exact decide_eq_false (by grind)
    by_cases h21 : s = 21
    · subst h21
      simp only [nX3_playStep, eX3_playStep_0, eX3_playStep_1, eX3_playStep_4, eX3_playStep_5, eX3_playStep_8, eX3_playStep_9, eX3_playStep_11, eX3_playStep_14, eX3_playStep_15, eX3_playStep_18, eX3_playStep_19, eX3_playStep_20, eX3_playStep_21, eX3_playStep_23, eX3_playStep_24, eX3_playStep_25, eX3_playStep_28, eX3_playStep_30, eX3_playStep_31, eX3_playStep_33, eX3_playStep_36, eX3_playStep_37, eX3_playStep_38, eX3_playStep_41, eX3_playStep_43, eX3_playStep_44, eX3_playStep_47, eX3_playStep_50, eX3_playStep_51, eX3_playStep_53, eX3_playStep_56, eX3_playStep_57, eX3_playStep_58, eX3_playStep_61, eX3_playStep_64, eX3_playStep_65, eX3_playStep_66, eX3_playStep_67, eX3_playStep_68, eX3_playStep_71, eX3_playStep_73, eX3_playStep_74, eX3_playStep_75, eX3_playStep_78, eX3_playStep_80, eX3_playStep_81, eX3_playStep_84, eX3_playStep_86, Option.bind_some, Option.toList_some, Option.toList_none, List.cons_append, List.nil_append, hp.2.1, G_o10, qmin hN h1 hs, ht, if_true, e21, ne_eq, not_true_eq_false, if_false, zT_0, nw]
      have w : ¬ cWr (cF I) 21 (zgP p I) := by simp [cWr]
      rw [zb_f w]
      congr 3
      refine zext (p := p) ?_ ?_ ?_ ?_ ?_ <;> intro k <;> intros <;> simp_all [zsP, zU, cStp, zgP] <;> grind
    · by_cases h20 : s = 20
      · subst h20
        simp only [nX3_playStep, eX3_playStep_0, eX3_playStep_1, eX3_playStep_4, eX3_playStep_5, eX3_playStep_8, eX3_playStep_9, eX3_playStep_11, eX3_playStep_14, eX3_playStep_15, eX3_playStep_18, eX3_playStep_19, eX3_playStep_20, eX3_playStep_21, eX3_playStep_23, eX3_playStep_24, eX3_playStep_25, eX3_playStep_28, eX3_playStep_30, eX3_playStep_31, eX3_playStep_33, eX3_playStep_36, eX3_playStep_37, eX3_playStep_38, eX3_playStep_41, eX3_playStep_43, eX3_playStep_44, eX3_playStep_47, eX3_playStep_50, eX3_playStep_51, eX3_playStep_53, eX3_playStep_56, eX3_playStep_57, eX3_playStep_58, eX3_playStep_61, eX3_playStep_64, eX3_playStep_65, eX3_playStep_66, eX3_playStep_67, eX3_playStep_68, eX3_playStep_71, eX3_playStep_73, eX3_playStep_74, eX3_playStep_75, eX3_playStep_78, eX3_playStep_80, eX3_playStep_81, eX3_playStep_84, eX3_playStep_86, Option.bind_some, Option.toList_some, Option.toList_none, List.cons_append, List.nil_append, hp.2.1, G_o10, qmin hN h1 hs, ht, if_true, e21, e20, ne_eq, not_true_eq_false, not_false_eq_true, show (20 = 21) = False from by decide, if_false, zT_0, r0, nr2]
        have w : ¬ cWr (cF I) 20 (zgP p I) := by simp [cWr]
        rw [zb_f w]
        congr 3
        refine zext (p := p) ?_ ?_ ?_ ?_ ?_ <;> intro k <;> intros <;> simp_all [zsP, zU, zUr, cStp, zgP] <;> grind
      · have hl : s < 20 := by unfold pOk at hs; omega
        have q0 := qX3_playPlace (L := L) (xs := xs) (d := d) (J := J) (b := false) hp hN h1 hs hl
        simp only [show (false = true) = False from by decide, if_false] at q0
        simp only [nX3_playStep, eX3_playStep_0, eX3_playStep_1, eX3_playStep_4, eX3_playStep_5, eX3_playStep_8, eX3_playStep_9, eX3_playStep_11, eX3_playStep_14, eX3_playStep_15, eX3_playStep_18, eX3_playStep_19, eX3_playStep_20, eX3_playStep_21, eX3_playStep_23, eX3_playStep_24, eX3_playStep_25, eX3_playStep_28, eX3_playStep_30, eX3_playStep_31, eX3_playStep_33, eX3_playStep_36, eX3_playStep_37, eX3_playStep_38, eX3_playStep_41, eX3_playStep_43, eX3_playStep_44, eX3_playStep_47, eX3_playStep_50, eX3_playStep_51, eX3_playStep_53, eX3_playStep_56, eX3_playStep_57, eX3_playStep_58, eX3_playStep_61, eX3_playStep_64, eX3_playStep_65, eX3_playStep_66, eX3_playStep_67, eX3_playStep_68, eX3_playStep_71, eX3_playStep_73, eX3_playStep_74, eX3_playStep_75, eX3_playStep_78, eX3_playStep_80, eX3_playStep_81, eX3_playStep_84, eX3_playStep_86, Option.bind_some, Option.toList_some, Option.toList_none, List.cons_append, List.nil_append, hp.2.1, G_o10, qmin hN h1 hs, ht, if_true, e21, e20, h21, h20, ne_eq, not_false_eq_true, zT_b, q0, nr3]
        have w : cWr (cF I) s (zgP p I) ↔ cS (cF I) s false (I (p + 1)) (I (p + 3)) (pJ s) < I (p + 1) (pJ s) := by
          unfold cWr
          rw [htd]
          exact ⟨fun h => h.2, fun h => ⟨hl, h⟩⟩
        rw [zb_iff w]
        congr 3
        refine zext (p := p) ?_ ?_ ?_ ?_ ?_ <;> intro k <;> intros <;> simp_all [zsP, zU, zUr, cStp, zgP] <;> grind
  · have htd : pTd (zgP p I) = true := by simp only [pTd, zgP]; exact decide_eq_true (by grind)
    by_cases h21 : s = 21
    · subst h21
      simp only [nX3_playStep, eX3_playStep_0, eX3_playStep_1, eX3_playStep_4, eX3_playStep_5, eX3_playStep_8, eX3_playStep_9, eX3_playStep_11, eX3_playStep_14, eX3_playStep_15, eX3_playStep_18, eX3_playStep_19, eX3_playStep_20, eX3_playStep_21, eX3_playStep_23, eX3_playStep_24, eX3_playStep_25, eX3_playStep_28, eX3_playStep_30, eX3_playStep_31, eX3_playStep_33, eX3_playStep_36, eX3_playStep_37, eX3_playStep_38, eX3_playStep_41, eX3_playStep_43, eX3_playStep_44, eX3_playStep_47, eX3_playStep_50, eX3_playStep_51, eX3_playStep_53, eX3_playStep_56, eX3_playStep_57, eX3_playStep_58, eX3_playStep_61, eX3_playStep_64, eX3_playStep_65, eX3_playStep_66, eX3_playStep_67, eX3_playStep_68, eX3_playStep_71, eX3_playStep_73, eX3_playStep_74, eX3_playStep_75, eX3_playStep_78, eX3_playStep_80, eX3_playStep_81, eX3_playStep_84, eX3_playStep_86, Option.bind_some, Option.toList_some, Option.toList_none, List.cons_append, List.nil_append, hp.2.1, G_o10, qmin hN h1 hs, ht, if_true, e21, ne_eq, not_true_eq_false, if_false, zT_0, nw]
      have w : ¬ cWr (cF I) 21 (zgP p I) := by simp [cWr]
      rw [zb_f w]
      congr 3
      refine zext (p := p) ?_ ?_ ?_ ?_ ?_ <;> intro k <;> intros <;> simp_all [zsP, zU, cStp, zgP] <;> grind
    · by_cases h20 : s = 20
      · subst h20
        simp only [nX3_playStep, eX3_playStep_0, eX3_playStep_1, eX3_playStep_4, eX3_playStep_5, eX3_playStep_8, eX3_playStep_9, eX3_playStep_11, eX3_playStep_14, eX3_playStep_15, eX3_playStep_18, eX3_playStep_19, eX3_playStep_20, eX3_playStep_21, eX3_playStep_23, eX3_playStep_24, eX3_playStep_25, eX3_playStep_28, eX3_playStep_30, eX3_playStep_31, eX3_playStep_33, eX3_playStep_36, eX3_playStep_37, eX3_playStep_38, eX3_playStep_41, eX3_playStep_43, eX3_playStep_44, eX3_playStep_47, eX3_playStep_50, eX3_playStep_51, eX3_playStep_53, eX3_playStep_56, eX3_playStep_57, eX3_playStep_58, eX3_playStep_61, eX3_playStep_64, eX3_playStep_65, eX3_playStep_66, eX3_playStep_67, eX3_playStep_68, eX3_playStep_71, eX3_playStep_73, eX3_playStep_74, eX3_playStep_75, eX3_playStep_78, eX3_playStep_80, eX3_playStep_81, eX3_playStep_84, eX3_playStep_86, Option.bind_some, Option.toList_some, Option.toList_none, List.cons_append, List.nil_append, hp.2.1, G_o10, qmin hN h1 hs, ht, if_true, e21, e20, ne_eq, not_true_eq_false, not_false_eq_true, show (20 = 21) = False from by decide, if_false, zT_0, r1, nr2]
        have w : ¬ cWr (cF I) 20 (zgP p I) := by simp [cWr]
        rw [zb_f w]
        congr 3
        refine zext (p := p) ?_ ?_ ?_ ?_ ?_ <;> intro k <;> intros <;> simp_all [zsP, zU, zUr, cStp, zgP] <;> grind
      · have hl : s < 20 := by unfold pOk at hs; omega
        have q1 := qX3_playPlace (L := L) (xs := xs) (d := d) (J := J) (b := true) hp hN h1 hs hl
        simp only [if_true] at q1
        simp only [nX3_playStep, eX3_playStep_0, eX3_playStep_1, eX3_playStep_4, eX3_playStep_5, eX3_playStep_8, eX3_playStep_9, eX3_playStep_11, eX3_playStep_14, eX3_playStep_15, eX3_playStep_18, eX3_playStep_19, eX3_playStep_20, eX3_playStep_21, eX3_playStep_23, eX3_playStep_24, eX3_playStep_25, eX3_playStep_28, eX3_playStep_30, eX3_playStep_31, eX3_playStep_33, eX3_playStep_36, eX3_playStep_37, eX3_playStep_38, eX3_playStep_41, eX3_playStep_43, eX3_playStep_44, eX3_playStep_47, eX3_playStep_50, eX3_playStep_51, eX3_playStep_53, eX3_playStep_56, eX3_playStep_57, eX3_playStep_58, eX3_playStep_61, eX3_playStep_64, eX3_playStep_65, eX3_playStep_66, eX3_playStep_67, eX3_playStep_68, eX3_playStep_71, eX3_playStep_73, eX3_playStep_74, eX3_playStep_75, eX3_playStep_78, eX3_playStep_80, eX3_playStep_81, eX3_playStep_84, eX3_playStep_86, Option.bind_some, Option.toList_some, Option.toList_none, List.cons_append, List.nil_append, hp.2.1, G_o10, qmin hN h1 hs, ht, if_true, if_false, e21, e20, h21, h20, ne_eq, not_false_eq_true, zT_b, q1, nr3]
        have w : cWr (cF I) s (zgP p I) ↔ cS (cF I) s true (I (p + 1)) (I (p + 3)) (pJ s) < I (p + 1) (pJ s) := by
          unfold cWr
          rw [htd]
          exact ⟨fun h => h.2, fun h => ⟨hl, h⟩⟩
        rw [zb_iff w]
        congr 3
        refine zext (p := p) ?_ ?_ ?_ ?_ ?_ <;> intro k <;> intros <;> simp_all [zsP, zU, zUr, cStp, zgP] <;> grind
set_option maxHeartbeats 1000000 in
theorem lp_beg {p : Nat} (hp : zPg (zGG L xs) p) : ∀ (r k : Nat) (I : Nat → Nat → Int32), k + r = 6 → zX zCd (zGG L xs) d 30 2 [.ref p, .ref 10, .int (nI k)] [] (I, J) = zX zCd (zGG L xs) d 30 29 [.ref p, .ref 10, .int (nI 6)] [] (zUr I (p + 1) (fun j => if k ≤ j ∧ j < 6 then I (j + 15) 1 else I (p + 1) j), J) := by
  have p15 : 23 ≤ p := hp.1
  intro r
  induction r with
  | zero =>
    intro k I h
    obtain rfl : k = 6 := by omega
    rw [eX3_begin_2]
    simp only [eX3_begin_3, eX3_begin_5, eX3_begin_8, show ((6 : Int32) ≤ nI 6) = True from by decide, if_true]
    congr 2
    funext c' j
    simp only [zUr_app]
    grind
  | succ r ih =>
    intro k I h
    rw [eX3_begin_2]
    simp only [eX3_begin_3, eX3_begin_5, eX3_begin_8, eX3_begin_9, eX3_begin_12, eX3_begin_13, eX3_begin_14, eX3_begin_17, eX3_begin_18, eX3_begin_19, eX3_begin_22, eX3_begin_23, eX3_begin_26, show ((6 : Int32) ≤ nI k) = (6 ≤ k) from @zle 6 k (by omega) (by omega), if_neg (show ¬ 6 ≤ k by omega), hp.2.1, hp.2.2.1, hp.2.2.2.2.2.1, G_o10, G_h10_0, G_r10_0, G_q11, G_l11, zIn_6 (show k < 6 by omega), zc_n (show k ≤ 1000 by omega), G_11h (show k < 6 by omega), G_11r (show k < 6 by omega), G_pl_o (show k < 6 by omega), nI_1]
    rw [ih (k + 1) _ (by omega)]
    congr 2
    funext c' j
    simp only [zUr_app, zU_app]
    grind
def cBg (p : Nat) (I : Nat → Nat → Int32) : zPs := (fun k => if k < 6 then I (k + 15) 1 else I (p + 1) k, fun k => if k < 5 then 5 else I (p + 2) k, fun k => if k < 6 then 0 else I (p + 3) k, 0, 0)
set_option maxHeartbeats 1000000 in
theorem mem_beg {p : Nat} {I : Nat → Nat → Int32} (hp : 23 ≤ p) : zU (zU (zUr (zUr (zUr I (p + 1) (fun j => if 0 ≤ j ∧ j < 6 then I (j + 15) 1 else I (p + 1) j)) (p + 2) (fun j => if j < 5 then 5 else zUr I (p + 1) (fun j => if 0 ≤ j ∧ j < 6 then I (j + 15) 1 else I (p + 1) j) (p + 2) j)) (p + 3) (fun j => if j < 6 then 0 else zUr (zUr I (p + 1) (fun j => if 0 ≤ j ∧ j < 6 then I (j + 15) 1 else I (p + 1) j)) (p + 2) (fun j => if j < 5 then 5 else zUr I (p + 1) (fun j => if 0 ≤ j ∧ j < 6 then I (j + 15) 1 else I (p + 1) j) (p + 2) j) (p + 3) j)) p 3 0) p 4 0 = zsP p I (cBg p I) := by
  have a1 : ∀ r : Nat → Int32, zUr I (p + 1) r (p + 2) = I (p + 2) := fun r => zUr_ne _ _ (by omega)
  have a2 : ∀ (r q : Nat → Int32), zUr (zUr I (p + 1) r) (p + 2) q (p + 3) = I (p + 3) := fun r q => by rw [zUr_ne _ _ (by omega), zUr_ne _ _ (by omega)]
  simp only [a1, a2]
  funext c k
  simp only [zU_app, zUr_app, zsP, cBg]
  by_cases e1 : c = p + 1
  · subst e1; simp
  · by_cases e2 : c = p + 2
    · subst e2; simp
    · by_cases e3 : c = p + 3
      · subst e3; simp
      · by_cases e4 : c = p
        · subst e4
          by_cases k3 : k = 3
          · subst k3; simp
          · by_cases k4 : k = 4
            · subst k4; simp
            · simp [k3, k4]
        · simp [e1, e2, e3, e4]
set_option maxHeartbeats 1000000 in
theorem qX3_begin {p : Nat} {I : Nat → Nat → Int32} (hp : zPg (zGG L xs) p) : zE zCd (zGG L xs) d 30 [.ref p, .ref 10] (I, J) = some (none, (zsP p I (cBg p I), J)) := by
  have p15 : 23 ≤ p := hp.1
  have l := lp_beg (L := L) (xs := xs) (d := d) (J := J) hp 6 0 I (by omega)
  simp only [nX3_begin, eX3_begin_0, eX3_begin_1]
  refine Eq.trans l ?_
  have f1 : ∀ K : Nat → Nat → Int32, zE zCd (zGG L xs) d 0 [.ref (p + 2), .int 5] (K, J) = some (none, (zUr K (p + 2) (fun j => if j < 5 then 5 else K (p + 2) j), J)) := fun K => qfill (I := K) (v := 5) hp.2.2.2.2.2.2.1.1 hp.2.2.2.2.2.2.1.2 (by decide)
  have f2 : ∀ K : Nat → Nat → Int32, zE zCd (zGG L xs) d 0 [.ref (p + 3), .int 0] (K, J) = some (none, (zUr K (p + 3) (fun j => if j < 6 then 0 else K (p + 3) j), J)) := fun K => qfill (I := K) (v := 0) hp.2.2.2.2.2.2.2.1 hp.2.2.2.2.2.2.2.2 (by decide)
  simp only [eX3_begin_29, eX3_begin_30, eX3_begin_33, eX3_begin_34, eX3_begin_37, eX3_begin_38, eX3_begin_41, eX3_begin_42, eX3_begin_45, eX3_begin_46, eX3_begin_47, eX3_begin_50, eX3_begin_51, eX3_begin_52, eX3_begin_55, Option.bind_some, Option.toList_some, Option.toList_none, List.cons_append, List.nil_append, hp.2.1, hp.2.2.2.1, hp.2.2.2.2.1, f1, f2]
  rw [mem_beg p15]
def cLk (p q : Nat) (I : Nat → Nat → Int32) : zPs := (fun k => if k < 6 then I (q + 1) k else I (p + 1) k, fun k => if k < 5 then I (q + 2) k else I (p + 2) k, fun k => if k < 6 then I (q + 3) k else I (p + 3) k, I q 3, I q 4)
set_option maxHeartbeats 1000000 in
theorem qX3_becomeLike {p q : Nat} {I : Nat → Nat → Int32} (hp : zPg (zGG L xs) p) (hq : zPg (zGG L xs) q) (hpq : p = q + 4) : zE zCd (zGG L xs) d 31 [.ref p, .ref q] (I, J) = some (none, (zsP p I (cLk p q I), J)) := by
  simp only [nX3_becomeLike, eX3_becomeLike_0, eX3_becomeLike_1, eX3_becomeLike_4, eX3_becomeLike_5, eX3_becomeLike_6, eX3_becomeLike_9, eX3_becomeLike_10, eX3_becomeLike_12, eX3_becomeLike_15, eX3_becomeLike_16, eX3_becomeLike_19, eX3_becomeLike_20, eX3_becomeLike_21, eX3_becomeLike_24, eX3_becomeLike_25, eX3_becomeLike_26, eX3_becomeLike_29, eX3_becomeLike_30, eX3_becomeLike_33, eX3_becomeLike_34, eX3_becomeLike_35, eX3_becomeLike_38, eX3_becomeLike_39, eX3_becomeLike_41, eX3_becomeLike_44, eX3_becomeLike_45, eX3_becomeLike_46, eX3_becomeLike_49, eX3_becomeLike_52, eX3_becomeLike_53, eX3_becomeLike_54, eX3_becomeLike_57, eX3_becomeLike_60, Option.bind_some, Option.toList_some, Option.toList_none, List.cons_append, List.nil_append, hp.2.1, hp.2.2.1, hp.2.2.2.1, hp.2.2.2.2.1, hp.2.2.2.2.2.1, hp.2.2.2.2.2.2.1, hp.2.2.2.2.2.2.2, hq.2.1, hq.2.2.1, hq.2.2.2.1, hq.2.2.2.2.1, hq.2.2.2.2.2.1, hq.2.2.2.2.2.2.1, hq.2.2.2.2.2.2.2, zn00, zn50, zn60, not_false_eq_true, zt0, zt5, zt6, Nat.zero_add, Nat.le_refl]
  congr 3
  funext c' k
  simp only [zsP, zU_app, zUr_app, cLk, va_cpy, Nat.zero_add, Nat.zero_le, true_and, Nat.sub_zero]
  grind
set_option maxHeartbeats 1000000 in
theorem lp_rp1 {p N : Nat} {I : Nat → Nat → Int32} (hp : zPg (zGG L xs) p) (hN : I 10 2 = nI N) (h1 : N ≤ 6) : ∀ (r k : Nat) (x : Int64), k + r = N → zX zCd (zGG L xs) d 37 5 [.ref p, .ref 10, .long x, .null, .int (nI k)] [] (I, J) = zX zCd (zGG L xs) d 37 31 [.ref p, .ref 10, .long (zPrx x (fun k => (I (p + 1) k).toInt64) k r), .null, .int (nI N)] [] (I, J) := by
  intro r
  induction r with
  | zero =>
    intro k x h
    obtain rfl : k = N := by omega
    rw [eX3_rightParts_5]
    simp only [eX3_rightParts_7, eX3_rightParts_8, eX3_rightParts_11, G_o10, hN, Int32.le_refl, if_true, zPrx]
  | succ r ih =>
    intro k x h
    rw [eX3_rightParts_5]
    simp only [eX3_rightParts_7, eX3_rightParts_8, eX3_rightParts_11, eX3_rightParts_14, eX3_rightParts_15, eX3_rightParts_16, eX3_rightParts_19, eX3_rightParts_21, eX3_rightParts_22, eX3_rightParts_23, eX3_rightParts_24, eX3_rightParts_25, eX3_rightParts_28, G_o10, hp.2.1, hp.2.2.1, hp.2.2.2.2.2.1, hN, zle (show N ≤ 1000000 by omega) (show k ≤ 1000000 by omega), if_neg (show ¬ N ≤ k by omega), zIn_6 (show k < 6 by omega), zc_n (show k ≤ 1000 by omega), nI_1]
    rw [ih (k + 1) _ (by omega)]
    rfl
set_option maxHeartbeats 1000000 in
theorem lp_rp2 {p N : Nat} {I : Nat → Nat → Int32} (hp : zPg (zGG L xs) p) (hN : I 10 2 = nI N) (h1 : N ≤ 6) : ∀ (r k : Nat) (x : Int64), k + r = N - 1 → zX zCd (zGG L xs) d 37 34 [.ref p, .ref 10, .long x, .null, .int (nI k)] [] (I, J) = some (some (.long (zPrx x (fun k => (I (p + 2) k).toInt64) k r)), (I, J)) := by
  intro r
  induction r with
  | zero =>
    intro k x h
    obtain rfl : k = N - 1 := by omega
    rw [eX3_rightParts_34]
    simp only [eX3_rightParts_36, eX3_rightParts_37, eX3_rightParts_40, eX3_rightParts_43, eX3_rightParts_44, eX3_rightParts_45, eX3_rightParts_48, eX3_rightParts_50, eX3_rightParts_51, eX3_rightParts_52, eX3_rightParts_53, eX3_rightParts_54, eX3_rightParts_57, eX3_rightParts_60, eX3_rightParts_61, Option.bind_some, Option.toList_some, Option.toList_none, List.cons_append, List.nil_append, G_o10, qX0_joinCount, hN, zjc h1, Int32.le_refl, if_true, zPrx]
  | succ r ih =>
    intro k x h
    rw [eX3_rightParts_34]
    simp only [eX3_rightParts_36, eX3_rightParts_37, eX3_rightParts_40, eX3_rightParts_43, eX3_rightParts_44, eX3_rightParts_45, eX3_rightParts_48, eX3_rightParts_50, eX3_rightParts_51, eX3_rightParts_52, eX3_rightParts_53, eX3_rightParts_54, eX3_rightParts_57, Option.bind_some, Option.toList_some, Option.toList_none, List.cons_append, List.nil_append, qX0_joinCount, G_o10, hp.2.1, hp.2.2.2.1, hp.2.2.2.2.2.2.1, hN, zjc h1, zle (show N - 1 ≤ 1000000 by omega) (show k ≤ 1000000 by omega), if_neg (show ¬ N - 1 ≤ k by omega), zIn_5 (show k < 5 by omega), zc_n (show k ≤ 1000 by omega), nI_1]
    rw [ih (k + 1) _ (by omega)]
    rfl
set_option maxHeartbeats 1000000 in
theorem qX3_rightParts {p N : Nat} {I : Nat → Nat → Int32} (hp : zPg (zGG L xs) p) (hN : I 10 2 = nI N) (h1 : N ≤ 6) : zE zCd (zGG L xs) d 37 [.ref p, .ref 10] (I, J) = some (some (.long (pRt N (zgP p I))), (I, J)) := by
  simp only [nX3_rightParts, eX3_rightParts_0, eX3_rightParts_1, eX3_rightParts_2, eX3_rightParts_3]
  refine Eq.trans (lp_rp1 (L := L) (xs := xs) (d := d) (J := J) hp hN h1 N 0 1 (by omega)) ?_
  simp only [eX3_rightParts_31, eX3_rightParts_32]
  refine Eq.trans (lp_rp2 (L := L) (xs := xs) (d := d) (J := J) hp hN h1 (N - 1) 0 _ (by omega)) ?_
  rw [zPrx_0]
  rfl
set_option maxHeartbeats 1000000 in
theorem qX0_wholeParts {N : Nat} {I : Nat → Nat → Int32} (hN : I 10 2 = nI N) (h1 : N ≤ 6) : zE zCd (zGG L xs) d 26 [.ref 10] (I, J) = some (some (.long (zPrd (fun _ => (10 : Int64)) (N + (N - 1)))), (I, J)) := by
  have := qX8_power (L := L) (xs := xs) (d := d) (J := J) (I := I) (b := 10) (n := N + (N - 1)) (by omega)
  simp only [nX0_wholeParts, eX0_wholeParts_0, eX0_wholeParts_2, eX0_wholeParts_3, eX0_wholeParts_6, eX0_wholeParts_7, eX0_wholeParts_10, eX0_wholeParts_11, eX0_wholeParts_14, Option.bind_some, Option.toList_some, Option.toList_none, List.cons_append, List.nil_append, G_o10, qX0_joinCount, hN, zjc h1, nI_add, this]
  rfl
end S
