/-! a plan is played: the reference's side -/
def zgM (I : Nat → Nat → Int32) : zPs := (I 65, I 66, I 67, I 55 16, I 55 17)
/-- the reference's memory: how things stand, and whether the last step made worse -/
def zsM (I : Nat → Nat → Int32) (P : zPs) (w : Int32) : Nat → Nat → Int32 := fun c k => if c = 65 then P.1 k else if c = 66 then P.2.1 k else if c = 67 then P.2.2.1 k else if c = 55 then (if k = 16 then P.2.2.2.1 else if k = 17 then P.2.2.2.2 else if k = 21 then w else I 55 k) else I c k
set_option maxHeartbeats 1000000 in
theorem zsM_65 (I : Nat → Nat → Int32) (P : zPs) (w : Int32) : zsM I P w 65 = P.1 := by funext k; simp [zsM]
set_option maxHeartbeats 1000000 in
theorem zsM_66 (I : Nat → Nat → Int32) (P : zPs) (w : Int32) : zsM I P w 66 = P.2.1 := by funext k; simp [zsM]
set_option maxHeartbeats 1000000 in
theorem zsM_67 (I : Nat → Nat → Int32) (P : zPs) (w : Int32) : zsM I P w 67 = P.2.2.1 := by funext k; simp [zsM]
set_option maxHeartbeats 1000000 in
theorem zsM_16 (I : Nat → Nat → Int32) (P : zPs) (w : Int32) : zsM I P w 55 16 = P.2.2.2.1 := by simp [zsM]
set_option maxHeartbeats 1000000 in
theorem zsM_17 (I : Nat → Nat → Int32) (P : zPs) (w : Int32) : zsM I P w 55 17 = P.2.2.2.2 := by simp [zsM]
set_option maxHeartbeats 1000000 in
theorem zsM_21 (I : Nat → Nat → Int32) (P : zPs) (w : Int32) : zsM I P w 55 21 = w := by simp [zsM]
set_option maxHeartbeats 1000000 in
theorem zsM_55 (I : Nat → Nat → Int32) (P : zPs) (w : Int32) {k : Nat} (h1 : k ≠ 16) (h2 : k ≠ 17) (h3 : k ≠ 21) : zsM I P w 55 k = I 55 k := by simp [zsM, h1, h2, h3]
set_option maxHeartbeats 1000000 in
theorem zsM_ne (I : Nat → Nat → Int32) (P : zPs) (w : Int32) {c : Nat} (h1 : c ≠ 65) (h2 : c ≠ 66) (h3 : c ≠ 67) (h4 : c ≠ 55) : zsM I P w c = I c := by funext k; simp [zsM, h1, h2, h3, h4]
set_option maxHeartbeats 1000000 in
theorem zsM_g (I : Nat → Nat → Int32) (P : zPs) (w : Int32) : zgM (zsM I P w) = P := by
  obtain ⟨S, Jn, T, a, b⟩ := P
  simp only [zgM, zsM_65, zsM_66, zsM_67, zsM_16, zsM_17]
set_option maxHeartbeats 1000000 in
theorem zextM {A B : Nat → Nat → Int32} (h1 : ∀ k, A 65 k = B 65 k) (h2 : ∀ k, A 66 k = B 66 k) (h3 : ∀ k, A 67 k = B 67 k) (h4 : ∀ k, A 55 k = B 55 k) (h5 : ∀ c k, c ≠ 65 → c ≠ 66 → c ≠ 67 → c ≠ 55 → A c k = B c k) : A = B := by
  funext c k
  by_cases e1 : c = 65
  · subst e1; exact h1 k
  · by_cases e2 : c = 66
    · subst e2; exact h2 k
    · by_cases e3 : c = 67
      · subst e3; exact h3 k
      · by_cases e4 : c = 55
        · subst e4; exact h4 k
        · exact h5 c k e1 e2 e3 e4
set_option maxHeartbeats 1000000 in
theorem zsM_s (I : Nat → Nat → Int32) (P P' : zPs) (w w' : Int32) : zsM (zsM I P w) P' w' = zsM I P' w' := by
  refine zextM ?_ ?_ ?_ ?_ ?_ <;> intro k <;> intros <;> simp_all [zsM] <;> grind
def mF (I : Nat → Nat → Int32) : Nat → Nat → Int32 := fun k j => if k < 6 ∧ j < 5 then I (j + 59) k else 0
set_option maxHeartbeats 1000000 in
theorem mF_M (I : Nat → Nat → Int32) (P : zPs) (w : Int32) : mF (zsM I P w) = mF I := by
  funext k j
  simp only [mF]
  split
  · rename_i h
    rw [zsM_ne I P w (by omega) (by omega) (by omega) (by omega)]
  · rfl
def pCut (v : Int32) : Int32 := if v < 0 then 0 else if 10 < v then 10 else v
def mNew (li t x kd tm : Int32) (tired : Bool) : Int32 := if li ≤ t then pCut (x - 1) else if tired = true then x else pCut (x + tm * (3 - kd))
def mTm (s : Nat) : Int32 := if s < 10 then 1 else 2
def mS (f : Nat → Nat → Int32) (s : Nat) (b : Bool) (S T : Nat → Int32) : Nat → Int32 := fun k => if k = pJ s then mNew (f (pJ s) 3) (T (pJ s)) (S (pJ s)) (f (pJ s) 0) (mTm s) b else S k
def mJ (N : Nat) (b : Bool) (Jn : Nat → Int32) : Nat → Int32 := fun k => if k < N - 1 ∧ b = false then pCut (Jn k + 2) else Jn k
def mStp (N : Nat) (f : Nat → Nat → Int32) (s : Nat) (P : zPs) : zPs :=
  (if s < 20 then mS f s (pTd P) P.1 P.2.2.1 else P.1, if s = 20 then mJ N (pTd P) P.2.1 else P.2.1, if s < 20 then cT s P.2.2.1 else P.2.2.1, P.2.2.2.1 + pTk N f s, if s = 21 then P.2.2.2.1 + pTk N f s else P.2.2.2.2)
def mWr (f : Nat → Nat → Int32) (s : Nat) (P : zPs) : Prop := s < 20 ∧ mS f s (pTd P) P.1 P.2.2.1 (pJ s) < P.1 (pJ s)
noncomputable def mWr_dec (f : Nat → Nat → Int32) (s : Nat) (P : zPs) : Decidable (mWr f s P) := by unfold mWr; exact inferInstance
set_option maxHeartbeats 1000000 in
theorem zmj {N : Nat} (h : N ≤ 6) : (if nI N = 0 then 0 else nI N - 1) = nI (N - 1) := by
  rcases (show N = 0 ∨ N = 1 ∨ N = 2 ∨ N = 3 ∨ N = 4 ∨ N = 5 ∨ N = 6 by omega) with rfl | rfl | rfl | rfl | rfl | rfl | rfl <;> decide +kernel
section S
variable {L : Nat} {xs : Nat → Int32} {d : Nat} {J : Nat → Nat → Int64}
set_option maxHeartbeats 1000000 in
theorem qmj {N : Nat} {I : Nat → Nat → Int32} (hN : I 55 6 = nI N) (h1 : N ≤ 6) : zE zCd (zGG L xs) d 98 [.ref 55] (I, J) = some (some (.int (nI (N - 1))), (I, J)) := by
  rw [qX9_joins, hN, zmj h1]
set_option maxHeartbeats 1000000 in
theorem qmt {N s : Nat} {I : Nat → Nat → Int32} (hN : I 55 6 = nI N) (h1 : N ≤ 6) (hs : pOk N s) : zE zCd (zGG L xs) d 110 [.ref 55, .int (nI s)] (I, J) = some (some (.int (pTk N (mF I) s)), (I, J)) := by
  rw [qX9_takes hN h1 hs]
  have e1 : zSum (fun k => mF I k 2) N = zSum (I 61) N := zSum_congr (fun k hk => by simp only [mF, if_pos (show k < 6 ∧ 2 < 5 by omega)])
  unfold pOk at hs
  unfold pTk
  by_cases h21 : s = 21
  · simp only [if_pos h21]
  · by_cases h20 : s = 20
    · simp only [if_neg h21, if_pos h20, e1]
    · by_cases h10 : s < 10
      · simp only [if_neg h21, if_neg h20, if_pos h10, mF, if_pos (show s < 6 ∧ 2 < 5 by omega)]
      · simp only [if_neg h21, if_neg h20, if_neg h10, mF, if_pos (show s - 10 < 6 ∧ 2 < 5 by omega)]
set_option maxHeartbeats 1000000 in
theorem zrm {s : Nat} {N : Nat} (h1 : N ≤ 6) (hs : pOk N s) (h20 : s < 20) : nI s - nI s / 10 * 10 = nI (pJ s) := by
  have := pk_rem (a := s) (d := 10) (by omega) (by omega) (by omega)
  refine this.trans ?_
  unfold pOk at hs
  unfold pJ
  congr 1
  split <;> omega
set_option maxHeartbeats 1000000 in
theorem qX9_mayStep {N s : Nat} {I : Nat → Nat → Int32} (hN : I 55 6 = nI N) (h1 : N ≤ 6) (hs : pOk N s) (hf : I 55 22 = 0) : zE zCd (zGG L xs) d 111 [.ref 55, .int (nI s)] (I, J) = some (some (.int (zb (pCan N (I 55 5) (mF I) s (zgM I)) (pCan_dec _ _ _ _ _))), (I, J)) := by
  have hs2 : s ≤ 1000 := by unfold pOk at hs; omega
  have l20 : ((20 : Int32) ≤ nI s) = (20 ≤ s) := @zle 20 s (by omega) (by omega)
  by_cases h20 : s < 20
  · have hj := pJ_lt hs h20
    have hfr : mF I (pJ s) 4 = I 63 (pJ s) := by simp only [mF, if_pos (show pJ s < 6 ∧ 4 < 5 by omega)]
    simp only [nX9_mayStep, eX9_mayStep_0, eX9_mayStep_1, eX9_mayStep_4, eX9_mayStep_7, eX9_mayStep_8, eX9_mayStep_9, eX9_mayStep_10, eX9_mayStep_12, eX9_mayStep_15, eX9_mayStep_16, eX9_mayStep_19, eX9_mayStep_21, eX9_mayStep_22, eX9_mayStep_25, eX9_mayStep_26, eX9_mayStep_28, eX9_mayStep_29, eX9_mayStep_30, eX9_mayStep_31, eX9_mayStep_34, eX9_mayStep_35, eX9_mayStep_38, eX9_mayStep_39, eX9_mayStep_40, eX9_mayStep_41, eX9_mayStep_44, eX9_mayStep_45, eX9_mayStep_46, eX9_mayStep_49, eX9_mayStep_50, eX9_mayStep_51, eX9_mayStep_54, eX9_mayStep_57, eX9_mayStep_58, eX9_mayStep_61, eX9_mayStep_62, eX9_mayStep_65, eX9_mayStep_66, Option.bind_some, Option.toList_some, Option.toList_none, List.cons_append, List.nil_append, G_o55, G_h55_11, G_r55_11, G_a63, G_l63, hf, if_true, l20, if_neg (show ¬ 20 ≤ s by omega), zrm h1 hs h20, zIn_6 (show pJ s < 6 by omega), zc_n (show pJ s ≤ 1000 by omega), z10n0, not_false_eq_true, qmt hN h1 hs, zT_0, zT_1]
    by_cases c1 : 10 * I 63 (pJ s) ≤ I 55 16
    · by_cases c2 : I 55 5 < I 55 16 + pTk N (mF I) s
      · have : ¬ pCan N (I 55 5) (mF I) s (zgM I) := by
          intro h
          have := h.1
          simp only [zgM] at this
          grind
        rw [zb_f this]
        simp only [if_pos c1, if_pos c2]
      · have : pCan N (I 55 5) (mF I) s (zgM I) := by
          refine ⟨?_, fun _ => ?_⟩
          · simp only [zgM]; grind
          · rw [hfr]; exact c1
        rw [zb_t this]
        simp only [if_pos c1, if_neg c2, ne_eq, not_true_eq_false, if_false]
    · have : ¬ pCan N (I 55 5) (mF I) s (zgM I) := by
        intro h
        have := h.2 h20
        rw [hfr] at this
        exact c1 this
      rw [zb_f this]
      simp only [if_neg c1, show ((1 : Int32) ≠ 0) = True from by decide, if_true]
      split <;> rfl
  · simp only [nX9_mayStep, eX9_mayStep_0, eX9_mayStep_1, eX9_mayStep_4, eX9_mayStep_7, eX9_mayStep_8, eX9_mayStep_9, eX9_mayStep_10, eX9_mayStep_12, eX9_mayStep_15, eX9_mayStep_16, eX9_mayStep_19, eX9_mayStep_21, eX9_mayStep_22, eX9_mayStep_25, eX9_mayStep_26, eX9_mayStep_28, eX9_mayStep_29, eX9_mayStep_30, eX9_mayStep_31, eX9_mayStep_34, eX9_mayStep_35, eX9_mayStep_38, eX9_mayStep_39, eX9_mayStep_40, eX9_mayStep_41, eX9_mayStep_44, eX9_mayStep_45, eX9_mayStep_46, eX9_mayStep_49, eX9_mayStep_50, eX9_mayStep_51, eX9_mayStep_54, eX9_mayStep_57, eX9_mayStep_58, eX9_mayStep_61, eX9_mayStep_62, eX9_mayStep_65, eX9_mayStep_66, Option.bind_some, Option.toList_some, Option.toList_none, List.cons_append, List.nil_append, G_o55, hf, if_true, l20, if_pos (show 20 ≤ s by omega), qmt hN h1 hs, zT_0, zT_1]
    by_cases c2 : I 55 5 < I 55 16 + pTk N (mF I) s
    · have : ¬ pCan N (I 55 5) (mF I) s (zgM I) := by
        intro h
        have := h.1
        simp only [zgM] at this
        grind
      rw [zb_f this]
      simp only [if_pos c2]
    · have : pCan N (I 55 5) (mF I) s (zgM I) := by
        refine ⟨?_, fun h => absurd h h20⟩
        simp only [zgM]; grind
      rw [zb_t this]
      simp only [if_neg c2, ne_eq, not_true_eq_false, if_false]
set_option maxHeartbeats 1000000 in
theorem qX9_mayFree {I : Nat → Nat → Int32} {v : Int32} (hf : I 55 22 = 1) : zE zCd (zGG L xs) d 111 [.ref 55, .int v] (I, J) = some (some (.int 1), (I, J)) := by
  simp only [nX9_mayStep, eX9_mayStep_0, eX9_mayStep_1, eX9_mayStep_4, eX9_mayStep_7, eX9_mayStep_8, G_o55, hf, show ((1 : Int32) = 0) = False from by decide, if_false, zT_1]
set_option maxHeartbeats 1000000 in
theorem qX9_gains {j : Nat} {I : Nat → Nat → Int32} (hj : j < 6) : zE zCd (zGG L xs) d 104 [.ref 55, .int (nI j)] (I, J) = some (some (.int (3 - I 59 j)), (I, J)) := by
  simp only [nX9_gains, eX9_gains_0, eX9_gains_1, eX9_gains_2, eX9_gains_5, eX9_gains_6, eX9_gains_7, eX9_gains_8, G_o55, G_h55_7, G_r55_7, G_a59, G_l59, zIn_6 hj, zc_n (show j ≤ 1000 by omega)]
set_option maxHeartbeats 1000000 in
theorem qX9_play {j : Nat} {b : Bool} {tm : Int32} {I : Nat → Nat → Int32} (hj : j < 6) : zE zCd (zGG L xs) d 113 [.ref 55, .int (nI j), .int tm, .int (if b = true then 1 else 0)] (I, J) = some (none, (zsM I (fun k => if k = j then mNew (I 62 j) (I 67 j) (I 65 j) (I 59 j) tm b else I 65 k, I 66, fun k => if k = j then I 67 k + 1 else I 67 k, I 55 16, I 55 17) (zb (mNew (I 62 j) (I 67 j) (I 65 j) (I 59 j) tm b < I 65 j) inferInstance), J)) := by
  have n1 : ∀ x : Int32, zU I 65 j x 67 j = I 67 j := fun x => by simp [zU]
  have n2 : ∀ x : Int32, zU I 65 j x 65 j = x := fun x => by simp [zU]
  have n3 : ∀ (K : Nat → Nat → Int32) (x : Int32), zU K 67 j x 65 j = K 65 j := fun K x => by simp [zU]
  have gn := qX9_gains (L := L) (xs := xs) (d := d) (I := I) (J := J) hj
  have key : ∀ x w : Int32, zU (zU (zU I 65 j x) 67 j (I 67 j + 1)) 55 21 w = zsM I (fun k => if k = j then x else I 65 k, I 66, fun k => if k = j then I 67 k + 1 else I 67 k, I 55 16, I 55 17) w := by
    intro x w
    refine zextM ?_ ?_ ?_ ?_ ?_ <;> intro k <;> intros <;> simp_all [zsM, zU] <;> grind
  have key2 : ∀ w : Int32, zU (zU I 67 j (I 67 j + 1)) 55 21 w = zsM I (fun k => if k = j then I 65 j else I 65 k, I 66, fun k => if k = j then I 67 k + 1 else I 67 k, I 55 16, I 55 17) w := by
    intro w
    refine zextM ?_ ?_ ?_ ?_ ?_ <;> intro k <;> intros <;> simp_all [zsM, zU] <;> grind
  have e2 : ∀ v : Int32, (if v < 0 then 0 else if 10 < v then 10 else v) = pCut v := fun v => rfl
  simp only [nX9_play, eX9_play_0, eX9_play_1, eX9_play_4, eX9_play_5, eX9_play_6, eX9_play_8, eX9_play_9, eX9_play_12, eX9_play_13, eX9_play_14, eX9_play_15, eX9_play_18, eX9_play_19, eX9_play_20, eX9_play_23, eX9_play_24, eX9_play_27, eX9_play_28, eX9_play_30, eX9_play_31, eX9_play_32, eX9_play_35, eX9_play_36, eX9_play_39, eX9_play_40, eX9_play_43, eX9_play_44, eX9_play_47, eX9_play_48, eX9_play_50, eX9_play_51, eX9_play_52, eX9_play_53, eX9_play_56, eX9_play_57, eX9_play_58, eX9_play_61, eX9_play_62, eX9_play_63, eX9_play_66, eX9_play_67, eX9_play_68, eX9_play_69, eX9_play_70, eX9_play_71, eX9_play_72, eX9_play_73, eX9_play_74, eX9_play_77, eX9_play_78, eX9_play_79, eX9_play_81, eX9_play_84, eX9_play_85, eX9_play_88, eX9_play_89, eX9_play_92, Option.bind_some, Option.toList_some, Option.toList_none, List.cons_append, List.nil_append, G_o55, G_h55_18, G_r55_18, G_a65, G_l65, G_h55_20, G_r55_20, G_a67, G_l67, G_h55_10, G_r55_10, G_a62, G_l62, qX9_cut, gn, zIn_6 hj, zc_n (show j ≤ 1000 by omega), n1, n2, n3, zT_0, zT_1, e2, key, key2]
  by_cases hl : I 67 j < I 62 j
  · have hl2 : ¬ I 62 j ≤ I 67 j := by grind
    cases b with
    | true =>
      have e1 : mNew (I 62 j) (I 67 j) (I 65 j) (I 59 j) tm true = I 65 j := by simp [mNew, hl2]
      simp only [if_pos hl, if_true, show ((1 : Int32) ≠ 0) = True from by decide, e1]
      by_cases c : I 65 j ≤ I 65 j
      · rw [if_pos c, zb_f (by grind)]
      · exact absurd (Int32.le_refl _) c
    | false =>
      have e1 : mNew (I 62 j) (I 67 j) (I 65 j) (I 59 j) tm false = pCut (I 65 j + tm * (3 - I 59 j)) := by simp [mNew, hl2]
      simp only [if_pos hl, show (false = true) = False from by decide, if_false, show ((0 : Int32) ≠ 0) = False from by decide, e1]
      by_cases c : I 65 j ≤ pCut (I 65 j + tm * (3 - I 59 j))
      · rw [if_pos c, zb_f (by grind)]
      · rw [if_neg c, zb_t (by grind)]
  · have hl2 : I 62 j ≤ I 67 j := by grind
    have e1 : mNew (I 62 j) (I 67 j) (I 65 j) (I 59 j) tm b = pCut (I 65 j - 1) := by simp [mNew, hl2]
    simp only [if_neg hl, e1]
    by_cases c : I 65 j ≤ pCut (I 65 j - 1)
    · rw [if_pos c, zb_f (by grind)]
    · rw [if_neg c, zb_t (by grind)]
end S
