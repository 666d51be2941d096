theorem zT_0 : zT 0 := Or.inl rfl
theorem zT_1 : zT 1 := Or.inr rfl
def zb (p : Prop) (dp : Decidable p) : Int32 := if p then 1 else 0
theorem zb_t {p : Prop} {dp : Decidable p} (h : p) : zb p dp = 1 := by simp [zb, h]
theorem zb_f {p : Prop} {dp : Decidable p} (h : ¬ p) : zb p dp = 0 := by simp [zb, h]
theorem zb_0 {p : Prop} {dp : Decidable p} : (zb p dp = 0) = ¬ p := by by_cases h : p <;> simp [zb, h]
theorem zb_1 {p : Prop} {dp : Decidable p} : (zb p dp ≠ 0) = p := by by_cases h : p <;> simp [zb, h]
theorem zT_b {p : Prop} {dp : Decidable p} : zT (zb p dp) := by by_cases h : p <;> simp [zb, h, zT]
theorem zIn_n {k n : Nat} (h : k < n) (hn : n ≤ 1000) : zIv (nI k) n := nI_in h (by omega)
theorem zU_app (f : Nat → Nat → Int32) (c k : Nat) (v : Int32) (c' j : Nat) : zU f c k v c' j = if c' = c ∧ j = k then v else f c' j := rfl
theorem zUr_app (f : Nat → Nat → Int32) (c : Nat) (r : Nat → Int32) (c' j : Nat) : zUr f c r c' j = if c' = c then r j else f c' j := by unfold zUr; split <;> rfl
theorem zIn_3 {k : Nat} (h : k < 3) : zIv (nI k) 3 := zIn_n h (by decide)
theorem zIn_4 {k : Nat} (h : k < 4) : zIv (nI k) 4 := zIn_n h (by decide)
theorem zIn_5 {k : Nat} (h : k < 5) : zIv (nI k) 5 := zIn_n h (by decide)
theorem zIn_6 {k : Nat} (h : k < 6) : zIv (nI k) 6 := zIn_n h (by decide)
theorem zIn_8 {k : Nat} (h : k < 8) : zIv (nI k) 8 := zIn_n h (by decide)
theorem zIn_14 {k : Nat} (h : k < 14) : zIv (nI k) 14 := zIn_n h (by decide)
theorem zIn_20 {k : Nat} (h : k < 20) : zIv (nI k) 20 := zIn_n h (by decide)
theorem zIn_30 {k : Nat} (h : k < 30) : zIv (nI k) 30 := zIn_n h (by decide)
theorem zIn_60 {k : Nat} (h : k < 60) : zIv (nI k) 60 := zIn_n h (by decide)
theorem zIn_240 {k : Nat} (h : k < 240) : zIv (nI k) 240 := zIn_n h (by decide)
theorem zc_n {k : Nat} (h : k ≤ 1000) : (nI k).toNatClampNeg = k := nI_clamp (by omega)
theorem z2n0 : ¬ (2 : Int32) = 0 := by decide
theorem z3n0 : ¬ (3 : Int32) = 0 := by decide
theorem z6n0 : ¬ (6 : Int32) = 0 := by decide
theorem z10n0 : ¬ (10 : Int32) = 0 := by decide
theorem zSw_n (x : Int32) (d : Nat) : zSw x d [] = d := rfl
theorem zSw_c (x k : Int32) (d t : Nat) (r : List (Int32 × Nat)) : zSw x d ((k, t) :: r) = if x = k then t else zSw x d r := rfl
theorem zX_ite {cd : Nat → Nat → zS} {g : zG} {d m a b : Nat} {lv st : List Value} {h : zM} {p : Prop} {dp : Decidable p} : zX cd g d m (if p then a else b) lv st h = if p then zX cd g d m a lv st h else zX cd g d m b lv st h := by split <;> rfl
section S
variable {L : Nat} {xs : Nat → Int32} {d : Nat} {I : Nat → Nat → Int32} {J : Nat → Nat → Int64}
theorem qX0_hasPlace {k : Int32} : zE zCd (zGG L xs) d 20 [.ref 10, .int k] (I, J) = some (some (.int (zb (0 ≤ k ∧ k < I 10 2) inferInstance)), (I, J)) := by
  simp only [nX0_hasPlace, eX0_hasPlace_0, eX0_hasPlace_1, eX0_hasPlace_4, eX0_hasPlace_5, eX0_hasPlace_6, eX0_hasPlace_9, eX0_hasPlace_12, eX0_hasPlace_13, eX0_hasPlace_16, eX0_hasPlace_17, Option.bind_some, Option.toList_some, Option.toList_none, List.cons_append, List.nil_append, zT_0, zT_1, zT_b, zb_0, zb_1, zSw_n, zSw_c, zX_ite, G_o10]
  all_goals ((repeat' split) <;> grind [zb])
theorem qX0_isMissing  : zE zCd (zGG L xs) d 19 [.ref 10] (I, J) = some (some (.int (zb (I 10 2 = 0) inferInstance)), (I, J)) := by
  simp only [nX0_isMissing, eX0_isMissing_0, eX0_isMissing_1, eX0_isMissing_4, eX0_isMissing_7, eX0_isMissing_8, eX0_isMissing_11, eX0_isMissing_12, Option.bind_some, Option.toList_some, Option.toList_none, List.cons_append, List.nil_append, zT_0, zT_1, zT_b, zb_0, zb_1, zSw_n, zSw_c, zX_ite, G_o10]
  all_goals ((repeat' split) <;> grind [zb])
theorem qX0_joinCount  : zE zCd (zGG L xs) d 21 [.ref 10] (I, J) = some (some (.int (if I 10 2 - 1 < 0 then 0 else I 10 2 - 1)), (I, J)) := by
  simp only [nX0_joinCount, eX0_joinCount_0, eX0_joinCount_1, eX0_joinCount_4, eX0_joinCount_5, eX0_joinCount_6, eX0_joinCount_7, eX0_joinCount_10, Option.bind_some, Option.toList_some, Option.toList_none, List.cons_append, List.nil_append, zT_0, zT_1, zT_b, zb_0, zb_1, zSw_n, zSw_c, zX_ite, G_o10]
  skip
theorem qX0_hasJoin {k : Int32} : zE zCd (zGG L xs) d 22 [.ref 10, .int k] (I, J) = some (some (.int (zb (0 ≤ k ∧ k < if I 10 2 - 1 < 0 then 0 else I 10 2 - 1) inferInstance)), (I, J)) := by
  simp only [nX0_hasJoin, eX0_hasJoin_0, eX0_hasJoin_1, eX0_hasJoin_4, eX0_hasJoin_5, eX0_hasJoin_6, eX0_hasJoin_9, eX0_hasJoin_12, eX0_hasJoin_13, eX0_hasJoin_16, eX0_hasJoin_17, Option.bind_some, Option.toList_some, Option.toList_none, List.cons_append, List.nil_append, zT_0, zT_1, zT_b, zb_0, zb_1, zSw_n, zSw_c, zX_ite, G_o10, qX0_joinCount]
  all_goals ((repeat' split) <;> grind [zb])
theorem qX8_isSheet {k : Int32} : zE zCd (zGG L xs) d 75 [.int k] (I, J) = some (some (.int (zb (0 ≤ k ∧ k < 4) inferInstance)), (I, J)) := by
  simp only [nX8_isSheet, eX8_isSheet_0, eX8_isSheet_1, eX8_isSheet_4, eX8_isSheet_5, eX8_isSheet_6, eX8_isSheet_9, eX8_isSheet_10, eX8_isSheet_13, eX8_isSheet_14, Option.bind_some, Option.toList_some, Option.toList_none, List.cons_append, List.nil_append, zT_0, zT_1, zT_b, zb_0, zb_1, zSw_n, zSw_c, zX_ite]
  all_goals ((repeat' split) <;> grind [zb])
theorem qX8_isLane {k : Int32} : zE zCd (zGG L xs) d 76 [.int k] (I, J) = some (some (.int (zb (0 ≤ k ∧ k ≤ 2) inferInstance)), (I, J)) := by
  simp only [nX8_isLane, eX8_isLane_0, eX8_isLane_1, eX8_isLane_4, eX8_isLane_5, eX8_isLane_6, eX8_isLane_9, eX8_isLane_10, eX8_isLane_13, eX8_isLane_14, Option.bind_some, Option.toList_some, Option.toList_none, List.cons_append, List.nil_append, zT_0, zT_1, zT_b, zb_0, zb_1, zSw_n, zSw_c, zX_ite]
  all_goals ((repeat' split) <;> grind [zb])
theorem qX8_isSureness {k : Int32} : zE zCd (zGG L xs) d 77 [.int k] (I, J) = some (some (.int (zb (0 ≤ k ∧ k ≤ 10) inferInstance)), (I, J)) := by
  simp only [nX8_isSureness, eX8_isSureness_0, eX8_isSureness_1, eX8_isSureness_4, eX8_isSureness_5, eX8_isSureness_7, eX8_isSureness_10, eX8_isSureness_11, eX8_isSureness_14, eX8_isSureness_15, Option.bind_some, Option.toList_some, Option.toList_none, List.cons_append, List.nil_append, zT_0, zT_1, zT_b, zb_0, zb_1, zSw_n, zSw_c, zX_ite]
  all_goals ((repeat' split) <;> grind [zb])
theorem qX8_isHalfOfShare {k : Int32} : zE zCd (zGG L xs) d 78 [.int k] (I, J) = some (some (.int (zb (k = 0 ∨ k = 1) inferInstance)), (I, J)) := by
  simp only [nX8_isHalfOfShare, eX8_isHalfOfShare_0, eX8_isHalfOfShare_1, eX8_isHalfOfShare_4, eX8_isHalfOfShare_5, eX8_isHalfOfShare_6, eX8_isHalfOfShare_9, eX8_isHalfOfShare_10, eX8_isHalfOfShare_13, eX8_isHalfOfShare_14, Option.bind_some, Option.toList_some, Option.toList_none, List.cons_append, List.nil_append, zT_0, zT_1, zT_b, zb_0, zb_1, zSw_n, zSw_c, zX_ite]
  all_goals ((repeat' split) <;> grind [zb])
theorem qX8_isTimesOfLuck {k : Int32} : zE zCd (zGG L xs) d 79 [.int k] (I, J) = some (some (.int (zb (0 ≤ k ∧ k ≤ 6) inferInstance)), (I, J)) := by
  simp only [nX8_isTimesOfLuck, eX8_isTimesOfLuck_0, eX8_isTimesOfLuck_1, eX8_isTimesOfLuck_4, eX8_isTimesOfLuck_5, eX8_isTimesOfLuck_7, eX8_isTimesOfLuck_10, eX8_isTimesOfLuck_11, eX8_isTimesOfLuck_14, eX8_isTimesOfLuck_15, Option.bind_some, Option.toList_some, Option.toList_none, List.cons_append, List.nil_append, zT_0, zT_1, zT_b, zb_0, zb_1, zSw_n, zSw_c, zX_ite]
  all_goals ((repeat' split) <;> grind [zb])
theorem qX8_isAskedOfPlan {k : Int32} : zE zCd (zGG L xs) d 80 [.int k] (I, J) = some (some (.int (zb (k = 0 ∨ k = 1 ∨ (10 ≤ k ∧ k < 16) ∨ (20 ≤ k ∧ k < 25)) inferInstance)), (I, J)) := by
  simp only [nX8_isAskedOfPlan, eX8_isAskedOfPlan_0, eX8_isAskedOfPlan_1, eX8_isAskedOfPlan_4, eX8_isAskedOfPlan_5, eX8_isAskedOfPlan_6, eX8_isAskedOfPlan_9, eX8_isAskedOfPlan_10, eX8_isAskedOfPlan_12, eX8_isAskedOfPlan_15, eX8_isAskedOfPlan_16, eX8_isAskedOfPlan_18, eX8_isAskedOfPlan_21, eX8_isAskedOfPlan_22, eX8_isAskedOfPlan_24, eX8_isAskedOfPlan_27, eX8_isAskedOfPlan_28, eX8_isAskedOfPlan_30, eX8_isAskedOfPlan_33, eX8_isAskedOfPlan_34, eX8_isAskedOfPlan_37, eX8_isAskedOfPlan_38, Option.bind_some, Option.toList_some, Option.toList_none, List.cons_append, List.nil_append, zT_0, zT_1, zT_b, zb_0, zb_1, zSw_n, zSw_c, zX_ite]
  all_goals ((repeat' split) <;> grind [zb])
theorem qX0_hasStep {k : Int32} : zE zCd (zGG L xs) d 23 [.ref 10, .int k] (I, J) = some (some (.int (zb (k = 20 ∨ k = 21 ∨ (0 ≤ k ∧ k < I 10 2) ∨ (0 ≤ k - 10 ∧ k - 10 < I 10 2)) inferInstance)), (I, J)) := by
  simp only [nX0_hasStep, eX0_hasStep_0, eX0_hasStep_1, eX0_hasStep_3, eX0_hasStep_6, eX0_hasStep_7, eX0_hasStep_9, eX0_hasStep_12, eX0_hasStep_13, eX0_hasStep_14, eX0_hasStep_17, eX0_hasStep_20, eX0_hasStep_21, eX0_hasStep_22, eX0_hasStep_24, eX0_hasStep_25, eX0_hasStep_28, eX0_hasStep_31, eX0_hasStep_32, eX0_hasStep_35, eX0_hasStep_36, Option.bind_some, Option.toList_some, Option.toList_none, List.cons_append, List.nil_append, zT_0, zT_1, zT_b, zb_0, zb_1, zSw_n, zSw_c, zX_ite, G_o10, qX0_hasPlace]
  all_goals ((repeat' split) <;> grind [zb])
theorem qX0_isOfPlace {k : Int32} : zE zCd (zGG L xs) d 27 [.int k] (I, J) = some (some (.int (zb (k < 20) inferInstance)), (I, J)) := by
  simp only [nX0_isOfPlace, eX0_isOfPlace_0, eX0_isOfPlace_1, eX0_isOfPlace_3, eX0_isOfPlace_6, eX0_isOfPlace_7, eX0_isOfPlace_10, eX0_isOfPlace_11, Option.bind_some, Option.toList_some, Option.toList_none, List.cons_append, List.nil_append, zT_0, zT_1, zT_b, zb_0, zb_1, zSw_n, zSw_c, zX_ite]
  all_goals ((repeat' split) <;> grind [zb])
theorem qX0_isSlow {k : Int32} : zE zCd (zGG L xs) d 28 [.int k] (I, J) = some (some (.int (zb (10 ≤ k) inferInstance)), (I, J)) := by
  simp only [nX0_isSlow, eX0_isSlow_0, eX0_isSlow_1, eX0_isSlow_3, eX0_isSlow_6, eX0_isSlow_7, eX0_isSlow_10, eX0_isSlow_11, Option.bind_some, Option.toList_some, Option.toList_none, List.cons_append, List.nil_append, zT_0, zT_1, zT_b, zb_0, zb_1, zSw_n, zSw_c, zX_ite]
  all_goals ((repeat' split) <;> grind [zb])
theorem qX0_placeOf {k : Int32} : zE zCd (zGG L xs) d 29 [.int k] (I, J) = some (some (.int (if k < 10 then k else k - 10)), (I, J)) := by
  simp only [nX0_placeOf, eX0_placeOf_0, eX0_placeOf_1, eX0_placeOf_3, eX0_placeOf_6, eX0_placeOf_7, eX0_placeOf_10, eX0_placeOf_11, eX0_placeOf_13, eX0_placeOf_14, Option.bind_some, Option.toList_some, Option.toList_none, List.cons_append, List.nil_append, zT_0, zT_1, zT_b, zb_0, zb_1, zSw_n, zSw_c, zX_ite]
  all_goals ((repeat' split) <;> grind [zb])
theorem qX8_failed {k : Int32} : zE zCd (zGG L xs) d 81 [.ref 0, .int k] (I, J) = some (some (.int (-10 - k)), (zU I 0 6 k, J)) := by
  simp only [nX8_failed, eX8_failed_0, eX8_failed_1, eX8_failed_2, eX8_failed_5, eX8_failed_7, eX8_failed_8, eX8_failed_9, Option.bind_some, Option.toList_some, Option.toList_none, List.cons_append, List.nil_append, zT_0, zT_1, zT_b, zb_0, zb_1, zSw_n, zSw_c, zX_ite, G_o0]
  skip
theorem qX8_leaveTrace {k : Int32} : zE zCd (zGG L xs) d 84 [.ref 0, .int k] (I, J) = some (none, (zU I 0 5 (31 * I 0 5 + k), J)) := by
  simp only [nX8_leaveTrace, eX8_leaveTrace_0, eX8_leaveTrace_1, eX8_leaveTrace_3, eX8_leaveTrace_4, eX8_leaveTrace_7, eX8_leaveTrace_8, eX8_leaveTrace_9, eX8_leaveTrace_10, eX8_leaveTrace_13, Option.bind_some, Option.toList_some, Option.toList_none, List.cons_append, List.nil_append, zT_0, zT_1, zT_b, zb_0, zb_1, zSw_n, zSw_c, zX_ite, G_o0]
  skip
theorem qX8_toldAsPlain  {k : Nat} (hk : k < 6) : zE zCd (zGG L xs) d 85 [.ref 0, .ref (k + 15)] (I, J) = some (some (.int (I (k + 15) 2)), (zU I 0 5 (31 * I 0 5 + 1), J)) := by
  simp only [nX8_toldAsPlain, eX8_toldAsPlain_0, eX8_toldAsPlain_1, eX8_toldAsPlain_2, eX8_toldAsPlain_5, eX8_toldAsPlain_6, eX8_toldAsPlain_9, Option.bind_some, Option.toList_some, Option.toList_none, List.cons_append, List.nil_append, zT_0, zT_1, zT_b, zb_0, zb_1, zSw_n, zSw_c, zX_ite, G_o0, qX8_leaveTrace, G_pl_o hk, zU_ne _ _ _ (show k + 15 ≠ 0 by omega)]
  skip
theorem qX1_gains  {k : Nat} (hk : k < 6) : zE zCd (zGG L xs) d 1 [.ref (k + 15)] (I, J) = some (some (.int (if I (k + 15) 0 = 0 then 3 else if I (k + 15) 0 = 1 then 2 else 1)), (I, J)) := by
  simp only [nX1_gains, eX1_gains_0, eX1_gains_1, eX1_gains_2, eX1_gains_3, eX1_gains_4, eX1_gains_5, eX1_gains_6, eX1_gains_7, eX1_gains_10, eX1_gains_36, eX1_gains_37, eX1_gains_38, eX1_gains_39, eX1_gains_40, eX1_gains_41, eX1_gains_42, eX1_gains_43, Option.bind_some, Option.toList_some, Option.toList_none, List.cons_append, List.nil_append, zT_0, zT_1, zT_b, zb_0, zb_1, zSw_n, zSw_c, zX_ite, G_pl_o hk, z2n0, not_false_eq_true]
  (repeat' split) <;> first | rfl | grind
theorem qX1_isAlso {v : Int32} {k : Nat} (hk : k < 6) : zE zCd (zGG L xs) d 2 [.ref (k + 15), .int v] (I, J) = some (some (.int (zb (v ≤ I (k + 15) 0) inferInstance)), (I, J)) := by
  simp only [nX1_isAlso, eX1_isAlso_0, eX1_isAlso_1, eX1_isAlso_2, eX1_isAlso_5, eX1_isAlso_8, eX1_isAlso_9, eX1_isAlso_12, eX1_isAlso_13, Option.bind_some, Option.toList_some, Option.toList_none, List.cons_append, List.nil_append, zT_0, zT_1, zT_b, zb_0, zb_1, zSw_n, zSw_c, zX_ite, G_pl_o hk]
  all_goals ((repeat' split) <;> grind [zb])
theorem qX6_faultTakenAs {v : Int32} {k : Nat} (hk : k < 4) : zE zCd (zGG L xs) d 6 [.ref (2 * k + 2), .int v] (I, J) = some (some (.int (if I (2 * k + 2) 1 = 0 then 1 else if I (2 * k + 2) 2 = v then 0 else 2)), (I, J)) := by
  simp only [nX6_faultTakenAs, eX6_faultTakenAs_0, eX6_faultTakenAs_1, eX6_faultTakenAs_4, eX6_faultTakenAs_7, eX6_faultTakenAs_8, eX6_faultTakenAs_9, eX6_faultTakenAs_10, eX6_faultTakenAs_13, eX6_faultTakenAs_14, eX6_faultTakenAs_17, eX6_faultTakenAs_18, eX6_faultTakenAs_21, eX6_faultTakenAs_22, Option.bind_some, Option.toList_some, Option.toList_none, List.cons_append, List.nil_append, zT_0, zT_1, zT_b, zb_0, zb_1, zSw_n, zSw_c, zX_ite, G_sh_o hk, G_sh_h hk, G_sh_r hk, G_sh_a hk, G_sh_l hk]
  all_goals ((repeat' split) <;> grind [zb])
theorem qX6_hasCell {v : Int32} {k : Nat} (hk : k < 4) : zE zCd (zGG L xs) d 8 [.ref (2 * k + 2), .int v] (I, J) = some (some (.int (zb (0 ≤ v ∧ v < I (2 * k + 2) 3) inferInstance)), (I, J)) := by
  simp only [nX6_hasCell, eX6_hasCell_0, eX6_hasCell_1, eX6_hasCell_4, eX6_hasCell_5, eX6_hasCell_6, eX6_hasCell_9, eX6_hasCell_12, eX6_hasCell_13, eX6_hasCell_16, eX6_hasCell_17, Option.bind_some, Option.toList_some, Option.toList_none, List.cons_append, List.nil_append, zT_0, zT_1, zT_b, zb_0, zb_1, zSw_n, zSw_c, zX_ite, G_sh_o hk, G_sh_h hk, G_sh_r hk, G_sh_a hk, G_sh_l hk]
  all_goals ((repeat' split) <;> grind [zb])
theorem qX6_holds {i : Int32} {n : Int32} {k : Nat} (hk : k < 4) : zE zCd (zGG L xs) d 9 [.ref (2 * k + 2), .int i, .int n] (I, J) = some (some (.int (zb (0 ≤ i ∧ i ≤ I (2 * k + 2) 3 ∧ 0 ≤ n ∧ n ≤ I (2 * k + 2) 3 - i) inferInstance)), (I, J)) := by
  simp only [nX6_holds, eX6_holds_0, eX6_holds_1, eX6_holds_4, eX6_holds_5, eX6_holds_6, eX6_holds_9, eX6_holds_12, eX6_holds_13, eX6_holds_16, eX6_holds_17, eX6_holds_18, eX6_holds_21, eX6_holds_22, eX6_holds_23, eX6_holds_26, eX6_holds_27, eX6_holds_30, eX6_holds_31, Option.bind_some, Option.toList_some, Option.toList_none, List.cons_append, List.nil_append, zT_0, zT_1, zT_b, zb_0, zb_1, zSw_n, zSw_c, zX_ite, G_sh_o hk, G_sh_h hk, G_sh_r hk, G_sh_a hk, G_sh_l hk]
  all_goals ((repeat' split) <;> grind [zb])
theorem qX6_faultOfCells {v : Int32} {i : Int32} {n : Int32} {k : Nat} (hk : k < 4) : zE zCd (zGG L xs) d 7 [.ref (2 * k + 2), .int v, .int i, .int n] (I, J) = some (some (.int (if I (2 * k + 2) 1 = 0 then 1 else if I (2 * k + 2) 2 = v then (if n < 0 then 4 else if 0 ≤ i ∧ i ≤ I (2 * k + 2) 3 ∧ 0 ≤ n ∧ n ≤ I (2 * k + 2) 3 - i then 0 else 3) else 2)), (I, J)) := by
  simp only [nX6_faultOfCells, eX6_faultOfCells_0, eX6_faultOfCells_1, eX6_faultOfCells_2, eX6_faultOfCells_5, eX6_faultOfCells_7, eX6_faultOfCells_9, eX6_faultOfCells_12, eX6_faultOfCells_14, eX6_faultOfCells_15, eX6_faultOfCells_16, eX6_faultOfCells_19, eX6_faultOfCells_20, eX6_faultOfCells_21, eX6_faultOfCells_22, eX6_faultOfCells_23, eX6_faultOfCells_24, eX6_faultOfCells_27, eX6_faultOfCells_30, eX6_faultOfCells_31, eX6_faultOfCells_34, eX6_faultOfCells_35, Option.bind_some, Option.toList_some, Option.toList_none, List.cons_append, List.nil_append, zT_0, zT_1, zT_b, zb_0, zb_1, zSw_n, zSw_c, zX_ite, G_sh_o hk, G_sh_h hk, G_sh_r hk, G_sh_a hk, G_sh_l hk, qX6_faultTakenAs hk, qX6_holds hk]
  all_goals ((repeat' split) <;> grind [zb])
theorem qX6_cut {v : Int32} {k : Nat} (hk : k < 4) : zE zCd (zGG L xs) d 10 [.ref (2 * k + 2), .int v] (I, J) = some (some (.int (if I (2 * k + 2) 2 = 0 then v.toInt8.toInt32 else if I (2 * k + 2) 2 = 1 then v.toInt16.toInt32 else v)), (I, J)) := by
  simp only [nX6_cut, eX6_cut_0, eX6_cut_1, eX6_cut_4, eX6_cut_32, eX6_cut_33, eX6_cut_34, eX6_cut_35, eX6_cut_36, eX6_cut_37, eX6_cut_38, eX6_cut_39, Option.bind_some, Option.toList_some, Option.toList_none, List.cons_append, List.nil_append, zT_0, zT_1, zT_b, zb_0, zb_1, zSw_n, zSw_c, zX_ite, G_sh_o hk, G_sh_h hk, G_sh_r hk, G_sh_a hk, G_sh_l hk]
  all_goals ((repeat' split) <;> grind [zb])
theorem qX7_isDigit {c : Int32} {a : Int32} {b : Int32} : zE zCd (zGG L xs) d 15 [.int c, .int a, .int b] (I, J) = some (some (.int (zb (48 + a ≤ c ∧ c ≤ 48 + b) inferInstance)), (I, J)) := by
  simp only [nX7_isDigit, eX7_isDigit_0, eX7_isDigit_1, eX7_isDigit_3, eX7_isDigit_4, eX7_isDigit_5, eX7_isDigit_8, eX7_isDigit_9, eX7_isDigit_11, eX7_isDigit_12, eX7_isDigit_13, eX7_isDigit_16, eX7_isDigit_17, eX7_isDigit_20, eX7_isDigit_21, Option.bind_some, Option.toList_some, Option.toList_none, List.cons_append, List.nil_append, zT_0, zT_1, zT_b, zb_0, zb_1, zSw_n, zSw_c, zX_ite]
  all_goals ((repeat' split) <;> grind [zb])
theorem qX7_digit {c : Int32} : zE zCd (zGG L xs) d 16 [.int c] (I, J) = some (some (.int (c - 48)), (I, J)) := by
  simp only [nX7_digit, eX7_digit_0, eX7_digit_1, eX7_digit_3, eX7_digit_4, Option.bind_some, Option.toList_some, Option.toList_none, List.cons_append, List.nil_append, zT_0, zT_1, zT_b, zb_0, zb_1, zSw_n, zSw_c, zX_ite]
  skip
theorem qX7_kindBy {c : Int32} : zE zCd (zGG L xs) d 17 [.int c] (I, J) = some (some (.int (if c = 112 then 0 else if c = 107 then 1 else if c = 104 then 2 else -9)), (I, J)) := by
  simp only [nX7_kindBy, eX7_kindBy_0, eX7_kindBy_1, eX7_kindBy_36, eX7_kindBy_37, eX7_kindBy_38, eX7_kindBy_39, eX7_kindBy_40, eX7_kindBy_41, eX7_kindBy_42, eX7_kindBy_44, Option.bind_some, Option.toList_some, Option.toList_none, List.cons_append, List.nil_append, zT_0, zT_1, zT_b, zb_0, zb_1, zSw_n, zSw_c, zX_ite]
  all_goals ((repeat' split) <;> grind [zb])
theorem qX7_endsMinutes {a : Int32} {c : Int32} : zE zCd (zGG L xs) d 14 [.int a, .int c] (I, J) = some (some (.int (zb ((48 ≤ c ∧ c ≤ 57) ∧ 5 ≤ 10 * (a - 48) + (c - 48) ∧ 10 * (a - 48) + (c - 48) ≤ 60) inferInstance)), (I, J)) := by
  simp only [nX7_endsMinutes, eX7_endsMinutes_0, eX7_endsMinutes_1, eX7_endsMinutes_2, eX7_endsMinutes_4, eX7_endsMinutes_7, eX7_endsMinutes_10, eX7_endsMinutes_11, eX7_endsMinutes_12, eX7_endsMinutes_14, eX7_endsMinutes_15, eX7_endsMinutes_18, eX7_endsMinutes_19, eX7_endsMinutes_20, eX7_endsMinutes_23, eX7_endsMinutes_24, eX7_endsMinutes_25, eX7_endsMinutes_26, eX7_endsMinutes_27, eX7_endsMinutes_30, eX7_endsMinutes_31, eX7_endsMinutes_33, eX7_endsMinutes_36, eX7_endsMinutes_37, eX7_endsMinutes_40, eX7_endsMinutes_41, Option.bind_some, Option.toList_some, Option.toList_none, List.cons_append, List.nil_append, zT_0, zT_1, zT_b, zb_0, zb_1, zSw_n, zSw_c, zX_ite, qX7_isDigit, qX7_digit]
  all_goals ((repeat' split) <;> grind [zb])
theorem qX7_goesOnInPlace {a : Int32} {c : Int32} : zE zCd (zGG L xs) d 13 [.int a, .int c] (I, J) = some (some (.int (zb ((a = 0 ∧ c = 59) ∨ (a = 1 ∧ (c = 112 ∨ c = 107 ∨ c = 104)) ∨ (a = 2 ∧ 48 ≤ c ∧ c ≤ 57) ∨ ((a = 3 ∨ a = 4) ∧ 49 ≤ c ∧ c ≤ 57) ∨ (¬ (a = 0 ∨ a = 1 ∨ a = 2 ∨ a = 3 ∨ a = 4) ∧ 48 ≤ c ∧ c ≤ 53)) inferInstance)), (I, J)) := by
  simp only [nX7_goesOnInPlace, eX7_goesOnInPlace_0, eX7_goesOnInPlace_1, eX7_goesOnInPlace_36, eX7_goesOnInPlace_37, eX7_goesOnInPlace_39, eX7_goesOnInPlace_42, eX7_goesOnInPlace_43, eX7_goesOnInPlace_46, eX7_goesOnInPlace_47, eX7_goesOnInPlace_48, eX7_goesOnInPlace_49, eX7_goesOnInPlace_52, eX7_goesOnInPlace_54, eX7_goesOnInPlace_57, eX7_goesOnInPlace_58, eX7_goesOnInPlace_61, eX7_goesOnInPlace_62, eX7_goesOnInPlace_63, eX7_goesOnInPlace_64, eX7_goesOnInPlace_65, eX7_goesOnInPlace_67, eX7_goesOnInPlace_70, eX7_goesOnInPlace_71, eX7_goesOnInPlace_72, eX7_goesOnInPlace_73, eX7_goesOnInPlace_75, eX7_goesOnInPlace_78, eX7_goesOnInPlace_79, eX7_goesOnInPlace_80, eX7_goesOnInPlace_81, eX7_goesOnInPlace_83, eX7_goesOnInPlace_86, eX7_goesOnInPlace_87, eX7_goesOnInPlace_88, eX7_goesOnInPlace_89, eX7_goesOnInPlace_90, eX7_goesOnInPlace_93, Option.bind_some, Option.toList_some, Option.toList_none, List.cons_append, List.nil_append, zT_0, zT_1, zT_b, zb_0, zb_1, zSw_n, zSw_c, zX_ite, qX7_isDigit, qX7_kindBy]
  all_goals ((repeat' split) <;> grind [zb])
theorem qX9_within {v : Int32} {a : Int32} {b : Int32} : zE zCd (zGG L xs) d 93 [.int v, .int a, .int b] (I, J) = some (some (.int (zb (a ≤ v ∧ v ≤ b) inferInstance)), (I, J)) := by
  simp only [nX9_within, eX9_within_0, eX9_within_1, eX9_within_2, eX9_within_5, eX9_within_6, eX9_within_7, eX9_within_10, eX9_within_11, eX9_within_14, eX9_within_15, Option.bind_some, Option.toList_some, Option.toList_none, List.cons_append, List.nil_append, zT_0, zT_1, zT_b, zb_0, zb_1, zSw_n, zSw_c, zX_ite]
  all_goals ((repeat' split) <;> grind [zb])
theorem qX9_isSheet {k : Int32} : zE zCd (zGG L xs) d 94 [.int k] (I, J) = some (some (.int (zb (0 ≤ k ∧ k ≤ 3) inferInstance)), (I, J)) := by
  simp only [nX9_isSheet, eX9_isSheet_0, eX9_isSheet_1, eX9_isSheet_2, eX9_isSheet_3, eX9_isSheet_6, Option.bind_some, Option.toList_some, Option.toList_none, List.cons_append, List.nil_append, zT_0, zT_1, zT_b, zb_0, zb_1, zSw_n, zSw_c, zX_ite, qX9_within]
  all_goals ((repeat' split) <;> grind [zb])
theorem qX9_isSort {k : Int32} : zE zCd (zGG L xs) d 95 [.int k] (I, J) = some (some (.int (zb (0 ≤ k ∧ k ≤ 2) inferInstance)), (I, J)) := by
  simp only [nX9_isSort, eX9_isSort_0, eX9_isSort_1, eX9_isSort_2, eX9_isSort_3, eX9_isSort_6, Option.bind_some, Option.toList_some, Option.toList_none, List.cons_append, List.nil_append, zT_0, zT_1, zT_b, zb_0, zb_1, zSw_n, zSw_c, zX_ite, qX9_within]
  all_goals ((repeat' split) <;> grind [zb])
theorem qX9_isPlan {a : Int32} {n : Int32} : zE zCd (zGG L xs) d 117 [.int a, .int n] (I, J) = some (some (.int (zb ((0 ≤ a ∧ a ≤ 2) ∧ 0 ≤ n ∧ n ≤ 20) inferInstance)), (I, J)) := by
  simp only [nX9_isPlan, eX9_isPlan_0, eX9_isPlan_1, eX9_isPlan_4, eX9_isPlan_7, eX9_isPlan_8, eX9_isPlan_9, eX9_isPlan_11, eX9_isPlan_14, eX9_isPlan_17, eX9_isPlan_18, eX9_isPlan_21, eX9_isPlan_22, Option.bind_some, Option.toList_some, Option.toList_none, List.cons_append, List.nil_append, zT_0, zT_1, zT_b, zb_0, zb_1, zSw_n, zSw_c, zX_ite, qX9_within, qX9_isSort]
  all_goals ((repeat' split) <;> grind [zb])
theorem qX9_isAsked {k : Int32} : zE zCd (zGG L xs) d 118 [.int k] (I, J) = some (some (.int (zb ((0 ≤ k ∧ k ≤ 1) ∨ (10 ≤ k ∧ k ≤ 15) ∨ (20 ≤ k ∧ k ≤ 24)) inferInstance)), (I, J)) := by
  simp only [nX9_isAsked, eX9_isAsked_0, eX9_isAsked_1, eX9_isAsked_2, eX9_isAsked_3, eX9_isAsked_6, eX9_isAsked_9, eX9_isAsked_10, eX9_isAsked_12, eX9_isAsked_14, eX9_isAsked_17, eX9_isAsked_20, eX9_isAsked_21, eX9_isAsked_23, eX9_isAsked_25, eX9_isAsked_28, eX9_isAsked_31, eX9_isAsked_32, eX9_isAsked_35, eX9_isAsked_36, Option.bind_some, Option.toList_some, Option.toList_none, List.cons_append, List.nil_append, zT_0, zT_1, zT_b, zb_0, zb_1, zSw_n, zSw_c, zX_ite, qX9_within]
  all_goals ((repeat' split) <;> grind [zb])
theorem qX9_isPlace {k : Int32} : zE zCd (zGG L xs) d 97 [.ref 55, .int k] (I, J) = some (some (.int (zb (0 ≤ k ∧ k < I 55 6) inferInstance)), (I, J)) := by
  simp only [nX9_isPlace, eX9_isPlace_0, eX9_isPlace_1, eX9_isPlace_4, eX9_isPlace_5, eX9_isPlace_6, eX9_isPlace_9, eX9_isPlace_12, eX9_isPlace_13, eX9_isPlace_16, eX9_isPlace_17, Option.bind_some, Option.toList_some, Option.toList_none, List.cons_append, List.nil_append, zT_0, zT_1, zT_b, zb_0, zb_1, zSw_n, zSw_c, zX_ite, G_o55]
  all_goals ((repeat' split) <;> grind [zb])
theorem qX9_joins  : zE zCd (zGG L xs) d 98 [.ref 55] (I, J) = some (some (.int (if I 55 6 = 0 then 0 else I 55 6 - 1)), (I, J)) := by
  simp only [nX9_joins, eX9_joins_0, eX9_joins_1, eX9_joins_4, eX9_joins_7, eX9_joins_8, eX9_joins_11, eX9_joins_12, eX9_joins_15, eX9_joins_16, eX9_joins_17, Option.bind_some, Option.toList_some, Option.toList_none, List.cons_append, List.nil_append, zT_0, zT_1, zT_b, zb_0, zb_1, zSw_n, zSw_c, zX_ite, G_o55]
  all_goals ((repeat' split) <;> grind [zb])
theorem qX9_fails {k : Int32} : zE zCd (zGG L xs) d 91 [.ref 55, .int k] (I, J) = some (some (.int (-10 - k)), (zU I 55 0 k, J)) := by
  simp only [nX9_fails, eX9_fails_0, eX9_fails_1, eX9_fails_2, eX9_fails_5, eX9_fails_7, eX9_fails_8, eX9_fails_9, Option.bind_some, Option.toList_some, Option.toList_none, List.cons_append, List.nil_append, zT_0, zT_1, zT_b, zb_0, zb_1, zSw_n, zSw_c, zX_ite, G_o55]
  skip
theorem qX9_lost {k : Int32} : zE zCd (zGG L xs) d 92 [.ref 55, .int k] (I, J) = some (some (.long (-9223372036854775808)), (zU I 55 0 k, J)) := by
  simp only [nX9_lost, eX9_lost_0, eX9_lost_1, eX9_lost_2, eX9_lost_5, eX9_lost_8, Option.bind_some, Option.toList_some, Option.toList_none, List.cons_append, List.nil_append, zT_0, zT_1, zT_b, zb_0, zb_1, zSw_n, zSw_c, zX_ite, G_o55]
  skip
theorem qX9_begins {k : Int32} : zE zCd (zGG L xs) d 147 [.ref 55, .int k] (I, J) = some (none, (zU I 55 1 (31 * I 55 1 + k), J)) := by
  simp only [nX9_begins, eX9_begins_0, eX9_begins_1, eX9_begins_3, eX9_begins_4, eX9_begins_7, eX9_begins_8, eX9_begins_9, eX9_begins_10, eX9_begins_13, Option.bind_some, Option.toList_some, Option.toList_none, List.cons_append, List.nil_append, zT_0, zT_1, zT_b, zb_0, zb_1, zSw_n, zSw_c, zX_ite, G_o55]
  skip
theorem qX9_cut {v : Int32} : zE zCd (zGG L xs) d 112 [.int v] (I, J) = some (some (.int (if v < 0 then 0 else if 10 < v then 10 else v)), (I, J)) := by
  simp only [nX9_cut, eX9_cut_0, eX9_cut_1, eX9_cut_4, eX9_cut_5, eX9_cut_8, eX9_cut_9, eX9_cut_11, eX9_cut_14, eX9_cut_16, eX9_cut_19, eX9_cut_20, Option.bind_some, Option.toList_some, Option.toList_none, List.cons_append, List.nil_append, zT_0, zT_1, zT_b, zb_0, zb_1, zSw_n, zSw_c, zX_ite]
  all_goals ((repeat' split) <;> grind [zb])
theorem qX9_steps  : zE zCd (zGG L xs) d 126 [.ref 55] (I, J) = some (some (.int (2 * I 55 6 + 2)), (I, J)) := by
  simp only [nX9_steps, eX9_steps_0, eX9_steps_1, eX9_steps_2, eX9_steps_5, eX9_steps_6, eX9_steps_7, eX9_steps_8, Option.bind_some, Option.toList_some, Option.toList_none, List.cons_append, List.nil_append, zT_0, zT_1, zT_b, zb_0, zb_1, zSw_n, zSw_c, zX_ite, G_o55]
  skip
theorem qX9_stepOf {k : Int32} : zE zCd (zGG L xs) d 127 [.ref 55, .int k] (I, J) = some (some (.int (if k < I 55 6 then k else if k < 2 * I 55 6 then 10 + k - I 55 6 else 20 + k - 2 * I 55 6)), (I, J)) := by
  simp only [nX9_stepOf, eX9_stepOf_0, eX9_stepOf_1, eX9_stepOf_2, eX9_stepOf_5, eX9_stepOf_8, eX9_stepOf_9, eX9_stepOf_10, eX9_stepOf_11, eX9_stepOf_12, eX9_stepOf_13, eX9_stepOf_16, eX9_stepOf_17, eX9_stepOf_20, eX9_stepOf_22, eX9_stepOf_23, eX9_stepOf_24, eX9_stepOf_25, eX9_stepOf_28, eX9_stepOf_29, eX9_stepOf_32, eX9_stepOf_34, eX9_stepOf_35, eX9_stepOf_36, eX9_stepOf_37, eX9_stepOf_38, eX9_stepOf_41, eX9_stepOf_42, eX9_stepOf_43, Option.bind_some, Option.toList_some, Option.toList_none, List.cons_append, List.nil_append, zT_0, zT_1, zT_b, zb_0, zb_1, zSw_n, zSw_c, zX_ite, G_o55]
  all_goals ((repeat' split) <;> grind [zb])
theorem qX9_isStep {k : Int32} : zE zCd (zGG L xs) d 109 [.ref 55, .int k] (I, J) = some (some (.int (zb (k = 20 ∨ k = 21 ∨ (0 ≤ k ∧ k ≤ I 55 6 - 1) ∨ (10 ≤ k ∧ k ≤ 10 + I 55 6 - 1)) inferInstance)), (I, J)) := by
  simp only [nX9_isStep, eX9_isStep_0, eX9_isStep_1, eX9_isStep_3, eX9_isStep_6, eX9_isStep_7, eX9_isStep_9, eX9_isStep_12, eX9_isStep_13, eX9_isStep_14, eX9_isStep_15, eX9_isStep_18, eX9_isStep_19, eX9_isStep_20, eX9_isStep_23, eX9_isStep_26, eX9_isStep_27, eX9_isStep_29, eX9_isStep_31, eX9_isStep_32, eX9_isStep_35, eX9_isStep_36, eX9_isStep_37, eX9_isStep_38, eX9_isStep_41, eX9_isStep_44, eX9_isStep_45, eX9_isStep_48, eX9_isStep_49, Option.bind_some, Option.toList_some, Option.toList_none, List.cons_append, List.nil_append, zT_0, zT_1, zT_b, zb_0, zb_1, zSw_n, zSw_c, zX_ite, G_o55, qX9_within]
  all_goals ((repeat' split) <;> grind [zb])
end S
