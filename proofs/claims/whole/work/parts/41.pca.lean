/-! a text of a piece: what code may stand where -/
def gP (r : Nat) (c : Int32) : Prop := (r = 0 ∧ c = 59) ∨ (r = 1 ∧ (c = 112 ∨ c = 107 ∨ c = 104)) ∨ (r = 2 ∧ 48 ≤ c ∧ c ≤ 57) ∨ ((r = 3 ∨ r = 4) ∧ 49 ≤ c ∧ c ≤ 57) ∨ (r = 5 ∧ 48 ≤ c ∧ c ≤ 53)
def gO (k : Nat) (p c : Int32) : Prop := (k = 0 ∧ c = 99) ∨ (k = 1 ∧ 48 ≤ c ∧ c ≤ 54) ∨ (k = 2 ∧ (48 ≤ c ∧ c ≤ 57) ∧ 5 ≤ 10 * (p - 48) + (c - 48) ∧ 10 * (p - 48) + (c - 48) ≤ 60) ∨ (3 ≤ k ∧ k < 39 ∧ gP ((k - 3) % 6) c)
def pv (ch : Nat → Int32) (k : Nat) : Int32 := if k = 0 then 0 else ch (k - 1)
/-- the code at k is as it must be -/
def gK (ch : Nat → Int32) (k : Nat) : Prop := gO k (pv ch k) (ch k)
/-- the first from k on that isn't, r at most -/
noncomputable def fF (ch : Nat → Int32) (k : Nat) : Nat → Nat
  | 0 => k
  | r + 1 => @ite _ (gK ch k) (Classical.propDecidable _) (fF ch (k + 1) r) k
noncomputable def fG (ch : Nat → Int32) (n k : Nat) : Nat := fF ch k (n - k)
set_option maxHeartbeats 1000000 in
theorem fG_s {ch : Nat → Int32} {n k : Nat} (h : k < n) (hg : gK ch k) : fG ch n k = fG ch n (k + 1) := by
  unfold fG
  rw [show n - k = (n - (k + 1)) + 1 by omega, fF, if_pos hg]
set_option maxHeartbeats 1000000 in
theorem fG_b {ch : Nat → Int32} {n k : Nat} (h : ¬ (k < n ∧ gK ch k)) : fG ch n k = k := by
  unfold fG
  by_cases hk : k < n
  · rw [show n - k = (n - (k + 1)) + 1 by omega, fF, if_neg (fun x => h ⟨hk, x⟩)]
  · rw [show n - k = 0 by omega, fF]
set_option maxHeartbeats 1000000 in
theorem fF_le {ch : Nat → Int32} : ∀ (r k : Nat), k ≤ fF ch k r ∧ fF ch k r ≤ k + r := by
  intro r
  induction r with
  | zero => intro k; exact ⟨Nat.le_refl _, Nat.le_refl _⟩
  | succ r ih =>
    intro k
    rw [fF]
    by_cases h : gK ch k
    · rw [if_pos h]
      have := ih (k + 1)
      omega
    · rw [if_neg h]; omega
set_option maxHeartbeats 1000000 in
theorem fG_le {ch : Nat → Int32} {n k : Nat} (h : k ≤ n) : k ≤ fG ch n k ∧ fG ch n k ≤ n := by
  have := @fF_le ch (n - k) k
  unfold fG
  omega
set_option maxHeartbeats 1000000 in
theorem fF_good {ch : Nat → Int32} : ∀ (r k j : Nat), k ≤ j → j < fF ch k r → gK ch j := by
  intro r
  induction r with
  | zero => intro k j h1 h2; rw [fF] at h2; omega
  | succ r ih =>
    intro k j h1 h2
    rw [fF] at h2
    by_cases h : gK ch k
    · rw [if_pos h] at h2
      by_cases e : j = k
      · rw [e]; exact h
      · exact ih (k + 1) j (by omega) h2
    · rw [if_neg h] at h2; omega
set_option maxHeartbeats 1000000 in
theorem gK_3 {ch : Nat → Int32} {k : Nat} (h : 3 ≤ k) (h2 : k < 39) : gK ch k ↔ gP ((k - 3) % 6) (ch k) := by
  unfold gK gO
  constructor
  · rintro (⟨e, -⟩ | ⟨e, -⟩ | ⟨e, -⟩ | ⟨-, -, e⟩)
    · omega
    · omega
    · omega
    · exact e
  · intro e; exact Or.inr (Or.inr (Or.inr ⟨h, h2, e⟩))
set_option maxHeartbeats 1000000 in
theorem gP_0 {c : Int32} : gP 0 c ↔ c = 59 := by unfold gP; simp
set_option maxHeartbeats 1000000 in
theorem gP_1 {c : Int32} : gP 1 c ↔ (c = 112 ∨ c = 107 ∨ c = 104) := by unfold gP; simp
set_option maxHeartbeats 1000000 in
theorem gP_2 {c : Int32} : gP 2 c ↔ (48 ≤ c ∧ c ≤ 57) := by unfold gP; simp
set_option maxHeartbeats 1000000 in
theorem gP_3 {c : Int32} : gP 3 c ↔ (49 ≤ c ∧ c ≤ 57) := by unfold gP; simp
set_option maxHeartbeats 1000000 in
theorem gP_4 {c : Int32} : gP 4 c ↔ (49 ≤ c ∧ c ≤ 57) := by unfold gP; simp
set_option maxHeartbeats 1000000 in
theorem gP_5 {c : Int32} : gP 5 c ↔ (48 ≤ c ∧ c ≤ 53) := by unfold gP; simp
/-- the text is whole -/
def fW (f n : Nat) : Prop := f = n ∧ 3 < n ∧ (n - 3) % 6 = 0
def kBy (c : Int32) : Int32 := if c = 112 then 0 else if c = 107 then 1 else if c = 104 then 2 else -9
/-- the reference's memory while it reads -/
def rdM (K : Nat → Nat → Int32) (p mn my : Int32) (R : Nat → Int32) : Nat → Nat → Int32 := fun c k => if c = 55 ∧ k = 12 then p else if c = 55 ∧ k = 13 then mn else if c = 55 ∧ k = 14 then my else if c = 64 then R k else K c k
set_option maxHeartbeats 1000000 in
theorem rd_p {K : Nat → Nat → Int32} {p mn my : Int32} {R : Nat → Int32} : rdM K p mn my R 55 12 = p := by simp [rdM]
set_option maxHeartbeats 1000000 in
theorem rd_mn {K : Nat → Nat → Int32} {p mn my : Int32} {R : Nat → Int32} : rdM K p mn my R 55 13 = mn := by simp [rdM]
set_option maxHeartbeats 1000000 in
theorem rd_my {K : Nat → Nat → Int32} {p mn my : Int32} {R : Nat → Int32} : rdM K p mn my R 55 14 = my := by simp [rdM]
set_option maxHeartbeats 1000000 in
theorem rd_R {K : Nat → Nat → Int32} {p mn my : Int32} {R : Nat → Int32} : rdM K p mn my R 64 = R := by funext k; simp [rdM]
set_option maxHeartbeats 1000000 in
theorem rd_o {K : Nat → Nat → Int32} {p mn my : Int32} {R : Nat → Int32} {c : Nat} (h : c ≠ 55) (h2 : c ≠ 64) : rdM K p mn my R c = K c := by funext k; simp [rdM, h, h2]
set_option maxHeartbeats 1000000 in
theorem rd_5 {K : Nat → Nat → Int32} {p mn my : Int32} {R : Nat → Int32} {k : Nat} (h : k ≠ 12) (h2 : k ≠ 13) (h3 : k ≠ 14) : rdM K p mn my R 55 k = K 55 k := by simp [rdM, h, h2, h3]
set_option maxHeartbeats 1000000 in
theorem rd_up {K : Nat → Nat → Int32} {p mn my x : Int32} {R : Nat → Int32} : zU (rdM K p mn my R) 55 12 x = rdM K x mn my R := by
  funext c k
  simp only [zU_app, rdM]
  by_cases e : c = 55 ∧ k = 12
  · simp only [if_pos e]
  · simp only [if_neg e]
set_option maxHeartbeats 1000000 in
theorem rd_un {K : Nat → Nat → Int32} {p mn my x : Int32} {R : Nat → Int32} : zU (rdM K p mn my R) 55 13 x = rdM K p x my R := by
  funext c k
  simp only [zU_app, rdM]
  by_cases e : c = 55 ∧ k = 13
  · rw [if_pos e, if_neg (by omega), if_pos e]
  · simp only [if_neg e]
set_option maxHeartbeats 1000000 in
theorem rd_uy {K : Nat → Nat → Int32} {p mn my x : Int32} {R : Nat → Int32} : zU (rdM K p mn my R) 55 14 x = rdM K p mn x R := by
  funext c k
  simp only [zU_app, rdM]
  by_cases e : c = 55 ∧ k = 14
  · rw [if_pos e, if_neg (by omega), if_neg (by omega), if_pos e]
  · simp only [if_neg e]
set_option maxHeartbeats 1000000 in
theorem rd_uR {K : Nat → Nat → Int32} {p mn my x : Int32} {R : Nat → Int32} {i : Nat} : zU (rdM K p mn my R) 64 i x = rdM K p mn my (fun k => if k = i then x else R k) := by
  funext c k
  simp only [zU_app, rdM]
  by_cases e : c = 64
  · subst e
    by_cases e2 : k = i
    · simp [e2]
    · simp [e2]
  · simp only [e, false_and, if_false]
set_option maxHeartbeats 1000000 in
theorem rd_id {K : Nat → Nat → Int32} : rdM K (K 55 12) (K 55 13) (K 55 14) (K 64) = K := by
  funext c k
  simp only [rdM]
  (repeat' split) <;> grind
section S
variable {L : Nat} {xs : Nat → Int32} {d : Nat} {J : Nat → Nat → Int64} {I : Nat → Nat → Int32}
set_option maxHeartbeats 1000000 in
theorem qgo {k : Nat} {p c : Int32} (hk : k ≤ 1000) : zE zCd (zGG L xs) d 12 [.int (nI k), .int p, .int c] (I, J) = some (some (.int (zb (gO k p c) (Classical.propDecidable _))), (I, J)) := by
  by_cases h0 : k = 0
  · subst h0
    have hg : gO 0 p c ↔ c = 99 := by unfold gO; simp
    by_cases e : c = 99
    · rw [zb_t (hg.mpr e)]
      simp only [nX7_goesOn, eX7_goesOn_0, eX7_goesOn_1, eX7_goesOn_28, eX7_goesOn_29, eX7_goesOn_31, eX7_goesOn_34, eX7_goesOn_35, eX7_goesOn_38, eX7_goesOn_39, zSw_c, zSw_n, show (nI 0 = 0) = True from eq_true rfl, if_true, eq_true e, ne_eq, not_true_eq_false, if_false, zT_1]
    · rw [zb_f (fun x => e (hg.mp x))]
      simp only [nX7_goesOn, eX7_goesOn_0, eX7_goesOn_1, eX7_goesOn_28, eX7_goesOn_29, eX7_goesOn_31, eX7_goesOn_34, eX7_goesOn_35, eX7_goesOn_38, eX7_goesOn_39, zSw_c, zSw_n, show (nI 0 = 0) = True from eq_true rfl, if_true, eq_false e, ne_eq, not_false_eq_true, zT_0]
  by_cases h1 : k = 1
  · subst h1
    have hg : (48 + 0 ≤ c ∧ c ≤ 48 + 6) ↔ gO 1 p c := by unfold gO; simp
    simp only [nX7_goesOn, eX7_goesOn_0, eX7_goesOn_1, eX7_goesOn_28, eX7_goesOn_29, eX7_goesOn_31, eX7_goesOn_34, eX7_goesOn_35, eX7_goesOn_38, eX7_goesOn_39, eX7_goesOn_40, eX7_goesOn_41, eX7_goesOn_42, eX7_goesOn_44, eX7_goesOn_47, Option.bind_some, Option.toList_some, Option.toList_none, List.cons_append, List.nil_append, zSw_c, zSw_n, show (nI 1 = 0) = False from eq_false (by decide +kernel), show (nI 1 = 1) = True from eq_true rfl, if_true, if_false, qX7_isDigit, zT_b]
    rw [zb_iff hg]
  by_cases h2 : k = 2
  · subst h2
    have hg : ((48 ≤ c ∧ c ≤ 57) ∧ 5 ≤ 10 * (p - 48) + (c - 48) ∧ 10 * (p - 48) + (c - 48) ≤ 60) ↔ gO 2 p c := by unfold gO; simp
    simp only [nX7_goesOn, eX7_goesOn_0, eX7_goesOn_1, eX7_goesOn_28, eX7_goesOn_29, eX7_goesOn_31, eX7_goesOn_34, eX7_goesOn_35, eX7_goesOn_38, eX7_goesOn_39, eX7_goesOn_40, eX7_goesOn_41, eX7_goesOn_42, eX7_goesOn_44, eX7_goesOn_47, eX7_goesOn_48, eX7_goesOn_49, eX7_goesOn_50, eX7_goesOn_53, Option.bind_some, Option.toList_some, Option.toList_none, List.cons_append, List.nil_append, zSw_c, zSw_n, show (nI 2 = 0) = False from eq_false (by decide +kernel), show (nI 2 = 1) = False from eq_false (by decide +kernel), show (nI 2 = 2) = True from eq_true rfl, if_true, if_false, qX7_endsMinutes, zT_b]
    rw [zb_iff hg]
  have e0 : (nI k = 0) = False := eq_false (fun e => h0 ((nI_eq (b := 0) (by omega) (by omega)).mp e))
  have e1 : (nI k = 1) = False := eq_false (fun e => h1 ((nI_eq (b := 1) (by omega) (by omega)).mp e))
  have e2 : (nI k = 2) = False := eq_false (fun e => h2 ((nI_eq (b := 2) (by omega) (by omega)).mp e))
  have e39 : ((39 : Int32) ≤ nI k) = (39 ≤ k) := @zle 39 k (by omega) (by omega)
  have es : nI k - 3 = nI (k - 3) := pk_sub (b := 3) (by omega)
  have er : nI (k - 3) - nI (k - 3) / 6 * 6 = nI ((k - 3) % 6) := pk_rem (d := 6) (by omega) (by decide) (by decide)
  by_cases h39 : 39 ≤ k
  · have hg : ¬ gO k p c := by unfold gO; omega
    rw [zb_f hg]
    simp only [nX7_goesOn, eX7_goesOn_0, eX7_goesOn_1, eX7_goesOn_54, eX7_goesOn_55, eX7_goesOn_57, eX7_goesOn_60, eX7_goesOn_61, eX7_goesOn_62, eX7_goesOn_63, eX7_goesOn_65, eX7_goesOn_66, eX7_goesOn_67, eX7_goesOn_70, eX7_goesOn_73, eX7_goesOn_74, eX7_goesOn_77, eX7_goesOn_78, Option.bind_some, Option.toList_some, Option.toList_none, List.cons_append, List.nil_append, zSw_c, zSw_n, e0, e1, e2, e39, eq_true h39, if_true, if_false, zT_0]
  · have hg : gO k p c ↔ gP ((k - 3) % 6) c := by
      unfold gO
      constructor
      · rintro (⟨e, -⟩ | ⟨e, -⟩ | ⟨e, -⟩ | ⟨-, -, e⟩)
        · omega
        · omega
        · omega
        · exact e
      · intro e; exact Or.inr (Or.inr (Or.inr ⟨by omega, by omega, e⟩))
    rw [zb_iff (dq := Classical.propDecidable _) hg]
    have hm : (k - 3) % 6 < 6 := Nat.mod_lt _ (by decide)
    generalize (k - 3) % 6 = m at er hm
    have hp : ((nI m = 0 ∧ c = 59) ∨ (nI m = 1 ∧ (c = 112 ∨ c = 107 ∨ c = 104)) ∨ (nI m = 2 ∧ 48 ≤ c ∧ c ≤ 57) ∨ ((nI m = 3 ∨ nI m = 4) ∧ 49 ≤ c ∧ c ≤ 57) ∨ (¬ (nI m = 0 ∨ nI m = 1 ∨ nI m = 2 ∨ nI m = 3 ∨ nI m = 4) ∧ 48 ≤ c ∧ c ≤ 53)) ↔ gP m c := by
      have q : ∀ j : Nat, j ≤ 5 → (nI m = nI j ↔ m = j) := fun j hj => nI_eq (by omega) (by omega)
      have q0 : nI m = 0 ↔ m = 0 := q 0 (by decide)
      have q1 : nI m = 1 ↔ m = 1 := q 1 (by decide)
      have q2 : nI m = 2 ↔ m = 2 := q 2 (by decide)
      have q3 : nI m = 3 ↔ m = 3 := q 3 (by decide)
      have q4 : nI m = 4 ↔ m = 4 := q 4 (by decide)
      rw [q0, q1, q2, q3, q4]
      unfold gP
      have : ¬ (m = 0 ∨ m = 1 ∨ m = 2 ∨ m = 3 ∨ m = 4) ↔ m = 5 := by omega
      rw [this]
    by_cases hgp : gP m c
    · rw [zb_t hgp]
      simp only [nX7_goesOn, eX7_goesOn_0, eX7_goesOn_1, eX7_goesOn_54, eX7_goesOn_55, eX7_goesOn_57, eX7_goesOn_60, eX7_goesOn_61, eX7_goesOn_62, eX7_goesOn_63, eX7_goesOn_65, eX7_goesOn_66, eX7_goesOn_67, eX7_goesOn_70, eX7_goesOn_73, eX7_goesOn_74, eX7_goesOn_77, eX7_goesOn_78, Option.bind_some, Option.toList_some, Option.toList_none, List.cons_append, List.nil_append, zSw_c, zSw_n, e0, e1, e2, e39, eq_false h39, if_true, if_false, z6n0, not_false_eq_true, es, er, qX7_goesOnInPlace, zb_0, eq_true (hp.mpr hgp), not_true_eq_false, zT_1]
    · rw [zb_f hgp]
      simp only [nX7_goesOn, eX7_goesOn_0, eX7_goesOn_1, eX7_goesOn_54, eX7_goesOn_55, eX7_goesOn_57, eX7_goesOn_60, eX7_goesOn_61, eX7_goesOn_62, eX7_goesOn_63, eX7_goesOn_65, eX7_goesOn_66, eX7_goesOn_67, eX7_goesOn_70, eX7_goesOn_73, eX7_goesOn_74, eX7_goesOn_77, eX7_goesOn_78, Option.bind_some, Option.toList_some, Option.toList_none, List.cons_append, List.nil_append, zSw_c, zSw_n, e0, e1, e2, e39, eq_false h39, if_true, if_false, z6n0, not_false_eq_true, es, er, qX7_goesOnInPlace, zb_0, eq_false (fun x => hgp (hp.mp x)), zT_0]
set_option maxHeartbeats 1000000 in
theorem lp_ff {q a n : Nat} {ch : Nat → Int32} (hq : q < 4) (han : a + n ≤ 60) (hch : ∀ k, k < n → I (2 * q + 3) (a + k) = ch k) : ∀ (r k : Nat) (w : Value), k + r = n → zX zCd (zGG L xs) d 11 2 [.ref (2 * q + 3), .int (nI a), .int (nI n), .int (nI k), w] [] (I, J) = some (some (.int (if fF ch k r = n ∧ 3 < n ∧ (n - 3) % 6 = 0 then -9 else nI (fF ch k r))), (I, J)) := by
  intro r
  induction r with
  | zero =>
    intro k w h
    obtain rfl : k = n := by omega
    rw [eX7_firstFault_2, fF]
    have e3 : (nI k ≤ 3) = (k ≤ 3) := @zle k 3 (by omega) (by omega)
    by_cases h3 : k ≤ 3
    · rw [if_neg (show ¬ (k = k ∧ 3 < k ∧ (k - 3) % 6 = 0) by omega)]
      simp only [eX7_firstFault_3, eX7_firstFault_4, eX7_firstFault_46, eX7_firstFault_47, eX7_firstFault_48, eX7_firstFault_51, eX7_firstFault_52, eX7_firstFault_53, eX7_firstFault_54, eX7_firstFault_56, eX7_firstFault_57, eX7_firstFault_60, eX7_firstFault_61, eX7_firstFault_64, eX7_firstFault_65, eX7_firstFault_66, eX7_firstFault_67, eX7_firstFault_70, eX7_firstFault_72, eX7_firstFault_75, eX7_firstFault_76, Int32.le_refl, if_true, e3, eq_true h3]
    · have es : nI k - 3 = nI (k - 3) := pk_sub (b := 3) (by omega)
      have er : nI (k - 3) - nI (k - 3) / 6 * 6 = nI ((k - 3) % 6) := pk_rem (d := 6) (by omega) (by decide) (by decide)
      have hm : (k - 3) % 6 < 6 := Nat.mod_lt _ (by decide)
      by_cases h6 : (k - 3) % 6 = 0
      · rw [if_pos (show k = k ∧ 3 < k ∧ (k - 3) % 6 = 0 from ⟨rfl, by omega, h6⟩)]
        simp only [eX7_firstFault_3, eX7_firstFault_4, eX7_firstFault_46, eX7_firstFault_47, eX7_firstFault_48, eX7_firstFault_51, eX7_firstFault_52, eX7_firstFault_53, eX7_firstFault_54, eX7_firstFault_56, eX7_firstFault_57, eX7_firstFault_60, eX7_firstFault_61, eX7_firstFault_64, eX7_firstFault_65, eX7_firstFault_66, eX7_firstFault_67, eX7_firstFault_70, eX7_firstFault_72, eX7_firstFault_75, eX7_firstFault_76, Int32.le_refl, if_true, e3, eq_false h3, if_false, es, er, z6n0, not_false_eq_true, h6, show (nI 0 ≠ 0) = False from eq_false (by decide +kernel), show ((1 : Int32) = 0) = False from by decide]
      · have e6 : (nI ((k - 3) % 6) ≠ 0) = True := eq_true (fun e => h6 ((nI_eq (b := 0) (by omega) (by omega)).mp e))
        rw [if_neg (show ¬ (k = k ∧ 3 < k ∧ (k - 3) % 6 = 0) by omega)]
        simp only [eX7_firstFault_3, eX7_firstFault_4, eX7_firstFault_46, eX7_firstFault_47, eX7_firstFault_48, eX7_firstFault_51, eX7_firstFault_52, eX7_firstFault_53, eX7_firstFault_54, eX7_firstFault_56, eX7_firstFault_57, eX7_firstFault_60, eX7_firstFault_61, eX7_firstFault_64, eX7_firstFault_65, eX7_firstFault_66, eX7_firstFault_67, eX7_firstFault_70, eX7_firstFault_72, eX7_firstFault_75, eX7_firstFault_76, Int32.le_refl, if_true, e3, eq_false h3, if_false, es, er, z6n0, not_false_eq_true, e6]
  | succ r ih =>
    intro k w h
    have hc := hch k (by omega)
    have go := qgo (L := L) (xs := xs) (d := d) (I := I) (J := J) (k := k) (p := pv ch k) (c := ch k) (by omega)
    have el : (nI n ≤ nI k) = False := by rw [zle (show n ≤ 1000000 by omega) (show k ≤ 1000000 by omega)]; exact eq_false (by omega)
    have pre : zX zCd (zGG L xs) d 11 2 [.ref (2 * q + 3), .int (nI a), .int (nI n), .int (nI k), w] [] (I, J) = zX zCd (zGG L xs) d 11 35 [.ref (2 * q + 3), .int (nI a), .int (nI n), .int (nI k), .int (pv ch k)] [.int (zb (gO k (pv ch k) (ch k)) (Classical.propDecidable _))] (I, J) := by
      rw [eX7_firstFault_2]
      have e0 : (nI k ≤ 0) = (k ≤ 0) := @zle k 0 (by omega) (by omega)
      by_cases hk : k ≤ 0
      · obtain rfl : k = 0 := by omega
        rw [show pv ch 0 = 0 from rfl] at go ⊢
        simp only [eX7_firstFault_3, eX7_firstFault_4, eX7_firstFault_7, eX7_firstFault_8, eX7_firstFault_11, eX7_firstFault_12, eX7_firstFault_13, eX7_firstFault_14, eX7_firstFault_15, eX7_firstFault_16, eX7_firstFault_17, eX7_firstFault_18, eX7_firstFault_21, eX7_firstFault_22, eX7_firstFault_24, eX7_firstFault_25, eX7_firstFault_27, eX7_firstFault_28, eX7_firstFault_29, eX7_firstFault_30, eX7_firstFault_31, eX7_firstFault_32, Option.bind_some, Option.toList_some, Option.toList_none, List.cons_append, List.nil_append, el, if_false, e0, eq_true hk, if_true, G_sh_a hq, G_sh_l hq, nI_add, zIn_60 (show a + 0 < 60 by omega), zc_n (show a + 0 ≤ 1000 by omega), hc, go]
      · have hp : I (2 * q + 3) (a + k - 1) = pv ch k := by
          rw [show pv ch k = ch (k - 1) from if_neg (by omega), ← hch (k - 1) (by omega), show a + (k - 1) = a + k - 1 by omega]
        have e1 : nI (a + k) - 1 = nI (a + k - 1) := pk_sub (b := 1) (by omega)
        simp only [eX7_firstFault_3, eX7_firstFault_4, eX7_firstFault_7, eX7_firstFault_8, eX7_firstFault_11, eX7_firstFault_12, eX7_firstFault_13, eX7_firstFault_14, eX7_firstFault_15, eX7_firstFault_16, eX7_firstFault_17, eX7_firstFault_18, eX7_firstFault_21, eX7_firstFault_22, eX7_firstFault_24, eX7_firstFault_25, eX7_firstFault_27, eX7_firstFault_28, eX7_firstFault_29, eX7_firstFault_30, eX7_firstFault_31, eX7_firstFault_32, Option.bind_some, Option.toList_some, Option.toList_none, List.cons_append, List.nil_append, el, if_false, e0, eq_false hk, G_sh_a hq, G_sh_l hq, nI_add, e1, zIn_60 (show a + k - 1 < 60 by omega), zc_n (show a + k - 1 ≤ 1000 by omega), zIn_60 (show a + k < 60 by omega), zc_n (show a + k ≤ 1000 by omega), hc, hp, go]
    rw [pre]
    by_cases hg : gK ch k
    · rw [zb_t (show gO k (pv ch k) (ch k) from hg), fF, if_pos hg]
      simp only [eX7_firstFault_35, eX7_firstFault_38, eX7_firstFault_39, eX7_firstFault_40, eX7_firstFault_43, show ((1 : Int32) ≠ 0) = True from by decide, if_true, nI_1]
      exact ih (k + 1) _ (by omega)
    · rw [zb_f (show ¬ gO k (pv ch k) (ch k) from hg), fF, if_neg hg]
      simp only [eX7_firstFault_35, eX7_firstFault_38, eX7_firstFault_39, eX7_firstFault_40, eX7_firstFault_43, show ((0 : Int32) ≠ 0) = False from by decide, if_false, if_neg (show ¬ (k = n ∧ 3 < n ∧ (n - 3) % 6 = 0) by omega)]
set_option maxHeartbeats 1000000 in
theorem qX7_firstFault {q a n : Nat} {ch : Nat → Int32} (hq : q < 4) (han : a + n ≤ 60) (hch : ∀ k, k < n → I (2 * q + 3) (a + k) = ch k) : zE zCd (zGG L xs) d 11 [.ref (2 * q + 3), .int (nI a), .int (nI n)] (I, J) = some (some (.int (if fF ch 0 n = n ∧ 3 < n ∧ (n - 3) % 6 = 0 then -9 else nI (fF ch 0 n))), (I, J)) := by
  simp only [nX7_firstFault, eX7_firstFault_0, eX7_firstFault_1]
  exact lp_ff hq han hch n 0 _ (by omega)
/-! the reference reads -/
set_option maxHeartbeats 1000000 in
theorem qsY {K : Nat → Nat → Int32} {p e : Nat} {mn my c : Int32} {R : Nat → Int32} (hp : p < e) (he : e ≤ 240) (hc : K 58 p = c) : zE zCd (zGG L xs) d 100 [.ref 55, .int (nI e), .int c] (rdM K (nI p) mn my R, J) = some (some (.int 1), (rdM K (nI (p + 1)) mn my R, J)) := by
  have el : (nI e ≤ nI p) = False := by rw [zle (show e ≤ 1000000 by omega) (show p ≤ 1000000 by omega)]; exact eq_false (by omega)
  simp only [nX9_isSign, eX9_isSign_0, eX9_isSign_1, eX9_isSign_4, eX9_isSign_5, eX9_isSign_8, eX9_isSign_9, eX9_isSign_12, eX9_isSign_13, eX9_isSign_16, eX9_isSign_17, eX9_isSign_18, eX9_isSign_21, eX9_isSign_22, eX9_isSign_23, eX9_isSign_24, eX9_isSign_25, eX9_isSign_28, eX9_isSign_29, eX9_isSign_30, eX9_isSign_33, eX9_isSign_34, Option.bind_some, Option.toList_some, Option.toList_none, List.cons_append, List.nil_append, G_o55, G_h55_2, G_r55_2, G_a56, G_l56, G_h55_3, G_r55_3, G_a57, G_l57, G_h55_4, G_r55_4, G_a58, G_l58, G_h55_7, G_r55_7, G_a59, G_l59, G_h55_8, G_r55_8, G_a60, G_l60, G_h55_9, G_r55_9, G_a61, G_l61, G_h55_10, G_r55_10, G_a62, G_l62, G_h55_11, G_r55_11, G_a63, G_l63, G_h55_29, G_r55_29, G_a69, G_l69, G_h55_30, G_r55_30, G_a70, G_l70, rd_p, el, if_false, zIn_240 (show p < 240 by omega), zc_n (show p ≤ 1000 by omega), rd_o (show 58 ≠ 55 by decide) (show 58 ≠ 64 by decide), hc, if_true, nI_1, rd_up, zT_1]
set_option maxHeartbeats 1000000 in
theorem qsN {K : Nat → Nat → Int32} {p e : Nat} {mn my c : Int32} {R : Nat → Int32} (hpe : p ≤ e) (he : e ≤ 240) (hc : ¬ (p < e ∧ K 58 p = c)) : zE zCd (zGG L xs) d 100 [.ref 55, .int (nI e), .int c] (rdM K (nI p) mn my R, J) = some (some (.int 0), (rdM K (nI p) mn my R, J)) := by
  have el : (nI e ≤ nI p) = (e ≤ p) := zle (show e ≤ 1000000 by omega) (show p ≤ 1000000 by omega)
  by_cases hp : e ≤ p
  · simp only [nX9_isSign, eX9_isSign_0, eX9_isSign_1, eX9_isSign_4, eX9_isSign_5, eX9_isSign_8, eX9_isSign_9, eX9_isSign_12, eX9_isSign_13, eX9_isSign_16, eX9_isSign_17, eX9_isSign_18, eX9_isSign_21, eX9_isSign_22, eX9_isSign_23, eX9_isSign_24, eX9_isSign_25, eX9_isSign_28, eX9_isSign_29, eX9_isSign_30, eX9_isSign_33, eX9_isSign_34, Option.bind_some, Option.toList_some, Option.toList_none, List.cons_append, List.nil_append, G_o55, G_h55_2, G_r55_2, G_a56, G_l56, G_h55_3, G_r55_3, G_a57, G_l57, G_h55_4, G_r55_4, G_a58, G_l58, G_h55_7, G_r55_7, G_a59, G_l59, G_h55_8, G_r55_8, G_a60, G_l60, G_h55_9, G_r55_9, G_a61, G_l61, G_h55_10, G_r55_10, G_a62, G_l62, G_h55_11, G_r55_11, G_a63, G_l63, G_h55_29, G_r55_29, G_a69, G_l69, G_h55_30, G_r55_30, G_a70, G_l70, rd_p, el, eq_true hp, if_true, zT_0]
  · have hcc := eq_false (fun x => hc ⟨by omega, x⟩)
    simp only [nX9_isSign, eX9_isSign_0, eX9_isSign_1, eX9_isSign_4, eX9_isSign_5, eX9_isSign_8, eX9_isSign_9, eX9_isSign_12, eX9_isSign_13, eX9_isSign_16, eX9_isSign_17, eX9_isSign_18, eX9_isSign_21, eX9_isSign_22, eX9_isSign_23, eX9_isSign_24, eX9_isSign_25, eX9_isSign_28, eX9_isSign_29, eX9_isSign_30, eX9_isSign_33, eX9_isSign_34, Option.bind_some, Option.toList_some, Option.toList_none, List.cons_append, List.nil_append, G_o55, G_h55_2, G_r55_2, G_a56, G_l56, G_h55_3, G_r55_3, G_a57, G_l57, G_h55_4, G_r55_4, G_a58, G_l58, G_h55_7, G_r55_7, G_a59, G_l59, G_h55_8, G_r55_8, G_a60, G_l60, G_h55_9, G_r55_9, G_a61, G_l61, G_h55_10, G_r55_10, G_a62, G_l62, G_h55_11, G_r55_11, G_a63, G_l63, G_h55_29, G_r55_29, G_a69, G_l69, G_h55_30, G_r55_30, G_a70, G_l70, rd_p, el, eq_false hp, if_false, zIn_240 (show p < 240 by omega), zc_n (show p ≤ 1000 by omega), rd_o (show 58 ≠ 55 by decide) (show 58 ≠ 64 by decide), hcc, zT_0]
set_option maxHeartbeats 1000000 in
theorem qdY {K : Nat → Nat → Int32} {p e : Nat} {mn my lo hi : Int32} {R : Nat → Int32} (hp : p < e) (he : e ≤ 240) (hc : 48 + lo ≤ K 58 p ∧ K 58 p ≤ 48 + hi) : zE zCd (zGG L xs) d 99 [.ref 55, .int (nI e), .int lo, .int hi] (rdM K (nI p) mn my R, J) = some (some (.int (K 58 p - 48)), (rdM K (nI (p + 1)) mn my R, J)) := by
  have el : (nI e ≤ nI p) = False := by rw [zle (show e ≤ 1000000 by omega) (show p ≤ 1000000 by omega)]; exact eq_false (by omega)
  have e1 : nI (p + 1) - 1 = nI p := pk_sub (a := p + 1) (b := 1) (by omega)
  simp only [nX9_digit, eX9_digit_0, eX9_digit_1, eX9_digit_4, eX9_digit_5, eX9_digit_8, eX9_digit_9, eX9_digit_12, eX9_digit_13, eX9_digit_16, eX9_digit_17, eX9_digit_19, eX9_digit_20, eX9_digit_21, eX9_digit_23, eX9_digit_24, eX9_digit_25, eX9_digit_28, eX9_digit_31, eX9_digit_33, eX9_digit_34, eX9_digit_35, eX9_digit_36, eX9_digit_39, eX9_digit_40, eX9_digit_41, eX9_digit_44, eX9_digit_45, eX9_digit_48, eX9_digit_49, eX9_digit_52, eX9_digit_53, eX9_digit_54, eX9_digit_55, eX9_digit_57, eX9_digit_58, Option.bind_some, Option.toList_some, Option.toList_none, List.cons_append, List.nil_append, G_o55, G_h55_2, G_r55_2, G_a56, G_l56, G_h55_3, G_r55_3, G_a57, G_l57, G_h55_4, G_r55_4, G_a58, G_l58, G_h55_7, G_r55_7, G_a59, G_l59, G_h55_8, G_r55_8, G_a60, G_l60, G_h55_9, G_r55_9, G_a61, G_l61, G_h55_10, G_r55_10, G_a62, G_l62, G_h55_11, G_r55_11, G_a63, G_l63, G_h55_29, G_r55_29, G_a69, G_l69, G_h55_30, G_r55_30, G_a70, G_l70, rd_p, el, if_false, zIn_240 (show p < 240 by omega), zc_n (show p ≤ 1000 by omega), rd_o (show 58 ≠ 55 by decide) (show 58 ≠ 64 by decide), qX9_within, eq_true hc, zb_1, if_true, nI_1, rd_up, e1]
set_option maxHeartbeats 1000000 in
theorem qdN {K : Nat → Nat → Int32} {p e : Nat} {mn my lo hi : Int32} {R : Nat → Int32} (hpe : p ≤ e) (he : e ≤ 240) (hc : ¬ (p < e ∧ 48 + lo ≤ K 58 p ∧ K 58 p ≤ 48 + hi)) : zE zCd (zGG L xs) d 99 [.ref 55, .int (nI e), .int lo, .int hi] (rdM K (nI p) mn my R, J) = some (some (.int (-9)), (rdM K (nI p) mn my R, J)) := by
  have el : (nI e ≤ nI p) = (e ≤ p) := zle (show e ≤ 1000000 by omega) (show p ≤ 1000000 by omega)
  by_cases hp : e ≤ p
  · simp only [nX9_digit, eX9_digit_0, eX9_digit_1, eX9_digit_4, eX9_digit_5, eX9_digit_8, eX9_digit_9, eX9_digit_12, eX9_digit_13, eX9_digit_16, eX9_digit_17, eX9_digit_19, eX9_digit_20, eX9_digit_21, eX9_digit_23, eX9_digit_24, eX9_digit_25, eX9_digit_28, eX9_digit_31, eX9_digit_33, eX9_digit_34, eX9_digit_35, eX9_digit_36, eX9_digit_39, eX9_digit_40, eX9_digit_41, eX9_digit_44, eX9_digit_45, eX9_digit_48, eX9_digit_49, eX9_digit_52, eX9_digit_53, eX9_digit_54, eX9_digit_55, eX9_digit_57, eX9_digit_58, Option.bind_some, Option.toList_some, Option.toList_none, List.cons_append, List.nil_append, G_o55, G_h55_2, G_r55_2, G_a56, G_l56, G_h55_3, G_r55_3, G_a57, G_l57, G_h55_4, G_r55_4, G_a58, G_l58, G_h55_7, G_r55_7, G_a59, G_l59, G_h55_8, G_r55_8, G_a60, G_l60, G_h55_9, G_r55_9, G_a61, G_l61, G_h55_10, G_r55_10, G_a62, G_l62, G_h55_11, G_r55_11, G_a63, G_l63, G_h55_29, G_r55_29, G_a69, G_l69, G_h55_30, G_r55_30, G_a70, G_l70, rd_p, el, eq_true hp, if_true]
  · have hcc := eq_false (fun x => hc ⟨by omega, x⟩)
    simp only [nX9_digit, eX9_digit_0, eX9_digit_1, eX9_digit_4, eX9_digit_5, eX9_digit_8, eX9_digit_9, eX9_digit_12, eX9_digit_13, eX9_digit_16, eX9_digit_17, eX9_digit_19, eX9_digit_20, eX9_digit_21, eX9_digit_23, eX9_digit_24, eX9_digit_25, eX9_digit_28, eX9_digit_31, eX9_digit_33, eX9_digit_34, eX9_digit_35, eX9_digit_36, eX9_digit_39, eX9_digit_40, eX9_digit_41, eX9_digit_44, eX9_digit_45, eX9_digit_48, eX9_digit_49, eX9_digit_52, eX9_digit_53, eX9_digit_54, eX9_digit_55, eX9_digit_57, eX9_digit_58, Option.bind_some, Option.toList_some, Option.toList_none, List.cons_append, List.nil_append, G_o55, G_h55_2, G_r55_2, G_a56, G_l56, G_h55_3, G_r55_3, G_a57, G_l57, G_h55_4, G_r55_4, G_a58, G_l58, G_h55_7, G_r55_7, G_a59, G_l59, G_h55_8, G_r55_8, G_a60, G_l60, G_h55_9, G_r55_9, G_a61, G_l61, G_h55_10, G_r55_10, G_a62, G_l62, G_h55_11, G_r55_11, G_a63, G_l63, G_h55_29, G_r55_29, G_a69, G_l69, G_h55_30, G_r55_30, G_a70, G_l70, rd_p, el, eq_false hp, if_false, zIn_240 (show p < 240 by omega), zc_n (show p ≤ 1000 by omega), rd_o (show 58 ≠ 55 by decide) (show 58 ≠ 64 by decide), qX9_within, hcc, zb_1]
set_option maxHeartbeats 1000000 in
theorem dg_9 {c : Int32} (h : 48 ≤ c ∧ c ≤ 57) : (c - 48 ≠ -9) = True := eq_true (by grind)

end S
