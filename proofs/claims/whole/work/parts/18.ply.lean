/-! a plan is played: the class's side -/
abbrev zPs : Type := (Nat → Int32) × (Nat → Int32) × (Nat → Int32) × Int32 × Int32
/-- a Playing at p -/
def zPg (g : zG) (p : Nat) : Prop := 23 ≤ p ∧ zOo g p 3 ∧ (zHr g p 0 ∧ zRf g p 0 = p + 1) ∧ (zHr g p 1 ∧ zRf g p 1 = p + 2) ∧ (zHr g p 2 ∧ zRf g p 2 = p + 3) ∧ (zOa g (p + 1) ∧ zLn g (p + 1) = 6) ∧ (zOa g (p + 2) ∧ zLn g (p + 2) = 5) ∧ (zOa g (p + 3) ∧ zLn g (p + 3) = 6)
set_option maxHeartbeats 1000000 in
theorem zPg_23 {L : Nat} {xs : Nat → Int32} : zPg (zGG L xs) 23 := ⟨by decide, G_o23, ⟨G_h23_0, G_r23_0⟩, ⟨G_h23_1, G_r23_1⟩, ⟨G_h23_2, G_r23_2⟩, ⟨G_a24, G_l24⟩, ⟨G_a25, G_l25⟩, ⟨G_a26, G_l26⟩⟩
set_option maxHeartbeats 1000000 in
theorem zPg_af {L : Nat} {xs : Nat → Int32} {k : Nat} (hk : k < 6) : zPg (zGG L xs) (4 * k + 31) := ⟨by omega, G_pg_o hk, ⟨G_pg_h0 hk, G_pg_r0 hk⟩, ⟨G_pg_h1 hk, G_pg_r1 hk⟩, ⟨G_pg_h2 hk, G_pg_r2 hk⟩, ⟨G_pg_a0 hk, G_pg_l0 hk⟩, ⟨G_pg_a1 hk, G_pg_l1 hk⟩, ⟨G_pg_a2 hk, G_pg_l2 hk⟩⟩
def zgP (p : Nat) (I : Nat → Nat → Int32) : zPs := (I (p + 1), I (p + 2), I (p + 3), I p 3, I p 4)
def zsP (p : Nat) (I : Nat → Nat → Int32) (P : zPs) : Nat → Nat → Int32 := fun c k => if c = p + 1 then P.1 k else if c = p + 2 then P.2.1 k else if c = p + 3 then P.2.2.1 k else if c = p ∧ k = 3 then P.2.2.2.1 else if c = p ∧ k = 4 then P.2.2.2.2 else I c k
set_option maxHeartbeats 1000000 in
theorem zgP_s (p : Nat) (I : Nat → Nat → Int32) (P : zPs) : zgP p (zsP p I P) = P := by
  obtain ⟨S, Jn, T, a, b⟩ := P
  have h1 : zsP p I (S, Jn, T, a, b) (p + 1) = S := by funext k; simp [zsP]
  have h2 : zsP p I (S, Jn, T, a, b) (p + 2) = Jn := by funext k; simp [zsP]
  have h3 : zsP p I (S, Jn, T, a, b) (p + 3) = T := by funext k; simp [zsP]
  have h4 : zsP p I (S, Jn, T, a, b) p 3 = a := by simp [zsP]
  have h5 : zsP p I (S, Jn, T, a, b) p 4 = b := by simp [zsP]
  simp only [zgP, h1, h2, h3, h4, h5]
set_option maxHeartbeats 1000000 in
theorem zsP_ne (p : Nat) (I : Nat → Nat → Int32) (P : zPs) {c : Nat} (h : c < p ∨ p + 3 < c) : zsP p I P c = I c := by
  funext k
  simp only [zsP]
  grind
set_option maxHeartbeats 1000000 in
theorem zsP_5 (p : Nat) (I : Nat → Nat → Int32) (P : zPs) {k : Nat} (h : k ≠ 3) (h4 : k ≠ 4) : zsP p I P p k = I p k := by
  simp only [zsP]
  grind
set_option maxHeartbeats 1000000 in
theorem zsP_s (p : Nat) (I : Nat → Nat → Int32) (P P' : zPs) : zsP p (zsP p I P) P' = zsP p I P' := by
  funext c k
  simp only [zsP]
  grind
def pTk (N : Nat) (f : Nat → Nat → Int32) (s : Nat) : Int32 := if s = 21 then 15 else if s = 20 then zSum (fun k => f k 2) N else if s < 10 then f s 2 else 2 * f (s - 10) 2
def pG (kd : Int32) : Int32 := if kd = 0 then 3 else if kd = 1 then 2 else 1
def pJ (s : Nat) : Nat := if s < 10 then s else s - 10
def pOk (N s : Nat) : Prop := s = 20 ∨ s = 21 ∨ s < N ∨ (10 ≤ s ∧ s < 10 + N)
def cF (I : Nat → Nat → Int32) : Nat → Nat → Int32 := fun k j => if k < 6 then I (k + 15) j else 0
set_option maxHeartbeats 1000000 in
theorem zSum_congr {f g : Nat → Int32} : ∀ {n : Nat}, (∀ k, k < n → f k = g k) → zSum f n = zSum g n
  | 0, _ => rfl
  | n + 1, h => by rw [zSum, zSum, zSum_congr (fun k hk => h k (by omega)), h n (by omega)]
def cMx (v : Int32) : Int32 := if v < 0 then 0 else v
def cMn (v : Int32) : Int32 := if 10 < v then 10 else v
def cNew (li t x kd : Int32) (slow tired : Bool) : Int32 := if li ≤ t then cMx (x - 1) else if tired = true then x else cMn (x + if slow = true then 2 * pG kd else pG kd)
def cS (f : Nat → Nat → Int32) (s : Nat) (b : Bool) (S T : Nat → Int32) : Nat → Int32 := fun k => if k = pJ s then cNew (f (pJ s) 3) (T (pJ s)) (S (pJ s)) (f (pJ s) 0) (decide (10 ≤ s)) b else S k
def cT (s : Nat) (T : Nat → Int32) : Nat → Int32 := fun k => if k = pJ s then T k + 1 else T k
def cJ (b : Bool) (Jn : Nat → Int32) : Nat → Int32 := fun k => if k < 5 ∧ b = false then cMn (Jn k + 2) else Jn k
def pTd (P : zPs) : Bool := decide (40 ≤ P.2.2.2.1 - P.2.2.2.2)
def cStp (N : Nat) (f : Nat → Nat → Int32) (s : Nat) (P : zPs) : zPs :=
  (if s < 20 then cS f s (pTd P) P.1 P.2.2.1 else P.1, if s = 20 then cJ (pTd P) P.2.1 else P.2.1, if s < 20 then cT s P.2.2.1 else P.2.2.1, P.2.2.2.1 + pTk N f s, if s = 21 then P.2.2.2.1 + pTk N f s else P.2.2.2.2)
def cWr (f : Nat → Nat → Int32) (s : Nat) (P : zPs) : Prop := s < 20 ∧ cS f s (pTd P) P.1 P.2.2.1 (pJ s) < P.1 (pJ s)
def pCan (N : Nat) (mn : Int32) (f : Nat → Nat → Int32) (s : Nat) (P : zPs) : Prop := P.2.2.2.1 + pTk N f s ≤ mn ∧ (s < 20 → 10 * f (pJ s) 4 ≤ P.2.2.2.1)
set_option maxHeartbeats 1000000 in
theorem pJ_lt {N s : Nat} (h : pOk N s) (h2 : s < 20) : pJ s < N := by
  unfold pOk at h
  unfold pJ
  split <;> omega
section S
variable {L : Nat} {xs : Nat → Int32} {d : Nat} {J : Nat → Nat → Int64}
set_option maxHeartbeats 1000000 in
theorem zpl {s : Nat} (hs : s ≤ 1000) : (if nI s < 10 then nI s else nI s - 10) = nI (pJ s) := by
  have l10 : (nI s < 10) = (s < 10) := @zlt s 10 (by omega) (by omega)
  simp only [l10, pJ]
  split
  · rfl
  · exact pk_sub (b := 10) (by omega)
set_option maxHeartbeats 1000000 in
theorem qmin {N s : Nat} {I : Nat → Nat → Int32} (hN : I 10 2 = nI N) (h1 : N ≤ 6) (hs : pOk N s) : zE zCd (zGG L xs) d 24 [.ref 10, .int (nI s)] (I, J) = some (some (.int (pTk N (cF I) s)), (I, J)) := by
  rw [qX0_minutesOf hN h1 hs]
  have e1 : zSum (fun k => cF I k 2) N = zSum (fun k => I (k + 15) 2) N := zSum_congr (fun k hk => by simp only [cF, if_pos (show k < 6 by omega)])
  unfold pOk at hs
  unfold pTk
  by_cases h21 : s = 21
  · simp only [if_pos h21]
  · by_cases h20 : s = 20
    · simp only [if_neg h21, if_pos h20, e1]
    · by_cases h10 : s < 10
      · simp only [if_neg h21, if_neg h20, if_pos h10, cF, if_pos (show s < 6 by omega)]
      · simp only [if_neg h21, if_neg h20, if_neg h10, cF, if_pos (show s - 10 < 6 by omega)]
set_option maxHeartbeats 1000000 in
theorem qX3_canBe {p N s : Nat} {I : Nat → Nat → Int32} (hp : zPg (zGG L xs) p) (hN : I 10 2 = nI N) (h1 : N ≤ 6) (hs : pOk N s) : zE zCd (zGG L xs) d 33 [.ref p, .ref 10, .int (nI s)] (I, J) = some (some (.int (zb (pCan N (I 10 3) (cF I) s (zgP p I)) (by unfold pCan; exact inferInstance))), (I, J)) := by
  have hs2 : s ≤ 1000 := by unfold pOk at hs; omega
  have l20 : (nI s < 20) = (s < 20) := @zlt s 20 (by omega) (by omega)
  by_cases h20 : s < 20
  · have hj := pJ_lt hs h20
    simp only [nX3_canBe, eX3_canBe_0, eX3_canBe_1, eX3_canBe_4, eX3_canBe_5, eX3_canBe_6, eX3_canBe_9, eX3_canBe_10, eX3_canBe_11, eX3_canBe_14, eX3_canBe_17, eX3_canBe_18, eX3_canBe_19, eX3_canBe_20, eX3_canBe_23, eX3_canBe_26, eX3_canBe_27, eX3_canBe_30, eX3_canBe_32, eX3_canBe_33, eX3_canBe_36, eX3_canBe_37, eX3_canBe_40, eX3_canBe_41, eX3_canBe_44, eX3_canBe_45, eX3_canBe_48, eX3_canBe_49, eX3_canBe_52, eX3_canBe_53, Option.bind_some, Option.toList_some, Option.toList_none, List.cons_append, List.nil_append, G_o10, G_h10_0, G_r10_0, G_q11, G_l11, hp.2.1, qmin hN h1 hs, qX0_isOfPlace, qX0_placeOf, zpl hs2, zb_0, l20, h20, not_true_eq_false, if_false, zIn_6 (show pJ s < 6 by omega), zc_n (show pJ s ≤ 1000 by omega), G_11h (show pJ s < 6 by omega), G_11r (show pJ s < 6 by omega), G_pl_o (show pJ s < 6 by omega), zT_0, zT_1]
    simp only [zb, pCan, zgP, cF, if_pos (show pJ s < 6 by omega), h20, true_implies]
    (repeat' split) <;> grind
  · simp only [nX3_canBe, eX3_canBe_0, eX3_canBe_1, eX3_canBe_4, eX3_canBe_5, eX3_canBe_6, eX3_canBe_9, eX3_canBe_10, eX3_canBe_11, eX3_canBe_14, eX3_canBe_17, eX3_canBe_18, eX3_canBe_19, eX3_canBe_20, eX3_canBe_23, eX3_canBe_26, eX3_canBe_27, eX3_canBe_30, eX3_canBe_32, eX3_canBe_33, eX3_canBe_36, eX3_canBe_37, eX3_canBe_40, eX3_canBe_41, eX3_canBe_44, eX3_canBe_45, eX3_canBe_48, eX3_canBe_49, eX3_canBe_52, eX3_canBe_53, Option.bind_some, Option.toList_some, Option.toList_none, List.cons_append, List.nil_append, G_o10, hp.2.1, qmin hN h1 hs, qX0_isOfPlace, zb_0, l20, h20, not_false_eq_true, if_true, zT_0, zT_1]
    simp only [zb, pCan, zgP, cF, h20, false_implies, and_true]
    (repeat' split) <;> grind
set_option maxHeartbeats 1000000 in
theorem lp_run {p : Nat} {b : Int32} (hp : zPg (zGG L xs) p) : ∀ (r k : Nat) (I : Nat → Nat → Int32), k + r = 5 → zX zCd (zGG L xs) d 35 7 [.ref p, .int b, .int (nI k)] [] (I, J) = some (none, (zUr I (p + 2) (fun j => if k ≤ j ∧ j < 5 then cMn (I (p + 2) j + 2) else I (p + 2) j), J)) := by
  intro r
  induction r with
  | zero =>
    intro k I h
    obtain rfl : k = 5 := by omega
    rw [eX3_runThrough_7]
    simp only [eX3_runThrough_8, eX3_runThrough_9, eX3_runThrough_12, eX3_runThrough_13, eX3_runThrough_16, eX3_runThrough_17, eX3_runThrough_18, eX3_runThrough_21, eX3_runThrough_22, eX3_runThrough_23, eX3_runThrough_24, eX3_runThrough_25, eX3_runThrough_27, eX3_runThrough_30, eX3_runThrough_31, eX3_runThrough_34, eX3_runThrough_37, show ((5 : Int32) ≤ nI 5) = True from by decide, if_true]
    congr 3
    funext c' j
    simp only [zUr_app]
    grind
  | succ r ih =>
    intro k I h
    rw [eX3_runThrough_7]
    simp only [eX3_runThrough_8, eX3_runThrough_9, eX3_runThrough_12, eX3_runThrough_13, eX3_runThrough_16, eX3_runThrough_17, eX3_runThrough_18, eX3_runThrough_21, eX3_runThrough_22, eX3_runThrough_23, eX3_runThrough_24, eX3_runThrough_25, eX3_runThrough_27, eX3_runThrough_30, eX3_runThrough_31, eX3_runThrough_34, show ((5 : Int32) ≤ nI k) = (5 ≤ k) from @zle 5 k (by omega) (by omega), if_neg (show ¬ 5 ≤ k by omega), hp.2.1, hp.2.2.2.1, hp.2.2.2.2.2.2.1, zIn_5 (show k < 5 by omega), zc_n (show k ≤ 1000 by omega), nI_1]
    rw [ih (k + 1) _ (by omega)]
    congr 3
    funext c' j
    simp only [zUr_app, zU_app, cMn]
    grind
end S
