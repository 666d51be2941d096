/-! the soonest -/
def wS (k w : Nat) : Nat := if w = 0 then k else if w = 1 then 10 + k else 21
def endW (N : Nat) (f : Nat → Nat → Int32) (k : Nat) (Q : zPs) (p : List Nat) : zPs := p.foldl (fun Q w => mStp N f (wS k w) Q) Q
set_option maxHeartbeats 1000000 in
theorem endW_s {N k : Nat} {f : Nat → Nat → Int32} {Q : zPs} {p : List Nat} {w : Nat} : endW N f k Q (p ++ [w]) = mStp N f (wS k w) (endW N f k Q p) := by
  unfold endW
  rw [List.foldl_append]
  rfl
set_option maxHeartbeats 1000000 in
theorem wS_ok {N k w : Nat} (h6 : N ≤ 6) (hk : k < N) : pOk N (wS k w) := by
  unfold wS pOk
  split
  · omega
  · split <;> omega
noncomputable def gmn (ok : Prop) (m l : Int32) : Int32 := @ite _ (ok ∧ (l = -9 ∨ m < l)) (Classical.propDecidable _) m l
set_option maxHeartbeats 1000000 in
theorem gmn_y {ok : Prop} {m l : Int32} (h : ok ∧ (l = -9 ∨ m < l)) : gmn ok m l = m := if_pos h
set_option maxHeartbeats 1000000 in
theorem gmn_n {ok : Prop} {m l : Int32} (h : ¬ (ok ∧ (l = -9 ∨ m < l))) : gmn ok m l = l := if_neg h
def MN (ok : List Nat → Prop) (mi : List Nat → Int32) (S : List Nat → Prop) (l : Int32) : Prop := (l = -9 ∧ ∀ p, S p → ¬ ok p) ∨ (l ≠ -9 ∧ ∃ p, S p ∧ ok p ∧ l = mi p ∧ ∀ p', S p' → ok p' → (mi p).toInt ≤ (mi p').toInt)
set_option maxHeartbeats 1000000 in
theorem MN.step {ok : List Nat → Prop} {mi : List Nat → Int32} {S : List Nat → Prop} {l : Int32} {p : List Nat} (h : MN ok mi S l) (h9 : mi p ≠ -9) : MN ok mi (fun q => S q ∨ q = p) (gmn (ok p) (mi p) l) := by
  rcases h with ⟨h1, h2⟩ | ⟨h1, p0, h2, h3, h4, h5⟩
  · by_cases hp : ok p
    · rw [gmn_y ⟨hp, Or.inl h1⟩]
      refine Or.inr ⟨h9, p, Or.inr rfl, hp, rfl, fun p' hs ho => ?_⟩
      rcases hs with hs | rfl
      · exact absurd ho (h2 p' hs)
      · exact Int.le_refl _
    · rw [gmn_n (fun x => hp x.1)]
      refine Or.inl ⟨h1, fun p' hs => ?_⟩
      rcases hs with hs | rfl
      · exact h2 p' hs
      · exact hp
  · by_cases hc : ok p ∧ (l = -9 ∨ mi p < l)
    · rw [gmn_y hc]
      refine Or.inr ⟨h9, p, Or.inr rfl, hc.1, rfl, fun p' hs ho => ?_⟩
      have hl : mi p < l := by
        rcases hc.2 with x | x
        · exact absurd x h1
        · exact x
      rw [h4, Int32.lt_iff_toInt_lt] at hl
      rcases hs with hs | rfl
      · have := h5 p' hs ho
        omega
      · exact Int.le_refl _
    · rw [gmn_n hc]
      refine Or.inr ⟨h1, p0, Or.inl h2, h3, h4, fun p' hs ho => ?_⟩
      rcases hs with hs | rfl
      · exact h5 p' hs ho
      · have hl : ¬ mi p' < l := fun x => hc ⟨ho, Or.inr x⟩
        rw [h4, Int32.lt_iff_toInt_lt] at hl
        omega
set_option maxHeartbeats 1000000 in
theorem MN.congr {ok : List Nat → Prop} {mi : List Nat → Int32} {S S' : List Nat → Prop} {l : Int32} (h : MN ok mi S l) (hs : ∀ q, S q ↔ S' q) : MN ok mi S' l := by
  have : S = S' := funext fun q => propext (hs q)
  rw [← this]
  exact h
set_option maxHeartbeats 1000000 in
theorem MN.uniq {ok : List Nat → Prop} {mi : List Nat → Int32} {S : List Nat → Prop} {l l' : Int32} (h : MN ok mi S l) (g : MN ok mi S l') : l = l' := by
  rcases h with ⟨h1, h2⟩ | ⟨h1, p, h2, h3, h4, h5⟩
  · rcases g with ⟨g1, g2⟩ | ⟨g1, q, g2, g3, g4, g5⟩
    · rw [h1, g1]
    · exact absurd g3 (h2 q g2)
  · rcases g with ⟨g1, g2⟩ | ⟨g1, q, g2, g3, g4, g5⟩
    · exact absurd h3 (g2 p h2)
    · have a := h5 q g2 g3
      have b := g5 p h2 h3
      rw [h4, g4]
      exact Int32.toInt_inj.mp (by omega)
/-- all that begins so, t steps more at most -/
def ext (pre : List Nat) (t : Nat) (q : List Nat) : Prop := ∃ r : List Nat, r.length ≤ t ∧ (∀ w, w ∈ r → w < 3) ∧ q = pre ++ r
set_option maxHeartbeats 1000000 in
theorem ext_0 {pre q : List Nat} : ext pre 0 q ↔ q = pre := by
  constructor
  · rintro ⟨r, h1, -, rfl⟩
    have : r = [] := List.eq_nil_of_length_eq_zero (by omega)
    rw [this, List.append_nil]
  · rintro rfl
    exact ⟨[], by simp, fun w hw => by simp at hw, by simp⟩
set_option maxHeartbeats 1000000 in
theorem ext_s {pre q : List Nat} {t : Nat} : ext pre (t + 1) q ↔ (q = pre ∨ ext (pre ++ [0]) t q ∨ ext (pre ++ [1]) t q ∨ ext (pre ++ [2]) t q) := by
  constructor
  · rintro ⟨r, h1, h2, rfl⟩
    cases r with
    | nil => exact Or.inl (by simp)
    | cons w r =>
      have hw := h2 w (by simp)
      have hx : ext (pre ++ [w]) t (pre ++ w :: r) := ⟨r, by simp at h1; omega, fun x hx => h2 x (by simp [hx]), by simp⟩
      rcases (show w = 0 ∨ w = 1 ∨ w = 2 by omega) with rfl | rfl | rfl
      · exact Or.inr (Or.inl hx)
      · exact Or.inr (Or.inr (Or.inl hx))
      · exact Or.inr (Or.inr (Or.inr hx))
  · have key : ∀ w, w < 3 → ext (pre ++ [w]) t q → ext pre (t + 1) q := by
      rintro w hw ⟨r, h1, h2, rfl⟩
      refine ⟨w :: r, by simp; omega, fun x hx => ?_, by simp⟩
      rw [List.mem_cons] at hx
      rcases hx with rfl | hx
      · exact hw
      · exact h2 x hx
    rintro (rfl | h | h | h)
    · exact ⟨[], by simp, fun w hw => by simp at hw, by simp⟩
    · exact key 0 (by decide) h
    · exact key 1 (by decide) h
    · exact key 2 (by decide) h
/-! the minutes are few -/
set_option maxHeartbeats 1000000 in
theorem endW_m {N k : Nat} {f : Nat → Nat → Int32} (hk : k < 6) (hf : 0 ≤ f k 2 ∧ f k 2 ≤ 9) : ∀ (p : List Nat) (Q : zPs) (m : Nat), Q.2.2.2.1 = nI m → ∃ m', (endW N f k Q p).2.2.2.1 = nI m' ∧ m' ≤ m + 18 * p.length := by
  obtain ⟨a, ha, ea⟩ := zIdl (n := 9) hf.1 hf.2 (by decide)
  intro p
  induction p with
  | nil => intro Q m h; exact ⟨m, h, by simp⟩
  | cons w p ih =>
    intro Q m h
    have ht : ∃ b, pTk N f (wS k w) = nI b ∧ b ≤ 18 := by
      unfold wS pTk
      by_cases w0 : w = 0
      · rw [if_pos w0, if_neg (by omega), if_neg (by omega), if_pos (by omega), ea]
        exact ⟨a, rfl, by omega⟩
      · rw [if_neg w0]
        by_cases w1 : w = 1
        · rw [if_pos w1, if_neg (by omega), if_neg (by omega), if_neg (by omega), show 10 + k - 10 = k by omega, ea]
          exact ⟨2 * a, pk_mul 2 a, by omega⟩
        · rw [if_neg w1, if_pos rfl]
          exact ⟨15, rfl, by omega⟩
    obtain ⟨b, hb, hb2⟩ := ht
    have e : (mStp N f (wS k w) Q).2.2.2.1 = nI (m + b) := by
      show Q.2.2.2.1 + pTk N f (wS k w) = nI (m + b)
      rw [h, hb, nI_add]
    obtain ⟨m', e1, e2⟩ := ih (mStp N f (wS k w) Q) (m + b) e
    exact ⟨m', e1, by simp only [List.length_cons]; omega⟩
def okW (N : Nat) (f : Nat → Nat → Int32) (k : Nat) (v : Int32) (Q0 : zPs) (p : List Nat) : Prop := ¬ (endW N f k Q0 p).1 k < v
def miW (N : Nat) (f : Nat → Nat → Int32) (k : Nat) (Q0 : zPs) (p : List Nat) : Int32 := (endW N f k Q0 p).2.2.2.1
def tFr (dd : Nat) (I I' : Nat → Nat → Int32) : Prop := (∀ c, c < 27 ∨ (28 ≤ c ∧ c < 4 * dd + 35) ∨ 55 ≤ c → I' c = I c) ∧ (∀ k, k ≠ 5 → I' 27 k = I 27 k)
set_option maxHeartbeats 1000000 in
theorem tFr.refl {dd : Nat} {I : Nat → Nat → Int32} : tFr dd I I := ⟨fun _ _ => rfl, fun _ _ => rfl⟩
set_option maxHeartbeats 1000000 in
theorem tFr.trans {dd : Nat} {A B D : Nat → Nat → Int32} (h : tFr dd A B) (g : tFr dd B D) : tFr dd A D := ⟨fun c hc => (g.1 c hc).trans (h.1 c hc), fun k a => (g.2 k a).trans (h.2 k a)⟩
set_option maxHeartbeats 1000000 in
theorem tFr.up {dd : Nat} {A B : Nat → Nat → Int32} (h : tFr (dd + 1) A B) : tFr dd A B := ⟨fun c hc => h.1 c (by omega), h.2⟩
def tCtx (I0 : Nat → Nat → Int32) (N dd : Nat) (Q : zPs) (I : Nat → Nat → Int32) : Prop := (∀ c, c < 27 → I c = I0 c) ∧ pEq N (zgP (4 * dd + 31) I) Q
set_option maxHeartbeats 1000000 in
theorem tCtx.fr {I0 I I' : Nat → Nat → Int32} {N dd : Nat} {Q : zPs} (h : tCtx I0 N dd Q I) (g : tFr dd I I') : tCtx I0 N dd Q I' := by
  obtain ⟨h1, h3⟩ := h
  obtain ⟨g1, g2⟩ := g
  refine ⟨fun c hc => by rw [g1 c (by omega), h1 c hc], ?_⟩
  have : zgP (4 * dd + 31) I' = zgP (4 * dd + 31) I := by
    simp only [zgP]
    rw [g1 (4 * dd + 31 + 1) (by omega), g1 (4 * dd + 31 + 2) (by omega), g1 (4 * dd + 31 + 3) (by omega), g1 (4 * dd + 31) (by omega)]
  rw [this]
  exact h3
section S
variable {L : Nat} {xs : Nat → Int32}
set_option maxHeartbeats 1000000 in
theorem ts_way {I0 : Nat → Nat → Int32} {J : Nat → Nat → Int64} {N k : Nat} {v : Int32} {Q0 : zPs} (hN : I0 10 2 = nI N) (h6 : N ≤ 6) (hkd : pKd N (cF I0)) (hk : k < N) {t dd d1 : Nat} {Q : zPs} {pre : List Nat} (hd : dd + (t + 1) = 5) (hl : pre.length = dd) (he : endW N (cF I0) k Q0 pre = Q) (ih : ∀ (dd : Nat) (Q : zPs) (pre : List Nat) (I : Nat → Nat → Int32) (S : List Nat → Prop), dd + t = 5 → pre.length = dd → tCtx I0 N dd Q I → endW N (cF I0) k Q0 pre = Q → MN (okW N (cF I0) k v Q0) (miW N (cF I0) k Q0) S (I 27 5) → ∃ I', zE zCd (zGG L xs) d1 47 [.ref 27, .ref 10, .int (nI dd), .int (nI k), .int v] (I, J) = some (none, (I', J)) ∧ tFr dd I I' ∧ MN (okW N (cF I0) k v Q0) (miW N (cF I0) k Q0) (fun q => S q ∨ ext pre t q) (I' 27 5)) {w : Nat} (hw : w < 3) (x0 : Value) (I : Nat → Nat → Int32) (S : List Nat → Prop) (hc : tCtx I0 N dd Q I) (hM : MN (okW N (cF I0) k v Q0) (miW N (cF I0) k Q0) S (I 27 5)) : ∃ I' y, zX zCd (zGG L xs) (d1 + 1) 47 59 [.ref 27, .ref 10, .int (nI dd), .int (nI k), .int v, .ref (4 * dd + 31), .int (nI w), x0] [] (I, J) = zX zCd (zGG L xs) (d1 + 1) 47 59 [.ref 27, .ref 10, .int (nI dd), .int (nI k), .int v, .ref (4 * dd + 31), .int (nI (w + 1)), y] [] (I', J) ∧ tFr dd I I' ∧ MN (okW N (cF I0) k v Q0) (miW N (cF I0) k Q0) (fun q => S q ∨ ext (pre ++ [w]) t q) (I' 27 5) := by
  obtain ⟨k1, k3⟩ := id hc
  have hpg := zPg_af (L := L) (xs := xs) (k := dd) (by omega)
  have hpg1 := zPg_af (L := L) (xs := xs) (k := dd + 1) (by omega)
  rw [show 4 * (dd + 1) + 31 = 4 * dd + 31 + 4 by omega] at hpg1
  have hok : pOk N (wS k w) := wS_ok h6 hk
  have bl := qX3_becomeLike (L := L) (xs := xs) (d := d1 + 1) (J := J) (I := I) hpg1 hpg rfl
  have hlk : pEq N (cLk (4 * dd + 31 + 4) (4 * dd + 31) I) Q := lk_eq h6 k3
  generalize hP : cLk (4 * dd + 31 + 4) (4 * dd + 31) I = P at bl hlk
  have i2o : ∀ c, c < 4 * dd + 31 + 4 ∨ 4 * dd + 31 + 7 < c → zsP (4 * dd + 31 + 4) I P c = I c := fun c h => zsP_ne _ _ _ (by omega)
  have ps := qX3_playStep (L := L) (xs := xs) (d := d1 + 1) (J := J) (I := zsP (4 * dd + 31 + 4) I P) (N := N) (s := wS k w) hpg1 (by rw [i2o 10 (by omega), k1 10 (by decide)]; exact hN) h6 hok
  have e2 : cF (zsP (4 * dd + 31 + 4) I P) = cF I0 := cF_lo (fun c hc => by rw [i2o c (by omega), k1 c hc])
  rw [e2, zgP_s, zsP_s] at ps
  generalize hI3 : zsP (4 * dd + 31 + 4) I (cStp N (cF I0) (wS k w) P) = I3 at ps
  have i3o : ∀ c, c < 4 * dd + 31 + 4 ∨ 4 * dd + 31 + 7 < c → I3 c = I c := fun c h => by rw [← hI3]; exact zsP_ne _ _ _ (by omega)
  have hc3 : tCtx I0 N (dd + 1) (mStp N (cF I0) (wS k w) Q) I3 := by
    refine ⟨fun c hc => by rw [i3o c (by omega), k1 c hc], ?_⟩
    rw [show 4 * (dd + 1) + 31 = 4 * dd + 31 + 4 by omega, ← hI3, zgP_s]
    exact (hlk.stp h6 hok hkd).1
  obtain ⟨I4, z1, z2, z3⟩ := ih (dd + 1) _ (pre ++ [w]) I3 S (by omega) (by simp [hl]) hc3 (by rw [endW_s, he]) (by rw [i3o 27 (by omega)]; exact hM)
  have f3 : tFr dd I I3 := ⟨fun c hc => i3o c (by omega), fun k _ => by rw [i3o 27 (by omega)]⟩
  refine ⟨I4, .int (nI (wS k w)), ?_, f3.trans z2.up, z3⟩
  have el : ((3 : Int32) ≤ nI w) = False := by rw [show ((3 : Int32) ≤ nI w) = (3 ≤ w) from @zle 3 w (by omega) (by omega)]; exact eq_false (by omega)
  have pre0 : zX zCd (zGG L xs) (d1 + 1) 47 59 [.ref 27, .ref 10, .int (nI dd), .int (nI k), .int v, .ref (4 * dd + 31), .int (nI w), x0] [] (I, J) = zX zCd (zGG L xs) (d1 + 1) 47 91 [.ref 27, .ref 10, .int (nI dd), .int (nI k), .int v, .ref (4 * dd + 31), .int (nI w), .int (nI (wS k w))] [] (I, J) := by
    rw [eX5_trySoonest_59]
    rcases (show w = 0 ∨ w = 1 ∨ w = 2 by omega) with rfl | rfl | rfl
    · simp only [eX5_trySoonest_61, eX5_trySoonest_62, eX5_trySoonest_65, eX5_trySoonest_67, eX5_trySoonest_70, eX5_trySoonest_71, eX5_trySoonest_74, eX5_trySoonest_76, eX5_trySoonest_77, eX5_trySoonest_80, eX5_trySoonest_82, eX5_trySoonest_83, eX5_trySoonest_84, eX5_trySoonest_87, eX5_trySoonest_89, el, if_false, show (nI 0 ≠ 0) = False from eq_false (by decide +kernel)]
      rfl
    · simp only [eX5_trySoonest_61, eX5_trySoonest_62, eX5_trySoonest_65, eX5_trySoonest_67, eX5_trySoonest_70, eX5_trySoonest_71, eX5_trySoonest_74, eX5_trySoonest_76, eX5_trySoonest_77, eX5_trySoonest_80, eX5_trySoonest_82, eX5_trySoonest_83, eX5_trySoonest_84, eX5_trySoonest_87, eX5_trySoonest_89, el, if_true, if_false, show (nI 1 ≠ 0) = True from eq_true (by decide +kernel), show (nI 1 ≠ 1) = False from eq_false (by decide +kernel)]
      rw [show (10 : Int32) + nI k = nI (10 + k) from nI_add 10 k]
      rfl
    · simp only [eX5_trySoonest_61, eX5_trySoonest_62, eX5_trySoonest_65, eX5_trySoonest_67, eX5_trySoonest_70, eX5_trySoonest_71, eX5_trySoonest_74, eX5_trySoonest_76, eX5_trySoonest_77, eX5_trySoonest_80, eX5_trySoonest_82, eX5_trySoonest_83, eX5_trySoonest_84, eX5_trySoonest_87, eX5_trySoonest_89, el, if_true, if_false, show (nI 2 ≠ 0) = True from eq_true (by decide +kernel), show (nI 2 ≠ 1) = True from eq_true (by decide +kernel)]
      rfl
  rw [pre0]
  simp only [eX5_trySoonest_91, eX5_trySoonest_92, eX5_trySoonest_95, eX5_trySoonest_96, eX5_trySoonest_97, eX5_trySoonest_98, eX5_trySoonest_99, eX5_trySoonest_101, eX5_trySoonest_104, eX5_trySoonest_105, eX5_trySoonest_108, eX5_trySoonest_109, eX5_trySoonest_110, eX5_trySoonest_111, eX5_trySoonest_112, eX5_trySoonest_113, eX5_trySoonest_115, eX5_trySoonest_118, eX5_trySoonest_119, eX5_trySoonest_120, eX5_trySoonest_121, eX5_trySoonest_122, eX5_trySoonest_123, eX5_trySoonest_124, eX5_trySoonest_125, eX5_trySoonest_127, Option.bind_some, Option.toList_some, Option.toList_none, List.cons_append, List.nil_append, G_o10, G_o27, G_h27_0, G_r27_0, G_q28, G_l28, nI_1, zIn_6 (show dd + 1 < 6 by omega), zc_n (show dd + 1 ≤ 1000 by omega), G_28h (show dd + 1 < 6 by omega), G_28r (show dd + 1 < 6 by omega), show 4 * (dd + 1) + 31 = 4 * dd + 31 + 4 from by omega, hpg1.2.1, bl, ps, z1]
  simp only [eX5_trySoonest_130, eX5_trySoonest_133, nI_1]
set_option maxHeartbeats 1000000 in
theorem ts {I0 : Nat → Nat → Int32} {J : Nat → Nat → Int64} {N k d0 : Nat} {v : Int32} {Q0 : zPs} (hN : I0 10 2 = nI N) (h6 : N ≤ 6) (hkd : pKd N (cF I0)) (hk : k < N) (hq0 : Q0.2.2.2.1 = 0) (hf : 0 ≤ cF I0 k 2 ∧ cF I0 k 2 ≤ 9) : ∀ (t dd : Nat) (Q : zPs) (pre : List Nat) (I : Nat → Nat → Int32) (S : List Nat → Prop), dd + t = 5 → pre.length = dd → tCtx I0 N dd Q I → endW N (cF I0) k Q0 pre = Q → MN (okW N (cF I0) k v Q0) (miW N (cF I0) k Q0) S (I 27 5) → ∃ I', zE zCd (zGG L xs) (d0 + t) 47 [.ref 27, .ref 10, .int (nI dd), .int (nI k), .int v] (I, J) = some (none, (I', J)) ∧ tFr dd I I' ∧ MN (okW N (cF I0) k v Q0) (miW N (cF I0) k Q0) (fun q => S q ∨ ext pre t q) (I' 27 5) := by
  have weigh : ∀ (d dd : Nat) (Q : zPs) (pre : List Nat) (I : Nat → Nat → Int32) (S : List Nat → Prop), dd ≤ 5 → pre.length = dd → tCtx I0 N dd Q I → endW N (cF I0) k Q0 pre = Q → MN (okW N (cF I0) k v Q0) (miW N (cF I0) k Q0) S (I 27 5) → ∃ I', zE zCd (zGG L xs) d 47 [.ref 27, .ref 10, .int (nI dd), .int (nI k), .int v] (I, J) = zX zCd (zGG L xs) d 47 50 [.ref 27, .ref 10, .int (nI dd), .int (nI k), .int v, .ref (4 * dd + 31), .null, .null] [] (I', J) ∧ tFr dd I I' ∧ MN (okW N (cF I0) k v Q0) (miW N (cF I0) k Q0) (fun q => S q ∨ q = pre) (I' 27 5) := by
    intro d dd Q pre I S hd hl hc he hM
    obtain ⟨k1, k3⟩ := id hc
    have hpg := zPg_af (L := L) (xs := xs) (k := dd) (by omega)
    obtain ⟨m, em, hm⟩ := endW_m (N := N) (f := cF I0) (k := k) (by omega) hf pre Q0 0 hq0
    have h9 : miW N (cF I0) k Q0 pre ≠ -9 := by
      unfold miW
      rw [em]
      exact nI_m9 (by omega)
    have es : I (4 * dd + 31 + 1) k = (endW N (cF I0) k Q0 pre).1 k := by rw [he]; exact (k3.1 k hk).1
    have et : I (4 * dd + 31) 3 = miW N (cF I0) k Q0 pre := by unfold miW; rw [he]; exact k3.2.2.1
    have st := hM.step (p := pre) h9
    have pre0 : zE zCd (zGG L xs) d 47 [.ref 27, .ref 10, .int (nI dd), .int (nI k), .int v] (I, J) = if (endW N (cF I0) k Q0 pre).1 k < v then zX zCd (zGG L xs) d 47 50 [.ref 27, .ref 10, .int (nI dd), .int (nI k), .int v, .ref (4 * dd + 31), .null, .null] [] (I, J) else zX zCd (zGG L xs) d 47 20 [.ref 27, .ref 10, .int (nI dd), .int (nI k), .int v, .ref (4 * dd + 31), .null, .null] [] (I, J) := by
      simp only [nX5_trySoonest, eX5_trySoonest_0, eX5_trySoonest_1, eX5_trySoonest_4, eX5_trySoonest_5, eX5_trySoonest_6, eX5_trySoonest_8, eX5_trySoonest_10, eX5_trySoonest_13, eX5_trySoonest_14, eX5_trySoonest_15, eX5_trySoonest_17, Option.bind_some, Option.toList_some, Option.toList_none, List.cons_append, List.nil_append, G_o27, G_h27_0, G_r27_0, G_q28, G_l28, zIn_6 (show dd < 6 by omega), zc_n (show dd ≤ 1000 by omega), G_28h (show dd < 6 by omega), G_28r (show dd < 6 by omega), hpg.2.1, hpg.2.2.1, hpg.2.2.2.2.2.1, zIn_6 (show k < 6 by omega), zc_n (show k ≤ 1000 by omega), es]
    rw [pre0]
    by_cases hv : (endW N (cF I0) k Q0 pre).1 k < v
    · rw [if_pos hv]
      rw [gmn_n (ok := okW N (cF I0) k v Q0 pre) (fun x => absurd hv x.1)] at st
      exact ⟨I, rfl, tFr.refl, st⟩
    · rw [if_neg hv]
      have hvo : okW N (cF I0) k v Q0 pre := hv
      have upd : zX zCd (zGG L xs) d 47 41 [.ref 27, .ref 10, .int (nI dd), .int (nI k), .int v, .ref (4 * dd + 31), .null, .null] [] (I, J) = zX zCd (zGG L xs) d 47 50 [.ref 27, .ref 10, .int (nI dd), .int (nI k), .int v, .ref (4 * dd + 31), .null, .null] [] (zU I 27 5 (miW N (cF I0) k Q0 pre), J) := by
        simp only [eX5_trySoonest_41, eX5_trySoonest_42, eX5_trySoonest_44, eX5_trySoonest_47, G_o27, hpg.2.1, et]
      have fu : tFr dd I (zU I 27 5 (miW N (cF I0) k Q0 pre)) := ⟨fun c hc => zU_ne _ _ _ (by omega), fun k h => zU_k _ _ _ h⟩
      by_cases hl9 : I 27 5 = -9
      · rw [gmn_y ⟨hvo, Or.inl hl9⟩] at st
        refine ⟨zU I 27 5 (miW N (cF I0) k Q0 pre), ?_, fu, by rw [zU_at]; exact st⟩
        rw [← upd]
        simp only [eX5_trySoonest_20, eX5_trySoonest_21, eX5_trySoonest_24, eX5_trySoonest_26, G_o27, hl9, if_true]
      · by_cases hlt : miW N (cF I0) k Q0 pre < I 27 5
        · rw [gmn_y ⟨hvo, Or.inr hlt⟩] at st
          refine ⟨zU I 27 5 (miW N (cF I0) k Q0 pre), ?_, fu, by rw [zU_at]; exact st⟩
          rw [← upd]
          simp only [eX5_trySoonest_20, eX5_trySoonest_21, eX5_trySoonest_24, eX5_trySoonest_26, eX5_trySoonest_29, eX5_trySoonest_31, eX5_trySoonest_34, eX5_trySoonest_35, eX5_trySoonest_38, G_o27, hpg.2.1, et, eq_false hl9, if_false, eq_false (show ¬ I 27 5 ≤ miW N (cF I0) k Q0 pre from by grind)]
        · rw [gmn_n (fun x => by rcases x.2 with y | y; exact hl9 y; exact hlt y)] at st
          refine ⟨I, ?_, tFr.refl, st⟩
          simp only [eX5_trySoonest_20, eX5_trySoonest_21, eX5_trySoonest_24, eX5_trySoonest_26, eX5_trySoonest_29, eX5_trySoonest_31, eX5_trySoonest_34, eX5_trySoonest_35, eX5_trySoonest_38, G_o27, hpg.2.1, et, eq_false hl9, if_false, eq_true (show I 27 5 ≤ miW N (cF I0) k Q0 pre from by grind), if_true]
  intro t
  induction t with
  | zero =>
    intro dd Q pre I S hd hl hc he hM
    obtain ⟨I1, w1, w2, w3⟩ := weigh (d0 + 0) dd Q pre I S (by omega) hl hc he hM
    refine ⟨I1, ?_, w2, w3.congr (fun q => by rw [ext_0])⟩
    rw [w1]
    have el : (nI dd < 5) = False := by rw [show (nI dd < 5) = (dd < 5) from @zlt dd 5 (by omega) (by omega)]; exact eq_false (by omega)
    simp only [eX5_trySoonest_50, eX5_trySoonest_51, eX5_trySoonest_52, eX5_trySoonest_55, el, if_false]
  | succ t ih =>
    intro dd Q pre I S hd hl hc he hM
    obtain ⟨I1, w1, w2, w3⟩ := weigh (d0 + (t + 1)) dd Q pre I S (by omega) hl hc he hM
    have hc1 := hc.fr w2
    obtain ⟨I2, x2, a1, a2, a3⟩ := ts_way (L := L) (xs := xs) (d1 := d0 + t) hN h6 hkd hk hd hl he ih (w := 0) (by decide) .null I1 _ hc1 w3
    have hc2 := hc1.fr a2
    obtain ⟨I3, x3, b1, b2, b3⟩ := ts_way (L := L) (xs := xs) (d1 := d0 + t) hN h6 hkd hk hd hl he ih (w := 1) (by decide) x2 I2 _ hc2 a3
    have hc3 := hc2.fr b2
    obtain ⟨I4, x4, e1, e2, e3⟩ := ts_way (L := L) (xs := xs) (d1 := d0 + t) hN h6 hkd hk hd hl he ih (w := 2) (by decide) x3 I3 _ hc3 b3
    refine ⟨I4, ?_, w2.trans (a2.trans (b2.trans e2)), e3.congr (fun q => ?_)⟩
    · rw [w1, show d0 + (t + 1) = d0 + t + 1 from rfl]
      have el : (nI dd < 5) = True := by rw [show (nI dd < 5) = (dd < 5) from @zlt dd 5 (by omega) (by omega)]; exact eq_true (by omega)
      simp only [eX5_trySoonest_50, eX5_trySoonest_51, eX5_trySoonest_52, eX5_trySoonest_55, eX5_trySoonest_56, eX5_trySoonest_57, el, if_true]
      refine a1.trans (b1.trans (e1.trans ?_))
      rw [eX5_trySoonest_59]
      simp only [eX5_trySoonest_61, eX5_trySoonest_62, eX5_trySoonest_136, show ((3 : Int32) ≤ nI (2 + 1)) = True from eq_true (by decide +kernel), if_true]
    · rw [ext_s]
      constructor
      · rintro ((((h | h) | h) | h) | h)
        · exact Or.inl h
        · exact Or.inr (Or.inl h)
        · exact Or.inr (Or.inr (Or.inl h))
        · exact Or.inr (Or.inr (Or.inr (Or.inl h)))
        · exact Or.inr (Or.inr (Or.inr (Or.inr h)))
      · rintro (h | h | h | h | h)
        · exact Or.inl (Or.inl (Or.inl (Or.inl h)))
        · exact Or.inl (Or.inl (Or.inl (Or.inr h)))
        · exact Or.inl (Or.inl (Or.inr h))
        · exact Or.inl (Or.inr h)
        · exact Or.inr h

end S
