/-! A machine of our own over one fixed world: cells by number, ints and longs by cell and place; references never change -/
abbrev zK : Type := Nat ⊕ (Nat ⊕ ((Nat × Nat) ⊕ (Nat × (Nat → Int32))))
abbrev zM : Type := (Nat → Nat → Int32) × (Nat → Nat → Int64)
/-- how many cells there are, the kind of each, where its references go -/
abbrev zG : Type := Nat × (Nat → zK) × (Nat → Nat → Option Nat)
abbrev zO : Type := (Nat × List Value × List Value × zM) ⊕ ((Option Value × zM) ⊕ (Nat × Nat × List Value × Nat × List Value × List Value × zM))
abbrev zS : Type := zG → List Value → List Value → zM → Option zO
abbrev zRes : Type := Option (Option Value × zM)
/-- an index within -/
abbrev zIn (i : Int32) (n : Nat) : Prop := ¬ (i < 0 ∨ n ≤ i.toNatClampNeg)
def zGo (pc : Nat) (lv st : List Value) (h : zM) : Option zO := some (.inl (pc, lv, st, h))
/-- a place of a cell becomes v -/
def zU (f : Nat → Nat → Int32) (c k : Nat) (v : Int32) : Nat → Nat → Int32 := fun c' k' => if c' = c ∧ k' = k then v else f c' k'
def zUL (f : Nat → Nat → Int64) (c k : Nat) (v : Int64) : Nat → Nat → Int64 := fun c' k' => if c' = c ∧ k' = k then v else f c' k'
/-- a whole row of a cell becomes r -/
def zUr (f : Nat → Nat → Int32) (c : Nat) (r : Nat → Int32) : Nat → Nat → Int32 := fun c' => if c' = c then r else f c'
/-- the local ahead of i isn't a long -/
def zNl (lv : List Value) (i : Nat) : Bool := match i with
  | 0 => true
  | j + 1 => match lv[j]? with
    | some (.long _) => false
    | some (.double _) => false
    | _ => true
def sBad : zS := fun _ _ _ _ => none
def sIl (i nx : Nat) : zS := fun _ lv st h => match lv[i]? with
  | some (.int x) => zGo nx lv (.int x :: st) h
  | _ => none
def sLl (i nx : Nat) : zS := fun _ lv st h => match lv[i]? with
  | some (.long x) => zGo nx lv (.long x :: st) h
  | _ => none
def sAl (i nx : Nat) : zS := fun _ lv st h => match lv[i]? with
  | some (.ref x) => zGo nx lv (.ref x :: st) h
  | _ => none
def sIs (i nx : Nat) : zS := fun _ lv st h => match st with
  | .int x :: st => if i < lv.length ∧ zNl lv i = true then zGo nx (lv.set i (.int x)) st h else none
  | _ => none
def sLs (i nx : Nat) : zS := fun _ lv st h => match st with
  | .long x :: st => if i + 1 < lv.length ∧ zNl lv i = true then zGo nx ((lv.set i (.long x)).set (i + 1) .null) st h else none
  | _ => none
def sAs (i nx : Nat) : zS := fun _ lv st h => match st with
  | .ref x :: st => if i < lv.length ∧ zNl lv i = true then zGo nx (lv.set i (.ref x)) st h else none
  | _ => none
def sIc (v : Int32) (nx : Nat) : zS := fun _ lv st h => zGo nx lv (.int v :: st) h
def sLc (v : Int64) (nx : Nat) : zS := fun _ lv st h => zGo nx lv (.long v :: st) h
def sGi (ci k nx : Nat) : zS := fun g lv st h => match st with
  | .ref c :: st => match g.2.1 c with
    | .inl cj => if c < g.1 ∧ cj = ci then zGo nx lv (.int (h.1 c k) :: st) h else none
    | _ => none
  | _ => none
def sGl (ci k nx : Nat) : zS := fun g lv st h => match st with
  | .ref c :: st => match g.2.1 c with
    | .inl cj => if c < g.1 ∧ cj = ci then zGo nx lv (.long (h.2 c k) :: st) h else none
    | _ => none
  | _ => none
def sGr (ci k nx : Nat) : zS := fun g lv st h => match st with
  | .ref c :: st => match g.2.1 c with
    | .inl cj => if c < g.1 ∧ cj = ci then (match g.2.2 c k with
      | some r => zGo nx lv (.ref r :: st) h
      | none => none) else none
    | _ => none
  | _ => none
def sPi (ci k nx : Nat) : zS := fun g lv st h => match st with
  | .int x :: .ref c :: st => match g.2.1 c with
    | .inl cj => if c < g.1 ∧ cj = ci then zGo nx lv st (zU h.1 c k x, h.2) else none
    | _ => none
  | _ => none
def sPz (ci k nx : Nat) : zS := fun g lv st h => match st with
  | .int x :: .ref c :: st => match g.2.1 c with
    | .inl cj => if (c < g.1 ∧ cj = ci) ∧ (x = 0 ∨ x = 1) then zGo nx lv st (zU h.1 c k x, h.2) else none
    | _ => none
  | _ => none
def sPl (ci k nx : Nat) : zS := fun g lv st h => match st with
  | .long x :: .ref c :: st => match g.2.1 c with
    | .inl cj => if c < g.1 ∧ cj = ci then zGo nx lv st (h.1, zUL h.2 c k x) else none
    | _ => none
  | _ => none
def sIal (nx : Nat) : zS := fun g lv st h => match st with
  | .int i :: .ref c :: st => match g.2.1 c with
    | .inr (.inl n) => if c < g.1 ∧ zIn i n then zGo nx lv (.int (h.1 c i.toNatClampNeg) :: st) h else none
    | .inr (.inr (.inr (n, f))) => if zIn i n then zGo nx lv (.int (f i.toNatClampNeg) :: st) h else none
    | _ => none
  | _ => none
def sIas (nx : Nat) : zS := fun g lv st h => match st with
  | .int x :: .int i :: .ref c :: st => match g.2.1 c with
    | .inr (.inl n) => if c < g.1 ∧ zIn i n then zGo nx lv st (zU h.1 c i.toNatClampNeg x, h.2) else none
    | _ => none
  | _ => none
def sAal (nx : Nat) : zS := fun g lv st h => match st with
  | .int i :: .ref c :: st => match g.2.1 c with
    | .inr (.inr (.inl (_, n))) => if c < g.1 ∧ zIn i n then (match g.2.2 c i.toNatClampNeg with
      | some r => zGo nx lv (.ref r :: st) h
      | none => none) else none
    | _ => none
  | _ => none
def sLen (nx : Nat) : zS := fun g lv st h => match st with
  | .ref c :: st => match g.2.1 c with
    | .inr (.inl n) => if c < g.1 then zGo nx lv (.int (Int32.ofNat n) :: st) h else none
    | .inr (.inr (.inr (n, _))) => zGo nx lv (.int (Int32.ofNat n) :: st) h
    | _ => none
  | _ => none
def sPop (nx : Nat) : zS := fun _ lv st h => match st with
  | v :: st => if v.category = 1 then zGo nx lv st h else none
  | _ => none
def sDup (nx : Nat) : zS := fun _ lv st h => match st with
  | v :: st => if v.category = 1 then zGo nx lv (v :: v :: st) h else none
  | _ => none
def sDup2 (nx : Nat) : zS := fun _ lv st h => match st with
  | v :: w :: st => if v.category = 1 ∧ w.category = 1 then zGo nx lv (v :: w :: v :: w :: st) h else none
  | _ => none
def sI2 (f : Int32 → Int32 → Int32) (nx : Nat) : zS := fun _ lv st h => match st with
  | .int y :: .int x :: st => zGo nx lv (.int (f x y) :: st) h
  | _ => none
def sDv (f : Int32 → Int32 → Int32) (nx : Nat) : zS := fun _ lv st h => match st with
  | .int y :: .int x :: st => if y = 0 then none else zGo nx lv (.int (f x y) :: st) h
  | _ => none
def sL2 (f : Int64 → Int64 → Int64) (nx : Nat) : zS := fun _ lv st h => match st with
  | .long y :: .long x :: st => zGo nx lv (.long (f x y) :: st) h
  | _ => none
def sLd (f : Int64 → Int64 → Int64) (nx : Nat) : zS := fun _ lv st h => match st with
  | .long y :: .long x :: st => if y = 0 then none else zGo nx lv (.long (f x y) :: st) h
  | _ => none
def sCl (nx : Nat) : zS := fun _ lv st h => match st with
  | .long y :: .long x :: st => zGo nx lv (.int (lg_cmp x y) :: st) h
  | _ => none
def sI1 (f : Int32 → Int32) (nx : Nat) : zS := fun _ lv st h => match st with
  | .int x :: st => zGo nx lv (.int (f x) :: st) h
  | _ => none
def sI2l (nx : Nat) : zS := fun _ lv st h => match st with
  | .int x :: st => zGo nx lv (.long x.toInt64 :: st) h
  | _ => none
def sInc (i : Nat) (v : Int32) (nx : Nat) : zS := fun _ lv st h => match lv[i]? with
  | some (.int x) => if zNl lv i = true then zGo nx (lv.set i (.int (x + v))) st h else none
  | _ => none
def sC2 (f : Int32 → Int32 → Bool) (tg nx : Nat) : zS := fun _ lv st h => match st with
  | .int y :: .int x :: st => if f x y = true then zGo tg lv st h else zGo nx lv st h
  | _ => none
def sC0 (f : Int32 → Int32 → Bool) (tg nx : Nat) : zS := fun _ lv st h => match st with
  | .int x :: st => if f x 0 = true then zGo tg lv st h else zGo nx lv st h
  | _ => none
def sJ (tg : Nat) : zS := fun _ lv st h => zGo tg lv st h
def zSw (x : Int32) (d : Nat) : List (Int32 × Nat) → Nat
  | [] => d
  | (k, t) :: r => if x = k then t else zSw x d r
def sSw (cs : List (Int32 × Nat)) (d : Nat) : zS := fun _ lv st h => match st with
  | .int x :: st => zGo (zSw x d cs) lv st h
  | _ => none
def sMx (nx : Nat) : zS := fun _ lv st h => match st with
  | .int y :: .int x :: st => if (st.map fun v => v.category).sum ≤ 8 then zGo nx lv (.int (if x < y then y else x) :: st) h else none
  | _ => none
def sMn (nx : Nat) : zS := fun _ lv st h => match st with
  | .int y :: .int x :: st => if (st.map fun v => v.category).sum ≤ 8 then zGo nx lv (.int (if y < x then y else x) :: st) h else none
  | _ => none
def sCp (nx : Nat) : zS := fun g lv st h => match st with
  | .int n :: .int dp :: .ref b :: .int sp :: .ref a :: st => match g.2.1 a, g.2.1 b with
    | .inr (.inl n0), .inr (.inl n1) => if ((a < g.1 ∧ b < g.1) ∧ (st.map fun v => v.category).sum ≤ 8) ∧ ((¬ sp < 0 ∧ ¬ dp < 0 ∧ ¬ n < 0) ∧ sp.toNatClampNeg + n.toNatClampNeg ≤ n0 ∧ dp.toNatClampNeg + n.toNatClampNeg ≤ n1) then
        zGo nx lv st (zUr h.1 b (va_cpy (h.1 a) (h.1 b) sp.toNatClampNeg dp.toNatClampNeg n.toNatClampNeg), h.2) else none
    | _, _ => none
  | _ => none
def sGs (c nx : Nat) : zS := fun _ lv st h => zGo nx lv (.ref c :: st) h
def sR : zS := fun _ _ st h => match st with
  | [] => some (.inr (.inl (none, h)))
  | _ => none
def sRi : zS := fun _ _ st h => match st with
  | [.int x] => some (.inr (.inl (some (.int x), h)))
  | _ => none
def sRz : zS := fun _ _ st h => match st with
  | [.int x] => if x = 0 ∨ x = 1 then some (.inr (.inl (some (.int x), h))) else none
  | _ => none
def sRl : zS := fun _ _ st h => match st with
  | [.long x] => some (.inr (.inl (some (.long x), h)))
  | _ => none
/-- a call of a static method m of n arguments; r: how much of the depth it takes -/
def sCs (m r n nx : Nat) : zS := fun _ lv st h => if n ≤ st.length ∧ ((st.drop n).map fun v => v.category).sum ≤ 8 then some (.inr (.inr (m, r, (st.take n).reverse, nx, lv, st.drop n, h))) else none
/-- a call of a method m of an object of the kind ci; n arguments beside the object -/
def sCv (m r n ci nx : Nat) : zS := fun g lv st h => match st.drop n with
  | .ref c :: st' => match g.2.1 c with
    | .inl cj => if (c < g.1 ∧ cj = ci) ∧ (n ≤ st.length ∧ (st'.map fun v => v.category).sum ≤ 8) then some (.inr (.inr (m, r, .ref c :: (st.take n).reverse, nx, lv, st', h))) else none
    | _ => none
  | _ => none
/-! the run: a fuel n, a depth d for what calls itself -/
def zLvl (m : Nat) : Nat := zLv.getD m 0
def zMx (m : Nat) : Nat := match zMi[m]? with
  | some q => q.2.2.1
  | none => 0
/-- the places of the arguments: a long has two -/
def zFl : List Value → List Value
  | [] => []
  | .long x :: vs => .long x :: .null :: zFl vs
  | .int x :: vs => .int x :: zFl vs
  | .ref x :: vs => .ref x :: zFl vs
  | _ :: vs => .null :: zFl vs
def zOkA : List Value → Bool
  | [] => true
  | .long _ :: vs => zOkA vs
  | .int _ :: vs => zOkA vs
  | .ref _ :: vs => zOkA vs
  | _ :: _ => false
/-- the locals at a method's entry -/
def zEnt (m : Nat) (as : List Value) : Option (List Value) := if zOkA as = true ∧ (zFl as).length ≤ zMx m then some (zFl as ++ List.replicate (zMx m - (zFl as).length) .null) else none
/-- the depth that a call leaves -/
def zDp (d m m' r : Nat) : Option Nat := match r with
  | 0 => if zLvl m' < zLvl m then some d else none
  | _ => match d with
    | 0 => none
    | d' + 1 => if zLvl m' < zLvl m + 16 then some d' else none
def zRun (cd : Nat → Nat → zS) (g : zG) : Nat → Nat → Nat → Nat → List Value → List Value → zM → zRes
  | 0, _, _, _, _, _, _ => none
  | n + 1, d, m, pc, lv, st, h => match cd m pc g lv st h with
    | none => none
    | some (.inl (pc', lv', st', h')) => zRun cd g n d m pc' lv' st' h'
    | some (.inr (.inl r)) => some r
    | some (.inr (.inr (m', r, as, pc', lv', st', h'))) =>
      match zDp d m m' r with
      | none => none
      | some d' => match zEnt m' as with
        | none => none
        | some lv0 => match zRun cd g n d' m' 0 lv0 [] h' with
          | none => none
          | some q => zRun cd g n d m pc' lv' (q.1.toList ++ st') q.2
theorem zRun_mono (cd : Nat → Nat → zS) (g : zG) : ∀ (n d m pc : Nat) (lv st : List Value) (h : zM) (r : Option Value × zM), zRun cd g n d m pc lv st h = some r → zRun cd g (n + 1) d m pc lv st h = some r := by
  intro n
  induction n with
  | zero => intro d m pc lv st h r hr; simp [zRun] at hr
  | succ n ih =>
    intro d m pc lv st h r hr
    rw [zRun] at hr ⊢
    split at hr
    · exact absurd hr (by simp)
    · exact ih _ _ _ _ _ _ _ hr
    · exact hr
    · split at hr
      · exact absurd hr (by simp)
      · split at hr
        · exact absurd hr (by simp)
        · split at hr
          · exact absurd hr (by simp)
          · rename_i e2
            rw [ih _ _ _ _ _ _ _ e2]
            exact ih _ _ _ _ _ _ _ hr
theorem zRun_le (cd : Nat → Nat → zS) (g : zG) {n k d m pc : Nat} {lv st : List Value} {h : zM} {r : Option Value × zM} (hr : zRun cd g n d m pc lv st h = some r) (hk : n ≤ k) : zRun cd g k d m pc lv st h = some r := by
  induction hk with
  | refl => exact hr
  | step _ ih => exact zRun_mono cd g _ _ _ _ _ _ _ _ ih
theorem zRun_det (cd : Nat → Nat → zS) (g : zG) {n k d m pc : Nat} {lv st : List Value} {h : zM} {r q : Option Value × zM} (hr : zRun cd g n d m pc lv st h = some r) (hq : zRun cd g k d m pc lv st h = some q) : r = q := by
  have h1 := zRun_le cd g hr (Nat.le_max_left n k)
  have h2 := zRun_le cd g hq (Nat.le_max_right n k)
  exact Option.some.inj (h1.symm.trans h2)
/-- what the run comes to, whatever the fuel -/
noncomputable def zX (cd : Nat → Nat → zS) (g : zG) (d m pc : Nat) (lv st : List Value) (h : zM) : zRes :=
  @dite _ (∃ r : Option Value × zM, ∃ n, zRun cd g n d m pc lv st h = some r) (Classical.propDecidable _) (fun hh => some hh.choose) (fun _ => none)
theorem zX_some (cd : Nat → Nat → zS) (g : zG) {d m pc : Nat} {lv st : List Value} {h : zM} {r : Option Value × zM} : zX cd g d m pc lv st h = some r ↔ ∃ n, zRun cd g n d m pc lv st h = some r := by
  constructor
  · intro hr
    unfold zX at hr
    split at hr
    · rename_i hh
      have h1 := hh.choose_spec
      rw [Option.some.inj hr] at h1
      exact h1
    · exact absurd hr (by simp)
  · intro hr
    unfold zX
    have hh : ∃ r : Option Value × zM, ∃ n, zRun cd g n d m pc lv st h = some r := ⟨r, hr⟩
    rw [dif_pos hh]
    obtain ⟨n, hn⟩ := hr
    obtain ⟨k, hk⟩ := hh.choose_spec
    rw [zRun_det cd g hn hk]
/-- a method, called -/
noncomputable def zE (cd : Nat → Nat → zS) (g : zG) (d m : Nat) (as : List Value) (h : zM) : zRes := match zEnt m as with
  | none => none
  | some lv0 => zX cd g d m 0 lv0 [] h
noncomputable def zCl (cd : Nat → Nat → zS) (g : zG) (d m m' r : Nat) (as : List Value) (h : zM) : zRes := match zDp d m m' r with
  | none => none
  | some d' => zE cd g d' m' as h
/-- what follows a step -/
noncomputable def zB (cd : Nat → Nat → zS) (g : zG) (d m : Nat) : Option zO → zRes
  | none => none
  | some (.inl (pc', lv', st', h')) => zX cd g d m pc' lv' st' h'
  | some (.inr (.inl r)) => some r
  | some (.inr (.inr (m', r, as, pc', lv', st', h'))) => (zCl cd g d m m' r as h').bind (fun q => zX cd g d m pc' lv' (q.1.toList ++ st') q.2)
theorem zX_eq (cd : Nat → Nat → zS) (g : zG) (d m pc : Nat) (lv st : List Value) (h : zM) : zX cd g d m pc lv st h = zB cd g d m (cd m pc g lv st h) := by
  refine Option.ext fun r => ?_
  rw [zX_some]
  generalize e : cd m pc g lv st h = q
  constructor
  · rintro ⟨n, hn⟩
    cases n with
    | zero => simp [zRun] at hn
    | succ n =>
      rw [zRun, e] at hn
      match q with
      | none => simp at hn
      | some (.inl (pc', lv', st', h')) => exact (zX_some cd g).mpr ⟨n, hn⟩
      | some (.inr (.inl r')) => exact hn
      | some (.inr (.inr (m', r', as, pc', lv', st', h'))) =>
        dsimp only at hn
        simp only [zB, zCl, zE]
        split at hn
        · exact absurd hn (by simp)
        · split at hn
          · exact absurd hn (by simp)
          · split at hn
            · exact absurd hn (by simp)
            · rename_i q2 e2
              rw [(zX_some cd g).mpr ⟨n, e2⟩]
              exact (zX_some cd g).mpr ⟨n, hn⟩
  · intro hr
    match q with
    | none => simp [zB] at hr
    | some (.inl (pc', lv', st', h')) =>
      obtain ⟨n, hn⟩ := (zX_some cd g).mp hr
      exact ⟨n + 1, by rw [zRun, e]; exact hn⟩
    | some (.inr (.inl r')) => exact ⟨1, by rw [zRun, e]; exact hr⟩
    | some (.inr (.inr (m', r', as, pc', lv', st', h'))) =>
      simp only [zB] at hr
      obtain ⟨q2, hq, hr⟩ := Option.bind_eq_some_iff.mp hr
      simp only [zCl, zE] at hq
      split at hq
      · exact absurd hq (by simp)
      · rename_i ed
        split at hq
        · exact absurd hq (by simp)
        · rename_i el
          obtain ⟨n, hn⟩ := (zX_some cd g).mp hq
          obtain ⟨k, hk⟩ := (zX_some cd g).mp hr
          refine ⟨max n k + 1, ?_⟩
          rw [zRun, e]
          dsimp only
          rw [ed]
          dsimp only
          rw [el]
          dsimp only
          rw [zRun_le cd g hn (Nat.le_max_left n k)]
          exact zRun_le cd g hk (Nat.le_max_right n k)
