/-! one step, as an equation of the run -/
def zOo (g : zG) (c ci : Nat) : Prop := c < g.1 ∧ g.2.1 c = .inl ci
def zOa (g : zG) (c : Nat) : Prop := c < g.1 ∧ ∃ n, g.2.1 c = .inr (.inl n)
def zOr (g : zG) (c : Nat) : Prop := c < g.1 ∧ ∃ ci n, g.2.1 c = .inr (.inr (.inl (ci, n)))
def zOc (g : zG) (c : Nat) : Prop := ∃ n f, g.2.1 c = .inr (.inr (.inr (n, f)))
def zLn (g : zG) (c : Nat) : Nat := match g.2.1 c with
  | .inl _ => 0
  | .inr (.inl n) => n
  | .inr (.inr (.inl (_, n))) => n
  | .inr (.inr (.inr (n, _))) => n
def zCf (g : zG) (c : Nat) : Nat → Int32 := match g.2.1 c with
  | .inr (.inr (.inr (_, f))) => f
  | _ => fun _ => 0
def zRf (g : zG) (c k : Nat) : Nat := (g.2.2 c k).getD 0
def zHr (g : zG) (c k : Nat) : Prop := (g.2.2 c k).isSome = true
/-- an index within, closed -/
def zIv (i : Int32) (n : Nat) : Prop := ¬ (i < 0 ∨ n ≤ i.toNatClampNeg)
/-- an answer of two kinds -/
def zT (x : Int32) : Prop := x = 0 ∨ x = 1
section B
variable {cd : Nat → Nat → zS} {g : zG} {d m pc nx tg : Nat} {lv st : List Value} {h : zM}
theorem zXs {f : zS} (hf : cd m pc = f) : zX cd g d m pc lv st h = zB cd g d m (f g lv st h) := by rw [← hf]; exact zX_eq cd g d m pc lv st h
theorem b_Gi {c ci k : Nat} (hk : zOo g c ci) : zB cd g d m (sGi ci k nx g lv (.ref c :: st) h) = zX cd g d m nx lv (.int (h.1 c k) :: st) h := by
  simp only [sGi, hk.2, hk.1, and_self, if_true, zGo, zB]
theorem b_Gl {c ci k : Nat} (hk : zOo g c ci) : zB cd g d m (sGl ci k nx g lv (.ref c :: st) h) = zX cd g d m nx lv (.long (h.2 c k) :: st) h := by
  simp only [sGl, hk.2, hk.1, and_self, if_true, zGo, zB]
theorem b_Gr {c ci k : Nat} (hk : zOo g c ci) (hr : zHr g c k) : zB cd g d m (sGr ci k nx g lv (.ref c :: st) h) = zX cd g d m nx lv (.ref (zRf g c k) :: st) h := by
  obtain ⟨r, hr⟩ := Option.isSome_iff_exists.mp hr
  simp only [sGr, hk.2, hk.1, and_self, if_true, hr, zGo, zB, zRf, Option.getD_some]
theorem b_Pi {c ci k : Nat} {x : Int32} (hk : zOo g c ci) : zB cd g d m (sPi ci k nx g lv (.int x :: .ref c :: st) h) = zX cd g d m nx lv st (zU h.1 c k x, h.2) := by
  simp only [sPi, hk.2, hk.1, and_self, if_true, zGo, zB]
theorem b_Pz {c ci k : Nat} {x : Int32} (hk : zOo g c ci) (hx : zT x) : zB cd g d m (sPz ci k nx g lv (.int x :: .ref c :: st) h) = zX cd g d m nx lv st (zU h.1 c k x, h.2) := by
  simp only [sPz, hk.2, hk.1, and_self, show (x = 0 ∨ x = 1) from hx, if_true, zGo, zB]
theorem b_Pl {c ci k : Nat} {x : Int64} (hk : zOo g c ci) : zB cd g d m (sPl ci k nx g lv (.long x :: .ref c :: st) h) = zX cd g d m nx lv st (h.1, zUL h.2 c k x) := by
  simp only [sPl, hk.2, hk.1, and_self, if_true, zGo, zB]
theorem b_Ial {c : Nat} {i : Int32} (hk : zOa g c) (hi : zIn i (zLn g c)) : zB cd g d m (sIal nx g lv (.int i :: .ref c :: st) h) = zX cd g d m nx lv (.int (h.1 c i.toNatClampNeg) :: st) h := by
  obtain ⟨h1, n, h2⟩ := hk
  simp only [zLn, h2] at hi
  simp only [sIal, h2]
  rw [if_pos ⟨h1, hi⟩]
  rfl
theorem b_Icl {c : Nat} {i : Int32} (hk : zOc g c) (hi : zIn i (zLn g c)) : zB cd g d m (sIal nx g lv (.int i :: .ref c :: st) h) = zX cd g d m nx lv (.int (zCf g c i.toNatClampNeg) :: st) h := by
  obtain ⟨n, f, h2⟩ := hk
  simp only [zLn, h2] at hi
  simp only [sIal, h2, zCf]
  rw [if_pos hi]
  rfl
theorem b_Ias {c : Nat} {i x : Int32} (hk : zOa g c) (hi : zIn i (zLn g c)) : zB cd g d m (sIas nx g lv (.int x :: .int i :: .ref c :: st) h) = zX cd g d m nx lv st (zU h.1 c i.toNatClampNeg x, h.2) := by
  obtain ⟨h1, n, h2⟩ := hk
  simp only [zLn, h2] at hi
  simp only [sIas, h2]
  rw [if_pos ⟨h1, hi⟩]
  rfl
theorem b_Aal {c : Nat} {i : Int32} (hk : zOr g c) (hi : zIn i (zLn g c)) (hr : zHr g c i.toNatClampNeg) : zB cd g d m (sAal nx g lv (.int i :: .ref c :: st) h) = zX cd g d m nx lv (.ref (zRf g c i.toNatClampNeg) :: st) h := by
  obtain ⟨h1, ci, n, h2⟩ := hk
  obtain ⟨r, hr⟩ := Option.isSome_iff_exists.mp hr
  simp only [zLn, h2] at hi
  simp only [sAal, h2, zRf]
  rw [if_pos ⟨h1, hi⟩]
  simp only [hr, Option.getD_some]
  rfl
theorem b_Len {c : Nat} (hk : zOa g c) : zB cd g d m (sLen nx g lv (.ref c :: st) h) = zX cd g d m nx lv (.int (Int32.ofNat (zLn g c)) :: st) h := by
  obtain ⟨h1, n, h2⟩ := hk
  simp only [sLen, h2, h1, if_true, zLn, zGo, zB]
theorem b_Lec {c : Nat} (hk : zOc g c) : zB cd g d m (sLen nx g lv (.ref c :: st) h) = zX cd g d m nx lv (.int (Int32.ofNat (zLn g c)) :: st) h := by
  obtain ⟨n, f, h2⟩ := hk
  simp only [sLen, h2, zLn, zGo, zB]
theorem b_Dv {f : Int32 → Int32 → Int32} {x y : Int32} (hy : ¬ y = 0) : zB cd g d m (sDv f nx g lv (.int y :: .int x :: st) h) = zX cd g d m nx lv (.int (f x y) :: st) h := by
  simp only [sDv, if_neg hy, zGo, zB]
theorem b_Ld {f : Int64 → Int64 → Int64} {x y : Int64} (hy : ¬ y = 0) : zB cd g d m (sLd f nx g lv (.long y :: .long x :: st) h) = zX cd g d m nx lv (.long (f x y) :: st) h := by
  simp only [sLd, if_neg hy, zGo, zB]
theorem b_C2 {p : Int32 → Int32 → Prop} {dp : ∀ x y, Decidable (p x y)} {x y : Int32} : zB cd g d m (sC2 (fun x y => decide (p x y)) tg nx g lv (.int y :: .int x :: st) h) = if p x y then zX cd g d m tg lv st h else zX cd g d m nx lv st h := by
  simp only [sC2, decide_eq_true_eq]
  split <;> rfl
theorem b_C0 {p : Int32 → Int32 → Prop} {dp : ∀ x y, Decidable (p x y)} {x : Int32} : zB cd g d m (sC0 (fun x y => decide (p x y)) tg nx g lv (.int x :: st) h) = if p x 0 then zX cd g d m tg lv st h else zX cd g d m nx lv st h := by
  simp only [sC0, decide_eq_true_eq]
  split <;> rfl
theorem b_Rz {x : Int32} (hx : zT x) : zB cd g d m (sRz g lv [.int x] h) = some (some (.int x), h) := by
  simp only [sRz, show (x = 0 ∨ x = 1) from hx, if_true, zB]
theorem b_Cp {n dp sp : Int32} {a b : Nat} (h8 : (st.map fun v => v.category).sum ≤ 8) (ha : zOa g a) (hb : zOa g b) (h1 : ¬ sp < 0) (h2 : ¬ dp < 0) (h3 : ¬ n < 0) (h4 : sp.toNatClampNeg + n.toNatClampNeg ≤ zLn g a) (h5 : dp.toNatClampNeg + n.toNatClampNeg ≤ zLn g b) : zB cd g d m (sCp nx g lv (.int n :: .int dp :: .ref b :: .int sp :: .ref a :: st) h) = zX cd g d m nx lv st (zUr h.1 b (va_cpy (h.1 a) (h.1 b) sp.toNatClampNeg dp.toNatClampNeg n.toNatClampNeg), h.2) := by
  obtain ⟨a1, na, a2⟩ := ha
  obtain ⟨b1, nb, b2⟩ := hb
  simp only [zLn, a2] at h4
  simp only [zLn, b2] at h5
  simp only [sCp, a2, b2]
  rw [if_pos ⟨⟨⟨a1, b1⟩, h8⟩, ⟨h1, h2, h3⟩, h4, h5⟩]
  rfl
theorem b_Cs {m' n : Nat} (hl : zLvl m' < zLvl m) (h8 : ((st.drop n).map fun v => v.category).sum ≤ 8) (hn : n ≤ st.length) : zB cd g d m (sCs m' 0 n nx g lv st h) = (zE cd g d m' (st.take n).reverse h).bind (fun q => zX cd g d m nx lv (q.1.toList ++ st.drop n) q.2) := by
  simp only [sCs]
  rw [if_pos ⟨hn, h8⟩]
  simp only [zB, zCl, zDp, if_pos hl]
theorem b_Cv {m' n c ci : Nat} {st' : List Value} (hl : zLvl m' < zLvl m) (hs : st.drop n = .ref c :: st') (h8 : (st'.map fun v => v.category).sum ≤ 8) (hn : n ≤ st.length) (hk : zOo g c ci) : zB cd g d m (sCv m' 0 n ci nx g lv st h) = (zE cd g d m' (.ref c :: (st.take n).reverse) h).bind (fun q => zX cd g d m nx lv (q.1.toList ++ st') q.2) := by
  simp only [sCv, hs, hk.2]
  rw [if_pos ⟨⟨hk.1, trivial⟩, hn, h8⟩]
  simp only [zB, zCl, zDp, if_pos hl]
theorem b_Cr {m' n c ci : Nat} {st' : List Value} (hl : zLvl m' < zLvl m + 16) (hs : st.drop n = .ref c :: st') (h8 : (st'.map fun v => v.category).sum ≤ 8) (hn : n ≤ st.length) (hk : zOo g c ci) : zB cd g (d + 1) m (sCv m' 1 n ci nx g lv st h) = (zE cd g d m' (.ref c :: (st.take n).reverse) h).bind (fun q => zX cd g (d + 1) m nx lv (q.1.toList ++ st') q.2) := by
  simp only [sCv, hs, hk.2]
  rw [if_pos ⟨⟨hk.1, trivial⟩, hn, h8⟩]
  simp only [zB, zCl, zDp, if_pos hl]
end B
