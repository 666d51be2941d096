/-! what holds of the machine while a method of ours runs -/
def zCx (own : String) (b : ByteArray) (n : Nat) (ret : Option FieldType) (F : Nat) (p : Program) (R : Room) (s : State) (mi : MethodId) (args : Array Value) (meth : Method) (c : Code) (cells slots : Nat) : Prop :=
  p.tables.exec = Jvm.exec ∧ c.code = b ∧ c.maxLocals = n ∧ s.vm.findClass own = some mi.cls ∧ (∀ w ∈ zGt, w.before args s = true) ∧ meth.sig.returnType = ret ∧ meth.locks = false ∧ (F ≤ R.frames ∧ 40 * F ≤ R.locals) ∧ (cells ≤ R.cells ∧ slots ≤ R.slots)
/-- from here on, with these numbers, the machine comes to Q -/
def zAt (n : Nat) (g : zG) (ad : Nat → Nat) (ca : Nat → ClassId) (D : va_G) (p : Program) (l : Launch) (e : Env) (R : Room) (s : State) (mi : MethodId) (args : Array Value) (below : List Frame) (meth : Method) (c : Code) (cells slots : Nat) (Q : State → Prop) (pc : Nat) (lv st : List Value) (h : zM) : Prop :=
  ∀ (H : Heap) (locs : List Loc) (ls : Array Slot), va_P D vwCl (zWd g ad ca h) H → va_S (zAa g ad) s.heap H locs → zLR ad ls n lv → W p l e R s mi args below meth c H locs cells slots Q (F0 mi pc ls (st.map (zCv ad)))
def zPc (g : zG) (ad : Nat → Nat) (ca : Nat → ClassId) (D : va_G) (as : List Value) (h : zM) : Array Value → State → Prop := fun v U => v = (as.map (zCv ad)).toArray ∧ zSt g ad ca D U ∧ va_P D vwCl (zWd g ad ca h) U.heap
def zQc (g : zG) (ad : Nat → Nat) (ca : Nat → ClassId) (D : va_G) (v : Option Value) (h : zM) : Array Value → State → Outcome → State → Prop := fun _ st oc t => oc = .returned (v.map (zCv ad)) ∧ va_P D vwCl (zWd g ad ca h) t.heap ∧ va_F (zAa g ad) st t
def zRm (F : Nat) : Room := { frames := F, cells := 0, slots := 0, locals := 40 * F }
/-- the method m, called with as and h, answers v and leaves h' -/
def zMet (l : Launch) (g : zG) (ad : Nat → Nat) (ca : Nat → ClassId) (D : va_G) (m F : Nat) (as : List Value) (h : zM) (v : Option Value) (h' : zM) : Prop :=
  ∀ (y : MethodName) (b : ByteArray) (n : Nat) (ret : Option FieldType), zMi[m]? = some (y, b, n, ret) → Met l y (.code y b n ret :: zGt) (zRm F) (zPc g ad ca D as h) (zQc g ad ca D v h') 0 0 (zAa g ad)
def zSd (own : String) (b : ByteArray) (n : Nat) (ret : Option FieldType) (pc : Nat) (f : zS) : Prop :=
  ∀ (p : Program) (l : Launch) (e : Env) (R : Room) (s : State) (mi : MethodId) (args : Array Value) (below : List Frame) (meth : Method) (c : Code) (cells slots : Nat) (Q : State → Prop) (F : Nat) (g : zG) (ad : Nat → Nat) (ca : Nat → ClassId) (D : va_G),
    zCx own b n ret F p R s mi args meth c cells slots → zSt g ad ca D s → 1 ≤ F → ∀ (lv st : List Value) (h : zM) (o : zO), f g lv st h = some o → match o with
    | .inl (pc', lv', st', h') => zAt n g ad ca D p l e R s mi args below meth c cells slots Q pc' lv' st' h' → zAt n g ad ca D p l e R s mi args below meth c cells slots Q pc lv st h
    | .inr (.inl (v, h')) => Q = MQ below (zQc g ad ca D v h') args s cells slots (zAa g ad) → zAt n g ad ca D p l e R s mi args below meth c cells slots Q pc lv st h
    | .inr (.inr (m', _, as, pc', lv', st', h1)) => h1 = h ∧ ∀ (v : Option Value) (h' : zM) (F' : Nat), F' < F → zMet l g ad ca D m' F' as h v h' → zAt n g ad ca D p l e R s mi args below meth c cells slots Q pc' lv' (v.toList ++ st') h' → zAt n g ad ca D p l e R s mi args below meth c cells slots Q pc lv st h
theorem sd_bad {own : String} {b : ByteArray} {n : Nat} {ret : Option FieldType} {pc : Nat} : zSd own b n ret pc sBad := by
  intro p l e R s mi args below meth c cells slots Q F g ad ca D C S hF lv st h o ho
  exact absurd ho (by simp [sBad])
section SD
variable {own : String} {b : ByteArray} {n : Nat} {ret : Option FieldType} {pc : Nat}
theorem sd_iload {i : Nat} (hd : decode b pc = .ok (.iload i, 2)) : zSd own b n ret pc (sIl i (pc + 2)) := by
  intro p l e R s mi args below meth c cells slots Q F g ad ca D C S hF lv st h o ho
  unfold sIl at ho
  split at ho
  · rename_i x hx
    cases ho
    intro k H locs ls hP hS hL
    exact lv_iload C.1 C.2.1 hd (hL.get hx (by simp)) (k H locs ls hP hS hL)
  · exact absurd ho (by simp)
theorem sd_iload_n {k : Fin 4} {i : Nat} (hd : decode b pc = .ok (.iload_n k, 1)) (hi : (k : Nat) = i) : zSd own b n ret pc (sIl i (pc + 1)) := by
  intro p l e R s mi args below meth c cells slots Q F g ad ca D C S hF lv st h o ho
  unfold sIl at ho
  split at ho
  · rename_i x hx
    cases ho
    intro k H locs ls hP hS hL
    exact lv_iload_n C.1 C.2.1 hd hi (hL.get hx (by simp)) (k H locs ls hP hS hL)
  · exact absurd ho (by simp)
theorem sd_lload {i : Nat} (hd : decode b pc = .ok (.lload i, 2)) : zSd own b n ret pc (sLl i (pc + 2)) := by
  intro p l e R s mi args below meth c cells slots Q F g ad ca D C S hF lv st h o ho
  unfold sLl at ho
  split at ho
  · rename_i x hx
    cases ho
    intro k H locs ls hP hS hL
    exact lv_lload C.1 C.2.1 hd (hL.get hx (by simp)) (k H locs ls hP hS hL)
  · exact absurd ho (by simp)
theorem sd_lload_n {k : Fin 4} {i : Nat} (hd : decode b pc = .ok (.lload_n k, 1)) (hi : (k : Nat) = i) : zSd own b n ret pc (sLl i (pc + 1)) := by
  intro p l e R s mi args below meth c cells slots Q F g ad ca D C S hF lv st h o ho
  unfold sLl at ho
  split at ho
  · rename_i x hx
    cases ho
    intro k H locs ls hP hS hL
    exact lv_lload_n C.1 C.2.1 hd hi (hL.get hx (by simp)) (k H locs ls hP hS hL)
  · exact absurd ho (by simp)
theorem sd_aload {i : Nat} (hd : decode b pc = .ok (.aload i, 2)) : zSd own b n ret pc (sAl i (pc + 2)) := by
  intro p l e R s mi args below meth c cells slots Q F g ad ca D C S hF lv st h o ho
  unfold sAl at ho
  split at ho
  · rename_i x hx
    cases ho
    intro k H locs ls hP hS hL
    exact lv_aload C.1 C.2.1 hd (hL.get hx (by simp)) (k H locs ls hP hS hL)
  · exact absurd ho (by simp)
theorem sd_aload_n {k : Fin 4} {i : Nat} (hd : decode b pc = .ok (.aload_n k, 1)) (hi : (k : Nat) = i) : zSd own b n ret pc (sAl i (pc + 1)) := by
  intro p l e R s mi args below meth c cells slots Q F g ad ca D C S hF lv st h o ho
  unfold sAl at ho
  split at ho
  · rename_i x hx
    cases ho
    intro k H locs ls hP hS hL
    exact lv_aload_n C.1 C.2.1 hd hi (hL.get hx (by simp)) (k H locs ls hP hS hL)
  · exact absurd ho (by simp)
theorem sd_istore {i : Nat} (hd : decode b pc = .ok (.istore i, 2)) : zSd own b n ret pc (sIs i (pc + 2)) := by
  intro p l e R s mi args below meth c cells slots Q F g ad ca D C S hF lv st h o ho
  unfold sIs at ho
  split at ho
  · split at ho
    · rename_i x st' hc
      cases ho
      intro k H locs ls hP hS hL
      exact lv_istore C.1 C.2.1 hd hL.has (by rw [← hL.2.2.1]; exact hc.1) rfl (fun ls' h' => k H locs ls' hP hS (hL.put1 hc.2 h'))
    · exact absurd ho (by simp)
  · exact absurd ho (by simp)
theorem sd_istore_n {k : Fin 4} {i : Nat} (hd : decode b pc = .ok (.istore_n k, 1)) (hi : (k : Nat) = i) : zSd own b n ret pc (sIs i (pc + 1)) := by
  intro p l e R s mi args below meth c cells slots Q F g ad ca D C S hF lv st h o ho
  unfold sIs at ho
  split at ho
  · split at ho
    · rename_i x st' hc
      cases ho
      intro k H locs ls hP hS hL
      exact lv_istore_n C.1 C.2.1 hd hi hL.has (by rw [← hL.2.2.1]; exact hc.1) rfl (fun ls' h' => k H locs ls' hP hS (hL.put1 hc.2 h'))
    · exact absurd ho (by simp)
  · exact absurd ho (by simp)
theorem sd_lstore {i : Nat} (hd : decode b pc = .ok (.lstore i, 2)) : zSd own b n ret pc (sLs i (pc + 2)) := by
  intro p l e R s mi args below meth c cells slots Q F g ad ca D C S hF lv st h o ho
  unfold sLs at ho
  split at ho
  · split at ho
    · rename_i x st' hc
      cases ho
      intro k H locs ls hP hS hL
      exact lv_lstore C.1 C.2.1 hd hL.has (by rw [← hL.2.2.1]; exact hc.1) rfl (fun ls' h' => k H locs ls' hP hS (hL.put2 hc.2 h'))
    · exact absurd ho (by simp)
  · exact absurd ho (by simp)
theorem sd_lstore_n {k : Fin 4} {i : Nat} (hd : decode b pc = .ok (.lstore_n k, 1)) (hi : (k : Nat) = i) : zSd own b n ret pc (sLs i (pc + 1)) := by
  intro p l e R s mi args below meth c cells slots Q F g ad ca D C S hF lv st h o ho
  unfold sLs at ho
  split at ho
  · split at ho
    · rename_i x st' hc
      cases ho
      intro k H locs ls hP hS hL
      exact lv_lstore_n C.1 C.2.1 hd hi hL.has (by rw [← hL.2.2.1]; exact hc.1) rfl (fun ls' h' => k H locs ls' hP hS (hL.put2 hc.2 h'))
    · exact absurd ho (by simp)
  · exact absurd ho (by simp)
theorem sd_astore {i : Nat} (hd : decode b pc = .ok (.astore i, 2)) : zSd own b n ret pc (sAs i (pc + 2)) := by
  intro p l e R s mi args below meth c cells slots Q F g ad ca D C S hF lv st h o ho
  unfold sAs at ho
  split at ho
  · split at ho
    · rename_i x st' hc
      cases ho
      intro k H locs ls hP hS hL
      exact lv_astore C.1 C.2.1 hd hL.has (by rw [← hL.2.2.1]; exact hc.1) rfl (fun ls' h' => k H locs ls' hP hS (hL.put1 (v := .ref x) hc.2 h'))
    · exact absurd ho (by simp)
  · exact absurd ho (by simp)
theorem sd_astore_n {k : Fin 4} {i : Nat} (hd : decode b pc = .ok (.astore_n k, 1)) (hi : (k : Nat) = i) : zSd own b n ret pc (sAs i (pc + 1)) := by
  intro p l e R s mi args below meth c cells slots Q F g ad ca D C S hF lv st h o ho
  unfold sAs at ho
  split at ho
  · split at ho
    · rename_i x st' hc
      cases ho
      intro k H locs ls hP hS hL
      exact lv_astore_n C.1 C.2.1 hd hi hL.has (by rw [← hL.2.2.1]; exact hc.1) rfl (fun ls' h' => k H locs ls' hP hS (hL.put1 (v := .ref x) hc.2 h'))
    · exact absurd ho (by simp)
  · exact absurd ho (by simp)
theorem sd_iconst {i : Int} {v : Int32} (hd : decode b pc = .ok (.iconst i, 1)) (hv : Int32.ofInt i = v) : zSd own b n ret pc (sIc v (pc + 1)) := by
  intro p l e R s mi args below meth c cells slots Q F g ad ca D C S hF lv st h o ho
  cases ho
  intro k H locs ls hP hS hL
  exact lv_iconst C.1 C.2.1 hd hv (k H locs ls hP hS hL)
theorem sd_bipush {i : Int} {v : Int32} (hd : decode b pc = .ok (.bipush i, 2)) (hv : (Int8.ofInt i).toInt32 = v) : zSd own b n ret pc (sIc v (pc + 2)) := by
  intro p l e R s mi args below meth c cells slots Q F g ad ca D C S hF lv st h o ho
  cases ho
  intro k H locs ls hP hS hL
  exact lv_bipush C.1 C.2.1 hd hv (k H locs ls hP hS hL)
theorem sd_sipush {i : Int} {v : Int32} (hd : decode b pc = .ok (.sipush i, 3)) (hv : (Int16.ofInt i).toInt32 = v) : zSd own b n ret pc (sIc v (pc + 3)) := by
  intro p l e R s mi args below meth c cells slots Q F g ad ca D C S hF lv st h o ho
  cases ho
  intro k H locs ls hP hS hL
  exact lv_sipush C.1 C.2.1 hd hv (k H locs ls hP hS hL)
theorem sd_lconst {i : Fin 2} {v : Int64} (hd : decode b pc = .ok (.lconst i, 1)) (hv : Int64.ofNat (i : Nat) = v) : zSd own b n ret pc (sLc v (pc + 1)) := by
  intro p l e R s mi args below meth c cells slots Q F g ad ca D C S hF lv st h o ho
  cases ho
  intro k H locs ls hP hS hL
  exact lv_lconst C.1 C.2.1 hd hv (k H locs ls hP hS hL)
theorem sd_ldc2 {ix : Nat} {v : Int64} (hd : decode b pc = .ok (.ldc2_w ix, 3)) (hw : Cond.constantLong own ix v ∈ zGt) : zSd own b n ret pc (sLc v (pc + 3)) := by
  intro p l e R s mi args below meth c cells slots Q F g ad ca D C S hF lv st h o ho
  cases ho
  intro k H locs ls hP hS hL
  exact lv_ldc2 C.1 C.2.1 C.2.2.2.1 (C.2.2.2.2.1 _ hw) hd (k H locs ls hP hS hL)
end SD
