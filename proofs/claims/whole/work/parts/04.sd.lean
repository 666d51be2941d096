/-! The world that the numbers speak of, and what a step of ours says of the machine -/
def zCv (ad : Nat → Nat) : Value → Value
  | .ref c => .ref (ad c)
  | v => v
def zVl (ad : Nat → Nat) (t : Nat) (i : Int32) (l : Int64) (r : Option Nat) : Value := match t with
  | 0 => .int i
  | 1 => .long l
  | _ => va_rf (r.map ad)
def zFs (ad : Nat → Nat) (ci : Nat) (i : Nat → Int32) (l : Nat → Int64) (r : Nat → Option Nat) : List Value := (zTg.getD ci []).mapIdx (fun k t => zVl ad t (i k) (l k) (r k))
def zEn (g : zG) (ad : Nat → Nat) (ca : Nat → ClassId) (h : zM) (c : Nat) : va_E := match g.2.1 c with
  | .inl ci => .inr (ci, zFs ad ci (h.1 c) (h.2 c) (g.2.2 c))
  | .inr (.inl n) => .inl (ca c, n, .inl (h.1 c))
  | .inr (.inr (.inl (_, n))) => .inl (ca c, n, .inr (.inr (.inr (.inr (fun j => (g.2.2 c j).map ad)))))
  | .inr (.inr (.inr (n, f))) => .inl (ca c, n, .inl f)
def zWd (g : zG) (ad : Nat → Nat) (ca : Nat → ClassId) (h : zM) : va_W := (List.range g.1).map (fun c => (ad c, zEn g ad ca h c))
theorem zWd_at {g : zG} {ad : Nat → Nat} {ca : Nat → ClassId} {h : zM} {c : Nat} (hc : c < g.1) : (zWd g ad ca h)[c]? = some (ad c, zEn g ad ca h c) := by
  simp [zWd, hc]
theorem zWd_of {g : zG} {ad : Nat → Nat} {ca : Nat → ClassId} {h : zM} {k : Nat} {q : Nat × va_E} (hk : (zWd g ad ca h)[k]? = some q) : k < g.1 ∧ q = (ad k, zEn g ad ca h k) := by
  by_cases hc : k < g.1
  · rw [zWd_at hc] at hk
    exact ⟨hc, (Option.some.inj hk).symm⟩
  · simp [zWd, hc] at hk
theorem zWd_set {g : zG} {ad : Nat → Nat} {ca : Nat → ClassId} {h h' : zM} {c0 : Nat} (h1 : ∀ c, c ≠ c0 → h'.1 c = h.1 c) (h2 : ∀ c, c ≠ c0 → h'.2 c = h.2 c) : (zWd g ad ca h).set c0 (ad c0, zEn g ad ca h' c0) = zWd g ad ca h' := by
  refine List.ext_getElem? fun k => ?_
  by_cases hk : k = c0
  · subst hk
    by_cases hc : k < g.1
    · rw [List.getElem?_set_self (by simpa [zWd] using hc), zWd_at hc]
    · rw [List.getElem?_set]
      simp [zWd, hc]
  · rw [List.getElem?_set_ne (Ne.symm hk)]
    by_cases hc : k < g.1
    · rw [zWd_at hc, zWd_at hc]
      unfold zEn
      rw [h1 k hk, h2 k hk]
    · simp [zWd, hc]
def zAa (g : zG) (ad : Nat → Nat) : Nat → Prop := fun q => ∃ c, c < g.1 ∧ q = ad c
/-- the number of the static row, of the law's script -/
abbrev zSteps : Nat := 100
abbrev zScript : Nat := 101
def zSt (g : zG) (ad : Nat → Nat) (ca : Nat → ClassId) (D : va_G) (s : State) : Prop :=
  (∀ i j, i < g.1 → j < g.1 → ad i = ad j → i = j) ∧
  (∀ (ci : Nat) (q : vw_C), vwCl[ci]? = some q → u_Kn s q.1 q.2.1 q.2.2 (D.1 ci) (D.2 ci)) ∧
  (∀ c, c < g.1 → ∀ n, g.2.1 c = .inr (.inl n) → ArrOfT s (ca c) .int ∧ va_RA s (ca c) .int) ∧
  (∀ c, c < g.1 → ∀ ci n, g.2.1 c = .inr (.inr (.inl (ci, n))) → ∃ C : String, ArrOfT s (ca c) (.object C) ∧ va_RA s (ca c) (.object C)) ∧
  (∀ w ∈ zNw, va_Nw w s) ∧
  (∀ c n f, g.2.1 c = .inr (.inr (.inr (n, f))) → va_T .int (ad c) n (fun j => .int (f j)) (zAa g ad) s s.heap) ∧
  va_Z "HourRehearsal" "STEPS" "[I" (.ref (ad zSteps)) (zAa g ad) s s.heap
theorem zSt.moved {g : zG} {ad : Nat → Nat} {ca : Nat → ClassId} {D : va_G} {s U : State} {H : Heap} {locs : List Loc} (h : zSt g ad ca D s) (hW : s.WarmedH U.vm) (hU : U.heap = H) (hS : va_S (zAa g ad) s.heap H locs) : zSt g ad ca D U := by
  obtain ⟨h1, h2, h3, h4, h5, h6, h7⟩ := h
  have hvm := hW.alike
  refine ⟨h1, fun ci q hq => u_Kn_moved hvm (h2 ci q hq), fun c hc n hn => ⟨arrOfT_moved hvm (h3 c hc n hn).1, (h3 c hc n hn).2.moved hvm⟩, fun c hc ci n hn => ?_, fun w hw => ?_, fun c n f hf => ?_, ?_⟩
  · obtain ⟨C, a, b⟩ := h4 c hc ci n hn
    exact ⟨C, arrOfT_moved hvm a, b.moved hvm⟩
  · have hz := h5 w hw
    simp only [zNw, List.mem_cons, List.not_mem_nil, or_false] at hw
    rcases hw with rfl | rfl
    · exact va_Nw.warmM hW hz
    · exact va_Nw.warmF hW hz
  · rw [hU]
    exact ((h6 c n f hf).kept hS.2.1).moved hvm
  · rw [hU]
    exact (h7.kept hS.2.1).moved hvm
theorem zSt.vm {g : zG} {ad : Nat → Nat} {ca : Nat → ClassId} {D : va_G} {s U : State} (h : zSt g ad ca D s) (hv : s.vm.Alike U.vm) (hh : U.heap = s.heap) (hn : ∀ w ∈ zNw, va_Nw w s → va_Nw w U) : zSt g ad ca D U := by
  obtain ⟨h1, h2, h3, h4, h5, h6, h7⟩ := h
  refine ⟨h1, fun ci q hq => u_Kn_moved hv (h2 ci q hq), fun c hc n hn => ⟨arrOfT_moved hv (h3 c hc n hn).1, (h3 c hc n hn).2.moved hv⟩, fun c hc ci n hn => ?_, fun w hw => hn w hw (h5 w hw), fun c n f hf => ?_, ?_⟩
  · obtain ⟨C, a, b⟩ := h4 c hc ci n hn
    exact ⟨C, arrOfT_moved hv a, b.moved hv⟩
  · rw [hh]
    exact (h6 c n f hf).moved hv
  · rw [hh]
    exact h7.moved hv
theorem zSt.D {g : zG} {ad : Nat → Nat} {ca : Nat → ClassId} {D : va_G} {s : State} (h : zSt g ad ca D s) (m : zM) : va_D (zAa g ad) (zWd g ad ca m) := by
  refine ⟨fun i j p q hi hj e => ?_, fun k q hk => ?_⟩
  · obtain ⟨h1, rfl⟩ := zWd_of hi
    obtain ⟨h2, rfl⟩ := zWd_of hj
    exact h.1 i j h1 h2 e
  · obtain ⟨h1, rfl⟩ := zWd_of hk
    exact ⟨k, h1, rfl⟩
theorem zSt.K {g : zG} {ad : Nat → Nat} {ca : Nat → ClassId} {D : va_G} {s : State} (h : zSt g ad ca D s) : va_K D vwCl [] s := ⟨h.2.1, fun k q hk => by simp at hk⟩
theorem zSt.Ki {g : zG} {ad : Nat → Nat} {ca : Nat → ClassId} {D : va_G} {s : State} (h : zSt g ad ca D s) {c n : Nat} (hc : c < g.1) (hn : g.2.1 c = .inr (.inl n)) : va_K D vwCl [(ca c, .int)] s := ⟨h.2.1, fun k q hk => by
  have hz : k < 1 := (List.getElem?_eq_some_iff.mp hk).1
  rw [show k = 0 by omega] at hk
  cases hk
  exact h.2.2.1 c hc n hn⟩
theorem zSt.Kii {g : zG} {ad : Nat → Nat} {ca : Nat → ClassId} {D : va_G} {s : State} (h : zSt g ad ca D s) {c n c' n' : Nat} (hc : c < g.1) (hn : g.2.1 c = .inr (.inl n)) (hc' : c' < g.1) (hn' : g.2.1 c' = .inr (.inl n')) : va_K D vwCl [(ca c, .int), (ca c', .int)] s := (h.Ki hc hn).app (h.Ki hc' hn')
theorem zSt.Kr {g : zG} {ad : Nat → Nat} {ca : Nat → ClassId} {D : va_G} {s : State} (h : zSt g ad ca D s) {c ci n : Nat} (hc : c < g.1) (hn : g.2.1 c = .inr (.inr (.inl (ci, n)))) : ∃ C : String, va_K D vwCl [(ca c, .object C)] s := by
  obtain ⟨C, a, b⟩ := h.2.2.2.1 c hc ci n hn
  refine ⟨C, h.2.1, fun k q hk => ?_⟩
  have hz : k < 1 := (List.getElem?_eq_some_iff.mp hk).1
  rw [show k = 0 by omega] at hk
  cases hk
  exact ⟨a, b⟩
/-- the machine's locals are ours -/
def zLR (ad : Nat → Nat) (ls : Array Slot) (n : Nat) (lv : List Value) : Prop := ls.size = n ∧ lv_wf ls ∧ lv.length = n ∧ ∀ (i : Nat) (v : Value), lv[i]? = some v → v ≠ .null → ls[i]? = some (.val (zCv ad v))
theorem zCv_cat (ad : Nat → Nat) (v : Value) : (zCv ad v).category = v.category := by cases v <;> rfl
theorem zCv_sum (ad : Nat → Nat) (st : List Value) : ((st.map (zCv ad)).map fun v => v.category).sum = (st.map fun v => v.category).sum := by
  rw [List.map_map]
  congr 1
  exact List.map_congr_left fun v _ => zCv_cat ad v
/-- the list that the kit's rows of locals want -/
def zPr (ad : Nat → Nat) (lv : List Value) : List (Nat × Value) := (List.range lv.length).filterMap (fun i : Nat => match (lv[i]? : Option Value) with
  | some Value.null => none
  | some v => some (i, zCv ad v)
  | none => none)
theorem zPr_mem {ad : Nat → Nat} {lv : List Value} {q : Nat × Value} : q ∈ zPr ad lv ↔ ∃ v, lv[q.1]? = some v ∧ v ≠ .null ∧ q.2 = zCv ad v := by
  unfold zPr
  rw [List.mem_filterMap]
  constructor
  · rintro ⟨i, hi, h⟩
    cases hv : lv[i]? with
    | none => rw [hv] at h; exact absurd h (by simp)
    | some v =>
      rw [hv] at h
      cases v <;> simp at h <;> (subst h; exact ⟨_, hv, by simp, rfl⟩)
  · rintro ⟨v, hv, hn, he⟩
    refine ⟨q.1, List.mem_range.mpr (List.getElem?_eq_some_iff.mp hv).1, ?_⟩
    rw [hv]
    obtain ⟨a, b⟩ := q
    dsimp only at he
    subst he
    cases v <;> first | rfl | exact absurd rfl hn
theorem zLR.has {ad : Nat → Nat} {ls : Array Slot} {n : Nat} {lv : List Value} (h : zLR ad ls n lv) : lv_has ls n (zPr ad lv) := ⟨h.1, h.2.1, fun q hq => by
  obtain ⟨v, h1, h2, h3⟩ := zPr_mem.mp hq
  rw [h3]
  exact h.2.2.2 q.1 v h1 h2⟩
theorem zLR.get {ad : Nat → Nat} {ls : Array Slot} {n : Nat} {lv : List Value} (h : zLR ad ls n lv) {i : Nat} {v : Value} (hv : lv[i]? = some v) (hn : v ≠ .null) : ls[i]? = some (.val (zCv ad v)) := h.2.2.2 i v hv hn
theorem zNl_no {lv : List Value} {i j : Nat} (h : zNl lv i = true) (hj : j + 1 = i) {v : Value} (hv : lv[j]? = some v) : v.category ≠ 2 := by
  subst hj
  simp only [zNl, hv] at h
  cases v <;> simp_all [Value.category]
/-- behind a store of one place -/
theorem zLR.put1 {ad : Nat → Nat} {ls ls' : Array Slot} {n i : Nat} {lv : List Value} {v : Value} (h : zLR ad ls n lv) (hl : zNl lv i = true) (h' : lv_has ls' n ((i, zCv ad v) :: (zPr ad lv).filter (fun q => !(q.1 == i) && !(q.1 + 1 == i && q.2.category == 2)))) : zLR ad ls' n (lv.set i v) := by
  refine ⟨h'.1, h'.2.1, by rw [List.length_set]; exact h.2.2.1, fun j w hw hn => ?_⟩
  by_cases hj : j = i
  · subst hj
    have hlt : j < lv.length := by
      have := (List.getElem?_eq_some_iff.mp hw).1
      rwa [List.length_set] at this
    rw [List.getElem?_set_self hlt] at hw
    cases hw
    exact h'.2.2 (j, zCv ad v) List.mem_cons_self
  · rw [List.getElem?_set_ne (Ne.symm hj)] at hw
    refine h'.2.2 (j, zCv ad w) (List.mem_cons_of_mem _ (List.mem_filter.mpr ⟨zPr_mem.mpr ⟨w, hw, hn, rfl⟩, ?_⟩))
    have h2 : j + 1 = i → w.category ≠ 2 := fun e => zNl_no hl e hw
    simp only [zCv_cat]
    by_cases e : j + 1 = i
    · simp [hj, e, h2 e]
    · simp [hj, e]
theorem zLR.put2 {ad : Nat → Nat} {ls ls' : Array Slot} {n i : Nat} {lv : List Value} {v : Value} (h : zLR ad ls n lv) (hl : zNl lv i = true) (h' : lv_has ls' n ((i, zCv ad v) :: (zPr ad lv).filter (fun q => !(q.1 == i) && (!(q.1 == i + 1) && !(q.1 + 1 == i && q.2.category == 2))))) : zLR ad ls' n ((lv.set i v).set (i + 1) .null) := by
  refine ⟨h'.1, h'.2.1, by rw [List.length_set, List.length_set]; exact h.2.2.1, fun j w hw hn => ?_⟩
  by_cases hj1 : j = i + 1
  · subst hj1
    have hlt : i + 1 < lv.length := by
      have := (List.getElem?_eq_some_iff.mp hw).1
      rwa [List.length_set, List.length_set] at this
    rw [List.getElem?_set_self (by rw [List.length_set]; exact hlt)] at hw
    cases hw
    exact absurd rfl hn
  · rw [List.getElem?_set_ne (Ne.symm hj1)] at hw
    by_cases hj : j = i
    · subst hj
      have hlt : j < lv.length := by
        have := (List.getElem?_eq_some_iff.mp hw).1
        rwa [List.length_set] at this
      rw [List.getElem?_set_self hlt] at hw
      cases hw
      exact h'.2.2 (j, zCv ad v) List.mem_cons_self
    · rw [List.getElem?_set_ne (Ne.symm hj)] at hw
      refine h'.2.2 (j, zCv ad w) (List.mem_cons_of_mem _ (List.mem_filter.mpr ⟨zPr_mem.mpr ⟨w, hw, hn, rfl⟩, ?_⟩))
      have h2 : j + 1 = i → w.category ≠ 2 := fun e => zNl_no hl e hw
      simp only [zCv_cat]
      by_cases e : j + 1 = i
      · simp [hj, hj1, e, h2 e]
      · simp [hj, hj1, e]
