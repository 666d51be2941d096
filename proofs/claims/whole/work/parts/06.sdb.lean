theorem zFs_at {ad : Nat → Nat} {ci k t : Nat} {i : Nat → Int32} {l : Nat → Int64} {r : Nat → Option Nat} (ht : (zTg.getD ci [])[k]? = some t) : (zFs ad ci i l r)[k]? = some (zVl ad t (i k) (l k) (r k)) := by
  simp only [zFs, List.getElem?_mapIdx, ht, Option.map_some]
theorem zFs_len {ad : Nat → Nat} {ci k t : Nat} {i : Nat → Int32} {l : Nat → Int64} {r : Nat → Option Nat} (ht : (zTg.getD ci [])[k]? = some t) : k < (zFs ad ci i l r).length := (List.getElem?_eq_some_iff.mp (zFs_at (ad := ad) (i := i) (l := l) (r := r) ht)).1
theorem zFs_setI {ad : Nat → Nat} {ci k : Nat} {i i' : Nat → Int32} {l : Nat → Int64} {r : Nat → Option Nat} {x : Int32} (ht : (zTg.getD ci [])[k]? = some 0) (hi : i' k = x) (ho : ∀ j, j ≠ k → i' j = i j) : (zFs ad ci i l r).set k (.int x) = zFs ad ci i' l r := by
  refine List.ext_getElem? fun j => ?_
  by_cases hj : j = k
  · subst hj
    rw [List.getElem?_set_self (zFs_len ht), zFs_at ht, hi]
    rfl
  · rw [List.getElem?_set_ne (Ne.symm hj)]
    simp only [zFs, List.getElem?_mapIdx, ho j hj]
theorem zFs_setL {ad : Nat → Nat} {ci k : Nat} {i : Nat → Int32} {l l' : Nat → Int64} {r : Nat → Option Nat} {x : Int64} (ht : (zTg.getD ci [])[k]? = some 1) (hi : l' k = x) (ho : ∀ j, j ≠ k → l' j = l j) : (zFs ad ci i l r).set k (.long x) = zFs ad ci i l' r := by
  refine List.ext_getElem? fun j => ?_
  by_cases hj : j = k
  · subst hj
    rw [List.getElem?_set_self (zFs_len ht), zFs_at ht, hi]
    rfl
  · rw [List.getElem?_set_ne (Ne.symm hj)]
    simp only [zFs, List.getElem?_mapIdx, ho j hj]
theorem zEn_o {g : zG} {ad : Nat → Nat} {ca : Nat → ClassId} {h : zM} {c ci : Nat} (hk : g.2.1 c = .inl ci) : zEn g ad ca h c = .inr (ci, zFs ad ci (h.1 c) (h.2 c) (g.2.2 c)) := by
  unfold zEn; rw [hk]
theorem zEn_i {g : zG} {ad : Nat → Nat} {ca : Nat → ClassId} {h : zM} {c n : Nat} (hk : g.2.1 c = .inr (.inl n)) : zEn g ad ca h c = .inl (ca c, n, .inl (h.1 c)) := by
  unfold zEn; rw [hk]
theorem zEn_r {g : zG} {ad : Nat → Nat} {ca : Nat → ClassId} {h : zM} {c ci n : Nat} (hk : g.2.1 c = .inr (.inr (.inl (ci, n)))) : zEn g ad ca h c = .inl (ca c, n, .inr (.inr (.inr (.inr (fun j => (g.2.2 c j).map ad))))) := by
  unfold zEn; rw [hk]
theorem zU_self (f : Nat → Nat → Int32) (c k : Nat) (v : Int32) : zU f c k v c = upd (f c) k v := by
  funext j
  simp [zU, upd]
theorem zU_ne (f : Nat → Nat → Int32) {c c' : Nat} (k : Nat) (v : Int32) (h : c' ≠ c) : zU f c k v c' = f c' := by
  funext j
  simp [zU, h]
theorem zUL_ne (f : Nat → Nat → Int64) {c c' : Nat} (k : Nat) (v : Int64) (h : c' ≠ c) : zUL f c k v c' = f c' := by
  funext j
  simp [zUL, h]
theorem zUr_self (f : Nat → Nat → Int32) (c : Nat) (r : Nat → Int32) : zUr f c r c = r := by simp [zUr]
theorem zUr_ne (f : Nat → Nat → Int32) {c c' : Nat} (r : Nat → Int32) (h : c' ≠ c) : zUr f c r c' = f c' := by simp [zUr, h]
section SD
variable {own : String} {b : ByteArray} {n : Nat} {ret : Option FieldType} {pc : Nat}
theorem sd_getI {ix ci k N : Nat} {C ref : String} {T : u_T} (hd : decode b pc = .ok (.getfield ix, 3)) (hc : vwCl[ci]? = some (C, T, N)) (hk : k < N) (hin : ∀ w ∈ u_ws C T N, w ∈ zGt) (hl : Cond.fieldLink own ix ref (T k).2.1 (T k).2.2.1 ∈ zGt) (hs : (T k).1 = ref) (ht : (zTg.getD ci [])[k]? = some 0) : zSd own b n ret pc (sGi ci k (pc + 3)) := by
  intro p l e R s mi args below meth c cells slots Q F g ad ca D Cx S hF lv st h o ho
  unfold sGi at ho
  split at ho
  · rename_i c' st'
    split at ho
    · rename_i cj hkj
      split at ho
      · rename_i hcc
        obtain ⟨hlt, rfl⟩ := hcc
        cases ho
        intro kk H locs ls hP hS hL
        exact va_get (D := D) (ci := cj) (C := C) (T := T) (N := N) Cx.1 Cx.2.1 Cx.2.2.2.2.1 hin Cx.2.2.2.1 S.K hP c' ((zWd_at hlt).trans (by rw [zEn_o hkj])) hc k hk (Cx.2.2.2.2.1 _ hl) (fun x hx => by rw [← hs]; exact hx) (zFs_at ht) hd (kk H locs ls hP hS hL)
      · exact absurd ho (by simp)
    · exact absurd ho (by simp)
  · exact absurd ho (by simp)
theorem sd_getL {ix ci k N : Nat} {C ref : String} {T : u_T} (hd : decode b pc = .ok (.getfield ix, 3)) (hc : vwCl[ci]? = some (C, T, N)) (hk : k < N) (hin : ∀ w ∈ u_ws C T N, w ∈ zGt) (hl : Cond.fieldLink own ix ref (T k).2.1 (T k).2.2.1 ∈ zGt) (hs : (T k).1 = ref) (ht : (zTg.getD ci [])[k]? = some 1) : zSd own b n ret pc (sGl ci k (pc + 3)) := by
  intro p l e R s mi args below meth c cells slots Q F g ad ca D Cx S hF lv st h o ho
  unfold sGl at ho
  split at ho
  · rename_i c' st'
    split at ho
    · rename_i cj hkj
      split at ho
      · rename_i hcc
        obtain ⟨hlt, rfl⟩ := hcc
        cases ho
        intro kk H locs ls hP hS hL
        exact va_get (D := D) (ci := cj) (C := C) (T := T) (N := N) Cx.1 Cx.2.1 Cx.2.2.2.2.1 hin Cx.2.2.2.1 S.K hP c' ((zWd_at hlt).trans (by rw [zEn_o hkj])) hc k hk (Cx.2.2.2.2.1 _ hl) (fun x hx => by rw [← hs]; exact hx) (zFs_at ht) hd (kk H locs ls hP hS hL)
      · exact absurd ho (by simp)
    · exact absurd ho (by simp)
  · exact absurd ho (by simp)
theorem sd_getR {ix ci k N : Nat} {C ref : String} {T : u_T} (hd : decode b pc = .ok (.getfield ix, 3)) (hc : vwCl[ci]? = some (C, T, N)) (hk : k < N) (hin : ∀ w ∈ u_ws C T N, w ∈ zGt) (hl : Cond.fieldLink own ix ref (T k).2.1 (T k).2.2.1 ∈ zGt) (hs : (T k).1 = ref) (ht : (zTg.getD ci [])[k]? = some 2) : zSd own b n ret pc (sGr ci k (pc + 3)) := by
  intro p l e R s mi args below meth c cells slots Q F g ad ca D Cx S hF lv st h o ho
  unfold sGr at ho
  split at ho
  · rename_i c' st'
    split at ho
    · rename_i cj hkj
      split at ho
      · rename_i hcc
        obtain ⟨hlt, rfl⟩ := hcc
        split at ho
        · rename_i r hr
          cases ho
          intro kk H locs ls hP hS hL
          exact va_get (D := D) (ci := cj) (C := C) (T := T) (N := N) (v := .ref (ad r)) Cx.1 Cx.2.1 Cx.2.2.2.2.1 hin Cx.2.2.2.1 S.K hP c' ((zWd_at hlt).trans (by rw [zEn_o hkj])) hc k hk (Cx.2.2.2.2.1 _ hl) (fun x hx => by rw [← hs]; exact hx) ((zFs_at ht).trans (by rw [hr]; rfl)) hd (kk H locs ls hP hS hL)
        · exact absurd ho (by simp)
      · exact absurd ho (by simp)
    · exact absurd ho (by simp)
  · exact absurd ho (by simp)
theorem sd_putI {ix ci k N : Nat} {C ref : String} {T : u_T} {ty0 : Nat → FieldType} (hd : decode b pc = .ok (.putfield ix, 3)) (hc : vwCl[ci]? = some (C, T, N)) (hk : k < N) (hin : ∀ w ∈ u_ws C T N, w ∈ zGt) (hl : Cond.fieldLink own ix ref (T k).2.1 (T k).2.2.1 ∈ zGt) (hs : (T k).1 = ref) (ht : (zTg.getD ci [])[k]? = some 0) (hty : ∀ k, k < N → parseFieldDescriptor (T k).2.2.1 = some (ty0 k)) (hnm : ∀ a, a < N → ∀ b, b < N → a ≠ b → (T a).2.1 ≠ (T b).2.1) (hfin : (T k).2.2.2 = false) (hty0 : ty0 k = .int) : zSd own b n ret pc (sPi ci k (pc + 3)) := by
  intro p l e R s mi args below meth c cells slots Q F g ad ca D Cx S hF lv st h o ho
  unfold sPi at ho
  split at ho
  · rename_i x c' st'
    split at ho
    · rename_i cj hkj
      split at ho
      · rename_i hcc
        obtain ⟨hlt, rfl⟩ := hcc
        cases ho
        intro kk H locs ls hP hS hL
        refine va_put (D := D) (ci := cj) (v := .int x) (ty := .int) (C := C) (T := T) (N := N) Cx.1 Cx.2.1 Cx.2.2.2.2.1 hin ty0 hty hnm Cx.2.2.2.1 S.K hP (S.D h) hS c' ((zWd_at hlt).trans (by rw [zEn_o hkj])) hc k hk (Cx.2.2.2.2.1 _ hl) (fun x hx => by rw [← hs]; exact hx) hfin (by rw [hty k hk, hty0]) rfl rfl (zFs_len ht) hd (fun H1 locs1 hP1 _ hS1 => kk H1 locs1 ls ?_ hS1 hL)
        have e1 : (zWd g ad ca h).set c' (ad c', .inr (cj, (zFs ad cj (h.1 c') (h.2 c') (g.2.2 c')).set k (.int x))) = zWd g ad ca (zU h.1 c' k x, h.2) := by
          rw [zFs_setI (i' := zU h.1 c' k x c') ht (by simp [zU]) (fun j hj => by simp [zU, hj])]
          have := zWd_set (g := g) (ad := ad) (ca := ca) (h := h) (h' := (zU h.1 c' k x, h.2)) (c0 := c') (fun c hc => zU_ne _ _ _ hc) (fun c hc => rfl)
          rw [zEn_o hkj] at this
          exact this
        rw [← e1]
        exact hP1
      · exact absurd ho (by simp)
    · exact absurd ho (by simp)
  · exact absurd ho (by simp)
theorem sd_putZ {ix ci k N : Nat} {C ref : String} {T : u_T} {ty0 : Nat → FieldType} (hd : decode b pc = .ok (.putfield ix, 3)) (hc : vwCl[ci]? = some (C, T, N)) (hk : k < N) (hin : ∀ w ∈ u_ws C T N, w ∈ zGt) (hl : Cond.fieldLink own ix ref (T k).2.1 (T k).2.2.1 ∈ zGt) (hs : (T k).1 = ref) (ht : (zTg.getD ci [])[k]? = some 0) (hty : ∀ k, k < N → parseFieldDescriptor (T k).2.2.1 = some (ty0 k)) (hnm : ∀ a, a < N → ∀ b, b < N → a ≠ b → (T a).2.1 ≠ (T b).2.1) (hfin : (T k).2.2.2 = false) (hty0 : ty0 k = .boolean) : zSd own b n ret pc (sPz ci k (pc + 3)) := by
  intro p l e R s mi args below meth c cells slots Q F g ad ca D Cx S hF lv st h o ho
  unfold sPz at ho
  split at ho
  · rename_i x c' st'
    split at ho
    · rename_i cj hkj
      split at ho
      · rename_i hcc
        obtain ⟨⟨hlt, rfl⟩, hx01⟩ := hcc
        cases ho
        intro kk H locs ls hP hS hL
        refine va_put (D := D) (ci := cj) (v := .int x) (ty := .boolean) (C := C) (T := T) (N := N) Cx.1 Cx.2.1 Cx.2.2.2.2.1 hin ty0 hty hnm Cx.2.2.2.1 S.K hP (S.D h) hS c' ((zWd_at hlt).trans (by rw [zEn_o hkj])) hc k hk (Cx.2.2.2.2.1 _ hl) (fun x hx => by rw [← hs]; exact hx) hfin (by rw [hty k hk, hty0]) (by rcases hx01 with rfl | rfl <;> rfl) (by rcases hx01 with rfl | rfl <;> rfl) (zFs_len ht) hd (fun H1 locs1 hP1 _ hS1 => kk H1 locs1 ls ?_ hS1 hL)
        have e1 : (zWd g ad ca h).set c' (ad c', .inr (cj, (zFs ad cj (h.1 c') (h.2 c') (g.2.2 c')).set k (.int x))) = zWd g ad ca (zU h.1 c' k x, h.2) := by
          rw [zFs_setI (i' := zU h.1 c' k x c') ht (by simp [zU]) (fun j hj => by simp [zU, hj])]
          have := zWd_set (g := g) (ad := ad) (ca := ca) (h := h) (h' := (zU h.1 c' k x, h.2)) (c0 := c') (fun c hc => zU_ne _ _ _ hc) (fun c hc => rfl)
          rw [zEn_o hkj] at this
          exact this
        rw [← e1]
        exact hP1
      · exact absurd ho (by simp)
    · exact absurd ho (by simp)
  · exact absurd ho (by simp)
theorem sd_putL {ix ci k N : Nat} {C ref : String} {T : u_T} {ty0 : Nat → FieldType} (hd : decode b pc = .ok (.putfield ix, 3)) (hc : vwCl[ci]? = some (C, T, N)) (hk : k < N) (hin : ∀ w ∈ u_ws C T N, w ∈ zGt) (hl : Cond.fieldLink own ix ref (T k).2.1 (T k).2.2.1 ∈ zGt) (hs : (T k).1 = ref) (ht : (zTg.getD ci [])[k]? = some 1) (hty : ∀ k, k < N → parseFieldDescriptor (T k).2.2.1 = some (ty0 k)) (hnm : ∀ a, a < N → ∀ b, b < N → a ≠ b → (T a).2.1 ≠ (T b).2.1) (hfin : (T k).2.2.2 = false) (hty0 : ty0 k = .long) : zSd own b n ret pc (sPl ci k (pc + 3)) := by
  intro p l e R s mi args below meth c cells slots Q F g ad ca D Cx S hF lv st h o ho
  unfold sPl at ho
  split at ho
  · rename_i x c' st'
    split at ho
    · rename_i cj hkj
      split at ho
      · rename_i hcc
        obtain ⟨hlt, rfl⟩ := hcc
        cases ho
        intro kk H locs ls hP hS hL
        refine va_put (D := D) (ci := cj) (v := .long x) (ty := .long) (C := C) (T := T) (N := N) Cx.1 Cx.2.1 Cx.2.2.2.2.1 hin ty0 hty hnm Cx.2.2.2.1 S.K hP (S.D h) hS c' ((zWd_at hlt).trans (by rw [zEn_o hkj])) hc k hk (Cx.2.2.2.2.1 _ hl) (fun x hx => by rw [← hs]; exact hx) hfin (by rw [hty k hk, hty0]) rfl rfl (zFs_len ht) hd (fun H1 locs1 hP1 _ hS1 => kk H1 locs1 ls ?_ hS1 hL)
        have e1 : (zWd g ad ca h).set c' (ad c', .inr (cj, (zFs ad cj (h.1 c') (h.2 c') (g.2.2 c')).set k (.long x))) = zWd g ad ca (h.1, zUL h.2 c' k x) := by
          rw [zFs_setL (l' := zUL h.2 c' k x c') ht (by simp [zUL]) (fun j hj => by simp [zUL, hj])]
          have := zWd_set (g := g) (ad := ad) (ca := ca) (h := h) (h' := (h.1, zUL h.2 c' k x)) (c0 := c') (fun c hc => rfl) (fun c hc => zUL_ne _ _ _ hc)
          rw [zEn_o hkj] at this
          exact this
        rw [← e1]
        exact hP1
      · exact absurd ho (by simp)
    · exact absurd ho (by simp)
  · exact absurd ho (by simp)
theorem sd_iaload (hd : decode b pc = .ok (.iaload, 1)) : zSd own b n ret pc (sIal (pc + 1)) := by
  intro p l e R s mi args below meth c cells slots Q F g ad ca D Cx S hF lv st h o ho
  unfold sIal at ho
  split at ho
  · rename_i i c' st'
    split at ho
    · rename_i k hkj
      split at ho
      · rename_i hcc
        cases ho
        intro kk H locs ls hP hS hL
        exact va_iald (D := D) Cx.1 Cx.2.1 (S.Ki hcc.1 hkj) hP c' 0 ((zWd_at hcc.1).trans (by rw [zEn_i hkj])) rfl hcc.2 hd (kk H locs ls hP hS hL)
      · exact absurd ho (by simp)
    · rename_i k f hkj
      split at ho
      · rename_i hcc
        cases ho
        intro kk H locs ls hP hS hL
        exact va_ti Cx.1 Cx.2.1 (S.2.2.2.2.2.1 c' k f hkj) hS hcc rfl hd (kk H locs ls hP hS hL)
      · exact absurd ho (by simp)
    · exact absurd ho (by simp)
  · exact absurd ho (by simp)
theorem sd_iastore (hd : decode b pc = .ok (.iastore, 1)) : zSd own b n ret pc (sIas (pc + 1)) := by
  intro p l e R s mi args below meth c cells slots Q F g ad ca D Cx S hF lv st h o ho
  unfold sIas at ho
  split at ho
  · rename_i x i c' st'
    split at ho
    · rename_i k hkj
      split at ho
      · rename_i hcc
        cases ho
        intro kk H locs ls hP hS hL
        refine va_iast (D := D) Cx.1 Cx.2.1 (S.Ki hcc.1 hkj) hP (S.D h) hS c' 0 ((zWd_at hcc.1).trans (by rw [zEn_i hkj])) rfl hcc.2 hd (fun H1 locs1 hP1 _ hS1 => kk H1 locs1 ls ?_ hS1 hL)
        have := zWd_set (g := g) (ad := ad) (ca := ca) (h := h) (h' := (zU h.1 c' i.toNatClampNeg x, h.2)) (c0 := c') (fun c hc => zU_ne _ _ _ hc) (fun c hc => rfl)
        rw [zEn_i hkj] at this
        dsimp only at this
        rw [zU_self] at this
        rw [← this]
        exact hP1
      · exact absurd ho (by simp)
    · exact absurd ho (by simp)
  · exact absurd ho (by simp)
theorem sd_aaload (hd : decode b pc = .ok (.aaload, 1)) : zSd own b n ret pc (sAal (pc + 1)) := by
  intro p l e R s mi args below meth c cells slots Q F g ad ca D Cx S hF lv st h o ho
  unfold sAal at ho
  split at ho
  · rename_i i c' st'
    split at ho
    · rename_i cj k hkj
      split at ho
      · rename_i hcc
        split at ho
        · rename_i r hr
          cases ho
          intro kk H locs ls hP hS hL
          obtain ⟨C, hK⟩ := S.Kr hcc.1 hkj
          refine va_aldq (D := D) (C := C) Cx.1 Cx.2.1 hK hP c' 0 ((zWd_at hcc.1).trans (by rw [zEn_r hkj])) rfl hcc.2 hd ?_
          rw [hr]
          exact kk H locs ls hP hS hL
        · exact absurd ho (by simp)
      · exact absurd ho (by simp)
    · exact absurd ho (by simp)
  · exact absurd ho (by simp)
theorem sd_alen (hd : decode b pc = .ok (.arraylength, 1)) : zSd own b n ret pc (sLen (pc + 1)) := by
  intro p l e R s mi args below meth c cells slots Q F g ad ca D Cx S hF lv st h o ho
  unfold sLen at ho
  split at ho
  · rename_i c' st'
    split at ho
    · rename_i k hkj
      split at ho
      · rename_i hcc
        cases ho
        intro kk H locs ls hP hS hL
        exact va_alen (D := D) (x := (k, .inl (h.1 c'))) Cx.1 Cx.2.1 (S.Ki hcc hkj) hP c' 0 ((zWd_at hcc).trans (by rw [zEn_i hkj])) rfl rfl hd (kk H locs ls hP hS hL)
      · exact absurd ho (by simp)
    · rename_i k f hkj
      cases ho
      intro kk H locs ls hP hS hL
      exact va_tlen Cx.1 Cx.2.1 (S.2.2.2.2.2.1 c' k f hkj) hS rfl hd (kk H locs ls hP hS hL)
    · exact absurd ho (by simp)
  · exact absurd ho (by simp)
end SD
