/-! switches, ends, the library's members, calls -/
def zTb (pc : Nat) : Int → List Int → List (Int32 × Nat) → Bool
  | _, [], [] => true
  | lo, o :: os, (k, t) :: cs => decide (k.toInt = lo) && decide ((pc : Int) + o = (t : Int)) && zTb pc (lo + 1) os cs
  | _, _, _ => false
theorem zTb_ok (pc : Nat) (x : Int32) (d : Nat) : ∀ (os : List Int) (cs : List (Int32 × Nat)) (lo : Int), zTb pc lo os cs = true → ((x.toInt < lo ∨ lo + os.length ≤ x.toInt) → zSw x d cs = d) ∧ (lo ≤ x.toInt → x.toInt < lo + os.length → ∃ off, os[(x.toInt - lo).toNat]? = some off ∧ (pc : Int) + off = (zSw x d cs : Int))
  | [], [], lo, _ => ⟨fun _ => rfl, fun h1 h2 => by simp at h2; omega⟩
  | o :: os, (k, t) :: cs, lo, h => by
    simp only [zTb, Bool.and_eq_true, decide_eq_true_eq] at h
    obtain ⟨⟨h1, h2⟩, h3⟩ := h
    obtain ⟨i1, i2⟩ := zTb_ok pc x d os cs (lo + 1) h3
    refine ⟨fun hx => ?_, fun ha hb => ?_⟩
    · simp only [List.length_cons] at hx
      have hne : ¬ x = k := fun e => by subst e; omega
      simp only [zSw, if_neg hne]
      exact i1 (by omega)
    · simp only [List.length_cons] at hb
      by_cases e : x = k
      · subst e
        refine ⟨o, ?_, ?_⟩
        · rw [show (x.toInt - lo).toNat = 0 by omega]; rfl
        · simp only [zSw, if_true]; exact h2
      · have hne : ¬ x.toInt = lo := fun q => e (Int32.toInt_inj.mp (by rw [h1]; exact q))
        obtain ⟨off, g1, g2⟩ := i2 (by omega) (by omega)
        refine ⟨off, ?_, ?_⟩
        · rw [show (x.toInt - lo).toNat = (x.toInt - (lo + 1)).toNat + 1 by omega, List.getElem?_cons_succ]
          exact g1
        · simp only [zSw, if_neg e]; exact g2
  | [], _ :: _, _, h => by simp [zTb] at h
  | _ :: _, [], _, h => by simp [zTb] at h
def zLk (pc : Nat) : List (Int × Int) → List (Int32 × Nat) → Bool
  | [], [] => true
  | (a, o) :: ps, (k, t) :: cs => decide (k.toInt = a) && decide ((pc : Int) + o = (t : Int)) && zLk pc ps cs
  | _, _ => false
theorem zLk_ok (pc : Nat) (x : Int32) (d : Nat) (df : Int) (hdf : (pc : Int) + df = (d : Int)) : ∀ (ps : List (Int × Int)) (cs : List (Int32 × Nat)), zLk pc ps cs = true → (pc : Int) + Op.lookupswitch.offset ps df x.toInt = (zSw x d cs : Int)
  | [], [], _ => by rw [Op.lookupswitch.offset_nil]; exact hdf
  | (a, o) :: ps, (k, t) :: cs, h => by
    simp only [zLk, Bool.and_eq_true, decide_eq_true_eq] at h
    obtain ⟨⟨h1, h2⟩, h3⟩ := h
    have ih := zLk_ok pc x d df hdf ps cs h3
    rw [Op.lookupswitch.offset_cons]
    by_cases e : x = k
    · subst e
      simp only [zSw, if_true]
      rw [if_pos (by first | exact h1.symm | exact h1)]
      exact h2
    · have hne : ¬ x.toInt = a := lv_neT e h1
      simp only [zSw, if_neg e]
      rw [if_neg (by first | exact hne | exact fun q => hne q.symm)]
      exact ih
  | [], _ :: _, h => by simp [zLk] at h
  | _ :: _, [], h => by simp [zLk] at h
theorem zGood {w : Cond} (h : w ∈ zGt) : (w.onTables && w.keeps) = true ∨ ∃ ty, w = .arrayClass ty := good_of_word (List.mem_filter.mp h).2
theorem zGoodIn {ws : List Cond} (h : ∀ w ∈ ws, w ∈ zGt) : GoodIn zGt ws := fun w hw => ⟨h w hw, zGood (h w hw)⟩
theorem zBlind (g : zG) (ad : Nat → Nat) (ca : Nat → ClassId) (D : va_G) (as : List Value) (h : zM) : FrameBlind (zPc g ad ca D as h) := by
  intro a U gg mk hp
  obtain ⟨h1, h2, h3⟩ := hp
  exact ⟨h1, h2.vm (Vm.Alike.refl U.vm) rfl (fun w hw hz => va_Nw.same (u := U) (U := U.calling gg mk a) (by simp only [zNw, List.mem_cons, List.not_mem_nil, or_false] at hw; rcases hw with rfl | rfl <;> rfl) rfl hz), h3⟩
section SD
variable {own : String} {b : ByteArray} {n : Nat} {ret : Option FieldType} {pc : Nat}
theorem sd_table {df lo hi : Int} {offs : Array Int} {len d : Nat} {cs : List (Int32 × Nat)} (hd : decode b pc = .ok (.tableswitch df lo hi offs, len)) (hdf : (pc : Int) + df = (d : Int)) (hhi : hi = lo + offs.toList.length - 1) (hc : zTb pc lo offs.toList cs = true) : zSd own b n ret pc (sSw cs d) := by
  intro p l e R s mi args below meth c cells slots Q F g ad ca D Cx S hF lv st h o ho
  unfold sSw at ho
  split at ho
  · rename_i x st'
    cases ho
    intro k H locs ls hP hS hL
    obtain ⟨i1, i2⟩ := zTb_ok pc x d offs.toList cs lo hc
    by_cases hx : x.toInt < lo ∨ hi < x.toInt
    · have := k H locs ls hP hS hL
      rw [i1 (by omega)] at this
      exact lv_tableOut Cx.1 Cx.2.1 hd hx hdf this
    · obtain ⟨off, g1, g2⟩ := i2 (by omega) (by omega)
      exact lv_tableIn Cx.1 Cx.2.1 hd (by omega) (by omega) (by rw [← Array.getElem?_toList]; exact g1) g2 (k H locs ls hP hS hL)
  · exact absurd ho (by simp)
theorem sd_lookup {df : Int} {ps : Array (Int × Int)} {len d : Nat} {cs : List (Int32 × Nat)} (hd : decode b pc = .ok (.lookupswitch df ps, len)) (hdf : (pc : Int) + df = (d : Int)) (hp : (ps.toList.zip (ps.toList.drop 1)).all (fun (a, next) => a.1 < next.1) = true) (hc : zLk pc ps.toList cs = true) : zSd own b n ret pc (sSw cs d) := by
  intro p l e R s mi args below meth c cells slots Q F g ad ca D Cx S hF lv st h o ho
  unfold sSw at ho
  split at ho
  · rename_i x st'
    cases ho
    intro k H locs ls hP hS hL
    exact lv_lookup Cx.1 Cx.2.1 hd hp rfl (zLk_ok pc x d df hdf ps.toList cs hc) (k H locs ls hP hS hL)
  · exact absurd ho (by simp)
theorem sd_return (hd : decode b pc = .ok (.return_, 1)) (hr : ret = none) : zSd own b n ret pc sR := by
  intro p l e R s mi args below meth c cells slots Q F g ad ca D Cx S hF lv st h o ho
  unfold sR at ho
  split at ho
  · cases ho
    intro hQ H locs ls hP hS hL
    subst hQ
    exact W.vret Cx.1 Cx.2.1 (by rw [Cx.2.2.2.2.2.1]; exact hr) (fun t ht hW => ⟨rfl, by rw [ht]; exact hP, hS.F ht⟩) hS.2.2 hd Cx.2.2.2.2.2.2.1
  · exact absurd ho (by simp)
theorem sd_ireturn (hd : decode b pc = .ok (.ireturn, 1)) (hr : ret = some .int) : zSd own b n ret pc sRi := by
  intro p l e R s mi args below meth c cells slots Q F g ad ca D Cx S hF lv st h o ho
  unfold sRi at ho
  split at ho
  · cases ho
    intro hQ H locs ls hP hS hL
    subst hQ
    exact W.iret Cx.1 Cx.2.1 (by rw [Cx.2.2.2.2.2.1]; exact hr) (fun t ht hW => ⟨rfl, by rw [ht]; exact hP, hS.F ht⟩) hS.2.2 hd Cx.2.2.2.2.2.2.1
  · exact absurd ho (by simp)
theorem sd_zreturn (hd : decode b pc = .ok (.ireturn, 1)) (hr : ret = some .boolean) : zSd own b n ret pc sRz := by
  intro p l e R s mi args below meth c cells slots Q F g ad ca D Cx S hF lv st h o ho
  unfold sRz at ho
  split at ho
  · split at ho
    · rename_i x hx
      cases ho
      intro hQ H locs ls hP hS hL
      subst hQ
      exact W.zret (ty := .boolean) Cx.1 Cx.2.1 (by rw [Cx.2.2.2.2.2.1]; exact hr) (by rcases hx with rfl | rfl <;> rfl) (fun t ht hW => ⟨rfl, by rw [ht]; exact hP, hS.F ht⟩) hS.2.2 hd Cx.2.2.2.2.2.2.1
    · exact absurd ho (by simp)
  · exact absurd ho (by simp)
theorem sd_lreturn (hd : decode b pc = .ok (.lreturn, 1)) (hr : ret = some .long) : zSd own b n ret pc sRl := by
  intro p l e R s mi args below meth c cells slots Q F g ad ca D Cx S hF lv st h o ho
  unfold sRl at ho
  split at ho
  · cases ho
    intro hQ H locs ls hP hS hL
    subst hQ
    exact W.lret Cx.1 Cx.2.1 (by rw [Cx.2.2.2.2.2.1]; exact hr) (fun t ht hW => ⟨rfl, by rw [ht]; exact hP, hS.F ht⟩) hS.2.2 hd Cx.2.2.2.2.2.2.1
  · exact absurd ho (by simp)
theorem sd_max {ix : Nat} (hd : decode b pc = .ok (.invokestatic ix, 3)) (hl : Cond.methodLink own ix Lib.Math.max.name ∈ zGt) (h1 : Cond.static Lib.Math.max.name ∈ zGt) (h2 : Cond.initialized "java/lang/Math" ∈ zGt) (h3 : Cond.code Lib.Math.max.name Lib.Math.max.code 2 (some .int) ∈ zGt) : zSd own b n ret pc (sMx (pc + 3)) := by
  intro p l e R s mi args below meth c cells slots Q F g ad ca D Cx S hF lv st h o ho
  unfold sMx at ho
  split at ho
  · split at ho
    · rename_i y x st' hx
      cases ho
      intro k H locs ls hP hS hL
      obtain ⟨c1, c2, c3, c4, c5, c6, c7, ⟨c8, c9⟩, c10, c11⟩ := Cx
      exact va_mmax c1 c2 (by rw [c3, hL.1]) c4 (c5 _ hl) (c5 _ h1) (c5 _ h2) (c5 _ h3) (by omega) (by rw [zCv_sum]; omega) c10 c11 hd (k H locs ls hP hS hL)
    · exact absurd ho (by simp)
  · exact absurd ho (by simp)
theorem sd_min {ix : Nat} (hd : decode b pc = .ok (.invokestatic ix, 3)) (hl : Cond.methodLink own ix Lib.Math.min.name ∈ zGt) (h1 : Cond.static Lib.Math.min.name ∈ zGt) (h2 : Cond.initialized "java/lang/Math" ∈ zGt) (h3 : Cond.code Lib.Math.min.name Lib.Math.min.code 2 (some .int) ∈ zGt) : zSd own b n ret pc (sMn (pc + 3)) := by
  intro p l e R s mi args below meth c cells slots Q F g ad ca D Cx S hF lv st h o ho
  unfold sMn at ho
  split at ho
  · split at ho
    · rename_i y x st' hx
      cases ho
      intro k H locs ls hP hS hL
      obtain ⟨c1, c2, c3, c4, c5, c6, c7, ⟨c8, c9⟩, c10, c11⟩ := Cx
      exact va_mmin c1 c2 (by rw [c3, hL.1]) c4 (c5 _ hl) (c5 _ h1) (c5 _ h2) (c5 _ h3) (by omega) (by rw [zCv_sum]; omega) c10 c11 hd (k H locs ls hP hS hL)
    · exact absurd ho (by simp)
  · exact absurd ho (by simp)
theorem sd_copy {ix : Nat} (hd : decode b pc = .ok (.invokestatic ix, 3)) (hl : Cond.methodLink own ix arraycopyName ∈ zGt) (h1 : Cond.native arraycopyName ∈ zGt) (h2 : Cond.static arraycopyName ∈ zGt) (h3 : Cond.initialized "java/lang/System" ∈ zGt) : zSd own b n ret pc (sCp (pc + 3)) := by
  intro p l e R s mi args below meth c cells slots Q F g ad ca D Cx S hF lv st h o ho
  unfold sCp at ho
  split at ho
  · split at ho
    · split at ho
      · rename_i k dp bb sp aa st' _ _ n0 n1 e0 e1 hc
        cases ho
        intro kk H locs ls hP hS hL
        obtain ⟨c1, c2, c3, c4, c5, c6, c7, ⟨c8, c9⟩, c10, c11⟩ := Cx
        obtain ⟨⟨⟨a1, a2⟩, a3⟩, ⟨a4, a5, a6⟩, a7, a8⟩ := hc
        have hw : nativeFrameWords "java/lang/System" "arraycopy" 5 = 7 := by decide
        refine va_copyi (D := D) (ty := .int) c1 c2 (by rw [c3, hL.1]) c4 (c5 _ hl) (c5 _ h1) (c5 _ h2) (c5 _ h3) (S.Kii a1 e0 a2 e1) hP (S.D h) hS aa bb 0 1 ((zWd_at a1).trans (by rw [zEn_i e0])) ((zWd_at a2).trans (by rw [zEn_i e1])) rfl rfl rfl a4 a5 a6 a7 a8 (fun _ _ => rfl) (by omega) (by rw [zCv_sum, hw]; omega) hd (fun H1 locs1 hP1 _ hS1 => kk H1 locs1 ls ?_ hS1 hL)
        have := zWd_set (g := g) (ad := ad) (ca := ca) (h := h) (h' := (zUr h.1 bb (va_cpy (h.1 aa) (h.1 bb) sp.toNatClampNeg dp.toNatClampNeg k.toNatClampNeg), h.2)) (c0 := bb) (fun c hc => zUr_ne _ _ hc) (fun c hc => rfl)
        rw [zEn_i e1] at this
        dsimp only at this
        rw [zUr_self] at this
        rw [← this]
        exact hP1
      · exact absurd ho (by simp)
    · exact absurd ho (by simp)
  · exact absurd ho (by simp)
theorem sd_steps {ix : Nat} (hd : decode b pc = .ok (.getstatic ix, 3)) (hw : Cond.fieldLinkNest own ix "HourRehearsal" "STEPS" "[I" "HourRehearsal" ∈ zNw) : zSd own b n ret pc (sGs zSteps (pc + 3)) := by
  intro p l e R s mi args below meth c cells slots Q F g ad ca D Cx S hF lv st h o ho
  cases ho
  intro k H locs ls hP hS hL
  exact va_getsN Cx.1 Cx.2.1 S.2.2.2.2.2.2 hS Cx.2.2.2.1 (va_Nw.use rfl (S.2.2.2.2.1 _ hw)) (fun _ hx => hx) hd (k H locs ls hP hS hL)
end SD
