theorem zOpt (f : Value → Value) (v : Option Value) (st : List Value) : (v.map f).toList ++ st.map f = (v.toList ++ st).map f := by cases v <;> simp
/-- behind a call -/
theorem zBack {p : Program} {l : Launch} {e : Env} {R : Room} {s : State} {mi : MethodId} {args : Array Value} {below : List Frame} {meth : Method} {c : Code} {H : Heap} {locs : List Loc} {cells slots : Nat} {Q : State → Prop} {g : zG} {ad : Nat → Nat} {ca : Nat → ClassId} {D : va_G} {n pc : Nat} {ls : Array Slot} {st0 : List Value} {lv st' : List Value} {v : Option Value} {h' : zM} {a : Array Value}
    (hr : va_Run p l e R s mi args below meth c H locs cells slots 0 0 (F0 mi pc ls st0) (st'.map (zCv ad)) (zQc g ad ca D v h' a) (zAa g ad)) (hS : va_S (zAa g ad) s.heap H locs) (hL : zLR ad ls n lv)
    (k : zAt n g ad ca D p l e R s mi args below meth c cells slots Q (pc + 3) lv (v.toList ++ st') h') : W p l e R s mi args below meth c H locs cells slots Q (F0 mi pc ls st0) := by
  intro T hT X
  obtain ⟨v0, st₀, t, T', L, h0, X', hLf, e1, e2, ⟨hv, hP', hz, hk⟩, go⟩ := hr T hT X
  cases hv
  rw [h0] at hz hk
  rw [← e1] at hP' hz hk
  obtain ⟨t2, a1, b1⟩ := k T'.heap (locs ++ L) ls hP' ⟨Nat.le_trans hS.1 hz, fun q h1 h2 => (hk q (Nat.lt_of_lt_of_le h1 hS.1) h2).trans (hS.2.1 q h1 h2), fun q hq => (List.mem_append.mp hq).elim (hS.2.2 q) (hLf q)⟩ hL T' rfl X'
  refine ⟨t2, go t2 ?_, b1⟩
  rw [← zOpt] at a1
  exact a1
section SD
variable {own : String} {b : ByteArray} {n : Nat} {ret : Option FieldType} {pc : Nat}
theorem sd_cs {ix m' r k n' : Nat} {y : MethodName} {b' : ByteArray} {ret' : Option FieldType} (hd : decode b pc = .ok (.invokestatic ix, 3)) (hm : zMi[m']? = some (y, b', n', ret')) (hl : Cond.methodLink own ix y ∈ zGt) (h1 : Cond.static y ∈ zGt) (h2 : Cond.initialized y.cls ∈ zGt) (h3 : Cond.code y b' n' ret' ∈ zGt) (hy : y.cls ≠ "java/lang/invoke/MethodHandle" ∧ y.cls ≠ "java/lang/invoke/VarHandle" ∧ (parseMethodDescriptor y.desc).map (fun d => d.parameters.length) = some k) (hn : n' ≤ 21) : zSd own b n ret pc (sCs m' r k (pc + 3)) := by
  intro p l e R s mi args below meth c cells slots Q F g ad ca D Cx S hF lv st h o ho
  unfold sCs at ho
  split at ho
  · rename_i hc
    cases ho
    refine ⟨rfl, fun v h' F' hF' hM kk H locs ls hP hS hL => ?_⟩
    obtain ⟨c1, c2, c3, c4, c5, c6, c7, ⟨c8, c9⟩, c10, c11⟩ := Cx
    have hG : GoodIn zGt (va_wsS own ix y (.code y b' n' ret' :: zGt)) := zGoodIn (fun w hw => by
      simp only [va_wsS, List.cons_append, List.nil_append, List.mem_cons] at hw
      rcases hw with rfl | rfl | rfl | rfl | hw
      · exact hl
      · exact h1
      · exact h2
      · exact h3
      · exact hw)
    refine zBack (st' := st.drop k) (va_runS (g := F0 mi pc ls (st.map (zCv ad))) (As := ((st.take k).reverse).map (zCv ad)) ⟨c1, c2, c3, c4, c5⟩ (hM y b' n' ret' hm) (va_cwS k c5 hG rfl rfl rfl hy ⟨?_, ?_⟩) ⟨zBlind g ad ca D _ h, fun U hU hW => ⟨rfl, S.moved hW hU hS, by rw [hU]; exact hP⟩⟩ rfl ?_ hL.1 ?_ ?_ hd ⟨c10, c11⟩) hS hL kk
    · show F' + 1 ≤ R.frames
      omega
    · show 8 + (n' + 11) + 40 * F' ≤ R.locals
      omega
    · rw [List.length_map, List.length_reverse, List.length_take]
      omega
    · show st.map (zCv ad) = _
      rw [List.map_reverse, List.reverse_reverse, ← List.map_append, List.take_append_drop]
    · show 2 * 0 + _ ≤ 8
      rw [zCv_sum]
      omega
  · exact absurd ho (by simp)
theorem sd_csn {ix m' r k n' : Nat} {host : String} {y : MethodName} {b' : ByteArray} {ret' : Option FieldType} (hd : decode b pc = .ok (.invokestatic ix, 3)) (hm : zMi[m']? = some (y, b', n', ret')) (hl : Cond.methodLinkNest own ix y host ∈ zNw) (h1 : Cond.static y ∈ zGt) (h2 : Cond.initialized y.cls ∈ zGt) (h3 : Cond.code y b' n' ret' ∈ zGt) (hy : y.cls ≠ "java/lang/invoke/MethodHandle" ∧ y.cls ≠ "java/lang/invoke/VarHandle" ∧ (parseMethodDescriptor y.desc).map (fun d => d.parameters.length) = some k) (hn : n' ≤ 21) : zSd own b n ret pc (sCs m' r k (pc + 3)) := by
  intro p l e R s mi args below meth c cells slots Q F g ad ca D Cx S hF lv st h o ho
  unfold sCs at ho
  split at ho
  · rename_i hc
    cases ho
    refine ⟨rfl, fun v h' F' hF' hM kk H locs ls hP hS hL => ?_⟩
    obtain ⟨c1, c2, c3, c4, c5, c6, c7, ⟨c8, c9⟩, c10, c11⟩ := Cx
    have hG : GoodIn zGt (.code y b' n' ret' :: zGt) := zGoodIn (fun w hw => by
      rcases List.mem_cons.mp hw with rfl | hw
      · exact h3
      · exact hw)
    refine zBack (st' := st.drop k) (va_runSN (g := F0 mi pc ls (st.map (zCv ad))) (As := ((st.take k).reverse).map (zCv ad)) ⟨c1, c2, c3, c4, c5⟩ (hM y b' n' ret' hm) ⟨va_cnB k c5 hG rfl rfl rfl (S.2.2.2.2.1 _ hl) (c5 _ h2) hy ⟨?_, ?_⟩, c5 _ h1, trivial⟩ ⟨zBlind g ad ca D _ h, fun U hU hW => ⟨rfl, S.moved hW hU hS, by rw [hU]; exact hP⟩⟩ rfl ?_ hL.1 ?_ ?_ hd ⟨c10, c11⟩) hS hL kk
    · show F' + 1 ≤ R.frames
      omega
    · show 8 + (n' + 11) + 40 * F' ≤ R.locals
      omega
    · rw [List.length_map, List.length_reverse, List.length_take]
      omega
    · show st.map (zCv ad) = _
      rw [List.map_reverse, List.reverse_reverse, ← List.map_append, List.take_append_drop]
    · show 2 * 0 + _ ≤ 8
      rw [zCv_sum]
      omega
  · exact absurd ho (by simp)
theorem sd_cv {ix m' r k n' ci N : Nat} {C : String} {T : u_T} {y : MethodName} {b' : ByteArray} {ret' : Option FieldType} (hd : decode b pc = .ok (.invokevirtual ix, 3)) (hm : zMi[m']? = some (y, b', n', ret')) (hcl : vwCl[ci]? = some (C, T, N)) (hl : Cond.methodLink own ix y ∈ zGt) (h1 : Cond.instanceMethod y ∈ zGt) (h4 : Cond.selects C y y ∈ zGt) (h2 : Cond.initialized C ∈ zGt) (h3 : Cond.code y b' n' ret' ∈ zGt) (hy : y.cls = C ∧ y.cls ≠ "java/lang/invoke/MethodHandle" ∧ y.cls ≠ "java/lang/invoke/VarHandle" ∧ (parseMethodDescriptor y.desc).map (fun d => d.parameters.length) = some k) (hn : n' ≤ 21) : zSd own b n ret pc (sCv m' r k ci (pc + 3)) := by
  intro p l e R s mi args below meth c cells slots Q F g ad ca D Cx S hF lv st h o ho
  unfold sCv at ho
  split at ho
  · rename_i c' st' hst
    split at ho
    · rename_i cj hkj
      split at ho
      · rename_i hc
        obtain ⟨⟨hlt, rfl⟩, hc⟩ := hc
        cases ho
        refine ⟨rfl, fun v h' F' hF' hM kk H locs ls hP hS hL => ?_⟩
        obtain ⟨c1, c2, c3, c4, c5, c6, c7, ⟨c8, c9⟩, c10, c11⟩ := Cx
        have hG : GoodIn zGt (wsV own ix C y (.code y b' n' ret' :: zGt)) := zGoodIn (fun w hw => by
          simp only [wsV, List.cons_append, List.nil_append, List.mem_cons] at hw
          rcases hw with rfl | rfl | rfl | rfl | rfl | hw
          · exact hl
          · exact h1
          · exact h4
          · exact h2
          · exact h3
          · exact hw)
        refine zBack (st' := st') (va_runV (g := F0 mi pc ls (st.map (zCv ad))) (C := C) (b := ad c') (As := ((st.take k).reverse).map (zCv ad)) ⟨c1, c2, c3, c4, c5⟩ (hM y b' n' ret' hm) (cwV k c5 hG rfl rfl rfl hy ⟨?_, ?_⟩) ⟨zBlind g ad ca D _ h, va_recv (q := (C, T, N)) S.K hP hcl (q0 := c') ((zWd_at hlt).trans (by rw [zEn_o hkj])), fun U hU hW => ⟨rfl, S.moved hW hU hS, by rw [hU]; exact hP⟩⟩ rfl ?_ hL.1 ?_ ?_ hd ⟨c10, c11⟩) hS hL kk
        · show F' + 1 ≤ R.frames
          omega
        · show 8 + (n' + 11) + 40 * F' ≤ R.locals
          omega
        · rw [List.length_map, List.length_reverse, List.length_take]
          omega
        · show st.map (zCv ad) = _
          rw [List.map_reverse, List.reverse_reverse]
          have e2 : st = st.take k ++ .ref c' :: st' := by rw [← hst, List.take_append_drop]
          conv => lhs; rw [e2, List.map_append]
          rfl
        · show 2 * 0 + _ ≤ 8
          rw [zCv_sum]
          omega
      · exact absurd ho (by simp)
    · exact absurd ho (by simp)
  · exact absurd ho (by simp)
end SD
/-! the run is the machine's -/
theorem zFl_has (ad : Nat → Nat) : ∀ (as : List Value) (i : Nat), zOkA as = true → ∀ (j : Nat) (v : Value), (zFl as)[j]? = some v → v ≠ .null → (i + j, zCv ad v) ∈ lv_args i (as.map (zCv ad))
  | [], i, _, j, v, hv, _ => by simp [zFl] at hv
  | .long x :: as, i, hk, j, v, hv, hn => by
    simp only [zFl] at hv
    match j with
    | 0 => simp at hv; subst hv; simp [lv_args, zCv]
    | 1 => simp at hv; exact absurd hv.symm hn
    | j + 2 =>
      simp only [List.getElem?_cons_succ] at hv
      have := zFl_has ad as (i + 2) hk j v hv hn
      simp only [List.map_cons, lv_args]
      refine List.mem_cons_of_mem _ ?_
      rw [if_pos (by rfl), show i + (j + 2) = i + 2 + j by omega]
      exact this
  | .int x :: as, i, hk, j, v, hv, hn => by
    simp only [zFl] at hv
    match j with
    | 0 => simp at hv; subst hv; simp [lv_args, zCv]
    | j + 1 =>
      simp only [List.getElem?_cons_succ] at hv
      have := zFl_has ad as (i + 1) hk j v hv hn
      simp only [List.map_cons, lv_args]
      refine List.mem_cons_of_mem _ ?_
      rw [if_neg (by simp [zCv, Value.category]), show i + (j + 1) = i + 1 + j by omega]
      exact this
  | .ref x :: as, i, hk, j, v, hv, hn => by
    simp only [zFl] at hv
    match j with
    | 0 => simp at hv; subst hv; simp [lv_args, zCv]
    | j + 1 =>
      simp only [List.getElem?_cons_succ] at hv
      have := zFl_has ad as (i + 1) hk j v hv hn
      simp only [List.map_cons, lv_args]
      refine List.mem_cons_of_mem _ ?_
      rw [if_neg (by simp [zCv, Value.category]), show i + (j + 1) = i + 1 + j by omega]
      exact this
  | .null :: as, i, hk, _, _, _, _ => by simp [zOkA] at hk
  | .float _ :: as, i, hk, _, _, _, _ => by simp [zOkA] at hk
  | .double _ :: as, i, hk, _, _, _, _ => by simp [zOkA] at hk
  | .retAddr _ :: as, i, hk, _, _, _, _ => by simp [zOkA] at hk
theorem zFl_len (ad : Nat → Nat) : ∀ as : List Value, zOkA as = true → (lg_sl (as.map (zCv ad))).length = (zFl as).length
  | [], _ => rfl
  | .long x :: as, hk => by
    have := zFl_len ad as hk
    simp only [lg_sl, List.map_cons, List.flatMap_cons, zFl, List.length_append, List.length_cons] at this ⊢
    rw [this, if_pos (by rfl)]
    simp; omega
  | .int x :: as, hk => by
    have := zFl_len ad as hk
    simp only [lg_sl, List.map_cons, List.flatMap_cons, zFl, List.length_append, List.length_cons] at this ⊢
    rw [this, if_neg (by simp [zCv, Value.category])]
    simp; omega
  | .ref x :: as, hk => by
    have := zFl_len ad as hk
    simp only [lg_sl, List.map_cons, List.flatMap_cons, zFl, List.length_append, List.length_cons] at this ⊢
    rw [this, if_neg (by simp [zCv, Value.category])]
    simp; omega
  | .null :: as, hk => by simp [zOkA] at hk
  | .float _ :: as, hk => by simp [zOkA] at hk
  | .double _ :: as, hk => by simp [zOkA] at hk
  | .retAddr _ :: as, hk => by simp [zOkA] at hk
theorem zEnt_LR {ad : Nat → Nat} {m n : Nat} {as lv : List Value} (h : zEnt m as = some lv) (hn : zMx m = n) : ∃ ls : Array Slot, (lg_sl (as.map (zCv ad)) ++ List.replicate (n - (lg_sl (as.map (zCv ad))).length) Slot.unset).toArray = ls ∧ zLR ad ls n lv := by
  unfold zEnt at h
  split at h
  · rename_i hc
    cases h
    subst hn
    have hlen := zFl_len ad as hc.1
    obtain ⟨h1, h2, h3⟩ := lv_entry (as.map (zCv ad)) (n := zMx m) (by rw [hlen]; exact hc.2)
    refine ⟨_, rfl, h1, h2, by simp; omega, fun i v hv hne => ?_⟩
    by_cases hi : i < (zFl as).length
    · rw [List.getElem?_append_left hi] at hv
      have := zFl_has ad as 0 hc.1 i v hv hne
      rw [Nat.zero_add] at this
      exact h3 _ this
    · rw [List.getElem?_append_right (by omega)] at hv
      have := List.mem_of_getElem? hv
      exact absurd (List.eq_of_mem_replicate this) hne
  · exact absurd h (by simp)
def zF (m d : Nat) : Nat := zLvl m + 16 * d
theorem zDp_F {d m m' r d' : Nat} (h : zDp d m m' r = some d') : zF m' d' < zF m d := by
  unfold zDp at h
  unfold zF
  split at h
  · split at h
    · cases h; omega
    · exact absurd h (by simp)
  · split at h
    · exact absurd h (by simp)
    · split at h
      · cases h; omega
      · exact absurd h (by simp)
/-- every step of every method stands on the machine -/
def zCode (cd : Nat → Nat → zS) : Prop := ∀ (m : Nat) (y : MethodName) (b : ByteArray) (n : Nat) (ret : Option FieldType), zMi[m]? = some (y, b, n, ret) → plainName y.cls = true ∧ 1 ≤ zLvl m ∧ ∀ pc, zSd y.cls b n ret pc (cd m pc)
theorem zMain (cd : Nat → Nat → zS) (hcd : zCode cd) (l : Launch) (g : zG) (ad : Nat → Nat) (ca : Nat → ClassId) (D : va_G) : ∀ (fuel d m pc : Nat) (lv st : List Value) (h : zM) (v : Option Value) (h' : zM), zRun cd g fuel d m pc lv st h = some (v, h') →
    ∀ (y : MethodName) (b : ByteArray) (n : Nat) (ret : Option FieldType), zMi[m]? = some (y, b, n, ret) → ∀ (p : Program) (e : Env) (R : Room) (s : State) (mi : MethodId) (args : Array Value) (below : List Frame) (meth : Method) (c : Code) (cells slots : Nat) (Q : State → Prop),
      zCx y.cls b n ret (zF m d) p R s mi args meth c cells slots → zSt g ad ca D s →
      (∀ (pc : Nat) (lv st : List Value) (h0 : zM), cd m pc g lv st h0 = some (.inr (.inl (v, h'))) → zAt n g ad ca D p l e R s mi args below meth c cells slots Q pc lv st h0) →
      zAt n g ad ca D p l e R s mi args below meth c cells slots Q pc lv st h := by
  intro fuel
  induction fuel with
  | zero => intro d m pc lv st h v h' hr; simp [zRun] at hr
  | succ fuel ih =>
    intro d m pc lv st h v h' hr y b n ret hm p e R s mi args below meth c cells slots Q Cx S hfin
    obtain ⟨hpl, hlv, hsd⟩ := hcd m y b n ret hm
    have hF1 : 1 ≤ zF m d := by unfold zF; omega
    rw [zRun] at hr
    split at hr
    · exact absurd hr (by simp)
    · rename_i pc' lv' st' h1 ho
      exact hsd pc p l e R s mi args below meth c cells slots Q (zF m d) g ad ca D Cx S hF1 lv st h _ ho (ih d m pc' lv' st' h1 v h' hr y b n ret hm p e R s mi args below meth c cells slots Q Cx S hfin)
    · rename_i r ho
      cases hr
      exact hfin pc lv st h ho
    · rename_i m' r as pc' lv' st' h1 ho
      split at hr
      · exact absurd hr (by simp)
      · rename_i d' hd'
        split at hr
        · exact absurd hr (by simp)
        · rename_i lv0 hent
          split at hr
          · exact absurd hr (by simp)
          · rename_i q hq
            obtain ⟨v1, h2⟩ := q
            obtain ⟨he, hc⟩ := hsd pc p l e R s mi args below meth c cells slots Q (zF m d) g ad ca D Cx S hF1 lv st h _ ho
            subst he
            refine hc v1 h2 (zF m' d') (zDp_F hd') ?_ (ih d m pc' lv' _ h2 v h' hr y b n ret hm p e R s mi args below meth c cells slots Q Cx S hfin)
            intro y2 b2 n2 ret2 hm2
            obtain ⟨hpl2, hlv2, hsd2⟩ := hcd m' y2 b2 n2 ret2 hm2
            have hF2 : 1 ≤ zF m' d' := by unfold zF; omega
            refine Met.ofW (cc := b2) (maxL := n2) (ret := ret2) hpl2 rfl ?_
            intro p2 e2 s2 mi2 args2 below2 meth2 c2 s3 B hml hv
            obtain ⟨rfl, S2, hP2⟩ := hv
            have hts := atoms_spec (ws := .code y2 b2 n2 ret2 :: zGt) B.pre
            have Cx2 : zCx y2.cls b2 n2 ret2 (zF m' d') p2 (zRm (zF m' d')) s2 mi2 (as.map (zCv ad)).toArray meth2 c2 0 0 := ⟨B.exec, B.bytes, hml, findClass_of_methodNamed B.named, fun w hw => hts w (List.mem_cons_of_mem _ hw), B.returns, B.notSynchronized, ⟨Nat.le_refl _, Nat.le_refl _⟩, ⟨Nat.le_refl _, Nat.le_refl _⟩⟩
            have hMx : zMx m' = n2 := by simp only [zMx, hm2]
            obtain ⟨ls, hls, hLR⟩ := zEnt_LR (ad := ad) hent hMx
            rw [lg_entry_eq, hls]
            exact ih d' m' 0 lv0 [] h1 v1 h2 hq y2 b2 n2 ret2 hm2 p2 e2 (zRm (zF m' d')) s2 mi2 _ below2 meth2 c2 0 0 _ Cx2 S2 (fun pc3 lv3 st3 h3 ho3 => hsd2 pc3 p2 l e2 (zRm (zF m' d')) s2 mi2 _ below2 meth2 c2 0 0 _ (zF m' d') g ad ca D Cx2 S2 hF2 lv3 st3 h3 _ ho3 rfl) s2.heap [] ls hP2 va_S.rf hLR
