set_option maxHeartbeats 4000000 in
set_option maxRecDepth 100000 in
theorem ci_X6 (l : Launch) (D : va_G) (h0 sz : Nat) : Met l yX6_init (.code yX6_init cX6_init 1 none :: zGt) ({ frames := 1, cells := 1, slots := 60, locals := 12 }) (va_Pc [.ref h0] (zPi D [(h0, .inr (6, [.null, .int 0, .int 0, .int 0]))] sz)) (va_Qv (fun _ : Unit => True) (at_X6 D (va_A [(h0, .inr (6, [.null, .int 0, .int 0, .int 0]))] sz) h0) (va_A [(h0, .inr (6, [.null, .int 0, .int 0, .int 0]))] sz)) 1 60 (va_A [(h0, .inr (6, [.null, .int 0, .int 0, .int 0]))] sz) := by
  refine Met.ofW (cc := cX6_init) (maxL := 1) (ret := none) (by decide) rfl ?_
  intro p e s m args below meth c s₁ B hml hv
  obtain ⟨rfl, hsz, hP, hK, hD0, hN⟩ := hv
  have hx := B.exec
  have hb := B.bytes
  have hr := B.returns
  have hts0 := atoms_spec (ws := .code yX6_init cX6_init 1 none :: zGt) B.pre
  have hts : ∀ w ∈ zGt, w.before #[Value.ref h0] s = true := fun w hw => hts0 w (List.mem_cons_of_mem _ hw)
  have hown : s.vm.findClass RX6 = some m.cls := findClass_of_methodNamed B.named
  have hlocks := B.notSynchronized
  have hin : meth.name = "<init>" := (name_of_methodNamed B.named B.method).1
  subst hsz
  have hD := hD0.self (sz := s.heap.size)
  generalize hAe : va_A [(h0, .inr (6, [.null, .int 0, .int 0, .int 0]))] s.heap.size = A at hD ⊢
  have hA : ∀ q : Nat, s.heap.size ≤ q → A q := fun q h => by rw [← hAe]; exact Or.inr h
  have hS : va_S A s.heap s.heap [] := va_S.rf
  have hl := lv_entry ([.ref h0]) (n := 1) (Nat.le_of_ble_eq_true rfl)
  rw [lg_entry_eq]
  generalize (lg_sl ([.ref h0]) ++ List.replicate (1 - (lg_sl ([.ref h0])).length) Slot.unset).toArray = ls at hl ⊢
  have hl : lv_has ls 1 [(0, .ref h0)] := hl
  refine lv_aload_n hx hb diX6_init_0 rfl (lv_at hl 0 rfl) ?_
  refine W.objInit hx hb hown (hts _ wi0) (hts _ wi1) (hts _ wi2) rfl (by rw [hml]; exact hl.1) rfl diX6_init_1 (Nat.le_of_ble_eq_true rfl) (Nat.le_of_ble_eq_true rfl) ?_
  refine W.eq (g2 := F0 m 4 ls []) rfl ?_
  refine lv_aload_n hx hb diX6_init_4 rfl (lv_at hl 0 rfl) ?_
  refine lv_bipush (v := 60) hx hb diX6_init_5 (by decide +kernel) ?_
  refine va_newa (ty := .int) (N' := 60) (a0 := (60, .inl (fun _ => 0))) hx hb (hts _ wi3) rfl hK hP hD hS hA (fun _ => rfl) (by decide +kernel) (by decide +kernel) (by decide) (Nat.le_of_ble_eq_true rfl) (Nat.le_of_ble_eq_true rfl) diX6_init_7 (fun a1 c1 H hK hP hD hS => ?_)
  have hP : va_P D vwCl [(h0, .inr (6, [.null, .int 0, .int 0, .int 0])), (a1, .inl (c1, 60, .inl (fun _ => 0)))] H := hP
  have hD : va_D A [(h0, .inr (6, [.null, .int 0, .int 0, .int 0])), (a1, .inl (c1, 60, .inl (fun _ => 0)))] := hD
  have hK : va_K D vwCl [(c1, .int)] s := hK
  refine W.widen (k := 1) (n := 60) (by omega) (by omega) ?_
  refine va_putF (D := D) (ci := 6) (v := .ref a1) (ty := .array .int) (C := RX6) (T := TX6) (N := 4) hx hb hts ziX6 tyX6 tyX6_ok nmX6 hown hK hP hD hS 0 rfl rfl 0 (by decide) (hts _ wi4) (fun _ h9 => h9) rfl hin rfl (by decide +kernel) rfl rfl (Nat.le_of_ble_eq_true rfl) diX6_init_9 (fun H locs hP hD hS => ?_)
  have hP : va_P D vwCl [(h0, .inr (6, [.ref a1, .int 0, .int 0, .int 0])), (a1, .inl (c1, 60, .inl (fun _ => 0)))] H := hP
  have hD : va_D A [(h0, .inr (6, [.ref a1, .int 0, .int 0, .int 0])), (a1, .inl (c1, 60, .inl (fun _ => 0)))] := hD
  exact W.vret hx hb hr (fun t ht hW => ⟨⟨(), rfl, trivial, fun i => ([h0, a1] : List Nat).getD i 0, fun i => ([c1] : List Nat).getD i 0, by rw [ht]; exact hP, va_K.moved hW.alike hK, hD⟩, hS.F ht⟩) hS.2.2 diX6_init_12
set_option maxHeartbeats 4000000 in
set_option maxRecDepth 100000 in
theorem ci_X4 (l : Launch) (D : va_G) (h0 sz : Nat) : Met l yX4_init (.code yX4_init cX4_init 1 none :: zGt) ({ frames := 1, cells := 2, slots := 16, locals := 12 }) (va_Pc [.ref h0] (zPi D [(h0, .inr (4, [.null, .null, .int 0]))] sz)) (va_Qv (fun _ : Unit => True) (at_X4 D (va_A [(h0, .inr (4, [.null, .null, .int 0]))] sz) h0) (va_A [(h0, .inr (4, [.null, .null, .int 0]))] sz)) 2 16 (va_A [(h0, .inr (4, [.null, .null, .int 0]))] sz) := by
  refine Met.ofW (cc := cX4_init) (maxL := 1) (ret := none) (by decide) rfl ?_
  intro p e s m args below meth c s₁ B hml hv
  obtain ⟨rfl, hsz, hP, hK, hD0, hN⟩ := hv
  have hx := B.exec
  have hb := B.bytes
  have hr := B.returns
  have hts0 := atoms_spec (ws := .code yX4_init cX4_init 1 none :: zGt) B.pre
  have hts : ∀ w ∈ zGt, w.before #[Value.ref h0] s = true := fun w hw => hts0 w (List.mem_cons_of_mem _ hw)
  have hown : s.vm.findClass RX4 = some m.cls := findClass_of_methodNamed B.named
  have hlocks := B.notSynchronized
  have hin : meth.name = "<init>" := (name_of_methodNamed B.named B.method).1
  subst hsz
  have hD := hD0.self (sz := s.heap.size)
  generalize hAe : va_A [(h0, .inr (4, [.null, .null, .int 0]))] s.heap.size = A at hD ⊢
  have hA : ∀ q : Nat, s.heap.size ≤ q → A q := fun q h => by rw [← hAe]; exact Or.inr h
  have hS : va_S A s.heap s.heap [] := va_S.rf
  have hl := lv_entry ([.ref h0]) (n := 1) (Nat.le_of_ble_eq_true rfl)
  rw [lg_entry_eq]
  generalize (lg_sl ([.ref h0]) ++ List.replicate (1 - (lg_sl ([.ref h0])).length) Slot.unset).toArray = ls at hl ⊢
  have hl : lv_has ls 1 [(0, .ref h0)] := hl
  refine lv_aload_n hx hb diX4_init_0 rfl (lv_at hl 0 rfl) ?_
  refine W.objInit hx hb hown (hts _ wi5) (hts _ wi1) (hts _ wi2) rfl (by rw [hml]; exact hl.1) rfl diX4_init_1 (Nat.le_of_ble_eq_true rfl) (Nat.le_of_ble_eq_true rfl) ?_
  refine W.eq (g2 := F0 m 4 ls []) rfl ?_
  refine lv_aload_n hx hb diX4_init_4 rfl (lv_at hl 0 rfl) ?_
  refine lv_bipush (v := 8) hx hb diX4_init_5 (by decide +kernel) ?_
  refine va_newa (ty := .int) (N' := 8) (a0 := (8, .inl (fun _ => 0))) hx hb (hts _ wi3) rfl hK hP hD hS hA (fun _ => rfl) (by decide +kernel) (by decide +kernel) (by decide) (Nat.le_of_ble_eq_true rfl) (Nat.le_of_ble_eq_true rfl) diX4_init_7 (fun a1 c1 H hK hP hD hS => ?_)
  have hP : va_P D vwCl [(h0, .inr (4, [.null, .null, .int 0])), (a1, .inl (c1, 8, .inl (fun _ => 0)))] H := hP
  have hD : va_D A [(h0, .inr (4, [.null, .null, .int 0])), (a1, .inl (c1, 8, .inl (fun _ => 0)))] := hD
  have hK : va_K D vwCl [(c1, .int)] s := hK
  refine W.widen (k := 1) (n := 8) (by omega) (by omega) ?_
  refine va_putF (D := D) (ci := 4) (v := .ref a1) (ty := .array .int) (C := RX4) (T := TX4) (N := 3) hx hb hts ziX4 tyX4 tyX4_ok nmX4 hown hK hP hD hS 0 rfl rfl 0 (by decide) (hts _ wi6) (fun _ h9 => h9) rfl hin rfl (by decide +kernel) rfl rfl (Nat.le_of_ble_eq_true rfl) diX4_init_9 (fun H locs hP hD hS => ?_)
  have hP : va_P D vwCl [(h0, .inr (4, [.ref a1, .null, .int 0])), (a1, .inl (c1, 8, .inl (fun _ => 0)))] H := hP
  have hD : va_D A [(h0, .inr (4, [.ref a1, .null, .int 0])), (a1, .inl (c1, 8, .inl (fun _ => 0)))] := hD
  refine lv_aload_n hx hb diX4_init_12 rfl (lv_at hl 0 rfl) ?_
  refine lv_bipush (v := 8) hx hb diX4_init_13 (by decide +kernel) ?_
  refine va_newa (ty := .int) (N' := 8) (a0 := (8, .inl (fun _ => 0))) hx hb (hts _ wi3) rfl hK hP hD hS hA (fun _ => rfl) (by decide +kernel) (by decide +kernel) (by decide) (Nat.le_of_ble_eq_true rfl) (Nat.le_of_ble_eq_true rfl) diX4_init_15 (fun a2 c2 H hK hP hD hS => ?_)
  have hP : va_P D vwCl [(h0, .inr (4, [.ref a1, .null, .int 0])), (a1, .inl (c1, 8, .inl (fun _ => 0))), (a2, .inl (c2, 8, .inl (fun _ => 0)))] H := hP
  have hD : va_D A [(h0, .inr (4, [.ref a1, .null, .int 0])), (a1, .inl (c1, 8, .inl (fun _ => 0))), (a2, .inl (c2, 8, .inl (fun _ => 0)))] := hD
  have hK : va_K D vwCl [(c1, .int), (c2, .int)] s := hK
  refine W.widen (k := 2) (n := 16) (by omega) (by omega) ?_
  refine va_putF (D := D) (ci := 4) (v := .ref a2) (ty := .array .int) (C := RX4) (T := TX4) (N := 3) hx hb hts ziX4 tyX4 tyX4_ok nmX4 hown hK hP hD hS 0 rfl rfl 1 (by decide) (hts _ wi7) (fun _ h9 => h9) rfl hin rfl (by decide +kernel) rfl rfl (Nat.le_of_ble_eq_true rfl) diX4_init_17 (fun H locs hP hD hS => ?_)
  have hP : va_P D vwCl [(h0, .inr (4, [.ref a1, .ref a2, .int 0])), (a1, .inl (c1, 8, .inl (fun _ => 0))), (a2, .inl (c2, 8, .inl (fun _ => 0)))] H := hP
  have hD : va_D A [(h0, .inr (4, [.ref a1, .ref a2, .int 0])), (a1, .inl (c1, 8, .inl (fun _ => 0))), (a2, .inl (c2, 8, .inl (fun _ => 0)))] := hD
  exact W.vret hx hb hr (fun t ht hW => ⟨⟨(), rfl, trivial, fun i => ([h0, a1, a2] : List Nat).getD i 0, fun i => ([c1, c2] : List Nat).getD i 0, by rw [ht]; exact hP, va_K.moved hW.alike hK, hD⟩, hS.F ht⟩) hS.2.2 diX4_init_20
set_option maxHeartbeats 4000000 in
set_option maxRecDepth 100000 in
theorem ci_X1 (l : Launch) (D : va_G) (h0 sz : Nat) : Met l yX1_init (.code yX1_init cX1_init 1 none :: zGt) ({ frames := 1, cells := 0, slots := 0, locals := 12 }) (va_Pc [.ref h0] (zPi D [(h0, .inr (1, [.int 0, .int 0, .int 0, .int 0, .int 0]))] sz)) (va_Qv (fun _ : Unit => True) (at_X1 D (va_A [(h0, .inr (1, [.int 0, .int 0, .int 0, .int 0, .int 0]))] sz) h0) (va_A [(h0, .inr (1, [.int 0, .int 0, .int 0, .int 0, .int 0]))] sz)) 0 0 (va_A [(h0, .inr (1, [.int 0, .int 0, .int 0, .int 0, .int 0]))] sz) := by
  refine Met.ofW (cc := cX1_init) (maxL := 1) (ret := none) (by decide) rfl ?_
  intro p e s m args below meth c s₁ B hml hv
  obtain ⟨rfl, hsz, hP, hK, hD0, hN⟩ := hv
  have hx := B.exec
  have hb := B.bytes
  have hr := B.returns
  have hts0 := atoms_spec (ws := .code yX1_init cX1_init 1 none :: zGt) B.pre
  have hts : ∀ w ∈ zGt, w.before #[Value.ref h0] s = true := fun w hw => hts0 w (List.mem_cons_of_mem _ hw)
  have hown : s.vm.findClass RX1 = some m.cls := findClass_of_methodNamed B.named
  have hlocks := B.notSynchronized
  have hin : meth.name = "<init>" := (name_of_methodNamed B.named B.method).1
  subst hsz
  have hD := hD0.self (sz := s.heap.size)
  generalize hAe : va_A [(h0, .inr (1, [.int 0, .int 0, .int 0, .int 0, .int 0]))] s.heap.size = A at hD ⊢
  have hA : ∀ q : Nat, s.heap.size ≤ q → A q := fun q h => by rw [← hAe]; exact Or.inr h
  have hS : va_S A s.heap s.heap [] := va_S.rf
  have hl := lv_entry ([.ref h0]) (n := 1) (Nat.le_of_ble_eq_true rfl)
  rw [lg_entry_eq]
  generalize (lg_sl ([.ref h0]) ++ List.replicate (1 - (lg_sl ([.ref h0])).length) Slot.unset).toArray = ls at hl ⊢
  have hl : lv_has ls 1 [(0, .ref h0)] := hl
  refine lv_aload_n hx hb diX1_init_0 rfl (lv_at hl 0 rfl) ?_
  refine W.objInit hx hb hown (hts _ wi8) (hts _ wi1) (hts _ wi2) rfl (by rw [hml]; exact hl.1) rfl diX1_init_1 (Nat.le_of_ble_eq_true rfl) (Nat.le_of_ble_eq_true rfl) ?_
  refine W.eq (g2 := F0 m 4 ls []) rfl ?_
  exact W.vret hx hb hr (fun t ht hW => ⟨⟨(), rfl, trivial, fun i => ([h0] : List Nat).getD i 0, fun i => ([] : List Nat).getD i 0, by rw [ht]; exact hP, va_K.moved hW.alike hK, hD⟩, hS.F ht⟩) hS.2.2 diX1_init_4
set_option maxHeartbeats 4000000 in
set_option maxRecDepth 100000 in
theorem ci_X2 (l : Launch) (D : va_G) (h0 sz : Nat) : Met l yX2_init (.code yX2_init cX2_init 1 none :: zGt) ({ frames := 1, cells := 1, slots := 20, locals := 12 }) (va_Pc [.ref h0] (zPi D [(h0, .inr (2, [.null, .int 0]))] sz)) (va_Qv (fun _ : Unit => True) (at_X2 D (va_A [(h0, .inr (2, [.null, .int 0]))] sz) h0) (va_A [(h0, .inr (2, [.null, .int 0]))] sz)) 1 20 (va_A [(h0, .inr (2, [.null, .int 0]))] sz) := by
  refine Met.ofW (cc := cX2_init) (maxL := 1) (ret := none) (by decide) rfl ?_
  intro p e s m args below meth c s₁ B hml hv
  obtain ⟨rfl, hsz, hP, hK, hD0, hN⟩ := hv
  have hx := B.exec
  have hb := B.bytes
  have hr := B.returns
  have hts0 := atoms_spec (ws := .code yX2_init cX2_init 1 none :: zGt) B.pre
  have hts : ∀ w ∈ zGt, w.before #[Value.ref h0] s = true := fun w hw => hts0 w (List.mem_cons_of_mem _ hw)
  have hown : s.vm.findClass RX2 = some m.cls := findClass_of_methodNamed B.named
  have hlocks := B.notSynchronized
  have hin : meth.name = "<init>" := (name_of_methodNamed B.named B.method).1
  subst hsz
  have hD := hD0.self (sz := s.heap.size)
  generalize hAe : va_A [(h0, .inr (2, [.null, .int 0]))] s.heap.size = A at hD ⊢
  have hA : ∀ q : Nat, s.heap.size ≤ q → A q := fun q h => by rw [← hAe]; exact Or.inr h
  have hS : va_S A s.heap s.heap [] := va_S.rf
  have hl := lv_entry ([.ref h0]) (n := 1) (Nat.le_of_ble_eq_true rfl)
  rw [lg_entry_eq]
  generalize (lg_sl ([.ref h0]) ++ List.replicate (1 - (lg_sl ([.ref h0])).length) Slot.unset).toArray = ls at hl ⊢
  have hl : lv_has ls 1 [(0, .ref h0)] := hl
  refine lv_aload_n hx hb diX2_init_0 rfl (lv_at hl 0 rfl) ?_
  refine W.objInit hx hb hown (hts _ wi9) (hts _ wi1) (hts _ wi2) rfl (by rw [hml]; exact hl.1) rfl diX2_init_1 (Nat.le_of_ble_eq_true rfl) (Nat.le_of_ble_eq_true rfl) ?_
  refine W.eq (g2 := F0 m 4 ls []) rfl ?_
  refine lv_aload_n hx hb diX2_init_4 rfl (lv_at hl 0 rfl) ?_
  refine lv_bipush (v := 20) hx hb diX2_init_5 (by decide +kernel) ?_
  refine va_newa (ty := .int) (N' := 20) (a0 := (20, .inl (fun _ => 0))) hx hb (hts _ wi3) rfl hK hP hD hS hA (fun _ => rfl) (by decide +kernel) (by decide +kernel) (by decide) (Nat.le_of_ble_eq_true rfl) (Nat.le_of_ble_eq_true rfl) diX2_init_7 (fun a1 c1 H hK hP hD hS => ?_)
  have hP : va_P D vwCl [(h0, .inr (2, [.null, .int 0])), (a1, .inl (c1, 20, .inl (fun _ => 0)))] H := hP
  have hD : va_D A [(h0, .inr (2, [.null, .int 0])), (a1, .inl (c1, 20, .inl (fun _ => 0)))] := hD
  have hK : va_K D vwCl [(c1, .int)] s := hK
  refine W.widen (k := 1) (n := 20) (by omega) (by omega) ?_
  refine va_putF (D := D) (ci := 2) (v := .ref a1) (ty := .array .int) (C := RX2) (T := TX2) (N := 2) hx hb hts ziX2 tyX2 tyX2_ok nmX2 hown hK hP hD hS 0 rfl rfl 0 (by decide) (hts _ wi10) (fun _ h9 => h9) rfl hin rfl (by decide +kernel) rfl rfl (Nat.le_of_ble_eq_true rfl) diX2_init_9 (fun H locs hP hD hS => ?_)
  have hP : va_P D vwCl [(h0, .inr (2, [.ref a1, .int 0])), (a1, .inl (c1, 20, .inl (fun _ => 0)))] H := hP
  have hD : va_D A [(h0, .inr (2, [.ref a1, .int 0])), (a1, .inl (c1, 20, .inl (fun _ => 0)))] := hD
  exact W.vret hx hb hr (fun t ht hW => ⟨⟨(), rfl, trivial, fun i => ([h0, a1] : List Nat).getD i 0, fun i => ([c1] : List Nat).getD i 0, by rw [ht]; exact hP, va_K.moved hW.alike hK, hD⟩, hS.F ht⟩) hS.2.2 diX2_init_12
set_option maxHeartbeats 4000000 in
set_option maxRecDepth 100000 in
theorem ci_X3 (l : Launch) (D : va_G) (h0 sz : Nat) : Met l yX3_init (.code yX3_init cX3_init 1 none :: zGt) ({ frames := 1, cells := 3, slots := 17, locals := 12 }) (va_Pc [.ref h0] (zPi D [(h0, .inr (3, [.null, .null, .null, .int 0, .int 0, .int 0]))] sz)) (va_Qv (fun _ : Unit => True) (at_X3 D (va_A [(h0, .inr (3, [.null, .null, .null, .int 0, .int 0, .int 0]))] sz) h0) (va_A [(h0, .inr (3, [.null, .null, .null, .int 0, .int 0, .int 0]))] sz)) 3 17 (va_A [(h0, .inr (3, [.null, .null, .null, .int 0, .int 0, .int 0]))] sz) := by
  refine Met.ofW (cc := cX3_init) (maxL := 1) (ret := none) (by decide) rfl ?_
  intro p e s m args below meth c s₁ B hml hv
  obtain ⟨rfl, hsz, hP, hK, hD0, hN⟩ := hv
  have hx := B.exec
  have hb := B.bytes
  have hr := B.returns
  have hts0 := atoms_spec (ws := .code yX3_init cX3_init 1 none :: zGt) B.pre
  have hts : ∀ w ∈ zGt, w.before #[Value.ref h0] s = true := fun w hw => hts0 w (List.mem_cons_of_mem _ hw)
  have hown : s.vm.findClass RX3 = some m.cls := findClass_of_methodNamed B.named
  have hlocks := B.notSynchronized
  have hin : meth.name = "<init>" := (name_of_methodNamed B.named B.method).1
  subst hsz
  have hD := hD0.self (sz := s.heap.size)
  generalize hAe : va_A [(h0, .inr (3, [.null, .null, .null, .int 0, .int 0, .int 0]))] s.heap.size = A at hD ⊢
  have hA : ∀ q : Nat, s.heap.size ≤ q → A q := fun q h => by rw [← hAe]; exact Or.inr h
  have hS : va_S A s.heap s.heap [] := va_S.rf
  have hl := lv_entry ([.ref h0]) (n := 1) (Nat.le_of_ble_eq_true rfl)
  rw [lg_entry_eq]
  generalize (lg_sl ([.ref h0]) ++ List.replicate (1 - (lg_sl ([.ref h0])).length) Slot.unset).toArray = ls at hl ⊢
  have hl : lv_has ls 1 [(0, .ref h0)] := hl
  refine lv_aload_n hx hb diX3_init_0 rfl (lv_at hl 0 rfl) ?_
  refine W.objInit hx hb hown (hts _ wi11) (hts _ wi1) (hts _ wi2) rfl (by rw [hml]; exact hl.1) rfl diX3_init_1 (Nat.le_of_ble_eq_true rfl) (Nat.le_of_ble_eq_true rfl) ?_
  refine W.eq (g2 := F0 m 4 ls []) rfl ?_
  refine lv_aload_n hx hb diX3_init_4 rfl (lv_at hl 0 rfl) ?_
  refine lv_bipush (v := 6) hx hb diX3_init_5 (by decide +kernel) ?_
  refine va_newa (ty := .int) (N' := 6) (a0 := (6, .inl (fun _ => 0))) hx hb (hts _ wi3) rfl hK hP hD hS hA (fun _ => rfl) (by decide +kernel) (by decide +kernel) (by decide) (Nat.le_of_ble_eq_true rfl) (Nat.le_of_ble_eq_true rfl) diX3_init_7 (fun a1 c1 H hK hP hD hS => ?_)
  have hP : va_P D vwCl [(h0, .inr (3, [.null, .null, .null, .int 0, .int 0, .int 0])), (a1, .inl (c1, 6, .inl (fun _ => 0)))] H := hP
  have hD : va_D A [(h0, .inr (3, [.null, .null, .null, .int 0, .int 0, .int 0])), (a1, .inl (c1, 6, .inl (fun _ => 0)))] := hD
  have hK : va_K D vwCl [(c1, .int)] s := hK
  refine W.widen (k := 1) (n := 6) (by omega) (by omega) ?_
  refine va_putF (D := D) (ci := 3) (v := .ref a1) (ty := .array .int) (C := RX3) (T := TX3) (N := 6) hx hb hts ziX3 tyX3 tyX3_ok nmX3 hown hK hP hD hS 0 rfl rfl 0 (by decide) (hts _ wi12) (fun _ h9 => h9) rfl hin rfl (by decide +kernel) rfl rfl (Nat.le_of_ble_eq_true rfl) diX3_init_9 (fun H locs hP hD hS => ?_)
  have hP : va_P D vwCl [(h0, .inr (3, [.ref a1, .null, .null, .int 0, .int 0, .int 0])), (a1, .inl (c1, 6, .inl (fun _ => 0)))] H := hP
  have hD : va_D A [(h0, .inr (3, [.ref a1, .null, .null, .int 0, .int 0, .int 0])), (a1, .inl (c1, 6, .inl (fun _ => 0)))] := hD
  refine lv_aload_n hx hb diX3_init_12 rfl (lv_at hl 0 rfl) ?_
  refine lv_iconst (v := 5) hx hb diX3_init_13 (by decide +kernel) ?_
  refine va_newa (ty := .int) (N' := 5) (a0 := (5, .inl (fun _ => 0))) hx hb (hts _ wi3) rfl hK hP hD hS hA (fun _ => rfl) (by decide +kernel) (by decide +kernel) (by decide) (Nat.le_of_ble_eq_true rfl) (Nat.le_of_ble_eq_true rfl) diX3_init_14 (fun a2 c2 H hK hP hD hS => ?_)
  have hP : va_P D vwCl [(h0, .inr (3, [.ref a1, .null, .null, .int 0, .int 0, .int 0])), (a1, .inl (c1, 6, .inl (fun _ => 0))), (a2, .inl (c2, 5, .inl (fun _ => 0)))] H := hP
  have hD : va_D A [(h0, .inr (3, [.ref a1, .null, .null, .int 0, .int 0, .int 0])), (a1, .inl (c1, 6, .inl (fun _ => 0))), (a2, .inl (c2, 5, .inl (fun _ => 0)))] := hD
  have hK : va_K D vwCl [(c1, .int), (c2, .int)] s := hK
  refine W.widen (k := 2) (n := 11) (by omega) (by omega) ?_
  refine va_putF (D := D) (ci := 3) (v := .ref a2) (ty := .array .int) (C := RX3) (T := TX3) (N := 6) hx hb hts ziX3 tyX3 tyX3_ok nmX3 hown hK hP hD hS 0 rfl rfl 1 (by decide) (hts _ wi13) (fun _ h9 => h9) rfl hin rfl (by decide +kernel) rfl rfl (Nat.le_of_ble_eq_true rfl) diX3_init_16 (fun H locs hP hD hS => ?_)
  have hP : va_P D vwCl [(h0, .inr (3, [.ref a1, .ref a2, .null, .int 0, .int 0, .int 0])), (a1, .inl (c1, 6, .inl (fun _ => 0))), (a2, .inl (c2, 5, .inl (fun _ => 0)))] H := hP
  have hD : va_D A [(h0, .inr (3, [.ref a1, .ref a2, .null, .int 0, .int 0, .int 0])), (a1, .inl (c1, 6, .inl (fun _ => 0))), (a2, .inl (c2, 5, .inl (fun _ => 0)))] := hD
  refine lv_aload_n hx hb diX3_init_19 rfl (lv_at hl 0 rfl) ?_
  refine lv_bipush (v := 6) hx hb diX3_init_20 (by decide +kernel) ?_
  refine va_newa (ty := .int) (N' := 6) (a0 := (6, .inl (fun _ => 0))) hx hb (hts _ wi3) rfl hK hP hD hS hA (fun _ => rfl) (by decide +kernel) (by decide +kernel) (by decide) (Nat.le_of_ble_eq_true rfl) (Nat.le_of_ble_eq_true rfl) diX3_init_22 (fun a3 c3 H hK hP hD hS => ?_)
  have hP : va_P D vwCl [(h0, .inr (3, [.ref a1, .ref a2, .null, .int 0, .int 0, .int 0])), (a1, .inl (c1, 6, .inl (fun _ => 0))), (a2, .inl (c2, 5, .inl (fun _ => 0))), (a3, .inl (c3, 6, .inl (fun _ => 0)))] H := hP
  have hD : va_D A [(h0, .inr (3, [.ref a1, .ref a2, .null, .int 0, .int 0, .int 0])), (a1, .inl (c1, 6, .inl (fun _ => 0))), (a2, .inl (c2, 5, .inl (fun _ => 0))), (a3, .inl (c3, 6, .inl (fun _ => 0)))] := hD
  have hK : va_K D vwCl [(c1, .int), (c2, .int), (c3, .int)] s := hK
  refine W.widen (k := 3) (n := 17) (by omega) (by omega) ?_
  refine va_putF (D := D) (ci := 3) (v := .ref a3) (ty := .array .int) (C := RX3) (T := TX3) (N := 6) hx hb hts ziX3 tyX3 tyX3_ok nmX3 hown hK hP hD hS 0 rfl rfl 2 (by decide) (hts _ wi14) (fun _ h9 => h9) rfl hin rfl (by decide +kernel) rfl rfl (Nat.le_of_ble_eq_true rfl) diX3_init_24 (fun H locs hP hD hS => ?_)
  have hP : va_P D vwCl [(h0, .inr (3, [.ref a1, .ref a2, .ref a3, .int 0, .int 0, .int 0])), (a1, .inl (c1, 6, .inl (fun _ => 0))), (a2, .inl (c2, 5, .inl (fun _ => 0))), (a3, .inl (c3, 6, .inl (fun _ => 0)))] H := hP
  have hD : va_D A [(h0, .inr (3, [.ref a1, .ref a2, .ref a3, .int 0, .int 0, .int 0])), (a1, .inl (c1, 6, .inl (fun _ => 0))), (a2, .inl (c2, 5, .inl (fun _ => 0))), (a3, .inl (c3, 6, .inl (fun _ => 0)))] := hD
  exact W.vret hx hb hr (fun t ht hW => ⟨⟨(), rfl, trivial, fun i => ([h0, a1, a2, a3] : List Nat).getD i 0, fun i => ([c1, c2, c3] : List Nat).getD i 0, by rw [ht]; exact hP, va_K.moved hW.alike hK, hD⟩, hS.F ht⟩) hS.2.2 diX3_init_27
