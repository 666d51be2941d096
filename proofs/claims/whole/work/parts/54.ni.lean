def zNiw : List Cond := [.methodLinkNest RX8 17 yX6_init RX8, .methodLinkNest RX0 19 yX4_init RX8, .methodLinkNest RX0 24 yX1_init RX8, .methodLinkNest RX8 27 yX2_init RX8, .methodLinkNest RX8 34 yX3_init RX8, .methodLinkNest RX5 24 yX3_init RX8]
/-- what the constructors want of the tables beside the good words -/
def zNn (U : State) : Prop := (∀ w ∈ zNiw, va_Nw w U) ∧ va_AO RX6 U ∧ va_AO RX1 U ∧ va_AO RX3 U
theorem zNn.warm {s U : State} (h : zNn s) (hW : s.WarmedH U.vm) : zNn U := by
  obtain ⟨h1, h2, h3, h4⟩ := h
  refine ⟨fun w hw => ?_, h2.moved hW.alike, h3.moved hW.alike, h4.moved hW.alike⟩
  have hz := h1 w hw
  simp only [zNiw, List.mem_cons, List.not_mem_nil, or_false] at hw
  rcases hw with rfl | rfl | rfl | rfl | rfl | rfl <;> exact va_Nw.warmM hW hz
theorem zNn.same {u U : State} (h : zNn u) (hv : u.vm = U.vm) : zNn U := by
  obtain ⟨h1, h2, h3, h4⟩ := h
  refine ⟨fun w hw => ?_, h2.moved (by rw [← hv]; exact Vm.Alike.refl _), h3.moved (by rw [← hv]; exact Vm.Alike.refl _), h4.moved (by rw [← hv]; exact Vm.Alike.refl _)⟩
  have hz := h1 w hw
  simp only [zNiw, List.mem_cons, List.not_mem_nil, or_false] at hw
  rcases hw with rfl | rfl | rfl | rfl | rfl | rfl <;> exact va_Nw.same rfl hv hz
def zPi (D : va_G) (ws : va_W) (sz : Nat) (U : State) : Prop := U.heap.size = sz ∧ va_P D vwCl ws U.heap ∧ va_K D vwCl [] U ∧ va_D (fun _ => True) ws ∧ zNn U
theorem zPreI {s : State} {H : Heap} {D : va_G} {ws : va_W} {A : Nat → Prop} {b : Nat} (hP : va_P D vwCl ws H) (hK : va_K D vwCl [] s) (hD : va_D A ws) (hN : zNn s) : PreS s H (va_Pc [.ref b] (zPi D ws H.size)) (.ref b :: []) :=
  ⟨fun a U g mk q => by obtain ⟨q0, q1, qP, qK, qD, qN⟩ := q; exact ⟨q0, q1, qP, va_K.moved (u := U) (U := U.calling g mk a) (Vm.Alike.refl U.vm) qK, qD, qN.same rfl⟩, fun U hU hW => ⟨rfl, by rw [hU], by rw [hU]; exact hP, va_K.moved hW.alike hK, hD.weaken (fun _ _ _ _ => trivial), hN.warm hW⟩⟩
theorem zGi {w0 : Cond} (h : w0 ∈ zGt) : GoodIn zGt (w0 :: zGt) := zGoodIn (fun w hw => by
  rcases List.mem_cons.mp hw with rfl | hw
  · exact h
  · exact hw)
theorem ztn0 : (0 : Int32).toNatClampNeg = 0 := by decide +kernel
theorem ztn1 : (1 : Int32).toNatClampNeg = 1 := by decide +kernel
theorem ztn2 : (2 : Int32).toNatClampNeg = 2 := by decide +kernel
theorem ztn3 : (3 : Int32).toNatClampNeg = 3 := by decide +kernel
theorem ztn4 : (4 : Int32).toNatClampNeg = 4 := by decide +kernel
theorem ztn5 : (5 : Int32).toNatClampNeg = 5 := by decide +kernel
theorem ztn6 : (6 : Int32).toNatClampNeg = 6 := by decide +kernel
theorem wi0 : Cond.methodLink RX6 3 objectInit ∈ zGt := zWm 28 (by decide +kernel) (by decide +kernel)
theorem wi1 : Cond.instanceMethod objectInit ∈ zGt := zWm 20 (by decide +kernel) (by decide +kernel)
theorem wi2 : Cond.code objectInit ⟨#[0xb1]⟩ 1 none ∈ zGt := zWm 21 (by decide +kernel) (by decide +kernel)
theorem wi3 : Cond.arrayClass (newarray.typeOf .int) ∈ zGt := zWm 45 (by decide +kernel) (by decide +kernel)
theorem wi4 : Cond.fieldLink RX6 9 RX6 (TX6 0).2.1 (TX6 0).2.2.1 ∈ zGt := zWm 29 (by decide +kernel) (by decide +kernel)
theorem wi5 : Cond.methodLink RX4 3 objectInit ∈ zGt := zWm 59 (by decide +kernel) (by decide +kernel)
theorem wi6 : Cond.fieldLink RX4 9 RX4 (TX4 0).2.1 (TX4 0).2.2.1 ∈ zGt := zWm 60 (by decide +kernel) (by decide +kernel)
theorem wi7 : Cond.fieldLink RX4 15 RX4 (TX4 1).2.1 (TX4 1).2.2.1 ∈ zGt := zWm 61 (by decide +kernel) (by decide +kernel)
theorem wi8 : Cond.methodLink RX1 3 objectInit ∈ zGt := zWm 76 (by decide +kernel) (by decide +kernel)
theorem wi9 : Cond.methodLink RX2 3 objectInit ∈ zGt := zWm 132 (by decide +kernel) (by decide +kernel)
theorem wi10 : Cond.fieldLink RX2 9 RX2 (TX2 0).2.1 (TX2 0).2.2.1 ∈ zGt := zWm 133 (by decide +kernel) (by decide +kernel)
theorem wi11 : Cond.methodLink RX3 3 objectInit ∈ zGt := zWm 148 (by decide +kernel) (by decide +kernel)
theorem wi12 : Cond.fieldLink RX3 9 RX3 (TX3 0).2.1 (TX3 0).2.2.1 ∈ zGt := zWm 149 (by decide +kernel) (by decide +kernel)
theorem wi13 : Cond.fieldLink RX3 15 RX3 (TX3 1).2.1 (TX3 1).2.2.1 ∈ zGt := zWm 153 (by decide +kernel) (by decide +kernel)
theorem wi14 : Cond.fieldLink RX3 18 RX3 (TX3 2).2.1 (TX3 2).2.2.1 ∈ zGt := zWm 155 (by decide +kernel) (by decide +kernel)
theorem wi15 : Cond.methodLink RX0 3 objectInit ∈ zGt := zWm 51 (by decide +kernel) (by decide +kernel)
theorem wi16 : Cond.classLink RX0 9 RX1 ∈ zGt := zWm 52 (by decide +kernel) (by decide +kernel)
theorem wi17 : Cond.fieldLink RX0 11 RX0 (TX0 0).2.1 (TX0 0).2.2.1 ∈ zGt := zWm 103 (by decide +kernel) (by decide +kernel)
theorem wi18 : Cond.classLink RX0 17 RX4 ∈ zGt := zWm 54 (by decide +kernel) (by decide +kernel)
theorem wi19 : Cond.instantiable RX4 3 ∈ zGt := zWm 55 (by decide +kernel) (by decide +kernel)
theorem wi20 : Cond.initialized RX4 ∈ zGt := zWm 4 (by decide +kernel) (by decide +kernel)
theorem wi21 : Cond.code yX4_init cX4_init 1 none ∈ zGt := zWm 58 (by decide +kernel) (by decide +kernel)
theorem wi22 : Cond.instanceMethod yX4_init ∈ zGt := zWm 57 (by decide +kernel) (by decide +kernel)
theorem wi23 : Cond.fieldLink RX0 20 RX0 (TX0 1).2.1 (TX0 1).2.2.1 ∈ zGt := zWm 107 (by decide +kernel) (by decide +kernel)
theorem wi24 : Cond.instantiable RX1 5 ∈ zGt := zWm 72 (by decide +kernel) (by decide +kernel)
theorem wi25 : Cond.initialized RX1 ∈ zGt := zWm 5 (by decide +kernel) (by decide +kernel)
theorem wi26 : Cond.code yX1_init cX1_init 1 none ∈ zGt := zWm 75 (by decide +kernel) (by decide +kernel)
theorem wi27 : Cond.instanceMethod yX1_init ∈ zGt := zWm 74 (by decide +kernel) (by decide +kernel)
theorem wi28 : Cond.methodLink RX5 3 objectInit ∈ zGt := zWm 180 (by decide +kernel) (by decide +kernel)
theorem wi29 : Cond.classLink RX5 9 RX3 ∈ zGt := zWm 181 (by decide +kernel) (by decide +kernel)
theorem wi30 : Cond.fieldLink RX5 11 RX5 (TX5 0).2.1 (TX5 0).2.2.1 ∈ zGt := zWm 184 (by decide +kernel) (by decide +kernel)
theorem wi31 : Cond.fieldLink RX5 17 RX5 (TX5 1).2.1 (TX5 1).2.2.1 ∈ zGt := zWm 185 (by decide +kernel) (by decide +kernel)
theorem wi32 : Cond.fieldLink RX5 21 RX5 (TX5 2).2.1 (TX5 2).2.2.1 ∈ zGt := zWm 186 (by decide +kernel) (by decide +kernel)
theorem wi33 : Cond.instantiable RX3 6 ∈ zGt := zWm 144 (by decide +kernel) (by decide +kernel)
theorem wi34 : Cond.initialized RX3 ∈ zGt := zWm 7 (by decide +kernel) (by decide +kernel)
theorem wi35 : Cond.code yX3_init cX3_init 1 none ∈ zGt := zWm 147 (by decide +kernel) (by decide +kernel)
theorem wi36 : Cond.instanceMethod yX3_init ∈ zGt := zWm 146 (by decide +kernel) (by decide +kernel)
theorem wi37 : Cond.methodLink RX8 3 objectInit ∈ zGt := zWm 19 (by decide +kernel) (by decide +kernel)
theorem wi38 : Cond.classLink RX8 11 RX6 ∈ zGt := zWm 22 (by decide +kernel) (by decide +kernel)
theorem wi39 : Cond.fieldLink RX8 13 RX8 (TX8 0).2.1 (TX8 0).2.2.1 ∈ zGt := zWm 211 (by decide +kernel) (by decide +kernel)
theorem wi40 : Cond.instantiable RX6 4 ∈ zGt := zWm 24 (by decide +kernel) (by decide +kernel)
theorem wi41 : Cond.initialized RX6 ∈ zGt := zWm 2 (by decide +kernel) (by decide +kernel)
theorem wi42 : Cond.code yX6_init cX6_init 1 none ∈ zGt := zWm 27 (by decide +kernel) (by decide +kernel)
theorem wi43 : Cond.instanceMethod yX6_init ∈ zGt := zWm 26 (by decide +kernel) (by decide +kernel)
theorem wi44 : Cond.classLink RX8 18 RX0 ∈ zGt := zWm 46 (by decide +kernel) (by decide +kernel)
theorem wi45 : Cond.instantiable RX0 4 ∈ zGt := zWm 47 (by decide +kernel) (by decide +kernel)
theorem wi46 : Cond.initialized RX0 ∈ zGt := zWm 3 (by decide +kernel) (by decide +kernel)
theorem wi47 : Cond.code yX0_init cX0_init 2 none ∈ zGt := zWm 50 (by decide +kernel) (by decide +kernel)
theorem wi48 : Cond.methodLink RX8 20 yX0_init ∈ zGt := zWm 48 (by decide +kernel) (by decide +kernel)
theorem wi49 : Cond.instanceMethod yX0_init ∈ zGt := zWm 49 (by decide +kernel) (by decide +kernel)
theorem wi50 : Cond.fieldLink RX8 21 RX8 (TX8 1).2.1 (TX8 1).2.2.1 ∈ zGt := zWm 212 (by decide +kernel) (by decide +kernel)
theorem wi51 : Cond.classLink RX8 25 RX2 ∈ zGt := zWm 127 (by decide +kernel) (by decide +kernel)
theorem wi52 : Cond.instantiable RX2 2 ∈ zGt := zWm 128 (by decide +kernel) (by decide +kernel)
theorem wi53 : Cond.initialized RX2 ∈ zGt := zWm 6 (by decide +kernel) (by decide +kernel)
theorem wi54 : Cond.code yX2_init cX2_init 1 none ∈ zGt := zWm 131 (by decide +kernel) (by decide +kernel)
theorem wi55 : Cond.instanceMethod yX2_init ∈ zGt := zWm 130 (by decide +kernel) (by decide +kernel)
theorem wi56 : Cond.fieldLink RX8 28 RX8 (TX8 2).2.1 (TX8 2).2.2.1 ∈ zGt := zWm 213 (by decide +kernel) (by decide +kernel)
theorem wi57 : Cond.classLink RX8 32 RX3 ∈ zGt := zWm 143 (by decide +kernel) (by decide +kernel)
theorem wi58 : Cond.fieldLink RX8 35 RX8 (TX8 3).2.1 (TX8 3).2.2.1 ∈ zGt := zWm 214 (by decide +kernel) (by decide +kernel)
theorem wi59 : Cond.classLink RX8 39 RX5 ∈ zGt := zWm 175 (by decide +kernel) (by decide +kernel)
theorem wi60 : Cond.instantiable RX5 8 ∈ zGt := zWm 176 (by decide +kernel) (by decide +kernel)
theorem wi61 : Cond.initialized RX5 ∈ zGt := zWm 8 (by decide +kernel) (by decide +kernel)
theorem wi62 : Cond.code yX5_init cX5_init 2 none ∈ zGt := zWm 179 (by decide +kernel) (by decide +kernel)
theorem wi63 : Cond.methodLink RX8 41 yX5_init ∈ zGt := zWm 177 (by decide +kernel) (by decide +kernel)
theorem wi64 : Cond.instanceMethod yX5_init ∈ zGt := zWm 178 (by decide +kernel) (by decide +kernel)
theorem wi65 : Cond.fieldLink RX8 42 RX8 (TX8 4).2.1 (TX8 4).2.2.1 ∈ zGt := zWm 215 (by decide +kernel) (by decide +kernel)
theorem wi66 : Cond.methodLink RX9 1 objectInit ∈ zGt := zWm 616 (by decide +kernel) (by decide +kernel)
theorem wi67 : Cond.fieldLink RX9 9 RX9 (TX9 2).2.1 (TX9 2).2.2.1 ∈ zGt := zWm 619 (by decide +kernel) (by decide +kernel)
theorem wi68 : Cond.fieldLink RX9 13 RX9 (TX9 3).2.1 (TX9 3).2.2.1 ∈ zGt := zWm 620 (by decide +kernel) (by decide +kernel)
theorem wi69 : Cond.fieldLink RX9 16 RX9 (TX9 4).2.1 (TX9 4).2.2.1 ∈ zGt := zWm 621 (by decide +kernel) (by decide +kernel)
theorem wi70 : Cond.fieldLink RX9 19 RX9 (TX9 7).2.1 (TX9 7).2.2.1 ∈ zGt := zWm 624 (by decide +kernel) (by decide +kernel)
theorem wi71 : Cond.fieldLink RX9 22 RX9 (TX9 8).2.1 (TX9 8).2.2.1 ∈ zGt := zWm 625 (by decide +kernel) (by decide +kernel)
theorem wi72 : Cond.fieldLink RX9 25 RX9 (TX9 9).2.1 (TX9 9).2.2.1 ∈ zGt := zWm 626 (by decide +kernel) (by decide +kernel)
theorem wi73 : Cond.fieldLink RX9 28 RX9 (TX9 10).2.1 (TX9 10).2.2.1 ∈ zGt := zWm 627 (by decide +kernel) (by decide +kernel)
theorem wi74 : Cond.fieldLink RX9 31 RX9 (TX9 11).2.1 (TX9 11).2.2.1 ∈ zGt := zWm 628 (by decide +kernel) (by decide +kernel)
theorem wi75 : Cond.fieldLink RX9 34 RX9 (TX9 15).2.1 (TX9 15).2.2.1 ∈ zGt := zWm 632 (by decide +kernel) (by decide +kernel)
theorem wi76 : Cond.fieldLink RX9 37 RX9 (TX9 18).2.1 (TX9 18).2.2.1 ∈ zGt := zWm 635 (by decide +kernel) (by decide +kernel)
theorem wi77 : Cond.fieldLink RX9 40 RX9 (TX9 19).2.1 (TX9 19).2.2.1 ∈ zGt := zWm 636 (by decide +kernel) (by decide +kernel)
theorem wi78 : Cond.fieldLink RX9 43 RX9 (TX9 20).2.1 (TX9 20).2.2.1 ∈ zGt := zWm 637 (by decide +kernel) (by decide +kernel)
theorem wi79 : Cond.fieldLink RX9 46 RX9 (TX9 24).2.1 (TX9 24).2.2.1 ∈ zGt := zWm 641 (by decide +kernel) (by decide +kernel)
theorem wi80 : Cond.fieldLink RX9 49 RX9 (TX9 29).2.1 (TX9 29).2.2.1 ∈ zGt := zWm 646 (by decide +kernel) (by decide +kernel)
theorem wi81 : Cond.fieldLink RX9 52 RX9 (TX9 30).2.1 (TX9 30).2.2.1 ∈ zGt := zWm 647 (by decide +kernel) (by decide +kernel)
theorem diX6_init_0 : decode cX6_init 0 = .ok (.aload_n 0, 1) := by decide +kernel
theorem diX6_init_1 : decode cX6_init 1 = .ok (.invokespecial 3, 3) := by decide +kernel
theorem diX6_init_4 : decode cX6_init 4 = .ok (.aload_n 0, 1) := by decide +kernel
theorem diX6_init_5 : decode cX6_init 5 = .ok (.bipush 60, 2) := by decide +kernel
theorem diX6_init_7 : decode cX6_init 7 = .ok (.newarray .int, 2) := by decide +kernel
theorem diX6_init_9 : decode cX6_init 9 = .ok (.putfield 9, 3) := by decide +kernel
theorem diX6_init_12 : decode cX6_init 12 = .ok (.return_, 1) := by decide +kernel
abbrev wi_X6 (h0 : Nat) (q k : Nat → Nat) : va_W := [(h0, .inr (6, [.ref (q 1), .int 0, .int 0, .int 0])), ((q 1), .inl ((k 0), 60, .inl (fun _ => 0)))]
abbrev ti_X6 (k : Nat → Nat) : List (ClassId × FieldType) := [((k 0), .int)]
abbrev at_X6 (D : va_G) (A : Nat → Prop) (h0 : Nat) (_ : Unit) (t : State) : Prop := ∃ (q k : Nat → Nat), va_P D vwCl (wi_X6 h0 q k) t.heap ∧ va_K D vwCl (ti_X6 k) t ∧ va_D A (wi_X6 h0 q k)
theorem diX4_init_0 : decode cX4_init 0 = .ok (.aload_n 0, 1) := by decide +kernel
theorem diX4_init_1 : decode cX4_init 1 = .ok (.invokespecial 3, 3) := by decide +kernel
theorem diX4_init_4 : decode cX4_init 4 = .ok (.aload_n 0, 1) := by decide +kernel
theorem diX4_init_5 : decode cX4_init 5 = .ok (.bipush 8, 2) := by decide +kernel
theorem diX4_init_7 : decode cX4_init 7 = .ok (.newarray .int, 2) := by decide +kernel
theorem diX4_init_9 : decode cX4_init 9 = .ok (.putfield 9, 3) := by decide +kernel
theorem diX4_init_12 : decode cX4_init 12 = .ok (.aload_n 0, 1) := by decide +kernel
theorem diX4_init_13 : decode cX4_init 13 = .ok (.bipush 8, 2) := by decide +kernel
theorem diX4_init_15 : decode cX4_init 15 = .ok (.newarray .int, 2) := by decide +kernel
theorem diX4_init_17 : decode cX4_init 17 = .ok (.putfield 15, 3) := by decide +kernel
theorem diX4_init_20 : decode cX4_init 20 = .ok (.return_, 1) := by decide +kernel
abbrev wi_X4 (h0 : Nat) (q k : Nat → Nat) : va_W := [(h0, .inr (4, [.ref (q 1), .ref (q 2), .int 0])), ((q 1), .inl ((k 0), 8, .inl (fun _ => 0))), ((q 2), .inl ((k 1), 8, .inl (fun _ => 0)))]
abbrev ti_X4 (k : Nat → Nat) : List (ClassId × FieldType) := [((k 0), .int), ((k 1), .int)]
abbrev at_X4 (D : va_G) (A : Nat → Prop) (h0 : Nat) (_ : Unit) (t : State) : Prop := ∃ (q k : Nat → Nat), va_P D vwCl (wi_X4 h0 q k) t.heap ∧ va_K D vwCl (ti_X4 k) t ∧ va_D A (wi_X4 h0 q k)
theorem diX1_init_0 : decode cX1_init 0 = .ok (.aload_n 0, 1) := by decide +kernel
theorem diX1_init_1 : decode cX1_init 1 = .ok (.invokespecial 3, 3) := by decide +kernel
theorem diX1_init_4 : decode cX1_init 4 = .ok (.return_, 1) := by decide +kernel
abbrev wi_X1 (h0 : Nat) (q k : Nat → Nat) : va_W := [(h0, .inr (1, [.int 0, .int 0, .int 0, .int 0, .int 0]))]
abbrev ti_X1 (k : Nat → Nat) : List (ClassId × FieldType) := []
abbrev at_X1 (D : va_G) (A : Nat → Prop) (h0 : Nat) (_ : Unit) (t : State) : Prop := ∃ (q k : Nat → Nat), va_P D vwCl (wi_X1 h0 q k) t.heap ∧ va_K D vwCl (ti_X1 k) t ∧ va_D A (wi_X1 h0 q k)
theorem diX2_init_0 : decode cX2_init 0 = .ok (.aload_n 0, 1) := by decide +kernel
theorem diX2_init_1 : decode cX2_init 1 = .ok (.invokespecial 3, 3) := by decide +kernel
theorem diX2_init_4 : decode cX2_init 4 = .ok (.aload_n 0, 1) := by decide +kernel
theorem diX2_init_5 : decode cX2_init 5 = .ok (.bipush 20, 2) := by decide +kernel
theorem diX2_init_7 : decode cX2_init 7 = .ok (.newarray .int, 2) := by decide +kernel
theorem diX2_init_9 : decode cX2_init 9 = .ok (.putfield 9, 3) := by decide +kernel
theorem diX2_init_12 : decode cX2_init 12 = .ok (.return_, 1) := by decide +kernel
abbrev wi_X2 (h0 : Nat) (q k : Nat → Nat) : va_W := [(h0, .inr (2, [.ref (q 1), .int 0])), ((q 1), .inl ((k 0), 20, .inl (fun _ => 0)))]
abbrev ti_X2 (k : Nat → Nat) : List (ClassId × FieldType) := [((k 0), .int)]
abbrev at_X2 (D : va_G) (A : Nat → Prop) (h0 : Nat) (_ : Unit) (t : State) : Prop := ∃ (q k : Nat → Nat), va_P D vwCl (wi_X2 h0 q k) t.heap ∧ va_K D vwCl (ti_X2 k) t ∧ va_D A (wi_X2 h0 q k)
theorem diX3_init_0 : decode cX3_init 0 = .ok (.aload_n 0, 1) := by decide +kernel
theorem diX3_init_1 : decode cX3_init 1 = .ok (.invokespecial 3, 3) := by decide +kernel
theorem diX3_init_4 : decode cX3_init 4 = .ok (.aload_n 0, 1) := by decide +kernel
theorem diX3_init_5 : decode cX3_init 5 = .ok (.bipush 6, 2) := by decide +kernel
theorem diX3_init_7 : decode cX3_init 7 = .ok (.newarray .int, 2) := by decide +kernel
theorem diX3_init_9 : decode cX3_init 9 = .ok (.putfield 9, 3) := by decide +kernel
theorem diX3_init_12 : decode cX3_init 12 = .ok (.aload_n 0, 1) := by decide +kernel
theorem diX3_init_13 : decode cX3_init 13 = .ok (.iconst 5, 1) := by decide +kernel
theorem diX3_init_14 : decode cX3_init 14 = .ok (.newarray .int, 2) := by decide +kernel
theorem diX3_init_16 : decode cX3_init 16 = .ok (.putfield 15, 3) := by decide +kernel
theorem diX3_init_19 : decode cX3_init 19 = .ok (.aload_n 0, 1) := by decide +kernel
theorem diX3_init_20 : decode cX3_init 20 = .ok (.bipush 6, 2) := by decide +kernel
theorem diX3_init_22 : decode cX3_init 22 = .ok (.newarray .int, 2) := by decide +kernel
theorem diX3_init_24 : decode cX3_init 24 = .ok (.putfield 18, 3) := by decide +kernel
theorem diX3_init_27 : decode cX3_init 27 = .ok (.return_, 1) := by decide +kernel
abbrev wi_X3 (h0 : Nat) (q k : Nat → Nat) : va_W := [(h0, .inr (3, [.ref (q 1), .ref (q 2), .ref (q 3), .int 0, .int 0, .int 0])), ((q 1), .inl ((k 0), 6, .inl (fun _ => 0))), ((q 2), .inl ((k 1), 5, .inl (fun _ => 0))), ((q 3), .inl ((k 2), 6, .inl (fun _ => 0)))]
abbrev ti_X3 (k : Nat → Nat) : List (ClassId × FieldType) := [((k 0), .int), ((k 1), .int), ((k 2), .int)]
abbrev at_X3 (D : va_G) (A : Nat → Prop) (h0 : Nat) (_ : Unit) (t : State) : Prop := ∃ (q k : Nat → Nat), va_P D vwCl (wi_X3 h0 q k) t.heap ∧ va_K D vwCl (ti_X3 k) t ∧ va_D A (wi_X3 h0 q k)
theorem diX0_init_0 : decode cX0_init 0 = .ok (.aload_n 0, 1) := by decide +kernel
theorem diX0_init_1 : decode cX0_init 1 = .ok (.invokespecial 3, 3) := by decide +kernel
theorem diX0_init_4 : decode cX0_init 4 = .ok (.aload_n 0, 1) := by decide +kernel
theorem diX0_init_5 : decode cX0_init 5 = .ok (.bipush 6, 2) := by decide +kernel
theorem diX0_init_7 : decode cX0_init 7 = .ok (.anewarray 9, 3) := by decide +kernel
theorem diX0_init_10 : decode cX0_init 10 = .ok (.putfield 11, 3) := by decide +kernel
theorem diX0_init_13 : decode cX0_init 13 = .ok (.aload_n 0, 1) := by decide +kernel
theorem diX0_init_14 : decode cX0_init 14 = .ok (.new 17, 3) := by decide +kernel
theorem diX0_init_17 : decode cX0_init 17 = .ok (.dup, 1) := by decide +kernel
theorem diX0_init_18 : decode cX0_init 18 = .ok (.invokespecial 19, 3) := by decide +kernel
theorem diX0_init_21 : decode cX0_init 21 = .ok (.putfield 20, 3) := by decide +kernel
theorem diX0_init_24 : decode cX0_init 24 = .ok (.iconst 0, 1) := by decide +kernel
theorem diX0_init_25 : decode cX0_init 25 = .ok (.istore_n 1, 1) := by decide +kernel
theorem diX0_init_26 : decode cX0_init 26 = .ok (.iload_n 1, 1) := by decide +kernel
theorem diX0_init_27 : decode cX0_init 27 = .ok (.bipush 6, 2) := by decide +kernel
theorem diX0_init_29 : decode cX0_init 29 = .ok (.if_icmp .ge 22, 3) := by decide +kernel
theorem diX0_init_32 : decode cX0_init 32 = .ok (.aload_n 0, 1) := by decide +kernel
theorem diX0_init_33 : decode cX0_init 33 = .ok (.getfield 11, 3) := by decide +kernel
theorem diX0_init_36 : decode cX0_init 36 = .ok (.iload_n 1, 1) := by decide +kernel
theorem diX0_init_37 : decode cX0_init 37 = .ok (.new 9, 3) := by decide +kernel
theorem diX0_init_40 : decode cX0_init 40 = .ok (.dup, 1) := by decide +kernel
theorem diX0_init_41 : decode cX0_init 41 = .ok (.invokespecial 24, 3) := by decide +kernel
theorem diX0_init_44 : decode cX0_init 44 = .ok (.aastore, 1) := by decide +kernel
theorem diX0_init_45 : decode cX0_init 45 = .ok (.iinc 1 1, 3) := by decide +kernel
theorem diX0_init_48 : decode cX0_init 48 = .ok (.goto (-22), 3) := by decide +kernel
theorem diX0_init_51 : decode cX0_init 51 = .ok (.return_, 1) := by decide +kernel
abbrev wi_X0 (h0 : Nat) (q k : Nat → Nat) : va_W := [(h0, .inr (0, [.ref (q 1), .ref (q 2), .int 0, .int 0])), ((q 1), .inl ((k 0), 6, .inr (.inr (.inr (.inr (va_up (va_up (va_up (va_up (va_up (va_up (fun _ => none) 0 (some (q 5))) 1 (some (q 6))) 2 (some (q 7))) 3 (some (q 8))) 4 (some (q 9))) 5 (some (q 10)))))))), ((q 2), .inr (4, [.ref (q 3), .ref (q 4), .int 0])), ((q 3), .inl ((k 1), 8, .inl (fun _ => 0))), ((q 4), .inl ((k 2), 8, .inl (fun _ => 0))), ((q 5), .inr (1, [.int 0, .int 0, .int 0, .int 0, .int 0])), ((q 6), .inr (1, [.int 0, .int 0, .int 0, .int 0, .int 0])), ((q 7), .inr (1, [.int 0, .int 0, .int 0, .int 0, .int 0])), ((q 8), .inr (1, [.int 0, .int 0, .int 0, .int 0, .int 0])), ((q 9), .inr (1, [.int 0, .int 0, .int 0, .int 0, .int 0])), ((q 10), .inr (1, [.int 0, .int 0, .int 0, .int 0, .int 0]))]
abbrev ti_X0 (k : Nat → Nat) : List (ClassId × FieldType) := [((k 0), .object RX1), ((k 1), .int), ((k 2), .int)]
abbrev at_X0 (D : va_G) (A : Nat → Prop) (h0 : Nat) (_ : Unit) (t : State) : Prop := ∃ (q k : Nat → Nat), va_P D vwCl (wi_X0 h0 q k) t.heap ∧ va_K D vwCl (ti_X0 k) t ∧ va_D A (wi_X0 h0 q k)
theorem diX5_init_0 : decode cX5_init 0 = .ok (.aload_n 0, 1) := by decide +kernel
theorem diX5_init_1 : decode cX5_init 1 = .ok (.invokespecial 3, 3) := by decide +kernel
theorem diX5_init_4 : decode cX5_init 4 = .ok (.aload_n 0, 1) := by decide +kernel
theorem diX5_init_5 : decode cX5_init 5 = .ok (.bipush 6, 2) := by decide +kernel
theorem diX5_init_7 : decode cX5_init 7 = .ok (.anewarray 9, 3) := by decide +kernel
theorem diX5_init_10 : decode cX5_init 10 = .ok (.putfield 11, 3) := by decide +kernel
theorem diX5_init_13 : decode cX5_init 13 = .ok (.aload_n 0, 1) := by decide +kernel
theorem diX5_init_14 : decode cX5_init 14 = .ok (.iconst 3, 1) := by decide +kernel
theorem diX5_init_15 : decode cX5_init 15 = .ok (.newarray .int, 2) := by decide +kernel
theorem diX5_init_17 : decode cX5_init 17 = .ok (.putfield 17, 3) := by decide +kernel
theorem diX5_init_20 : decode cX5_init 20 = .ok (.aload_n 0, 1) := by decide +kernel
theorem diX5_init_21 : decode cX5_init 21 = .ok (.iconst 3, 1) := by decide +kernel
theorem diX5_init_22 : decode cX5_init 22 = .ok (.newarray .int, 2) := by decide +kernel
theorem diX5_init_24 : decode cX5_init 24 = .ok (.putfield 21, 3) := by decide +kernel
theorem diX5_init_27 : decode cX5_init 27 = .ok (.iconst 0, 1) := by decide +kernel
theorem diX5_init_28 : decode cX5_init 28 = .ok (.istore_n 1, 1) := by decide +kernel
theorem diX5_init_29 : decode cX5_init 29 = .ok (.iload_n 1, 1) := by decide +kernel
theorem diX5_init_30 : decode cX5_init 30 = .ok (.iconst 5, 1) := by decide +kernel
theorem diX5_init_31 : decode cX5_init 31 = .ok (.if_icmp .gt 22, 3) := by decide +kernel
theorem diX5_init_34 : decode cX5_init 34 = .ok (.aload_n 0, 1) := by decide +kernel
theorem diX5_init_35 : decode cX5_init 35 = .ok (.getfield 11, 3) := by decide +kernel
theorem diX5_init_38 : decode cX5_init 38 = .ok (.iload_n 1, 1) := by decide +kernel
theorem diX5_init_39 : decode cX5_init 39 = .ok (.new 9, 3) := by decide +kernel
theorem diX5_init_42 : decode cX5_init 42 = .ok (.dup, 1) := by decide +kernel
theorem diX5_init_43 : decode cX5_init 43 = .ok (.invokespecial 24, 3) := by decide +kernel
theorem diX5_init_46 : decode cX5_init 46 = .ok (.aastore, 1) := by decide +kernel
theorem diX5_init_47 : decode cX5_init 47 = .ok (.iinc 1 1, 3) := by decide +kernel
theorem diX5_init_50 : decode cX5_init 50 = .ok (.goto (-21), 3) := by decide +kernel
theorem diX5_init_53 : decode cX5_init 53 = .ok (.return_, 1) := by decide +kernel
abbrev wi_X5 (h0 : Nat) (q k : Nat → Nat) : va_W := [(h0, .inr (5, [.ref (q 1), .ref (q 2), .ref (q 3), .int 0, .int 0, .int 0, .long 0, .int 0])), ((q 1), .inl ((k 0), 6, .inr (.inr (.inr (.inr (va_up (va_up (va_up (va_up (va_up (va_up (fun _ => none) 0 (some (q 4))) 1 (some (q 8))) 2 (some (q 12))) 3 (some (q 16))) 4 (some (q 20))) 5 (some (q 24)))))))), ((q 2), .inl ((k 1), 3, .inl (fun _ => 0))), ((q 3), .inl ((k 2), 3, .inl (fun _ => 0))), ((q 4), .inr (3, [.ref (q 5), .ref (q 6), .ref (q 7), .int 0, .int 0, .int 0])), ((q 5), .inl ((k 3), 6, .inl (fun _ => 0))), ((q 6), .inl ((k 4), 5, .inl (fun _ => 0))), ((q 7), .inl ((k 5), 6, .inl (fun _ => 0))), ((q 8), .inr (3, [.ref (q 9), .ref (q 10), .ref (q 11), .int 0, .int 0, .int 0])), ((q 9), .inl ((k 6), 6, .inl (fun _ => 0))), ((q 10), .inl ((k 7), 5, .inl (fun _ => 0))), ((q 11), .inl ((k 8), 6, .inl (fun _ => 0))), ((q 12), .inr (3, [.ref (q 13), .ref (q 14), .ref (q 15), .int 0, .int 0, .int 0])), ((q 13), .inl ((k 9), 6, .inl (fun _ => 0))), ((q 14), .inl ((k 10), 5, .inl (fun _ => 0))), ((q 15), .inl ((k 11), 6, .inl (fun _ => 0))), ((q 16), .inr (3, [.ref (q 17), .ref (q 18), .ref (q 19), .int 0, .int 0, .int 0])), ((q 17), .inl ((k 12), 6, .inl (fun _ => 0))), ((q 18), .inl ((k 13), 5, .inl (fun _ => 0))), ((q 19), .inl ((k 14), 6, .inl (fun _ => 0))), ((q 20), .inr (3, [.ref (q 21), .ref (q 22), .ref (q 23), .int 0, .int 0, .int 0])), ((q 21), .inl ((k 15), 6, .inl (fun _ => 0))), ((q 22), .inl ((k 16), 5, .inl (fun _ => 0))), ((q 23), .inl ((k 17), 6, .inl (fun _ => 0))), ((q 24), .inr (3, [.ref (q 25), .ref (q 26), .ref (q 27), .int 0, .int 0, .int 0])), ((q 25), .inl ((k 18), 6, .inl (fun _ => 0))), ((q 26), .inl ((k 19), 5, .inl (fun _ => 0))), ((q 27), .inl ((k 20), 6, .inl (fun _ => 0)))]
abbrev ti_X5 (k : Nat → Nat) : List (ClassId × FieldType) := [((k 0), .object RX3), ((k 1), .int), ((k 2), .int), ((k 3), .int), ((k 4), .int), ((k 5), .int), ((k 6), .int), ((k 7), .int), ((k 8), .int), ((k 9), .int), ((k 10), .int), ((k 11), .int), ((k 12), .int), ((k 13), .int), ((k 14), .int), ((k 15), .int), ((k 16), .int), ((k 17), .int), ((k 18), .int), ((k 19), .int), ((k 20), .int)]
abbrev at_X5 (D : va_G) (A : Nat → Prop) (h0 : Nat) (_ : Unit) (t : State) : Prop := ∃ (q k : Nat → Nat), va_P D vwCl (wi_X5 h0 q k) t.heap ∧ va_K D vwCl (ti_X5 k) t ∧ va_D A (wi_X5 h0 q k)
theorem diX8_init_0 : decode cX8_init 0 = .ok (.aload_n 0, 1) := by decide +kernel
theorem diX8_init_1 : decode cX8_init 1 = .ok (.invokespecial 3, 3) := by decide +kernel
theorem diX8_init_4 : decode cX8_init 4 = .ok (.aload_n 0, 1) := by decide +kernel
theorem diX8_init_5 : decode cX8_init 5 = .ok (.iconst 4, 1) := by decide +kernel
theorem diX8_init_6 : decode cX8_init 6 = .ok (.anewarray 11, 3) := by decide +kernel
theorem diX8_init_9 : decode cX8_init 9 = .ok (.putfield 13, 3) := by decide +kernel
theorem diX8_init_12 : decode cX8_init 12 = .ok (.iconst 0, 1) := by decide +kernel
theorem diX8_init_13 : decode cX8_init 13 = .ok (.istore_n 1, 1) := by decide +kernel
theorem diX8_init_14 : decode cX8_init 14 = .ok (.iload_n 1, 1) := by decide +kernel
theorem diX8_init_15 : decode cX8_init 15 = .ok (.iconst 4, 1) := by decide +kernel
theorem diX8_init_16 : decode cX8_init 16 = .ok (.if_icmp .ge 22, 3) := by decide +kernel
theorem diX8_init_19 : decode cX8_init 19 = .ok (.aload_n 0, 1) := by decide +kernel
theorem diX8_init_20 : decode cX8_init 20 = .ok (.getfield 13, 3) := by decide +kernel
theorem diX8_init_23 : decode cX8_init 23 = .ok (.iload_n 1, 1) := by decide +kernel
theorem diX8_init_24 : decode cX8_init 24 = .ok (.new 11, 3) := by decide +kernel
theorem diX8_init_27 : decode cX8_init 27 = .ok (.dup, 1) := by decide +kernel
theorem diX8_init_28 : decode cX8_init 28 = .ok (.invokespecial 17, 3) := by decide +kernel
theorem diX8_init_31 : decode cX8_init 31 = .ok (.aastore, 1) := by decide +kernel
theorem diX8_init_32 : decode cX8_init 32 = .ok (.iinc 1 1, 3) := by decide +kernel
theorem diX8_init_35 : decode cX8_init 35 = .ok (.goto (-21), 3) := by decide +kernel
theorem diX8_init_38 : decode cX8_init 38 = .ok (.aload_n 0, 1) := by decide +kernel
theorem diX8_init_39 : decode cX8_init 39 = .ok (.new 18, 3) := by decide +kernel
theorem diX8_init_42 : decode cX8_init 42 = .ok (.dup, 1) := by decide +kernel
theorem diX8_init_43 : decode cX8_init 43 = .ok (.invokespecial 20, 3) := by decide +kernel
theorem diX8_init_46 : decode cX8_init 46 = .ok (.putfield 21, 3) := by decide +kernel
theorem diX8_init_49 : decode cX8_init 49 = .ok (.aload_n 0, 1) := by decide +kernel
theorem diX8_init_50 : decode cX8_init 50 = .ok (.new 25, 3) := by decide +kernel
theorem diX8_init_53 : decode cX8_init 53 = .ok (.dup, 1) := by decide +kernel
theorem diX8_init_54 : decode cX8_init 54 = .ok (.invokespecial 27, 3) := by decide +kernel
theorem diX8_init_57 : decode cX8_init 57 = .ok (.putfield 28, 3) := by decide +kernel
theorem diX8_init_60 : decode cX8_init 60 = .ok (.aload_n 0, 1) := by decide +kernel
theorem diX8_init_61 : decode cX8_init 61 = .ok (.new 32, 3) := by decide +kernel
theorem diX8_init_64 : decode cX8_init 64 = .ok (.dup, 1) := by decide +kernel
theorem diX8_init_65 : decode cX8_init 65 = .ok (.invokespecial 34, 3) := by decide +kernel
theorem diX8_init_68 : decode cX8_init 68 = .ok (.putfield 35, 3) := by decide +kernel
theorem diX8_init_71 : decode cX8_init 71 = .ok (.aload_n 0, 1) := by decide +kernel
theorem diX8_init_72 : decode cX8_init 72 = .ok (.new 39, 3) := by decide +kernel
theorem diX8_init_75 : decode cX8_init 75 = .ok (.dup, 1) := by decide +kernel
theorem diX8_init_76 : decode cX8_init 76 = .ok (.invokespecial 41, 3) := by decide +kernel
theorem diX8_init_79 : decode cX8_init 79 = .ok (.putfield 42, 3) := by decide +kernel
theorem diX8_init_82 : decode cX8_init 82 = .ok (.return_, 1) := by decide +kernel
abbrev wi_X8 (h0 : Nat) (q k : Nat → Nat) : va_W := [(h0, .inr (7, [.ref (q 1), .ref (q 10), .ref (q 21), .ref (q 23), .ref (q 27), .int 0, .int 0])), ((q 1), .inl ((k 0), 4, .inr (.inr (.inr (.inr (va_up (va_up (va_up (va_up (fun _ => none) 0 (some (q 2))) 1 (some (q 4))) 2 (some (q 6))) 3 (some (q 8)))))))), ((q 2), .inr (6, [.ref (q 3), .int 0, .int 0, .int 0])), ((q 3), .inl ((k 1), 60, .inl (fun _ => 0))), ((q 4), .inr (6, [.ref (q 5), .int 0, .int 0, .int 0])), ((q 5), .inl ((k 2), 60, .inl (fun _ => 0))), ((q 6), .inr (6, [.ref (q 7), .int 0, .int 0, .int 0])), ((q 7), .inl ((k 3), 60, .inl (fun _ => 0))), ((q 8), .inr (6, [.ref (q 9), .int 0, .int 0, .int 0])), ((q 9), .inl ((k 4), 60, .inl (fun _ => 0))), ((q 10), .inr (0, [.ref (q 11), .ref (q 12), .int 0, .int 0])), ((q 11), .inl ((k 5), 6, .inr (.inr (.inr (.inr (va_up (va_up (va_up (va_up (va_up (va_up (fun _ => none) 0 (some (q 15))) 1 (some (q 16))) 2 (some (q 17))) 3 (some (q 18))) 4 (some (q 19))) 5 (some (q 20)))))))), ((q 12), .inr (4, [.ref (q 13), .ref (q 14), .int 0])), ((q 13), .inl ((k 6), 8, .inl (fun _ => 0))), ((q 14), .inl ((k 7), 8, .inl (fun _ => 0))), ((q 15), .inr (1, [.int 0, .int 0, .int 0, .int 0, .int 0])), ((q 16), .inr (1, [.int 0, .int 0, .int 0, .int 0, .int 0])), ((q 17), .inr (1, [.int 0, .int 0, .int 0, .int 0, .int 0])), ((q 18), .inr (1, [.int 0, .int 0, .int 0, .int 0, .int 0])), ((q 19), .inr (1, [.int 0, .int 0, .int 0, .int 0, .int 0])), ((q 20), .inr (1, [.int 0, .int 0, .int 0, .int 0, .int 0])), ((q 21), .inr (2, [.ref (q 22), .int 0])), ((q 22), .inl ((k 8), 20, .inl (fun _ => 0))), ((q 23), .inr (3, [.ref (q 24), .ref (q 25), .ref (q 26), .int 0, .int 0, .int 0])), ((q 24), .inl ((k 9), 6, .inl (fun _ => 0))), ((q 25), .inl ((k 10), 5, .inl (fun _ => 0))), ((q 26), .inl ((k 11), 6, .inl (fun _ => 0))), ((q 27), .inr (5, [.ref (q 28), .ref (q 29), .ref (q 30), .int 0, .int 0, .int 0, .long 0, .int 0])), ((q 28), .inl ((k 12), 6, .inr (.inr (.inr (.inr (va_up (va_up (va_up (va_up (va_up (va_up (fun _ => none) 0 (some (q 31))) 1 (some (q 35))) 2 (some (q 39))) 3 (some (q 43))) 4 (some (q 47))) 5 (some (q 51)))))))), ((q 29), .inl ((k 13), 3, .inl (fun _ => 0))), ((q 30), .inl ((k 14), 3, .inl (fun _ => 0))), ((q 31), .inr (3, [.ref (q 32), .ref (q 33), .ref (q 34), .int 0, .int 0, .int 0])), ((q 32), .inl ((k 15), 6, .inl (fun _ => 0))), ((q 33), .inl ((k 16), 5, .inl (fun _ => 0))), ((q 34), .inl ((k 17), 6, .inl (fun _ => 0))), ((q 35), .inr (3, [.ref (q 36), .ref (q 37), .ref (q 38), .int 0, .int 0, .int 0])), ((q 36), .inl ((k 18), 6, .inl (fun _ => 0))), ((q 37), .inl ((k 19), 5, .inl (fun _ => 0))), ((q 38), .inl ((k 20), 6, .inl (fun _ => 0))), ((q 39), .inr (3, [.ref (q 40), .ref (q 41), .ref (q 42), .int 0, .int 0, .int 0])), ((q 40), .inl ((k 21), 6, .inl (fun _ => 0))), ((q 41), .inl ((k 22), 5, .inl (fun _ => 0))), ((q 42), .inl ((k 23), 6, .inl (fun _ => 0))), ((q 43), .inr (3, [.ref (q 44), .ref (q 45), .ref (q 46), .int 0, .int 0, .int 0])), ((q 44), .inl ((k 24), 6, .inl (fun _ => 0))), ((q 45), .inl ((k 25), 5, .inl (fun _ => 0))), ((q 46), .inl ((k 26), 6, .inl (fun _ => 0))), ((q 47), .inr (3, [.ref (q 48), .ref (q 49), .ref (q 50), .int 0, .int 0, .int 0])), ((q 48), .inl ((k 27), 6, .inl (fun _ => 0))), ((q 49), .inl ((k 28), 5, .inl (fun _ => 0))), ((q 50), .inl ((k 29), 6, .inl (fun _ => 0))), ((q 51), .inr (3, [.ref (q 52), .ref (q 53), .ref (q 54), .int 0, .int 0, .int 0])), ((q 52), .inl ((k 30), 6, .inl (fun _ => 0))), ((q 53), .inl ((k 31), 5, .inl (fun _ => 0))), ((q 54), .inl ((k 32), 6, .inl (fun _ => 0)))]
abbrev ti_X8 (k : Nat → Nat) : List (ClassId × FieldType) := [((k 0), .object RX6), ((k 1), .int), ((k 2), .int), ((k 3), .int), ((k 4), .int), ((k 5), .object RX1), ((k 6), .int), ((k 7), .int), ((k 8), .int), ((k 9), .int), ((k 10), .int), ((k 11), .int), ((k 12), .object RX3), ((k 13), .int), ((k 14), .int), ((k 15), .int), ((k 16), .int), ((k 17), .int), ((k 18), .int), ((k 19), .int), ((k 20), .int), ((k 21), .int), ((k 22), .int), ((k 23), .int), ((k 24), .int), ((k 25), .int), ((k 26), .int), ((k 27), .int), ((k 28), .int), ((k 29), .int), ((k 30), .int), ((k 31), .int), ((k 32), .int)]
abbrev at_X8 (D : va_G) (A : Nat → Prop) (h0 : Nat) (_ : Unit) (t : State) : Prop := ∃ (q k : Nat → Nat), va_P D vwCl (wi_X8 h0 q k) t.heap ∧ va_K D vwCl (ti_X8 k) t ∧ va_D A (wi_X8 h0 q k)
theorem diX9_init_0 : decode cX9_init 0 = .ok (.aload_n 0, 1) := by decide +kernel
theorem diX9_init_1 : decode cX9_init 1 = .ok (.invokespecial 1, 3) := by decide +kernel
theorem diX9_init_4 : decode cX9_init 4 = .ok (.aload_n 0, 1) := by decide +kernel
theorem diX9_init_5 : decode cX9_init 5 = .ok (.iconst 4, 1) := by decide +kernel
theorem diX9_init_6 : decode cX9_init 6 = .ok (.newarray .int, 2) := by decide +kernel
theorem diX9_init_8 : decode cX9_init 8 = .ok (.dup, 1) := by decide +kernel
theorem diX9_init_9 : decode cX9_init 9 = .ok (.iconst 0, 1) := by decide +kernel
theorem diX9_init_10 : decode cX9_init 10 = .ok (.bipush (-9), 2) := by decide +kernel
theorem diX9_init_12 : decode cX9_init 12 = .ok (.iastore, 1) := by decide +kernel
theorem diX9_init_13 : decode cX9_init 13 = .ok (.dup, 1) := by decide +kernel
theorem diX9_init_14 : decode cX9_init 14 = .ok (.iconst 1, 1) := by decide +kernel
theorem diX9_init_15 : decode cX9_init 15 = .ok (.bipush (-9), 2) := by decide +kernel
theorem diX9_init_17 : decode cX9_init 17 = .ok (.iastore, 1) := by decide +kernel
theorem diX9_init_18 : decode cX9_init 18 = .ok (.dup, 1) := by decide +kernel
theorem diX9_init_19 : decode cX9_init 19 = .ok (.iconst 2, 1) := by decide +kernel
theorem diX9_init_20 : decode cX9_init 20 = .ok (.bipush (-9), 2) := by decide +kernel
theorem diX9_init_22 : decode cX9_init 22 = .ok (.iastore, 1) := by decide +kernel
theorem diX9_init_23 : decode cX9_init 23 = .ok (.dup, 1) := by decide +kernel
theorem diX9_init_24 : decode cX9_init 24 = .ok (.iconst 3, 1) := by decide +kernel
theorem diX9_init_25 : decode cX9_init 25 = .ok (.bipush (-9), 2) := by decide +kernel
theorem diX9_init_27 : decode cX9_init 27 = .ok (.iastore, 1) := by decide +kernel
theorem diX9_init_28 : decode cX9_init 28 = .ok (.putfield 9, 3) := by decide +kernel
theorem diX9_init_31 : decode cX9_init 31 = .ok (.aload_n 0, 1) := by decide +kernel
theorem diX9_init_32 : decode cX9_init 32 = .ok (.iconst 4, 1) := by decide +kernel
theorem diX9_init_33 : decode cX9_init 33 = .ok (.newarray .int, 2) := by decide +kernel
theorem diX9_init_35 : decode cX9_init 35 = .ok (.putfield 13, 3) := by decide +kernel
theorem diX9_init_38 : decode cX9_init 38 = .ok (.aload_n 0, 1) := by decide +kernel
theorem diX9_init_39 : decode cX9_init 39 = .ok (.sipush 240, 3) := by decide +kernel
theorem diX9_init_42 : decode cX9_init 42 = .ok (.newarray .int, 2) := by decide +kernel
theorem diX9_init_44 : decode cX9_init 44 = .ok (.putfield 16, 3) := by decide +kernel
theorem diX9_init_47 : decode cX9_init 47 = .ok (.aload_n 0, 1) := by decide +kernel
theorem diX9_init_48 : decode cX9_init 48 = .ok (.bipush 6, 2) := by decide +kernel
theorem diX9_init_50 : decode cX9_init 50 = .ok (.newarray .int, 2) := by decide +kernel
theorem diX9_init_52 : decode cX9_init 52 = .ok (.putfield 19, 3) := by decide +kernel
theorem diX9_init_55 : decode cX9_init 55 = .ok (.aload_n 0, 1) := by decide +kernel
theorem diX9_init_56 : decode cX9_init 56 = .ok (.bipush 6, 2) := by decide +kernel
theorem diX9_init_58 : decode cX9_init 58 = .ok (.newarray .int, 2) := by decide +kernel
theorem diX9_init_60 : decode cX9_init 60 = .ok (.putfield 22, 3) := by decide +kernel
theorem diX9_init_63 : decode cX9_init 63 = .ok (.aload_n 0, 1) := by decide +kernel
theorem diX9_init_64 : decode cX9_init 64 = .ok (.bipush 6, 2) := by decide +kernel
theorem diX9_init_66 : decode cX9_init 66 = .ok (.newarray .int, 2) := by decide +kernel
theorem diX9_init_68 : decode cX9_init 68 = .ok (.putfield 25, 3) := by decide +kernel
theorem diX9_init_71 : decode cX9_init 71 = .ok (.aload_n 0, 1) := by decide +kernel
theorem diX9_init_72 : decode cX9_init 72 = .ok (.bipush 6, 2) := by decide +kernel
theorem diX9_init_74 : decode cX9_init 74 = .ok (.newarray .int, 2) := by decide +kernel
theorem diX9_init_76 : decode cX9_init 76 = .ok (.putfield 28, 3) := by decide +kernel
theorem diX9_init_79 : decode cX9_init 79 = .ok (.aload_n 0, 1) := by decide +kernel
theorem diX9_init_80 : decode cX9_init 80 = .ok (.bipush 6, 2) := by decide +kernel
theorem diX9_init_82 : decode cX9_init 82 = .ok (.newarray .int, 2) := by decide +kernel
theorem diX9_init_84 : decode cX9_init 84 = .ok (.putfield 31, 3) := by decide +kernel
theorem diX9_init_87 : decode cX9_init 87 = .ok (.aload_n 0, 1) := by decide +kernel
theorem diX9_init_88 : decode cX9_init 88 = .ok (.bipush 30, 2) := by decide +kernel
theorem diX9_init_90 : decode cX9_init 90 = .ok (.newarray .int, 2) := by decide +kernel
theorem diX9_init_92 : decode cX9_init 92 = .ok (.putfield 34, 3) := by decide +kernel
theorem diX9_init_95 : decode cX9_init 95 = .ok (.aload_n 0, 1) := by decide +kernel
theorem diX9_init_96 : decode cX9_init 96 = .ok (.bipush 6, 2) := by decide +kernel
theorem diX9_init_98 : decode cX9_init 98 = .ok (.newarray .int, 2) := by decide +kernel
theorem diX9_init_100 : decode cX9_init 100 = .ok (.putfield 37, 3) := by decide +kernel
theorem diX9_init_103 : decode cX9_init 103 = .ok (.aload_n 0, 1) := by decide +kernel
theorem diX9_init_104 : decode cX9_init 104 = .ok (.iconst 5, 1) := by decide +kernel
theorem diX9_init_105 : decode cX9_init 105 = .ok (.newarray .int, 2) := by decide +kernel
theorem diX9_init_107 : decode cX9_init 107 = .ok (.putfield 40, 3) := by decide +kernel
theorem diX9_init_110 : decode cX9_init 110 = .ok (.aload_n 0, 1) := by decide +kernel
theorem diX9_init_111 : decode cX9_init 111 = .ok (.bipush 6, 2) := by decide +kernel
theorem diX9_init_113 : decode cX9_init 113 = .ok (.newarray .int, 2) := by decide +kernel
theorem diX9_init_115 : decode cX9_init 115 = .ok (.putfield 43, 3) := by decide +kernel
theorem diX9_init_118 : decode cX9_init 118 = .ok (.aload_n 0, 1) := by decide +kernel
theorem diX9_init_119 : decode cX9_init 119 = .ok (.bipush 20, 2) := by decide +kernel
theorem diX9_init_121 : decode cX9_init 121 = .ok (.newarray .int, 2) := by decide +kernel
theorem diX9_init_123 : decode cX9_init 123 = .ok (.putfield 46, 3) := by decide +kernel
theorem diX9_init_126 : decode cX9_init 126 = .ok (.aload_n 0, 1) := by decide +kernel
theorem diX9_init_127 : decode cX9_init 127 = .ok (.bipush 8, 2) := by decide +kernel
theorem diX9_init_129 : decode cX9_init 129 = .ok (.newarray .int, 2) := by decide +kernel
theorem diX9_init_131 : decode cX9_init 131 = .ok (.putfield 49, 3) := by decide +kernel
theorem diX9_init_134 : decode cX9_init 134 = .ok (.aload_n 0, 1) := by decide +kernel
theorem diX9_init_135 : decode cX9_init 135 = .ok (.bipush 8, 2) := by decide +kernel
theorem diX9_init_137 : decode cX9_init 137 = .ok (.newarray .int, 2) := by decide +kernel
theorem diX9_init_139 : decode cX9_init 139 = .ok (.putfield 52, 3) := by decide +kernel
theorem diX9_init_142 : decode cX9_init 142 = .ok (.return_, 1) := by decide +kernel
abbrev wi_X9 (h0 : Nat) (q k : Nat → Nat) : va_W := [(h0, .inr (8, [.int 0, .int 0, .ref (q 1), .ref (q 2), .ref (q 3), .int 0, .int 0, .ref (q 4), .ref (q 5), .ref (q 6), .ref (q 7), .ref (q 8), .int 0, .int 0, .int 0, .ref (q 9), .int 0, .int 0, .ref (q 10), .ref (q 11), .ref (q 12), .int 0, .int 0, .int 0, .ref (q 13), .int 0, .int 0, .long 0, .int 0, .ref (q 14), .ref (q 15)])), ((q 1), .inl ((k 0), 4, .inl (upd (upd (upd (upd (fun _ => 0) 0 (-9)) 1 (-9)) 2 (-9)) 3 (-9)))), ((q 2), .inl ((k 1), 4, .inl (fun _ => 0))), ((q 3), .inl ((k 2), 240, .inl (fun _ => 0))), ((q 4), .inl ((k 3), 6, .inl (fun _ => 0))), ((q 5), .inl ((k 4), 6, .inl (fun _ => 0))), ((q 6), .inl ((k 5), 6, .inl (fun _ => 0))), ((q 7), .inl ((k 6), 6, .inl (fun _ => 0))), ((q 8), .inl ((k 7), 6, .inl (fun _ => 0))), ((q 9), .inl ((k 8), 30, .inl (fun _ => 0))), ((q 10), .inl ((k 9), 6, .inl (fun _ => 0))), ((q 11), .inl ((k 10), 5, .inl (fun _ => 0))), ((q 12), .inl ((k 11), 6, .inl (fun _ => 0))), ((q 13), .inl ((k 12), 20, .inl (fun _ => 0))), ((q 14), .inl ((k 13), 8, .inl (fun _ => 0))), ((q 15), .inl ((k 14), 8, .inl (fun _ => 0)))]
abbrev ti_X9 (k : Nat → Nat) : List (ClassId × FieldType) := [((k 0), .int), ((k 1), .int), ((k 2), .int), ((k 3), .int), ((k 4), .int), ((k 5), .int), ((k 6), .int), ((k 7), .int), ((k 8), .int), ((k 9), .int), ((k 10), .int), ((k 11), .int), ((k 12), .int), ((k 13), .int), ((k 14), .int)]
abbrev at_X9 (D : va_G) (A : Nat → Prop) (h0 : Nat) (_ : Unit) (t : State) : Prop := ∃ (q k : Nat → Nat), va_P D vwCl (wi_X9 h0 q k) t.heap ∧ va_K D vwCl (ti_X9 k) t ∧ va_D A (wi_X9 h0 q k)
