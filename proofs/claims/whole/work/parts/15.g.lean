/-- so that simp takes it as a row of its own -/
theorem nr {α : Type} {a b : α} (h : a = b) : a = b := h
def zKl : List zK := [.inl 7, .inr (.inr (.inl (6, 4))), .inl 6, .inr (.inl 60), .inl 6, .inr (.inl 60), .inl 6, .inr (.inl 60), .inl 6, .inr (.inl 60), .inl 0, .inr (.inr (.inl (1, 6))), .inl 4, .inr (.inl 8), .inr (.inl 8), .inl 1, .inl 1, .inl 1, .inl 1, .inl 1, .inl 1, .inl 2, .inr (.inl 20), .inl 3, .inr (.inl 6), .inr (.inl 5), .inr (.inl 6), .inl 5, .inr (.inr (.inl (3, 6))), .inr (.inl 3), .inr (.inl 3), .inl 3, .inr (.inl 6), .inr (.inl 5), .inr (.inl 6), .inl 3, .inr (.inl 6), .inr (.inl 5), .inr (.inl 6), .inl 3, .inr (.inl 6), .inr (.inl 5), .inr (.inl 6), .inl 3, .inr (.inl 6), .inr (.inl 5), .inr (.inl 6), .inl 3, .inr (.inl 6), .inr (.inl 5), .inr (.inl 6), .inl 3, .inr (.inl 6), .inr (.inl 5), .inr (.inl 6), .inl 8, .inr (.inl 4), .inr (.inl 4), .inr (.inl 240), .inr (.inl 6), .inr (.inl 6), .inr (.inl 6), .inr (.inl 6), .inr (.inl 6), .inr (.inl 30), .inr (.inl 6), .inr (.inl 5), .inr (.inl 6), .inr (.inl 20), .inr (.inl 8), .inr (.inl 8)]
def zRl : List (List (Option Nat)) := [[some 1, some 10, some 21, some 23, some 27], [some 2, some 4, some 6, some 8], [some 3], [], [some 5], [], [some 7], [], [some 9], [], [some 11, some 12], [some 15, some 16, some 17, some 18, some 19, some 20], [some 13, some 14], [], [], [], [], [], [], [], [], [some 22], [], [some 24, some 25, some 26], [], [], [], [some 28, some 29, some 30], [some 31, some 35, some 39, some 43, some 47, some 51], [], [], [some 32, some 33, some 34], [], [], [], [some 36, some 37, some 38], [], [], [], [some 40, some 41, some 42], [], [], [], [some 44, some 45, some 46], [], [], [], [some 48, some 49, some 50], [], [], [], [some 52, some 53, some 54], [], [], [], [none, none, some 56, some 57, some 58, none, none, some 59, some 60, some 61, some 62, some 63, none, none, none, some 64, none, none, some 65, some 66, some 67, none, none, none, some 68, none, none, none, none, some 69, some 70], [], [], [], [], [], [], [], [], [], [], [], [], [], [], []]
def zStl : List Int32 := [0, 1, 2, 3, 4, 5, 10, 11, 12, 13, 14, 15, 20, 21]
def zStf : Nat → Int32 := fun j => zStl.getD j 0
def zKdf (L : Nat) (xs : Nat → Int32) (c : Nat) : zK := match zKl[c]? with
  | some k => k
  | none => if c = zSteps then .inr (.inr (.inr (14, zStf))) else .inr (.inr (.inr (L, xs)))
def zRr (c k : Nat) : Option Nat := (zRl.getD c []).getD k none
/-- the world of the law: 71 cells, the static row, the script -/
def zGG (L : Nat) (xs : Nat → Int32) : zG := (71, zKdf L xs, zRr)
theorem G_o0 {L : Nat} {xs : Nat → Int32} : zOo (zGG L xs) 0 7 := ⟨by show 0 < 71; decide, rfl⟩
theorem G_h0_0 {L : Nat} {xs : Nat → Int32} : zHr (zGG L xs) 0 0 := rfl
theorem G_r0_0 {L : Nat} {xs : Nat → Int32} : zRf (zGG L xs) 0 0 = 1 := nr rfl
theorem G_h0_1 {L : Nat} {xs : Nat → Int32} : zHr (zGG L xs) 0 1 := rfl
theorem G_r0_1 {L : Nat} {xs : Nat → Int32} : zRf (zGG L xs) 0 1 = 10 := nr rfl
theorem G_h0_2 {L : Nat} {xs : Nat → Int32} : zHr (zGG L xs) 0 2 := rfl
theorem G_r0_2 {L : Nat} {xs : Nat → Int32} : zRf (zGG L xs) 0 2 = 21 := nr rfl
theorem G_h0_3 {L : Nat} {xs : Nat → Int32} : zHr (zGG L xs) 0 3 := rfl
theorem G_r0_3 {L : Nat} {xs : Nat → Int32} : zRf (zGG L xs) 0 3 = 23 := nr rfl
theorem G_h0_4 {L : Nat} {xs : Nat → Int32} : zHr (zGG L xs) 0 4 := rfl
theorem G_r0_4 {L : Nat} {xs : Nat → Int32} : zRf (zGG L xs) 0 4 = 27 := nr rfl
theorem G_q1 {L : Nat} {xs : Nat → Int32} : zOr (zGG L xs) 1 := ⟨by show 1 < 71; decide, 6, 4, rfl⟩
theorem G_l1 {L : Nat} {xs : Nat → Int32} : zLn (zGG L xs) 1 = 4 := nr rfl
theorem G_o2 {L : Nat} {xs : Nat → Int32} : zOo (zGG L xs) 2 6 := ⟨by show 2 < 71; decide, rfl⟩
theorem G_h2_0 {L : Nat} {xs : Nat → Int32} : zHr (zGG L xs) 2 0 := rfl
theorem G_r2_0 {L : Nat} {xs : Nat → Int32} : zRf (zGG L xs) 2 0 = 3 := nr rfl
theorem G_a3 {L : Nat} {xs : Nat → Int32} : zOa (zGG L xs) 3 := ⟨by show 3 < 71; decide, 60, rfl⟩
theorem G_l3 {L : Nat} {xs : Nat → Int32} : zLn (zGG L xs) 3 = 60 := nr rfl
theorem G_o4 {L : Nat} {xs : Nat → Int32} : zOo (zGG L xs) 4 6 := ⟨by show 4 < 71; decide, rfl⟩
theorem G_h4_0 {L : Nat} {xs : Nat → Int32} : zHr (zGG L xs) 4 0 := rfl
theorem G_r4_0 {L : Nat} {xs : Nat → Int32} : zRf (zGG L xs) 4 0 = 5 := nr rfl
theorem G_a5 {L : Nat} {xs : Nat → Int32} : zOa (zGG L xs) 5 := ⟨by show 5 < 71; decide, 60, rfl⟩
theorem G_l5 {L : Nat} {xs : Nat → Int32} : zLn (zGG L xs) 5 = 60 := nr rfl
theorem G_o6 {L : Nat} {xs : Nat → Int32} : zOo (zGG L xs) 6 6 := ⟨by show 6 < 71; decide, rfl⟩
theorem G_h6_0 {L : Nat} {xs : Nat → Int32} : zHr (zGG L xs) 6 0 := rfl
theorem G_r6_0 {L : Nat} {xs : Nat → Int32} : zRf (zGG L xs) 6 0 = 7 := nr rfl
theorem G_a7 {L : Nat} {xs : Nat → Int32} : zOa (zGG L xs) 7 := ⟨by show 7 < 71; decide, 60, rfl⟩
theorem G_l7 {L : Nat} {xs : Nat → Int32} : zLn (zGG L xs) 7 = 60 := nr rfl
theorem G_o8 {L : Nat} {xs : Nat → Int32} : zOo (zGG L xs) 8 6 := ⟨by show 8 < 71; decide, rfl⟩
theorem G_h8_0 {L : Nat} {xs : Nat → Int32} : zHr (zGG L xs) 8 0 := rfl
theorem G_r8_0 {L : Nat} {xs : Nat → Int32} : zRf (zGG L xs) 8 0 = 9 := nr rfl
theorem G_a9 {L : Nat} {xs : Nat → Int32} : zOa (zGG L xs) 9 := ⟨by show 9 < 71; decide, 60, rfl⟩
theorem G_l9 {L : Nat} {xs : Nat → Int32} : zLn (zGG L xs) 9 = 60 := nr rfl
theorem G_o10 {L : Nat} {xs : Nat → Int32} : zOo (zGG L xs) 10 0 := ⟨by show 10 < 71; decide, rfl⟩
theorem G_h10_0 {L : Nat} {xs : Nat → Int32} : zHr (zGG L xs) 10 0 := rfl
theorem G_r10_0 {L : Nat} {xs : Nat → Int32} : zRf (zGG L xs) 10 0 = 11 := nr rfl
theorem G_h10_1 {L : Nat} {xs : Nat → Int32} : zHr (zGG L xs) 10 1 := rfl
theorem G_r10_1 {L : Nat} {xs : Nat → Int32} : zRf (zGG L xs) 10 1 = 12 := nr rfl
theorem G_q11 {L : Nat} {xs : Nat → Int32} : zOr (zGG L xs) 11 := ⟨by show 11 < 71; decide, 1, 6, rfl⟩
theorem G_l11 {L : Nat} {xs : Nat → Int32} : zLn (zGG L xs) 11 = 6 := nr rfl
theorem G_o12 {L : Nat} {xs : Nat → Int32} : zOo (zGG L xs) 12 4 := ⟨by show 12 < 71; decide, rfl⟩
theorem G_h12_0 {L : Nat} {xs : Nat → Int32} : zHr (zGG L xs) 12 0 := rfl
theorem G_r12_0 {L : Nat} {xs : Nat → Int32} : zRf (zGG L xs) 12 0 = 13 := nr rfl
theorem G_h12_1 {L : Nat} {xs : Nat → Int32} : zHr (zGG L xs) 12 1 := rfl
theorem G_r12_1 {L : Nat} {xs : Nat → Int32} : zRf (zGG L xs) 12 1 = 14 := nr rfl
theorem G_a13 {L : Nat} {xs : Nat → Int32} : zOa (zGG L xs) 13 := ⟨by show 13 < 71; decide, 8, rfl⟩
theorem G_l13 {L : Nat} {xs : Nat → Int32} : zLn (zGG L xs) 13 = 8 := nr rfl
theorem G_a14 {L : Nat} {xs : Nat → Int32} : zOa (zGG L xs) 14 := ⟨by show 14 < 71; decide, 8, rfl⟩
theorem G_l14 {L : Nat} {xs : Nat → Int32} : zLn (zGG L xs) 14 = 8 := nr rfl
theorem G_o15 {L : Nat} {xs : Nat → Int32} : zOo (zGG L xs) 15 1 := ⟨by show 15 < 71; decide, rfl⟩
theorem G_o16 {L : Nat} {xs : Nat → Int32} : zOo (zGG L xs) 16 1 := ⟨by show 16 < 71; decide, rfl⟩
theorem G_o17 {L : Nat} {xs : Nat → Int32} : zOo (zGG L xs) 17 1 := ⟨by show 17 < 71; decide, rfl⟩
theorem G_o18 {L : Nat} {xs : Nat → Int32} : zOo (zGG L xs) 18 1 := ⟨by show 18 < 71; decide, rfl⟩
theorem G_o19 {L : Nat} {xs : Nat → Int32} : zOo (zGG L xs) 19 1 := ⟨by show 19 < 71; decide, rfl⟩
theorem G_o20 {L : Nat} {xs : Nat → Int32} : zOo (zGG L xs) 20 1 := ⟨by show 20 < 71; decide, rfl⟩
theorem G_o21 {L : Nat} {xs : Nat → Int32} : zOo (zGG L xs) 21 2 := ⟨by show 21 < 71; decide, rfl⟩
theorem G_h21_0 {L : Nat} {xs : Nat → Int32} : zHr (zGG L xs) 21 0 := rfl
theorem G_r21_0 {L : Nat} {xs : Nat → Int32} : zRf (zGG L xs) 21 0 = 22 := nr rfl
theorem G_a22 {L : Nat} {xs : Nat → Int32} : zOa (zGG L xs) 22 := ⟨by show 22 < 71; decide, 20, rfl⟩
theorem G_l22 {L : Nat} {xs : Nat → Int32} : zLn (zGG L xs) 22 = 20 := nr rfl
theorem G_o23 {L : Nat} {xs : Nat → Int32} : zOo (zGG L xs) 23 3 := ⟨by show 23 < 71; decide, rfl⟩
theorem G_h23_0 {L : Nat} {xs : Nat → Int32} : zHr (zGG L xs) 23 0 := rfl
theorem G_r23_0 {L : Nat} {xs : Nat → Int32} : zRf (zGG L xs) 23 0 = 24 := nr rfl
theorem G_h23_1 {L : Nat} {xs : Nat → Int32} : zHr (zGG L xs) 23 1 := rfl
theorem G_r23_1 {L : Nat} {xs : Nat → Int32} : zRf (zGG L xs) 23 1 = 25 := nr rfl
theorem G_h23_2 {L : Nat} {xs : Nat → Int32} : zHr (zGG L xs) 23 2 := rfl
theorem G_r23_2 {L : Nat} {xs : Nat → Int32} : zRf (zGG L xs) 23 2 = 26 := nr rfl
theorem G_a24 {L : Nat} {xs : Nat → Int32} : zOa (zGG L xs) 24 := ⟨by show 24 < 71; decide, 6, rfl⟩
theorem G_l24 {L : Nat} {xs : Nat → Int32} : zLn (zGG L xs) 24 = 6 := nr rfl
theorem G_a25 {L : Nat} {xs : Nat → Int32} : zOa (zGG L xs) 25 := ⟨by show 25 < 71; decide, 5, rfl⟩
theorem G_l25 {L : Nat} {xs : Nat → Int32} : zLn (zGG L xs) 25 = 5 := nr rfl
theorem G_a26 {L : Nat} {xs : Nat → Int32} : zOa (zGG L xs) 26 := ⟨by show 26 < 71; decide, 6, rfl⟩
theorem G_l26 {L : Nat} {xs : Nat → Int32} : zLn (zGG L xs) 26 = 6 := nr rfl
theorem G_o27 {L : Nat} {xs : Nat → Int32} : zOo (zGG L xs) 27 5 := ⟨by show 27 < 71; decide, rfl⟩
theorem G_h27_0 {L : Nat} {xs : Nat → Int32} : zHr (zGG L xs) 27 0 := rfl
theorem G_r27_0 {L : Nat} {xs : Nat → Int32} : zRf (zGG L xs) 27 0 = 28 := nr rfl
theorem G_h27_1 {L : Nat} {xs : Nat → Int32} : zHr (zGG L xs) 27 1 := rfl
theorem G_r27_1 {L : Nat} {xs : Nat → Int32} : zRf (zGG L xs) 27 1 = 29 := nr rfl
theorem G_h27_2 {L : Nat} {xs : Nat → Int32} : zHr (zGG L xs) 27 2 := rfl
theorem G_r27_2 {L : Nat} {xs : Nat → Int32} : zRf (zGG L xs) 27 2 = 30 := nr rfl
theorem G_q28 {L : Nat} {xs : Nat → Int32} : zOr (zGG L xs) 28 := ⟨by show 28 < 71; decide, 3, 6, rfl⟩
theorem G_l28 {L : Nat} {xs : Nat → Int32} : zLn (zGG L xs) 28 = 6 := nr rfl
theorem G_a29 {L : Nat} {xs : Nat → Int32} : zOa (zGG L xs) 29 := ⟨by show 29 < 71; decide, 3, rfl⟩
theorem G_l29 {L : Nat} {xs : Nat → Int32} : zLn (zGG L xs) 29 = 3 := nr rfl
theorem G_a30 {L : Nat} {xs : Nat → Int32} : zOa (zGG L xs) 30 := ⟨by show 30 < 71; decide, 3, rfl⟩
theorem G_l30 {L : Nat} {xs : Nat → Int32} : zLn (zGG L xs) 30 = 3 := nr rfl
theorem G_o31 {L : Nat} {xs : Nat → Int32} : zOo (zGG L xs) 31 3 := ⟨by show 31 < 71; decide, rfl⟩
theorem G_h31_0 {L : Nat} {xs : Nat → Int32} : zHr (zGG L xs) 31 0 := rfl
theorem G_r31_0 {L : Nat} {xs : Nat → Int32} : zRf (zGG L xs) 31 0 = 32 := nr rfl
theorem G_h31_1 {L : Nat} {xs : Nat → Int32} : zHr (zGG L xs) 31 1 := rfl
theorem G_r31_1 {L : Nat} {xs : Nat → Int32} : zRf (zGG L xs) 31 1 = 33 := nr rfl
theorem G_h31_2 {L : Nat} {xs : Nat → Int32} : zHr (zGG L xs) 31 2 := rfl
theorem G_r31_2 {L : Nat} {xs : Nat → Int32} : zRf (zGG L xs) 31 2 = 34 := nr rfl
theorem G_a32 {L : Nat} {xs : Nat → Int32} : zOa (zGG L xs) 32 := ⟨by show 32 < 71; decide, 6, rfl⟩
theorem G_l32 {L : Nat} {xs : Nat → Int32} : zLn (zGG L xs) 32 = 6 := nr rfl
theorem G_a33 {L : Nat} {xs : Nat → Int32} : zOa (zGG L xs) 33 := ⟨by show 33 < 71; decide, 5, rfl⟩
theorem G_l33 {L : Nat} {xs : Nat → Int32} : zLn (zGG L xs) 33 = 5 := nr rfl
theorem G_a34 {L : Nat} {xs : Nat → Int32} : zOa (zGG L xs) 34 := ⟨by show 34 < 71; decide, 6, rfl⟩
theorem G_l34 {L : Nat} {xs : Nat → Int32} : zLn (zGG L xs) 34 = 6 := nr rfl
theorem G_o35 {L : Nat} {xs : Nat → Int32} : zOo (zGG L xs) 35 3 := ⟨by show 35 < 71; decide, rfl⟩
theorem G_h35_0 {L : Nat} {xs : Nat → Int32} : zHr (zGG L xs) 35 0 := rfl
theorem G_r35_0 {L : Nat} {xs : Nat → Int32} : zRf (zGG L xs) 35 0 = 36 := nr rfl
theorem G_h35_1 {L : Nat} {xs : Nat → Int32} : zHr (zGG L xs) 35 1 := rfl
theorem G_r35_1 {L : Nat} {xs : Nat → Int32} : zRf (zGG L xs) 35 1 = 37 := nr rfl
theorem G_h35_2 {L : Nat} {xs : Nat → Int32} : zHr (zGG L xs) 35 2 := rfl
theorem G_r35_2 {L : Nat} {xs : Nat → Int32} : zRf (zGG L xs) 35 2 = 38 := nr rfl
theorem G_a36 {L : Nat} {xs : Nat → Int32} : zOa (zGG L xs) 36 := ⟨by show 36 < 71; decide, 6, rfl⟩
theorem G_l36 {L : Nat} {xs : Nat → Int32} : zLn (zGG L xs) 36 = 6 := nr rfl
theorem G_a37 {L : Nat} {xs : Nat → Int32} : zOa (zGG L xs) 37 := ⟨by show 37 < 71; decide, 5, rfl⟩
theorem G_l37 {L : Nat} {xs : Nat → Int32} : zLn (zGG L xs) 37 = 5 := nr rfl
theorem G_a38 {L : Nat} {xs : Nat → Int32} : zOa (zGG L xs) 38 := ⟨by show 38 < 71; decide, 6, rfl⟩
theorem G_l38 {L : Nat} {xs : Nat → Int32} : zLn (zGG L xs) 38 = 6 := nr rfl
theorem G_o39 {L : Nat} {xs : Nat → Int32} : zOo (zGG L xs) 39 3 := ⟨by show 39 < 71; decide, rfl⟩
theorem G_h39_0 {L : Nat} {xs : Nat → Int32} : zHr (zGG L xs) 39 0 := rfl
theorem G_r39_0 {L : Nat} {xs : Nat → Int32} : zRf (zGG L xs) 39 0 = 40 := nr rfl
theorem G_h39_1 {L : Nat} {xs : Nat → Int32} : zHr (zGG L xs) 39 1 := rfl
theorem G_r39_1 {L : Nat} {xs : Nat → Int32} : zRf (zGG L xs) 39 1 = 41 := nr rfl
theorem G_h39_2 {L : Nat} {xs : Nat → Int32} : zHr (zGG L xs) 39 2 := rfl
theorem G_r39_2 {L : Nat} {xs : Nat → Int32} : zRf (zGG L xs) 39 2 = 42 := nr rfl
theorem G_a40 {L : Nat} {xs : Nat → Int32} : zOa (zGG L xs) 40 := ⟨by show 40 < 71; decide, 6, rfl⟩
theorem G_l40 {L : Nat} {xs : Nat → Int32} : zLn (zGG L xs) 40 = 6 := nr rfl
theorem G_a41 {L : Nat} {xs : Nat → Int32} : zOa (zGG L xs) 41 := ⟨by show 41 < 71; decide, 5, rfl⟩
theorem G_l41 {L : Nat} {xs : Nat → Int32} : zLn (zGG L xs) 41 = 5 := nr rfl
theorem G_a42 {L : Nat} {xs : Nat → Int32} : zOa (zGG L xs) 42 := ⟨by show 42 < 71; decide, 6, rfl⟩
theorem G_l42 {L : Nat} {xs : Nat → Int32} : zLn (zGG L xs) 42 = 6 := nr rfl
theorem G_o43 {L : Nat} {xs : Nat → Int32} : zOo (zGG L xs) 43 3 := ⟨by show 43 < 71; decide, rfl⟩
theorem G_h43_0 {L : Nat} {xs : Nat → Int32} : zHr (zGG L xs) 43 0 := rfl
theorem G_r43_0 {L : Nat} {xs : Nat → Int32} : zRf (zGG L xs) 43 0 = 44 := nr rfl
theorem G_h43_1 {L : Nat} {xs : Nat → Int32} : zHr (zGG L xs) 43 1 := rfl
theorem G_r43_1 {L : Nat} {xs : Nat → Int32} : zRf (zGG L xs) 43 1 = 45 := nr rfl
theorem G_h43_2 {L : Nat} {xs : Nat → Int32} : zHr (zGG L xs) 43 2 := rfl
theorem G_r43_2 {L : Nat} {xs : Nat → Int32} : zRf (zGG L xs) 43 2 = 46 := nr rfl
theorem G_a44 {L : Nat} {xs : Nat → Int32} : zOa (zGG L xs) 44 := ⟨by show 44 < 71; decide, 6, rfl⟩
theorem G_l44 {L : Nat} {xs : Nat → Int32} : zLn (zGG L xs) 44 = 6 := nr rfl
theorem G_a45 {L : Nat} {xs : Nat → Int32} : zOa (zGG L xs) 45 := ⟨by show 45 < 71; decide, 5, rfl⟩
theorem G_l45 {L : Nat} {xs : Nat → Int32} : zLn (zGG L xs) 45 = 5 := nr rfl
theorem G_a46 {L : Nat} {xs : Nat → Int32} : zOa (zGG L xs) 46 := ⟨by show 46 < 71; decide, 6, rfl⟩
theorem G_l46 {L : Nat} {xs : Nat → Int32} : zLn (zGG L xs) 46 = 6 := nr rfl
theorem G_o47 {L : Nat} {xs : Nat → Int32} : zOo (zGG L xs) 47 3 := ⟨by show 47 < 71; decide, rfl⟩
theorem G_h47_0 {L : Nat} {xs : Nat → Int32} : zHr (zGG L xs) 47 0 := rfl
theorem G_r47_0 {L : Nat} {xs : Nat → Int32} : zRf (zGG L xs) 47 0 = 48 := nr rfl
theorem G_h47_1 {L : Nat} {xs : Nat → Int32} : zHr (zGG L xs) 47 1 := rfl
theorem G_r47_1 {L : Nat} {xs : Nat → Int32} : zRf (zGG L xs) 47 1 = 49 := nr rfl
theorem G_h47_2 {L : Nat} {xs : Nat → Int32} : zHr (zGG L xs) 47 2 := rfl
theorem G_r47_2 {L : Nat} {xs : Nat → Int32} : zRf (zGG L xs) 47 2 = 50 := nr rfl
theorem G_a48 {L : Nat} {xs : Nat → Int32} : zOa (zGG L xs) 48 := ⟨by show 48 < 71; decide, 6, rfl⟩
theorem G_l48 {L : Nat} {xs : Nat → Int32} : zLn (zGG L xs) 48 = 6 := nr rfl
theorem G_a49 {L : Nat} {xs : Nat → Int32} : zOa (zGG L xs) 49 := ⟨by show 49 < 71; decide, 5, rfl⟩
theorem G_l49 {L : Nat} {xs : Nat → Int32} : zLn (zGG L xs) 49 = 5 := nr rfl
theorem G_a50 {L : Nat} {xs : Nat → Int32} : zOa (zGG L xs) 50 := ⟨by show 50 < 71; decide, 6, rfl⟩
theorem G_l50 {L : Nat} {xs : Nat → Int32} : zLn (zGG L xs) 50 = 6 := nr rfl
theorem G_o51 {L : Nat} {xs : Nat → Int32} : zOo (zGG L xs) 51 3 := ⟨by show 51 < 71; decide, rfl⟩
theorem G_h51_0 {L : Nat} {xs : Nat → Int32} : zHr (zGG L xs) 51 0 := rfl
theorem G_r51_0 {L : Nat} {xs : Nat → Int32} : zRf (zGG L xs) 51 0 = 52 := nr rfl
theorem G_h51_1 {L : Nat} {xs : Nat → Int32} : zHr (zGG L xs) 51 1 := rfl
theorem G_r51_1 {L : Nat} {xs : Nat → Int32} : zRf (zGG L xs) 51 1 = 53 := nr rfl
theorem G_h51_2 {L : Nat} {xs : Nat → Int32} : zHr (zGG L xs) 51 2 := rfl
theorem G_r51_2 {L : Nat} {xs : Nat → Int32} : zRf (zGG L xs) 51 2 = 54 := nr rfl
theorem G_a52 {L : Nat} {xs : Nat → Int32} : zOa (zGG L xs) 52 := ⟨by show 52 < 71; decide, 6, rfl⟩
theorem G_l52 {L : Nat} {xs : Nat → Int32} : zLn (zGG L xs) 52 = 6 := nr rfl
theorem G_a53 {L : Nat} {xs : Nat → Int32} : zOa (zGG L xs) 53 := ⟨by show 53 < 71; decide, 5, rfl⟩
theorem G_l53 {L : Nat} {xs : Nat → Int32} : zLn (zGG L xs) 53 = 5 := nr rfl
theorem G_a54 {L : Nat} {xs : Nat → Int32} : zOa (zGG L xs) 54 := ⟨by show 54 < 71; decide, 6, rfl⟩
theorem G_l54 {L : Nat} {xs : Nat → Int32} : zLn (zGG L xs) 54 = 6 := nr rfl
theorem G_o55 {L : Nat} {xs : Nat → Int32} : zOo (zGG L xs) 55 8 := ⟨by show 55 < 71; decide, rfl⟩
theorem G_h55_2 {L : Nat} {xs : Nat → Int32} : zHr (zGG L xs) 55 2 := rfl
theorem G_r55_2 {L : Nat} {xs : Nat → Int32} : zRf (zGG L xs) 55 2 = 56 := nr rfl
theorem G_h55_3 {L : Nat} {xs : Nat → Int32} : zHr (zGG L xs) 55 3 := rfl
theorem G_r55_3 {L : Nat} {xs : Nat → Int32} : zRf (zGG L xs) 55 3 = 57 := nr rfl
theorem G_h55_4 {L : Nat} {xs : Nat → Int32} : zHr (zGG L xs) 55 4 := rfl
theorem G_r55_4 {L : Nat} {xs : Nat → Int32} : zRf (zGG L xs) 55 4 = 58 := nr rfl
theorem G_h55_7 {L : Nat} {xs : Nat → Int32} : zHr (zGG L xs) 55 7 := rfl
theorem G_r55_7 {L : Nat} {xs : Nat → Int32} : zRf (zGG L xs) 55 7 = 59 := nr rfl
theorem G_h55_8 {L : Nat} {xs : Nat → Int32} : zHr (zGG L xs) 55 8 := rfl
theorem G_r55_8 {L : Nat} {xs : Nat → Int32} : zRf (zGG L xs) 55 8 = 60 := nr rfl
theorem G_h55_9 {L : Nat} {xs : Nat → Int32} : zHr (zGG L xs) 55 9 := rfl
theorem G_r55_9 {L : Nat} {xs : Nat → Int32} : zRf (zGG L xs) 55 9 = 61 := nr rfl
theorem G_h55_10 {L : Nat} {xs : Nat → Int32} : zHr (zGG L xs) 55 10 := rfl
theorem G_r55_10 {L : Nat} {xs : Nat → Int32} : zRf (zGG L xs) 55 10 = 62 := nr rfl
theorem G_h55_11 {L : Nat} {xs : Nat → Int32} : zHr (zGG L xs) 55 11 := rfl
theorem G_r55_11 {L : Nat} {xs : Nat → Int32} : zRf (zGG L xs) 55 11 = 63 := nr rfl
theorem G_h55_15 {L : Nat} {xs : Nat → Int32} : zHr (zGG L xs) 55 15 := rfl
theorem G_r55_15 {L : Nat} {xs : Nat → Int32} : zRf (zGG L xs) 55 15 = 64 := nr rfl
theorem G_h55_18 {L : Nat} {xs : Nat → Int32} : zHr (zGG L xs) 55 18 := rfl
theorem G_r55_18 {L : Nat} {xs : Nat → Int32} : zRf (zGG L xs) 55 18 = 65 := nr rfl
theorem G_h55_19 {L : Nat} {xs : Nat → Int32} : zHr (zGG L xs) 55 19 := rfl
theorem G_r55_19 {L : Nat} {xs : Nat → Int32} : zRf (zGG L xs) 55 19 = 66 := nr rfl
theorem G_h55_20 {L : Nat} {xs : Nat → Int32} : zHr (zGG L xs) 55 20 := rfl
theorem G_r55_20 {L : Nat} {xs : Nat → Int32} : zRf (zGG L xs) 55 20 = 67 := nr rfl
theorem G_h55_24 {L : Nat} {xs : Nat → Int32} : zHr (zGG L xs) 55 24 := rfl
theorem G_r55_24 {L : Nat} {xs : Nat → Int32} : zRf (zGG L xs) 55 24 = 68 := nr rfl
theorem G_h55_29 {L : Nat} {xs : Nat → Int32} : zHr (zGG L xs) 55 29 := rfl
theorem G_r55_29 {L : Nat} {xs : Nat → Int32} : zRf (zGG L xs) 55 29 = 69 := nr rfl
theorem G_h55_30 {L : Nat} {xs : Nat → Int32} : zHr (zGG L xs) 55 30 := rfl
theorem G_r55_30 {L : Nat} {xs : Nat → Int32} : zRf (zGG L xs) 55 30 = 70 := nr rfl
theorem G_a56 {L : Nat} {xs : Nat → Int32} : zOa (zGG L xs) 56 := ⟨by show 56 < 71; decide, 4, rfl⟩
theorem G_l56 {L : Nat} {xs : Nat → Int32} : zLn (zGG L xs) 56 = 4 := nr rfl
theorem G_a57 {L : Nat} {xs : Nat → Int32} : zOa (zGG L xs) 57 := ⟨by show 57 < 71; decide, 4, rfl⟩
theorem G_l57 {L : Nat} {xs : Nat → Int32} : zLn (zGG L xs) 57 = 4 := nr rfl
theorem G_a58 {L : Nat} {xs : Nat → Int32} : zOa (zGG L xs) 58 := ⟨by show 58 < 71; decide, 240, rfl⟩
theorem G_l58 {L : Nat} {xs : Nat → Int32} : zLn (zGG L xs) 58 = 240 := nr rfl
theorem G_a59 {L : Nat} {xs : Nat → Int32} : zOa (zGG L xs) 59 := ⟨by show 59 < 71; decide, 6, rfl⟩
theorem G_l59 {L : Nat} {xs : Nat → Int32} : zLn (zGG L xs) 59 = 6 := nr rfl
theorem G_a60 {L : Nat} {xs : Nat → Int32} : zOa (zGG L xs) 60 := ⟨by show 60 < 71; decide, 6, rfl⟩
theorem G_l60 {L : Nat} {xs : Nat → Int32} : zLn (zGG L xs) 60 = 6 := nr rfl
theorem G_a61 {L : Nat} {xs : Nat → Int32} : zOa (zGG L xs) 61 := ⟨by show 61 < 71; decide, 6, rfl⟩
theorem G_l61 {L : Nat} {xs : Nat → Int32} : zLn (zGG L xs) 61 = 6 := nr rfl
theorem G_a62 {L : Nat} {xs : Nat → Int32} : zOa (zGG L xs) 62 := ⟨by show 62 < 71; decide, 6, rfl⟩
theorem G_l62 {L : Nat} {xs : Nat → Int32} : zLn (zGG L xs) 62 = 6 := nr rfl
theorem G_a63 {L : Nat} {xs : Nat → Int32} : zOa (zGG L xs) 63 := ⟨by show 63 < 71; decide, 6, rfl⟩
theorem G_l63 {L : Nat} {xs : Nat → Int32} : zLn (zGG L xs) 63 = 6 := nr rfl
theorem G_a64 {L : Nat} {xs : Nat → Int32} : zOa (zGG L xs) 64 := ⟨by show 64 < 71; decide, 30, rfl⟩
theorem G_l64 {L : Nat} {xs : Nat → Int32} : zLn (zGG L xs) 64 = 30 := nr rfl
theorem G_a65 {L : Nat} {xs : Nat → Int32} : zOa (zGG L xs) 65 := ⟨by show 65 < 71; decide, 6, rfl⟩
theorem G_l65 {L : Nat} {xs : Nat → Int32} : zLn (zGG L xs) 65 = 6 := nr rfl
theorem G_a66 {L : Nat} {xs : Nat → Int32} : zOa (zGG L xs) 66 := ⟨by show 66 < 71; decide, 5, rfl⟩
theorem G_l66 {L : Nat} {xs : Nat → Int32} : zLn (zGG L xs) 66 = 5 := nr rfl
theorem G_a67 {L : Nat} {xs : Nat → Int32} : zOa (zGG L xs) 67 := ⟨by show 67 < 71; decide, 6, rfl⟩
theorem G_l67 {L : Nat} {xs : Nat → Int32} : zLn (zGG L xs) 67 = 6 := nr rfl
theorem G_a68 {L : Nat} {xs : Nat → Int32} : zOa (zGG L xs) 68 := ⟨by show 68 < 71; decide, 20, rfl⟩
theorem G_l68 {L : Nat} {xs : Nat → Int32} : zLn (zGG L xs) 68 = 20 := nr rfl
theorem G_a69 {L : Nat} {xs : Nat → Int32} : zOa (zGG L xs) 69 := ⟨by show 69 < 71; decide, 8, rfl⟩
theorem G_l69 {L : Nat} {xs : Nat → Int32} : zLn (zGG L xs) 69 = 8 := nr rfl
theorem G_a70 {L : Nat} {xs : Nat → Int32} : zOa (zGG L xs) 70 := ⟨by show 70 < 71; decide, 8, rfl⟩
theorem G_l70 {L : Nat} {xs : Nat → Int32} : zLn (zGG L xs) 70 = 8 := nr rfl
theorem G_sh_o {L : Nat} {xs : Nat → Int32} {k : Nat} (hk : k < 4) : zOo (zGG L xs) (2 * k + 2) 6 := by
  rcases (show k = 0 ∨ k = 1 ∨ k = 2 ∨ k = 3 by omega) with rfl | rfl | rfl | rfl <;> first | rfl | exact ⟨Nat.le_of_ble_eq_true rfl, rfl⟩ | exact ⟨Nat.le_of_ble_eq_true rfl, _, rfl⟩
theorem G_sh_h {L : Nat} {xs : Nat → Int32} {k : Nat} (hk : k < 4) : zHr (zGG L xs) (2 * k + 2) 0 := by
  rcases (show k = 0 ∨ k = 1 ∨ k = 2 ∨ k = 3 by omega) with rfl | rfl | rfl | rfl <;> first | rfl | exact ⟨Nat.le_of_ble_eq_true rfl, rfl⟩ | exact ⟨Nat.le_of_ble_eq_true rfl, _, rfl⟩
theorem G_sh_r {L : Nat} {xs : Nat → Int32} {k : Nat} (hk : k < 4) : zRf (zGG L xs) (2 * k + 2) 0 = 2 * k + 3 := by
  rcases (show k = 0 ∨ k = 1 ∨ k = 2 ∨ k = 3 by omega) with rfl | rfl | rfl | rfl <;> first | rfl | exact ⟨Nat.le_of_ble_eq_true rfl, rfl⟩ | exact ⟨Nat.le_of_ble_eq_true rfl, _, rfl⟩
theorem G_sh_a {L : Nat} {xs : Nat → Int32} {k : Nat} (hk : k < 4) : zOa (zGG L xs) (2 * k + 3) := by
  rcases (show k = 0 ∨ k = 1 ∨ k = 2 ∨ k = 3 by omega) with rfl | rfl | rfl | rfl <;> first | rfl | exact ⟨Nat.le_of_ble_eq_true rfl, rfl⟩ | exact ⟨Nat.le_of_ble_eq_true rfl, _, rfl⟩
theorem G_sh_l {L : Nat} {xs : Nat → Int32} {k : Nat} (hk : k < 4) : zLn (zGG L xs) (2 * k + 3) = 60 := by
  rcases (show k = 0 ∨ k = 1 ∨ k = 2 ∨ k = 3 by omega) with rfl | rfl | rfl | rfl <;> first | rfl | exact ⟨Nat.le_of_ble_eq_true rfl, rfl⟩ | exact ⟨Nat.le_of_ble_eq_true rfl, _, rfl⟩
theorem G_1h {L : Nat} {xs : Nat → Int32} {k : Nat} (hk : k < 4) : zHr (zGG L xs) 1 k := by
  rcases (show k = 0 ∨ k = 1 ∨ k = 2 ∨ k = 3 by omega) with rfl | rfl | rfl | rfl <;> first | rfl | exact ⟨Nat.le_of_ble_eq_true rfl, rfl⟩ | exact ⟨Nat.le_of_ble_eq_true rfl, _, rfl⟩
theorem G_1r {L : Nat} {xs : Nat → Int32} {k : Nat} (hk : k < 4) : zRf (zGG L xs) 1 k = 2 * k + 2 := by
  rcases (show k = 0 ∨ k = 1 ∨ k = 2 ∨ k = 3 by omega) with rfl | rfl | rfl | rfl <;> first | rfl | exact ⟨Nat.le_of_ble_eq_true rfl, rfl⟩ | exact ⟨Nat.le_of_ble_eq_true rfl, _, rfl⟩
theorem G_11h {L : Nat} {xs : Nat → Int32} {k : Nat} (hk : k < 6) : zHr (zGG L xs) 11 k := by
  rcases (show k = 0 ∨ k = 1 ∨ k = 2 ∨ k = 3 ∨ k = 4 ∨ k = 5 by omega) with rfl | rfl | rfl | rfl | rfl | rfl <;> first | rfl | exact ⟨Nat.le_of_ble_eq_true rfl, rfl⟩ | exact ⟨Nat.le_of_ble_eq_true rfl, _, rfl⟩
theorem G_11r {L : Nat} {xs : Nat → Int32} {k : Nat} (hk : k < 6) : zRf (zGG L xs) 11 k = k + 15 := by
  rcases (show k = 0 ∨ k = 1 ∨ k = 2 ∨ k = 3 ∨ k = 4 ∨ k = 5 by omega) with rfl | rfl | rfl | rfl | rfl | rfl <;> first | rfl | exact ⟨Nat.le_of_ble_eq_true rfl, rfl⟩ | exact ⟨Nat.le_of_ble_eq_true rfl, _, rfl⟩
theorem G_pl_o {L : Nat} {xs : Nat → Int32} {k : Nat} (hk : k < 6) : zOo (zGG L xs) (k + 15) 1 := by
  rcases (show k = 0 ∨ k = 1 ∨ k = 2 ∨ k = 3 ∨ k = 4 ∨ k = 5 by omega) with rfl | rfl | rfl | rfl | rfl | rfl <;> first | rfl | exact ⟨Nat.le_of_ble_eq_true rfl, rfl⟩ | exact ⟨Nat.le_of_ble_eq_true rfl, _, rfl⟩
theorem G_28h {L : Nat} {xs : Nat → Int32} {k : Nat} (hk : k < 6) : zHr (zGG L xs) 28 k := by
  rcases (show k = 0 ∨ k = 1 ∨ k = 2 ∨ k = 3 ∨ k = 4 ∨ k = 5 by omega) with rfl | rfl | rfl | rfl | rfl | rfl <;> first | rfl | exact ⟨Nat.le_of_ble_eq_true rfl, rfl⟩ | exact ⟨Nat.le_of_ble_eq_true rfl, _, rfl⟩
theorem G_28r {L : Nat} {xs : Nat → Int32} {k : Nat} (hk : k < 6) : zRf (zGG L xs) 28 k = 4 * k + 31 := by
  rcases (show k = 0 ∨ k = 1 ∨ k = 2 ∨ k = 3 ∨ k = 4 ∨ k = 5 by omega) with rfl | rfl | rfl | rfl | rfl | rfl <;> first | rfl | exact ⟨Nat.le_of_ble_eq_true rfl, rfl⟩ | exact ⟨Nat.le_of_ble_eq_true rfl, _, rfl⟩
theorem G_pg_o {L : Nat} {xs : Nat → Int32} {k : Nat} (hk : k < 6) : zOo (zGG L xs) (4 * k + 31) 3 := by
  rcases (show k = 0 ∨ k = 1 ∨ k = 2 ∨ k = 3 ∨ k = 4 ∨ k = 5 by omega) with rfl | rfl | rfl | rfl | rfl | rfl <;> first | rfl | exact ⟨Nat.le_of_ble_eq_true rfl, rfl⟩ | exact ⟨Nat.le_of_ble_eq_true rfl, _, rfl⟩
theorem G_pg_h0 {L : Nat} {xs : Nat → Int32} {k : Nat} (hk : k < 6) : zHr (zGG L xs) (4 * k + 31) 0 := by
  rcases (show k = 0 ∨ k = 1 ∨ k = 2 ∨ k = 3 ∨ k = 4 ∨ k = 5 by omega) with rfl | rfl | rfl | rfl | rfl | rfl <;> first | rfl | exact ⟨Nat.le_of_ble_eq_true rfl, rfl⟩ | exact ⟨Nat.le_of_ble_eq_true rfl, _, rfl⟩
theorem G_pg_r0 {L : Nat} {xs : Nat → Int32} {k : Nat} (hk : k < 6) : zRf (zGG L xs) (4 * k + 31) 0 = 4 * k + 32 := by
  rcases (show k = 0 ∨ k = 1 ∨ k = 2 ∨ k = 3 ∨ k = 4 ∨ k = 5 by omega) with rfl | rfl | rfl | rfl | rfl | rfl <;> first | rfl | exact ⟨Nat.le_of_ble_eq_true rfl, rfl⟩ | exact ⟨Nat.le_of_ble_eq_true rfl, _, rfl⟩
theorem G_pg_a0 {L : Nat} {xs : Nat → Int32} {k : Nat} (hk : k < 6) : zOa (zGG L xs) (4 * k + 32) := by
  rcases (show k = 0 ∨ k = 1 ∨ k = 2 ∨ k = 3 ∨ k = 4 ∨ k = 5 by omega) with rfl | rfl | rfl | rfl | rfl | rfl <;> first | rfl | exact ⟨Nat.le_of_ble_eq_true rfl, rfl⟩ | exact ⟨Nat.le_of_ble_eq_true rfl, _, rfl⟩
theorem G_pg_l0 {L : Nat} {xs : Nat → Int32} {k : Nat} (hk : k < 6) : zLn (zGG L xs) (4 * k + 32) = 6 := by
  rcases (show k = 0 ∨ k = 1 ∨ k = 2 ∨ k = 3 ∨ k = 4 ∨ k = 5 by omega) with rfl | rfl | rfl | rfl | rfl | rfl <;> first | rfl | exact ⟨Nat.le_of_ble_eq_true rfl, rfl⟩ | exact ⟨Nat.le_of_ble_eq_true rfl, _, rfl⟩
theorem G_pg_h1 {L : Nat} {xs : Nat → Int32} {k : Nat} (hk : k < 6) : zHr (zGG L xs) (4 * k + 31) 1 := by
  rcases (show k = 0 ∨ k = 1 ∨ k = 2 ∨ k = 3 ∨ k = 4 ∨ k = 5 by omega) with rfl | rfl | rfl | rfl | rfl | rfl <;> first | rfl | exact ⟨Nat.le_of_ble_eq_true rfl, rfl⟩ | exact ⟨Nat.le_of_ble_eq_true rfl, _, rfl⟩
theorem G_pg_r1 {L : Nat} {xs : Nat → Int32} {k : Nat} (hk : k < 6) : zRf (zGG L xs) (4 * k + 31) 1 = 4 * k + 33 := by
  rcases (show k = 0 ∨ k = 1 ∨ k = 2 ∨ k = 3 ∨ k = 4 ∨ k = 5 by omega) with rfl | rfl | rfl | rfl | rfl | rfl <;> first | rfl | exact ⟨Nat.le_of_ble_eq_true rfl, rfl⟩ | exact ⟨Nat.le_of_ble_eq_true rfl, _, rfl⟩
theorem G_pg_a1 {L : Nat} {xs : Nat → Int32} {k : Nat} (hk : k < 6) : zOa (zGG L xs) (4 * k + 33) := by
  rcases (show k = 0 ∨ k = 1 ∨ k = 2 ∨ k = 3 ∨ k = 4 ∨ k = 5 by omega) with rfl | rfl | rfl | rfl | rfl | rfl <;> first | rfl | exact ⟨Nat.le_of_ble_eq_true rfl, rfl⟩ | exact ⟨Nat.le_of_ble_eq_true rfl, _, rfl⟩
theorem G_pg_l1 {L : Nat} {xs : Nat → Int32} {k : Nat} (hk : k < 6) : zLn (zGG L xs) (4 * k + 33) = 5 := by
  rcases (show k = 0 ∨ k = 1 ∨ k = 2 ∨ k = 3 ∨ k = 4 ∨ k = 5 by omega) with rfl | rfl | rfl | rfl | rfl | rfl <;> first | rfl | exact ⟨Nat.le_of_ble_eq_true rfl, rfl⟩ | exact ⟨Nat.le_of_ble_eq_true rfl, _, rfl⟩
theorem G_pg_h2 {L : Nat} {xs : Nat → Int32} {k : Nat} (hk : k < 6) : zHr (zGG L xs) (4 * k + 31) 2 := by
  rcases (show k = 0 ∨ k = 1 ∨ k = 2 ∨ k = 3 ∨ k = 4 ∨ k = 5 by omega) with rfl | rfl | rfl | rfl | rfl | rfl <;> first | rfl | exact ⟨Nat.le_of_ble_eq_true rfl, rfl⟩ | exact ⟨Nat.le_of_ble_eq_true rfl, _, rfl⟩
theorem G_pg_r2 {L : Nat} {xs : Nat → Int32} {k : Nat} (hk : k < 6) : zRf (zGG L xs) (4 * k + 31) 2 = 4 * k + 34 := by
  rcases (show k = 0 ∨ k = 1 ∨ k = 2 ∨ k = 3 ∨ k = 4 ∨ k = 5 by omega) with rfl | rfl | rfl | rfl | rfl | rfl <;> first | rfl | exact ⟨Nat.le_of_ble_eq_true rfl, rfl⟩ | exact ⟨Nat.le_of_ble_eq_true rfl, _, rfl⟩
theorem G_pg_a2 {L : Nat} {xs : Nat → Int32} {k : Nat} (hk : k < 6) : zOa (zGG L xs) (4 * k + 34) := by
  rcases (show k = 0 ∨ k = 1 ∨ k = 2 ∨ k = 3 ∨ k = 4 ∨ k = 5 by omega) with rfl | rfl | rfl | rfl | rfl | rfl <;> first | rfl | exact ⟨Nat.le_of_ble_eq_true rfl, rfl⟩ | exact ⟨Nat.le_of_ble_eq_true rfl, _, rfl⟩
theorem G_pg_l2 {L : Nat} {xs : Nat → Int32} {k : Nat} (hk : k < 6) : zLn (zGG L xs) (4 * k + 34) = 6 := by
  rcases (show k = 0 ∨ k = 1 ∨ k = 2 ∨ k = 3 ∨ k = 4 ∨ k = 5 by omega) with rfl | rfl | rfl | rfl | rfl | rfl <;> first | rfl | exact ⟨Nat.le_of_ble_eq_true rfl, rfl⟩ | exact ⟨Nat.le_of_ble_eq_true rfl, _, rfl⟩
theorem G_c100 {L : Nat} {xs : Nat → Int32} : zOc (zGG L xs) zSteps := ⟨14, zStf, rfl⟩
theorem G_l100 {L : Nat} {xs : Nat → Int32} : zLn (zGG L xs) zSteps = 14 := nr rfl
theorem G_f100 {L : Nat} {xs : Nat → Int32} : zCf (zGG L xs) zSteps = zStf := nr rfl
theorem G_c101 {L : Nat} {xs : Nat → Int32} : zOc (zGG L xs) zScript := ⟨L, xs, rfl⟩
theorem G_l101 {L : Nat} {xs : Nat → Int32} : zLn (zGG L xs) zScript = L := nr rfl
theorem G_f101 {L : Nat} {xs : Nat → Int32} : zCf (zGG L xs) zScript = xs := nr rfl
