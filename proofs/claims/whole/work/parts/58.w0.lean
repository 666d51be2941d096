/-! the world behind the two constructors -/
def aJl : List Nat := [0, 0, 0, 1, 0, 2, 0, 3, 0, 4, 0, 5, 0, 6, 7, 0, 0, 0, 0, 0, 0, 0, 8, 0, 9, 10, 11, 0, 12, 13, 14, 0, 15, 16, 17, 0, 18, 19, 20, 0, 21, 22, 23, 0, 24, 25, 26, 0, 27, 28, 29, 0, 30, 31, 32]
def zAd (a0 a2 st b : Nat) (u1 u2 : Nat → Nat) (c : Nat) : Nat := if c < 55 then (if c = 0 then a0 else u1 c) else if c < 71 then (if c = 55 then a2 else u2 (c - 55)) else if c = 100 then st else b
def zCa (k1 k2 : Nat → Nat) (c : Nat) : ClassId := if c < 55 then k1 (aJl.getD c 0) else k2 (c - 56)
def zI0 : Nat → Nat → Int32 := fun c => if c = 56 then (upd (upd (upd (upd (fun _ => 0) 0 (-9)) 1 (-9)) 2 (-9)) 3 (-9)) else fun _ => 0
def zJ0 : Nat → Nat → Int64 := fun _ _ => 0
set_option maxHeartbeats 2000000 in
theorem zI0_z {c : Nat} (h : c ≠ 56) : zI0 c = fun _ => 0 := if_neg h
set_option maxHeartbeats 2000000 in
theorem zI0_56 {k : Nat} (h : k < 4) : zI0 56 k = -9 := by
  rcases (show k = 0 ∨ k = 1 ∨ k = 2 ∨ k = 3 by omega) with rfl | rfl | rfl | rfl <;> rfl
set_option maxHeartbeats 2000000 in
theorem zInv_0 : zInv zI0 := by
  refine ⟨⟨?_, ?_, ?_⟩, fun k hk => ⟨Or.inl ⟨?_, zI0_56 hk⟩, fun i hi => ?_⟩, fun k j hk hj => ?_, fun k j hk hj => ?_, fun k hk => ?_, 0, ⟨by omega, ?_, ?_, ?_, fun h => by omega, fun _ => ?_⟩, 0, by omega, ?_, ?_, fun _ => rfl, fun q hq => by omega⟩
  · rw [zI0_z (by decide), zI0_z (by decide)]
  · rw [zI0_z (by decide), zI0_z (by decide)]
  · rw [zI0_z (by decide)]
  · rw [zI0_z (by omega)]
  · rw [zI0_z (by omega), zI0_z (by decide)]
  · rw [zI0_z (by omega)]
  · rw [zI0_z (by omega), zI0_z (by omega)]
  · rw [zI0_z (by omega)]
    exact ⟨Or.inl rfl, by decide, by decide, by decide, by decide⟩
  · rw [zI0_z (by decide)]; rfl
  · rw [zI0_z (by decide)]; rfl
  · rw [zI0_z (by decide), zI0_z (by decide)]
  · rw [zI0_z (by decide)]
  · rw [zI0_z (by decide)]; rfl
  · rw [zI0_z (by decide)]; rfl
section S
variable {a0 a2 st b L : Nat} {u1 u2 k1 k2 : Nat → Nat} {xs : Nat → Int32}
set_option maxHeartbeats 2000000 in
theorem zRow_1 : (va_up (va_up (va_up (va_up (fun _ => none) 0 (some (u1 2))) 1 (some (u1 4))) 2 (some (u1 6))) 3 (some (u1 8))) = fun j => (zRr 1 j).map (zAd a0 a2 st b u1 u2) := by
  funext j
  match j with
  | 0 => rfl
  | 1 => rfl
  | 2 => rfl
  | 3 => rfl
  | j + 4 =>
    have e : zRr 1 (j + 4) = none := rfl
    rw [e]
    simp [va_up]
set_option maxHeartbeats 2000000 in
theorem zRow_11 : (va_up (va_up (va_up (va_up (va_up (va_up (fun _ => none) 0 (some (u1 15))) 1 (some (u1 16))) 2 (some (u1 17))) 3 (some (u1 18))) 4 (some (u1 19))) 5 (some (u1 20))) = fun j => (zRr 11 j).map (zAd a0 a2 st b u1 u2) := by
  funext j
  match j with
  | 0 => rfl
  | 1 => rfl
  | 2 => rfl
  | 3 => rfl
  | 4 => rfl
  | 5 => rfl
  | j + 6 =>
    have e : zRr 11 (j + 6) = none := rfl
    rw [e]
    simp [va_up]
set_option maxHeartbeats 2000000 in
theorem zRow_28 : (va_up (va_up (va_up (va_up (va_up (va_up (fun _ => none) 0 (some (u1 31))) 1 (some (u1 35))) 2 (some (u1 39))) 3 (some (u1 43))) 4 (some (u1 47))) 5 (some (u1 51))) = fun j => (zRr 28 j).map (zAd a0 a2 st b u1 u2) := by
  funext j
  match j with
  | 0 => rfl
  | 1 => rfl
  | 2 => rfl
  | 3 => rfl
  | 4 => rfl
  | 5 => rfl
  | j + 6 =>
    have e : zRr 28 (j + 6) = none := rfl
    rw [e]
    simp [va_up]
set_option maxHeartbeats 2000000 in
theorem zTg8 : zTg.getD 8 [] = [0, 0, 2, 2, 2, 0, 0, 2, 2, 2, 2, 2, 0, 0, 0, 2, 0, 0, 2, 2, 2, 0, 0, 0, 2, 0, 0, 1, 0, 2, 2] := rfl
set_option maxHeartbeats 2000000 in
theorem zE55 : zEn (zGG L xs) (zAd a0 a2 st b u1 u2) (zCa k1 k2) (zI0, zJ0) 55 = .inr (8, [.int 0, .int 0, .ref (u2 1), .ref (u2 2), .ref (u2 3), .int 0, .int 0, .ref (u2 4), .ref (u2 5), .ref (u2 6), .ref (u2 7), .ref (u2 8), .int 0, .int 0, .int 0, .ref (u2 9), .int 0, .int 0, .ref (u2 10), .ref (u2 11), .ref (u2 12), .int 0, .int 0, .int 0, .ref (u2 13), .int 0, .int 0, .long 0, .int 0, .ref (u2 14), .ref (u2 15)]) := by
  show (Sum.inr (8, zFs (zAd a0 a2 st b u1 u2) 8 (zI0 55) (zJ0 55) (zRr 55)) : va_E) = _
  rw [zI0_z (by decide)]
  unfold zFs
  rw [zTg8]
  simp only [List.mapIdx_cons, List.mapIdx_nil, zVl, zJ0]
  rfl
set_option maxHeartbeats 2000000 in
theorem zWP {D : va_G} {H : Heap} (hP : va_P D vwCl [(a0, .inr (7, [.ref (u1 1), .ref (u1 10), .ref (u1 21), .ref (u1 23), .ref (u1 27), .int 0, .int 0])), ((u1 1), .inl ((k1 0), 4, .inr (.inr (.inr (.inr (va_up (va_up (va_up (va_up (fun _ => none) 0 (some (u1 2))) 1 (some (u1 4))) 2 (some (u1 6))) 3 (some (u1 8)))))))), ((u1 2), .inr (6, [.ref (u1 3), .int 0, .int 0, .int 0])), ((u1 3), .inl ((k1 1), 60, .inl (fun _ => 0))), ((u1 4), .inr (6, [.ref (u1 5), .int 0, .int 0, .int 0])), ((u1 5), .inl ((k1 2), 60, .inl (fun _ => 0))), ((u1 6), .inr (6, [.ref (u1 7), .int 0, .int 0, .int 0])), ((u1 7), .inl ((k1 3), 60, .inl (fun _ => 0))), ((u1 8), .inr (6, [.ref (u1 9), .int 0, .int 0, .int 0])), ((u1 9), .inl ((k1 4), 60, .inl (fun _ => 0))), ((u1 10), .inr (0, [.ref (u1 11), .ref (u1 12), .int 0, .int 0])), ((u1 11), .inl ((k1 5), 6, .inr (.inr (.inr (.inr (va_up (va_up (va_up (va_up (va_up (va_up (fun _ => none) 0 (some (u1 15))) 1 (some (u1 16))) 2 (some (u1 17))) 3 (some (u1 18))) 4 (some (u1 19))) 5 (some (u1 20)))))))), ((u1 12), .inr (4, [.ref (u1 13), .ref (u1 14), .int 0])), ((u1 13), .inl ((k1 6), 8, .inl (fun _ => 0))), ((u1 14), .inl ((k1 7), 8, .inl (fun _ => 0))), ((u1 15), .inr (1, [.int 0, .int 0, .int 0, .int 0, .int 0])), ((u1 16), .inr (1, [.int 0, .int 0, .int 0, .int 0, .int 0])), ((u1 17), .inr (1, [.int 0, .int 0, .int 0, .int 0, .int 0])), ((u1 18), .inr (1, [.int 0, .int 0, .int 0, .int 0, .int 0])), ((u1 19), .inr (1, [.int 0, .int 0, .int 0, .int 0, .int 0])), ((u1 20), .inr (1, [.int 0, .int 0, .int 0, .int 0, .int 0])), ((u1 21), .inr (2, [.ref (u1 22), .int 0])), ((u1 22), .inl ((k1 8), 20, .inl (fun _ => 0))), ((u1 23), .inr (3, [.ref (u1 24), .ref (u1 25), .ref (u1 26), .int 0, .int 0, .int 0])), ((u1 24), .inl ((k1 9), 6, .inl (fun _ => 0))), ((u1 25), .inl ((k1 10), 5, .inl (fun _ => 0))), ((u1 26), .inl ((k1 11), 6, .inl (fun _ => 0))), ((u1 27), .inr (5, [.ref (u1 28), .ref (u1 29), .ref (u1 30), .int 0, .int 0, .int 0, .long 0, .int 0])), ((u1 28), .inl ((k1 12), 6, .inr (.inr (.inr (.inr (va_up (va_up (va_up (va_up (va_up (va_up (fun _ => none) 0 (some (u1 31))) 1 (some (u1 35))) 2 (some (u1 39))) 3 (some (u1 43))) 4 (some (u1 47))) 5 (some (u1 51)))))))), ((u1 29), .inl ((k1 13), 3, .inl (fun _ => 0))), ((u1 30), .inl ((k1 14), 3, .inl (fun _ => 0))), ((u1 31), .inr (3, [.ref (u1 32), .ref (u1 33), .ref (u1 34), .int 0, .int 0, .int 0])), ((u1 32), .inl ((k1 15), 6, .inl (fun _ => 0))), ((u1 33), .inl ((k1 16), 5, .inl (fun _ => 0))), ((u1 34), .inl ((k1 17), 6, .inl (fun _ => 0))), ((u1 35), .inr (3, [.ref (u1 36), .ref (u1 37), .ref (u1 38), .int 0, .int 0, .int 0])), ((u1 36), .inl ((k1 18), 6, .inl (fun _ => 0))), ((u1 37), .inl ((k1 19), 5, .inl (fun _ => 0))), ((u1 38), .inl ((k1 20), 6, .inl (fun _ => 0))), ((u1 39), .inr (3, [.ref (u1 40), .ref (u1 41), .ref (u1 42), .int 0, .int 0, .int 0])), ((u1 40), .inl ((k1 21), 6, .inl (fun _ => 0))), ((u1 41), .inl ((k1 22), 5, .inl (fun _ => 0))), ((u1 42), .inl ((k1 23), 6, .inl (fun _ => 0))), ((u1 43), .inr (3, [.ref (u1 44), .ref (u1 45), .ref (u1 46), .int 0, .int 0, .int 0])), ((u1 44), .inl ((k1 24), 6, .inl (fun _ => 0))), ((u1 45), .inl ((k1 25), 5, .inl (fun _ => 0))), ((u1 46), .inl ((k1 26), 6, .inl (fun _ => 0))), ((u1 47), .inr (3, [.ref (u1 48), .ref (u1 49), .ref (u1 50), .int 0, .int 0, .int 0])), ((u1 48), .inl ((k1 27), 6, .inl (fun _ => 0))), ((u1 49), .inl ((k1 28), 5, .inl (fun _ => 0))), ((u1 50), .inl ((k1 29), 6, .inl (fun _ => 0))), ((u1 51), .inr (3, [.ref (u1 52), .ref (u1 53), .ref (u1 54), .int 0, .int 0, .int 0])), ((u1 52), .inl ((k1 30), 6, .inl (fun _ => 0))), ((u1 53), .inl ((k1 31), 5, .inl (fun _ => 0))), ((u1 54), .inl ((k1 32), 6, .inl (fun _ => 0))), (a2, .inr (8, [.int 0, .int 0, .ref (u2 1), .ref (u2 2), .ref (u2 3), .int 0, .int 0, .ref (u2 4), .ref (u2 5), .ref (u2 6), .ref (u2 7), .ref (u2 8), .int 0, .int 0, .int 0, .ref (u2 9), .int 0, .int 0, .ref (u2 10), .ref (u2 11), .ref (u2 12), .int 0, .int 0, .int 0, .ref (u2 13), .int 0, .int 0, .long 0, .int 0, .ref (u2 14), .ref (u2 15)])), ((u2 1), .inl ((k2 0), 4, .inl (upd (upd (upd (upd (fun _ => 0) 0 (-9)) 1 (-9)) 2 (-9)) 3 (-9)))), ((u2 2), .inl ((k2 1), 4, .inl (fun _ => 0))), ((u2 3), .inl ((k2 2), 240, .inl (fun _ => 0))), ((u2 4), .inl ((k2 3), 6, .inl (fun _ => 0))), ((u2 5), .inl ((k2 4), 6, .inl (fun _ => 0))), ((u2 6), .inl ((k2 5), 6, .inl (fun _ => 0))), ((u2 7), .inl ((k2 6), 6, .inl (fun _ => 0))), ((u2 8), .inl ((k2 7), 6, .inl (fun _ => 0))), ((u2 9), .inl ((k2 8), 30, .inl (fun _ => 0))), ((u2 10), .inl ((k2 9), 6, .inl (fun _ => 0))), ((u2 11), .inl ((k2 10), 5, .inl (fun _ => 0))), ((u2 12), .inl ((k2 11), 6, .inl (fun _ => 0))), ((u2 13), .inl ((k2 12), 20, .inl (fun _ => 0))), ((u2 14), .inl ((k2 13), 8, .inl (fun _ => 0))), ((u2 15), .inl ((k2 14), 8, .inl (fun _ => 0)))] H) : va_P D vwCl (zWd (zGG L xs) (zAd a0 a2 st b u1 u2) (zCa k1 k2) (zI0, zJ0)) H := by
  rw [zRow_1 (a0 := a0) (a2 := a2) (st := st) (b := b) (u1 := u1) (u2 := u2), zRow_11 (a0 := a0) (a2 := a2) (st := st) (b := b) (u1 := u1) (u2 := u2), zRow_28 (a0 := a0) (a2 := a2) (st := st) (b := b) (u1 := u1) (u2 := u2)] at hP
  intro k q hk
  obtain ⟨hk', rfl⟩ := zWd_of hk
  have hk2 : k < 71 := hk'
  clear hk hk'
  rcases (show k = 0 ∨ k = 1 ∨ k = 2 ∨ k = 3 ∨ k = 4 ∨ k = 5 ∨ k = 6 ∨ k = 7 ∨ k = 8 ∨ k = 9 ∨ k = 10 ∨ k = 11 ∨ k = 12 ∨ k = 13 ∨ k = 14 ∨ k = 15 ∨ k = 16 ∨ k = 17 ∨ k = 18 ∨ k = 19 ∨ k = 20 ∨ k = 21 ∨ k = 22 ∨ k = 23 ∨ k = 24 ∨ k = 25 ∨ k = 26 ∨ k = 27 ∨ k = 28 ∨ k = 29 ∨ k = 30 ∨ k = 31 ∨ k = 32 ∨ k = 33 ∨ k = 34 ∨ k = 35 ∨ k = 36 ∨ k = 37 ∨ k = 38 ∨ k = 39 ∨ k = 40 ∨ k = 41 ∨ k = 42 ∨ k = 43 ∨ k = 44 ∨ k = 45 ∨ k = 46 ∨ k = 47 ∨ k = 48 ∨ k = 49 ∨ k = 50 ∨ k = 51 ∨ k = 52 ∨ k = 53 ∨ k = 54 ∨ k = 55 ∨ k = 56 ∨ k = 57 ∨ k = 58 ∨ k = 59 ∨ k = 60 ∨ k = 61 ∨ k = 62 ∨ k = 63 ∨ k = 64 ∨ k = 65 ∨ k = 66 ∨ k = 67 ∨ k = 68 ∨ k = 69 ∨ k = 70 by omega) with rfl | rfl | rfl | rfl | rfl | rfl | rfl | rfl | rfl | rfl | rfl | rfl | rfl | rfl | rfl | rfl | rfl | rfl | rfl | rfl | rfl | rfl | rfl | rfl | rfl | rfl | rfl | rfl | rfl | rfl | rfl | rfl | rfl | rfl | rfl | rfl | rfl | rfl | rfl | rfl | rfl | rfl | rfl | rfl | rfl | rfl | rfl | rfl | rfl | rfl | rfl | rfl | rfl | rfl | rfl | rfl | rfl | rfl | rfl | rfl | rfl | rfl | rfl | rfl | rfl | rfl | rfl | rfl | rfl | rfl | rfl
  · exact hP 0 _ rfl
  · exact hP 1 _ rfl
  · exact hP 2 _ rfl
  · exact hP 3 _ rfl
  · exact hP 4 _ rfl
  · exact hP 5 _ rfl
  · exact hP 6 _ rfl
  · exact hP 7 _ rfl
  · exact hP 8 _ rfl
  · exact hP 9 _ rfl
  · exact hP 10 _ rfl
  · exact hP 11 _ rfl
  · exact hP 12 _ rfl
  · exact hP 13 _ rfl
  · exact hP 14 _ rfl
  · exact hP 15 _ rfl
  · exact hP 16 _ rfl
  · exact hP 17 _ rfl
  · exact hP 18 _ rfl
  · exact hP 19 _ rfl
  · exact hP 20 _ rfl
  · exact hP 21 _ rfl
  · exact hP 22 _ rfl
  · exact hP 23 _ rfl
  · exact hP 24 _ rfl
  · exact hP 25 _ rfl
  · exact hP 26 _ rfl
  · exact hP 27 _ rfl
  · exact hP 28 _ rfl
  · exact hP 29 _ rfl
  · exact hP 30 _ rfl
  · exact hP 31 _ rfl
  · exact hP 32 _ rfl
  · exact hP 33 _ rfl
  · exact hP 34 _ rfl
  · exact hP 35 _ rfl
  · exact hP 36 _ rfl
  · exact hP 37 _ rfl
  · exact hP 38 _ rfl
  · exact hP 39 _ rfl
  · exact hP 40 _ rfl
  · exact hP 41 _ rfl
  · exact hP 42 _ rfl
  · exact hP 43 _ rfl
  · exact hP 44 _ rfl
  · exact hP 45 _ rfl
  · exact hP 46 _ rfl
  · exact hP 47 _ rfl
  · exact hP 48 _ rfl
  · exact hP 49 _ rfl
  · exact hP 50 _ rfl
  · exact hP 51 _ rfl
  · exact hP 52 _ rfl
  · exact hP 53 _ rfl
  · exact hP 54 _ rfl
  · rw [zE55]
    exact hP 55 _ rfl
  · exact hP 56 _ rfl
  · exact hP 57 _ rfl
  · exact hP 58 _ rfl
  · exact hP 59 _ rfl
  · exact hP 60 _ rfl
  · exact hP 61 _ rfl
  · exact hP 62 _ rfl
  · exact hP 63 _ rfl
  · exact hP 64 _ rfl
  · exact hP 65 _ rfl
  · exact hP 66 _ rfl
  · exact hP 67 _ rfl
  · exact hP 68 _ rfl
  · exact hP 69 _ rfl
  · exact hP 70 _ rfl
set_option maxHeartbeats 2000000 in
theorem zWa {k : Nat} (hk : k < 71) : ∃ e, ([(a0, .inr (7, [.ref (u1 1), .ref (u1 10), .ref (u1 21), .ref (u1 23), .ref (u1 27), .int 0, .int 0])), ((u1 1), .inl ((k1 0), 4, .inr (.inr (.inr (.inr (va_up (va_up (va_up (va_up (fun _ => none) 0 (some (u1 2))) 1 (some (u1 4))) 2 (some (u1 6))) 3 (some (u1 8)))))))), ((u1 2), .inr (6, [.ref (u1 3), .int 0, .int 0, .int 0])), ((u1 3), .inl ((k1 1), 60, .inl (fun _ => 0))), ((u1 4), .inr (6, [.ref (u1 5), .int 0, .int 0, .int 0])), ((u1 5), .inl ((k1 2), 60, .inl (fun _ => 0))), ((u1 6), .inr (6, [.ref (u1 7), .int 0, .int 0, .int 0])), ((u1 7), .inl ((k1 3), 60, .inl (fun _ => 0))), ((u1 8), .inr (6, [.ref (u1 9), .int 0, .int 0, .int 0])), ((u1 9), .inl ((k1 4), 60, .inl (fun _ => 0))), ((u1 10), .inr (0, [.ref (u1 11), .ref (u1 12), .int 0, .int 0])), ((u1 11), .inl ((k1 5), 6, .inr (.inr (.inr (.inr (va_up (va_up (va_up (va_up (va_up (va_up (fun _ => none) 0 (some (u1 15))) 1 (some (u1 16))) 2 (some (u1 17))) 3 (some (u1 18))) 4 (some (u1 19))) 5 (some (u1 20)))))))), ((u1 12), .inr (4, [.ref (u1 13), .ref (u1 14), .int 0])), ((u1 13), .inl ((k1 6), 8, .inl (fun _ => 0))), ((u1 14), .inl ((k1 7), 8, .inl (fun _ => 0))), ((u1 15), .inr (1, [.int 0, .int 0, .int 0, .int 0, .int 0])), ((u1 16), .inr (1, [.int 0, .int 0, .int 0, .int 0, .int 0])), ((u1 17), .inr (1, [.int 0, .int 0, .int 0, .int 0, .int 0])), ((u1 18), .inr (1, [.int 0, .int 0, .int 0, .int 0, .int 0])), ((u1 19), .inr (1, [.int 0, .int 0, .int 0, .int 0, .int 0])), ((u1 20), .inr (1, [.int 0, .int 0, .int 0, .int 0, .int 0])), ((u1 21), .inr (2, [.ref (u1 22), .int 0])), ((u1 22), .inl ((k1 8), 20, .inl (fun _ => 0))), ((u1 23), .inr (3, [.ref (u1 24), .ref (u1 25), .ref (u1 26), .int 0, .int 0, .int 0])), ((u1 24), .inl ((k1 9), 6, .inl (fun _ => 0))), ((u1 25), .inl ((k1 10), 5, .inl (fun _ => 0))), ((u1 26), .inl ((k1 11), 6, .inl (fun _ => 0))), ((u1 27), .inr (5, [.ref (u1 28), .ref (u1 29), .ref (u1 30), .int 0, .int 0, .int 0, .long 0, .int 0])), ((u1 28), .inl ((k1 12), 6, .inr (.inr (.inr (.inr (va_up (va_up (va_up (va_up (va_up (va_up (fun _ => none) 0 (some (u1 31))) 1 (some (u1 35))) 2 (some (u1 39))) 3 (some (u1 43))) 4 (some (u1 47))) 5 (some (u1 51)))))))), ((u1 29), .inl ((k1 13), 3, .inl (fun _ => 0))), ((u1 30), .inl ((k1 14), 3, .inl (fun _ => 0))), ((u1 31), .inr (3, [.ref (u1 32), .ref (u1 33), .ref (u1 34), .int 0, .int 0, .int 0])), ((u1 32), .inl ((k1 15), 6, .inl (fun _ => 0))), ((u1 33), .inl ((k1 16), 5, .inl (fun _ => 0))), ((u1 34), .inl ((k1 17), 6, .inl (fun _ => 0))), ((u1 35), .inr (3, [.ref (u1 36), .ref (u1 37), .ref (u1 38), .int 0, .int 0, .int 0])), ((u1 36), .inl ((k1 18), 6, .inl (fun _ => 0))), ((u1 37), .inl ((k1 19), 5, .inl (fun _ => 0))), ((u1 38), .inl ((k1 20), 6, .inl (fun _ => 0))), ((u1 39), .inr (3, [.ref (u1 40), .ref (u1 41), .ref (u1 42), .int 0, .int 0, .int 0])), ((u1 40), .inl ((k1 21), 6, .inl (fun _ => 0))), ((u1 41), .inl ((k1 22), 5, .inl (fun _ => 0))), ((u1 42), .inl ((k1 23), 6, .inl (fun _ => 0))), ((u1 43), .inr (3, [.ref (u1 44), .ref (u1 45), .ref (u1 46), .int 0, .int 0, .int 0])), ((u1 44), .inl ((k1 24), 6, .inl (fun _ => 0))), ((u1 45), .inl ((k1 25), 5, .inl (fun _ => 0))), ((u1 46), .inl ((k1 26), 6, .inl (fun _ => 0))), ((u1 47), .inr (3, [.ref (u1 48), .ref (u1 49), .ref (u1 50), .int 0, .int 0, .int 0])), ((u1 48), .inl ((k1 27), 6, .inl (fun _ => 0))), ((u1 49), .inl ((k1 28), 5, .inl (fun _ => 0))), ((u1 50), .inl ((k1 29), 6, .inl (fun _ => 0))), ((u1 51), .inr (3, [.ref (u1 52), .ref (u1 53), .ref (u1 54), .int 0, .int 0, .int 0])), ((u1 52), .inl ((k1 30), 6, .inl (fun _ => 0))), ((u1 53), .inl ((k1 31), 5, .inl (fun _ => 0))), ((u1 54), .inl ((k1 32), 6, .inl (fun _ => 0))), (a2, .inr (8, [.int 0, .int 0, .ref (u2 1), .ref (u2 2), .ref (u2 3), .int 0, .int 0, .ref (u2 4), .ref (u2 5), .ref (u2 6), .ref (u2 7), .ref (u2 8), .int 0, .int 0, .int 0, .ref (u2 9), .int 0, .int 0, .ref (u2 10), .ref (u2 11), .ref (u2 12), .int 0, .int 0, .int 0, .ref (u2 13), .int 0, .int 0, .long 0, .int 0, .ref (u2 14), .ref (u2 15)])), ((u2 1), .inl ((k2 0), 4, .inl (upd (upd (upd (upd (fun _ => 0) 0 (-9)) 1 (-9)) 2 (-9)) 3 (-9)))), ((u2 2), .inl ((k2 1), 4, .inl (fun _ => 0))), ((u2 3), .inl ((k2 2), 240, .inl (fun _ => 0))), ((u2 4), .inl ((k2 3), 6, .inl (fun _ => 0))), ((u2 5), .inl ((k2 4), 6, .inl (fun _ => 0))), ((u2 6), .inl ((k2 5), 6, .inl (fun _ => 0))), ((u2 7), .inl ((k2 6), 6, .inl (fun _ => 0))), ((u2 8), .inl ((k2 7), 6, .inl (fun _ => 0))), ((u2 9), .inl ((k2 8), 30, .inl (fun _ => 0))), ((u2 10), .inl ((k2 9), 6, .inl (fun _ => 0))), ((u2 11), .inl ((k2 10), 5, .inl (fun _ => 0))), ((u2 12), .inl ((k2 11), 6, .inl (fun _ => 0))), ((u2 13), .inl ((k2 12), 20, .inl (fun _ => 0))), ((u2 14), .inl ((k2 13), 8, .inl (fun _ => 0))), ((u2 15), .inl ((k2 14), 8, .inl (fun _ => 0)))] : va_W)[k]? = some (zAd a0 a2 st b u1 u2 k, e) := by
  rcases (show k = 0 ∨ k = 1 ∨ k = 2 ∨ k = 3 ∨ k = 4 ∨ k = 5 ∨ k = 6 ∨ k = 7 ∨ k = 8 ∨ k = 9 ∨ k = 10 ∨ k = 11 ∨ k = 12 ∨ k = 13 ∨ k = 14 ∨ k = 15 ∨ k = 16 ∨ k = 17 ∨ k = 18 ∨ k = 19 ∨ k = 20 ∨ k = 21 ∨ k = 22 ∨ k = 23 ∨ k = 24 ∨ k = 25 ∨ k = 26 ∨ k = 27 ∨ k = 28 ∨ k = 29 ∨ k = 30 ∨ k = 31 ∨ k = 32 ∨ k = 33 ∨ k = 34 ∨ k = 35 ∨ k = 36 ∨ k = 37 ∨ k = 38 ∨ k = 39 ∨ k = 40 ∨ k = 41 ∨ k = 42 ∨ k = 43 ∨ k = 44 ∨ k = 45 ∨ k = 46 ∨ k = 47 ∨ k = 48 ∨ k = 49 ∨ k = 50 ∨ k = 51 ∨ k = 52 ∨ k = 53 ∨ k = 54 ∨ k = 55 ∨ k = 56 ∨ k = 57 ∨ k = 58 ∨ k = 59 ∨ k = 60 ∨ k = 61 ∨ k = 62 ∨ k = 63 ∨ k = 64 ∨ k = 65 ∨ k = 66 ∨ k = 67 ∨ k = 68 ∨ k = 69 ∨ k = 70 by omega) with rfl | rfl | rfl | rfl | rfl | rfl | rfl | rfl | rfl | rfl | rfl | rfl | rfl | rfl | rfl | rfl | rfl | rfl | rfl | rfl | rfl | rfl | rfl | rfl | rfl | rfl | rfl | rfl | rfl | rfl | rfl | rfl | rfl | rfl | rfl | rfl | rfl | rfl | rfl | rfl | rfl | rfl | rfl | rfl | rfl | rfl | rfl | rfl | rfl | rfl | rfl | rfl | rfl | rfl | rfl | rfl | rfl | rfl | rfl | rfl | rfl | rfl | rfl | rfl | rfl | rfl | rfl | rfl | rfl | rfl | rfl
  all_goals exact ⟨_, rfl⟩
set_option maxHeartbeats 2000000 in
theorem zWA {n : Nat} (hn : 71 ≤ n) : zAd a0 a2 st b u1 u2 n = if n = 100 then st else b := by
  unfold zAd
  rw [if_neg (by omega), if_neg (by omega)]
set_option maxHeartbeats 2000000 in
theorem zKi {D : va_G} {s : State} (hK : va_K D vwCl [((k1 0), .object RX6), ((k1 1), .int), ((k1 2), .int), ((k1 3), .int), ((k1 4), .int), ((k1 5), .object RX1), ((k1 6), .int), ((k1 7), .int), ((k1 8), .int), ((k1 9), .int), ((k1 10), .int), ((k1 11), .int), ((k1 12), .object RX3), ((k1 13), .int), ((k1 14), .int), ((k1 15), .int), ((k1 16), .int), ((k1 17), .int), ((k1 18), .int), ((k1 19), .int), ((k1 20), .int), ((k1 21), .int), ((k1 22), .int), ((k1 23), .int), ((k1 24), .int), ((k1 25), .int), ((k1 26), .int), ((k1 27), .int), ((k1 28), .int), ((k1 29), .int), ((k1 30), .int), ((k1 31), .int), ((k1 32), .int), ((k2 0), .int), ((k2 1), .int), ((k2 2), .int), ((k2 3), .int), ((k2 4), .int), ((k2 5), .int), ((k2 6), .int), ((k2 7), .int), ((k2 8), .int), ((k2 9), .int), ((k2 10), .int), ((k2 11), .int), ((k2 12), .int), ((k2 13), .int), ((k2 14), .int)] s) {c n : Nat} (hc : c < 71) (hn : (zGG L xs).2.1 c = .inr (.inl n)) : ArrOfT s (zCa k1 k2 c) .int ∧ va_RA s (zCa k1 k2 c) .int := by
  rcases (show c = 0 ∨ c = 1 ∨ c = 2 ∨ c = 3 ∨ c = 4 ∨ c = 5 ∨ c = 6 ∨ c = 7 ∨ c = 8 ∨ c = 9 ∨ c = 10 ∨ c = 11 ∨ c = 12 ∨ c = 13 ∨ c = 14 ∨ c = 15 ∨ c = 16 ∨ c = 17 ∨ c = 18 ∨ c = 19 ∨ c = 20 ∨ c = 21 ∨ c = 22 ∨ c = 23 ∨ c = 24 ∨ c = 25 ∨ c = 26 ∨ c = 27 ∨ c = 28 ∨ c = 29 ∨ c = 30 ∨ c = 31 ∨ c = 32 ∨ c = 33 ∨ c = 34 ∨ c = 35 ∨ c = 36 ∨ c = 37 ∨ c = 38 ∨ c = 39 ∨ c = 40 ∨ c = 41 ∨ c = 42 ∨ c = 43 ∨ c = 44 ∨ c = 45 ∨ c = 46 ∨ c = 47 ∨ c = 48 ∨ c = 49 ∨ c = 50 ∨ c = 51 ∨ c = 52 ∨ c = 53 ∨ c = 54 ∨ c = 55 ∨ c = 56 ∨ c = 57 ∨ c = 58 ∨ c = 59 ∨ c = 60 ∨ c = 61 ∨ c = 62 ∨ c = 63 ∨ c = 64 ∨ c = 65 ∨ c = 66 ∨ c = 67 ∨ c = 68 ∨ c = 69 ∨ c = 70 by omega) with rfl | rfl | rfl | rfl | rfl | rfl | rfl | rfl | rfl | rfl | rfl | rfl | rfl | rfl | rfl | rfl | rfl | rfl | rfl | rfl | rfl | rfl | rfl | rfl | rfl | rfl | rfl | rfl | rfl | rfl | rfl | rfl | rfl | rfl | rfl | rfl | rfl | rfl | rfl | rfl | rfl | rfl | rfl | rfl | rfl | rfl | rfl | rfl | rfl | rfl | rfl | rfl | rfl | rfl | rfl | rfl | rfl | rfl | rfl | rfl | rfl | rfl | rfl | rfl | rfl | rfl | rfl | rfl | rfl | rfl | rfl
  · cases hn
  · cases hn
  · cases hn
  · exact hK.2 1 _ rfl
  · cases hn
  · exact hK.2 2 _ rfl
  · cases hn
  · exact hK.2 3 _ rfl
  · cases hn
  · exact hK.2 4 _ rfl
  · cases hn
  · cases hn
  · cases hn
  · exact hK.2 6 _ rfl
  · exact hK.2 7 _ rfl
  · cases hn
  · cases hn
  · cases hn
  · cases hn
  · cases hn
  · cases hn
  · cases hn
  · exact hK.2 8 _ rfl
  · cases hn
  · exact hK.2 9 _ rfl
  · exact hK.2 10 _ rfl
  · exact hK.2 11 _ rfl
  · cases hn
  · cases hn
  · exact hK.2 13 _ rfl
  · exact hK.2 14 _ rfl
  · cases hn
  · exact hK.2 15 _ rfl
  · exact hK.2 16 _ rfl
  · exact hK.2 17 _ rfl
  · cases hn
  · exact hK.2 18 _ rfl
  · exact hK.2 19 _ rfl
  · exact hK.2 20 _ rfl
  · cases hn
  · exact hK.2 21 _ rfl
  · exact hK.2 22 _ rfl
  · exact hK.2 23 _ rfl
  · cases hn
  · exact hK.2 24 _ rfl
  · exact hK.2 25 _ rfl
  · exact hK.2 26 _ rfl
  · cases hn
  · exact hK.2 27 _ rfl
  · exact hK.2 28 _ rfl
  · exact hK.2 29 _ rfl
  · cases hn
  · exact hK.2 30 _ rfl
  · exact hK.2 31 _ rfl
  · exact hK.2 32 _ rfl
  · cases hn
  · exact hK.2 33 _ rfl
  · exact hK.2 34 _ rfl
  · exact hK.2 35 _ rfl
  · exact hK.2 36 _ rfl
  · exact hK.2 37 _ rfl
  · exact hK.2 38 _ rfl
  · exact hK.2 39 _ rfl
  · exact hK.2 40 _ rfl
  · exact hK.2 41 _ rfl
  · exact hK.2 42 _ rfl
  · exact hK.2 43 _ rfl
  · exact hK.2 44 _ rfl
  · exact hK.2 45 _ rfl
  · exact hK.2 46 _ rfl
  · exact hK.2 47 _ rfl
set_option maxHeartbeats 2000000 in
theorem zKr {D : va_G} {s : State} (hK : va_K D vwCl [((k1 0), .object RX6), ((k1 1), .int), ((k1 2), .int), ((k1 3), .int), ((k1 4), .int), ((k1 5), .object RX1), ((k1 6), .int), ((k1 7), .int), ((k1 8), .int), ((k1 9), .int), ((k1 10), .int), ((k1 11), .int), ((k1 12), .object RX3), ((k1 13), .int), ((k1 14), .int), ((k1 15), .int), ((k1 16), .int), ((k1 17), .int), ((k1 18), .int), ((k1 19), .int), ((k1 20), .int), ((k1 21), .int), ((k1 22), .int), ((k1 23), .int), ((k1 24), .int), ((k1 25), .int), ((k1 26), .int), ((k1 27), .int), ((k1 28), .int), ((k1 29), .int), ((k1 30), .int), ((k1 31), .int), ((k1 32), .int), ((k2 0), .int), ((k2 1), .int), ((k2 2), .int), ((k2 3), .int), ((k2 4), .int), ((k2 5), .int), ((k2 6), .int), ((k2 7), .int), ((k2 8), .int), ((k2 9), .int), ((k2 10), .int), ((k2 11), .int), ((k2 12), .int), ((k2 13), .int), ((k2 14), .int)] s) {c ci n : Nat} (hc : c < 71) (hn : (zGG L xs).2.1 c = .inr (.inr (.inl (ci, n)))) : ∃ C : String, ArrOfT s (zCa k1 k2 c) (.object C) ∧ va_RA s (zCa k1 k2 c) (.object C) := by
  rcases (show c = 0 ∨ c = 1 ∨ c = 2 ∨ c = 3 ∨ c = 4 ∨ c = 5 ∨ c = 6 ∨ c = 7 ∨ c = 8 ∨ c = 9 ∨ c = 10 ∨ c = 11 ∨ c = 12 ∨ c = 13 ∨ c = 14 ∨ c = 15 ∨ c = 16 ∨ c = 17 ∨ c = 18 ∨ c = 19 ∨ c = 20 ∨ c = 21 ∨ c = 22 ∨ c = 23 ∨ c = 24 ∨ c = 25 ∨ c = 26 ∨ c = 27 ∨ c = 28 ∨ c = 29 ∨ c = 30 ∨ c = 31 ∨ c = 32 ∨ c = 33 ∨ c = 34 ∨ c = 35 ∨ c = 36 ∨ c = 37 ∨ c = 38 ∨ c = 39 ∨ c = 40 ∨ c = 41 ∨ c = 42 ∨ c = 43 ∨ c = 44 ∨ c = 45 ∨ c = 46 ∨ c = 47 ∨ c = 48 ∨ c = 49 ∨ c = 50 ∨ c = 51 ∨ c = 52 ∨ c = 53 ∨ c = 54 ∨ c = 55 ∨ c = 56 ∨ c = 57 ∨ c = 58 ∨ c = 59 ∨ c = 60 ∨ c = 61 ∨ c = 62 ∨ c = 63 ∨ c = 64 ∨ c = 65 ∨ c = 66 ∨ c = 67 ∨ c = 68 ∨ c = 69 ∨ c = 70 by omega) with rfl | rfl | rfl | rfl | rfl | rfl | rfl | rfl | rfl | rfl | rfl | rfl | rfl | rfl | rfl | rfl | rfl | rfl | rfl | rfl | rfl | rfl | rfl | rfl | rfl | rfl | rfl | rfl | rfl | rfl | rfl | rfl | rfl | rfl | rfl | rfl | rfl | rfl | rfl | rfl | rfl | rfl | rfl | rfl | rfl | rfl | rfl | rfl | rfl | rfl | rfl | rfl | rfl | rfl | rfl | rfl | rfl | rfl | rfl | rfl | rfl | rfl | rfl | rfl | rfl | rfl | rfl | rfl | rfl | rfl | rfl
  · cases hn
  · exact ⟨_, hK.2 0 _ rfl⟩
  · cases hn
  · cases hn
  · cases hn
  · cases hn
  · cases hn
  · cases hn
  · cases hn
  · cases hn
  · cases hn
  · exact ⟨_, hK.2 5 _ rfl⟩
  · cases hn
  · cases hn
  · cases hn
  · cases hn
  · cases hn
  · cases hn
  · cases hn
  · cases hn
  · cases hn
  · cases hn
  · cases hn
  · cases hn
  · cases hn
  · cases hn
  · cases hn
  · cases hn
  · exact ⟨_, hK.2 12 _ rfl⟩
  · cases hn
  · cases hn
  · cases hn
  · cases hn
  · cases hn
  · cases hn
  · cases hn
  · cases hn
  · cases hn
  · cases hn
  · cases hn
  · cases hn
  · cases hn
  · cases hn
  · cases hn
  · cases hn
  · cases hn
  · cases hn
  · cases hn
  · cases hn
  · cases hn
  · cases hn
  · cases hn
  · cases hn
  · cases hn
  · cases hn
  · cases hn
  · cases hn
  · cases hn
  · cases hn
  · cases hn
  · cases hn
  · cases hn
  · cases hn
  · cases hn
  · cases hn
  · cases hn
  · cases hn
  · cases hn
  · cases hn
  · cases hn
  · cases hn
set_option maxHeartbeats 2000000 in
theorem zKc {c n : Nat} {f : Nat → Int32} (hn : (zGG L xs).2.1 c = .inr (.inr (.inr (n, f)))) : 71 ≤ c ∧ ((c = 100 ∧ n = 14 ∧ f = zStf) ∨ (c ≠ 100 ∧ n = L ∧ f = xs)) := by
  by_cases hc : c < 71
  · exfalso
    rcases (show c = 0 ∨ c = 1 ∨ c = 2 ∨ c = 3 ∨ c = 4 ∨ c = 5 ∨ c = 6 ∨ c = 7 ∨ c = 8 ∨ c = 9 ∨ c = 10 ∨ c = 11 ∨ c = 12 ∨ c = 13 ∨ c = 14 ∨ c = 15 ∨ c = 16 ∨ c = 17 ∨ c = 18 ∨ c = 19 ∨ c = 20 ∨ c = 21 ∨ c = 22 ∨ c = 23 ∨ c = 24 ∨ c = 25 ∨ c = 26 ∨ c = 27 ∨ c = 28 ∨ c = 29 ∨ c = 30 ∨ c = 31 ∨ c = 32 ∨ c = 33 ∨ c = 34 ∨ c = 35 ∨ c = 36 ∨ c = 37 ∨ c = 38 ∨ c = 39 ∨ c = 40 ∨ c = 41 ∨ c = 42 ∨ c = 43 ∨ c = 44 ∨ c = 45 ∨ c = 46 ∨ c = 47 ∨ c = 48 ∨ c = 49 ∨ c = 50 ∨ c = 51 ∨ c = 52 ∨ c = 53 ∨ c = 54 ∨ c = 55 ∨ c = 56 ∨ c = 57 ∨ c = 58 ∨ c = 59 ∨ c = 60 ∨ c = 61 ∨ c = 62 ∨ c = 63 ∨ c = 64 ∨ c = 65 ∨ c = 66 ∨ c = 67 ∨ c = 68 ∨ c = 69 ∨ c = 70 by omega) with rfl | rfl | rfl | rfl | rfl | rfl | rfl | rfl | rfl | rfl | rfl | rfl | rfl | rfl | rfl | rfl | rfl | rfl | rfl | rfl | rfl | rfl | rfl | rfl | rfl | rfl | rfl | rfl | rfl | rfl | rfl | rfl | rfl | rfl | rfl | rfl | rfl | rfl | rfl | rfl | rfl | rfl | rfl | rfl | rfl | rfl | rfl | rfl | rfl | rfl | rfl | rfl | rfl | rfl | rfl | rfl | rfl | rfl | rfl | rfl | rfl | rfl | rfl | rfl | rfl | rfl | rfl | rfl | rfl | rfl | rfl
    all_goals cases hn
  · refine ⟨by omega, ?_⟩
    have e : zKl[c]? = none := List.getElem?_eq_none (by show 71 ≤ c; omega)
    have hn : zKdf L xs c = .inr (.inr (.inr (n, f))) := hn
    unfold zKdf at hn
    rw [e] at hn
    dsimp only at hn
    by_cases h : c = 100
    · rw [if_pos h] at hn
      cases hn
      exact Or.inl ⟨h, rfl, rfl⟩
    · rw [if_neg h] at hn
      cases hn
      exact Or.inr ⟨h, rfl, rfl⟩
set_option maxHeartbeats 2000000 in
theorem zSt_0 {D : va_G} {s : State} {A : Nat → Prop} (hA : ∀ q, A q ↔ s.heap.size ≤ q) (hK : va_K D vwCl [((k1 0), .object RX6), ((k1 1), .int), ((k1 2), .int), ((k1 3), .int), ((k1 4), .int), ((k1 5), .object RX1), ((k1 6), .int), ((k1 7), .int), ((k1 8), .int), ((k1 9), .int), ((k1 10), .int), ((k1 11), .int), ((k1 12), .object RX3), ((k1 13), .int), ((k1 14), .int), ((k1 15), .int), ((k1 16), .int), ((k1 17), .int), ((k1 18), .int), ((k1 19), .int), ((k1 20), .int), ((k1 21), .int), ((k1 22), .int), ((k1 23), .int), ((k1 24), .int), ((k1 25), .int), ((k1 26), .int), ((k1 27), .int), ((k1 28), .int), ((k1 29), .int), ((k1 30), .int), ((k1 31), .int), ((k1 32), .int), ((k2 0), .int), ((k2 1), .int), ((k2 2), .int), ((k2 3), .int), ((k2 4), .int), ((k2 5), .int), ((k2 6), .int), ((k2 7), .int), ((k2 8), .int), ((k2 9), .int), ((k2 10), .int), ((k2 11), .int), ((k2 12), .int), ((k2 13), .int), ((k2 14), .int)] s) (hD : va_D A [(a0, .inr (7, [.ref (u1 1), .ref (u1 10), .ref (u1 21), .ref (u1 23), .ref (u1 27), .int 0, .int 0])), ((u1 1), .inl ((k1 0), 4, .inr (.inr (.inr (.inr (va_up (va_up (va_up (va_up (fun _ => none) 0 (some (u1 2))) 1 (some (u1 4))) 2 (some (u1 6))) 3 (some (u1 8)))))))), ((u1 2), .inr (6, [.ref (u1 3), .int 0, .int 0, .int 0])), ((u1 3), .inl ((k1 1), 60, .inl (fun _ => 0))), ((u1 4), .inr (6, [.ref (u1 5), .int 0, .int 0, .int 0])), ((u1 5), .inl ((k1 2), 60, .inl (fun _ => 0))), ((u1 6), .inr (6, [.ref (u1 7), .int 0, .int 0, .int 0])), ((u1 7), .inl ((k1 3), 60, .inl (fun _ => 0))), ((u1 8), .inr (6, [.ref (u1 9), .int 0, .int 0, .int 0])), ((u1 9), .inl ((k1 4), 60, .inl (fun _ => 0))), ((u1 10), .inr (0, [.ref (u1 11), .ref (u1 12), .int 0, .int 0])), ((u1 11), .inl ((k1 5), 6, .inr (.inr (.inr (.inr (va_up (va_up (va_up (va_up (va_up (va_up (fun _ => none) 0 (some (u1 15))) 1 (some (u1 16))) 2 (some (u1 17))) 3 (some (u1 18))) 4 (some (u1 19))) 5 (some (u1 20)))))))), ((u1 12), .inr (4, [.ref (u1 13), .ref (u1 14), .int 0])), ((u1 13), .inl ((k1 6), 8, .inl (fun _ => 0))), ((u1 14), .inl ((k1 7), 8, .inl (fun _ => 0))), ((u1 15), .inr (1, [.int 0, .int 0, .int 0, .int 0, .int 0])), ((u1 16), .inr (1, [.int 0, .int 0, .int 0, .int 0, .int 0])), ((u1 17), .inr (1, [.int 0, .int 0, .int 0, .int 0, .int 0])), ((u1 18), .inr (1, [.int 0, .int 0, .int 0, .int 0, .int 0])), ((u1 19), .inr (1, [.int 0, .int 0, .int 0, .int 0, .int 0])), ((u1 20), .inr (1, [.int 0, .int 0, .int 0, .int 0, .int 0])), ((u1 21), .inr (2, [.ref (u1 22), .int 0])), ((u1 22), .inl ((k1 8), 20, .inl (fun _ => 0))), ((u1 23), .inr (3, [.ref (u1 24), .ref (u1 25), .ref (u1 26), .int 0, .int 0, .int 0])), ((u1 24), .inl ((k1 9), 6, .inl (fun _ => 0))), ((u1 25), .inl ((k1 10), 5, .inl (fun _ => 0))), ((u1 26), .inl ((k1 11), 6, .inl (fun _ => 0))), ((u1 27), .inr (5, [.ref (u1 28), .ref (u1 29), .ref (u1 30), .int 0, .int 0, .int 0, .long 0, .int 0])), ((u1 28), .inl ((k1 12), 6, .inr (.inr (.inr (.inr (va_up (va_up (va_up (va_up (va_up (va_up (fun _ => none) 0 (some (u1 31))) 1 (some (u1 35))) 2 (some (u1 39))) 3 (some (u1 43))) 4 (some (u1 47))) 5 (some (u1 51)))))))), ((u1 29), .inl ((k1 13), 3, .inl (fun _ => 0))), ((u1 30), .inl ((k1 14), 3, .inl (fun _ => 0))), ((u1 31), .inr (3, [.ref (u1 32), .ref (u1 33), .ref (u1 34), .int 0, .int 0, .int 0])), ((u1 32), .inl ((k1 15), 6, .inl (fun _ => 0))), ((u1 33), .inl ((k1 16), 5, .inl (fun _ => 0))), ((u1 34), .inl ((k1 17), 6, .inl (fun _ => 0))), ((u1 35), .inr (3, [.ref (u1 36), .ref (u1 37), .ref (u1 38), .int 0, .int 0, .int 0])), ((u1 36), .inl ((k1 18), 6, .inl (fun _ => 0))), ((u1 37), .inl ((k1 19), 5, .inl (fun _ => 0))), ((u1 38), .inl ((k1 20), 6, .inl (fun _ => 0))), ((u1 39), .inr (3, [.ref (u1 40), .ref (u1 41), .ref (u1 42), .int 0, .int 0, .int 0])), ((u1 40), .inl ((k1 21), 6, .inl (fun _ => 0))), ((u1 41), .inl ((k1 22), 5, .inl (fun _ => 0))), ((u1 42), .inl ((k1 23), 6, .inl (fun _ => 0))), ((u1 43), .inr (3, [.ref (u1 44), .ref (u1 45), .ref (u1 46), .int 0, .int 0, .int 0])), ((u1 44), .inl ((k1 24), 6, .inl (fun _ => 0))), ((u1 45), .inl ((k1 25), 5, .inl (fun _ => 0))), ((u1 46), .inl ((k1 26), 6, .inl (fun _ => 0))), ((u1 47), .inr (3, [.ref (u1 48), .ref (u1 49), .ref (u1 50), .int 0, .int 0, .int 0])), ((u1 48), .inl ((k1 27), 6, .inl (fun _ => 0))), ((u1 49), .inl ((k1 28), 5, .inl (fun _ => 0))), ((u1 50), .inl ((k1 29), 6, .inl (fun _ => 0))), ((u1 51), .inr (3, [.ref (u1 52), .ref (u1 53), .ref (u1 54), .int 0, .int 0, .int 0])), ((u1 52), .inl ((k1 30), 6, .inl (fun _ => 0))), ((u1 53), .inl ((k1 31), 5, .inl (fun _ => 0))), ((u1 54), .inl ((k1 32), 6, .inl (fun _ => 0))), (a2, .inr (8, [.int 0, .int 0, .ref (u2 1), .ref (u2 2), .ref (u2 3), .int 0, .int 0, .ref (u2 4), .ref (u2 5), .ref (u2 6), .ref (u2 7), .ref (u2 8), .int 0, .int 0, .int 0, .ref (u2 9), .int 0, .int 0, .ref (u2 10), .ref (u2 11), .ref (u2 12), .int 0, .int 0, .int 0, .ref (u2 13), .int 0, .int 0, .long 0, .int 0, .ref (u2 14), .ref (u2 15)])), ((u2 1), .inl ((k2 0), 4, .inl (upd (upd (upd (upd (fun _ => 0) 0 (-9)) 1 (-9)) 2 (-9)) 3 (-9)))), ((u2 2), .inl ((k2 1), 4, .inl (fun _ => 0))), ((u2 3), .inl ((k2 2), 240, .inl (fun _ => 0))), ((u2 4), .inl ((k2 3), 6, .inl (fun _ => 0))), ((u2 5), .inl ((k2 4), 6, .inl (fun _ => 0))), ((u2 6), .inl ((k2 5), 6, .inl (fun _ => 0))), ((u2 7), .inl ((k2 6), 6, .inl (fun _ => 0))), ((u2 8), .inl ((k2 7), 6, .inl (fun _ => 0))), ((u2 9), .inl ((k2 8), 30, .inl (fun _ => 0))), ((u2 10), .inl ((k2 9), 6, .inl (fun _ => 0))), ((u2 11), .inl ((k2 10), 5, .inl (fun _ => 0))), ((u2 12), .inl ((k2 11), 6, .inl (fun _ => 0))), ((u2 13), .inl ((k2 12), 20, .inl (fun _ => 0))), ((u2 14), .inl ((k2 13), 8, .inl (fun _ => 0))), ((u2 15), .inl ((k2 14), 8, .inl (fun _ => 0)))]) (hN : ∀ w ∈ zNw, va_Nw w s) (hX : va_X b L xs s s.heap) (hT : va_T .int st 14 (fun j => .int (zStf j)) A s s.heap) (hZ : va_Z "HourRehearsal" "STEPS" "[I" (.ref st) A s s.heap) : zSt (zGG L xs) (zAd a0 a2 st b u1 u2) (zCa k1 k2) D s := by
  have hin : ∀ q, zAa (zGG L xs) (zAd a0 a2 st b u1 u2) q → A q := by
    rintro q ⟨c, hc, rfl⟩
    obtain ⟨e, he⟩ := zWa (a0 := a0) (a2 := a2) (st := st) (b := b) (u1 := u1) (u2 := u2) (k1 := k1) (k2 := k2) (show c < 71 from hc)
    exact hD.2 c _ he
  refine ⟨fun i j hi hj h => ?_, hK.1, fun c hc n hn => zKi hK hc hn, fun c hc ci n hn => zKr hK hc hn, hN, fun c n f hf => ?_, ?_⟩
  · obtain ⟨e, he⟩ := zWa (a0 := a0) (a2 := a2) (st := st) (b := b) (u1 := u1) (u2 := u2) (k1 := k1) (k2 := k2) (show i < 71 from hi)
    obtain ⟨e', he'⟩ := zWa (a0 := a0) (a2 := a2) (st := st) (b := b) (u1 := u1) (u2 := u2) (k1 := k1) (k2 := k2) (show j < 71 from hj)
    exact hD.1 i j _ _ he he' h
  · obtain ⟨h71, h⟩ := zKc hf
    rw [zWA h71]
    rcases h with ⟨rfl, rfl, rfl⟩ | ⟨h, rfl, rfl⟩
    · rw [if_pos rfl]
      exact hT.narrow hin
    · rw [if_neg h]
      obtain ⟨scr, x1, x2, x3, x4, x5⟩ := hX
      refine ⟨scr, x1, x2, x3, by omega, by rw [x4], x5, fun y => ?_⟩
      have := (hA b).mp (hin b y)
      have hb := (Array.getElem?_eq_some_iff.mp x1).1
      omega
  · have : zAd a0 a2 st b u1 u2 zSteps = st := rfl
    rw [this]
    exact hZ.narrow hin
end S
set_option maxHeartbeats 2000000 in
theorem sbn_nil {s s' : State} {L : List Loc} {k n k' n' : Nat} (h : s.sameButNew s' L k n) (hL : ∀ x ∈ L, s.heap.size ≤ x.base) (hk : k ≤ k') (hn : n ≤ n') : s.sameButNew s' [] k' n' := by
  obtain ⟨h1, h2, h3, h4, h5, h6⟩ := h
  refine ⟨h1, h2, by omega, h4, by omega, fun a c hc => ?_⟩
  obtain ⟨c', g1, g2, g3, g4⟩ := h6 a c hc
  refine ⟨c', g1, g2, g3, fun i _ => g4 i (fun hm => ?_)⟩
  have h7 : s.heap.size ≤ a := hL _ hm
  have ha := (Array.getElem?_eq_some_iff.mp hc).1
  omega
