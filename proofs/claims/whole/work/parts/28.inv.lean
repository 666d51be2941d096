/-! what holds between the calls: the class's cells and the reference's say the same -/
def zInS (hr ln le so sl : Int32) : Prop := (hr = 0 ∧ so = -9) ∨ (hr = 1 ∧ so = ln ∧ (0 ≤ ln ∧ ln ≤ 2) ∧ sl = le ∧ ∃ m, m ≤ 60 ∧ le = nI m)
def zInP (r : Nat → Int32) : Prop := (r 0 = 0 ∨ r 0 = 1 ∨ r 0 = 2) ∧ (0 ≤ r 1 ∧ r 1 ≤ 10) ∧ (0 ≤ r 2 ∧ r 2 ≤ 9) ∧ (0 ≤ r 3 ∧ r 3 ≤ 9) ∧ (0 ≤ r 4 ∧ r 4 ≤ 5)
def zInv (I : Nat → Nat → Int32) : Prop :=
  (I 0 6 = I 55 0 ∧ I 0 5 = I 55 1 ∧ I 55 22 = 0) ∧
  (∀ k, k < 4 → zInS (I (2 * k + 2) 1) (I (2 * k + 2) 2) (I (2 * k + 2) 3) (I 56 k) (I 57 k) ∧ ∀ i, i < 60 → I (2 * k + 3) i = I 58 (60 * k + i)) ∧
  (∀ k j, k < 6 → 5 ≤ j → I (k + 15) j = 0) ∧
  (∀ k j, k < 6 → j < 5 → I (k + 15) j = I (j + 59) k) ∧
  (∀ k, k < 6 → zInP (I (k + 15))) ∧
  ∃ N, (N ≤ 6 ∧ I 10 2 = nI N ∧ I 55 6 = nI N ∧ I 10 3 = I 55 5 ∧ (0 < N → 5 ≤ I 10 3 ∧ I 10 3 ≤ 60) ∧ (N = 0 → I 10 3 = 0)) ∧
    ∃ C, C ≤ 8 ∧ I 12 2 = nI C ∧ I 55 28 = nI C ∧ (N = 0 → C = 0) ∧ ∀ q, q < C → I 13 q = I 69 q ∧ I 14 q = I 70 q ∧ ∃ a, a < N ∧ I 13 q = nI a
set_option maxHeartbeats 1000000 in
theorem zInv.keep {I I' : Nat → Nat → Int32} (h : zInv I) (hc : ∀ c, ((1 ≤ c ∧ c ≤ 20) ∨ (56 ≤ c ∧ c ≤ 63) ∨ c = 69 ∨ c = 70) → I' c = I c) (hf : I' 0 6 = I' 55 0) (ht : I' 0 5 = I' 55 1) (h5 : I' 55 5 = I 55 5) (h6 : I' 55 6 = I 55 6) (h22 : I' 55 22 = I 55 22) (h28 : I' 55 28 = I 55 28) : zInv I' := by
  obtain ⟨⟨a1, a2, a3⟩, b, c1, c2, c3, N, ⟨n1, n2, n3, n4, n5, n6⟩, C, r1, r2, r3, r4, r5⟩ := h
  refine ⟨⟨hf, ht, by rw [h22]; exact a3⟩, fun k hk => ?_, fun k j hk hj => ?_, fun k j hk hj => ?_, fun k hk => ?_, N, ⟨n1, ?_, ?_, ?_, ?_, ?_⟩, C, r1, ?_, ?_, r4, fun q hq => ?_⟩
  · rw [hc (2 * k + 2) (by omega), hc (2 * k + 3) (by omega), hc 56 (by omega), hc 57 (by omega), hc 58 (by omega)]
    exact b k hk
  · rw [hc (k + 15) (by omega)]; exact c1 k j hk hj
  · rw [hc (k + 15) (by omega), hc (j + 59) (by omega)]; exact c2 k j hk hj
  · rw [hc (k + 15) (by omega)]; exact c3 k hk
  · rw [hc 10 (by omega)]; exact n2
  · rw [h6]; exact n3
  · rw [hc 10 (by omega), h5]; exact n4
  · rw [hc 10 (by omega)]; exact n5
  · rw [hc 10 (by omega)]; exact n6
  · rw [hc 12 (by omega)]; exact r2
  · rw [h28]; exact r3
  · rw [hc 13 (by omega), hc 14 (by omega), hc 69 (by omega), hc 70 (by omega)]; exact r5 q hq
set_option maxHeartbeats 1000000 in
theorem zInv.F {I : Nat → Nat → Int32} (h : zInv I) : cF I = mF I := by
  obtain ⟨-, -, c1, c2, -⟩ := h
  funext k j
  simp only [cF, mF]
  by_cases hk : k < 6
  · by_cases hj : j < 5
    · rw [if_pos hk, if_pos ⟨hk, hj⟩, c2 k j hk hj]
    · rw [if_pos hk, if_neg (fun x => hj x.2), c1 k j hk (by omega)]
  · rw [if_neg hk, if_neg (fun x => hk x.1)]
set_option maxHeartbeats 1000000 in
theorem zU_at (f : Nat → Nat → Int32) (c k : Nat) (v : Int32) : zU f c k v c k = v := by simp [zU]
set_option maxHeartbeats 1000000 in
theorem zU_k (f : Nat → Nat → Int32) (c : Nat) {k j : Nat} (v : Int32) (h : j ≠ k) : zU f c k v c j = f c j := by simp [zU, h]
set_option maxHeartbeats 1000000 in
theorem zU_uu (f : Nat → Nat → Int32) (c k : Nat) (v w : Int32) : zU (zU f c k v) c k w = zU f c k w := by
  funext a b
  simp only [zU_app]
  by_cases e : a = c ∧ b = k <;> simp [e]
/-- which fault a row of cells comes to -/
def pFl (hr ln le v i n : Int32) : Int32 := if hr = 0 then 1 else if ln = v then (if n < 0 then 4 else if 0 ≤ i ∧ i ≤ le ∧ 0 ≤ n ∧ n ≤ le - i then 0 else 3) else 2
set_option maxHeartbeats 1000000 in
theorem pFl_m {hr ln le so sl v i n : Int32} (h : zInS hr ln le so sl) (hv : 0 ≤ v ∧ v ≤ 2) : (if so ≠ -9 ∧ so ≠ v then 2 else if so = -9 then 1 else if n < 0 then 4 else if i < 0 ∨ sl < i ∨ sl - i < n then 3 else 0) = pFl hr ln le v i n := by
  unfold pFl
  rcases h with ⟨rfl, rfl⟩ | ⟨rfl, rfl, hl, rfl, m, hm, rfl⟩
  · simp
  · have h9 : ¬ so = -9 := by intro e; rw [e] at hl; exact absurd hl.1 (by decide)
    simp only [show ((1 : Int32) = 0) = False from by decide, if_false, h9, ne_eq, not_false_eq_true, true_and]
    by_cases e : so = v
    · simp only [e, not_true_eq_false, if_false, if_true]
      by_cases en : n < 0
      · simp [en]
      · simp only [if_neg en]
        by_cases ei : i < 0 ∨ nI m < i ∨ nI m - i < n
        · rw [if_pos ei, if_neg (by grind)]
        · rw [if_neg ei, if_pos (by grind)]
    · simp [e]
set_option maxHeartbeats 1000000 in
theorem zIdx {x : Int32} {n : Nat} (h0 : 0 ≤ x) (h : x < nI n) (hn : n ≤ 1000) : ∃ k, k < n ∧ x = nI k := by
  obtain ⟨j, hj, rfl⟩ := nI_of (x := x) (by grind)
  exact ⟨j, (nI_ltI (by omega) (by omega)).mp h, rfl⟩
set_option maxHeartbeats 1000000 in
theorem zIdl {x : Int32} {n : Nat} (h0 : 0 ≤ x) (h : x ≤ nI n) (hn : n ≤ 1000) : ∃ k, k ≤ n ∧ x = nI k := by
  obtain ⟨j, hj, rfl⟩ := nI_of (x := x) (by grind)
  exact ⟨j, (nI_leI (by omega) (by omega)).mp h, rfl⟩
