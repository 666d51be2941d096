/-! a plan is told: taken by the class, laid by the reference -/
def pStp (N : Nat) (x : Int32) : Prop := ∃ s, x = nI s ∧ pOk N s
set_option maxHeartbeats 1000000 in
theorem zst_c {N : Nat} {x : Int32} (h1 : N ≤ 6) : (x = 20 ∨ x = 21 ∨ (0 ≤ x ∧ x < nI N) ∨ (0 ≤ x - 10 ∧ x - 10 < nI N)) ↔ pStp N x := by
  unfold pStp pOk
  constructor
  · intro h
    rcases h with rfl | rfl | ⟨a, b⟩ | ⟨a, b⟩
    · exact ⟨20, rfl, Or.inl rfl⟩
    · exact ⟨21, rfl, Or.inr (Or.inl rfl)⟩
    · obtain ⟨j, hj, rfl⟩ := nI_of (x := x) (by grind)
      exact ⟨j, rfl, Or.inr (Or.inr (Or.inl ((nI_ltI (by omega) (by omega)).mp b)))⟩
    · obtain ⟨j, hj, e⟩ := nI_of (x := x - 10) (by grind)
      rw [e] at b
      have hb := (nI_ltI (by omega) (by omega)).mp b
      refine ⟨j + 10, ?_, Or.inr (Or.inr (Or.inr ⟨by omega, by omega⟩))⟩
      have e2 : x = nI j + 10 := by rw [← e]; grind
      rw [e2]
      exact nI_add j 10
  · rintro ⟨s, rfl, h⟩
    rcases h with rfl | rfl | h | ⟨h, h2⟩
    · exact Or.inl rfl
    · exact Or.inr (Or.inl rfl)
    · exact Or.inr (Or.inr (Or.inl ⟨nI_pos' (by omega), nI_lt h (by omega)⟩))
    · refine Or.inr (Or.inr (Or.inr ?_))
      have : nI s - 10 = nI (s - 10) := pk_sub (b := 10) h
      rw [this]
      exact ⟨nI_pos' (by omega), nI_lt (by omega) (by omega)⟩
set_option maxHeartbeats 1000000 in
theorem zst_m {N : Nat} {x : Int32} (h1 : N ≤ 6) (h0 : 0 < N) : (x = 20 ∨ x = 21 ∨ (0 ≤ x ∧ x ≤ nI N - 1) ∨ (10 ≤ x ∧ x ≤ 10 + nI N - 1)) ↔ pStp N x := by
  have eN : nI N - 1 = nI (N - 1) := pk_sub (b := 1) h0
  have e10 : 10 + nI N - 1 = nI (10 + N - 1) := by
    have : (10 : Int32) + nI N = nI (10 + N) := nI_add 10 N
    rw [this]
    exact pk_sub (b := 1) (by omega)
  rw [eN, e10]
  unfold pStp pOk
  constructor
  · intro h
    rcases h with rfl | rfl | ⟨a, b⟩ | ⟨a, b⟩
    · exact ⟨20, rfl, Or.inl rfl⟩
    · exact ⟨21, rfl, Or.inr (Or.inl rfl)⟩
    · obtain ⟨j, hj, rfl⟩ := nI_of (x := x) (by grind)
      have := (nI_leI (by omega) (by omega)).mp b
      exact ⟨j, rfl, Or.inr (Or.inr (Or.inl (by omega)))⟩
    · obtain ⟨j, hj, rfl⟩ := nI_of (x := x) (by grind)
      have h2 := (nI_leI (by omega) (by omega)).mp b
      have h3 := (@nI_leI 10 j (by omega) (by omega)).mp a
      exact ⟨j, rfl, Or.inr (Or.inr (Or.inr ⟨h3, by omega⟩))⟩
  · rintro ⟨s, rfl, h⟩
    rcases h with rfl | rfl | h | ⟨h, h2⟩
    · exact Or.inl rfl
    · exact Or.inr (Or.inl rfl)
    · exact Or.inr (Or.inr (Or.inl ⟨nI_pos' (by omega), nI_le (by omega) (by omega)⟩))
    · exact Or.inr (Or.inr (Or.inr ⟨@nI_le 10 s h (by omega), nI_le (by omega) (by omega)⟩))
section S
variable {L : Nat} {xs : Nat → Int32} {d : Nat} {J : Nat → Nat → Int64}
set_option maxHeartbeats 1000000 in
theorem qhs {N : Nat} {I : Nat → Nat → Int32} {x : Int32} (hN : I 10 2 = nI N) (h1 : N ≤ 6) : zE zCd (zGG L xs) d 23 [.ref 10, .int x] (I, J) = some (some (.int (zb (pStp N x) (Classical.propDecidable _))), (I, J)) := by
  rw [qX0_hasStep, hN]
  congr 3
  exact congrArg Value.int (zb_iff (zst_c h1))
set_option maxHeartbeats 1000000 in
theorem qis {N : Nat} {I : Nat → Nat → Int32} {x : Int32} (hN : I 55 6 = nI N) (h1 : N ≤ 6) (h0 : 0 < N) : zE zCd (zGG L xs) d 109 [.ref 55, .int x] (I, J) = some (some (.int (zb (pStp N x) (Classical.propDecidable _))), (I, J)) := by
  rw [qX9_isStep, hN]
  congr 3
  exact congrArg Value.int (zb_iff (zst_m h1 h0))
set_option maxHeartbeats 1000000 in
theorem lp_tk {N k a n : Nat} {s0 v ok : Int32} {C : Nat → Int32} (h1 : N ≤ 6) (hk : k < 4) (hn : n ≤ 20) (han : a + n ≤ 60) : ∀ (r s : Nat) (K : Nat → Nat → Int32), s + r = n → K 10 2 = nI N → K (2 * k + 3) = C →
    ((∀ j, s ≤ j → j < n → pStp N (C (a + j))) → zX zCd (zGG L xs) d 82 88 [.ref 0, .int s0, .int v, .int (nI a), .int (nI n), .int ok, .ref (2 * k + 2), .int 0, .int (nI s)] [] (K, J) = some (some (.int 0), (zU (zUr K 22 (fun j => if s ≤ j ∧ j < n then C (a + j) else K 22 j)) 21 1 (nI n), J))) ∧
    ((∃ j, s ≤ j ∧ j < n ∧ ¬ pStp N (C (a + j))) → ∃ row : Nat → Int32, zX zCd (zGG L xs) d 82 88 [.ref 0, .int s0, .int v, .int (nI a), .int (nI n), .int ok, .ref (2 * k + 2), .int 0, .int (nI s)] [] (K, J) = some (some (.int (-1)), (zUr K 22 row, J))) := by
  intro r
  induction r with
  | zero =>
    intro s K h hN hC
    obtain rfl : s = n := by omega
    refine ⟨fun _ => ?_, fun ⟨j, a1, a2, _⟩ => absurd a1 (by omega)⟩
    rw [eX8_takePlan_88]
    simp only [eX8_takePlan_90, eX8_takePlan_92, eX8_takePlan_143, eX8_takePlan_144, eX8_takePlan_147, eX8_takePlan_149, eX8_takePlan_152, eX8_takePlan_153, Int32.le_refl, if_true, G_o0, G_h0_2, G_r0_2, G_o21]
    congr 4
    funext c j
    simp only [zUr_app]
    by_cases e : c = 22
    · subst e; simp; intro x y; omega
    · simp [e]
  | succ r ih =>
    intro s K h hN hC
    have c1 : (nI n ≤ nI s) = False := by rw [zle (show n ≤ 1000000 by omega) (show s ≤ 1000000 by omega)]; exact eq_false (by omega)
    have hs := qhs (L := L) (xs := xs) (d := d) (J := J) (I := K) (x := C (a + s)) hN h1
    by_cases hp : pStp N (C (a + s))
    · rw [zb_t hp] at hs
      obtain ⟨i1, i2⟩ := ih (s + 1) (zU K 22 s (C (a + s))) (by omega) (by rw [zU_ne _ _ _ (by decide)]; exact hN) (by rw [zU_ne _ _ _ (by omega)]; exact hC)
      have step : zX zCd (zGG L xs) d 82 88 [.ref 0, .int s0, .int v, .int (nI a), .int (nI n), .int ok, .ref (2 * k + 2), .int 0, .int (nI s)] [] (K, J) = zX zCd (zGG L xs) d 82 88 [.ref 0, .int s0, .int v, .int (nI a), .int (nI n), .int ok, .ref (2 * k + 2), .int 0, .int (nI (s + 1))] [] (zU K 22 s (C (a + s)), J) := by
        rw [eX8_takePlan_88]
        simp only [eX8_takePlan_90, eX8_takePlan_92, eX8_takePlan_95, eX8_takePlan_96, eX8_takePlan_99, eX8_takePlan_101, eX8_takePlan_104, eX8_takePlan_105, eX8_takePlan_107, eX8_takePlan_108, eX8_takePlan_109, eX8_takePlan_112, eX8_takePlan_115, eX8_takePlan_116, eX8_takePlan_117, eX8_takePlan_118, eX8_takePlan_121, eX8_takePlan_124, eX8_takePlan_126, eX8_takePlan_128, eX8_takePlan_131, eX8_takePlan_132, eX8_takePlan_134, eX8_takePlan_135, eX8_takePlan_136, eX8_takePlan_137, eX8_takePlan_140, Option.bind_some, Option.toList_some, Option.toList_none, List.cons_append, List.nil_append, c1, if_false, G_o0, G_h0_1, G_r0_1, G_h0_2, G_r0_2, G_o10, G_o21, G_h21_0, G_r21_0, G_a22, G_l22, G_sh_o hk, G_sh_h hk, G_sh_r hk, G_sh_a hk, G_sh_l hk, nI_add, zIn_60 (show a + s < 60 by omega), zc_n (show a + s ≤ 1000 by omega), hC, hs, show ((1 : Int32) ≠ 0) = True from by decide, if_true, zIn_20 (show s < 20 by omega), zc_n (show s ≤ 1000 by omega), nI_1]
      refine ⟨fun hall => ?_, fun ⟨j, a1, a2, a3⟩ => ?_⟩
      · rw [step, i1 (fun j x y => hall j (by omega) y)]
        congr 4
        funext c j
        simp only [zUr_app, zU_app]
        by_cases e : c = 22
        · subst e
          by_cases ej : j = s
          · subst ej; simp; omega
          · simp [ej]
            by_cases b : s ≤ j ∧ j < n
            · rw [if_pos b, if_pos (by omega)]
            · rw [if_neg b, if_neg (by omega)]
        · simp [e]
      · have hjs : j ≠ s := fun e => a3 (by rw [e]; exact hp)
        obtain ⟨row, hr⟩ := i2 ⟨j, by omega, a2, a3⟩
        refine ⟨row, ?_⟩
        rw [step, hr]
        congr 3
        funext c j
        simp only [zUr_app, zU_app]
        by_cases e : c = 22 <;> simp [e]
    · rw [zb_f hp] at hs
      refine ⟨fun hall => absurd (hall s (by omega) (by omega)) hp, fun _ => ⟨K 22, ?_⟩⟩
      have e0 : zUr K 22 (K 22) = K := by
        funext c j
        simp only [zUr_app]
        by_cases e : c = 22 <;> simp [e]
      rw [e0, eX8_takePlan_88]
      simp only [eX8_takePlan_90, eX8_takePlan_92, eX8_takePlan_95, eX8_takePlan_96, eX8_takePlan_99, eX8_takePlan_101, eX8_takePlan_104, eX8_takePlan_105, eX8_takePlan_107, eX8_takePlan_108, eX8_takePlan_109, eX8_takePlan_112, eX8_takePlan_115, eX8_takePlan_116, Option.bind_some, Option.toList_some, Option.toList_none, List.cons_append, List.nil_append, c1, if_false, G_o0, G_h0_1, G_r0_1, G_o10, G_sh_o hk, G_sh_h hk, G_sh_r hk, G_sh_a hk, G_sh_l hk, nI_add, zIn_60 (show a + s < 60 by omega), zc_n (show a + s ≤ 1000 by omega), hC, hs, show ((0 : Int32) ≠ 0) = False from by decide]
end S
