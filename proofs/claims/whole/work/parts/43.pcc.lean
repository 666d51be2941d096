/-- the reference's places, j of them taken from what was read -/
def pcM (K : Nat → Nat → Int32) (R : Nat → Int32) (j : Nat) : Nat → Nat → Int32 := fun c k => if (59 ≤ c ∧ c ≤ 63) ∧ k < j then R (5 * k + (c - 59)) else K c k
set_option maxHeartbeats 1000000 in
theorem pc_o {K : Nat → Nat → Int32} {R : Nat → Int32} {j c : Nat} (h : c < 59 ∨ 63 < c) : pcM K R j c = K c := by
  funext k
  simp only [pcM]
  rw [if_neg (by omega)]
set_option maxHeartbeats 1000000 in
theorem pc_0 {K : Nat → Nat → Int32} {R : Nat → Int32} : pcM K R 0 = K := by
  funext c k
  simp only [pcM]
  rw [if_neg (by omega)]
set_option maxHeartbeats 1000000 in
theorem pc_s {K : Nat → Nat → Int32} {R : Nat → Int32} {j : Nat} : zU (zU (zU (zU (zU (pcM K R j) 59 j (R (5 * j))) 60 j (R (5 * j + 1))) 61 j (R (5 * j + 2))) 62 j (R (5 * j + 3))) 63 j (R (5 * j + 4)) = pcM K R (j + 1) := by
  funext c k
  simp only [zU_app, pcM]
  by_cases hk : k = j
  · subst hk
    by_cases e1 : c = 63
    · subst e1; rw [if_pos (by simp), if_pos (by omega)]
    · by_cases e2 : c = 62
      · subst e2; rw [if_neg (by omega), if_pos (by simp), if_pos (by omega)]
      · by_cases e3 : c = 61
        · subst e3; rw [if_neg (by omega), if_neg (by omega), if_pos (by simp), if_pos (by omega)]
        · by_cases e4 : c = 60
          · subst e4; rw [if_neg (by omega), if_neg (by omega), if_neg (by omega), if_pos (by simp), if_pos (by omega)]
          · by_cases e5 : c = 59
            · subst e5; rw [if_neg (by omega), if_neg (by omega), if_neg (by omega), if_neg (by omega), if_pos (by simp), if_pos (by omega)]; rfl
            · rw [if_neg (by omega), if_neg (by omega), if_neg (by omega), if_neg (by omega), if_neg (by omega), if_neg (by omega), if_neg (by omega)]
  · rw [if_neg (by omega), if_neg (by omega), if_neg (by omega), if_neg (by omega), if_neg (by omega)]
    by_cases e : (59 ≤ c ∧ c ≤ 63) ∧ k < j
    · rw [if_pos e, if_pos (by omega)]
    · rw [if_neg e, if_neg (by omega)]
/-- the class's places -/
def cfM (K : Nat → Nat → Int32) (V : Nat → Nat → Int32) (j : Nat) : Nat → Nat → Int32 := fun c s => if (15 ≤ c ∧ c < 15 + j) ∧ s < 5 then V (c - 15) s else K c s
set_option maxHeartbeats 1000000 in
theorem cf_o {K : Nat → Nat → Int32} {V : Nat → Nat → Int32} {j c : Nat} (h : c < 15 ∨ 15 + j ≤ c) : cfM K V j c = K c := by
  funext k
  simp only [cfM]
  rw [if_neg (by omega)]
set_option maxHeartbeats 1000000 in
theorem cf_0 {K : Nat → Nat → Int32} {V : Nat → Nat → Int32} : cfM K V 0 = K := by
  funext c k
  simp only [cfM]
  rw [if_neg (by omega)]
set_option maxHeartbeats 1000000 in
theorem cf_s {K : Nat → Nat → Int32} {V : Nat → Nat → Int32} {j : Nat} : zU (zU (zU (zU (zU (cfM K V j) (j + 15) 0 (V j 0)) (j + 15) 1 (V j 1)) (j + 15) 2 (V j 2)) (j + 15) 3 (V j 3)) (j + 15) 4 (V j 4) = cfM K V (j + 1) := by
  funext c s
  simp only [zU_app, cfM]
  by_cases hc : c = j + 15
  · subst hc
    have ej : j + 15 - 15 = j := by omega
    by_cases e1 : s = 4
    · subst e1; rw [if_pos (by simp), if_pos (by omega), ej]
    · by_cases e2 : s = 3
      · subst e2; rw [if_neg (by omega), if_pos (by simp), if_pos (by omega), ej]
      · by_cases e3 : s = 2
        · subst e3; rw [if_neg (by omega), if_neg (by omega), if_pos (by simp), if_pos (by omega), ej]
        · by_cases e4 : s = 1
          · subst e4; rw [if_neg (by omega), if_neg (by omega), if_neg (by omega), if_pos (by simp), if_pos (by omega), ej]
          · by_cases e5 : s = 0
            · subst e5; rw [if_neg (by omega), if_neg (by omega), if_neg (by omega), if_neg (by omega), if_pos (by simp), if_pos (by omega), ej]
            · rw [if_neg (by omega), if_neg (by omega), if_neg (by omega), if_neg (by omega), if_neg (by omega), if_neg (by omega), if_neg (by omega)]
  · rw [if_neg (by omega), if_neg (by omega), if_neg (by omega), if_neg (by omega), if_neg (by omega)]
    by_cases e : (15 ≤ c ∧ c < 15 + j) ∧ s < 5
    · rw [if_pos e, if_pos (by omega)]
    · rw [if_neg e, if_neg (by omega)]
def plV (ch : Nat → Int32) (k s : Nat) : Int32 := if s = 0 then kBy (ch (6 * k + 4)) else ch (6 * k + 4 + s) - 48
section S
variable {L : Nat} {xs : Nat → Int32} {d : Nat} {J : Nat → Nat → Int64} {I : Nat → Nat → Int32}
set_option maxHeartbeats 1000000 in
theorem lp_pcm {K : Nat → Nat → Int32} {R : Nat → Int32} {N : Nat} {a1 a2 a3 a4 a5 a6 : Int32} (h1 : N ≤ 6) (hN : K 55 6 = nI N) (hR : K 64 = R) : ∀ (r j : Nat), j + r = N → zX zCd (zGG L xs) d 101 103 [.ref 55, .int a1, .int a2, .int a3, .int a4, .int a5, .int a6, .int (nI j)] [] (pcM K R j, J) = some (some (.int (nI N)), (zU (pcM K R N) 55 28 0, J)) := by
  intro r
  have p55 : ∀ j, pcM K R j 55 = K 55 := fun j => pc_o (by omega)
  have p64 : ∀ j, pcM K R j 64 = R := fun j => (pc_o (by omega)).trans hR
  induction r with
  | zero =>
    intro j h
    obtain rfl : j = N := by omega
    rw [eX9_piece_103]
    have o6 : zU (pcM K R j) 55 28 0 55 6 = nI j := by rw [zU_k _ _ _ (by decide), p55]; exact hN
    simp only [eX9_piece_105, eX9_piece_106, eX9_piece_109, eX9_piece_206, eX9_piece_207, eX9_piece_208, eX9_piece_211, eX9_piece_212, eX9_piece_215, G_o55, p55, hN, Int32.le_refl, if_true, o6]
  | succ r ih =>
    intro j h
    have e5 : (5 : Int32) * nI j = nI (5 * j) := pk_mul 5 j
    have el : (nI N ≤ nI j) = False := by rw [zle (show N ≤ 1000000 by omega) (show j ≤ 1000000 by omega)]; exact eq_false (by omega)
    have a2' : nI (5 * j) + 2 = nI (5 * j + 2) := nI_add _ 2
    have a3' : nI (5 * j) + 3 = nI (5 * j + 3) := nI_add _ 3
    have a4' : nI (5 * j) + 4 = nI (5 * j + 4) := nI_add _ 4
    rw [eX9_piece_103]
    simp only [eX9_piece_105, eX9_piece_106, eX9_piece_109, eX9_piece_112, eX9_piece_113, eX9_piece_116, eX9_piece_118, eX9_piece_119, eX9_piece_122, eX9_piece_123, eX9_piece_125, eX9_piece_126, eX9_piece_127, eX9_piece_128, eX9_piece_129, eX9_piece_132, eX9_piece_134, eX9_piece_135, eX9_piece_138, eX9_piece_139, eX9_piece_141, eX9_piece_142, eX9_piece_143, eX9_piece_144, eX9_piece_145, eX9_piece_146, eX9_piece_147, eX9_piece_150, eX9_piece_152, eX9_piece_153, eX9_piece_156, eX9_piece_157, eX9_piece_159, eX9_piece_160, eX9_piece_161, eX9_piece_162, eX9_piece_163, eX9_piece_164, eX9_piece_165, eX9_piece_168, eX9_piece_170, eX9_piece_171, eX9_piece_174, eX9_piece_175, eX9_piece_177, eX9_piece_178, eX9_piece_179, eX9_piece_180, eX9_piece_181, eX9_piece_182, eX9_piece_183, eX9_piece_186, eX9_piece_188, eX9_piece_189, eX9_piece_192, eX9_piece_193, eX9_piece_195, eX9_piece_196, eX9_piece_197, eX9_piece_198, eX9_piece_199, eX9_piece_200, eX9_piece_203, Option.bind_some, Option.toList_some, Option.toList_none, List.cons_append, List.nil_append, G_o55, G_h55_2, G_r55_2, G_a56, G_l56, G_h55_3, G_r55_3, G_a57, G_l57, G_h55_4, G_r55_4, G_a58, G_l58, G_h55_7, G_r55_7, G_a59, G_l59, G_h55_8, G_r55_8, G_a60, G_l60, G_h55_9, G_r55_9, G_a61, G_l61, G_h55_10, G_r55_10, G_a62, G_l62, G_h55_11, G_r55_11, G_a63, G_l63, G_h55_29, G_r55_29, G_a69, G_l69, G_h55_30, G_r55_30, G_a70, G_l70, G_h55_15, G_r55_15, G_a64, G_l64, p55, hN, el, if_false, e5, nI_1, a2', a3', a4', zIn_6 (show j < 6 by omega), zc_n (show j ≤ 1000 by omega), zIn_30 (show 5 * j < 30 by omega), zc_n (show 5 * j ≤ 1000 by omega), zIn_30 (show 5 * j + 1 < 30 by omega), zc_n (show 5 * j + 1 ≤ 1000 by omega), zIn_30 (show 5 * j + 2 < 30 by omega), zc_n (show 5 * j + 2 ≤ 1000 by omega), zIn_30 (show 5 * j + 3 < 30 by omega), zc_n (show 5 * j + 3 ≤ 1000 by omega), zIn_30 (show 5 * j + 4 < 30 by omega), zc_n (show 5 * j + 4 ≤ 1000 by omega), zU_ne _ _ _ (show 64 ≠ 59 by decide), zU_ne _ _ _ (show 64 ≠ 60 by decide), zU_ne _ _ _ (show 64 ≠ 61 by decide), zU_ne _ _ _ (show 64 ≠ 62 by decide), zU_ne _ _ _ (show 64 ≠ 63 by decide), p64, pc_s]
    exact ih (j + 1) (by omega)
set_option maxHeartbeats 1000000 in
theorem lp_fl {q a n N : Nat} {ch : Nat → Int32} {v5 v6 : Value} {K : Nat → Nat → Int32} (hq : q < 4) (han : a + n ≤ 60) (h1 : N ≤ 6) (hNn : 6 * N + 3 ≤ n) (hch : ∀ k, k < n → K (2 * q + 3) (a + k) = ch k) (hN : K 10 2 = nI N) : ∀ (r j : Nat) (v5 v6 : Value), j + r = N → zX zCd (zGG L xs) d 18 50 [.ref 10, .ref (2 * q + 3), .int (nI a), .int (nI n), .int (nI j), v5, v6] [] (cfM K (plV ch) j, J) = some (none, (cfM K (plV ch) N, J)) := by
  intro r
  have c10 : ∀ j, cfM K (plV ch) j 10 = K 10 := fun j => cf_o (by omega)
  have ccl : ∀ j, cfM K (plV ch) j (2 * q + 3) = K (2 * q + 3) := fun j => cf_o (by omega)
  induction r with
  | zero =>
    intro j v5 v6 h
    obtain rfl : j = N := by omega
    rw [eX7_fill_50]
    simp only [eX7_fill_52, eX7_fill_53, eX7_fill_56, eX7_fill_155, G_o10, c10, hN, Int32.le_refl, if_true]
  | succ r ih =>
    intro j v5 v6 h
    have el : (nI N ≤ nI j) = False := by rw [zle (show N ≤ 1000000 by omega) (show j ≤ 1000000 by omega)]; exact eq_false (by omega)
    have e6 : nI j * 6 = nI (j * 6) := pk_mul j 6
    have b3 : nI a + 3 = nI (a + 3) := nI_add _ 3
    have b2' : nI (a + 3 + j * 6) + 2 = nI (a + 3 + j * 6 + 2) := nI_add _ 2
    have b3' : nI (a + 3 + j * 6) + 3 = nI (a + 3 + j * 6 + 3) := nI_add _ 3
    have b4' : nI (a + 3 + j * 6) + 4 = nI (a + 3 + j * 6 + 4) := nI_add _ 4
    have b5' : nI (a + 3 + j * 6) + 5 = nI (a + 3 + j * 6 + 5) := nI_add _ 5
    have oz : ∀ (M : Nat → Nat → Int32) (s : Nat) (v : Int32), zU M (j + 15) s v (2 * q + 3) = M (2 * q + 3) := fun M s v => zU_ne _ _ _ (by omega)
    have r1 : K (2 * q + 3) (a + 3 + j * 6 + 1) = ch (6 * j + 4) := by rw [← hch _ (by omega)]; congr 1; omega
    have r2 : K (2 * q + 3) (a + 3 + j * 6 + 2) - 48 = plV ch j 1 := by rw [show a + 3 + j * 6 + 2 = a + (6 * j + 4 + 1) by omega, hch _ (by omega)]; rfl
    have r3 : K (2 * q + 3) (a + 3 + j * 6 + 3) - 48 = plV ch j 2 := by rw [show a + 3 + j * 6 + 3 = a + (6 * j + 4 + 2) by omega, hch _ (by omega)]; rfl
    have r4 : K (2 * q + 3) (a + 3 + j * 6 + 4) - 48 = plV ch j 3 := by rw [show a + 3 + j * 6 + 4 = a + (6 * j + 4 + 3) by omega, hch _ (by omega)]; rfl
    have r5 : K (2 * q + 3) (a + 3 + j * 6 + 5) - 48 = plV ch j 4 := by rw [show a + 3 + j * 6 + 5 = a + (6 * j + 4 + 4) by omega, hch _ (by omega)]; rfl
    have rk : (if ch (6 * j + 4) = 112 then 0 else if ch (6 * j + 4) = 107 then 1 else if ch (6 * j + 4) = 104 then 2 else -9) = plV ch j 0 := rfl
    rw [eX7_fill_50]
    simp only [eX7_fill_52, eX7_fill_53, eX7_fill_56, eX7_fill_59, eX7_fill_60, eX7_fill_61, eX7_fill_62, eX7_fill_64, eX7_fill_66, eX7_fill_67, eX7_fill_68, eX7_fill_70, eX7_fill_71, eX7_fill_74, eX7_fill_76, eX7_fill_77, eX7_fill_79, eX7_fill_81, eX7_fill_82, eX7_fill_84, eX7_fill_85, eX7_fill_86, eX7_fill_87, eX7_fill_90, eX7_fill_93, eX7_fill_95, eX7_fill_96, eX7_fill_98, eX7_fill_99, eX7_fill_100, eX7_fill_101, eX7_fill_104, eX7_fill_107, eX7_fill_109, eX7_fill_110, eX7_fill_112, eX7_fill_113, eX7_fill_114, eX7_fill_115, eX7_fill_118, eX7_fill_121, eX7_fill_123, eX7_fill_124, eX7_fill_126, eX7_fill_127, eX7_fill_128, eX7_fill_129, eX7_fill_132, eX7_fill_135, eX7_fill_137, eX7_fill_138, eX7_fill_140, eX7_fill_141, eX7_fill_142, eX7_fill_143, eX7_fill_146, eX7_fill_149, eX7_fill_152, Option.bind_some, Option.toList_some, Option.toList_none, List.cons_append, List.nil_append, G_o0, G_h0_0, G_r0_0, G_h0_1, G_r0_1, G_h0_2, G_r0_2, G_h0_3, G_r0_3, G_h0_4, G_r0_4, G_o10, G_h10_0, G_r10_0, G_h10_1, G_r10_1, G_q11, G_l11, G_o12, G_h12_0, G_r12_0, G_h12_1, G_r12_1, G_a13, G_l13, G_a14, G_l14, G_q1, G_l1, G_sh_a hq, G_sh_l hq, c10, hN, el, if_false, e6, b3, nI_add, nI_1, b2', b3', b4', b5', zIn_6 (show j < 6 by omega), zc_n (show j ≤ 1000 by omega), G_11h (show j < 6 by omega), G_11r (show j < 6 by omega), G_pl_o (show j < 6 by omega), zIn_60 (show a + 3 + j * 6 + 1 < 60 by omega), zc_n (show a + 3 + j * 6 + 1 ≤ 1000 by omega), zIn_60 (show a + 3 + j * 6 + 2 < 60 by omega), zc_n (show a + 3 + j * 6 + 2 ≤ 1000 by omega), zIn_60 (show a + 3 + j * 6 + 3 < 60 by omega), zc_n (show a + 3 + j * 6 + 3 ≤ 1000 by omega), zIn_60 (show a + 3 + j * 6 + 4 < 60 by omega), zc_n (show a + 3 + j * 6 + 4 ≤ 1000 by omega), zIn_60 (show a + 3 + j * 6 + 5 < 60 by omega), zc_n (show a + 3 + j * 6 + 5 ≤ 1000 by omega), qX7_kindBy, qX7_digit, oz, ccl, r1, r2, r3, r4, r5, rk, cf_s]
    exact ih (j + 1) _ _ (by omega)
set_option maxHeartbeats 1000000 in
theorem qX7_fill {q a n N : Nat} {ch : Nat → Int32} {K : Nat → Nat → Int32} (hq : q < 4) (han : a + n ≤ 60) (h1 : N ≤ 6) (hNn : n = 6 * N + 3) (h3 : 3 < n) (hch : ∀ k, k < n → K (2 * q + 3) (a + k) = ch k) : zE zCd (zGG L xs) d 18 [.ref 10, .ref (2 * q + 3), .int (nI a), .int (nI n)] (K, J) = some (none, (cfM (zU (zU (zU K 12 2 0) 10 3 (10 * (ch 1 - 48) + (ch 2 - 48))) 10 2 (nI N)) (plV ch) N, J)) := by
  have b2 : nI a + 2 = nI (a + 2) := nI_add _ 2
  have es : nI n - 3 = nI (n - 3) := pk_sub (b := 3) (by omega)
  have ed : nI (n - 3) / 6 = nI N := by
    have := pk_div (a := n - 3) (d := 6) (by omega) (by decide) (by decide)
    rw [show (n - 3) / 6 = N by omega] at this
    exact this
  have em : ((6 : Int32) < nI N) = False := by rw [show ((6 : Int32) < nI N) = (6 < N) from @zlt 6 N (by omega) (by omega)]; exact eq_false (by omega)
  have o1 : zU K 12 2 0 (2 * q + 3) = K (2 * q + 3) := zU_ne _ _ _ (by omega)
  have l := lp_fl (L := L) (xs := xs) (d := d) (J := J) (q := q) (a := a) (n := n) (N := N) (ch := ch) (v5 := .null) (v6 := .null) (K := zU (zU (zU K 12 2 0) 10 3 (10 * (ch 1 - 48) + (ch 2 - 48))) 10 2 (nI N)) hq han h1 (by omega) (fun k hk => by rw [zU_ne _ _ _ (by omega), zU_ne _ _ _ (by omega), o1]; exact hch k hk) (zU_at _ _ _ _) N 0 .null .null (by omega)
  rw [cf_0] at l
  simp only [nX7_fill, eX7_fill_0, eX7_fill_1, eX7_fill_4, eX7_fill_5, eX7_fill_8, eX7_fill_9, eX7_fill_11, eX7_fill_12, eX7_fill_13, eX7_fill_14, eX7_fill_15, eX7_fill_16, eX7_fill_19, eX7_fill_20, eX7_fill_21, eX7_fill_22, eX7_fill_23, eX7_fill_24, eX7_fill_25, eX7_fill_28, eX7_fill_29, eX7_fill_32, eX7_fill_33, eX7_fill_34, eX7_fill_35, eX7_fill_36, eX7_fill_38, eX7_fill_39, eX7_fill_41, eX7_fill_44, eX7_fill_47, eX7_fill_48, Option.bind_some, Option.toList_some, Option.toList_none, List.cons_append, List.nil_append, G_o0, G_h0_0, G_r0_0, G_h0_1, G_r0_1, G_h0_2, G_r0_2, G_h0_3, G_r0_3, G_h0_4, G_r0_4, G_o10, G_h10_0, G_r10_0, G_h10_1, G_r10_1, G_q11, G_l11, G_o12, G_h12_0, G_r12_0, G_h12_1, G_r12_1, G_a13, G_l13, G_a14, G_l14, G_q1, G_l1, G_sh_a hq, G_sh_l hq, nI_1, b2, zIn_60 (show a + 1 < 60 by omega), zc_n (show a + 1 ≤ 1000 by omega), zIn_60 (show a + 2 < 60 by omega), zc_n (show a + 2 ≤ 1000 by omega), qX7_digit, o1, hch 1 (by omega), hch 2 (by omega), z6n0, not_false_eq_true, es, ed, em, if_false]
  exact l

set_option maxHeartbeats 1000000 in
theorem pl_good {ch : Nat → Int32} {n N k : Nat} (hg : ∀ j, j < n → gK ch j) (hn : n = 6 * N + 3) (h6 : N ≤ 6) (hk : k < N) : zInP (plV ch k) := by
  have g : ∀ i, i < 5 → gP (i + 1) (ch (6 * k + 4 + i)) := fun i hi => by
    have := (gK_3 (ch := ch) (k := 6 * k + 4 + i) (by omega) (by omega)).mp (hg _ (by omega))
    rw [show (6 * k + 4 + i - 3) % 6 = i + 1 by omega] at this
    exact this
  have g0 := gP_1.mp (g 0 (by decide))
  have g1 := gP_2.mp (g 1 (by decide))
  have g2 := gP_3.mp (g 2 (by decide))
  have g3 := gP_4.mp (g 3 (by decide))
  have g4 := gP_5.mp (g 4 (by decide))
  refine ⟨?_, ?_, ?_, ?_, ?_⟩
  · show kBy (ch (6 * k + 4)) = 0 ∨ kBy (ch (6 * k + 4)) = 1 ∨ kBy (ch (6 * k + 4)) = 2
    rw [Nat.add_zero] at g0
    rcases g0 with h | h | h <;> rw [h] <;> decide
  · show 0 ≤ ch (6 * k + 4 + 1) - 48 ∧ ch (6 * k + 4 + 1) - 48 ≤ 10
    grind
  · show 0 ≤ ch (6 * k + 4 + 2) - 48 ∧ ch (6 * k + 4 + 2) - 48 ≤ 9
    grind
  · show 0 ≤ ch (6 * k + 4 + 3) - 48 ∧ ch (6 * k + 4 + 3) - 48 ≤ 9
    grind
  · show 0 ≤ ch (6 * k + 4 + 4) - 48 ∧ ch (6 * k + 4 + 4) - 48 ≤ 5
    grind
set_option maxHeartbeats 1000000 in
theorem inv_pc {I1 I2 : Nat → Nat → Int32} {N : Nat} {V : Nat → Nat → Int32} {mn : Int32} (hI : zInv I) (h1 : N ≤ 6) (h0 : 0 < N)
    (o : ∀ c, (1 ≤ c ∧ c ≤ 9) ∨ (56 ≤ c ∧ c ≤ 58) → I2 c = I c) (f0 : I2 0 6 = I2 55 0) (f5 : I2 0 5 = I2 55 1) (f22 : I2 55 22 = 0)
    (hV : ∀ k, k < N → zInP (V k)) (hp : ∀ k s, k < 6 → I2 (k + 15) s = if k < N ∧ s < 5 then V k s else I (k + 15) s) (hm : ∀ k s, k < 6 → s < 5 → I2 (s + 59) k = if k < N then V k s else I (s + 59) k)
    (a1 : I2 10 2 = nI N) (a2 : I2 55 6 = nI N) (a3 : I2 10 3 = mn) (a4 : I2 55 5 = mn) (a5 : 5 ≤ mn ∧ mn ≤ 60) (a6 : I2 12 2 = 0) (a7 : I2 55 28 = 0) : zInv I2 := by
  obtain ⟨-, b, c1, c2, c3, -⟩ := hI
  refine ⟨⟨f0, f5, f22⟩, fun k hk => ?_, fun k j hk hj => ?_, fun k j hk hj => ?_, fun k hk => ?_, N, ⟨h1, a1, a2, by rw [a3, a4], fun _ => by rw [a3]; exact a5, fun e => by omega⟩, 0, by omega, a6, a7, fun _ => rfl, fun q hq => by omega⟩
  · rw [o (2 * k + 2) (by omega), o (2 * k + 3) (by omega), o 56 (by omega), o 57 (by omega), o 58 (by omega)]
    exact b k hk
  · rw [hp k j hk, if_neg (by omega)]; exact c1 k j hk hj
  · rw [hp k j hk, hm k j hk hj]
    by_cases e : k < N
    · rw [if_pos ⟨e, hj⟩, if_pos e]
    · rw [if_neg (by omega), if_neg e]; exact c2 k j hk hj
  · by_cases e : k < N
    · obtain ⟨p0, p1, p2, p3, p4⟩ := hV k e
      refine ⟨?_, ?_, ?_, ?_, ?_⟩
      · rw [hp k 0 hk, if_pos ⟨e, by decide⟩]; exact p0
      · rw [hp k 1 hk, if_pos ⟨e, by decide⟩]; exact p1
      · rw [hp k 2 hk, if_pos ⟨e, by decide⟩]; exact p2
      · rw [hp k 3 hk, if_pos ⟨e, by decide⟩]; exact p3
      · rw [hp k 4 hk, if_pos ⟨e, by decide⟩]; exact p4
    · have : I2 (k + 15) = I (k + 15) := by funext s; rw [hp k s hk, if_neg (by omega)]
      rw [this]; exact c3 k hk

set_option maxHeartbeats 1000000 in
theorem op_piece {I : Nat → Nat → Int32} (hI : zInv I) (k v i n : Int32) : zOp L xs d 48 101 [.int k, .int v, .int i, .int n] I J := by
  obtain ⟨⟨a1, a2, a3⟩, b, c1, c2, c3, N, ⟨n1, n2, n3, n4, n5, n6⟩, C, r1, r2, r3, r4, r5⟩ := id hI
  have o0 : ∀ (x : Int32) c, c ≠ 0 → zU I 0 6 x c = I c := fun x c h => zU_ne _ _ _ h
  have o5 : ∀ (x y : Int32) c, c ≠ 0 → c ≠ 55 → zU (zU I 0 6 x) 55 0 y c = I c := fun x y c h h2 => by rw [zU_ne _ _ _ h2, zU_ne _ _ _ h]
  by_cases hk : 0 ≤ k ∧ k < 4
  case neg =>
    have hkm : ¬ (0 ≤ k ∧ k ≤ 3) := fun x => hk (sh_iff.mpr x)
    refine ⟨(-1), zU I 0 6 0, zU (zU I 0 6 0) 55 0 0, J, J, ?_, ?_, inv_ft hI⟩
    · simp only [nX8_piece, eX8_piece_0, eX8_piece_1, eX8_piece_2, eX8_piece_5, eX8_piece_6, eX8_piece_9, eX8_piece_12, eX8_piece_13, Option.bind_some, Option.toList_some, Option.toList_none, List.cons_append, List.nil_append, G_o0, G_h0_0, G_r0_0, G_h0_1, G_r0_1, G_h0_2, G_r0_2, G_h0_3, G_r0_3, G_h0_4, G_r0_4, G_o10, G_h10_0, G_r10_0, G_h10_1, G_r10_1, G_q11, G_l11, G_o12, G_h12_0, G_r12_0, G_h12_1, G_r12_1, G_a13, G_l13, G_a14, G_l14, G_q1, G_l1, qX8_isSheet, eq_false hk, zb_1, zb_0, not_false_eq_true, if_true, if_false]
    · simp only [nX9_piece, eX9_piece_0, eX9_piece_1, eX9_piece_2, eX9_piece_5, eX9_piece_6, eX9_piece_9, eX9_piece_12, eX9_piece_13, Option.bind_some, Option.toList_some, Option.toList_none, List.cons_append, List.nil_append, G_o55, G_h55_2, G_r55_2, G_a56, G_l56, G_h55_3, G_r55_3, G_a57, G_l57, G_h55_4, G_r55_4, G_a58, G_l58, G_h55_7, G_r55_7, G_a59, G_l59, G_h55_8, G_r55_8, G_a60, G_l60, G_h55_9, G_r55_9, G_a61, G_l61, G_h55_10, G_r55_10, G_a62, G_l62, G_h55_11, G_r55_11, G_a63, G_l63, G_h55_29, G_r55_29, G_a69, G_l69, G_h55_30, G_r55_30, G_a70, G_l70, qX9_isSheet, eq_false hkm, zb_1, zb_0, not_false_eq_true, if_true, if_false]
  obtain ⟨q, hq, rfl⟩ := zIdx (n := 4) hk.1 hk.2 (by decide)
  have hkt := eq_true hk
  have hkm := eq_true (sh_iff.mp hk)
  by_cases hv : 0 ≤ v ∧ v ≤ 2
  case neg =>
    refine ⟨(-2), zU I 0 6 0, zU (zU I 0 6 0) 55 0 0, J, J, ?_, ?_, inv_ft hI⟩
    · simp only [nX8_piece, eX8_piece_0, eX8_piece_1, eX8_piece_2, eX8_piece_5, eX8_piece_6, eX8_piece_9, eX8_piece_12, eX8_piece_13, eX8_piece_14, eX8_piece_15, eX8_piece_18, eX8_piece_21, eX8_piece_23, Option.bind_some, Option.toList_some, Option.toList_none, List.cons_append, List.nil_append, G_o0, G_h0_0, G_r0_0, G_h0_1, G_r0_1, G_h0_2, G_r0_2, G_h0_3, G_r0_3, G_h0_4, G_r0_4, G_o10, G_h10_0, G_r10_0, G_h10_1, G_r10_1, G_q11, G_l11, G_o12, G_h12_0, G_r12_0, G_h12_1, G_r12_1, G_a13, G_l13, G_a14, G_l14, G_q1, G_l1, qX8_isSheet, qX8_isLane, hkt, eq_false hv, zb_1, if_true, if_false]
    · simp only [nX9_piece, eX9_piece_0, eX9_piece_1, eX9_piece_2, eX9_piece_5, eX9_piece_6, eX9_piece_9, eX9_piece_12, eX9_piece_13, eX9_piece_14, eX9_piece_15, eX9_piece_18, eX9_piece_21, eX9_piece_23, Option.bind_some, Option.toList_some, Option.toList_none, List.cons_append, List.nil_append, G_o55, G_h55_2, G_r55_2, G_a56, G_l56, G_h55_3, G_r55_3, G_a57, G_l57, G_h55_4, G_r55_4, G_a58, G_l58, G_h55_7, G_r55_7, G_a59, G_l59, G_h55_8, G_r55_8, G_a60, G_l60, G_h55_9, G_r55_9, G_a61, G_l61, G_h55_10, G_r55_10, G_a62, G_l62, G_h55_11, G_r55_11, G_a63, G_l63, G_h55_29, G_r55_29, G_a69, G_l69, G_h55_30, G_r55_30, G_a70, G_l70, qX9_isSheet, qX9_isSort, hkm, eq_false hv, zb_1, if_true, if_false]
  have hvt := eq_true hv
  generalize hF : pFl (I (2 * q + 2) 1) (I (2 * q + 2) 2) (I (2 * q + 2) 3) v i n = F
  have fc : zE zCd (zGG L xs) d 7 [.ref (2 * q + 2), .int v, .int i, .int n] (zU I 0 6 0, J) = some (some (.int F), (zU I 0 6 0, J)) := by
    rw [qX6_faultOfCells hq, o0 0 (2 * q + 2) (by omega), ← hF]
    rfl
  have ag : ∀ K : Nat → Nat → Int32, K 56 = I 56 → K 57 = I 57 → zE zCd (zGG L xs) d 96 [.ref 55, .int (nI q), .int v, .int i, .int n] (K, J) = some (some (.int F), (K, J)) := fun K e1 e2 => by
    rw [qX9_against hq, e1, e2, pFl_m (b q hq).1 hv, hF]
  by_cases hF0 : F = 0
  case neg =>
    have agp := ag (zU (zU I 0 6 F) 55 0 0) (o5 F 0 56 (by decide) (by decide)) (o5 F 0 57 (by decide) (by decide))
    refine ⟨(-10 - F), zU I 0 6 F, zU (zU I 0 6 F) 55 0 F, J, J, ?_, ?_, inv_ft hI⟩
    · simp only [nX8_piece, eX8_piece_0, eX8_piece_1, eX8_piece_2, eX8_piece_5, eX8_piece_6, eX8_piece_9, eX8_piece_12, eX8_piece_13, eX8_piece_14, eX8_piece_15, eX8_piece_18, eX8_piece_21, eX8_piece_23, eX8_piece_24, eX8_piece_25, eX8_piece_28, eX8_piece_29, eX8_piece_30, eX8_piece_32, eX8_piece_34, eX8_piece_35, eX8_piece_36, eX8_piece_38, eX8_piece_41, eX8_piece_43, eX8_piece_45, eX8_piece_48, eX8_piece_49, eX8_piece_51, eX8_piece_54, Option.bind_some, Option.toList_some, Option.toList_none, List.cons_append, List.nil_append, G_o0, G_h0_0, G_r0_0, G_h0_1, G_r0_1, G_h0_2, G_r0_2, G_h0_3, G_r0_3, G_h0_4, G_r0_4, G_o10, G_h10_0, G_r10_0, G_h10_1, G_r10_1, G_q11, G_l11, G_o12, G_h12_0, G_r12_0, G_h12_1, G_r12_1, G_a13, G_l13, G_a14, G_l14, G_q1, G_l1, qX8_isSheet, qX8_isLane, hkt, hvt, zb_1, zb_0, not_true_eq_false, not_false_eq_true, if_true, if_false, G_1h hq, G_1r hq, zIn_4 hq, zc_n (show q ≤ 1000 by omega), G_sh_o hq, G_sh_h hq, G_sh_r hq, G_sh_a hq, G_sh_l hq, fc, eq_false hF0, qX8_failed, zU_uu]
    · simp only [nX9_piece, eX9_piece_0, eX9_piece_1, eX9_piece_2, eX9_piece_5, eX9_piece_6, eX9_piece_9, eX9_piece_12, eX9_piece_13, eX9_piece_14, eX9_piece_15, eX9_piece_18, eX9_piece_21, eX9_piece_23, eX9_piece_24, eX9_piece_25, eX9_piece_26, eX9_piece_27, eX9_piece_28, eX9_piece_30, eX9_piece_33, eX9_piece_35, eX9_piece_37, eX9_piece_40, eX9_piece_41, eX9_piece_43, eX9_piece_46, Option.bind_some, Option.toList_some, Option.toList_none, List.cons_append, List.nil_append, G_o55, G_h55_2, G_r55_2, G_a56, G_l56, G_h55_3, G_r55_3, G_a57, G_l57, G_h55_4, G_r55_4, G_a58, G_l58, G_h55_7, G_r55_7, G_a59, G_l59, G_h55_8, G_r55_8, G_a60, G_l60, G_h55_9, G_r55_9, G_a61, G_l61, G_h55_10, G_r55_10, G_a62, G_l62, G_h55_11, G_r55_11, G_a63, G_l63, G_h55_29, G_r55_29, G_a69, G_l69, G_h55_30, G_r55_30, G_a70, G_l70, qX9_isSheet, qX9_isSort, hkm, hvt, zb_1, zb_0, not_true_eq_false, not_false_eq_true, if_true, if_false, zIn_4 hq, zc_n (show q ≤ 1000 by omega), agp, eq_false hF0, qX9_fails, zU_uu]
  rw [hF0] at hF
  obtain ⟨p1, p2, p3, p4, p5, p6⟩ := pFl_0 hF
  obtain ⟨M, hM, hle⟩ : ∃ M, M ≤ 60 ∧ I (2 * q + 2) 3 = nI M := by
    rcases (b q hq).1 with ⟨s1, -⟩ | ⟨-, -, -, -, m, hm, s5⟩
    · exact absurd s1 p1
    · exact ⟨m, hm, s5⟩
  rw [hle] at p4 p6
  obtain ⟨a, m, rfl, rfl, ham⟩ := cp_hold hM ⟨p3, p4, p5, p6⟩
  have hcl := (b q hq).2
  generalize hch0 : (fun k => I 58 (60 * q + a + k)) = ch
  have hcm : ∀ k, I 58 (60 * q + a + k) = ch k := fun k => by rw [← hch0]
  have hcc : ∀ k, k < m → I (2 * q + 3) (a + k) = ch k := fun k hk => by rw [← hcm, hcl _ (by omega), Nat.add_assoc]
  have e60 : (60 : Int32) * nI q = nI (60 * q) := pk_mul 60 q
  have ff := qX7_firstFault (L := L) (xs := xs) (d := d) (J := J) (I := zU I 0 6 0) (q := q) (a := a) (n := m) (ch := ch) hq (by omega) (fun k hk => by rw [o0 0 _ (by omega)]; exact hcc k hk)
  have efg : fG ch m 0 = fF ch 0 m := rfl
  rw [← efg] at ff
  have fl := fG_le (ch := ch) (n := m) (k := 0) (by omega)
  by_cases hw : fW (fG ch m 0) m
  case neg =>
    rw [if_neg (show ¬ (fG ch m 0 = m ∧ 3 < m ∧ (m - 3) % 6 = 0) from hw)] at ff
    obtain ⟨b', mn, my, R', z1, z2⟩ := qrpc (L := L) (xs := xs) (d := d) (J := J) (K := zU (zU I 0 6 0) 55 0 0) (fs := 60 * q + a) (n := m) (e := 60 * q + a + m) (ch := ch) (mn0 := (zU (zU I 0 6 0) 55 0 0) 55 13) (my0 := (zU (zU I 0 6 0) 55 0 0) 55 14) (R := (zU (zU I 0 6 0) 55 0 0) 64) (fun k => by rw [o5 0 0 58 (by decide) (by decide)]; exact hcm k) rfl (by omega)
    rw [← rd_up (p := (zU (zU I 0 6 0) 55 0 0) 55 12), rd_id] at z1
    rcases z2 with ⟨x, -⟩ | ⟨-, rfl⟩
    · exact absurd x hw
    generalize hB : zU (zU I 0 6 0) 55 0 0 = B at z1
    have agp := ag B (by rw [← hB, o5 0 0 56 (by decide) (by decide)]) (by rw [← hB, o5 0 0 57 (by decide) (by decide)])
    generalize hf : fG ch m 0 = f at ff z1 fl
    refine ⟨(-100 - nI f), zU I 0 6 0, rdM B (nI (60 * q + a + f)) mn my R', J, J, ?_, ?_, ?_⟩
    · simp only [nX8_piece, eX8_piece_0, eX8_piece_1, eX8_piece_2, eX8_piece_5, eX8_piece_6, eX8_piece_9, eX8_piece_12, eX8_piece_13, eX8_piece_14, eX8_piece_15, eX8_piece_18, eX8_piece_21, eX8_piece_23, eX8_piece_24, eX8_piece_25, eX8_piece_28, eX8_piece_29, eX8_piece_30, eX8_piece_32, eX8_piece_34, eX8_piece_35, eX8_piece_36, eX8_piece_38, eX8_piece_41, eX8_piece_43, eX8_piece_45, eX8_piece_48, eX8_piece_49, eX8_piece_51, eX8_piece_54, eX8_piece_55, eX8_piece_57, eX8_piece_60, eX8_piece_61, eX8_piece_63, eX8_piece_66, eX8_piece_68, eX8_piece_70, eX8_piece_72, eX8_piece_75, eX8_piece_77, eX8_piece_79, eX8_piece_80, Option.bind_some, Option.toList_some, Option.toList_none, List.cons_append, List.nil_append, G_o0, G_h0_0, G_r0_0, G_h0_1, G_r0_1, G_h0_2, G_r0_2, G_h0_3, G_r0_3, G_h0_4, G_r0_4, G_o10, G_h10_0, G_r10_0, G_h10_1, G_r10_1, G_q11, G_l11, G_o12, G_h12_0, G_r12_0, G_h12_1, G_r12_1, G_a13, G_l13, G_a14, G_l14, G_q1, G_l1, qX8_isSheet, qX8_isLane, hkt, hvt, zb_1, zb_0, not_true_eq_false, not_false_eq_true, if_true, if_false, G_1h hq, G_1r hq, zIn_4 hq, zc_n (show q ≤ 1000 by omega), G_sh_o hq, G_sh_h hq, G_sh_r hq, G_sh_a hq, G_sh_l hq, fc, hF0, o0 0 (2 * q + 2) (by omega), ff, eq_false (nI_m9 (show f ≤ 1000000 by omega))]
    · have es : nI (60 * q + a + f) - nI (60 * q + a) = nI f := by rw [pk_sub (by omega), Nat.add_sub_cancel_left]
      simp only [nX9_piece, eX9_piece_0, eX9_piece_1, eX9_piece_2, eX9_piece_5, eX9_piece_6, eX9_piece_9, eX9_piece_12, eX9_piece_13, eX9_piece_14, eX9_piece_15, eX9_piece_18, eX9_piece_21, eX9_piece_23, eX9_piece_24, eX9_piece_25, eX9_piece_26, eX9_piece_27, eX9_piece_28, eX9_piece_30, eX9_piece_33, eX9_piece_35, eX9_piece_37, eX9_piece_40, eX9_piece_41, eX9_piece_43, eX9_piece_46, eX9_piece_47, eX9_piece_49, eX9_piece_50, eX9_piece_51, eX9_piece_52, eX9_piece_53, eX9_piece_55, eX9_piece_56, eX9_piece_58, eX9_piece_61, eX9_piece_62, eX9_piece_64, eX9_piece_66, eX9_piece_67, eX9_piece_70, eX9_piece_73, eX9_piece_75, eX9_piece_76, eX9_piece_79, eX9_piece_81, eX9_piece_82, eX9_piece_83, Option.bind_some, Option.toList_some, Option.toList_none, List.cons_append, List.nil_append, G_o55, G_h55_2, G_r55_2, G_a56, G_l56, G_h55_3, G_r55_3, G_a57, G_l57, G_h55_4, G_r55_4, G_a58, G_l58, G_h55_7, G_r55_7, G_a59, G_l59, G_h55_8, G_r55_8, G_a60, G_l60, G_h55_9, G_r55_9, G_a61, G_l61, G_h55_10, G_r55_10, G_a62, G_l62, G_h55_11, G_r55_11, G_a63, G_l63, G_h55_29, G_r55_29, G_a69, G_l69, G_h55_30, G_r55_30, G_a70, G_l70, qX9_isSheet, qX9_isSort, hkm, hvt, zb_1, zb_0, not_true_eq_false, not_false_eq_true, if_true, if_false, zIn_4 hq, zc_n (show q ≤ 1000 by omega), hB, agp, hF0, e60, nI_add, z1, show ((0 : Int32) ≠ 0) = False from by decide, rd_p, es]
    · have B5 : ∀ j, j ≠ 0 → B 55 j = I 55 j := fun j h => by rw [← hB, zU_k _ _ _ h, zU_ne _ _ _ (by decide)]
      have Bo : ∀ c, c ≠ 0 → c ≠ 55 → B c = I c := fun c x y => by rw [← hB, o5 0 0 c x y]
      refine hI.keep (fun c hc => by rw [rd_o (by omega) (by omega), Bo c (by omega) (by omega)]) ?_ ?_ ?_ ?_ ?_ ?_
      · rw [rd_o (by decide) (by decide), rd_5 (by decide) (by decide) (by decide), ← hB, zU_at, zU_ne _ _ _ (by decide), zU_at]
      · rw [rd_o (by decide) (by decide), rd_5 (by decide) (by decide) (by decide), B5 1 (by decide), ← hB, zU_ne _ _ _ (by decide), zU_k _ _ _ (by decide)]; exact a2
      · rw [rd_5 (by decide) (by decide) (by decide), B5 5 (by decide)]
      · rw [rd_5 (by decide) (by decide) (by decide), B5 6 (by decide)]
      · rw [rd_5 (by decide) (by decide) (by decide), B5 22 (by decide)]
      · rw [rd_5 (by decide) (by decide) (by decide), B5 28 (by decide)]
  rw [if_pos (show fG ch m 0 = m ∧ 3 < m ∧ (m - 3) % 6 = 0 from hw)] at ff
  obtain ⟨w1, w2, w3⟩ := id hw
  have hgd : ∀ j, j < m → gK ch j := fun j hj => fF_good m 0 j (Nat.zero_le _) (by rw [← efg, w1]; exact hj)
  have m39 : m ≤ 39 := by
    by_cases h : m ≤ 39
    · exact h
    · exact absurd (hgd 39 (by omega)) gK_39
  generalize hN' : (m - 3) / 6 = N'
  have hmN : m = 6 * N' + 3 := by omega
  generalize hmn : 10 * (ch 1 - 48) + (ch 2 - 48) = mn0
  have g2 := gK_2.mp (hgd 2 (by omega))
  rw [hmn] at g2
  have fi := qX7_fill (L := L) (xs := xs) (d := d) (J := J) (q := q) (a := a) (n := m) (N := N') (ch := ch) (K := zU I 0 6 0) hq (by omega) (by omega) hmN w2 (fun k hk => by rw [o0 0 _ (by omega)]; exact hcc k hk)
  rw [hmn] at fi
  generalize hI1 : cfM (zU (zU (zU (zU I 0 6 0) 12 2 0) 10 3 mn0) 10 2 (nI N')) (plV ch) N' = I1 at fi
  have i1o : ∀ c, c ≠ 0 → c ≠ 10 → c ≠ 12 → c < 15 ∨ 15 + N' ≤ c → I1 c = I c := fun c x y z w => by rw [← hI1, cf_o w, zU_ne _ _ _ y, zU_ne _ _ _ y, zU_ne _ _ _ z, zU_ne _ _ _ x]
  have i10 : I1 10 2 = nI N' := by rw [← hI1, cf_o (by omega), zU_at]
  have i13 : I1 10 3 = mn0 := by rw [← hI1, cf_o (by omega), zU_k _ _ _ (by decide), zU_at]
  have i12 : I1 12 2 = 0 := by rw [← hI1, cf_o (by omega), zU_ne _ _ _ (by decide), zU_ne _ _ _ (by decide), zU_at]
  have i00 : I1 0 = zU I 0 6 0 0 := by rw [← hI1, cf_o (by omega), zU_ne _ _ _ (by decide), zU_ne _ _ _ (by decide), zU_ne _ _ _ (by decide)]
  obtain ⟨b', mn, my, R', z1, z2⟩ := qrpc (L := L) (xs := xs) (d := d) (J := J) (K := zU I1 55 0 0) (fs := 60 * q + a) (n := m) (e := 60 * q + a + m) (ch := ch) (mn0 := (zU I1 55 0 0) 55 13) (my0 := (zU I1 55 0 0) 55 14) (R := (zU I1 55 0 0) 64) (fun k => by rw [zU_ne _ _ _ (by decide), i1o 58 (by decide) (by decide) (by decide) (by omega)]; exact hcm k) rfl (by omega)
  rw [← rd_up (p := (zU I1 55 0 0) 55 12), rd_id] at z1
  rcases z2 with ⟨-, rfl, e1, e2, e3⟩ | ⟨x, -⟩
  case inr => exact absurd hw x
  rw [hmn] at e1
  rw [hN'] at e2 e3
  subst e1
  subst e2
  generalize hB : zU I1 55 0 0 = B at z1
  have Bo : ∀ c, c ≠ 55 → B c = I1 c := fun c x => by rw [← hB, zU_ne _ _ _ x]
  have B5 : ∀ j, j ≠ 0 → B 55 j = I 55 j := fun j h => by rw [← hB, zU_k _ _ _ h, i1o 55 (by decide) (by decide) (by decide) (by omega)]
  have agp := ag B (by rw [Bo 56 (by decide), i1o 56 (by decide) (by decide) (by decide) (by omega)]) (by rw [Bo 57 (by decide), i1o 57 (by decide) (by decide) (by decide) (by omega)])
  generalize hD : rdM B (nI (60 * q + a + fG ch m 0)) mn (nI N') R' = D at z1
  have D13 : D 55 13 = mn := by rw [← hD, rd_mn]
  have D14 : zU D 55 5 mn 55 14 = nI N' := by rw [zU_k _ _ _ (by decide), ← hD, rd_my]
  have D64 : D 64 = R' := by rw [← hD, rd_R]
  have D5 : ∀ j, j ≠ 12 → j ≠ 13 → j ≠ 14 → D 55 j = B 55 j := fun j x y z => by rw [← hD, rd_5 x y z]
  have Do : ∀ c, c ≠ 55 → c ≠ 64 → D c = B c := fun c x y => by rw [← hD, rd_o x y]
  generalize hE : zU (zU D 55 5 mn) 55 6 (nI N') = E
  have E6 : E 55 6 = nI N' := by rw [← hE, zU_at]
  have E5 : E 55 5 = mn := by rw [← hE, zU_k _ _ _ (by decide), zU_at]
  have E5j : ∀ j, j ≠ 5 → j ≠ 6 → E 55 j = D 55 j := fun j x y => by rw [← hE, zU_k _ _ _ y, zU_k _ _ _ x]
  have Eo : ∀ c, c ≠ 55 → E c = D c := fun c x => by rw [← hE, zU_ne _ _ _ x, zU_ne _ _ _ x]
  have lp := lp_pcm (L := L) (xs := xs) (d := d) (J := J) (K := E) (R := R') (N := N') (a1 := nI q) (a2 := v) (a3 := nI a) (a4 := nI m) (a5 := 0) (a6 := nI (60 * q + a)) (by omega) E6 (by rw [Eo 64 (by decide)]; exact D64) N' 0 (by omega)
  rw [pc_0] at lp
  refine ⟨(nI N'), I1, zU (pcM E R' N') 55 28 0, J, J, ?_, ?_, ?_⟩
  · simp only [nX8_piece, eX8_piece_0, eX8_piece_1, eX8_piece_2, eX8_piece_5, eX8_piece_6, eX8_piece_9, eX8_piece_12, eX8_piece_13, eX8_piece_14, eX8_piece_15, eX8_piece_18, eX8_piece_21, eX8_piece_23, eX8_piece_24, eX8_piece_25, eX8_piece_28, eX8_piece_29, eX8_piece_30, eX8_piece_32, eX8_piece_34, eX8_piece_35, eX8_piece_36, eX8_piece_38, eX8_piece_41, eX8_piece_43, eX8_piece_45, eX8_piece_48, eX8_piece_49, eX8_piece_51, eX8_piece_54, eX8_piece_55, eX8_piece_57, eX8_piece_60, eX8_piece_61, eX8_piece_63, eX8_piece_66, eX8_piece_68, eX8_piece_70, eX8_piece_72, eX8_piece_75, eX8_piece_77, eX8_piece_79, eX8_piece_80, eX8_piece_81, eX8_piece_82, eX8_piece_85, eX8_piece_87, eX8_piece_90, eX8_piece_91, eX8_piece_93, eX8_piece_96, eX8_piece_97, eX8_piece_100, eX8_piece_103, Option.bind_some, Option.toList_some, Option.toList_none, List.cons_append, List.nil_append, G_o0, G_h0_0, G_r0_0, G_h0_1, G_r0_1, G_h0_2, G_r0_2, G_h0_3, G_r0_3, G_h0_4, G_r0_4, G_o10, G_h10_0, G_r10_0, G_h10_1, G_r10_1, G_q11, G_l11, G_o12, G_h12_0, G_r12_0, G_h12_1, G_r12_1, G_a13, G_l13, G_a14, G_l14, G_q1, G_l1, qX8_isSheet, qX8_isLane, hkt, hvt, zb_1, zb_0, not_true_eq_false, not_false_eq_true, if_true, if_false, G_1h hq, G_1r hq, zIn_4 hq, zc_n (show q ≤ 1000 by omega), G_sh_o hq, G_sh_h hq, G_sh_r hq, G_sh_a hq, G_sh_l hq, fc, hF0, o0 0 (2 * q + 2) (by omega), ff, fi, i10]
  · simp only [nX9_piece, eX9_piece_0, eX9_piece_1, eX9_piece_2, eX9_piece_5, eX9_piece_6, eX9_piece_9, eX9_piece_12, eX9_piece_13, eX9_piece_14, eX9_piece_15, eX9_piece_18, eX9_piece_21, eX9_piece_23, eX9_piece_24, eX9_piece_25, eX9_piece_26, eX9_piece_27, eX9_piece_28, eX9_piece_30, eX9_piece_33, eX9_piece_35, eX9_piece_37, eX9_piece_40, eX9_piece_41, eX9_piece_43, eX9_piece_46, eX9_piece_47, eX9_piece_49, eX9_piece_50, eX9_piece_51, eX9_piece_52, eX9_piece_53, eX9_piece_55, eX9_piece_56, eX9_piece_58, eX9_piece_61, eX9_piece_62, eX9_piece_64, eX9_piece_66, eX9_piece_67, eX9_piece_70, eX9_piece_73, eX9_piece_75, eX9_piece_76, eX9_piece_79, eX9_piece_81, eX9_piece_82, eX9_piece_83, eX9_piece_84, eX9_piece_85, eX9_piece_86, eX9_piece_89, eX9_piece_92, eX9_piece_93, eX9_piece_94, eX9_piece_97, eX9_piece_100, eX9_piece_101, Option.bind_some, Option.toList_some, Option.toList_none, List.cons_append, List.nil_append, G_o55, G_h55_2, G_r55_2, G_a56, G_l56, G_h55_3, G_r55_3, G_a57, G_l57, G_h55_4, G_r55_4, G_a58, G_l58, G_h55_7, G_r55_7, G_a59, G_l59, G_h55_8, G_r55_8, G_a60, G_l60, G_h55_9, G_r55_9, G_a61, G_l61, G_h55_10, G_r55_10, G_a62, G_l62, G_h55_11, G_r55_11, G_a63, G_l63, G_h55_29, G_r55_29, G_a69, G_l69, G_h55_30, G_r55_30, G_a70, G_l70, qX9_isSheet, qX9_isSort, hkm, hvt, zb_1, zb_0, not_true_eq_false, not_false_eq_true, if_true, if_false, zIn_4 hq, zc_n (show q ≤ 1000 by omega), hB, agp, hF0, e60, nI_add, z1, show ((1 : Int32) ≠ 0) = True from by decide, D13, D14, hE]
    exact lp
  · have Fo : ∀ c, c ≠ 55 → c < 59 ∨ 64 < c → zU (pcM E R' N') 55 28 0 c = I1 c := fun c x y => by rw [zU_ne _ _ _ x, pc_o (by omega), Eo c x, Do c x (by omega), Bo c x]
    have F5 : ∀ j, j ≠ 5 → j ≠ 6 → j ≠ 12 → j ≠ 13 → j ≠ 14 → j ≠ 28 → zU (pcM E R' N') 55 28 0 55 j = B 55 j := fun j x1 x2 x3 x4 x5 x6 => by rw [zU_k _ _ _ x6, pc_o (by omega), E5j j x1 x2, D5 j x3 x4 x5]
    refine inv_pc (N := N') (V := plV ch) (mn := mn) (I1 := I1) hI (by omega) (by omega) (fun c hc => ?_) ?_ ?_ ?_ (fun k hk => pl_good hgd hmN (by omega) hk) (fun k s hk => ?_) (fun k s hk hs => ?_) ?_ ?_ ?_ ?_ g2.2 ?_ (zU_at _ _ _ _)
    · rw [Fo c (by omega) (by omega), i1o c (by omega) (by omega) (by omega) (by omega)]
    · rw [Fo 0 (by decide) (by decide), F5 0 (by decide) (by decide) (by decide) (by decide) (by decide) (by decide), i00, zU_at, ← hB, zU_at]
    · rw [Fo 0 (by decide) (by decide), F5 1 (by decide) (by decide) (by decide) (by decide) (by decide) (by decide), i00, zU_k _ _ _ (by decide), B5 1 (by decide)]; exact a2
    · rw [F5 22 (by decide) (by decide) (by decide) (by decide) (by decide) (by decide), B5 22 (by decide)]; exact a3
    · rw [Fo (k + 15) (by omega) (by omega), ← hI1]
      simp only [cfM]
      by_cases e : k < N' ∧ s < 5
      · rw [if_pos (by omega), if_pos e, Nat.add_sub_cancel]
      · rw [if_neg (by omega), if_neg e, zU_ne _ _ _ (by omega), zU_ne _ _ _ (by omega), zU_ne _ _ _ (by omega), zU_ne _ _ _ (by omega)]
    · rw [zU_ne _ _ _ (by omega)]
      simp only [pcM]
      by_cases e : k < N'
      · rw [if_pos (by omega), if_pos e, Nat.add_sub_cancel]
        obtain ⟨y1, y2⟩ := e3 k e
        by_cases s0 : s = 0
        · subst s0; exact y1
        · rw [y2 s (by omega) hs, plV, if_neg s0]
      · rw [if_neg (by omega), if_neg e, Eo _ (by omega), Do _ (by omega) (by omega), Bo _ (by omega), i1o _ (by omega) (by omega) (by omega) (by omega)]
    · rw [Fo 10 (by decide) (by decide), i10]
    · rw [zU_k _ _ _ (by decide), pc_o (by omega), E6]
    · rw [Fo 10 (by decide) (by decide), i13]
    · rw [zU_k _ _ _ (by decide), pc_o (by omega), E5]
    · rw [Fo 12 (by decide) (by decide), i12]

end S
