set_option maxHeartbeats 1000000 in
theorem en_iff {t c : Int32} (ht : 0 ≤ t ∧ t ≤ 6) : ((48 ≤ c ∧ c ≤ 57) ∧ 5 ≤ 10 * t + (c - 48) ∧ 10 * t + (c - 48) ≤ 60) ↔ (48 + (if t = 0 then 5 else 0) ≤ c ∧ c ≤ 48 + (if t = 6 then 0 else 9)) := by
  obtain ⟨j, hj, rfl⟩ := zIdl (n := 6) ht.1 ht.2 (by decide)
  rcases (show j = 0 ∨ j = 1 ∨ j = 2 ∨ j = 3 ∨ j = 4 ∨ j = 5 ∨ j = 6 by omega) with rfl | rfl | rfl | rfl | rfl | rfl | rfl
  · rw [show nI 0 = 0 from rfl, if_pos rfl, if_neg (by decide)]; constructor <;> intro h <;> grind
  · rw [show nI 1 = 1 from rfl, if_neg (by decide), if_neg (by decide)]; constructor <;> intro h <;> grind
  · rw [show nI 2 = 2 from rfl, if_neg (by decide), if_neg (by decide)]; constructor <;> intro h <;> grind
  · rw [show nI 3 = 3 from rfl, if_neg (by decide), if_neg (by decide)]; constructor <;> intro h <;> grind
  · rw [show nI 4 = 4 from rfl, if_neg (by decide), if_neg (by decide)]; constructor <;> intro h <;> grind
  · rw [show nI 5 = 5 from rfl, if_neg (by decide), if_neg (by decide)]; constructor <;> intro h <;> grind
  · rw [show nI 6 = 6 from rfl, if_neg (by decide), if_pos rfl]; constructor <;> intro h <;> grind
set_option maxHeartbeats 1000000 in
theorem gK_0 {ch : Nat → Int32} : gK ch 0 ↔ ch 0 = 99 := by unfold gK gO; simp
set_option maxHeartbeats 1000000 in
theorem gK_1 {ch : Nat → Int32} : gK ch 1 ↔ (48 ≤ ch 1 ∧ ch 1 ≤ 54) := by unfold gK gO; simp
set_option maxHeartbeats 1000000 in
theorem gK_2 {ch : Nat → Int32} : gK ch 2 ↔ ((48 ≤ ch 2 ∧ ch 2 ≤ 57) ∧ 5 ≤ 10 * (ch 1 - 48) + (ch 2 - 48) ∧ 10 * (ch 1 - 48) + (ch 2 - 48) ≤ 60) := by unfold gK gO pv; simp
set_option maxHeartbeats 1000000 in
theorem gK_39 {ch : Nat → Int32} : ¬ gK ch 39 := by unfold gK gO; simp
section S
variable {L : Nat} {xs : Nat → Int32} {d : Nat} {J : Nat → Nat → Int64} {I : Nat → Nat → Int32}
set_option maxHeartbeats 1000000 in
theorem lp_rpl {K : Nat → Nat → Int32} {fs n e q : Nat} {ch : Nat → Int32} {mn code : Int32} (hch : ∀ k, K 58 (fs + k) = ch k) (hen : e = fs + n) (he : e ≤ 240) (hq : q < 6) : ∀ (r x p : Nat) (R : Nat → Int32), x + r = 5 → 1 ≤ x → p = fs + (6 * q + 4 + x) → 6 * q + 4 + x ≤ n → ∃ R' : Nat → Int32, (∀ i, i < 5 * q + x → R' i = R i) ∧ ((fG ch n (6 * q + 4 + x) = fG ch n (6 * q + 9) ∧ 6 * q + 9 ≤ n ∧ (∀ y, x ≤ y → y < 5 → R' (5 * q + y) = ch (6 * q + 4 + y) - 48) ∧ zX zCd (zGG L xs) d 103 93 [.ref 55, .int (nI e), .int (nI (5 * q)), .int code, .int (nI x)] [] (rdM K (nI p) mn (nI q) R, J) = some (some (.int 1), (rdM K (nI (fs + (6 * q + 9))) mn (nI (q + 1)) R', J))) ∨ (fG ch n (6 * q + 4 + x) < 6 * q + 9 ∧ zX zCd (zGG L xs) d 103 93 [.ref 55, .int (nI e), .int (nI (5 * q)), .int code, .int (nI x)] [] (rdM K (nI p) mn (nI q) R, J) = some (some (.int 0), (rdM K (nI (fs + fG ch n (6 * q + 4 + x))) mn (nI q) R', J)))) := by
  intro r
  induction r with
  | zero =>
    intro x p R h h1 hp hn
    obtain rfl : x = 5 := by omega
    refine ⟨R, fun _ _ => rfl, Or.inl ⟨rfl, by omega, fun y a b => by omega, ?_⟩⟩
    rw [eX9_readPlace_93]
    simp only [eX9_readPlace_95, eX9_readPlace_96, eX9_readPlace_164, eX9_readPlace_165, eX9_readPlace_166, eX9_readPlace_169, eX9_readPlace_170, eX9_readPlace_171, eX9_readPlace_174, eX9_readPlace_175, show ((5 : Int32) ≤ nI 5) = True from eq_true (by decide +kernel), if_true, Option.bind_some, Option.toList_some, Option.toList_none, List.cons_append, List.nil_append, G_o55, G_h55_2, G_r55_2, G_a56, G_l56, G_h55_3, G_r55_3, G_a57, G_l57, G_h55_4, G_r55_4, G_a58, G_l58, G_h55_7, G_r55_7, G_a59, G_l59, G_h55_8, G_r55_8, G_a60, G_l60, G_h55_9, G_r55_9, G_a61, G_l61, G_h55_10, G_r55_10, G_a62, G_l62, G_h55_11, G_r55_11, G_a63, G_l63, G_h55_29, G_r55_29, G_a69, G_l69, G_h55_30, G_r55_30, G_a70, G_l70, G_h55_15, G_r55_15, G_a64, G_l64, rd_my, nI_1, rd_uy, zT_1]
    rw [hp]
  | succ r ih =>
    intro x p R h h1 hp hn
    rcases (show x = 1 ∨ x = 2 ∨ x = 3 ∨ x = 4 by omega) with rfl | rfl | rfl | rfl
    · have hgk : gK ch (6 * q + 4 + 1) ↔ (48 ≤ ch (6 * q + 4 + 1) ∧ ch (6 * q + 4 + 1) ≤ 57) := by
        rw [gK_3 (by omega) (by omega), show (6 * q + 4 + 1 - 3) % 6 = 2 by omega, gP_2]
      have hcp : K 58 p = ch (6 * q + 4 + 1) := by rw [hp, hch]
      by_cases hg : 6 * q + 4 + 1 < n ∧ gK ch (6 * q + 4 + 1)
      · have hr := hgk.mp hg.2
        have dY := qdY (L := L) (xs := xs) (d := d) (J := J) (K := K) (p := p) (e := e) (mn := mn) (my := nI q) (lo := 0) (hi := 9) (R := R) (by omega) he (by rw [hcp]; exact hr)
        rw [hcp] at dY
        have h9 : (ch (6 * q + 4 + 1) - 48 = -9) = False := eq_false (by grind)
        obtain ⟨R', i1, i2⟩ := ih 2 (p + 1) (fun k => if k = 5 * q + 1 then ch (6 * q + 4 + 1) - 48 else R k) (by omega) (by omega) (by omega) (by omega)
        refine ⟨R', fun i hi => by rw [i1 i (by omega), if_neg (by omega)], ?_⟩
        rw [fG_s hg.1 hg.2, eX9_readPlace_93]
        simp only [eX9_readPlace_95, eX9_readPlace_96, eX9_readPlace_99, eX9_readPlace_100, eX9_readPlace_103, eX9_readPlace_104, eX9_readPlace_106, eX9_readPlace_107, eX9_readPlace_108, eX9_readPlace_109, eX9_readPlace_111, eX9_readPlace_112, eX9_readPlace_115, eX9_readPlace_117, eX9_readPlace_118, eX9_readPlace_121, eX9_readPlace_122, eX9_readPlace_125, eX9_readPlace_126, eX9_readPlace_128, eX9_readPlace_129, eX9_readPlace_132, eX9_readPlace_133, eX9_readPlace_136, eX9_readPlace_138, eX9_readPlace_141, eX9_readPlace_142, eX9_readPlace_143, eX9_readPlace_146, eX9_readPlace_147, eX9_readPlace_149, eX9_readPlace_150, eX9_readPlace_151, eX9_readPlace_153, eX9_readPlace_156, eX9_readPlace_157, eX9_readPlace_158, eX9_readPlace_161, show (nI 1 = 2) = False from eq_false (by decide +kernel), show (nI 1 = 3) = False from eq_false (by decide +kernel), show (nI 1 = 4) = False from eq_false (by decide +kernel), show ((5 : Int32) ≤ nI 1) = False from eq_false (by decide +kernel), ne_eq, not_true_eq_false, not_false_eq_true, if_true, if_false, Option.bind_some, Option.toList_some, Option.toList_none, List.cons_append, List.nil_append, G_o55, G_h55_2, G_r55_2, G_a56, G_l56, G_h55_3, G_r55_3, G_a57, G_l57, G_h55_4, G_r55_4, G_a58, G_l58, G_h55_7, G_r55_7, G_a59, G_l59, G_h55_8, G_r55_8, G_a60, G_l60, G_h55_9, G_r55_9, G_a61, G_l61, G_h55_10, G_r55_10, G_a62, G_l62, G_h55_11, G_r55_11, G_a63, G_l63, G_h55_29, G_r55_29, G_a69, G_l69, G_h55_30, G_r55_30, G_a70, G_l70, G_h55_15, G_r55_15, G_a64, G_l64, nI_add, zIn_30 (show 5 * q + 1 < 30 by omega), zc_n (show 5 * q + 1 ≤ 1000 by omega), rd_uR, rd_R, dY, h9, nI_1]
        rcases i2 with ⟨j1, j2, j3, j4⟩ | ⟨j1, j2⟩
        · refine Or.inl ⟨by first | exact j1 | trivial, j2, fun y h1 h2 => ?_, j4⟩
          by_cases ey : y = 1
          · subst ey
            rw [i1 _ (by omega), if_pos rfl]
          · exact j3 y (by omega) h2
        · exact Or.inr ⟨j1, j2⟩
      · have dN := qdN (L := L) (xs := xs) (d := d) (J := J) (K := K) (p := p) (e := e) (mn := mn) (my := nI q) (lo := 0) (hi := 9) (R := R) (by omega) he (by rw [hcp]; exact fun x => hg ⟨by omega, hgk.mpr x.2⟩)
        refine ⟨fun k => if k = 5 * q + 1 then -9 else R k, fun i hi => by dsimp only; rw [if_neg (by omega)], Or.inr ⟨by rw [fG_b hg]; omega, ?_⟩⟩
        rw [fG_b hg, ← hp, eX9_readPlace_93]
        simp only [eX9_readPlace_95, eX9_readPlace_96, eX9_readPlace_99, eX9_readPlace_100, eX9_readPlace_103, eX9_readPlace_104, eX9_readPlace_106, eX9_readPlace_107, eX9_readPlace_108, eX9_readPlace_109, eX9_readPlace_111, eX9_readPlace_112, eX9_readPlace_115, eX9_readPlace_117, eX9_readPlace_118, eX9_readPlace_121, eX9_readPlace_122, eX9_readPlace_125, eX9_readPlace_126, eX9_readPlace_128, eX9_readPlace_129, eX9_readPlace_132, eX9_readPlace_133, eX9_readPlace_136, eX9_readPlace_138, eX9_readPlace_141, eX9_readPlace_142, eX9_readPlace_143, eX9_readPlace_146, eX9_readPlace_147, eX9_readPlace_149, eX9_readPlace_150, eX9_readPlace_151, eX9_readPlace_153, eX9_readPlace_156, eX9_readPlace_157, eX9_readPlace_158, eX9_readPlace_161, show (nI 1 = 2) = False from eq_false (by decide +kernel), show (nI 1 = 3) = False from eq_false (by decide +kernel), show (nI 1 = 4) = False from eq_false (by decide +kernel), show ((5 : Int32) ≤ nI 1) = False from eq_false (by decide +kernel), ne_eq, not_true_eq_false, not_false_eq_true, if_true, if_false, Option.bind_some, Option.toList_some, Option.toList_none, List.cons_append, List.nil_append, G_o55, G_h55_2, G_r55_2, G_a56, G_l56, G_h55_3, G_r55_3, G_a57, G_l57, G_h55_4, G_r55_4, G_a58, G_l58, G_h55_7, G_r55_7, G_a59, G_l59, G_h55_8, G_r55_8, G_a60, G_l60, G_h55_9, G_r55_9, G_a61, G_l61, G_h55_10, G_r55_10, G_a62, G_l62, G_h55_11, G_r55_11, G_a63, G_l63, G_h55_29, G_r55_29, G_a69, G_l69, G_h55_30, G_r55_30, G_a70, G_l70, G_h55_15, G_r55_15, G_a64, G_l64, nI_add, zIn_30 (show 5 * q + 1 < 30 by omega), zc_n (show 5 * q + 1 ≤ 1000 by omega), rd_uR, rd_R, dN, zT_0]
    · have hgk : gK ch (6 * q + 4 + 2) ↔ (49 ≤ ch (6 * q + 4 + 2) ∧ ch (6 * q + 4 + 2) ≤ 57) := by
        rw [gK_3 (by omega) (by omega), show (6 * q + 4 + 2 - 3) % 6 = 3 by omega, gP_3]
      have hcp : K 58 p = ch (6 * q + 4 + 2) := by rw [hp, hch]
      by_cases hg : 6 * q + 4 + 2 < n ∧ gK ch (6 * q + 4 + 2)
      · have hr := hgk.mp hg.2
        have dY := qdY (L := L) (xs := xs) (d := d) (J := J) (K := K) (p := p) (e := e) (mn := mn) (my := nI q) (lo := 1) (hi := 9) (R := R) (by omega) he (by rw [hcp]; exact hr)
        rw [hcp] at dY
        have h9 : (ch (6 * q + 4 + 2) - 48 = -9) = False := eq_false (by grind)
        obtain ⟨R', i1, i2⟩ := ih 3 (p + 1) (fun k => if k = 5 * q + 2 then ch (6 * q + 4 + 2) - 48 else R k) (by omega) (by omega) (by omega) (by omega)
        refine ⟨R', fun i hi => by rw [i1 i (by omega), if_neg (by omega)], ?_⟩
        rw [fG_s hg.1 hg.2, eX9_readPlace_93]
        simp only [eX9_readPlace_95, eX9_readPlace_96, eX9_readPlace_99, eX9_readPlace_100, eX9_readPlace_103, eX9_readPlace_104, eX9_readPlace_106, eX9_readPlace_107, eX9_readPlace_108, eX9_readPlace_109, eX9_readPlace_111, eX9_readPlace_112, eX9_readPlace_115, eX9_readPlace_117, eX9_readPlace_118, eX9_readPlace_121, eX9_readPlace_122, eX9_readPlace_125, eX9_readPlace_126, eX9_readPlace_128, eX9_readPlace_129, eX9_readPlace_132, eX9_readPlace_133, eX9_readPlace_136, eX9_readPlace_138, eX9_readPlace_141, eX9_readPlace_142, eX9_readPlace_143, eX9_readPlace_146, eX9_readPlace_147, eX9_readPlace_149, eX9_readPlace_150, eX9_readPlace_151, eX9_readPlace_153, eX9_readPlace_156, eX9_readPlace_157, eX9_readPlace_158, eX9_readPlace_161, show (nI 2 = 2) = True from eq_true rfl, show (nI 2 = 3) = False from eq_false (by decide +kernel), show (nI 2 = 4) = False from eq_false (by decide +kernel), show ((5 : Int32) ≤ nI 2) = False from eq_false (by decide +kernel), ne_eq, not_true_eq_false, not_false_eq_true, if_true, if_false, Option.bind_some, Option.toList_some, Option.toList_none, List.cons_append, List.nil_append, G_o55, G_h55_2, G_r55_2, G_a56, G_l56, G_h55_3, G_r55_3, G_a57, G_l57, G_h55_4, G_r55_4, G_a58, G_l58, G_h55_7, G_r55_7, G_a59, G_l59, G_h55_8, G_r55_8, G_a60, G_l60, G_h55_9, G_r55_9, G_a61, G_l61, G_h55_10, G_r55_10, G_a62, G_l62, G_h55_11, G_r55_11, G_a63, G_l63, G_h55_29, G_r55_29, G_a69, G_l69, G_h55_30, G_r55_30, G_a70, G_l70, G_h55_15, G_r55_15, G_a64, G_l64, nI_add, zIn_30 (show 5 * q + 2 < 30 by omega), zc_n (show 5 * q + 2 ≤ 1000 by omega), rd_uR, rd_R, dY, h9, nI_1]
        rcases i2 with ⟨j1, j2, j3, j4⟩ | ⟨j1, j2⟩
        · refine Or.inl ⟨by first | exact j1 | trivial, j2, fun y h1 h2 => ?_, j4⟩
          by_cases ey : y = 2
          · subst ey
            rw [i1 _ (by omega), if_pos rfl]
          · exact j3 y (by omega) h2
        · exact Or.inr ⟨j1, j2⟩
      · have dN := qdN (L := L) (xs := xs) (d := d) (J := J) (K := K) (p := p) (e := e) (mn := mn) (my := nI q) (lo := 1) (hi := 9) (R := R) (by omega) he (by rw [hcp]; exact fun x => hg ⟨by omega, hgk.mpr x.2⟩)
        refine ⟨fun k => if k = 5 * q + 2 then -9 else R k, fun i hi => by dsimp only; rw [if_neg (by omega)], Or.inr ⟨by rw [fG_b hg]; omega, ?_⟩⟩
        rw [fG_b hg, ← hp, eX9_readPlace_93]
        simp only [eX9_readPlace_95, eX9_readPlace_96, eX9_readPlace_99, eX9_readPlace_100, eX9_readPlace_103, eX9_readPlace_104, eX9_readPlace_106, eX9_readPlace_107, eX9_readPlace_108, eX9_readPlace_109, eX9_readPlace_111, eX9_readPlace_112, eX9_readPlace_115, eX9_readPlace_117, eX9_readPlace_118, eX9_readPlace_121, eX9_readPlace_122, eX9_readPlace_125, eX9_readPlace_126, eX9_readPlace_128, eX9_readPlace_129, eX9_readPlace_132, eX9_readPlace_133, eX9_readPlace_136, eX9_readPlace_138, eX9_readPlace_141, eX9_readPlace_142, eX9_readPlace_143, eX9_readPlace_146, eX9_readPlace_147, eX9_readPlace_149, eX9_readPlace_150, eX9_readPlace_151, eX9_readPlace_153, eX9_readPlace_156, eX9_readPlace_157, eX9_readPlace_158, eX9_readPlace_161, show (nI 2 = 2) = True from eq_true rfl, show (nI 2 = 3) = False from eq_false (by decide +kernel), show (nI 2 = 4) = False from eq_false (by decide +kernel), show ((5 : Int32) ≤ nI 2) = False from eq_false (by decide +kernel), ne_eq, not_true_eq_false, not_false_eq_true, if_true, if_false, Option.bind_some, Option.toList_some, Option.toList_none, List.cons_append, List.nil_append, G_o55, G_h55_2, G_r55_2, G_a56, G_l56, G_h55_3, G_r55_3, G_a57, G_l57, G_h55_4, G_r55_4, G_a58, G_l58, G_h55_7, G_r55_7, G_a59, G_l59, G_h55_8, G_r55_8, G_a60, G_l60, G_h55_9, G_r55_9, G_a61, G_l61, G_h55_10, G_r55_10, G_a62, G_l62, G_h55_11, G_r55_11, G_a63, G_l63, G_h55_29, G_r55_29, G_a69, G_l69, G_h55_30, G_r55_30, G_a70, G_l70, G_h55_15, G_r55_15, G_a64, G_l64, nI_add, zIn_30 (show 5 * q + 2 < 30 by omega), zc_n (show 5 * q + 2 ≤ 1000 by omega), rd_uR, rd_R, dN, zT_0]
    · have hgk : gK ch (6 * q + 4 + 3) ↔ (49 ≤ ch (6 * q + 4 + 3) ∧ ch (6 * q + 4 + 3) ≤ 57) := by
        rw [gK_3 (by omega) (by omega), show (6 * q + 4 + 3 - 3) % 6 = 4 by omega, gP_4]
      have hcp : K 58 p = ch (6 * q + 4 + 3) := by rw [hp, hch]
      by_cases hg : 6 * q + 4 + 3 < n ∧ gK ch (6 * q + 4 + 3)
      · have hr := hgk.mp hg.2
        have dY := qdY (L := L) (xs := xs) (d := d) (J := J) (K := K) (p := p) (e := e) (mn := mn) (my := nI q) (lo := 1) (hi := 9) (R := R) (by omega) he (by rw [hcp]; exact hr)
        rw [hcp] at dY
        have h9 : (ch (6 * q + 4 + 3) - 48 = -9) = False := eq_false (by grind)
        obtain ⟨R', i1, i2⟩ := ih 4 (p + 1) (fun k => if k = 5 * q + 3 then ch (6 * q + 4 + 3) - 48 else R k) (by omega) (by omega) (by omega) (by omega)
        refine ⟨R', fun i hi => by rw [i1 i (by omega), if_neg (by omega)], ?_⟩
        rw [fG_s hg.1 hg.2, eX9_readPlace_93]
        simp only [eX9_readPlace_95, eX9_readPlace_96, eX9_readPlace_99, eX9_readPlace_100, eX9_readPlace_103, eX9_readPlace_104, eX9_readPlace_106, eX9_readPlace_107, eX9_readPlace_108, eX9_readPlace_109, eX9_readPlace_111, eX9_readPlace_112, eX9_readPlace_115, eX9_readPlace_117, eX9_readPlace_118, eX9_readPlace_121, eX9_readPlace_122, eX9_readPlace_125, eX9_readPlace_126, eX9_readPlace_128, eX9_readPlace_129, eX9_readPlace_132, eX9_readPlace_133, eX9_readPlace_136, eX9_readPlace_138, eX9_readPlace_141, eX9_readPlace_142, eX9_readPlace_143, eX9_readPlace_146, eX9_readPlace_147, eX9_readPlace_149, eX9_readPlace_150, eX9_readPlace_151, eX9_readPlace_153, eX9_readPlace_156, eX9_readPlace_157, eX9_readPlace_158, eX9_readPlace_161, show (nI 3 = 2) = False from eq_false (by decide +kernel), show (nI 3 = 3) = True from eq_true rfl, show (nI 3 = 4) = False from eq_false (by decide +kernel), show ((5 : Int32) ≤ nI 3) = False from eq_false (by decide +kernel), ne_eq, not_true_eq_false, not_false_eq_true, if_true, if_false, Option.bind_some, Option.toList_some, Option.toList_none, List.cons_append, List.nil_append, G_o55, G_h55_2, G_r55_2, G_a56, G_l56, G_h55_3, G_r55_3, G_a57, G_l57, G_h55_4, G_r55_4, G_a58, G_l58, G_h55_7, G_r55_7, G_a59, G_l59, G_h55_8, G_r55_8, G_a60, G_l60, G_h55_9, G_r55_9, G_a61, G_l61, G_h55_10, G_r55_10, G_a62, G_l62, G_h55_11, G_r55_11, G_a63, G_l63, G_h55_29, G_r55_29, G_a69, G_l69, G_h55_30, G_r55_30, G_a70, G_l70, G_h55_15, G_r55_15, G_a64, G_l64, nI_add, zIn_30 (show 5 * q + 3 < 30 by omega), zc_n (show 5 * q + 3 ≤ 1000 by omega), rd_uR, rd_R, dY, h9, nI_1]
        rcases i2 with ⟨j1, j2, j3, j4⟩ | ⟨j1, j2⟩
        · refine Or.inl ⟨by first | exact j1 | trivial, j2, fun y h1 h2 => ?_, j4⟩
          by_cases ey : y = 3
          · subst ey
            rw [i1 _ (by omega), if_pos rfl]
          · exact j3 y (by omega) h2
        · exact Or.inr ⟨j1, j2⟩
      · have dN := qdN (L := L) (xs := xs) (d := d) (J := J) (K := K) (p := p) (e := e) (mn := mn) (my := nI q) (lo := 1) (hi := 9) (R := R) (by omega) he (by rw [hcp]; exact fun x => hg ⟨by omega, hgk.mpr x.2⟩)
        refine ⟨fun k => if k = 5 * q + 3 then -9 else R k, fun i hi => by dsimp only; rw [if_neg (by omega)], Or.inr ⟨by rw [fG_b hg]; omega, ?_⟩⟩
        rw [fG_b hg, ← hp, eX9_readPlace_93]
        simp only [eX9_readPlace_95, eX9_readPlace_96, eX9_readPlace_99, eX9_readPlace_100, eX9_readPlace_103, eX9_readPlace_104, eX9_readPlace_106, eX9_readPlace_107, eX9_readPlace_108, eX9_readPlace_109, eX9_readPlace_111, eX9_readPlace_112, eX9_readPlace_115, eX9_readPlace_117, eX9_readPlace_118, eX9_readPlace_121, eX9_readPlace_122, eX9_readPlace_125, eX9_readPlace_126, eX9_readPlace_128, eX9_readPlace_129, eX9_readPlace_132, eX9_readPlace_133, eX9_readPlace_136, eX9_readPlace_138, eX9_readPlace_141, eX9_readPlace_142, eX9_readPlace_143, eX9_readPlace_146, eX9_readPlace_147, eX9_readPlace_149, eX9_readPlace_150, eX9_readPlace_151, eX9_readPlace_153, eX9_readPlace_156, eX9_readPlace_157, eX9_readPlace_158, eX9_readPlace_161, show (nI 3 = 2) = False from eq_false (by decide +kernel), show (nI 3 = 3) = True from eq_true rfl, show (nI 3 = 4) = False from eq_false (by decide +kernel), show ((5 : Int32) ≤ nI 3) = False from eq_false (by decide +kernel), ne_eq, not_true_eq_false, not_false_eq_true, if_true, if_false, Option.bind_some, Option.toList_some, Option.toList_none, List.cons_append, List.nil_append, G_o55, G_h55_2, G_r55_2, G_a56, G_l56, G_h55_3, G_r55_3, G_a57, G_l57, G_h55_4, G_r55_4, G_a58, G_l58, G_h55_7, G_r55_7, G_a59, G_l59, G_h55_8, G_r55_8, G_a60, G_l60, G_h55_9, G_r55_9, G_a61, G_l61, G_h55_10, G_r55_10, G_a62, G_l62, G_h55_11, G_r55_11, G_a63, G_l63, G_h55_29, G_r55_29, G_a69, G_l69, G_h55_30, G_r55_30, G_a70, G_l70, G_h55_15, G_r55_15, G_a64, G_l64, nI_add, zIn_30 (show 5 * q + 3 < 30 by omega), zc_n (show 5 * q + 3 ≤ 1000 by omega), rd_uR, rd_R, dN, zT_0]
    · have hgk : gK ch (6 * q + 4 + 4) ↔ (48 ≤ ch (6 * q + 4 + 4) ∧ ch (6 * q + 4 + 4) ≤ 53) := by
        rw [gK_3 (by omega) (by omega), show (6 * q + 4 + 4 - 3) % 6 = 5 by omega, gP_5]
      have hcp : K 58 p = ch (6 * q + 4 + 4) := by rw [hp, hch]
      by_cases hg : 6 * q + 4 + 4 < n ∧ gK ch (6 * q + 4 + 4)
      · have hr := hgk.mp hg.2
        have dY := qdY (L := L) (xs := xs) (d := d) (J := J) (K := K) (p := p) (e := e) (mn := mn) (my := nI q) (lo := 0) (hi := 5) (R := R) (by omega) he (by rw [hcp]; exact hr)
        rw [hcp] at dY
        have h9 : (ch (6 * q + 4 + 4) - 48 = -9) = False := eq_false (by grind)
        obtain ⟨R', i1, i2⟩ := ih 5 (p + 1) (fun k => if k = 5 * q + 4 then ch (6 * q + 4 + 4) - 48 else R k) (by omega) (by omega) (by omega) (by omega)
        refine ⟨R', fun i hi => by rw [i1 i (by omega), if_neg (by omega)], ?_⟩
        rw [fG_s hg.1 hg.2, eX9_readPlace_93]
        simp only [eX9_readPlace_95, eX9_readPlace_96, eX9_readPlace_99, eX9_readPlace_100, eX9_readPlace_103, eX9_readPlace_104, eX9_readPlace_106, eX9_readPlace_107, eX9_readPlace_108, eX9_readPlace_109, eX9_readPlace_111, eX9_readPlace_112, eX9_readPlace_115, eX9_readPlace_117, eX9_readPlace_118, eX9_readPlace_121, eX9_readPlace_122, eX9_readPlace_125, eX9_readPlace_126, eX9_readPlace_128, eX9_readPlace_129, eX9_readPlace_132, eX9_readPlace_133, eX9_readPlace_136, eX9_readPlace_138, eX9_readPlace_141, eX9_readPlace_142, eX9_readPlace_143, eX9_readPlace_146, eX9_readPlace_147, eX9_readPlace_149, eX9_readPlace_150, eX9_readPlace_151, eX9_readPlace_153, eX9_readPlace_156, eX9_readPlace_157, eX9_readPlace_158, eX9_readPlace_161, show (nI 4 = 2) = False from eq_false (by decide +kernel), show (nI 4 = 3) = False from eq_false (by decide +kernel), show (nI 4 = 4) = True from eq_true rfl, show ((5 : Int32) ≤ nI 4) = False from eq_false (by decide +kernel), ne_eq, not_true_eq_false, not_false_eq_true, if_true, if_false, Option.bind_some, Option.toList_some, Option.toList_none, List.cons_append, List.nil_append, G_o55, G_h55_2, G_r55_2, G_a56, G_l56, G_h55_3, G_r55_3, G_a57, G_l57, G_h55_4, G_r55_4, G_a58, G_l58, G_h55_7, G_r55_7, G_a59, G_l59, G_h55_8, G_r55_8, G_a60, G_l60, G_h55_9, G_r55_9, G_a61, G_l61, G_h55_10, G_r55_10, G_a62, G_l62, G_h55_11, G_r55_11, G_a63, G_l63, G_h55_29, G_r55_29, G_a69, G_l69, G_h55_30, G_r55_30, G_a70, G_l70, G_h55_15, G_r55_15, G_a64, G_l64, nI_add, zIn_30 (show 5 * q + 4 < 30 by omega), zc_n (show 5 * q + 4 ≤ 1000 by omega), rd_uR, rd_R, dY, h9, nI_1]
        rcases i2 with ⟨j1, j2, j3, j4⟩ | ⟨j1, j2⟩
        · refine Or.inl ⟨by first | exact j1 | trivial, j2, fun y h1 h2 => ?_, j4⟩
          by_cases ey : y = 4
          · subst ey
            rw [i1 _ (by omega), if_pos rfl]
          · exact j3 y (by omega) h2
        · exact Or.inr ⟨j1, j2⟩
      · have dN := qdN (L := L) (xs := xs) (d := d) (J := J) (K := K) (p := p) (e := e) (mn := mn) (my := nI q) (lo := 0) (hi := 5) (R := R) (by omega) he (by rw [hcp]; exact fun x => hg ⟨by omega, hgk.mpr x.2⟩)
        refine ⟨fun k => if k = 5 * q + 4 then -9 else R k, fun i hi => by dsimp only; rw [if_neg (by omega)], Or.inr ⟨by rw [fG_b hg]; omega, ?_⟩⟩
        rw [fG_b hg, ← hp, eX9_readPlace_93]
        simp only [eX9_readPlace_95, eX9_readPlace_96, eX9_readPlace_99, eX9_readPlace_100, eX9_readPlace_103, eX9_readPlace_104, eX9_readPlace_106, eX9_readPlace_107, eX9_readPlace_108, eX9_readPlace_109, eX9_readPlace_111, eX9_readPlace_112, eX9_readPlace_115, eX9_readPlace_117, eX9_readPlace_118, eX9_readPlace_121, eX9_readPlace_122, eX9_readPlace_125, eX9_readPlace_126, eX9_readPlace_128, eX9_readPlace_129, eX9_readPlace_132, eX9_readPlace_133, eX9_readPlace_136, eX9_readPlace_138, eX9_readPlace_141, eX9_readPlace_142, eX9_readPlace_143, eX9_readPlace_146, eX9_readPlace_147, eX9_readPlace_149, eX9_readPlace_150, eX9_readPlace_151, eX9_readPlace_153, eX9_readPlace_156, eX9_readPlace_157, eX9_readPlace_158, eX9_readPlace_161, show (nI 4 = 2) = False from eq_false (by decide +kernel), show (nI 4 = 3) = False from eq_false (by decide +kernel), show (nI 4 = 4) = True from eq_true rfl, show ((5 : Int32) ≤ nI 4) = False from eq_false (by decide +kernel), ne_eq, not_true_eq_false, not_false_eq_true, if_true, if_false, Option.bind_some, Option.toList_some, Option.toList_none, List.cons_append, List.nil_append, G_o55, G_h55_2, G_r55_2, G_a56, G_l56, G_h55_3, G_r55_3, G_a57, G_l57, G_h55_4, G_r55_4, G_a58, G_l58, G_h55_7, G_r55_7, G_a59, G_l59, G_h55_8, G_r55_8, G_a60, G_l60, G_h55_9, G_r55_9, G_a61, G_l61, G_h55_10, G_r55_10, G_a62, G_l62, G_h55_11, G_r55_11, G_a63, G_l63, G_h55_29, G_r55_29, G_a69, G_l69, G_h55_30, G_r55_30, G_a70, G_l70, G_h55_15, G_r55_15, G_a64, G_l64, nI_add, zIn_30 (show 5 * q + 4 < 30 by omega), zc_n (show 5 * q + 4 ≤ 1000 by omega), rd_uR, rd_R, dN, zT_0]

set_option maxHeartbeats 1000000 in
theorem qrp {K : Nat → Nat → Int32} {fs n e q p : Nat} {ch : Nat → Int32} {mn : Int32} {R : Nat → Int32} (hch : ∀ k, K 58 (fs + k) = ch k) (hen : e = fs + n) (he : e ≤ 240) (hq : q < 6) (hp : p = fs + (6 * q + 4)) (hn : 6 * q + 4 ≤ n) : ∃ R' : Nat → Int32, (∀ i, i < 5 * q → R' i = R i) ∧ ((fG ch n (6 * q + 4) = fG ch n (6 * q + 9) ∧ 6 * q + 9 ≤ n ∧ R' (5 * q) = kBy (ch (6 * q + 4)) ∧ (∀ y, 1 ≤ y → y < 5 → R' (5 * q + y) = ch (6 * q + 4 + y) - 48) ∧ zE zCd (zGG L xs) d 103 [.ref 55, .int (nI e)] (rdM K (nI p) mn (nI q) R, J) = some (some (.int 1), (rdM K (nI (fs + (6 * q + 9))) mn (nI (q + 1)) R', J))) ∨ (fG ch n (6 * q + 4) < 6 * q + 9 ∧ zE zCd (zGG L xs) d 103 [.ref 55, .int (nI e)] (rdM K (nI p) mn (nI q) R, J) = some (some (.int 0), (rdM K (nI (fs + fG ch n (6 * q + 4))) mn (nI q) R', J)))) := by
  have e5 : (5 : Int32) * nI q = nI (5 * q) := pk_mul 5 q
  have el : (nI e ≤ nI p) = (e ≤ p) := zle (show e ≤ 1000000 by omega) (show p ≤ 1000000 by omega)
  have hgk : gK ch (6 * q + 4) ↔ (ch (6 * q + 4) = 112 ∨ ch (6 * q + 4) = 107 ∨ ch (6 * q + 4) = 104) := by
    rw [gK_3 (by omega) (by omega), show (6 * q + 4 - 3) % 6 = 1 by omega, gP_1]
  have hcp : K 58 p = ch (6 * q + 4) := by rw [hp, hch]
  by_cases hpe : e ≤ p
  · refine ⟨fun k => if k = 5 * q then -9 else R k, fun i hi => by dsimp only; rw [if_neg (by omega)], Or.inr ?_⟩
    rw [fG_b (show ¬ (6 * q + 4 < n ∧ gK ch (6 * q + 4)) from fun x => by omega)]
    refine ⟨by omega, ?_⟩
    simp only [nX9_readPlace, eX9_readPlace_0, eX9_readPlace_1, eX9_readPlace_2, eX9_readPlace_5, eX9_readPlace_6, eX9_readPlace_7, eX9_readPlace_8, eX9_readPlace_11, eX9_readPlace_12, eX9_readPlace_15, eX9_readPlace_16, eX9_readPlace_19, eX9_readPlace_20, eX9_readPlace_23, eX9_readPlace_24, eX9_readPlace_27, eX9_readPlace_28, eX9_readPlace_29, eX9_readPlace_30, eX9_readPlace_33, eX9_readPlace_34, eX9_readPlace_35, eX9_readPlace_37, eX9_readPlace_40, eX9_readPlace_41, eX9_readPlace_44, eX9_readPlace_45, eX9_readPlace_47, eX9_readPlace_50, eX9_readPlace_51, eX9_readPlace_54, eX9_readPlace_55, eX9_readPlace_57, eX9_readPlace_60, eX9_readPlace_61, eX9_readPlace_64, eX9_readPlace_66, eX9_readPlace_67, eX9_readPlace_68, eX9_readPlace_71, eX9_readPlace_72, eX9_readPlace_73, eX9_readPlace_75, eX9_readPlace_78, eX9_readPlace_79, Option.bind_some, Option.toList_some, Option.toList_none, List.cons_append, List.nil_append, G_o55, G_h55_2, G_r55_2, G_a56, G_l56, G_h55_3, G_r55_3, G_a57, G_l57, G_h55_4, G_r55_4, G_a58, G_l58, G_h55_7, G_r55_7, G_a59, G_l59, G_h55_8, G_r55_8, G_a60, G_l60, G_h55_9, G_r55_9, G_a61, G_l61, G_h55_10, G_r55_10, G_a62, G_l62, G_h55_11, G_r55_11, G_a63, G_l63, G_h55_29, G_r55_29, G_a69, G_l69, G_h55_30, G_r55_30, G_a70, G_l70, G_h55_15, G_r55_15, G_a64, G_l64, rd_my, rd_p, e5, el, eq_true hpe, if_true, show ((0 : Int32) = 112) = False from eq_false (by decide), show ((0 : Int32) = 107) = False from eq_false (by decide), show ((0 : Int32) = 104) = False from eq_false (by decide), ne_eq, not_true_eq_false, not_false_eq_true, if_false, zIn_30 (show 5 * q < 30 by omega), zc_n (show 5 * q ≤ 1000 by omega), rd_uR, rd_R, zT_0]
    rw [hp]
  · rcases (show ch (6 * q + 4) = 112 ∨ ch (6 * q + 4) = 107 ∨ ch (6 * q + 4) = 104 ∨ ¬ (ch (6 * q + 4) = 112 ∨ ch (6 * q + 4) = 107 ∨ ch (6 * q + 4) = 104) by
      by_cases h1 : ch (6 * q + 4) = 112
      · exact Or.inl h1
      · by_cases h2 : ch (6 * q + 4) = 107
        · exact Or.inr (Or.inl h2)
        · by_cases h3 : ch (6 * q + 4) = 104
          · exact Or.inr (Or.inr (Or.inl h3))
          · exact Or.inr (Or.inr (Or.inr (by simp [h1, h2, h3])))) with hc | hc | hc | hc
    · have hg : gK ch (6 * q + 4) := hgk.mpr (by rw [hc]; decide)
      obtain ⟨R', i1, i2⟩ := lp_rpl (L := L) (xs := xs) (d := d) (J := J) (mn := mn) (code := 112) hch hen he hq 4 1 (p + 1) (fun k => if k = 5 * q then 0 else R k) (by omega) (by omega) (by omega) (by omega)
      have pre : zE zCd (zGG L xs) d 103 [.ref 55, .int (nI e)] (rdM K (nI p) mn (nI q) R, J) = zX zCd (zGG L xs) d 103 93 [.ref 55, .int (nI e), .int (nI (5 * q)), .int 112, .int (nI 1)] [] (rdM K (nI (p + 1)) mn (nI q) (fun k => if k = 5 * q then 0 else R k), J) := by
        simp only [nX9_readPlace, eX9_readPlace_0, eX9_readPlace_1, eX9_readPlace_2, eX9_readPlace_5, eX9_readPlace_6, eX9_readPlace_7, eX9_readPlace_8, eX9_readPlace_11, eX9_readPlace_12, eX9_readPlace_15, eX9_readPlace_16, eX9_readPlace_19, eX9_readPlace_20, eX9_readPlace_23, eX9_readPlace_24, eX9_readPlace_27, eX9_readPlace_28, eX9_readPlace_29, eX9_readPlace_30, eX9_readPlace_33, eX9_readPlace_34, eX9_readPlace_35, eX9_readPlace_37, eX9_readPlace_40, eX9_readPlace_41, eX9_readPlace_44, eX9_readPlace_45, eX9_readPlace_47, eX9_readPlace_50, eX9_readPlace_51, eX9_readPlace_54, eX9_readPlace_55, eX9_readPlace_57, eX9_readPlace_60, eX9_readPlace_61, eX9_readPlace_64, eX9_readPlace_66, eX9_readPlace_67, eX9_readPlace_68, eX9_readPlace_71, eX9_readPlace_72, eX9_readPlace_73, eX9_readPlace_75, eX9_readPlace_78, eX9_readPlace_79, eX9_readPlace_80, eX9_readPlace_81, eX9_readPlace_82, eX9_readPlace_85, eX9_readPlace_86, eX9_readPlace_87, eX9_readPlace_90, eX9_readPlace_91, Option.bind_some, Option.toList_some, Option.toList_none, List.cons_append, List.nil_append, G_o55, G_h55_2, G_r55_2, G_a56, G_l56, G_h55_3, G_r55_3, G_a57, G_l57, G_h55_4, G_r55_4, G_a58, G_l58, G_h55_7, G_r55_7, G_a59, G_l59, G_h55_8, G_r55_8, G_a60, G_l60, G_h55_9, G_r55_9, G_a61, G_l61, G_h55_10, G_r55_10, G_a62, G_l62, G_h55_11, G_r55_11, G_a63, G_l63, G_h55_29, G_r55_29, G_a69, G_l69, G_h55_30, G_r55_30, G_a70, G_l70, G_h55_15, G_r55_15, G_a64, G_l64, rd_my, rd_p, e5, el, eq_false hpe, if_false, if_true, zIn_240 (show p < 240 by omega), zc_n (show p ≤ 1000 by omega), rd_o (show 58 ≠ 55 by decide) (show 58 ≠ 64 by decide), hcp, hc, show ((112 : Int32) = 112) = True from eq_true rfl, ne_eq, not_true_eq_false, not_false_eq_true, zIn_30 (show 5 * q < 30 by omega), zc_n (show 5 * q ≤ 1000 by omega), rd_uR, rd_R, show ((0 : Int32) = -9) = False from eq_false (by decide), nI_1, rd_up]
        rfl
      rw [pre]
      refine ⟨R', fun i hi => by rw [i1 i (by omega), if_neg (by omega)], ?_⟩
      rw [fG_s (by omega) hg]
      rcases i2 with ⟨j1, j2, j3, j4⟩ | ⟨j1, j2⟩
      · exact Or.inl ⟨j1, j2, by rw [i1 _ (by omega), if_pos rfl, hc]; rfl, fun y a b => j3 y a b, j4⟩
      · exact Or.inr ⟨j1, j2⟩
    · have hg : gK ch (6 * q + 4) := hgk.mpr (by rw [hc]; decide)
      obtain ⟨R', i1, i2⟩ := lp_rpl (L := L) (xs := xs) (d := d) (J := J) (mn := mn) (code := 107) hch hen he hq 4 1 (p + 1) (fun k => if k = 5 * q then 1 else R k) (by omega) (by omega) (by omega) (by omega)
      have pre : zE zCd (zGG L xs) d 103 [.ref 55, .int (nI e)] (rdM K (nI p) mn (nI q) R, J) = zX zCd (zGG L xs) d 103 93 [.ref 55, .int (nI e), .int (nI (5 * q)), .int 107, .int (nI 1)] [] (rdM K (nI (p + 1)) mn (nI q) (fun k => if k = 5 * q then 1 else R k), J) := by
        simp only [nX9_readPlace, eX9_readPlace_0, eX9_readPlace_1, eX9_readPlace_2, eX9_readPlace_5, eX9_readPlace_6, eX9_readPlace_7, eX9_readPlace_8, eX9_readPlace_11, eX9_readPlace_12, eX9_readPlace_15, eX9_readPlace_16, eX9_readPlace_19, eX9_readPlace_20, eX9_readPlace_23, eX9_readPlace_24, eX9_readPlace_27, eX9_readPlace_28, eX9_readPlace_29, eX9_readPlace_30, eX9_readPlace_33, eX9_readPlace_34, eX9_readPlace_35, eX9_readPlace_37, eX9_readPlace_40, eX9_readPlace_41, eX9_readPlace_44, eX9_readPlace_45, eX9_readPlace_47, eX9_readPlace_50, eX9_readPlace_51, eX9_readPlace_54, eX9_readPlace_55, eX9_readPlace_57, eX9_readPlace_60, eX9_readPlace_61, eX9_readPlace_64, eX9_readPlace_66, eX9_readPlace_67, eX9_readPlace_68, eX9_readPlace_71, eX9_readPlace_72, eX9_readPlace_73, eX9_readPlace_75, eX9_readPlace_78, eX9_readPlace_79, eX9_readPlace_80, eX9_readPlace_81, eX9_readPlace_82, eX9_readPlace_85, eX9_readPlace_86, eX9_readPlace_87, eX9_readPlace_90, eX9_readPlace_91, Option.bind_some, Option.toList_some, Option.toList_none, List.cons_append, List.nil_append, G_o55, G_h55_2, G_r55_2, G_a56, G_l56, G_h55_3, G_r55_3, G_a57, G_l57, G_h55_4, G_r55_4, G_a58, G_l58, G_h55_7, G_r55_7, G_a59, G_l59, G_h55_8, G_r55_8, G_a60, G_l60, G_h55_9, G_r55_9, G_a61, G_l61, G_h55_10, G_r55_10, G_a62, G_l62, G_h55_11, G_r55_11, G_a63, G_l63, G_h55_29, G_r55_29, G_a69, G_l69, G_h55_30, G_r55_30, G_a70, G_l70, G_h55_15, G_r55_15, G_a64, G_l64, rd_my, rd_p, e5, el, eq_false hpe, if_false, if_true, zIn_240 (show p < 240 by omega), zc_n (show p ≤ 1000 by omega), rd_o (show 58 ≠ 55 by decide) (show 58 ≠ 64 by decide), hcp, hc, show ((107 : Int32) = 112) = False from eq_false (by decide), show ((107 : Int32) = 107) = True from eq_true rfl, ne_eq, not_true_eq_false, not_false_eq_true, zIn_30 (show 5 * q < 30 by omega), zc_n (show 5 * q ≤ 1000 by omega), rd_uR, rd_R, show ((1 : Int32) = -9) = False from eq_false (by decide), nI_1, rd_up]
        rfl
      rw [pre]
      refine ⟨R', fun i hi => by rw [i1 i (by omega), if_neg (by omega)], ?_⟩
      rw [fG_s (by omega) hg]
      rcases i2 with ⟨j1, j2, j3, j4⟩ | ⟨j1, j2⟩
      · exact Or.inl ⟨j1, j2, by rw [i1 _ (by omega), if_pos rfl, hc]; rfl, fun y a b => j3 y a b, j4⟩
      · exact Or.inr ⟨j1, j2⟩
    · have hg : gK ch (6 * q + 4) := hgk.mpr (by rw [hc]; decide)
      obtain ⟨R', i1, i2⟩ := lp_rpl (L := L) (xs := xs) (d := d) (J := J) (mn := mn) (code := 104) hch hen he hq 4 1 (p + 1) (fun k => if k = 5 * q then 2 else R k) (by omega) (by omega) (by omega) (by omega)
      have pre : zE zCd (zGG L xs) d 103 [.ref 55, .int (nI e)] (rdM K (nI p) mn (nI q) R, J) = zX zCd (zGG L xs) d 103 93 [.ref 55, .int (nI e), .int (nI (5 * q)), .int 104, .int (nI 1)] [] (rdM K (nI (p + 1)) mn (nI q) (fun k => if k = 5 * q then 2 else R k), J) := by
        simp only [nX9_readPlace, eX9_readPlace_0, eX9_readPlace_1, eX9_readPlace_2, eX9_readPlace_5, eX9_readPlace_6, eX9_readPlace_7, eX9_readPlace_8, eX9_readPlace_11, eX9_readPlace_12, eX9_readPlace_15, eX9_readPlace_16, eX9_readPlace_19, eX9_readPlace_20, eX9_readPlace_23, eX9_readPlace_24, eX9_readPlace_27, eX9_readPlace_28, eX9_readPlace_29, eX9_readPlace_30, eX9_readPlace_33, eX9_readPlace_34, eX9_readPlace_35, eX9_readPlace_37, eX9_readPlace_40, eX9_readPlace_41, eX9_readPlace_44, eX9_readPlace_45, eX9_readPlace_47, eX9_readPlace_50, eX9_readPlace_51, eX9_readPlace_54, eX9_readPlace_55, eX9_readPlace_57, eX9_readPlace_60, eX9_readPlace_61, eX9_readPlace_64, eX9_readPlace_66, eX9_readPlace_67, eX9_readPlace_68, eX9_readPlace_71, eX9_readPlace_72, eX9_readPlace_73, eX9_readPlace_75, eX9_readPlace_78, eX9_readPlace_79, eX9_readPlace_80, eX9_readPlace_81, eX9_readPlace_82, eX9_readPlace_85, eX9_readPlace_86, eX9_readPlace_87, eX9_readPlace_90, eX9_readPlace_91, Option.bind_some, Option.toList_some, Option.toList_none, List.cons_append, List.nil_append, G_o55, G_h55_2, G_r55_2, G_a56, G_l56, G_h55_3, G_r55_3, G_a57, G_l57, G_h55_4, G_r55_4, G_a58, G_l58, G_h55_7, G_r55_7, G_a59, G_l59, G_h55_8, G_r55_8, G_a60, G_l60, G_h55_9, G_r55_9, G_a61, G_l61, G_h55_10, G_r55_10, G_a62, G_l62, G_h55_11, G_r55_11, G_a63, G_l63, G_h55_29, G_r55_29, G_a69, G_l69, G_h55_30, G_r55_30, G_a70, G_l70, G_h55_15, G_r55_15, G_a64, G_l64, rd_my, rd_p, e5, el, eq_false hpe, if_false, if_true, zIn_240 (show p < 240 by omega), zc_n (show p ≤ 1000 by omega), rd_o (show 58 ≠ 55 by decide) (show 58 ≠ 64 by decide), hcp, hc, show ((104 : Int32) = 112) = False from eq_false (by decide), show ((104 : Int32) = 107) = False from eq_false (by decide), show ((104 : Int32) = 104) = True from eq_true rfl, ne_eq, not_true_eq_false, not_false_eq_true, zIn_30 (show 5 * q < 30 by omega), zc_n (show 5 * q ≤ 1000 by omega), rd_uR, rd_R, show ((2 : Int32) = -9) = False from eq_false (by decide), nI_1, rd_up]
        rfl
      rw [pre]
      refine ⟨R', fun i hi => by rw [i1 i (by omega), if_neg (by omega)], ?_⟩
      rw [fG_s (by omega) hg]
      rcases i2 with ⟨j1, j2, j3, j4⟩ | ⟨j1, j2⟩
      · exact Or.inl ⟨j1, j2, by rw [i1 _ (by omega), if_pos rfl, hc]; rfl, fun y a b => j3 y a b, j4⟩
      · exact Or.inr ⟨j1, j2⟩
    · refine ⟨fun k => if k = 5 * q then -9 else R k, fun i hi => by dsimp only; rw [if_neg (by omega)], Or.inr ?_⟩
      rw [fG_b (show ¬ (6 * q + 4 < n ∧ gK ch (6 * q + 4)) from fun x => hc (hgk.mp x.2))]
      refine ⟨by omega, ?_⟩
      have c1 : (ch (6 * q + 4) = 112) = False := eq_false (fun x => hc (Or.inl x))
      have c2 : (ch (6 * q + 4) = 107) = False := eq_false (fun x => hc (Or.inr (Or.inl x)))
      have c3 : (ch (6 * q + 4) = 104) = False := eq_false (fun x => hc (Or.inr (Or.inr x)))
      simp only [nX9_readPlace, eX9_readPlace_0, eX9_readPlace_1, eX9_readPlace_2, eX9_readPlace_5, eX9_readPlace_6, eX9_readPlace_7, eX9_readPlace_8, eX9_readPlace_11, eX9_readPlace_12, eX9_readPlace_15, eX9_readPlace_16, eX9_readPlace_19, eX9_readPlace_20, eX9_readPlace_23, eX9_readPlace_24, eX9_readPlace_27, eX9_readPlace_28, eX9_readPlace_29, eX9_readPlace_30, eX9_readPlace_33, eX9_readPlace_34, eX9_readPlace_35, eX9_readPlace_37, eX9_readPlace_40, eX9_readPlace_41, eX9_readPlace_44, eX9_readPlace_45, eX9_readPlace_47, eX9_readPlace_50, eX9_readPlace_51, eX9_readPlace_54, eX9_readPlace_55, eX9_readPlace_57, eX9_readPlace_60, eX9_readPlace_61, eX9_readPlace_64, eX9_readPlace_66, eX9_readPlace_67, eX9_readPlace_68, eX9_readPlace_71, eX9_readPlace_72, eX9_readPlace_73, eX9_readPlace_75, eX9_readPlace_78, eX9_readPlace_79, Option.bind_some, Option.toList_some, Option.toList_none, List.cons_append, List.nil_append, G_o55, G_h55_2, G_r55_2, G_a56, G_l56, G_h55_3, G_r55_3, G_a57, G_l57, G_h55_4, G_r55_4, G_a58, G_l58, G_h55_7, G_r55_7, G_a59, G_l59, G_h55_8, G_r55_8, G_a60, G_l60, G_h55_9, G_r55_9, G_a61, G_l61, G_h55_10, G_r55_10, G_a62, G_l62, G_h55_11, G_r55_11, G_a63, G_l63, G_h55_29, G_r55_29, G_a69, G_l69, G_h55_30, G_r55_30, G_a70, G_l70, G_h55_15, G_r55_15, G_a64, G_l64, rd_my, rd_p, e5, el, eq_false hpe, if_false, zIn_240 (show p < 240 by omega), zc_n (show p ≤ 1000 by omega), rd_o (show 58 ≠ 55 by decide) (show 58 ≠ 64 by decide), hcp, c1, c2, c3, ne_eq, not_true_eq_false, not_false_eq_true, if_true, zIn_30 (show 5 * q < 30 by omega), zc_n (show 5 * q ≤ 1000 by omega), rd_uR, rd_R, zT_0]
      rw [hp]

set_option maxHeartbeats 1000000 in
theorem lp_rpc {K : Nat → Nat → Int32} {fs n e : Nat} {ch : Nat → Int32} {mn tn on : Int32} (hch : ∀ k, K 58 (fs + k) = ch k) (hen : e = fs + n) (he : e ≤ 240) : ∀ (r q p : Nat) (R : Nat → Int32), q + r = 6 → p = fs + (6 * q + 3) → 6 * q + 3 ≤ n → ∃ (b my : Int32) (R' : Nat → Int32), zX zCd (zGG L xs) d 102 79 [.ref 55, .int (nI e), .int tn, .int on] [] (rdM K (nI p) mn (nI q) R, J) = some (some (.int b), (rdM K (nI (fs + fG ch n (6 * q + 3))) mn my R', J)) ∧ (∀ i, i < 5 * q → R' i = R i) ∧ ((fW (fG ch n (6 * q + 3)) n ∧ b = 1 ∧ my = nI ((n - 3) / 6) ∧ ∀ t, q ≤ t → t < (n - 3) / 6 → R' (5 * t) = kBy (ch (6 * t + 4)) ∧ ∀ y, 1 ≤ y → y < 5 → R' (5 * t + y) = ch (6 * t + 4 + y) - 48) ∨ (¬ fW (fG ch n (6 * q + 3)) n ∧ b = 0)) := by
  intro r
  induction r with
  | zero =>
    intro q p R h hp hn
    obtain rfl : q = 6 := by omega
    have hf : fG ch n (6 * 6 + 3) = 39 := fG_b (fun x => gK_39 x.2)
    rw [hf, eX9_readPiece_79]
    by_cases e39 : n = 39
    · refine ⟨1, nI 6, R, ?_, fun _ _ => rfl, Or.inl ⟨⟨e39.symm, by omega, by omega⟩, rfl, by rw [e39], fun t a b => by omega⟩⟩
      have eq1 : p = e := by omega
      simp only [eX9_readPiece_80, eX9_readPiece_83, eX9_readPiece_86, eX9_readPiece_87, eX9_readPiece_90, eX9_readPiece_92, eX9_readPiece_123, eX9_readPiece_124, eX9_readPiece_127, eX9_readPiece_128, eX9_readPiece_131, eX9_readPiece_132, eX9_readPiece_135, eX9_readPiece_136, Option.bind_some, Option.toList_some, Option.toList_none, List.cons_append, List.nil_append, G_o55, G_h55_2, G_r55_2, G_a56, G_l56, G_h55_3, G_r55_3, G_a57, G_l57, G_h55_4, G_r55_4, G_a58, G_l58, G_h55_7, G_r55_7, G_a59, G_l59, G_h55_8, G_r55_8, G_a60, G_l60, G_h55_9, G_r55_9, G_a61, G_l61, G_h55_10, G_r55_10, G_a62, G_l62, G_h55_11, G_r55_11, G_a63, G_l63, G_h55_29, G_r55_29, G_a69, G_l69, G_h55_30, G_r55_30, G_a70, G_l70, G_h55_15, G_r55_15, G_a64, G_l64, rd_my, rd_p, show (nI 6 = 0) = False from eq_false (by decide +kernel), show ((6 : Int32) ≤ nI 6) = True from eq_true (by decide +kernel), if_true, if_false, eq1, ne_eq, not_true_eq_false, zT_1]
      rw [hen, e39]
    · refine ⟨0, nI 6, R, ?_, fun _ _ => rfl, Or.inr ⟨fun x => e39 x.1.symm, rfl⟩⟩
      have eq1 : (nI p = nI e) = False := eq_false (fun x => e39 (by have := (nI_eq (by omega) (by omega)).mp x; omega))
      simp only [eX9_readPiece_80, eX9_readPiece_83, eX9_readPiece_86, eX9_readPiece_87, eX9_readPiece_90, eX9_readPiece_92, eX9_readPiece_123, eX9_readPiece_124, eX9_readPiece_127, eX9_readPiece_128, eX9_readPiece_131, eX9_readPiece_132, eX9_readPiece_135, eX9_readPiece_136, Option.bind_some, Option.toList_some, Option.toList_none, List.cons_append, List.nil_append, G_o55, G_h55_2, G_r55_2, G_a56, G_l56, G_h55_3, G_r55_3, G_a57, G_l57, G_h55_4, G_r55_4, G_a58, G_l58, G_h55_7, G_r55_7, G_a59, G_l59, G_h55_8, G_r55_8, G_a60, G_l60, G_h55_9, G_r55_9, G_a61, G_l61, G_h55_10, G_r55_10, G_a62, G_l62, G_h55_11, G_r55_11, G_a63, G_l63, G_h55_29, G_r55_29, G_a69, G_l69, G_h55_30, G_r55_30, G_a70, G_l70, G_h55_15, G_r55_15, G_a64, G_l64, rd_my, rd_p, show (nI 6 = 0) = False from eq_false (by decide +kernel), show ((6 : Int32) ≤ nI 6) = True from eq_true (by decide +kernel), if_true, if_false, eq1, ne_eq, not_false_eq_true, zT_0]
      rw [hp]
  | succ r ih =>
    intro q p R h hp hn
    have hq : q < 6 := by omega
    have e6 : ((6 : Int32) ≤ nI q) = False := by rw [show ((6 : Int32) ≤ nI q) = (6 ≤ q) from @zle 6 q (by omega) (by omega)]; exact eq_false (by omega)
    have el : (nI e ≤ nI p) = (e ≤ p) := zle (show e ≤ 1000000 by omega) (show p ≤ 1000000 by omega)
    have e0 : (nI q = 0) = (q = 0) := @zeq q 0 (by omega) (by omega)
    by_cases hend : q ≠ 0 ∧ n = 6 * q + 3
    · have hf : fG ch n (6 * q + 3) = 6 * q + 3 := fG_b (fun x => by omega)
      refine ⟨1, nI q, R, ?_, fun _ _ => rfl, Or.inl ⟨⟨by omega, by omega, by omega⟩, rfl, by rw [show (n - 3) / 6 = q by omega], fun t a b => by omega⟩⟩
      have eq1 : p = e := by omega
      rw [hf, eX9_readPiece_79]
      simp only [eX9_readPiece_80, eX9_readPiece_83, eX9_readPiece_86, eX9_readPiece_87, eX9_readPiece_90, eX9_readPiece_92, eX9_readPiece_95, eX9_readPiece_96, eX9_readPiece_99, eX9_readPiece_100, eX9_readPiece_123, eX9_readPiece_124, eX9_readPiece_127, eX9_readPiece_128, eX9_readPiece_131, eX9_readPiece_132, eX9_readPiece_135, eX9_readPiece_136, Option.bind_some, Option.toList_some, Option.toList_none, List.cons_append, List.nil_append, G_o55, G_h55_2, G_r55_2, G_a56, G_l56, G_h55_3, G_r55_3, G_a57, G_l57, G_h55_4, G_r55_4, G_a58, G_l58, G_h55_7, G_r55_7, G_a59, G_l59, G_h55_8, G_r55_8, G_a60, G_l60, G_h55_9, G_r55_9, G_a61, G_l61, G_h55_10, G_r55_10, G_a62, G_l62, G_h55_11, G_r55_11, G_a63, G_l63, G_h55_29, G_r55_29, G_a69, G_l69, G_h55_30, G_r55_30, G_a70, G_l70, G_h55_15, G_r55_15, G_a64, G_l64, rd_my, rd_p, e0, eq_false hend.1, e6, if_false, eq1, Int32.le_refl, if_true, ne_eq, not_true_eq_false, zT_1]
      rw [← eq1, hp]
    · have pre : zX zCd (zGG L xs) d 102 79 [.ref 55, .int (nI e), .int tn, .int on] [] (rdM K (nI p) mn (nI q) R, J) = zX zCd (zGG L xs) d 102 103 [.ref 55, .int (nI e), .int tn, .int on] [] (rdM K (nI p) mn (nI q) R, J) := by
        rw [eX9_readPiece_79]
        by_cases q0 : q = 0
        · simp only [eX9_readPiece_80, eX9_readPiece_83, Option.bind_some, Option.toList_some, Option.toList_none, List.cons_append, List.nil_append, G_o55, G_h55_2, G_r55_2, G_a56, G_l56, G_h55_3, G_r55_3, G_a57, G_l57, G_h55_4, G_r55_4, G_a58, G_l58, G_h55_7, G_r55_7, G_a59, G_l59, G_h55_8, G_r55_8, G_a60, G_l60, G_h55_9, G_r55_9, G_a61, G_l61, G_h55_10, G_r55_10, G_a62, G_l62, G_h55_11, G_r55_11, G_a63, G_l63, G_h55_29, G_r55_29, G_a69, G_l69, G_h55_30, G_r55_30, G_a70, G_l70, G_h55_15, G_r55_15, G_a64, G_l64, rd_my, e0, eq_true q0, if_true]
        · have : (e ≤ p) = False := eq_false (by omega)
          simp only [eX9_readPiece_80, eX9_readPiece_83, eX9_readPiece_86, eX9_readPiece_87, eX9_readPiece_90, eX9_readPiece_92, eX9_readPiece_95, eX9_readPiece_96, eX9_readPiece_99, eX9_readPiece_100, Option.bind_some, Option.toList_some, Option.toList_none, List.cons_append, List.nil_append, G_o55, G_h55_2, G_r55_2, G_a56, G_l56, G_h55_3, G_r55_3, G_a57, G_l57, G_h55_4, G_r55_4, G_a58, G_l58, G_h55_7, G_r55_7, G_a59, G_l59, G_h55_8, G_r55_8, G_a60, G_l60, G_h55_9, G_r55_9, G_a61, G_l61, G_h55_10, G_r55_10, G_a62, G_l62, G_h55_11, G_r55_11, G_a63, G_l63, G_h55_29, G_r55_29, G_a69, G_l69, G_h55_30, G_r55_30, G_a70, G_l70, G_h55_15, G_r55_15, G_a64, G_l64, rd_my, rd_p, e0, eq_false q0, e6, el, this, if_false]
      rw [pre]
      have hgk : gK ch (6 * q + 3) ↔ ch (6 * q + 3) = 59 := by
        rw [gK_3 (by omega) (by omega), show (6 * q + 3 - 3) % 6 = 0 by omega, gP_0]
      have hcp : K 58 p = ch (6 * q + 3) := by rw [hp, hch]
      by_cases hg : 6 * q + 3 < n ∧ gK ch (6 * q + 3)
      · have sY := qsY (L := L) (xs := xs) (d := d) (J := J) (K := K) (p := p) (e := e) (mn := mn) (my := nI q) (c := 59) (R := R) (by omega) he (by rw [hcp]; exact hgk.mp hg.2)
        obtain ⟨R1, i1, i2⟩ := qrp (L := L) (xs := xs) (d := d) (J := J) (mn := mn) (R := R) (p := p + 1) hch hen he hq (by omega) (by omega)
        rw [fG_s hg.1 hg.2]
        rcases i2 with ⟨j1, j2, j3, j4, j5⟩ | ⟨j1, j2⟩
        · obtain ⟨b, my, R', k1, k2, k3⟩ := ih (q + 1) (fs + (6 * q + 9)) R1 (by omega) (by omega) (by omega)
          rw [show 6 * (q + 1) + 3 = 6 * q + 9 by omega, ← j1] at k1 k3
          refine ⟨b, my, R', ?_, fun i hi => by rw [k2 i (by omega), i1 i hi], ?_⟩
          · simp only [eX9_readPiece_103, eX9_readPiece_104, eX9_readPiece_105, eX9_readPiece_107, eX9_readPiece_110, eX9_readPiece_113, eX9_readPiece_114, eX9_readPiece_115, eX9_readPiece_118, Option.bind_some, Option.toList_some, Option.toList_none, List.cons_append, List.nil_append, G_o55, G_h55_2, G_r55_2, G_a56, G_l56, G_h55_3, G_r55_3, G_a57, G_l57, G_h55_4, G_r55_4, G_a58, G_l58, G_h55_7, G_r55_7, G_a59, G_l59, G_h55_8, G_r55_8, G_a60, G_l60, G_h55_9, G_r55_9, G_a61, G_l61, G_h55_10, G_r55_10, G_a62, G_l62, G_h55_11, G_r55_11, G_a63, G_l63, G_h55_29, G_r55_29, G_a69, G_l69, G_h55_30, G_r55_30, G_a70, G_l70, G_h55_15, G_r55_15, G_a64, G_l64, sY, j5, show ((1 : Int32) = 0) = False from by decide, show ((1 : Int32) ≠ 0) = True from by decide, if_true, if_false]
            exact k1
          · rcases k3 with ⟨a1, a2, a3, a4⟩ | a1
            · refine Or.inl ⟨a1, a2, a3, fun t x y => ?_⟩
              by_cases et : t = q
              · subst et
                exact ⟨by rw [k2 _ (by omega)]; exact j3, fun y u v => by rw [k2 _ (by omega)]; exact j4 y u v⟩
              · exact a4 t (by omega) y
            · exact Or.inr a1
        · refine ⟨0, nI q, R1, ?_, i1, Or.inr ⟨?_, rfl⟩⟩
          · simp only [eX9_readPiece_103, eX9_readPiece_104, eX9_readPiece_105, eX9_readPiece_107, eX9_readPiece_110, eX9_readPiece_113, eX9_readPiece_114, eX9_readPiece_115, eX9_readPiece_118, eX9_readPiece_121, eX9_readPiece_122, Option.bind_some, Option.toList_some, Option.toList_none, List.cons_append, List.nil_append, G_o55, G_h55_2, G_r55_2, G_a56, G_l56, G_h55_3, G_r55_3, G_a57, G_l57, G_h55_4, G_r55_4, G_a58, G_l58, G_h55_7, G_r55_7, G_a59, G_l59, G_h55_8, G_r55_8, G_a60, G_l60, G_h55_9, G_r55_9, G_a61, G_l61, G_h55_10, G_r55_10, G_a62, G_l62, G_h55_11, G_r55_11, G_a63, G_l63, G_h55_29, G_r55_29, G_a69, G_l69, G_h55_30, G_r55_30, G_a70, G_l70, G_h55_15, G_r55_15, G_a64, G_l64, sY, j2, show ((1 : Int32) = 0) = False from by decide, show ((0 : Int32) ≠ 0) = False from by decide, if_false, zT_0]
          · have := (fG_le (ch := ch) (n := n) (k := 6 * q + 4) (by omega)).1
            intro x
            obtain ⟨x1, x2, x3⟩ := x
            rw [show 6 * q + 3 + 1 = 6 * q + 4 by omega] at x1
            omega
      · have sN := qsN (L := L) (xs := xs) (d := d) (J := J) (K := K) (p := p) (e := e) (mn := mn) (my := nI q) (c := 59) (R := R) (by omega) he (by rw [hcp]; exact fun x => hg ⟨by omega, hgk.mpr x.2⟩)
        rw [fG_b hg]
        refine ⟨0, nI q, R, ?_, fun _ _ => rfl, Or.inr ⟨fun x => ?_, rfl⟩⟩
        · simp only [eX9_readPiece_103, eX9_readPiece_104, eX9_readPiece_105, eX9_readPiece_107, eX9_readPiece_110, eX9_readPiece_113, eX9_readPiece_114, eX9_readPiece_115, eX9_readPiece_118, eX9_readPiece_121, eX9_readPiece_122, Option.bind_some, Option.toList_some, Option.toList_none, List.cons_append, List.nil_append, G_o55, G_h55_2, G_r55_2, G_a56, G_l56, G_h55_3, G_r55_3, G_a57, G_l57, G_h55_4, G_r55_4, G_a58, G_l58, G_h55_7, G_r55_7, G_a59, G_l59, G_h55_8, G_r55_8, G_a60, G_l60, G_h55_9, G_r55_9, G_a61, G_l61, G_h55_10, G_r55_10, G_a62, G_l62, G_h55_11, G_r55_11, G_a63, G_l63, G_h55_29, G_r55_29, G_a69, G_l69, G_h55_30, G_r55_30, G_a70, G_l70, G_h55_15, G_r55_15, G_a64, G_l64, sN, if_true, zT_0]
          rw [hp]
        · obtain ⟨x1, x2, x3⟩ := x
          omega
set_option maxHeartbeats 1000000 in
theorem qrpc {K : Nat → Nat → Int32} {fs n e : Nat} {ch : Nat → Int32} {mn0 my0 : Int32} {R : Nat → Int32} (hch : ∀ k, K 58 (fs + k) = ch k) (hen : e = fs + n) (he : e ≤ 240) : ∃ (b mn my : Int32) (R' : Nat → Int32), zE zCd (zGG L xs) d 102 [.ref 55, .int (nI e)] (rdM K (nI fs) mn0 my0 R, J) = some (some (.int b), (rdM K (nI (fs + fG ch n 0)) mn my R', J)) ∧ ((fW (fG ch n 0) n ∧ b = 1 ∧ mn = 10 * (ch 1 - 48) + (ch 2 - 48) ∧ my = nI ((n - 3) / 6) ∧ ∀ t, t < (n - 3) / 6 → R' (5 * t) = kBy (ch (6 * t + 4)) ∧ ∀ y, 1 ≤ y → y < 5 → R' (5 * t + y) = ch (6 * t + 4 + y) - 48) ∨ (¬ fW (fG ch n 0) n ∧ b = 0)) := by
  have c0 : K 58 fs = ch 0 := hch 0
  by_cases h0 : 0 < n ∧ gK ch 0
  case neg =>
    rw [fG_b h0]
    have sN := qsN (L := L) (xs := xs) (d := d) (J := J) (K := K) (p := fs) (e := e) (mn := mn0) (my := 0) (c := 99) (R := R) (by omega) he (by rw [c0]; exact fun x => h0 ⟨by omega, gK_0.mpr x.2⟩)
    refine ⟨0, mn0, 0, R, ?_, Or.inr ⟨fun x => by unfold fW at x; omega, rfl⟩⟩
    simp only [nX9_readPiece, eX9_readPiece_0, eX9_readPiece_1, eX9_readPiece_2, eX9_readPiece_5, eX9_readPiece_6, eX9_readPiece_7, eX9_readPiece_9, eX9_readPiece_12, eX9_readPiece_15, eX9_readPiece_16, Option.bind_some, Option.toList_some, Option.toList_none, List.cons_append, List.nil_append, G_o55, G_h55_2, G_r55_2, G_a56, G_l56, G_h55_3, G_r55_3, G_a57, G_l57, G_h55_4, G_r55_4, G_a58, G_l58, G_h55_7, G_r55_7, G_a59, G_l59, G_h55_8, G_r55_8, G_a60, G_l60, G_h55_9, G_r55_9, G_a61, G_l61, G_h55_10, G_r55_10, G_a62, G_l62, G_h55_11, G_r55_11, G_a63, G_l63, G_h55_29, G_r55_29, G_a69, G_l69, G_h55_30, G_r55_30, G_a70, G_l70, G_h55_15, G_r55_15, G_a64, G_l64, rd_uy, sN, show ((0 : Int32) ≠ 0) = False from by decide, if_false, zT_0, Nat.add_zero]
  have sY := qsY (L := L) (xs := xs) (d := d) (J := J) (K := K) (p := fs) (e := e) (mn := mn0) (my := 0) (c := 99) (R := R) (by omega) he (by rw [c0]; exact gK_0.mp h0.2)
  rw [fG_s h0.1 h0.2]
  have c1 : K 58 (fs + 1) = ch 1 := hch 1
  by_cases h1 : 1 < n ∧ gK ch 1
  case neg =>
    rw [fG_b h1]
    have dN := qdN (L := L) (xs := xs) (d := d) (J := J) (K := K) (p := fs + 1) (e := e) (mn := mn0) (my := 0) (lo := 0) (hi := 6) (R := R) (by omega) he (by rw [c1]; exact fun x => h1 ⟨by omega, gK_1.mpr x.2⟩)
    refine ⟨0, mn0, 0, R, ?_, Or.inr ⟨fun x => by unfold fW at x; omega, rfl⟩⟩
    simp only [nX9_readPiece, eX9_readPiece_0, eX9_readPiece_1, eX9_readPiece_2, eX9_readPiece_5, eX9_readPiece_6, eX9_readPiece_7, eX9_readPiece_9, eX9_readPiece_12, eX9_readPiece_15, eX9_readPiece_16, eX9_readPiece_17, eX9_readPiece_18, eX9_readPiece_19, eX9_readPiece_20, eX9_readPiece_22, eX9_readPiece_25, eX9_readPiece_26, eX9_readPiece_27, eX9_readPiece_29, eX9_readPiece_32, eX9_readPiece_33, Option.bind_some, Option.toList_some, Option.toList_none, List.cons_append, List.nil_append, G_o55, G_h55_2, G_r55_2, G_a56, G_l56, G_h55_3, G_r55_3, G_a57, G_l57, G_h55_4, G_r55_4, G_a58, G_l58, G_h55_7, G_r55_7, G_a59, G_l59, G_h55_8, G_r55_8, G_a60, G_l60, G_h55_9, G_r55_9, G_a61, G_l61, G_h55_10, G_r55_10, G_a62, G_l62, G_h55_11, G_r55_11, G_a63, G_l63, G_h55_29, G_r55_29, G_a69, G_l69, G_h55_30, G_r55_30, G_a70, G_l70, G_h55_15, G_r55_15, G_a64, G_l64, rd_uy, sY, show ((1 : Int32) ≠ 0) = True from by decide, if_true, dN, ne_eq, not_true_eq_false, if_false, zT_0]
  have g1 := gK_1.mp h1.2
  have dY := qdY (L := L) (xs := xs) (d := d) (J := J) (K := K) (p := fs + 1) (e := e) (mn := mn0) (my := 0) (lo := 0) (hi := 6) (R := R) (by omega) he (by rw [c1]; exact g1)
  rw [fG_s h1.1 h1.2]
  rw [c1] at dY
  have t9 : (ch 1 - 48 = -9) = False := eq_false (by grind)
  have tr : 0 ≤ ch 1 - 48 ∧ ch 1 - 48 ≤ 6 := by grind
  have c2 : K 58 (fs + 1 + 1) = ch 2 := hch 2
  have en := en_iff (t := ch 1 - 48) (c := ch 2) tr
  generalize ht : ch 1 - 48 = t at dY t9 tr en
  have g2 : gK ch 2 ↔ (48 + (if t = 0 then 5 else 0) ≤ ch 2 ∧ ch 2 ≤ 48 + (if t = 6 then 0 else 9)) := by rw [gK_2, ht]; exact en
  have pre : zE zCd (zGG L xs) d 102 [.ref 55, .int (nI e)] (rdM K (nI fs) mn0 my0 R, J) = (zE zCd (zGG L xs) d 99 [.ref 55, .int (nI e), .int (if t = 0 then 5 else 0), .int (if t = 6 then 0 else 9)] (rdM K (nI (fs + 1 + 1)) mn0 0 R, J)).bind (fun q => zX zCd (zGG L xs) d 102 60 [.ref 55, .int (nI e), .int t, .null] (q.1.toList ++ []) q.2) := by
    by_cases t0 : t = 0
    · have t6 : ¬ t = 6 := by rw [t0]; decide
      simp only [nX9_readPiece, eX9_readPiece_0, eX9_readPiece_1, eX9_readPiece_2, eX9_readPiece_5, eX9_readPiece_6, eX9_readPiece_7, eX9_readPiece_9, eX9_readPiece_12, eX9_readPiece_15, eX9_readPiece_16, eX9_readPiece_17, eX9_readPiece_18, eX9_readPiece_19, eX9_readPiece_20, eX9_readPiece_22, eX9_readPiece_25, eX9_readPiece_26, eX9_readPiece_27, eX9_readPiece_29, eX9_readPiece_32, eX9_readPiece_33, eX9_readPiece_34, eX9_readPiece_35, eX9_readPiece_36, eX9_readPiece_37, eX9_readPiece_40, eX9_readPiece_41, eX9_readPiece_44, eX9_readPiece_45, eX9_readPiece_46, eX9_readPiece_48, eX9_readPiece_51, eX9_readPiece_52, eX9_readPiece_55, eX9_readPiece_57, Option.bind_some, Option.toList_some, Option.toList_none, List.cons_append, List.nil_append, G_o55, G_h55_2, G_r55_2, G_a56, G_l56, G_h55_3, G_r55_3, G_a57, G_l57, G_h55_4, G_r55_4, G_a58, G_l58, G_h55_7, G_r55_7, G_a59, G_l59, G_h55_8, G_r55_8, G_a60, G_l60, G_h55_9, G_r55_9, G_a61, G_l61, G_h55_10, G_r55_10, G_a62, G_l62, G_h55_11, G_r55_11, G_a63, G_l63, G_h55_29, G_r55_29, G_a69, G_l69, G_h55_30, G_r55_30, G_a70, G_l70, G_h55_15, G_r55_15, G_a64, G_l64, rd_uy, sY, show ((1 : Int32) ≠ 0) = True from by decide, if_true, dY, t9, ne_eq, not_false_eq_true, eq_true t0, eq_false t6, not_true_eq_false, if_false]
    · by_cases t6 : t = 6
      · simp only [nX9_readPiece, eX9_readPiece_0, eX9_readPiece_1, eX9_readPiece_2, eX9_readPiece_5, eX9_readPiece_6, eX9_readPiece_7, eX9_readPiece_9, eX9_readPiece_12, eX9_readPiece_15, eX9_readPiece_16, eX9_readPiece_17, eX9_readPiece_18, eX9_readPiece_19, eX9_readPiece_20, eX9_readPiece_22, eX9_readPiece_25, eX9_readPiece_26, eX9_readPiece_27, eX9_readPiece_29, eX9_readPiece_32, eX9_readPiece_33, eX9_readPiece_34, eX9_readPiece_35, eX9_readPiece_36, eX9_readPiece_37, eX9_readPiece_40, eX9_readPiece_41, eX9_readPiece_44, eX9_readPiece_45, eX9_readPiece_46, eX9_readPiece_48, eX9_readPiece_51, eX9_readPiece_52, eX9_readPiece_55, eX9_readPiece_57, Option.bind_some, Option.toList_some, Option.toList_none, List.cons_append, List.nil_append, G_o55, G_h55_2, G_r55_2, G_a56, G_l56, G_h55_3, G_r55_3, G_a57, G_l57, G_h55_4, G_r55_4, G_a58, G_l58, G_h55_7, G_r55_7, G_a59, G_l59, G_h55_8, G_r55_8, G_a60, G_l60, G_h55_9, G_r55_9, G_a61, G_l61, G_h55_10, G_r55_10, G_a62, G_l62, G_h55_11, G_r55_11, G_a63, G_l63, G_h55_29, G_r55_29, G_a69, G_l69, G_h55_30, G_r55_30, G_a70, G_l70, G_h55_15, G_r55_15, G_a64, G_l64, rd_uy, sY, show ((1 : Int32) ≠ 0) = True from by decide, if_true, dY, t9, ne_eq, not_false_eq_true, eq_false t0, eq_true t6, not_true_eq_false, if_false]
      · simp only [nX9_readPiece, eX9_readPiece_0, eX9_readPiece_1, eX9_readPiece_2, eX9_readPiece_5, eX9_readPiece_6, eX9_readPiece_7, eX9_readPiece_9, eX9_readPiece_12, eX9_readPiece_15, eX9_readPiece_16, eX9_readPiece_17, eX9_readPiece_18, eX9_readPiece_19, eX9_readPiece_20, eX9_readPiece_22, eX9_readPiece_25, eX9_readPiece_26, eX9_readPiece_27, eX9_readPiece_29, eX9_readPiece_32, eX9_readPiece_33, eX9_readPiece_34, eX9_readPiece_35, eX9_readPiece_36, eX9_readPiece_37, eX9_readPiece_40, eX9_readPiece_41, eX9_readPiece_44, eX9_readPiece_45, eX9_readPiece_46, eX9_readPiece_48, eX9_readPiece_51, eX9_readPiece_52, eX9_readPiece_55, eX9_readPiece_57, Option.bind_some, Option.toList_some, Option.toList_none, List.cons_append, List.nil_append, G_o55, G_h55_2, G_r55_2, G_a56, G_l56, G_h55_3, G_r55_3, G_a57, G_l57, G_h55_4, G_r55_4, G_a58, G_l58, G_h55_7, G_r55_7, G_a59, G_l59, G_h55_8, G_r55_8, G_a60, G_l60, G_h55_9, G_r55_9, G_a61, G_l61, G_h55_10, G_r55_10, G_a62, G_l62, G_h55_11, G_r55_11, G_a63, G_l63, G_h55_29, G_r55_29, G_a69, G_l69, G_h55_30, G_r55_30, G_a70, G_l70, G_h55_15, G_r55_15, G_a64, G_l64, rd_uy, sY, show ((1 : Int32) ≠ 0) = True from by decide, if_true, dY, t9, ne_eq, not_false_eq_true, eq_false t0, eq_false t6, not_true_eq_false, if_false]
  rw [pre]
  by_cases h2 : 2 < n ∧ gK ch 2
  case neg =>
    rw [fG_b h2]
    have dN := qdN (L := L) (xs := xs) (d := d) (J := J) (K := K) (p := fs + 1 + 1) (e := e) (mn := mn0) (my := 0) (lo := if t = 0 then 5 else 0) (hi := if t = 6 then 0 else 9) (R := R) (by omega) he (by rw [c2]; exact fun x => h2 ⟨by omega, g2.mpr x.2⟩)
    refine ⟨0, mn0, 0, R, ?_, Or.inr ⟨fun x => by unfold fW at x; omega, rfl⟩⟩
    simp only [dN, eX9_readPiece_60, eX9_readPiece_61, eX9_readPiece_62, eX9_readPiece_64, eX9_readPiece_67, eX9_readPiece_68, Option.bind_some, Option.toList_some, Option.toList_none, List.cons_append, List.nil_append, ne_eq, not_true_eq_false, if_false, zT_0]
  have dY2 := qdY (L := L) (xs := xs) (d := d) (J := J) (K := K) (p := fs + 1 + 1) (e := e) (mn := mn0) (my := 0) (lo := if t = 0 then 5 else 0) (hi := if t = 6 then 0 else 9) (R := R) (by omega) he (by rw [c2]; exact g2.mp h2.2)
  rw [c2] at dY2
  rw [fG_s h2.1 h2.2]
  have g2c := (gK_2.mp h2.2).1
  have o9 : (ch 2 - 48 = -9) = False := eq_false (by grind)
  obtain ⟨b, my, R', k1, -, k3⟩ := lp_rpc (L := L) (xs := xs) (d := d) (J := J) (K := K) (mn := 10 * t + (ch 2 - 48)) (tn := t) (on := ch 2 - 48) hch hen he 6 0 (fs + 1 + 1 + 1) R (by omega) (by omega) (by omega)
  refine ⟨b, 10 * t + (ch 2 - 48), my, R', ?_, ?_⟩
  · simp only [dY2, eX9_readPiece_60, eX9_readPiece_61, eX9_readPiece_62, eX9_readPiece_64, eX9_readPiece_67, eX9_readPiece_68, eX9_readPiece_69, eX9_readPiece_70, eX9_readPiece_72, eX9_readPiece_73, eX9_readPiece_74, eX9_readPiece_75, eX9_readPiece_76, Option.bind_some, Option.toList_some, Option.toList_none, List.cons_append, List.nil_append, G_o55, G_h55_2, G_r55_2, G_a56, G_l56, G_h55_3, G_r55_3, G_a57, G_l57, G_h55_4, G_r55_4, G_a58, G_l58, G_h55_7, G_r55_7, G_a59, G_l59, G_h55_8, G_r55_8, G_a60, G_l60, G_h55_9, G_r55_9, G_a61, G_l61, G_h55_10, G_r55_10, G_a62, G_l62, G_h55_11, G_r55_11, G_a63, G_l63, G_h55_29, G_r55_29, G_a69, G_l69, G_h55_30, G_r55_30, G_a70, G_l70, G_h55_15, G_r55_15, G_a64, G_l64, o9, ne_eq, not_false_eq_true, if_true, rd_un]
    exact k1
  · rcases k3 with ⟨a1, a2, a3, a4⟩ | a1
    · exact Or.inl ⟨a1, a2, rfl, a3, fun t x => a4 t (by omega) x⟩
    · exact Or.inr a1

end S
