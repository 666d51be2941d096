def kst (f x : Int32) (b : Bool) : Int32 := f ||| if b = true then 1 <<< (x &&& 31) else 0
def kfit (a b c : Bool) : Int32 := kst (kst (kst 0 0 a) 1 b) 2 c
section S
variable {L : Nat} {xs : Nat → Int32} {d : Nat} {J : Nat → Nat → Int64}
set_option maxHeartbeats 1000000 in
theorem kf_c {I : Nat → Nat → Int32} {N m C i : Nat} {st : Nat → Nat} {u : Int32} {P : zPs} (hN : I 10 2 = nI N) (h1 : N ≤ 6) (hi : i < N) (hn : I 21 1 = nI m) (hm : m ≤ 20) (hst : ∀ k, k < m → I 22 k = nI (st k) ∧ pOk N (st k)) (hC : I 12 2 = nI C) (hC8 : C ≤ 8) (ha : ∀ q, q < C → zIv (I 13 q) 6) : ∃ (M0 M1 M2 : Nat → Nat → Int32) (P2 : zPs) (u2 : Int32), (∀ k, k < 6 → M0 (k + 15) 1 = I (k + 15) 1 ∧ M1 (k + 15) 1 = I (k + 15) 1 ∧ M2 (k + 15) 1 = I (k + 15) 1) ∧ zE zCd (zGG L xs) d 83 [.ref 0, .ref (i + 15)] (zsW I P u, J) = some (some (.int (kfit (pSo (cPl N (I 10 3) (fK (cF I) i 0) st (-9) 0 m (cBg 23 (M0)) (-9)).2.1.1 (I 13) (I 14) 0 C) (pSo (cPl N (I 10 3) (fK (cF I) i 1) st (-9) 0 m (cBg 23 (M1)) (-9)).2.1.1 (I 13) (I 14) 0 C) (pSo (cPl N (I 10 3) (fK (cF I) i 2) st (-9) 0 m (cBg 23 (M2)) (-9)).2.1.1 (I 13) (I 14) 0 C))), (zsW I P2 u2, J)) := by
  have c0 := it_c (L := L) (xs := xs) (d := d) (J := J) (I := I) (N := N) (m := m) (C := C) (i := i) (st := st) (own := I (i + 15) 0) (fit := 0) (x := 0) (y := I (i + 15) 0) (P := P) (u := u) hN h1 hi hn hm hst hC hC8 ha (eq_false (by decide +kernel))
  rw [show (0 : Int32) + 1 = 1 from by decide +kernel] at c0
  generalize hA0 : (cPl N (I 10 3) (fK (cF I) i 0) st (-9) 0 m (cBg 23 (zsW (zU I (i + 15) 0 0) P u)) (-9)) = A0 at c0
  rw [show ((0 : Int32) ||| if pSo A0.2.1.1 (I 13) (I 14) 0 C = true then (1 : Int32) <<< ((0 : Int32) &&& 31) else 0) = kst 0 0 (pSo A0.2.1.1 (I 13) (I 14) 0 C) from rfl] at c0
  generalize hf0 : kst 0 0 (pSo A0.2.1.1 (I 13) (I 14) 0 C) = f0 at c0
  have c1 := it_c (L := L) (xs := xs) (d := d) (J := J) (I := I) (N := N) (m := m) (C := C) (i := i) (st := st) (own := I (i + 15) 0) (fit := f0) (x := 1) (y := 0) (P := A0.2.1) (u := A0.2.2) hN h1 hi hn hm hst hC hC8 ha (eq_false (by decide +kernel))
  rw [show (1 : Int32) + 1 = 2 from by decide +kernel] at c1
  generalize hA1 : (cPl N (I 10 3) (fK (cF I) i 1) st (-9) 0 m (cBg 23 (zsW (zU I (i + 15) 0 1) A0.2.1 A0.2.2)) (-9)) = A1 at c1
  rw [show ((f0 : Int32) ||| if pSo A1.2.1.1 (I 13) (I 14) 0 C = true then (1 : Int32) <<< ((1 : Int32) &&& 31) else 0) = kst f0 1 (pSo A1.2.1.1 (I 13) (I 14) 0 C) from rfl] at c1
  generalize hf1 : kst f0 1 (pSo A1.2.1.1 (I 13) (I 14) 0 C) = f1 at c1
  have c2 := it_c (L := L) (xs := xs) (d := d) (J := J) (I := I) (N := N) (m := m) (C := C) (i := i) (st := st) (own := I (i + 15) 0) (fit := f1) (x := 2) (y := 1) (P := A1.2.1) (u := A1.2.2) hN h1 hi hn hm hst hC hC8 ha (eq_false (by decide +kernel))
  rw [show (2 : Int32) + 1 = 3 from by decide +kernel] at c2
  generalize hA2 : (cPl N (I 10 3) (fK (cF I) i 2) st (-9) 0 m (cBg 23 (zsW (zU I (i + 15) 0 2) A1.2.1 A1.2.2)) (-9)) = A2 at c2
  rw [show ((f1 : Int32) ||| if pSo A2.2.1.1 (I 13) (I 14) 0 C = true then (1 : Int32) <<< ((2 : Int32) &&& 31) else 0) = kst f1 2 (pSo A2.2.1.1 (I 13) (I 14) 0 C) from rfl] at c2
  generalize hf2 : kst f1 2 (pSo A2.2.1.1 (I 13) (I 14) 0 C) = f2 at c2
  have eA : ∀ (x : Int32) (P : zPs) (u : Int32) k, k < 6 → zsW (zU I (i + 15) 0 x) P u (k + 15) 1 = I (k + 15) 1 := fun x P u k hk => by
    rw [zsW_lo _ _ _ (by omega), zU_app, if_neg (by omega)]
  refine ⟨zsW (zU I (i + 15) 0 0) P u, zsW (zU I (i + 15) 0 1) A0.2.1 A0.2.2, zsW (zU I (i + 15) 0 2) A1.2.1 A1.2.2, A2.2.1, A2.2.2, fun k hk => ⟨eA _ _ _ k hk, eA _ _ _ k hk, eA _ _ _ k hk⟩, ?_⟩
  rw [hA0, hA1, hA2]
  have e2 : kfit (pSo A0.2.1.1 (I 13) (I 14) 0 C) (pSo A1.2.1.1 (I 13) (I 14) 0 C) (pSo A2.2.1.1 (I 13) (I 14) 0 C) = f2 := by
    unfold kfit
    rw [hf0, hf1, hf2]
  rw [e2]
  have o1 : zsW I P u (i + 15) 0 = I (i + 15) 0 := by rw [zsW_lo _ _ _ (by omega)]
  have pre : zE zCd (zGG L xs) d 83 [.ref 0, .ref (i + 15)] (zsW I P u, J) = zX zCd (zGG L xs) d 83 10 [.ref 0, .ref (i + 15), .int (I (i + 15) 0), .int 0, .int 0] [] (zsW (zU I (i + 15) 0 (I (i + 15) 0)) P u, J) := by
    simp only [nX8_kindsThatFit, eX8_kindsThatFit_0, eX8_kindsThatFit_1, eX8_kindsThatFit_4, eX8_kindsThatFit_5, eX8_kindsThatFit_6, eX8_kindsThatFit_7, eX8_kindsThatFit_8, G_pl_o (show i < 6 by omega), o1, zU_same]
  rw [pre, c0, c1, c2, eX8_kindsThatFit_10]
  simp only [eX8_kindsThatFit_12, eX8_kindsThatFit_13, eX8_kindsThatFit_70, eX8_kindsThatFit_71, eX8_kindsThatFit_72, eX8_kindsThatFit_75, eX8_kindsThatFit_76, show ((2 : Int32) < 3) = True from eq_true (by decide +kernel), if_true, G_pl_o (show i < 6 by omega)]
  rw [zsW_U _ _ _ _ _ (by omega), zU_uu, zU_same]
set_option maxHeartbeats 1000000 in
theorem kf_m {K : Nat → Nat → Int32} {N m C i : Nat} {st : Nat → Nat} {a2 a3 a4 a5 a6 a7 z : Int32} {Q : zPs} (hN : K 55 6 = nI N) (h1 : N ≤ 6) (hi : i < N) (hn : K 55 23 = nI m) (hm : m ≤ 20) (hf : K 55 22 = 0) (hst : ∀ k, k < m → K 68 k = nI (st k) ∧ pOk N (st k)) (hC : K 55 28 = nI C) (hC8 : C ≤ 8) (ha : ∀ q, q < C → zIv (K 69 q) 6) : ∃ (M0 M1 M2 : Nat → Nat → Int32) (z0 z1 z2 z3 : Int32) (Q2 : zPs), (M0 60 = K 60 ∧ M1 60 = K 60 ∧ M2 60 = K 60) ∧ zX zCd (zGG L xs) d 141 89 [.ref 55, .int (nI i), .int a2, .int a3, .int a4, .int a5, .int a6, .int a7, .int (K 59 i), .int 0, .int 0] [] (zsM K Q z, J) = some (some (.int (kfit (pSo (mPl N (K 55 5) (fK (mF K) i 0) st (-9) 0 0 m (mBg N (M0)) (z0)).2.1.1 (K 69) (K 70) 0 C) (pSo (mPl N (K 55 5) (fK (mF K) i 1) st (-9) 0 0 m (mBg N (M1)) (z1)).2.1.1 (K 69) (K 70) 0 C) (pSo (mPl N (K 55 5) (fK (mF K) i 2) st (-9) 0 0 m (mBg N (M2)) (z2)).2.1.1 (K 69) (K 70) 0 C))), (zsM K Q2 z3, J)) := by
  have c0 := it_m (L := L) (xs := xs) (d := d) (J := J) (K := K) (N := N) (m := m) (C := C) (i := i) (st := st) (a2 := a2) (a3 := a3) (a4 := a4) (a5 := a5) (a6 := a6) (a7 := a7) (own := K 59 i) (fit := 0) (x := 0) (y := K 59 i) (Q := Q) (z := z) hN h1 hi hn hm hf hst hC hC8 ha (eq_false (by decide +kernel))
  rw [show (0 : Int32) + 1 = 1 from by decide +kernel] at c0
  generalize hA0 : (mPl N (K 55 5) (fK (mF K) i 0) st (-9) 0 0 m (mBg N (zsM (zU K 59 i 0) Q z)) (z)) = A0 at c0
  rw [show ((0 : Int32) ||| if pSo A0.2.1.1 (K 69) (K 70) 0 C = true then (1 : Int32) <<< ((0 : Int32) &&& 31) else 0) = kst 0 0 (pSo A0.2.1.1 (K 69) (K 70) 0 C) from rfl] at c0
  generalize hf0 : kst 0 0 (pSo A0.2.1.1 (K 69) (K 70) 0 C) = f0 at c0
  have c1 := it_m (L := L) (xs := xs) (d := d) (J := J) (K := K) (N := N) (m := m) (C := C) (i := i) (st := st) (a2 := a2) (a3 := a3) (a4 := a4) (a5 := a5) (a6 := a6) (a7 := a7) (own := K 59 i) (fit := f0) (x := 1) (y := 0) (Q := A0.2.1) (z := A0.2.2) hN h1 hi hn hm hf hst hC hC8 ha (eq_false (by decide +kernel))
  rw [show (1 : Int32) + 1 = 2 from by decide +kernel] at c1
  generalize hA1 : (mPl N (K 55 5) (fK (mF K) i 1) st (-9) 0 0 m (mBg N (zsM (zU K 59 i 1) A0.2.1 A0.2.2)) (A0.2.2)) = A1 at c1
  rw [show ((f0 : Int32) ||| if pSo A1.2.1.1 (K 69) (K 70) 0 C = true then (1 : Int32) <<< ((1 : Int32) &&& 31) else 0) = kst f0 1 (pSo A1.2.1.1 (K 69) (K 70) 0 C) from rfl] at c1
  generalize hf1 : kst f0 1 (pSo A1.2.1.1 (K 69) (K 70) 0 C) = f1 at c1
  have c2 := it_m (L := L) (xs := xs) (d := d) (J := J) (K := K) (N := N) (m := m) (C := C) (i := i) (st := st) (a2 := a2) (a3 := a3) (a4 := a4) (a5 := a5) (a6 := a6) (a7 := a7) (own := K 59 i) (fit := f1) (x := 2) (y := 1) (Q := A1.2.1) (z := A1.2.2) hN h1 hi hn hm hf hst hC hC8 ha (eq_false (by decide +kernel))
  rw [show (2 : Int32) + 1 = 3 from by decide +kernel] at c2
  generalize hA2 : (mPl N (K 55 5) (fK (mF K) i 2) st (-9) 0 0 m (mBg N (zsM (zU K 59 i 2) A1.2.1 A1.2.2)) (A1.2.2)) = A2 at c2
  rw [show ((f1 : Int32) ||| if pSo A2.2.1.1 (K 69) (K 70) 0 C = true then (1 : Int32) <<< ((2 : Int32) &&& 31) else 0) = kst f1 2 (pSo A2.2.1.1 (K 69) (K 70) 0 C) from rfl] at c2
  generalize hf2 : kst f1 2 (pSo A2.2.1.1 (K 69) (K 70) 0 C) = f2 at c2
  have eB : ∀ (x : Int32) (P : zPs) (u : Int32), zsM (zU K 59 i x) P u 60 = K 60 := fun x P u => by
    rw [zsM_ne _ _ _ (by decide) (by decide) (by decide) (by decide), zU_ne _ _ _ (by decide)]
  refine ⟨zsM (zU K 59 i 0) Q z, zsM (zU K 59 i 1) A0.2.1 A0.2.2, zsM (zU K 59 i 2) A1.2.1 A1.2.2, z, A0.2.2, A1.2.2, A2.2.2, A2.2.1, ⟨eB _ _ _, eB _ _ _, eB _ _ _⟩, ?_⟩
  rw [hA0, hA1, hA2]
  have e2 : kfit (pSo A0.2.1.1 (K 69) (K 70) 0 C) (pSo A1.2.1.1 (K 69) (K 70) 0 C) (pSo A2.2.1.1 (K 69) (K 70) 0 C) = f2 := by
    unfold kfit
    rw [hf0, hf1, hf2]
  rw [e2]
  rw [zU_same] at c0
  rw [c0, c1, c2, eX9_kinds_89]
  simp only [eX9_kinds_91, eX9_kinds_92, eX9_kinds_136, eX9_kinds_137, eX9_kinds_140, eX9_kinds_141, eX9_kinds_143, eX9_kinds_144, eX9_kinds_146, G_o55, G_h55_7, G_r55_7, G_a59, G_l59, zIn_6 (show i < 6 by omega), zc_n (show i ≤ 1000 by omega), Int32.le_refl, if_true]
  rw [zsM_U _ _ _ _ _ (by decide), zU_uu, zU_same]

set_option maxHeartbeats 1000000 in
theorem op_kinds {I : Nat → Nat → Int32} (hI : zInv I) (k sh v i n : Int32) : zOp L xs d 63 141 [.int k, .int sh, .int v, .int i, .int n] I J := by
  obtain ⟨-, -, -, -, -, N, ⟨n1, n2, n3, -, -, -⟩, C, r1, r2, r3, -, r5⟩ := id hI
  by_cases hp : 0 ≤ k ∧ k < nI N
  case neg =>
    have hf1 : ∀ c, c ≠ 0 → c ≠ 21 → c ≠ 22 → zU I 0 6 0 c = I c := fun c a _ _ => zU_ne _ _ _ a
    refine ⟨(-1), zU I 0 6 0, zU (zU I 0 6 0) 55 0 0, J, J, ?_, ?_, inv_fl hI hf1 (zU_k _ _ _ (by decide)) (zU_at _ _ _ _)⟩
    · have e : zU I 0 6 0 10 2 = nI N := by rw [zU_ne _ _ _ (by decide)]; exact n2
      simp only [nX8_kinds, eX8_kinds_0, eX8_kinds_1, eX8_kinds_2, eX8_kinds_5, eX8_kinds_6, eX8_kinds_9, eX8_kinds_10, eX8_kinds_13, eX8_kinds_16, eX8_kinds_17, Option.bind_some, Option.toList_some, Option.toList_none, List.cons_append, List.nil_append, G_o0, G_h0_1, G_r0_1, G_o10, qX0_hasPlace, e, eq_false hp, zb_1, if_false]
    · have e : zU (zU I 0 6 0) 55 0 0 55 6 = nI N := by rw [zU_k _ _ _ (by decide), zU_ne _ _ _ (by decide)]; exact n3
      simp only [nX9_kinds, eX9_kinds_0, eX9_kinds_1, eX9_kinds_2, eX9_kinds_5, eX9_kinds_6, eX9_kinds_7, eX9_kinds_10, eX9_kinds_13, eX9_kinds_14, eX9_kinds_17, eX9_kinds_20, eX9_kinds_21, Option.bind_some, Option.toList_some, Option.toList_none, List.cons_append, List.nil_append, G_o55, qX9_isPlace, e, eq_false hp, zb_0, not_false_eq_true, if_true]
  obtain ⟨kk, hkk, rfl⟩ := zIdx hp.1 hp.2 (by omega)
  have hpt := eq_true hp
  obtain ⟨code, I1, ht0, hfr, h05, hcs⟩ := take_cases (L := L) (xs := xs) (d := d) (J := J) hI sh v i n true
  simp only [if_true] at ht0
  have hpc : (0 ≤ nI kk ∧ nI kk < zU I 0 6 0 10 2) = True := by
    rw [zU_ne _ _ _ (by decide), n2]; exact hpt
  have ht : zE zCd (zGG L xs) d 82 [.ref 0, .int sh, .int v, .int i, .int n, .int 1] (zU I 0 6 0, J) = some (some (.int code), (I1, J)) := by
    rw [← ht0]
    simp only [nX8_takePlan, eX8_takePlan_0, eX8_takePlan_1, eX8_takePlan_2, G_o0, zU_uu]
  rcases hcs with ⟨hsh, rfl, hf⟩ | ⟨hsh, hfl, rfl, hf⟩ | ⟨hsh, ⟨hv, hn, hok⟩, hcd, hly⟩ | ⟨hsh, ⟨hv, hn, hok⟩, rfl, hf, N', m, st, row, ⟨hN0, hN6, hN⟩, ⟨rfl, hm⟩, hI1n, hst, hly⟩
  · refine ⟨(-1), I1, zU I1 55 0 0, J, J, ?_, ?_, inv_fl hI hfr h05 hf⟩
    · simp only [nX8_kinds, eX8_kinds_0, eX8_kinds_1, eX8_kinds_2, eX8_kinds_5, eX8_kinds_6, eX8_kinds_9, eX8_kinds_10, eX8_kinds_13, eX8_kinds_16, eX8_kinds_17, eX8_kinds_18, eX8_kinds_19, eX8_kinds_20, eX8_kinds_21, eX8_kinds_23, eX8_kinds_25, eX8_kinds_26, eX8_kinds_29, eX8_kinds_31, eX8_kinds_33, eX8_kinds_36, eX8_kinds_38, Option.bind_some, Option.toList_some, Option.toList_none, List.cons_append, List.nil_append, G_o0, G_h0_1, G_r0_1, G_h0_2, G_r0_2, G_h0_3, G_r0_3, G_o10, G_o23, qX0_hasPlace, hpc, zb_1, if_true, ht, show ((-1 : Int32) = 0) = False from by decide, if_false]
    · have hpm : (0 ≤ nI kk ∧ nI kk < zU I1 55 0 0 55 6) = True := by
        rw [zU_k _ _ _ (by decide), hfr 55 (by decide) (by decide) (by decide), n3]; exact hpt
      simp only [nX9_kinds, eX9_kinds_0, eX9_kinds_1, eX9_kinds_2, eX9_kinds_5, eX9_kinds_6, eX9_kinds_7, eX9_kinds_10, eX9_kinds_13, eX9_kinds_14, eX9_kinds_17, eX9_kinds_20, eX9_kinds_21, Option.bind_some, Option.toList_some, Option.toList_none, List.cons_append, List.nil_append, G_o55, qX9_isPlace, hpm, qX9_isSheet, zb_1, zb_0, ← sh_iff, hsh, not_true_eq_false, if_false]
  · have hsh3 := sh_iff.mp hsh
    have hvn : ¬ ((0 ≤ v ∧ v ≤ 2) ∧ 0 ≤ n ∧ n ≤ 20) := fun x => hfl ⟨x.1, x.2, rfl⟩
    refine ⟨(-2), I1, zU I1 55 0 0, J, J, ?_, ?_, inv_fl hI hfr h05 hf⟩
    · simp only [nX8_kinds, eX8_kinds_0, eX8_kinds_1, eX8_kinds_2, eX8_kinds_5, eX8_kinds_6, eX8_kinds_9, eX8_kinds_10, eX8_kinds_13, eX8_kinds_16, eX8_kinds_17, eX8_kinds_18, eX8_kinds_19, eX8_kinds_20, eX8_kinds_21, eX8_kinds_23, eX8_kinds_25, eX8_kinds_26, eX8_kinds_29, eX8_kinds_31, eX8_kinds_33, eX8_kinds_36, eX8_kinds_38, Option.bind_some, Option.toList_some, Option.toList_none, List.cons_append, List.nil_append, G_o0, G_h0_1, G_r0_1, G_h0_2, G_r0_2, G_h0_3, G_r0_3, G_o10, G_o23, qX0_hasPlace, hpc, zb_1, if_true, ht, show ((-2 : Int32) = 0) = False from by decide, if_false]
    · have hpm : (0 ≤ nI kk ∧ nI kk < zU I1 55 0 0 55 6) = True := by
        rw [zU_k _ _ _ (by decide), hfr 55 (by decide) (by decide) (by decide), n3]; exact hpt
      simp only [nX9_kinds, eX9_kinds_0, eX9_kinds_1, eX9_kinds_2, eX9_kinds_5, eX9_kinds_6, eX9_kinds_7, eX9_kinds_10, eX9_kinds_13, eX9_kinds_14, eX9_kinds_17, eX9_kinds_20, eX9_kinds_21, eX9_kinds_22, eX9_kinds_23, eX9_kinds_25, eX9_kinds_28, eX9_kinds_31, eX9_kinds_33, Option.bind_some, Option.toList_some, Option.toList_none, List.cons_append, List.nil_append, G_o55, qX9_isPlace, hpm, qX9_isSheet, qX9_isPlan, zb_1, zb_0, hsh3, and_self, if_true, eq_false hvn, not_true_eq_false, if_false]
  · have hsh3 := sh_iff.mp hsh
    refine ⟨code, I1, zU I1 55 0 (I1 0 6), J, J, ?_, ?_, inv_fl hI hfr h05 rfl⟩
    · simp only [nX8_kinds, eX8_kinds_0, eX8_kinds_1, eX8_kinds_2, eX8_kinds_5, eX8_kinds_6, eX8_kinds_9, eX8_kinds_10, eX8_kinds_13, eX8_kinds_16, eX8_kinds_17, eX8_kinds_18, eX8_kinds_19, eX8_kinds_20, eX8_kinds_21, eX8_kinds_23, eX8_kinds_25, eX8_kinds_26, eX8_kinds_29, eX8_kinds_31, eX8_kinds_33, eX8_kinds_36, eX8_kinds_38, Option.bind_some, Option.toList_some, Option.toList_none, List.cons_append, List.nil_append, G_o0, G_h0_1, G_r0_1, G_h0_2, G_r0_2, G_h0_3, G_r0_3, G_o10, G_o23, qX0_hasPlace, hpc, zb_1, if_true, ht, hcd, if_false]
    · have hpm : (0 ≤ nI kk ∧ nI kk < zU I1 55 0 0 55 6) = True := by
        rw [zU_k _ _ _ (by decide), hfr 55 (by decide) (by decide) (by decide), n3]; exact hpt
      simp only [nX9_kinds, eX9_kinds_0, eX9_kinds_1, eX9_kinds_2, eX9_kinds_5, eX9_kinds_6, eX9_kinds_7, eX9_kinds_10, eX9_kinds_13, eX9_kinds_14, eX9_kinds_17, eX9_kinds_20, eX9_kinds_21, eX9_kinds_22, eX9_kinds_23, eX9_kinds_25, eX9_kinds_28, eX9_kinds_31, eX9_kinds_33, eX9_kinds_34, eX9_kinds_35, eX9_kinds_36, eX9_kinds_37, eX9_kinds_39, eX9_kinds_41, eX9_kinds_44, eX9_kinds_46, eX9_kinds_48, eX9_kinds_51, eX9_kinds_53, Option.bind_some, Option.toList_some, Option.toList_none, List.cons_append, List.nil_append, G_o55, qX9_isPlace, qX9_isSheet, qX9_isPlan, zb_1, zb_0, hpm, hsh3, hv, hn, and_self, if_true, not_true_eq_false, if_false, ne_eq, not_false_eq_true, hly I1 (fun c hc => hfr c (by omega) (by omega) (by omega)), hcd]
  · have hNN : N = N' := by
      have := n2.symm.trans hN
      exact (nI_eq (by omega) (by omega)).mp this
    subst hNN
    have h1 : N ≤ 6 := hN6
    have hsh3 := sh_iff.mp hsh
    have h10 : I1 10 = I 10 := hfr 10 (by decide) (by decide) (by decide)
    have hpl : ∀ k, k < 6 → I1 (k + 15) = I (k + 15) := fun k hk => hfr _ (by omega) (by omega) (by omega)
    have hM : I 55 6 = nI N := by
      obtain ⟨-, -, -, -, -, N', ⟨-, n2, n3, -⟩, -⟩ := id hI
      rw [n3, ← n2, hN]
    have hc := pb_c (L := L) (xs := xs) (d := d) (J := J) (lo := -9) hN h1 h10 hpl hI1n hm (fun k hk => ⟨(hst k hk).1, (hst k hk).2.2⟩)
    generalize hA : cPl N (I 10 3) (cF I) st (-9) 0 m (cBg 23 I1) (-9) = A at hc
    obtain ⟨a, P, u⟩ := A
    dsimp only at hc
    by_cases a9 : a = -9
    · subst a9
      have e12 : I1 12 = I 12 := hfr _ (by decide) (by decide) (by decide)
      have e13 : I1 13 = I 13 := hfr _ (by decide) (by decide) (by decide)
      have e14 : I1 14 = I 14 := hfr _ (by decide) (by decide) (by decide)
      have eF1 : cF I1 = cF I := by
        funext k j
        simp only [cF]
        split
        · rw [hpl k (by assumption)]
        · rfl
      obtain ⟨M0, M1, M2, P2, u2, hMM, kf⟩ := kf_c (L := L) (xs := xs) (d := d) (J := J) (I := I1) (N := N) (m := m) (C := C) (i := kk) (st := st) (u := u) (P := P) (by rw [h10]; exact hN) h1 hkk hI1n hm (fun k hk => ⟨(hst k hk).1, (hst k hk).2.2⟩) (by rw [e12]; exact r2) r1 (fun q hq => by rw [e13]; obtain ⟨-, -, a, ha, hb⟩ := r5 q hq; rw [hb]; exact zIv_lt h1 ha)
      rw [eF1, h10, e13, e14] at kf
      have l1 := hly (zsW I1 P2 u2) (fun c hc => by rw [zsW_lo _ _ _ (by omega), hfr c (by omega) (by omega) (by omega)])
      generalize hK : zU (zUr (zU (zsW I1 P2 u2) 55 0 0) 68 row) 55 23 (nI m) = K at l1
      have k55 : ∀ k, k ≠ 0 → k ≠ 23 → K 55 k = I 55 k := fun k x y => by
        rw [← hK, zU_k _ _ _ y, zUr_ne _ _ (by decide), zU_k _ _ _ x, zsW_lo _ _ _ (by decide), hfr 55 (by decide) (by decide) (by decide)]
      have kc : ∀ c, 56 ≤ c → c ≠ 68 → K c = I c := fun c x y => by
        rw [← hK, zU_ne _ _ _ (by omega), zUr_ne _ _ y, zU_ne _ _ _ (by omega), zsW_lo _ _ _ (by omega), hfr c (by omega) (by omega) (by omega)]
      have hKn : K 55 23 = nI m := by rw [← hK, zU_at]
      have hKs : ∀ k, k < m → K 68 k = nI (st k) ∧ pOk N (st k) := fun k hk => ⟨by rw [← hK, zU_ne _ _ _ (by decide), zUr_self]; exact (hst k hk).2.1, (hst k hk).2.2⟩
      have hg := pb_m (L := L) (xs := xs) (d := d) (J := J) (lo := -9) (K := K) (st := st) hM h1 (fun k hk => k55 k (by omega) (by omega)) hI.1.2.2 (fun c x y => kc c (by omega) (by omega)) hKn hm hKs
      obtain ⟨q1, -, q3⟩ := pb_eq (I := I) (I1 := I1) (K := K) (N := N) (m := m) (st := st) (lo := -9) (u := K 55 21) hI hN h1 hpl (kc 60 (by decide) (by decide)) hm (fun k hk => (hst k hk).2.2)
      have q3 := q3 rfl
      rw [hA] at q1 q3
      generalize hB : mPl N (I 55 5) (mF I) st (-9) 0 0 m (mBg N K) (K 55 21) = B at hg q1 q3
      obtain ⟨b, Q, z⟩ := B
      dsimp only at hg q1 q3
      subst q3
      have inv : zInv (zsM K Q z) := inv_pl hI hfr h05 hf hK.symm
      have w10 : zsW I1 P2 u2 10 2 = nI N := by rw [zsW_lo _ _ _ (by decide), h10]; exact hN
      have m6 : zsM K Q z 55 6 = nI N := by rw [zsM_55 _ _ _ (by decide) (by decide) (by decide), k55 6 (by decide) (by decide)]; exact hM
      have hKN : K 55 6 = nI N := by rw [k55 6 (by decide) (by decide)]; exact hM
      have hKf : K 55 22 = 0 := by rw [k55 22 (by decide) (by decide)]; exact hI.1.2.2
      have eFK : mF K = mF I := by
        funext k j
        simp only [mF]
        split
        · rw [kc (j + 59) (by omega) (by omega)]
        · rfl
      obtain ⟨L0, L1, L2, z0, z1, z2, z3, Q2, hLL, km⟩ := kf_m (L := L) (xs := xs) (d := d) (J := J) (K := K) (N := N) (m := m) (C := C) (i := kk) (st := st) (a2 := sh) (a3 := v) (a4 := i) (a5 := nI m) (a6 := 0) (a7 := -9) (Q := Q) (z := z) hKN h1 hkk hKn hm hKf hKs (by rw [k55 28 (by decide) (by decide)]; exact r3) r1 (fun q hq => by rw [kc 69 (by decide) (by decide)]; obtain ⟨e, -, a, ha, hb⟩ := r5 q hq; rw [← e, hb]; exact zIv_lt h1 ha)
      have k60 := kc 60 (by decide) (by decide)
      rw [k60] at hLL
      rw [eFK, k55 5 (by decide) (by decide), kc 69 (by decide) (by decide), kc 70 (by decide) (by decide)] at km
      have hmk : ∀ (X : Nat → Nat → Int32), (∀ k, k < 6 → X (k + 15) 1 = I1 (k + 15) 1) → ∀ k, k < 6 → X (k + 15) 1 = I (k + 15) 1 := fun X h k hk => by rw [h k hk, hpl k hk]
      have s0 := kd_eq (I := I) (A := M0) (B := L0) (N := N) (m := m) (C := C) (i := kk) (st := st) (x := 0) (z := z0) hI hN h1 hkk (by decide +kernel) (hmk M0 (fun k hk => (hMM k hk).1)) hLL.1 hm (fun k hk => (hst k hk).2.2) r5
      have s1 := kd_eq (I := I) (A := M1) (B := L1) (N := N) (m := m) (C := C) (i := kk) (st := st) (x := 1) (z := z1) hI hN h1 hkk (by decide +kernel) (hmk M1 (fun k hk => (hMM k hk).2.1)) hLL.2.1 hm (fun k hk => (hst k hk).2.2) r5
      have s2 := kd_eq (I := I) (A := M2) (B := L2) (N := N) (m := m) (C := C) (i := kk) (st := st) (x := 2) (z := z2) hI hN h1 hkk (by decide +kernel) (hmk M2 (fun k hk => (hMM k hk).2.2)) hLL.2.2 hm (fun k hk => (hst k hk).2.2) r5
      rw [s0, s1, s2] at kf
      generalize kfit _ _ _ = fit at kf km
      have inv2 : zInv (zsM K Q2 z3) := inv_pl hI hfr h05 hf hK.symm
      have hpm : (0 ≤ nI kk ∧ nI kk < zU (zsW I1 P2 u2) 55 0 0 55 6) = True := by
        rw [zU_k _ _ _ (by decide), zsW_lo _ _ _ (by decide), hfr 55 (by decide) (by decide) (by decide), n3]; exact hpt
      refine ⟨fit, zsW I1 P2 u2, zsM K Q2 z3, J, J, ?_, ?_, inv2⟩
      · simp only [nX8_kinds, eX8_kinds_0, eX8_kinds_1, eX8_kinds_2, eX8_kinds_5, eX8_kinds_6, eX8_kinds_9, eX8_kinds_10, eX8_kinds_13, eX8_kinds_16, eX8_kinds_17, eX8_kinds_18, eX8_kinds_19, eX8_kinds_20, eX8_kinds_21, eX8_kinds_23, eX8_kinds_25, eX8_kinds_26, eX8_kinds_29, eX8_kinds_31, eX8_kinds_33, eX8_kinds_36, eX8_kinds_38, eX8_kinds_39, eX8_kinds_40, eX8_kinds_43, eX8_kinds_44, eX8_kinds_47, eX8_kinds_48, eX8_kinds_51, eX8_kinds_53, eX8_kinds_56, eX8_kinds_58, eX8_kinds_60, eX8_kinds_62, eX8_kinds_65, eX8_kinds_66, eX8_kinds_67, eX8_kinds_70, eX8_kinds_73, eX8_kinds_74, eX8_kinds_75, eX8_kinds_78, eX8_kinds_81, eX8_kinds_83, eX8_kinds_85, eX8_kinds_86, Option.bind_some, Option.toList_some, Option.toList_none, List.cons_append, List.nil_append, G_o0, G_h0_1, G_r0_1, G_h0_2, G_r0_2, G_h0_3, G_r0_3, G_o10, G_o23, qX0_hasPlace, hpc, zb_1, if_true, ht, hc, ne_eq, not_true_eq_false, if_false, G_h10_0, G_r10_0, G_q11, G_l11, zIn_6 (show kk < 6 by omega), zc_n (show kk ≤ 1000 by omega), G_11h (show kk < 6 by omega), G_11r (show kk < 6 by omega), kf]
      · have o2 : zsM K Q z 59 kk = K 59 kk := by rw [zsM_ne _ _ _ (by decide) (by decide) (by decide) (by decide)]
        simp only [nX9_kinds, eX9_kinds_0, eX9_kinds_1, eX9_kinds_2, eX9_kinds_5, eX9_kinds_6, eX9_kinds_7, eX9_kinds_10, eX9_kinds_13, eX9_kinds_14, eX9_kinds_17, eX9_kinds_20, eX9_kinds_21, eX9_kinds_22, eX9_kinds_23, eX9_kinds_25, eX9_kinds_28, eX9_kinds_31, eX9_kinds_33, eX9_kinds_34, eX9_kinds_35, eX9_kinds_36, eX9_kinds_37, eX9_kinds_39, eX9_kinds_41, eX9_kinds_44, eX9_kinds_46, eX9_kinds_48, eX9_kinds_51, eX9_kinds_53, eX9_kinds_54, eX9_kinds_55, eX9_kinds_57, eX9_kinds_60, eX9_kinds_62, eX9_kinds_64, eX9_kinds_66, eX9_kinds_69, eX9_kinds_71, eX9_kinds_73, eX9_kinds_74, eX9_kinds_75, eX9_kinds_76, eX9_kinds_79, eX9_kinds_80, eX9_kinds_81, eX9_kinds_83, eX9_kinds_84, eX9_kinds_86, eX9_kinds_87, Option.bind_some, Option.toList_some, Option.toList_none, List.cons_append, List.nil_append, G_o55, qX9_isPlace, qX9_isSheet, qX9_isPlan, zb_1, zb_0, hpm, hsh3, hv, hn, and_self, if_true, not_true_eq_false, if_false, ne_eq, not_false_eq_true, l1, hg, G_h55_7, G_r55_7, G_a59, G_l59, zIn_6 (show kk < 6 by omega), zc_n (show kk ≤ 1000 by omega), o2]
        exact km
    · skip
      have l1 := hly (zsW I1 P u) (fun c hc => by rw [zsW_lo _ _ _ (by omega), hfr c (by omega) (by omega) (by omega)])
      generalize hK : zU (zUr (zU (zsW I1 P u) 55 0 0) 68 row) 55 23 (nI m) = K at l1
      have k55 : ∀ k, k ≠ 0 → k ≠ 23 → K 55 k = I 55 k := fun k x y => by
        rw [← hK, zU_k _ _ _ y, zUr_ne _ _ (by decide), zU_k _ _ _ x, zsW_lo _ _ _ (by decide), hfr 55 (by decide) (by decide) (by decide)]
      have kc : ∀ c, 56 ≤ c → c ≠ 68 → K c = I c := fun c x y => by
        rw [← hK, zU_ne _ _ _ (by omega), zUr_ne _ _ y, zU_ne _ _ _ (by omega), zsW_lo _ _ _ (by omega), hfr c (by omega) (by omega) (by omega)]
      have hKn : K 55 23 = nI m := by rw [← hK, zU_at]
      have hKs : ∀ k, k < m → K 68 k = nI (st k) ∧ pOk N (st k) := fun k hk => ⟨by rw [← hK, zU_ne _ _ _ (by decide), zUr_self]; exact (hst k hk).2.1, (hst k hk).2.2⟩
      have hg := pb_m (L := L) (xs := xs) (d := d) (J := J) (lo := -9) (K := K) (st := st) hM h1 (fun k hk => k55 k (by omega) (by omega)) hI.1.2.2 (fun c x y => kc c (by omega) (by omega)) hKn hm hKs
      obtain ⟨q1, -, q3⟩ := pb_eq (I := I) (I1 := I1) (K := K) (N := N) (m := m) (st := st) (lo := -9) (u := K 55 21) hI hN h1 hpl (kc 60 (by decide) (by decide)) hm (fun k hk => (hst k hk).2.2)
      have q3 := q3 rfl
      rw [hA] at q1 q3
      generalize hB : mPl N (I 55 5) (mF I) st (-9) 0 0 m (mBg N K) (K 55 21) = B at hg q1 q3
      obtain ⟨b, Q, z⟩ := B
      dsimp only at hg q1 q3
      subst q3
      have inv : zInv (zsM K Q z) := inv_pl hI hfr h05 hf hK.symm
      have w10 : zsW I1 P u 10 2 = nI N := by rw [zsW_lo _ _ _ (by decide), h10]; exact hN
      have m6 : zsM K Q z 55 6 = nI N := by rw [zsM_55 _ _ _ (by decide) (by decide) (by decide), k55 6 (by decide) (by decide)]; exact hM
      have hpm : (0 ≤ nI kk ∧ nI kk < zU (zsW I1 P u) 55 0 0 55 6) = True := by
        rw [zU_k _ _ _ (by decide), zsW_lo _ _ _ (by decide), hfr 55 (by decide) (by decide) (by decide), n3]; exact hpt
      refine ⟨(-100 - a), zsW I1 P u, zsM K Q z, J, J, ?_, ?_, inv⟩
      · simp only [nX8_kinds, eX8_kinds_0, eX8_kinds_1, eX8_kinds_2, eX8_kinds_5, eX8_kinds_6, eX8_kinds_9, eX8_kinds_10, eX8_kinds_13, eX8_kinds_16, eX8_kinds_17, eX8_kinds_18, eX8_kinds_19, eX8_kinds_20, eX8_kinds_21, eX8_kinds_23, eX8_kinds_25, eX8_kinds_26, eX8_kinds_29, eX8_kinds_31, eX8_kinds_33, eX8_kinds_36, eX8_kinds_38, eX8_kinds_39, eX8_kinds_40, eX8_kinds_43, eX8_kinds_44, eX8_kinds_47, eX8_kinds_48, eX8_kinds_51, eX8_kinds_53, eX8_kinds_56, eX8_kinds_58, eX8_kinds_60, eX8_kinds_62, eX8_kinds_65, eX8_kinds_66, eX8_kinds_67, eX8_kinds_70, eX8_kinds_73, eX8_kinds_74, eX8_kinds_75, eX8_kinds_78, eX8_kinds_81, eX8_kinds_83, eX8_kinds_85, eX8_kinds_86, Option.bind_some, Option.toList_some, Option.toList_none, List.cons_append, List.nil_append, G_o0, G_h0_1, G_r0_1, G_h0_2, G_r0_2, G_h0_3, G_r0_3, G_o10, G_o23, qX0_hasPlace, hpc, zb_1, if_true, ht, hc, ne_eq, a9, not_false_eq_true, if_false]
      · simp only [nX9_kinds, eX9_kinds_0, eX9_kinds_1, eX9_kinds_2, eX9_kinds_5, eX9_kinds_6, eX9_kinds_7, eX9_kinds_10, eX9_kinds_13, eX9_kinds_14, eX9_kinds_17, eX9_kinds_20, eX9_kinds_21, eX9_kinds_22, eX9_kinds_23, eX9_kinds_25, eX9_kinds_28, eX9_kinds_31, eX9_kinds_33, eX9_kinds_34, eX9_kinds_35, eX9_kinds_36, eX9_kinds_37, eX9_kinds_39, eX9_kinds_41, eX9_kinds_44, eX9_kinds_46, eX9_kinds_48, eX9_kinds_51, eX9_kinds_53, eX9_kinds_54, eX9_kinds_55, eX9_kinds_57, eX9_kinds_60, eX9_kinds_62, eX9_kinds_64, eX9_kinds_66, eX9_kinds_69, eX9_kinds_71, eX9_kinds_73, eX9_kinds_74, Option.bind_some, Option.toList_some, Option.toList_none, List.cons_append, List.nil_append, G_o55, qX9_isPlace, qX9_isSheet, qX9_isPlan, zb_1, zb_0, hpm, hsh3, hv, hn, and_self, if_true, not_true_eq_false, if_false, ne_eq, not_false_eq_true, l1, hg, a9]

end S
