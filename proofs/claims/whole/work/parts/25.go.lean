section S
variable {L : Nat} {xs : Nat → Int32} {d : Nat} {J : Nat → Nat → Int64}
/-- the reference's way through a plan: from step k on, r steps, c of them played -/
noncomputable def mPl (N : Nat) (mn : Int32) (f : Nat → Nat → Int32) (st : Nat → Nat) (lo : Int32) (k c : Nat) : Nat → zPs → Int32 → Int32 × zPs × Int32
  | 0, P, w => (-9, P, w)
  | r + 1, P, w => if nI k = lo then mPl N mn f st lo (k + 1) c r P w else @ite _ (pCan N mn f (st k) P) (pCan_dec _ _ _ _ _) (mPl N mn f st lo (k + 1) (c + 1) r (mStp N f (st k) P) (zb (mWr f (st k) P) (mWr_dec _ _ _))) (nI c, P, w)
set_option maxHeartbeats 1000000 in
theorem lp_go {N n : Nat} {I : Nat → Nat → Int32} {st : Nat → Nat} {lo : Int32} (hN : I 55 6 = nI N) (h1 : N ≤ 6) (hn : I 55 23 = nI n) (h2 : n ≤ 20) (hf : I 55 22 = 0) (hst : ∀ k, k < n → I 68 k = nI (st k) ∧ pOk N (st k)) : ∀ (r k c : Nat) (P : zPs) (w : Int32), k + r = n → zX zCd (zGG L xs) d 115 8 [.ref 55, .int lo, .int (nI c), .int (nI k)] [] (zsM I P w, J) = some (some (.int (mPl N (I 55 5) (mF I) st lo k c r P w).1), (zsM I (mPl N (I 55 5) (mF I) st lo k c r P w).2.1 (mPl N (I 55 5) (mF I) st lo k c r P w).2.2, J)) := by
  intro r
  induction r with
  | zero =>
    intro k c P w h
    obtain rfl : k = n := by omega
    rw [eX9_go_8]
    simp only [eX9_go_9, eX9_go_10, eX9_go_13, eX9_go_45, eX9_go_47, G_o55, zsM_55 I P w (show 23 ≠ 16 by decide) (show 23 ≠ 17 by decide) (show 23 ≠ 21 by decide), hn, Int32.le_refl, if_true, mPl]
  | succ r ih =>
    intro k c P w h
    obtain ⟨hk, hok⟩ := hst k (by omega)
    have w23 : zsM I P w 55 23 = nI n := by rw [zsM_55 I P w (by decide) (by decide) (by decide)]; exact hn
    have w68 : zsM I P w 68 = I 68 := zsM_ne I P w (by decide) (by decide) (by decide) (by decide)
    have hN' : zsM I P w 55 6 = nI N := by rw [zsM_55 I P w (by decide) (by decide) (by decide)]; exact hN
    have hf' : zsM I P w 55 22 = 0 := by rw [zsM_55 I P w (by decide) (by decide) (by decide)]; exact hf
    have h5' : zsM I P w 55 5 = I 55 5 := zsM_55 I P w (by decide) (by decide) (by decide)
    have c1 : (nI n ≤ nI k) = False := by rw [zle (show n ≤ 1000000 by omega) (show k ≤ 1000000 by omega)]; exact eq_false (by omega)
    rw [eX9_go_8]
    by_cases hlo : nI k = lo
    · subst hlo
      simp only [eX9_go_9, eX9_go_10, eX9_go_13, eX9_go_16, eX9_go_17, eX9_go_18, eX9_go_39, eX9_go_42, G_o55, w23, c1, if_true, if_false, nI_1]
      rw [ih (k + 1) c P w (by omega)]
      simp only [mPl, if_true]
    · by_cases hc : pCan N (I 55 5) (mF I) (st k) P
      · have hm := qX9_mayStep (L := L) (xs := xs) (d := d) (J := J) hN' h1 hok hf'
        rw [mF_M, zsM_g, h5', zb_t hc] at hm
        have sy := qX9_stepY (L := L) (xs := xs) (d := d) (J := J) hN' h1 hok hm
        rw [mF_M, zsM_g, zsM_s] at sy
        have e0 : mPl N (I 55 5) (mF I) st lo k c (r + 1) P w = mPl N (I 55 5) (mF I) st lo (k + 1) (c + 1) r (mStp N (mF I) (st k) P) (zb (mWr (mF I) (st k) P) (mWr_dec _ _ _)) := by
          rw [mPl, if_neg hlo, if_pos hc]
        rw [e0]
        simp only [eX9_go_9, eX9_go_10, eX9_go_13, eX9_go_16, eX9_go_17, eX9_go_18, eX9_go_21, eX9_go_22, eX9_go_23, eX9_go_26, eX9_go_27, eX9_go_28, eX9_go_31, eX9_go_34, eX9_go_35, eX9_go_36, eX9_go_39, eX9_go_42, Option.bind_some, Option.toList_some, Option.toList_none, List.cons_append, List.nil_append, G_o55, G_h55_24, G_r55_24, G_a68, G_l68, w23, w68, c1, hlo, if_false, zIn_20 (show k < 20 by omega), zc_n (show k ≤ 1000 by omega), hk, sy, show ((1 : Int32) ≠ 0) = True from by decide, if_true, nI_1]
        exact ih (k + 1) (c + 1) _ _ (by omega)
      · have sn := qX9_stepN (L := L) (xs := xs) (d := d) (J := J) hN' h1 hok hf' (by rw [mF_M, zsM_g, h5']; exact hc)
        have e0 : mPl N (I 55 5) (mF I) st lo k c (r + 1) P w = (nI c, P, w) := by
          rw [mPl, if_neg hlo, if_neg hc]
        rw [e0]
        simp only [eX9_go_9, eX9_go_10, eX9_go_13, eX9_go_16, eX9_go_17, eX9_go_18, eX9_go_21, eX9_go_22, eX9_go_23, eX9_go_26, eX9_go_27, eX9_go_28, eX9_go_31, eX9_go_34, eX9_go_35, Option.bind_some, Option.toList_some, Option.toList_none, List.cons_append, List.nil_append, G_o55, G_h55_24, G_r55_24, G_a68, G_l68, w23, w68, c1, hlo, if_false, zIn_20 (show k < 20 by omega), zc_n (show k ≤ 1000 by omega), hk, sn, show ((0 : Int32) ≠ 0) = False from by decide]
set_option maxHeartbeats 1000000 in
theorem qX9_go {N n : Nat} {I : Nat → Nat → Int32} {st : Nat → Nat} {lo : Int32} (hN : I 55 6 = nI N) (h1 : N ≤ 6) (hn : I 55 23 = nI n) (h2 : n ≤ 20) (hf : I 55 22 = 0) (hst : ∀ k, k < n → I 68 k = nI (st k) ∧ pOk N (st k)) : zE zCd (zGG L xs) d 115 [.ref 55, .int lo] (I, J) = some (some (.int (mPl N (I 55 5) (mF I) st lo 0 0 n (mBg N I) (I 55 21)).1), (zsM I (mPl N (I 55 5) (mF I) st lo 0 0 n (mBg N I) (I 55 21)).2.1 (mPl N (I 55 5) (mF I) st lo 0 0 n (mBg N I) (I 55 21)).2.2, J)) := by
  simp only [nX9_go, eX9_go_0, eX9_go_1, eX9_go_4, eX9_go_5, eX9_go_6, eX9_go_7, Option.bind_some, Option.toList_some, Option.toList_none, List.cons_append, List.nil_append, G_o55, qX9_begin hN h1]
  exact lp_go (L := L) (xs := xs) (d := d) (J := J) hN h1 hn h2 hf hst n 0 0 (mBg N I) (I 55 21) (by omega)
end S
