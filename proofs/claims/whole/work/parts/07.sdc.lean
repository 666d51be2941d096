section SD
variable {own : String} {b : ByteArray} {n : Nat} {ret : Option FieldType} {pc : Nat}
theorem sd_pop (hd : decode b pc = .ok (.pop, 1)) : zSd own b n ret pc (sPop (pc + 1)) := by
  intro p l e R s mi args below meth c cells slots Q F g ad ca D Cx S hF lv st h o ho
  unfold sPop at ho
  split at ho
  · split at ho
    · rename_i v st' hv
      cases ho
      intro k H locs ls hP hS hL
      exact lv_pop Cx.1 Cx.2.1 hd (by rw [zCv_cat]; exact hv) (k H locs ls hP hS hL)
    · exact absurd ho (by simp)
  · exact absurd ho (by simp)
theorem sd_dup (hd : decode b pc = .ok (.dup, 1)) : zSd own b n ret pc (sDup (pc + 1)) := by
  intro p l e R s mi args below meth c cells slots Q F g ad ca D Cx S hF lv st h o ho
  unfold sDup at ho
  split at ho
  · split at ho
    · rename_i v st' hv
      cases ho
      intro k H locs ls hP hS hL
      exact lv_dup Cx.1 Cx.2.1 hd (by rw [zCv_cat]; exact hv) (k H locs ls hP hS hL)
    · exact absurd ho (by simp)
  · exact absurd ho (by simp)
theorem sd_dup2 (hd : decode b pc = .ok (.dup2, 1)) : zSd own b n ret pc (sDup2 (pc + 1)) := by
  intro p l e R s mi args below meth c cells slots Q F g ad ca D Cx S hF lv st h o ho
  unfold sDup2 at ho
  split at ho
  · split at ho
    · rename_i v w st' hv
      cases ho
      intro k H locs ls hP hS hL
      exact lv_dup2_11 Cx.1 Cx.2.1 hd (by rw [zCv_cat]; exact hv.1) (by rw [zCv_cat]; exact hv.2) (k H locs ls hP hS hL)
    · exact absurd ho (by simp)
  · exact absurd ho (by simp)
theorem sd_iadd (hd : decode b pc = .ok (.iadd, 1)) : zSd own b n ret pc (sI2 (fun x y => x + y) (pc + 1)) := by
  intro p l e R s mi args below meth c cells slots Q F g ad ca D Cx S hF lv st h o ho
  unfold sI2 at ho
  split at ho
  · rename_i y x st'
    cases ho
    intro k H locs ls hP hS hL
    exact lv_iadd Cx.1 Cx.2.1 hd (k H locs ls hP hS hL)
  · exact absurd ho (by simp)
theorem sd_isub (hd : decode b pc = .ok (.isub, 1)) : zSd own b n ret pc (sI2 (fun x y => x - y) (pc + 1)) := by
  intro p l e R s mi args below meth c cells slots Q F g ad ca D Cx S hF lv st h o ho
  unfold sI2 at ho
  split at ho
  · rename_i y x st'
    cases ho
    intro k H locs ls hP hS hL
    exact lv_isub Cx.1 Cx.2.1 hd (k H locs ls hP hS hL)
  · exact absurd ho (by simp)
theorem sd_imul (hd : decode b pc = .ok (.imul, 1)) : zSd own b n ret pc (sI2 (fun x y => x * y) (pc + 1)) := by
  intro p l e R s mi args below meth c cells slots Q F g ad ca D Cx S hF lv st h o ho
  unfold sI2 at ho
  split at ho
  · rename_i y x st'
    cases ho
    intro k H locs ls hP hS hL
    exact lv_imul Cx.1 Cx.2.1 hd (k H locs ls hP hS hL)
  · exact absurd ho (by simp)
theorem sd_iand (hd : decode b pc = .ok (.iand, 1)) : zSd own b n ret pc (sI2 (fun x y => x &&& y) (pc + 1)) := by
  intro p l e R s mi args below meth c cells slots Q F g ad ca D Cx S hF lv st h o ho
  unfold sI2 at ho
  split at ho
  · rename_i y x st'
    cases ho
    intro k H locs ls hP hS hL
    exact lv_iand Cx.1 Cx.2.1 hd (k H locs ls hP hS hL)
  · exact absurd ho (by simp)
theorem sd_ior (hd : decode b pc = .ok (.ior, 1)) : zSd own b n ret pc (sI2 (fun x y => x ||| y) (pc + 1)) := by
  intro p l e R s mi args below meth c cells slots Q F g ad ca D Cx S hF lv st h o ho
  unfold sI2 at ho
  split at ho
  · rename_i y x st'
    cases ho
    intro k H locs ls hP hS hL
    exact lv_ior Cx.1 Cx.2.1 hd (k H locs ls hP hS hL)
  · exact absurd ho (by simp)
theorem sd_ishl (hd : decode b pc = .ok (.ishl, 1)) : zSd own b n ret pc (sI2 (fun x y => x <<< (y &&& 31)) (pc + 1)) := by
  intro p l e R s mi args below meth c cells slots Q F g ad ca D Cx S hF lv st h o ho
  unfold sI2 at ho
  split at ho
  · rename_i y x st'
    cases ho
    intro k H locs ls hP hS hL
    exact lv_ishl Cx.1 Cx.2.1 hd (k H locs ls hP hS hL)
  · exact absurd ho (by simp)
theorem sd_idiv (hd : decode b pc = .ok (.idiv, 1)) : zSd own b n ret pc (sDv (fun x y => x / y) (pc + 1)) := by
  intro p l e R s mi args below meth c cells slots Q F g ad ca D Cx S hF lv st h o ho
  unfold sDv at ho
  split at ho
  · split at ho
    · exact absurd ho (by simp)
    · rename_i y x st' hv
      cases ho
      intro k H locs ls hP hS hL
      exact lv_idiv Cx.1 Cx.2.1 hd hv (k H locs ls hP hS hL)
  · exact absurd ho (by simp)
theorem sd_irem (hd : decode b pc = .ok (.irem, 1)) : zSd own b n ret pc (sDv (fun x y => x - x / y * y) (pc + 1)) := by
  intro p l e R s mi args below meth c cells slots Q F g ad ca D Cx S hF lv st h o ho
  unfold sDv at ho
  split at ho
  · split at ho
    · exact absurd ho (by simp)
    · rename_i y x st' hv
      cases ho
      intro k H locs ls hP hS hL
      exact lv_irem Cx.1 Cx.2.1 hd hv (k H locs ls hP hS hL)
  · exact absurd ho (by simp)
theorem sd_ladd (hd : decode b pc = .ok (.ladd, 1)) : zSd own b n ret pc (sL2 (fun x y => x + y) (pc + 1)) := by
  intro p l e R s mi args below meth c cells slots Q F g ad ca D Cx S hF lv st h o ho
  unfold sL2 at ho
  split at ho
  · rename_i y x st'
    cases ho
    intro k H locs ls hP hS hL
    exact lv_ladd Cx.1 Cx.2.1 hd (k H locs ls hP hS hL)
  · exact absurd ho (by simp)
theorem sd_lsub (hd : decode b pc = .ok (.lsub, 1)) : zSd own b n ret pc (sL2 (fun x y => x - y) (pc + 1)) := by
  intro p l e R s mi args below meth c cells slots Q F g ad ca D Cx S hF lv st h o ho
  unfold sL2 at ho
  split at ho
  · rename_i y x st'
    cases ho
    intro k H locs ls hP hS hL
    exact lv_lsub Cx.1 Cx.2.1 hd (k H locs ls hP hS hL)
  · exact absurd ho (by simp)
theorem sd_lmul (hd : decode b pc = .ok (.lmul, 1)) : zSd own b n ret pc (sL2 (fun x y => x * y) (pc + 1)) := by
  intro p l e R s mi args below meth c cells slots Q F g ad ca D Cx S hF lv st h o ho
  unfold sL2 at ho
  split at ho
  · rename_i y x st'
    cases ho
    intro k H locs ls hP hS hL
    exact lv_lmul Cx.1 Cx.2.1 hd (k H locs ls hP hS hL)
  · exact absurd ho (by simp)
theorem sd_ldiv (hd : decode b pc = .ok (.ldiv, 1)) : zSd own b n ret pc (sLd (fun x y => x / y) (pc + 1)) := by
  intro p l e R s mi args below meth c cells slots Q F g ad ca D Cx S hF lv st h o ho
  unfold sLd at ho
  split at ho
  · split at ho
    · exact absurd ho (by simp)
    · rename_i y x st' hv
      cases ho
      intro k H locs ls hP hS hL
      exact lv_ldiv Cx.1 Cx.2.1 hd hv (k H locs ls hP hS hL)
  · exact absurd ho (by simp)
theorem sd_lrem (hd : decode b pc = .ok (.lrem, 1)) : zSd own b n ret pc (sLd (fun x y => x - x / y * y) (pc + 1)) := by
  intro p l e R s mi args below meth c cells slots Q F g ad ca D Cx S hF lv st h o ho
  unfold sLd at ho
  split at ho
  · split at ho
    · exact absurd ho (by simp)
    · rename_i y x st' hv
      cases ho
      intro k H locs ls hP hS hL
      exact lv_lrem Cx.1 Cx.2.1 hd hv (k H locs ls hP hS hL)
  · exact absurd ho (by simp)
theorem sd_lcmp (hd : decode b pc = .ok (.lcmp, 1)) : zSd own b n ret pc (sCl (pc + 1)) := by
  intro p l e R s mi args below meth c cells slots Q F g ad ca D Cx S hF lv st h o ho
  unfold sCl at ho
  split at ho
  · rename_i y x st'
    cases ho
    intro k H locs ls hP hS hL
    exact W.lcmp Cx.1 Cx.2.1 hd (k H locs ls hP hS hL)
  · exact absurd ho (by simp)
theorem sd_i2b (hd : decode b pc = .ok (.i2b, 1)) : zSd own b n ret pc (sI1 (fun x => x.toInt8.toInt32) (pc + 1)) := by
  intro p l e R s mi args below meth c cells slots Q F g ad ca D Cx S hF lv st h o ho
  unfold sI1 at ho
  split at ho
  · rename_i x st'
    cases ho
    intro k H locs ls hP hS hL
    exact lv_i2b Cx.1 Cx.2.1 hd rfl (k H locs ls hP hS hL)
  · exact absurd ho (by simp)
theorem sd_i2s (hd : decode b pc = .ok (.i2s, 1)) : zSd own b n ret pc (sI1 (fun x => x.toInt16.toInt32) (pc + 1)) := by
  intro p l e R s mi args below meth c cells slots Q F g ad ca D Cx S hF lv st h o ho
  unfold sI1 at ho
  split at ho
  · rename_i x st'
    cases ho
    intro k H locs ls hP hS hL
    exact lv_i2s Cx.1 Cx.2.1 hd rfl (k H locs ls hP hS hL)
  · exact absurd ho (by simp)
theorem sd_i2l (hd : decode b pc = .ok (.i2l, 1)) : zSd own b n ret pc (sI2l (pc + 1)) := by
  intro p l e R s mi args below meth c cells slots Q F g ad ca D Cx S hF lv st h o ho
  unfold sI2l at ho
  split at ho
  · rename_i x st'
    cases ho
    intro k H locs ls hP hS hL
    exact lv_i2l Cx.1 Cx.2.1 hd rfl (k H locs ls hP hS hL)
  · exact absurd ho (by simp)
theorem zPr_at {ad : Nat → Nat} {lv : List Value} {i : Nat} {v : Value} (hv : lv[i]? = some v) (hn : v ≠ .null) : ∃ k : Nat, (zPr ad lv)[k]? = some (i, zCv ad v) := List.getElem?_of_mem (zPr_mem.mpr ⟨v, hv, hn, rfl⟩)
theorem sd_iinc {i : Nat} {z : Int} {w : Int32} (hd : decode b pc = .ok (.iinc i z, 3)) (hw : Int32.ofInt z = w) : zSd own b n ret pc (sInc i w (pc + 3)) := by
  intro p l e R s mi args below meth c cells slots Q F g ad ca D Cx S hF lv st h o ho
  unfold sInc at ho
  split at ho
  · split at ho
    · rename_i x hx hv
      cases ho
      intro k H locs ls hP hS hL
      obtain ⟨q, hq⟩ := zPr_at (ad := ad) hx (by simp)
      exact lv_iinc (v := x + w) Cx.1 Cx.2.1 hd hL.has hq (by rw [hw]) (by rw [← hL.2.2.1]; exact (List.getElem?_eq_some_iff.mp hx).1) rfl (fun ls' h' => k H locs ls' hP hS (hL.put1 (v := .int (x + w)) hv h'))
    · exact absurd ho (by simp)
  · exact absurd ho (by simp)
theorem sd_icmp_eq {off : Int} {tg : Nat} (hd : decode b pc = .ok (.if_icmp .eq off, 3)) (ht : (pc : Int) + off = (tg : Int)) : zSd own b n ret pc (sC2 (fun x y => decide (x = y)) tg (pc + 3)) := by
  intro p l e R s mi args below meth c cells slots Q F g ad ca D Cx S hF lv st h o ho
  unfold sC2 at ho
  split at ho
  · rename_i y x st'
    split at ho
    · rename_i hv
      cases ho
      intro k H locs ls hP hS hL
      exact lv_icmp_eq Cx.1 Cx.2.1 hd ht (fun _ => (k H locs ls hP hS hL)) (fun hx => absurd (of_decide_eq_true hv) hx)
    · rename_i hv
      cases ho
      intro k H locs ls hP hS hL
      exact lv_icmp_eq Cx.1 Cx.2.1 hd ht (fun hx => absurd (decide_eq_true hx) hv) (fun _ => (k H locs ls hP hS hL))
  · exact absurd ho (by simp)
theorem sd_if_eq {off : Int} {tg : Nat} (hd : decode b pc = .ok (.ifCond .eq off, 3)) (ht : (pc : Int) + off = (tg : Int)) : zSd own b n ret pc (sC0 (fun x y => decide (x = y)) tg (pc + 3)) := by
  intro p l e R s mi args below meth c cells slots Q F g ad ca D Cx S hF lv st h o ho
  unfold sC0 at ho
  split at ho
  · rename_i x st'
    split at ho
    · rename_i hv
      cases ho
      intro k H locs ls hP hS hL
      exact lv_if_eq Cx.1 Cx.2.1 hd ht (fun _ => (k H locs ls hP hS hL)) (fun hx => absurd (of_decide_eq_true hv) hx)
    · rename_i hv
      cases ho
      intro k H locs ls hP hS hL
      exact lv_if_eq Cx.1 Cx.2.1 hd ht (fun hx => absurd (decide_eq_true hx) hv) (fun _ => (k H locs ls hP hS hL))
  · exact absurd ho (by simp)
theorem sd_icmp_ne {off : Int} {tg : Nat} (hd : decode b pc = .ok (.if_icmp .ne off, 3)) (ht : (pc : Int) + off = (tg : Int)) : zSd own b n ret pc (sC2 (fun x y => decide (x ≠ y)) tg (pc + 3)) := by
  intro p l e R s mi args below meth c cells slots Q F g ad ca D Cx S hF lv st h o ho
  unfold sC2 at ho
  split at ho
  · rename_i y x st'
    split at ho
    · rename_i hv
      cases ho
      intro k H locs ls hP hS hL
      exact lv_icmp_ne Cx.1 Cx.2.1 hd ht (fun _ => (k H locs ls hP hS hL)) (fun hx => absurd hx (of_decide_eq_true hv))
    · rename_i hv
      cases ho
      intro k H locs ls hP hS hL
      exact lv_icmp_ne Cx.1 Cx.2.1 hd ht (fun hx => absurd (decide_eq_true hx) hv) (fun _ => (k H locs ls hP hS hL))
  · exact absurd ho (by simp)
theorem sd_if_ne {off : Int} {tg : Nat} (hd : decode b pc = .ok (.ifCond .ne off, 3)) (ht : (pc : Int) + off = (tg : Int)) : zSd own b n ret pc (sC0 (fun x y => decide (x ≠ y)) tg (pc + 3)) := by
  intro p l e R s mi args below meth c cells slots Q F g ad ca D Cx S hF lv st h o ho
  unfold sC0 at ho
  split at ho
  · rename_i x st'
    split at ho
    · rename_i hv
      cases ho
      intro k H locs ls hP hS hL
      exact lv_if_ne Cx.1 Cx.2.1 hd ht (fun _ => (k H locs ls hP hS hL)) (fun hx => absurd hx (of_decide_eq_true hv))
    · rename_i hv
      cases ho
      intro k H locs ls hP hS hL
      exact lv_if_ne Cx.1 Cx.2.1 hd ht (fun hx => absurd (decide_eq_true hx) hv) (fun _ => (k H locs ls hP hS hL))
  · exact absurd ho (by simp)
theorem sd_icmp_lt {off : Int} {tg : Nat} (hd : decode b pc = .ok (.if_icmp .lt off, 3)) (ht : (pc : Int) + off = (tg : Int)) : zSd own b n ret pc (sC2 (fun x y => decide (x < y)) tg (pc + 3)) := by
  intro p l e R s mi args below meth c cells slots Q F g ad ca D Cx S hF lv st h o ho
  unfold sC2 at ho
  split at ho
  · rename_i y x st'
    split at ho
    · rename_i hv
      cases ho
      intro k H locs ls hP hS hL
      exact lv_icmp_lt Cx.1 Cx.2.1 hd ht (fun _ => (k H locs ls hP hS hL)) (fun hx => absurd (of_decide_eq_true hv) hx)
    · rename_i hv
      cases ho
      intro k H locs ls hP hS hL
      exact lv_icmp_lt Cx.1 Cx.2.1 hd ht (fun hx => absurd (decide_eq_true hx) hv) (fun _ => (k H locs ls hP hS hL))
  · exact absurd ho (by simp)
theorem sd_if_lt {off : Int} {tg : Nat} (hd : decode b pc = .ok (.ifCond .lt off, 3)) (ht : (pc : Int) + off = (tg : Int)) : zSd own b n ret pc (sC0 (fun x y => decide (x < y)) tg (pc + 3)) := by
  intro p l e R s mi args below meth c cells slots Q F g ad ca D Cx S hF lv st h o ho
  unfold sC0 at ho
  split at ho
  · rename_i x st'
    split at ho
    · rename_i hv
      cases ho
      intro k H locs ls hP hS hL
      exact lv_if_lt Cx.1 Cx.2.1 hd ht (fun _ => (k H locs ls hP hS hL)) (fun hx => absurd (of_decide_eq_true hv) hx)
    · rename_i hv
      cases ho
      intro k H locs ls hP hS hL
      exact lv_if_lt Cx.1 Cx.2.1 hd ht (fun hx => absurd (decide_eq_true hx) hv) (fun _ => (k H locs ls hP hS hL))
  · exact absurd ho (by simp)
theorem sd_icmp_ge {off : Int} {tg : Nat} (hd : decode b pc = .ok (.if_icmp .ge off, 3)) (ht : (pc : Int) + off = (tg : Int)) : zSd own b n ret pc (sC2 (fun x y => decide (y ≤ x)) tg (pc + 3)) := by
  intro p l e R s mi args below meth c cells slots Q F g ad ca D Cx S hF lv st h o ho
  unfold sC2 at ho
  split at ho
  · rename_i y x st'
    split at ho
    · rename_i hv
      cases ho
      intro k H locs ls hP hS hL
      exact lv_icmp_ge Cx.1 Cx.2.1 hd ht (fun _ => (k H locs ls hP hS hL)) (fun hx => absurd (of_decide_eq_true hv) hx)
    · rename_i hv
      cases ho
      intro k H locs ls hP hS hL
      exact lv_icmp_ge Cx.1 Cx.2.1 hd ht (fun hx => absurd (decide_eq_true hx) hv) (fun _ => (k H locs ls hP hS hL))
  · exact absurd ho (by simp)
theorem sd_if_ge {off : Int} {tg : Nat} (hd : decode b pc = .ok (.ifCond .ge off, 3)) (ht : (pc : Int) + off = (tg : Int)) : zSd own b n ret pc (sC0 (fun x y => decide (y ≤ x)) tg (pc + 3)) := by
  intro p l e R s mi args below meth c cells slots Q F g ad ca D Cx S hF lv st h o ho
  unfold sC0 at ho
  split at ho
  · rename_i x st'
    split at ho
    · rename_i hv
      cases ho
      intro k H locs ls hP hS hL
      exact lv_if_ge Cx.1 Cx.2.1 hd ht (fun _ => (k H locs ls hP hS hL)) (fun hx => absurd (of_decide_eq_true hv) hx)
    · rename_i hv
      cases ho
      intro k H locs ls hP hS hL
      exact lv_if_ge Cx.1 Cx.2.1 hd ht (fun hx => absurd (decide_eq_true hx) hv) (fun _ => (k H locs ls hP hS hL))
  · exact absurd ho (by simp)
theorem sd_icmp_gt {off : Int} {tg : Nat} (hd : decode b pc = .ok (.if_icmp .gt off, 3)) (ht : (pc : Int) + off = (tg : Int)) : zSd own b n ret pc (sC2 (fun x y => decide (y < x)) tg (pc + 3)) := by
  intro p l e R s mi args below meth c cells slots Q F g ad ca D Cx S hF lv st h o ho
  unfold sC2 at ho
  split at ho
  · rename_i y x st'
    split at ho
    · rename_i hv
      cases ho
      intro k H locs ls hP hS hL
      exact lv_icmp_gt Cx.1 Cx.2.1 hd ht (fun _ => (k H locs ls hP hS hL)) (fun hx => absurd (of_decide_eq_true hv) hx)
    · rename_i hv
      cases ho
      intro k H locs ls hP hS hL
      exact lv_icmp_gt Cx.1 Cx.2.1 hd ht (fun hx => absurd (decide_eq_true hx) hv) (fun _ => (k H locs ls hP hS hL))
  · exact absurd ho (by simp)
theorem sd_if_gt {off : Int} {tg : Nat} (hd : decode b pc = .ok (.ifCond .gt off, 3)) (ht : (pc : Int) + off = (tg : Int)) : zSd own b n ret pc (sC0 (fun x y => decide (y < x)) tg (pc + 3)) := by
  intro p l e R s mi args below meth c cells slots Q F g ad ca D Cx S hF lv st h o ho
  unfold sC0 at ho
  split at ho
  · rename_i x st'
    split at ho
    · rename_i hv
      cases ho
      intro k H locs ls hP hS hL
      exact lv_if_gt Cx.1 Cx.2.1 hd ht (fun _ => (k H locs ls hP hS hL)) (fun hx => absurd (of_decide_eq_true hv) hx)
    · rename_i hv
      cases ho
      intro k H locs ls hP hS hL
      exact lv_if_gt Cx.1 Cx.2.1 hd ht (fun hx => absurd (decide_eq_true hx) hv) (fun _ => (k H locs ls hP hS hL))
  · exact absurd ho (by simp)
theorem sd_icmp_le {off : Int} {tg : Nat} (hd : decode b pc = .ok (.if_icmp .le off, 3)) (ht : (pc : Int) + off = (tg : Int)) : zSd own b n ret pc (sC2 (fun x y => decide (x ≤ y)) tg (pc + 3)) := by
  intro p l e R s mi args below meth c cells slots Q F g ad ca D Cx S hF lv st h o ho
  unfold sC2 at ho
  split at ho
  · rename_i y x st'
    split at ho
    · rename_i hv
      cases ho
      intro k H locs ls hP hS hL
      exact lv_icmp_le Cx.1 Cx.2.1 hd ht (fun _ => (k H locs ls hP hS hL)) (fun hx => absurd (of_decide_eq_true hv) hx)
    · rename_i hv
      cases ho
      intro k H locs ls hP hS hL
      exact lv_icmp_le Cx.1 Cx.2.1 hd ht (fun hx => absurd (decide_eq_true hx) hv) (fun _ => (k H locs ls hP hS hL))
  · exact absurd ho (by simp)
theorem sd_if_le {off : Int} {tg : Nat} (hd : decode b pc = .ok (.ifCond .le off, 3)) (ht : (pc : Int) + off = (tg : Int)) : zSd own b n ret pc (sC0 (fun x y => decide (x ≤ y)) tg (pc + 3)) := by
  intro p l e R s mi args below meth c cells slots Q F g ad ca D Cx S hF lv st h o ho
  unfold sC0 at ho
  split at ho
  · rename_i x st'
    split at ho
    · rename_i hv
      cases ho
      intro k H locs ls hP hS hL
      exact lv_if_le Cx.1 Cx.2.1 hd ht (fun _ => (k H locs ls hP hS hL)) (fun hx => absurd (of_decide_eq_true hv) hx)
    · rename_i hv
      cases ho
      intro k H locs ls hP hS hL
      exact lv_if_le Cx.1 Cx.2.1 hd ht (fun hx => absurd (decide_eq_true hx) hv) (fun _ => (k H locs ls hP hS hL))
  · exact absurd ho (by simp)
theorem sd_goto {off : Int} {tg : Nat} (hd : decode b pc = .ok (.goto off, 3)) (ht : (pc : Int) + off = (tg : Int)) : zSd own b n ret pc (sJ tg) := by
  intro p l e R s mi args below meth c cells slots Q F g ad ca D Cx S hF lv st h o ho
  cases ho
  intro k H locs ls hP hS hL
  exact lv_goto Cx.1 Cx.2.1 hd ht (k H locs ls hP hS hL)
end SD
