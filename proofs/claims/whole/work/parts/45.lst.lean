/-! the first best of a row -/
def btr {α : Type} (v : α → Int) (ln : α → Nat) (x y : α) : Prop := v y < v x ∨ (v x = v y ∧ ln x < ln y)
noncomputable def bst {α : Type} (v : α → Int) (ln : α → Nat) (o : Option α) (p : α) : Option α := match o with
  | none => some p
  | some y => @ite _ (btr v ln p y) (Classical.propDecidable _) (some p) (some y)
set_option maxHeartbeats 1000000 in
theorem bst_n {α : Type} {v : α → Int} {ln : α → Nat} {p : α} : bst v ln none p = some p := rfl
set_option maxHeartbeats 1000000 in
theorem bst_y {α : Type} {v : α → Int} {ln : α → Nat} {p y : α} (h : btr v ln p y) : bst v ln (some y) p = some p := if_pos h
set_option maxHeartbeats 1000000 in
theorem bst_k {α : Type} {v : α → Int} {ln : α → Nat} {p y : α} (h : ¬ btr v ln p y) : bst v ln (some y) p = some y := if_neg h
set_option maxHeartbeats 1000000 in
theorem bst_char {α : Type} (v : α → Int) (ln : α → Nat) : ∀ (l l1 l2 : List α) (x : α), (∀ y, y ∈ l1 → btr v ln x y) → (∀ y, y ∈ l2 → ¬ btr v ln y x) → ∃ m1 z m2, l1 ++ x :: (l2 ++ l) = m1 ++ z :: m2 ∧ l.foldl (bst v ln) (some x) = some z ∧ (∀ y, y ∈ m1 → btr v ln z y) ∧ (∀ y, y ∈ m2 → ¬ btr v ln y z) := by
  intro l
  induction l with
  | nil => intro l1 l2 x h1 h2; exact ⟨l1, x, l2, by simp, rfl, h1, h2⟩
  | cons a l ih =>
    intro l1 l2 x h1 h2
    by_cases h : btr v ln a x
    · have h3 : ∀ y, y ∈ l1 ++ x :: l2 → btr v ln a y := fun y hy => by
        rw [List.mem_append, List.mem_cons] at hy
        rcases hy with hy | rfl | hy
        · have := h1 y hy; unfold btr at *; omega
        · exact h
        · have := h2 y hy; unfold btr at *; omega
      obtain ⟨m1, z, m2, e, f, g1, g2⟩ := ih (l1 ++ x :: l2) [] a h3 (fun y hy => by simp at hy)
      exact ⟨m1, z, m2, by rw [← e]; simp, by rw [List.foldl_cons, bst_y h]; exact f, g1, g2⟩
    · have h3 : ∀ y, y ∈ l2 ++ [a] → ¬ btr v ln y x := fun y hy => by
        rw [List.mem_append, List.mem_singleton] at hy
        rcases hy with hy | rfl
        · exact h2 y hy
        · exact h
      obtain ⟨m1, z, m2, e, f, g1, g2⟩ := ih l1 (l2 ++ [a]) x h1 h3
      exact ⟨m1, z, m2, by rw [← e]; simp, by rw [List.foldl_cons, bst_k h]; exact f, g1, g2⟩
set_option maxHeartbeats 1000000 in
theorem bst_mem {α : Type} (v : α → Int) (ln : α → Nat) : ∀ (l : List α) (o : Option α), l.foldl (bst v ln) o = o ∨ ∃ y, y ∈ l ∧ l.foldl (bst v ln) o = some y := by
  intro l
  induction l with
  | nil => intro o; exact Or.inl rfl
  | cons a l ih =>
    intro o
    rw [List.foldl_cons]
    rcases ih (bst v ln o a) with h | ⟨y, hy, h⟩
    · rw [h]
      cases o with
      | none => exact Or.inr ⟨a, by simp, rfl⟩
      | some y =>
        by_cases hb : btr v ln a y
        · exact Or.inr ⟨a, by simp, bst_y hb⟩
        · exact Or.inl (bst_k hb)
    · exact Or.inr ⟨y, by simp [hy], h⟩
set_option maxHeartbeats 1000000 in
theorem bst_stay {α : Type} (v : α → Int) (ln : α → Nat) : ∀ (l : List α) (x : α), (∀ y, y ∈ l → ¬ btr v ln y x) → l.foldl (bst v ln) (some x) = some x := by
  intro l
  induction l with
  | nil => intro x _; rfl
  | cons a l ih =>
    intro x h
    rw [List.foldl_cons, bst_k (h a (by simp))]
    exact ih x (fun y hy => h y (by simp [hy]))
set_option maxHeartbeats 1000000 in
theorem bst_conv {α : Type} (v : α → Int) (ln : α → Nat) {l1 l2 : List α} {x : α} (h1 : ∀ y, y ∈ l1 → btr v ln x y) (h2 : ∀ y, y ∈ l2 → ¬ btr v ln y x) : (l1 ++ x :: l2).foldl (bst v ln) none = some x := by
  rw [List.foldl_append, List.foldl_cons]
  have : bst v ln (l1.foldl (bst v ln) none) x = some x := by
    rcases bst_mem v ln l1 none with h | ⟨y, hy, h⟩
    · rw [h]; rfl
    · rw [h]; exact bst_y (h1 y hy)
  rw [this]
  exact bst_stay v ln l2 x h2
/-- level by level -/
def BF {α : Type} (LV : Nat → List α) : Nat → List α
  | 0 => LV 0
  | t + 1 => BF LV t ++ LV (t + 1)
set_option maxHeartbeats 1000000 in
theorem BF_mem {α : Type} {LV : Nat → List α} : ∀ {t : Nat} {y : α}, y ∈ BF LV t → ∃ n, n ≤ t ∧ y ∈ LV n := by
  intro t
  induction t with
  | zero => intro y h; exact ⟨0, Nat.le_refl _, h⟩
  | succ t ih =>
    intro y h
    rw [BF, List.mem_append] at h
    rcases h with h | h
    · obtain ⟨n, hn, hy⟩ := ih h
      exact ⟨n, by omega, hy⟩
    · exact ⟨t + 1, Nat.le_refl _, h⟩
set_option maxHeartbeats 1000000 in
theorem BF_split {α : Type} {LV : Nat → List α} {m : Nat} : ∀ {t : Nat}, m ≤ t → ∃ pre post, BF LV t = pre ++ (LV m ++ post) ∧ (∀ y, y ∈ pre → ∃ n, n < m ∧ y ∈ LV n) ∧ (∀ y, y ∈ post → ∃ n, n ≤ t ∧ m < n ∧ y ∈ LV n) := by
  intro t
  induction t with
  | zero =>
    intro h
    obtain rfl : m = 0 := by omega
    exact ⟨[], [], by simp [BF], fun y hy => by simp at hy, fun y hy => by simp at hy⟩
  | succ t ih =>
    intro h
    by_cases e : m = t + 1
    · subst e
      refine ⟨BF LV t, [], by simp [BF], fun y hy => ?_, fun y hy => by simp at hy⟩
      obtain ⟨n, hn, hy⟩ := BF_mem hy
      exact ⟨n, by omega, hy⟩
    · obtain ⟨pre, post, e1, e2, e3⟩ := ih (by omega)
      refine ⟨pre, post ++ LV (t + 1), by rw [BF, e1]; simp, e2, fun y hy => ?_⟩
      rw [List.mem_append] at hy
      rcases hy with hy | hy
      · obtain ⟨n, a, b, c⟩ := e3 y hy
        exact ⟨n, by omega, b, c⟩
      · exact ⟨t + 1, Nat.le_refl _, by omega, hy⟩
set_option maxHeartbeats 1000000 in
theorem fold_eq {α : Type} (v : α → Int) (ln : α → Nat) (l : List α) (LV : Nat → List α) (t : Nat) (h : ∀ n, l.filter (fun p => decide (ln p = n)) = if n ≤ t then LV n else []) : l.foldl (bst v ln) none = (BF LV t).foldl (bst v (fun _ => 0)) none := by
  have hm : ∀ n y, n ≤ t → y ∈ LV n → y ∈ l ∧ ln y = n := fun n y hn hy => by
    have := h n
    rw [if_pos hn] at this
    rw [← this, List.mem_filter] at hy
    exact ⟨hy.1, of_decide_eq_true hy.2⟩
  cases l with
  | nil =>
    have : BF LV t = [] := by
      rw [List.eq_nil_iff_forall_not_mem]
      intro y hy
      obtain ⟨n, hn, hy⟩ := BF_mem hy
      have := (hm n y hn hy).1
      simp at this
    rw [this]; rfl
  | cons a l =>
    obtain ⟨m1, z, m2, e, f, g1, g2⟩ := bst_char v ln l [] [] a (fun y hy => by simp at hy) (fun y hy => by simp at hy)
    simp only [List.nil_append] at e
    rw [List.foldl_cons, bst_n, f]
    have hz := h (ln z)
    have zt : ln z ≤ t := by
      by_cases c : ln z ≤ t
      · exact c
      · rw [if_neg c, e] at hz
        have : z ∈ (m1 ++ z :: m2).filter (fun p => decide (ln p = ln z)) := by simp
        rw [hz] at this
        simp at this
    rw [if_pos zt, e, List.filter_append, List.filter_cons_of_pos (by simp)] at hz
    obtain ⟨pre, post, e1, e2, e3⟩ := BF_split (LV := LV) zt
    rw [e1, ← hz]
    have ew : ∀ (A B C D : List α), A ++ ((B ++ z :: C) ++ D) = (A ++ B) ++ z :: (C ++ D) := fun A B C D => by simp
    rw [ew]
    symm
    have inl : ∀ y, y ∈ a :: l → y ∈ m1 ∨ y = z ∨ y ∈ m2 := fun y hy => by
      rw [e, List.mem_append, List.mem_cons] at hy
      exact hy
    refine bst_conv v (fun _ => 0) (fun y hy => ?_) (fun y hy => ?_)
    · rw [List.mem_append] at hy
      rcases hy with hy | hy
      · obtain ⟨n, hn, hy⟩ := e2 y hy
        obtain ⟨h1, h2⟩ := hm n y (by omega) hy
        rcases inl y h1 with h3 | h3 | h3
        · have := g1 y h3; unfold btr at *; omega
        · rw [h3] at h2; omega
        · have := g2 y h3; unfold btr at *; omega
      · rw [List.mem_filter] at hy
        have h2 := of_decide_eq_true hy.2
        have := g1 y hy.1
        unfold btr at *; omega
    · rw [List.mem_append] at hy
      have key : y ∈ a :: l → ¬ btr v (fun _ => 0) y z := fun h1 => by
        show ¬ (v z < v y ∨ (v y = v z ∧ 0 < 0))
        rcases inl y h1 with h3 | h3 | h3
        · have := g1 y h3; unfold btr at this; omega
        · rw [h3]; omega
        · have := g2 y h3; unfold btr at this; omega
      rcases hy with hy | hy
      · rw [List.mem_filter] at hy
        exact key (by rw [e]; simp [hy.1])
      · obtain ⟨n, hn, -, hy⟩ := e3 y hy
        exact key (hm n y hn hy).1
set_option maxHeartbeats 1000000 in
theorem cnt_1 {α : Type} (ln : α → Nat) (t : Nat) : ∀ l : List α, (l.filter (fun p => decide (ln p ≤ t))).length + (l.filter (fun p => decide (ln p = t + 1))).length = (l.filter (fun p => decide (ln p ≤ t + 1))).length := by
  intro l
  induction l with
  | nil => rfl
  | cons a l ih =>
    by_cases h1 : ln a ≤ t
    · rw [List.filter_cons_of_pos (by simpa using h1), List.filter_cons_of_neg (by simp; omega), List.filter_cons_of_pos (by simp; omega)]
      simp only [List.length_cons]
      omega
    · by_cases h2 : ln a = t + 1
      · rw [List.filter_cons_of_neg (by simp; omega), List.filter_cons_of_pos (by simpa using h2), List.filter_cons_of_pos (by simp; omega)]
        simp only [List.length_cons]
        omega
      · rw [List.filter_cons_of_neg (by simp; omega), List.filter_cons_of_neg (by simp; omega), List.filter_cons_of_neg (by simp; omega)]
        exact ih
set_option maxHeartbeats 1000000 in
theorem cnt_eq {α : Type} (ln : α → Nat) (l : List α) : ∀ t : Nat, (BF (fun n => l.filter (fun p => decide (ln p = n))) t).length = (l.filter (fun p => decide (ln p ≤ t))).length := by
  intro t
  induction t with
  | zero =>
    rw [BF]
    congr 1
    refine List.filter_congr (fun x _ => ?_)
    simp
  | succ t ih =>
    rw [BF, List.length_append, ih]
    exact cnt_1 ln t l
set_option maxHeartbeats 1000000 in
theorem BF_congr {α : Type} {LV LW : Nat → List α} : ∀ {t : Nat}, (∀ n, n ≤ t → LV n = LW n) → BF LV t = BF LW t := by
  intro t
  induction t with
  | zero => intro h; exact h 0 (Nat.le_refl _)
  | succ t ih => intro h; rw [BF, BF, ih (fun n hn => h n (by omega)), h (t + 1) (Nat.le_refl _)]
set_option maxHeartbeats 1000000 in
theorem fm_congr {α β : Type} {f g : α → List β} : ∀ {l : List α}, (∀ a, a ∈ l → f a = g a) → l.flatMap f = l.flatMap g := by
  intro l
  induction l with
  | nil => intro _; rfl
  | cons a l ih =>
    intro h
    rw [List.flatMap_cons, List.flatMap_cons, h a (by simp), ih (fun b hb => h b (by simp [hb]))]
set_option maxHeartbeats 1000000 in
theorem fm_filter {α β : Type} {g : α → List β} {b : α → Bool} : ∀ {l : List α}, (∀ a, a ∈ l → b a = false → g a = []) → l.flatMap g = (l.filter b).flatMap g := by
  intro l
  induction l with
  | nil => intro _; rfl
  | cons a l ih =>
    intro h
    have ih := ih (fun c hc => h c (by simp [hc]))
    cases hb : b a with
    | true => rw [List.flatMap_cons, List.filter_cons_of_pos hb, List.flatMap_cons, ih]
    | false => rw [List.flatMap_cons, List.filter_cons_of_neg (by simp [hb]), h a (by simp) hb, ih]; rfl
set_option maxHeartbeats 1000000 in
theorem range_mul (a m : Nat) : List.range (a * m) = (List.range a).flatMap (fun i => (List.range m).map (fun y => i * m + y)) := by
  induction a with
  | zero => simp
  | succ a ih =>
    rw [Nat.succ_mul, List.range_add, List.range_succ, List.flatMap_append, ← ih]
    simp
/-! all plans of a few steps -/
def cst : List Nat := [0, 1, 2, 3, 4, 5, 10, 11, 12, 13, 14, 15, 20, 21]
def okB (N s : Nat) : Bool := decide (s = 20 ∨ s = 21 ∨ s < N ∨ (10 ≤ s ∧ s < 10 + N))
set_option maxHeartbeats 1000000 in
theorem okB_iff {N s : Nat} : okB N s = true ↔ pOk N s := by unfold okB pOk; simp
def sRk (N r : Nat) : Nat := if r < N then r else if r < 2 * N then 10 + r - N else 20 + r - 2 * N
def stl (N : Nat) : List Nat := (List.range (2 * N + 2)).map (sRk N)
set_option maxHeartbeats 1000000 in
theorem stl_eq {N : Nat} (h1 : 1 ≤ N) (h6 : N ≤ 6) : cst.filter (okB N) = stl N := by
  rcases (show N = 1 ∨ N = 2 ∨ N = 3 ∨ N = 4 ∨ N = 5 ∨ N = 6 by omega) with rfl | rfl | rfl | rfl | rfl | rfl <;> decide
set_option maxHeartbeats 1000000 in
theorem stl_ok {N r : Nat} (h6 : N ≤ 6) (hr : r < 2 * N + 2) : pOk N (sRk N r) := by
  unfold sRk pOk
  split
  · omega
  · split <;> omega
def aOk (N : Nat) (mn : Int32) (f : Nat → Nat → Int32) (s : Nat) (Q : zPs) : Prop := pOk N s ∧ pCan N mn f s Q
noncomputable def kid {β : Type} (c : Prop) (l : List β) : List β := @ite _ c (Classical.propDecidable _) l []
set_option maxHeartbeats 1000000 in
theorem kid_y {β : Type} {c : Prop} {l : List β} (h : c) : kid c l = l := if_pos h
set_option maxHeartbeats 1000000 in
theorem kid_n {β : Type} {c : Prop} {l : List β} (h : ¬ c) : kid c l = [] := if_neg h
set_option maxHeartbeats 1000000 in
theorem kid_f {β : Type} {c : Prop} {l : List β} {p : β → Bool} : (kid c l).filter p = kid c (l.filter p) := by
  by_cases h : c
  · rw [kid_y h, kid_y h]
  · rw [kid_n h, kid_n h]; rfl
noncomputable def dfs (N : Nat) (mn : Int32) (f : Nat → Nat → Int32) : Nat → zPs → List (List Nat)
  | 0, _ => [[]]
  | t + 1, Q => [] :: cst.flatMap (fun s => kid (aOk N mn f s Q) ((dfs N mn f t (mStp N f s Q)).map (fun r => s :: r)))
noncomputable def lev (N : Nat) (mn : Int32) (f : Nat → Nat → Int32) : Nat → zPs → List (List Nat)
  | 0, _ => [[]]
  | t + 1, Q => cst.flatMap (fun s => kid (aOk N mn f s Q) ((lev N mn f t (mStp N f s Q)).map (fun r => s :: r)))
def endQ (N : Nat) (f : Nat → Nat → Int32) (Q : zPs) (p : List Nat) : zPs := p.foldl (fun Q s => mStp N f s Q) Q
def qV (N : Nat) (mn : Int32) (f : Nat → Nat → Int32) : List Nat → zPs → Prop
  | [], _ => True
  | s :: r, Q => aOk N mn f s Q ∧ qV N mn f r (mStp N f s Q)
set_option maxHeartbeats 1000000 in
theorem dfs_filter {N : Nat} {mn : Int32} {f : Nat → Nat → Int32} : ∀ (t n : Nat) (Q : zPs), (dfs N mn f t Q).filter (fun p => decide (p.length = n)) = if n ≤ t then lev N mn f n Q else [] := by
  intro t
  induction t with
  | zero =>
    intro n Q
    cases n with
    | zero => rfl
    | succ n => rw [if_neg (by omega)]; rfl
  | succ t ih =>
    intro n Q
    rw [dfs]
    cases n with
    | zero =>
      rw [List.filter_cons_of_pos (by simp), if_pos (by omega), lev]
      congr 1
      rw [List.filter_eq_nil_iff]
      intro p hp
      rw [List.mem_flatMap] at hp
      obtain ⟨s, -, hp⟩ := hp
      by_cases hc : aOk N mn f s Q
      · rw [kid_y hc, List.mem_map] at hp
        obtain ⟨r, -, rfl⟩ := hp
        simp
      · rw [kid_n hc] at hp
        simp at hp
    | succ n =>
      rw [List.filter_cons_of_neg (by simp), List.filter_flatMap]
      by_cases hn : n ≤ t
      · rw [if_pos (by omega), lev]
        refine fm_congr (fun s _ => ?_)
        rw [kid_f, List.filter_map]
        congr 2
        rw [← if_pos (c := n ≤ t) (t := lev N mn f n (mStp N f s Q)) (e := []) hn, ← ih]
        refine List.filter_congr (fun x _ => ?_)
        simp
      · rw [if_neg (by omega)]
        rw [List.flatMap_eq_nil_iff]
        intro s _
        rw [kid_f, List.filter_map]
        have : (dfs N mn f t (mStp N f s Q)).filter ((fun p => decide (p.length = n + 1)) ∘ fun r => s :: r) = [] := by
          have h := ih n (mStp N f s Q)
          rw [if_neg hn] at h
          rw [← h]
          refine List.filter_congr (fun x _ => ?_)
          simp
        rw [this]
        by_cases hc : aOk N mn f s Q
        · rw [kid_y hc]; rfl
        · rw [kid_n hc]
set_option maxHeartbeats 1000000 in
theorem dfs_len {N : Nat} {mn : Int32} {f : Nat → Nat → Int32} {t : Nat} {Q : zPs} {p : List Nat} (h : p ∈ dfs N mn f t Q) : p.length ≤ t := by
  have h2 := dfs_filter (N := N) (mn := mn) (f := f) t p.length Q
  by_cases c : p.length ≤ t
  · exact c
  · rw [if_neg c] at h2
    have : p ∈ (dfs N mn f t Q).filter (fun q => decide (q.length = p.length)) := by simp [h]
    rw [h2] at this
    simp at this
/-! the rows by their number -/
def als (S : List Nat) : Nat → List (List Nat)
  | 0 => [[]]
  | n + 1 => S.flatMap (fun s => (als S n).map (fun r => s :: r))
noncomputable def vB (N : Nat) (mn : Int32) (f : Nat → Nat → Int32) (Q : zPs) (p : List Nat) : Bool := @decide (qV N mn f p Q) (Classical.propDecidable _)
set_option maxHeartbeats 1000000 in
theorem vB_iff {N : Nat} {mn : Int32} {f : Nat → Nat → Int32} {Q : zPs} {p : List Nat} : vB N mn f Q p = true ↔ qV N mn f p Q := by unfold vB; exact @decide_eq_true_iff _ (Classical.propDecidable _)
set_option maxHeartbeats 1000000 in
theorem lev_als {N : Nat} {mn : Int32} {f : Nat → Nat → Int32} (h1 : 1 ≤ N) (h6 : N ≤ 6) : ∀ (n : Nat) (Q : zPs), lev N mn f n Q = (als (stl N) n).filter (vB N mn f Q) := by
  intro n
  induction n with
  | zero =>
    intro Q
    rw [lev, als, List.filter_cons_of_pos (vB_iff.mpr (show qV N mn f [] Q from trivial))]
    rfl
  | succ n ih =>
    intro Q
    rw [lev, als, fm_filter (b := okB N) (fun s _ hb => kid_n (fun x => by rw [okB_iff.mpr x.1] at hb; exact absurd hb (by decide))), stl_eq h1 h6, List.filter_flatMap]
    refine fm_congr (fun s _ => ?_)
    rw [List.filter_map, ih]
    by_cases hc : aOk N mn f s Q
    · rw [kid_y hc]
      congr 1
      refine List.filter_congr (fun x _ => ?_)
      rw [Bool.eq_iff_iff, vB_iff, Function.comp_apply, vB_iff, qV]
      exact ⟨fun h => ⟨hc, h⟩, fun h => h.2⟩
    · rw [kid_n hc]
      have : (als (stl N) n).filter (vB N mn f Q ∘ fun r => s :: r) = [] := by
        rw [List.filter_eq_nil_iff]
        intro x _
        rw [Function.comp_apply, vB_iff, qV]
        exact fun h => hc h.1
      rw [this]
      rfl
def dgl (S : Nat) : Nat → Nat → List Nat
  | 0, _ => []
  | n + 1, x => (x / S ^ n) % S :: dgl S n x
set_option maxHeartbeats 1000000 in
theorem dgl_add {S : Nat} (hS : 0 < S) : ∀ (n x a : Nat), dgl S n (x + S ^ n * a) = dgl S n x := by
  intro n
  induction n with
  | zero => intro x a; rfl
  | succ n ih =>
    intro x a
    rw [dgl, dgl]
    have e : x + S ^ (n + 1) * a = x + S ^ n * (S * a) := by rw [Nat.pow_succ, Nat.mul_assoc]
    rw [e, ih, Nat.add_mul_div_left _ _ (Nat.pow_pos hS), Nat.add_mul_mod_self_left]
set_option maxHeartbeats 1000000 in
theorem dgl_len {S : Nat} : ∀ (n x : Nat), (dgl S n x).length = n := by
  intro n
  induction n with
  | zero => intro x; rfl
  | succ n ih => intro x; rw [dgl, List.length_cons, ih]
def pl (N n x : Nat) : List Nat := (dgl (2 * N + 2) n x).map (sRk N)
set_option maxHeartbeats 1000000 in
theorem pl_len {N n x : Nat} : (pl N n x).length = n := by unfold pl; rw [List.length_map, dgl_len]
set_option maxHeartbeats 1000000 in
theorem als_pl {N : Nat} : ∀ n : Nat, als (stl N) n = (List.range ((2 * N + 2) ^ n)).map (pl N n) := by
  intro n
  induction n with
  | zero => rfl
  | succ n ih =>
    have hS : 0 < 2 * N + 2 := by omega
    rw [als, ih, Nat.pow_succ, Nat.mul_comm ((2 * N + 2) ^ n) (2 * N + 2), range_mul, List.map_flatMap, stl, List.flatMap_map]
    refine fm_congr (fun a ha => ?_)
    rw [List.mem_range] at ha
    rw [List.map_map, List.map_map]
    refine List.map_congr_left (fun y hy => ?_)
    rw [List.mem_range] at hy
    simp only [Function.comp_apply, pl, dgl, List.map_cons]
    have e : a * (2 * N + 2) ^ n + y = y + (2 * N + 2) ^ n * a := by rw [Nat.mul_comm a, Nat.add_comm]
    rw [e, dgl_add hS, Nat.add_mul_div_left _ _ (Nat.pow_pos hS), Nat.div_eq_of_lt hy, Nat.zero_add, Nat.mod_eq_of_lt ha]
set_option maxHeartbeats 1000000 in
theorem pl_map {N : Nat} : ∀ (n x : Nat), (List.range n).map (fun i => sRk N ((x / (2 * N + 2) ^ (n - 1 - i)) % (2 * N + 2))) = pl N n x := by
  intro n
  induction n with
  | zero => intro x; rfl
  | succ n ih =>
    intro x
    rw [List.range_succ_eq_map, List.map_cons, List.map_map, pl, dgl, List.map_cons]
    congr 1
    rw [← pl, ← ih]
    refine List.map_congr_left (fun i hi => ?_)
    rw [List.mem_range] at hi
    simp only [Function.comp_apply]
    rw [show n + 1 - 1 - (i + 1) = n - 1 - i by omega]
set_option maxHeartbeats 1000000 in
theorem pl_get {N n x i : Nat} (hi : i < n) : (pl N n x).getD i 0 = sRk N ((x / (2 * N + 2) ^ (n - 1 - i)) % (2 * N + 2)) := by
  rw [← pl_map]
  simp [List.getD, hi]
