/-! the world of the thin machine: its cells as a list, where the machine's heap holds them -/
def tm_ce (tc : Nat → ClassId) : tm_E → va_E
  | .inl (t, x) => .inl (tc t, x)
  | .inr o => .inr o
def tm_WL (lo : Nat) (tc : Nat → ClassId) (h : tm_H) : va_W := (List.range (h.1 - lo)).map (fun i => (lo + i, tm_ce tc (h.2.2 (lo + i))))
theorem tm_WL_i {lo : Nat} {tc : Nat → ClassId} {h : tm_H} {i : Nat} {q : Nat × va_E} (hq : (tm_WL lo tc h)[i]? = some q) : i < h.1 - lo ∧ q = (lo + i, tm_ce tc (h.2.2 (lo + i))) := by
  unfold tm_WL at hq
  rw [List.getElem?_map] at hq
  cases hr : (List.range (h.1 - lo))[i]? with
  | none => rw [hr] at hq; cases hq
  | some j =>
    rw [hr] at hq
    obtain ⟨h1, h2⟩ := List.getElem?_eq_some_iff.mp hr
    rw [List.getElem_range] at h2
    subst h2
    rw [List.length_range] at h1
    exact ⟨h1, (Option.some.inj hq).symm⟩
theorem tm_WL_at {lo : Nat} {tc : Nat → ClassId} {h : tm_H} {a : Nat} (h1 : lo ≤ a) (h2 : a < h.1) : (tm_WL lo tc h)[a - lo]? = some (a, tm_ce tc (h.2.2 a)) := by
  unfold tm_WL
  rw [List.getElem?_map, List.getElem?_range (by omega)]
  simp only [Option.map_some]
  rw [show lo + (a - lo) = a by omega]
theorem tm_WL_len {lo : Nat} {tc : Nat → ClassId} {h : tm_H} : (tm_WL lo tc h).length = h.1 - lo := by simp [tm_WL]
theorem tm_WL_put {lo : Nat} {tc : Nat → ClassId} {h : tm_H} {a : Nat} {e : tm_E} (h1 : lo ≤ a) (_h2 : a < h.1) : (tm_WL lo tc h).set (a - lo) (a, tm_ce tc e) = tm_WL lo tc (tm_put h a e) := by
  apply List.ext_getElem?
  intro i
  rw [List.getElem?_set]
  by_cases hi : a - lo = i
  · subst hi
    rw [if_pos rfl, tm_WL_len, if_pos (by omega)]
    have := tm_WL_at (tc := tc) (h := tm_put h a e) h1 _h2
    rw [this]
    simp [tm_put, tm_up]
  · rw [if_neg hi]
    unfold tm_WL
    rw [List.getElem?_map, List.getElem?_map]
    by_cases hl : i < h.1 - lo
    · rw [List.getElem?_range hl, show (List.range ((tm_put h a e).1 - lo))[i]? = some i from List.getElem?_range hl]
      simp only [Option.map_some, tm_put, tm_up]
      rw [if_neg (by omega)]
    · rw [List.getElem?_eq_none (by simp; omega), List.getElem?_eq_none (by simp [tm_put]; omega)]
      rfl
theorem tm_WL_new {lo : Nat} {tc : Nat → ClassId} {h : tm_H} {k : Nat} {e : tm_E} (h1 : lo ≤ h.1) : tm_WL lo tc h ++ [(h.1, tm_ce tc e)] = tm_WL lo tc (tm_new h k e) := by
  apply List.ext_getElem?
  intro i
  by_cases hl : i < h.1 - lo
  · rw [List.getElem?_append_left (by rw [tm_WL_len]; exact hl)]
    unfold tm_WL
    rw [List.getElem?_map, List.getElem?_map, List.getElem?_range hl, List.getElem?_range (show i < (tm_new h k e).1 - lo by show i < h.1 + 1 - lo; omega)]
    simp only [Option.map_some, tm_new, tm_up]
    rw [if_neg (by omega)]
  · rw [List.getElem?_append_right (by rw [tm_WL_len]; omega), tm_WL_len]
    by_cases he : i = h.1 - lo
    · subst he
      have := tm_WL_at (lo := lo) (tc := tc) (h := tm_new h k e) (a := h.1) h1 (by show h.1 < h.1 + 1; omega)
      rw [this]
      simp [tm_new, tm_up]
    · rw [List.getElem?_eq_none (by simp; omega), List.getElem?_eq_none (by rw [tm_WL_len]; show h.1 + 1 - lo ≤ i; omega)]
theorem tm_WL_D {lo : Nat} {tc : Nat → ClassId} {h : tm_H} : va_D (fun q => lo ≤ q) (tm_WL lo tc h) := by
  refine ⟨fun i j x y hx hy hxy => ?_, fun k q hq => ?_⟩
  · obtain ⟨-, rfl⟩ := tm_WL_i hx
    obtain ⟨-, rfl⟩ := tm_WL_i hy
    dsimp only at hxy
    omega
  · obtain ⟨-, rfl⟩ := tm_WL_i hq
    exact Nat.le_add_right lo k
/-- a cell that is none: nothing of the machine's heap is said of it -/
def tm_gh (e : tm_E) : Prop := ∃ (t : Nat) (x : vp_A), e = .inl (t, x) ∧ 50 ≤ t
/-- the machine's heap holds the thin machine's -/
def tm_HW (D : va_G) (cl : List vw_C) (tc : Nat → ClassId) (lo : Nat) (h : tm_H) (H : Heap) : Prop := lo ≤ h.1 ∧ h.1 ≤ H.size ∧ va_P D cl (tm_WL lo tc h) H ∧ ∀ a, (a < lo ∨ h.1 ≤ a) → tm_gh (h.2.2 a)
theorem tm_HW.lv {D : va_G} {cl : List vw_C} {tc : Nat → ClassId} {lo : Nat} {h : tm_H} {H : Heap} (w : tm_HW D cl tc lo h H) {a : Nat} (hn : ¬ tm_gh (h.2.2 a)) : lo ≤ a ∧ a < h.1 := by
  constructor
  · exact Nat.not_lt.mp fun q => hn (w.2.2.2 a (Or.inl q))
  · exact Nat.not_le.mp fun q => hn (w.2.2.2 a (Or.inr q))
theorem tm_HW.obj {D : va_G} {cl : List vw_C} {tc : Nat → ClassId} {lo : Nat} {h : tm_H} {H : Heap} (w : tm_HW D cl tc lo h H) {a c : Nat} {fs : List Value} (he : h.2.2 a = .inr (c, fs)) : lo ≤ a ∧ a < h.1 ∧ (tm_WL lo tc h)[a - lo]? = some (a, .inr (c, fs)) := by
  have h1 := w.lv (a := a) (by rw [he]; rintro ⟨t, x, e, -⟩; cases e)
  refine ⟨h1.1, h1.2, ?_⟩
  rw [tm_WL_at h1.1 h1.2, he]
  rfl
theorem tm_HW.arr {D : va_G} {cl : List vw_C} {tc : Nat → ClassId} {lo : Nat} {h : tm_H} {H : Heap} (w : tm_HW D cl tc lo h H) {a t : Nat} {x : vp_A} (he : h.2.2 a = .inl (t, x)) (ht : t < 50) : lo ≤ a ∧ a < h.1 ∧ (tm_WL lo tc h)[a - lo]? = some (a, .inl (tc t, x)) := by
  have h1 := w.lv (a := a) (by rw [he]; rintro ⟨t, x, e, h⟩; cases e; omega)
  refine ⟨h1.1, h1.2, ?_⟩
  rw [tm_WL_at h1.1 h1.2, he]
  rfl
theorem tm_HW.put {D : va_G} {cl : List vw_C} {tc : Nat → ClassId} {lo : Nat} {h : tm_H} {H H1 : Heap} (w : tm_HW D cl tc lo h H) {a : Nat} {e : tm_E} (h1 : lo ≤ a) (h2 : a < h.1) (hP : va_P D cl ((tm_WL lo tc h).set (a - lo) (a, tm_ce tc e)) H1) : tm_HW D cl tc lo (tm_put h a e) H1 := by
  rw [tm_WL_put h1 h2] at hP
  refine ⟨w.1, ?_, hP, fun b hb => ?_⟩
  · have := (hP _ _ (tm_WL_at (h := tm_put h a e) (a := h.1 - 1) (by omega) (by show h.1 - 1 < h.1; omega))).lt
    show h.1 ≤ H1.size
    dsimp only at this
    omega
  · show tm_gh (tm_up h.2.2 a e b)
    have hb' : b < lo ∨ h.1 ≤ b := hb
    rw [tm_up_n (by omega)]
    exact w.2.2.2 b hb
theorem tm_HW.new {D : va_G} {cl : List vw_C} {tc : Nat → ClassId} {lo : Nat} {h : tm_H} {H H1 : Heap} (w : tm_HW D cl tc lo h H) {k q : Nat} {e : tm_E} (hP : va_P D cl (tm_WL lo tc h ++ [(q, tm_ce tc e)]) H1) (hD : va_D (fun q => lo ≤ q) (tm_WL lo tc h ++ [(q, tm_ce tc e)])) (hz : H1.size ≤ h.1 + 1) : q = h.1 ∧ tm_HW D cl tc lo (tm_new h k e) H1 := by
  have hq : (tm_WL lo tc h ++ [(q, tm_ce tc e)])[h.1 - lo]? = some (q, tm_ce tc e) := by
    rw [List.getElem?_append_right (by rw [tm_WL_len]; omega), tm_WL_len]
    simp
  have h1 := (hP _ _ hq).lt
  have h2 := hD.2 _ _ hq
  dsimp only at h1 h2
  have hw := w.1
  have hqq : q = h.1 := by
    by_cases hl : q < h.1
    · have h3 : (tm_WL lo tc h ++ [(q, tm_ce tc e)])[q - lo]? = some (q, tm_ce tc (h.2.2 q)) := by
        rw [List.getElem?_append_left (by rw [tm_WL_len]; omega)]
        exact tm_WL_at h2 hl
      have := hD.1 _ _ _ _ h3 hq rfl
      omega
    · omega
  subst hqq
  rw [tm_WL_new (k := k) w.1] at hP
  refine ⟨rfl, Nat.le_succ_of_le w.1, ?_, hP, fun b hb => ?_⟩
  · show h.1 + 1 ≤ H1.size
    omega
  · show tm_gh (tm_up h.2.2 h.1 e b)
    have hb' : b < lo ∨ h.1 + 1 ≤ b := hb
    rw [tm_up_n (by omega)]
    exact w.2.2.2 b (by omega)
/-! locals -/
def tm_pv (i : Nat) (v : Value) : Option (Nat × Value) := match v with
  | .retAddr _ => none
  | v => some (i, v)
theorem tm_pv_i {i j : Nat} {v w : Value} : tm_pv i v = some (j, w) ↔ i = j ∧ v = w ∧ ∀ k, v ≠ .retAddr k := by
  cases v <;> simp [tm_pv]
def tm_pl (ls : List Value) : List (Nat × Value) := (List.range ls.length).filterMap (fun i => ls[i]?.bind (tm_pv i))
theorem tm_pl_in {ls : List Value} {i : Nat} {v : Value} : (i, v) ∈ tm_pl ls ↔ ls[i]? = some v ∧ ∀ k, v ≠ .retAddr k := by
  unfold tm_pl
  rw [List.mem_filterMap]
  constructor
  · rintro ⟨j, hj, h⟩
    cases hv : ls[j]? with
    | none => rw [hv] at h; cases h
    | some w =>
      rw [hv] at h
      obtain ⟨rfl, rfl, h3⟩ := tm_pv_i.mp h
      exact ⟨hv, h3⟩
  · rintro ⟨h1, h2⟩
    refine ⟨i, List.mem_range.mpr (List.getElem?_eq_some_iff.mp h1).1, ?_⟩
    rw [h1]
    exact tm_pv_i.mpr ⟨rfl, rfl, h2⟩
def tm_LR (lsC : Array Slot) (n : Nat) (ls : List Value) : Prop := ls.length = n ∧ lv_has lsC n (tm_pl ls)
theorem tm_LR.at {lsC : Array Slot} {n : Nat} {ls : List Value} (h : tm_LR lsC n ls) {i : Nat} {v : Value} (hi : ls[i]? = some v) (hv : ∀ k, v ≠ .retAddr k) : lsC[i]? = some (.val v) := h.2.2.2 (i, v) (tm_pl_in.mpr ⟨hi, hv⟩)
theorem tm_set1_i : ∀ {ls ls' : List Value} {i : Nat} {v : Value}, tm_set1 ls i v = some ls' → i < ls.length ∧ ls' = ls.set i v ∧ ∀ j w, j + 1 = i → ls[j]? = some w → w.category ≠ 2
  | [], _, _, _, h => by simp [tm_set1] at h
  | x :: t, ls', 0, v, h => by
    simp only [tm_set1, Option.some.injEq] at h
    subst h
    exact ⟨by simp, rfl, fun j w h _ => by omega⟩
  | x :: t, ls', i + 1, v, h => by
    simp only [tm_set1] at h
    split at h
    · cases h
    · rename_i hc
      cases hs : tm_set1 t i v with
      | none => rw [hs] at h; cases h
      | some t' =>
        rw [hs] at h
        cases h
        obtain ⟨h1, h2, h3⟩ := tm_set1_i hs
        refine ⟨by simp; omega, by rw [h2]; rfl, fun j w hj hw => ?_⟩
        cases j with
        | zero =>
          simp only [List.getElem?_cons_zero, Option.some.injEq] at hw
          subst hw
          exact fun e => hc ⟨by omega, e⟩
        | succ j => exact h3 j w (by omega) (by simpa using hw)
theorem tm_set2_i : ∀ {ls ls' : List Value} {i : Nat} {v : Value}, tm_set2 ls i v = some ls' → i + 1 < ls.length ∧ ls' = (ls.set i v).set (i + 1) tm_z ∧ ∀ j w, j + 1 = i → ls[j]? = some w → w.category ≠ 2
  | [], _, _, _, h => by simp [tm_set2] at h
  | [x], _, _, _, h => by simp [tm_set2] at h
  | x :: y :: t, ls', 0, v, h => by
    simp only [tm_set2, Option.some.injEq] at h
    subst h
    exact ⟨by simp, rfl, fun j w h _ => by omega⟩
  | x :: y :: t, ls', i + 1, v, h => by
    simp only [tm_set2] at h
    split at h
    · cases h
    · rename_i hc
      cases hs : tm_set2 (y :: t) i v with
      | none => rw [hs] at h; cases h
      | some t' =>
        rw [hs] at h
        cases h
        obtain ⟨h1, h2, h3⟩ := tm_set2_i hs
        refine ⟨by simp only [List.length_cons] at h1 ⊢; omega, by rw [h2]; rfl, fun j w hj hw => ?_⟩
        cases j with
        | zero =>
          simp only [List.getElem?_cons_zero, Option.some.injEq] at hw
          subst hw
          exact fun e => hc ⟨by omega, e⟩
        | succ j => exact h3 j w (by omega) (by simpa using hw)
theorem tm_LR.set1 {lsC : Array Slot} {n : Nat} {ls ls' : List Value} (h : tm_LR lsC n ls) {i : Nat} {v : Value} (hs : tm_set1 ls i v = some ls') {lsD : Array Slot} (hD : lv_has lsD n ((i, v) :: (tm_pl ls).filter (fun q => !(q.1 == i) && !(q.1 + 1 == i && q.2.category == 2)))) : tm_LR lsD n ls' := by
  obtain ⟨h1, rfl, h3⟩ := tm_set1_i hs
  refine ⟨by rw [List.length_set]; exact h.1, hD.1, hD.2.1, ?_⟩
  rintro ⟨j, w⟩ hq
  obtain ⟨g1, g2⟩ := tm_pl_in.mp hq
  apply hD.2.2
  rw [List.getElem?_set] at g1
  by_cases hj : i = j
  · subst hj
    rw [if_pos rfl, if_pos h1] at g1
    cases g1
    exact List.mem_cons_self
  · rw [if_neg hj] at g1
    refine List.mem_cons_of_mem _ (List.mem_filter.mpr ⟨tm_pl_in.mpr ⟨g1, g2⟩, ?_⟩)
    have h4 : (j == i) = false := by simpa using fun e : j = i => hj e.symm
    dsimp only
    rw [h4]
    by_cases hk : j + 1 = i
    · have := h3 j w hk g1
      simp [this]
    · simp [hk]
theorem tm_LR.set2 {lsC : Array Slot} {n : Nat} {ls ls' : List Value} (h : tm_LR lsC n ls) {i : Nat} {v : Value} (hs : tm_set2 ls i v = some ls') {lsD : Array Slot} (hD : lv_has lsD n ((i, v) :: (tm_pl ls).filter (fun q => !(q.1 == i) && (!(q.1 == i + 1) && !(q.1 + 1 == i && q.2.category == 2))))) : tm_LR lsD n ls' := by
  obtain ⟨h1, rfl, h3⟩ := tm_set2_i hs
  refine ⟨by rw [List.length_set, List.length_set]; exact h.1, hD.1, hD.2.1, ?_⟩
  rintro ⟨j, w⟩ hq
  obtain ⟨g1, g2⟩ := tm_pl_in.mp hq
  apply hD.2.2
  rw [List.getElem?_set] at g1
  by_cases hj1 : i + 1 = j
  · subst hj1
    rw [if_pos rfl, if_pos (by rw [List.length_set]; exact h1)] at g1
    cases g1
    exact absurd rfl (g2 0)
  rw [if_neg hj1, List.getElem?_set] at g1
  by_cases hj : i = j
  · subst hj
    rw [if_pos rfl, if_pos (by omega)] at g1
    cases g1
    exact List.mem_cons_self
  · rw [if_neg hj] at g1
    refine List.mem_cons_of_mem _ (List.mem_filter.mpr ⟨tm_pl_in.mpr ⟨g1, g2⟩, ?_⟩)
    have h4 : (j == i) = false := by simpa using fun e : j = i => hj e.symm
    have h5 : (j == i + 1) = false := by simpa using fun e : j = i + 1 => hj1 e.symm
    dsimp only
    rw [h4, h5]
    by_cases hk : j + 1 = i
    · have := h3 j w hk g1
      simp [this]
    · simp [hk]
theorem tm_ex_len (vs : List Value) : (lg_sl vs).length = (tm_ex vs).length := by
  induction vs with
  | nil => rfl
  | cons v t ih =>
    have e : lg_sl (v :: t) = (if v.category = 2 then [.val v, .second] else [.val v]) ++ lg_sl t := by simp only [lg_sl, List.flatMap_cons]
    have e2 : tm_ex (v :: t) = if v.category = 2 then v :: tm_z :: tm_ex t else v :: tm_ex t := rfl
    rw [e, e2, List.length_append, ih]
    by_cases h : v.category = 2
    · rw [if_pos h, if_pos h]
      simp only [List.length_cons, List.length_nil]
      omega
    · rw [if_neg h, if_neg h]
      simp only [List.length_cons, List.length_nil]
      omega
theorem tm_ex_in : ∀ (vs : List Value) (k i : Nat) (v : Value), (tm_ex vs)[i]? = some v → (∀ n, v ≠ .retAddr n) → (k + i, v) ∈ lv_args k vs
  | [], k, i, v, h, _ => by simp [tm_ex] at h
  | x :: t, k, i, v, h, hv => by
    unfold tm_ex at h
    unfold lv_args
    by_cases hc : x.category = 2
    · rw [if_pos hc] at h ⊢
      match i, h with
      | 0, h => simp only [List.getElem?_cons_zero, Option.some.injEq] at h; subst h; exact List.mem_cons_self
      | 1, h => simp only [List.getElem?_cons_succ, List.getElem?_cons_zero, Option.some.injEq] at h; exact absurd h.symm (hv 0)
      | i + 2, h =>
        have := tm_ex_in t (k + 2) i v (by simpa using h) hv
        rw [show k + (i + 2) = k + 2 + i by omega]
        exact List.mem_cons_of_mem _ this
    · rw [if_neg hc] at h ⊢
      match i, h with
      | 0, h => simp only [List.getElem?_cons_zero, Option.some.injEq] at h; subst h; exact List.mem_cons_self
      | i + 1, h =>
        have := tm_ex_in t (k + 1) i v (by simpa using h) hv
        rw [show k + (i + 1) = k + 1 + i by omega]
        exact List.mem_cons_of_mem _ this
theorem tm_LR.ent {vs : List Value} {n : Nat} (h : (tm_ex vs).length ≤ n) : tm_LR ((lg_sl vs ++ List.replicate (n - (lg_sl vs).length) Slot.unset).toArray) n (tm_ent vs n) := by
  have hl := lv_entry vs (n := n) (by rw [tm_ex_len]; exact h)
  refine ⟨by simp [tm_ent]; omega, hl.1, hl.2.1, ?_⟩
  rintro ⟨j, w⟩ hq
  obtain ⟨g1, g2⟩ := tm_pl_in.mp hq
  apply hl.2.2
  unfold tm_ent at g1
  by_cases hj : j < (tm_ex vs).length
  · rw [List.getElem?_append_left hj] at g1
    have := tm_ex_in vs 0 j w g1 g2
    rwa [Nat.zero_add] at this
  · rw [List.getElem?_append_right (by omega), List.getElem?_replicate] at g1
    split at g1
    · cases g1
      exact absurd rfl (g2 0)
    · cases g1
