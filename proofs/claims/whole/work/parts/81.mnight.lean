/-! the reference: a night -/
/-- a row holds a case -/
def RW (N : Nat → Int32) (X : TN) : Prop := (∀ i, i < 12 → N i = X.2.1 i) ∧ (∀ i, i < 12 → N (12 + i) = X.2.2.1 i) ∧ (∀ i, i < 12 → N (24 + i) = X.2.2.2.1 i) ∧ N 36 = X.2.2.2.2.2.1 ∧ N 37 = X.2.2.2.2.2.2
theorem RW_B {N L W M B : Nat → Int32} {n k : Nat} {s g v : Int32} (hk : k < 12) (h : RW N (L, W, M, B, n, s, g)) : RW (upd N (24 + k) v) (L, W, M, upd B k v, n, s, g) := by
  obtain ⟨h1, h2, h3, h4, h5⟩ := h
  refine ⟨fun i hi => ?_, fun i hi => ?_, fun i hi => ?_, ?_, ?_⟩
  · show upd N (24 + k) v i = W i
    unfold upd; rw [if_neg (by omega)]; exact h1 i hi
  · show upd N (24 + k) v (12 + i) = M i
    unfold upd; rw [if_neg (by omega)]; exact h2 i hi
  · show upd N (24 + k) v (24 + i) = upd B k v i
    unfold upd
    by_cases c : i = k
    · rw [if_pos (by omega), if_pos c]
    · rw [if_neg (by omega), if_neg c]; exact h3 i hi
  · show upd N (24 + k) v 36 = s
    unfold upd; rw [if_neg (by omega)]; exact h4
  · show upd N (24 + k) v 37 = g
    unfold upd; rw [if_neg (by omega)]; exact h5
theorem RW_M {N L W M B : Nat → Int32} {n k : Nat} {s g v : Int32} (hk : k < 12) (h : RW N (L, W, M, B, n, s, g)) : RW (upd N (12 + k) v) (L, W, upd M k v, B, n, s, g) := by
  obtain ⟨h1, h2, h3, h4, h5⟩ := h
  refine ⟨fun i hi => ?_, fun i hi => ?_, fun i hi => ?_, ?_, ?_⟩
  · show upd N (12 + k) v i = W i
    unfold upd; rw [if_neg (by omega)]; exact h1 i hi
  · show upd N (12 + k) v (12 + i) = upd M k v i
    unfold upd
    by_cases c : i = k
    · rw [if_pos (by omega), if_pos c]
    · rw [if_neg (by omega), if_neg c]; exact h2 i hi
  · show upd N (12 + k) v (24 + i) = B i
    unfold upd; rw [if_neg (by omega)]; exact h3 i hi
  · show upd N (12 + k) v 36 = s
    unfold upd; rw [if_neg (by omega)]; exact h4
  · show upd N (12 + k) v 37 = g
    unfold upd; rw [if_neg (by omega)]; exact h5
theorem RW_W {N L W M B : Nat → Int32} {n k : Nat} {s g v : Int32} (hk : k < 12) (h : RW N (L, W, M, B, n, s, g)) : RW (upd N k v) (L, upd W k v, M, B, n, s, g) := by
  obtain ⟨h1, h2, h3, h4, h5⟩ := h
  refine ⟨fun i hi => ?_, fun i hi => ?_, fun i hi => ?_, ?_, ?_⟩
  · show upd N k v i = upd W k v i
    unfold upd
    by_cases c : i = k
    · rw [if_pos c, if_pos c]
    · rw [if_neg c, if_neg c]; exact h1 i hi
  · show upd N k v (12 + i) = M i
    unfold upd; rw [if_neg (by omega)]; exact h2 i hi
  · show upd N k v (24 + i) = B i
    unfold upd; rw [if_neg (by omega)]; exact h3 i hi
  · show upd N k v 36 = s
    unfold upd; rw [if_neg (by omega)]; exact h4
  · show upd N k v 37 = g
    unfold upd; rw [if_neg (by omega)]; exact h5
theorem RW_s {N L W M B : Nat → Int32} {n : Nat} {s g v : Int32} (h : RW N (L, W, M, B, n, s, g)) : RW (upd N 36 v) (L, W, M, B, n, v, g) := by
  obtain ⟨h1, h2, h3, h4, h5⟩ := h
  refine ⟨fun i hi => ?_, fun i hi => ?_, fun i hi => ?_, ?_, ?_⟩
  · show upd N 36 v i = W i
    unfold upd; rw [if_neg (by omega)]; exact h1 i hi
  · show upd N 36 v (12 + i) = M i
    unfold upd; rw [if_neg (by omega)]; exact h2 i hi
  · show upd N 36 v (24 + i) = B i
    unfold upd; rw [if_neg (by omega)]; exact h3 i hi
  · show upd N 36 v 36 = v
    unfold upd; rw [if_pos rfl]
  · show upd N 36 v 37 = g
    unfold upd; rw [if_neg (by omega)]; exact h5
theorem RW_g {N L W M B : Nat → Int32} {n : Nat} {s g v : Int32} (h : RW N (L, W, M, B, n, s, g)) : RW (upd N 37 v) (L, W, M, B, n, s, v) := by
  obtain ⟨h1, h2, h3, h4, h5⟩ := h
  refine ⟨fun i hi => ?_, fun i hi => ?_, fun i hi => ?_, ?_, ?_⟩
  · show upd N 37 v i = W i
    unfold upd; rw [if_neg (by omega)]; exact h1 i hi
  · show upd N 37 v (12 + i) = M i
    unfold upd; rw [if_neg (by omega)]; exact h2 i hi
  · show upd N 37 v (24 + i) = B i
    unfold upd; rw [if_neg (by omega)]; exact h3 i hi
  · show upd N 37 v 36 = s
    unfold upd; rw [if_neg (by omega)]; exact h4
  · show upd N 37 v 37 = v
    unfold upd; rw [if_pos rfl]
theorem sub_add3 {a b c : Int32} : a - b + c = a + c - b := by
  rw [Int32.sub_eq_add_neg, Int32.sub_eq_add_neg, Int32.add_assoc, Int32.add_assoc, Int32.add_comm c]
theorem rOt_bs {B : Nat → Int32} {β : Nat → Nat} {n i : Nat} (hB : ∀ o, o < n → B o = nI (β o) ∧ β o < 8) (hi : i < n) : ∀ k, k ≤ n → rOt B i k = bs (fun _ => 1) β (β i) k - (if i < k then 1 else 0)
  | 0, _ => by
    rw [if_neg (by omega), Int32.sub_zero]; rfl
  | k + 1, hk => by
    have ih := rOt_bs hB hi k (by omega)
    have es : rOt B i (k + 1) = if k = i then rOt B i k else if B k = B i then rOt B i k + 1 else rOt B i k := rfl
    have eb : bs (fun _ => 1) β (β i) (k + 1) = if β k = β i then bs (fun _ => 1) β (β i) k + 1 else bs (fun _ => 1) β (β i) k := rfl
    rw [es, eb]
    by_cases c : k = i
    · subst c
      rw [if_neg (by omega)] at ih
      rw [if_pos rfl, if_pos rfl, if_pos (by omega), ih, Int32.add_sub_cancel, Int32.sub_zero]
    · have e : (B k = B i) = (β k = β i) := by
        apply propext
        rw [(hB k (by omega)).1, (hB i hi).1]
        exact nI_eq (by have := (hB k (by omega)).2; omega) (by have := (hB i hi).2; omega)
      rw [if_neg c]
      simp only [e]
      have h2 : (if i < k + 1 then (1 : Int32) else 0) = if i < k then 1 else 0 := by
        by_cases q : i < k
        · rw [if_pos q, if_pos (by omega)]
        · rw [if_neg q, if_neg (by omega)]
      rw [h2]
      split
      · rw [ih, sub_add3]
      · exact ih
theorem rMd_bs {M B : Nat → Int32} {β : Nat → Nat} {n i : Nat} (hB : ∀ o, o < n → B o = nI (β o) ∧ β o < 8) (hi : i < n) : ∀ k, k ≤ n → rMd M B i k = bs M β (β i) k - (if i < k then M i else 0)
  | 0, _ => by
    rw [if_neg (by omega), Int32.sub_zero]; rfl
  | k + 1, hk => by
    have ih := rMd_bs (M := M) hB hi k (by omega)
    have es : rMd M B i (k + 1) = if k = i then rMd M B i k else if B k = B i then rMd M B i k + M k else rMd M B i k := rfl
    have eb : bs M β (β i) (k + 1) = if β k = β i then bs M β (β i) k + M k else bs M β (β i) k := rfl
    rw [es, eb]
    by_cases c : k = i
    · subst c
      rw [if_neg (by omega)] at ih
      rw [if_pos rfl, if_pos rfl, if_pos (by omega), ih, Int32.add_sub_cancel, Int32.sub_zero]
    · have e : (B k = B i) = (β k = β i) := by
        apply propext
        rw [(hB k (by omega)).1, (hB i hi).1]
        exact nI_eq (by have := (hB k (by omega)).2; omega) (by have := (hB i hi).2; omega)
      rw [if_neg c]
      simp only [e]
      have h2 : (if i < k + 1 then M i else 0) = if i < k then M i else 0 := by
        by_cases q : i < k
        · rw [if_pos q, if_pos (by omega)]
        · rw [if_neg q, if_neg (by omega)]
      rw [h2]
      split
      · rw [ih, sub_add3]
      · exact ih
theorem fo_congr {α : Type} {f f' : Nat → α → α} {a : α} : ∀ {n : Nat}, (∀ i, i < n → ∀ x, f i x = f' i x) → fo f a n = fo f' a n
  | 0, _ => rfl
  | n + 1, h => by
    show f n (fo f a n) = f' n (fo f' a n)
    rw [fo_congr (fun i hi x => h i (by omega) x), h n (by omega)]
/-- the things are the same on both sides -/
theorem renv_e {N Lm L W M B : Nat → Int32} {n i : Nat} {s g : Int32} (h : RW N (L, W, M, B, n, s, g)) (hn : n ≤ 12) (hL : ∀ i, i < n → Lm i = L i) (hB : BX n B) (hi : i < n) (cd : List Int32) : evv (renv N Lm n i) cd = evv (tc_env L W M (be B) (fun x => bs M (be B) x n) (fun x => bs (fun _ => 1) (be B) x n) g i) cd := by
  obtain ⟨h1, h2, h3, h4, h5⟩ := h
  have hB2 := fun o ho => BX_be hB (i := o) ho
  have eB : rOt (rB N) i n = rOt B i n := by
    unfold rOt
    refine fo_congr (fun o ho x => ?_)
    have e1 : rB N o = B o := h3 o (by omega)
    have e2 : rB N i = B i := h3 i (by omega)
    rw [e1, e2]
  have eM : rMd (rM N) (rB N) i n = rMd M B i n := by
    unfold rMd
    refine fo_congr (fun o ho x => ?_)
    have e1 : rB N o = B o := h3 o (by omega)
    have e2 : rB N i = B i := h3 i (by omega)
    have e3 : rM N o = M o := h2 o (by omega)
    rw [e1, e2, e3]
  have e3 := rOt_bs hB2 hi n (Nat.le_refl _)
  have e4 := rMd_bs (M := M) hB2 hi n (Nat.le_refl _)
  rw [if_pos hi] at e3 e4
  refine evv_7 _ _ (fun j hj => ?_)
  unfold renv tc_env e7
  have a1 : N (12 + i) = M i := h2 i (by omega)
  have a2 : N i = W i := h1 i (by omega)
  have a3 : N 37 = g := h5
  rw [eB, eM, e3, e4, a1, a2, a3, hL i hi]
theorem all_bit {n i : Nat} (hn : n ≤ 12) (hi : i < n) : (tc_allv (nI n) >>> (nI i &&& 31)) &&& 1 = 1 := by
  have : ∀ n : Fin 13, ∀ i : Fin 12, i.1 < n.1 → (tc_allv (nI n.1) >>> (nI i.1 &&& 31)) &&& 1 = 1 := by decide +kernel
  exact this ⟨n, by omega⟩ ⟨i, by omega⟩ hi
