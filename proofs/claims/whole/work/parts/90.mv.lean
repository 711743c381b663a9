/-! the reference's world, in the components of the class's -/
/-- rows that calls use and forget: kind and length -/
def msh (j : Nat) : Option (Nat × Nat) := if j = 5 then some (0, 36) else if j = 8 then some (0, 7) else if j = 10 then some (0, 38) else if j = 11 then some (0, 38) else if j = 12 then some (0, 13) else if j = 13 then some (0, 8) else if j = 14 then some (0, 320) else if j = 15 then some (0, 80) else if j = 16 then some (0, 64) else if j = 17 then some (0, 3800) else if j = 18 then some (0, 8) else if j = 19 then some (0, 8) else if j = 25 then some (0, 19) else if j = 26 then some (0, 61) else none
def MX (C : Nat → tm_E) : Prop := ∀ j t l, msh j = some (t, l) → ∃ f, C j = .inl (t, l, .inl f)
/-- numbers and rows that hold what lasts (but the text and the row of answers) -/
def kI (k : Nat) : Bool := k == 1 || k == 16 || k == 17 || k == 20 || k == 35 || k == 39 || k == 43
def kC (j : Nat) : Bool := j == 1 || j == 2 || j == 6 || j == 7 || j == 9 || j == 20 || j == 21 || j == 22 || j == 23 || j == 24 || j == 27 || j == 28 || j == 29
/-- what lasts is the same; the rest has its shape -/
def KP (I I' : Nat → Int32) (C C' : Nat → tm_E) : Prop := (∀ k, kI k = true → I' k = I k) ∧ (∀ j, kC j = true → C' j = C j) ∧ MX C'
theorem KP.refl {I : Nat → Int32} {C : Nat → tm_E} (h : MX C) : KP I I C C := ⟨fun _ _ => rfl, fun _ _ => rfl, h⟩
theorem KP.trans {I I' I2 : Nat → Int32} {C C' C2 : Nat → tm_E} (a : KP I I' C C') (b : KP I' I2 C' C2) : KP I I2 C C2 := ⟨fun k hk => (b.1 k hk).trans (a.1 k hk), fun j hj => (b.2.1 j hj).trans (a.2.1 j hj), b.2.2⟩
theorem KP.iu {I I' : Nat → Int32} {C C' : Nat → tm_E} {k : Nat} {v : Int32} (a : KP I I' C C') (hk : kI k = false) : KP I (iu I' k v) C C' := ⟨fun j hj => (if_neg (fun e => by subst e; rw [hk] at hj; cases hj)).trans (a.1 j hj), a.2⟩
theorem MX.cs {C : Nat → tm_E} {j t l : Nat} {f : Nat → Int32} (h : MX C) (hj : msh j = some (t, l)) : MX (cup C j (.inl (t, l, .inl f))) := by
  intro i t' l' hi
  by_cases e : i = j
  · subst e
    rw [hj] at hi
    cases hi
    exact ⟨f, if_pos rfl⟩
  · obtain ⟨g, hg⟩ := h i t' l' hi
    exact ⟨g, (if_neg e).trans hg⟩
theorem MX.cn {C : Nat → tm_E} {j : Nat} {e : tm_E} (h : MX C) (hj : msh j = none) : MX (cup C j e) := by
  intro i t' l' hi
  obtain ⟨g, hg⟩ := h i t' l' hi
  exact ⟨g, (if_neg (fun q => by subst q; rw [hj] at hi; cases hi)).trans hg⟩
theorem MX.of {C C' : Nat → tm_E} (h : MX C) (hc : ∀ j t l, msh j = some (t, l) → C' j = C j ∨ ∃ f, C' j = .inl (t, l, .inl f)) : MX C' := by
  intro j t l hj
  rcases hc j t l hj with e | e
  · obtain ⟨f, hf⟩ := h j t l hj
    exact ⟨f, e.trans hf⟩
  · exact e
theorem KP.cs {I I' : Nat → Int32} {C C' : Nat → tm_E} {j t l : Nat} {f : Nat → Int32} (a : KP I I' C C') (hk : kC j = false) (hj : msh j = some (t, l)) : KP I I' C (cup C' j (.inl (t, l, .inl f))) := ⟨a.1, fun i hi => (if_neg (fun e => by subst e; rw [hk] at hi; cases hi)).trans (a.2.1 i hi), a.2.2.cs hj⟩
theorem KP.cn {I I' : Nat → Int32} {C C' : Nat → tm_E} {j : Nat} {e : tm_E} (a : KP I I' C C') (hk : kC j = false) (hj : msh j = none) : KP I I' C (cup C' j e) := ⟨a.1, fun i hi => (if_neg (fun q => by subst q; rw [hk] at hi; cases hi)).trans (a.2.1 i hi), a.2.2.cn hj⟩
theorem RSC_KP {I I' : Nat → Int32} {C C' : Nat → tm_E} (hx : MX C) (a : RSC I I' C C') : KP I I' C C' := by
  obtain ⟨a1, a2, a3, a4, a5⟩ := a
  refine ⟨fun k hk => a1 k ?_ ?_ ?_ ?_ ?_ ?_, fun j hj => a3 j ?_ ?_, hx.of (fun j t l hj => ?_)⟩
  iterate 6 (intro e; subst e; cases hk)
  iterate 2 (intro e; subst e; cases hj)
  by_cases e : j = 12
  · subst e; cases hj; exact Or.inr a4
  · by_cases e2 : j = 13
    · subst e2; cases hj; exact Or.inr a5
    · exact Or.inl (a3 j e e2)
theorem NSC_KP {I I' : Nat → Int32} {C C' : Nat → tm_E} (hx : MX C) (a : NSC 11 I I' C C') (h11 : ∃ f, C' 11 = .inl (0, 38, .inl f)) : KP I I' C C' := by
  obtain ⟨a1, a2, a3, a4⟩ := a
  refine ⟨fun k hk => a1 k ?_ ?_ ?_ ?_, fun j hj => a2 j ?_ ?_ ?_, hx.of (fun j t l hj => ?_)⟩
  iterate 4 (intro e; subst e; cases hk)
  iterate 3 (intro e; subst e; cases hj)
  by_cases e : j = 8
  · subst e; cases hj; exact Or.inr a3
  · by_cases e2 : j = 5
    · subst e2; cases hj; exact Or.inr a4
    · by_cases e3 : j = 11
      · subst e3; cases hj; exact Or.inr h11
      · exact Or.inl (a2 j e e2 e3)
abbrev PA : Type := Nat × Nat × (Nat → TN) × (Nat → TN) × (Nat → Int32)
def MVt (I : Nat → Int32) (C : Nat → tm_E) (tx : Nat × (Nat → Int32)) : Prop := I 4 = nI tx.1 ∧ tx.1 ≤ 80 ∧ ∃ T, C 3 = .inl (1, 80, .inl T) ∧ RT T tx.2 80
def MVr (I : Nat → Int32) (C : Nat → tm_E) (rw : Nat × (Nat → Int64)) : Prop := I 6 = nI rw.1 ∧ rw.1 ≤ 14 ∧ ∃ R, C 4 = .inl (3, 16, .inr (.inl R)) ∧ ∀ i, i < rw.1 → R i = rw.2 i
/-- wear beyond the sorts is 0 -/
def WZ (X : TN) : Prop := ∀ i, X.2.2.2.2.1 ≤ i → i < 12 → X.2.1 i = 0
def MVn (I : Nat → Int32) (C : Nat → tm_E) (X : TN) : Prop := I 1 = nI X.2.2.2.2.1 ∧ WFX X ∧ WZ X ∧ ∃ N Lm, C 1 = .inl (0, 38, .inl N) ∧ C 2 = .inl (0, 12, .inl Lm) ∧ RW N X ∧ ∀ i, i < X.2.2.2.2.1 → Lm i = X.1 i
/-- a case like another in its letters -/
def LK (X Y : TN) : Prop := Y.2.2.2.2.1 = X.2.2.2.2.1 ∧ ∀ i, i < X.2.2.2.2.1 → Y.1 i = X.1 i
def MVu (I : Nat → Int32) (C : Nat → tm_E) (X : TN) (pa : PA) : Prop := I 20 = nI pa.1 ∧ pa.1 ≤ 12 ∧ pa.2.1 < 12 ∧ ∃ U, C 9 = .inl (0, 456, .inl U) ∧ ∀ k, k < pa.1 → RW (fun j => U (38 * k + j)) (pa.2.2.1 ((pa.2.1 + 12 - pa.1 + k) % 12)) ∧ LK X (pa.2.2.1 ((pa.2.1 + 12 - pa.1 + k) % 12)) ∧ WFX (pa.2.2.1 ((pa.2.1 + 12 - pa.1 + k) % 12)) ∧ WZ (pa.2.2.1 ((pa.2.1 + 12 - pa.1 + k) % 12))
def MVk (I : Nat → Int32) (C : Nat → tm_E) (X : TN) (pa : PA) : Prop := ∃ q K b kc, I 43 = nI q ∧ q ≤ X.2.2.2.2.1 ∧ C 27 = .inl (0, 76, .inl K) ∧ C 28 = .inl (4, 2, .inl b) ∧ C 29 = .inl (0, 2, .inl kc) ∧ ∀ i, i < 2 → (pa.2.2.2.2 i = 0 ∨ pa.2.2.2.2 i = 1) ∧ b i = pa.2.2.2.2 i ∧ (pa.2.2.2.2 i = 1 → ∃ p, kc i = nI p ∧ p ≤ q ∧ (p = q ↔ (pa.2.2.2.1 i).2.2.2.2.1 = X.2.2.2.2.1) ∧ (p = q → LK X (pa.2.2.2.1 i)) ∧ (pa.2.2.2.1 i).2.2.2.2.1 ≤ X.2.2.2.2.1 ∧ RW (fun j => K (38 * i + j)) (pa.2.2.2.1 i) ∧ WFX (pa.2.2.2.1 i) ∧ WZ (pa.2.2.2.1 i))
def MVl (I : Nat → Int32) (C : Nat → tm_E) (cd : List Int32) : Prop := I 17 = 0 ∧ (∃ T F, C 7 = .inl (1, 40, .inl T) ∧ RT T F 40) ∧ ∃ rs T F, I 16 = nI rs ∧ rs ≤ 40 ∧ C 6 = .inl (1, 40, .inl T) ∧ RT T F 40 ∧ rrd F rs = .inr cd
def MVh (I : Nat → Int32) (C : Nat → tm_E) (he : Nat × (Nat → Int32)) : Prop := I 35 = nI he.1 ∧ he.1 ≤ 12 ∧ ∃ A B, C 20 = .inl (0, 12, .inl A) ∧ C 21 = .inl (0, 12, .inl B) ∧ ∀ k, k < he.1 → ∃ w v, w < 5 ∧ v < 10 ∧ (w = 2 → v ≤ 1) ∧ A k = nI w ∧ B k = nI v ∧ he.2 k = nI (10 * w + v)
def MVs (I : Nat → Int32) (C : Nat → tm_E) (mi : Nat × (Nat → Int32) × (Nat → Int32) × (Nat → Int32)) : Prop := I 39 = nI mi.1 ∧ mi.1 ≤ 10 ∧ ∃ A B D, C 22 = .inl (0, 10, .inl A) ∧ C 23 = .inl (0, 10, .inl B) ∧ C 24 = .inl (0, 10, .inl D) ∧ ∀ k, k < mi.1 → A k = mi.2.1 k ∧ B k = mi.2.2.1 k ∧ D k = mi.2.2.2 k
/-- the reference: text, row, sorts now, what can be undone or is kept, the rule's steps, heard, seen -/
def MV (I : Nat → Int32) (C : Nat → tm_E) (tx : Nat × (Nat → Int32)) (rw : Nat × (Nat → Int64)) (nw : TN) (pa : PA) (cd : List Int32) (he : Nat × (Nat → Int32)) (mi : Nat × (Nat → Int32) × (Nat → Int32) × (Nat → Int32)) : Prop := MVt I C tx ∧ MVr I C rw ∧ MVn I C nw ∧ MVu I C nw pa ∧ MVk I C nw pa ∧ MVl I C cd ∧ MVh I C he ∧ MVs I C mi ∧ MX C
section
variable {I I' : Nat → Int32} {C C' : Nat → tm_E} {tx tx' : Nat × (Nat → Int32)} {rw rw' : Nat × (Nat → Int64)} {nw : TN} {pa : PA} {cd : List Int32} {he : Nat × (Nat → Int32)} {mi : Nat × (Nat → Int32) × (Nat → Int32) × (Nat → Int32)}
theorem MVt.same (h : MVt I C tx) (h1 : I' 4 = I 4) (h2 : C' 3 = C 3) : MVt I' C' tx := by
  obtain ⟨a, b, T, c, e⟩ := h
  exact ⟨h1.trans a, b, T, h2.trans c, e⟩
theorem MVt.zero (h : MVt I C tx) (h1 : I' 4 = 0) (h2 : C' 3 = C 3) : MVt I' C' (0, tx.2) := by
  obtain ⟨a, b, T, c, e⟩ := h
  exact ⟨h1, Nat.zero_le _, T, h2.trans c, e⟩
theorem MVr.same (h : MVr I C rw) (h1 : I' 6 = I 6) (h2 : C' 4 = C 4) : MVr I' C' rw := by
  obtain ⟨a, b, T, c, e⟩ := h
  exact ⟨h1.trans a, b, T, h2.trans c, e⟩
theorem MVr.mk {k : Nat} {R R' : Nat → Int64} (h1 : I' 6 = nI k) (h2 : C' 4 = .inl (3, 16, .inr (.inl R'))) (hk : k ≤ 14) (he : ∀ i, i < k → R' i = R i) : MVr I' C' (k, R) := ⟨h1, hk, R', h2, he⟩
/-- what lasts is the same -/
theorem MV.to (h : MV I C tx rw nw pa cd he mi) (hk : KP I I' C C') (ht : MVt I' C' tx') (hr : MVr I' C' rw') : MV I' C' tx' rw' nw pa cd he mi := by
  obtain ⟨a1, a2, a3, a4, a5, a6, a7, a8, a9⟩ := h
  obtain ⟨k1, k2, k3⟩ := hk
  refine ⟨ht, hr, ?_, ?_, ?_, ?_, ?_, ?_, k3⟩
  · obtain ⟨b1, b2, b3, N, Lm, b4, b5, b6⟩ := a3
    exact ⟨(k1 1 rfl).trans b1, b2, b3, N, Lm, (k2 1 rfl).trans b4, (k2 2 rfl).trans b5, b6⟩
  · obtain ⟨b1, b2, b3, U, b4, b5⟩ := a4
    exact ⟨(k1 20 rfl).trans b1, b2, b3, U, (k2 9 rfl).trans b4, b5⟩
  · obtain ⟨q, K, b, kc, b1, b2, b3, b4, b5, b6⟩ := a5
    exact ⟨q, K, b, kc, (k1 43 rfl).trans b1, b2, (k2 27 rfl).trans b3, (k2 28 rfl).trans b4, (k2 29 rfl).trans b5, b6⟩
  · obtain ⟨b0, ⟨T7, F7, b8, b9⟩, rs, T, F, b1, b2, b3, b4⟩ := a6
    exact ⟨(k1 17 rfl).trans b0, ⟨T7, F7, (k2 7 rfl).trans b8, b9⟩, rs, T, F, (k1 16 rfl).trans b1, b2, (k2 6 rfl).trans b3, b4⟩
  · obtain ⟨b1, b2, A, B, b3, b4, b5⟩ := a7
    exact ⟨(k1 35 rfl).trans b1, b2, A, B, (k2 20 rfl).trans b3, (k2 21 rfl).trans b4, b5⟩
  · obtain ⟨b1, b2, A, B, D, b3, b4, b5, b6⟩ := a8
    exact ⟨(k1 39 rfl).trans b1, b2, A, B, D, (k2 22 rfl).trans b3, (k2 23 rfl).trans b4, (k2 24 rfl).trans b5, b6⟩
theorem MV.mx (h : MV I C tx rw nw pa cd he mi) : MX C := h.2.2.2.2.2.2.2.2
theorem MV.i7 (h : MV I C tx rw nw pa cd he mi) {v : Int32} : MV (iu I 7 v) C tx rw nw pa cd he mi := h.to ((KP.refl h.mx).iu rfl) (h.1.same rfl rfl) (h.2.1.same rfl rfl)
theorem MV.ngt (h : MV I C tx rw nw pa cd he mi) {m : Nat} : ∃ N Lm f, NGT I C m (m + 6) nw.2.2.2.2.1 Lm cd ∧ C 1 = .inl (0, 38, .inl N) ∧ C 2 = .inl (0, 12, .inl Lm) ∧ C 11 = .inl (0, 38, .inl f) ∧ RW N nw ∧ (∀ i, i < nw.2.2.2.2.1 → Lm i = nw.1 i) ∧ WFX nw ∧ I 1 = nI nw.2.2.2.2.1 ∧ nw.2.2.2.2.1 ≤ 12 := by
  obtain ⟨a1, a2, a3, a4, a5, a6, a7, a8, a9⟩ := h
  obtain ⟨b1, b2, b3, N, Lm, b4, b5, b6, b7⟩ := a3
  obtain ⟨c0, -, rs, T, F, c1, c2, c3, c4, c5⟩ := a6
  obtain ⟨f, hf⟩ := a9 11 0 38 rfl
  refine ⟨N, Lm, f, ⟨b1, b2.1.1, b5, a9 8 0 7 rfl, a9 5 0 36 rfl, c0, Or.inl rfl, rs, T, F, c1, c2, ?_, c4, c5⟩, b4, b5, hf, b6, b7, b2, b1, b2.1.1⟩
  rw [Nat.add_sub_cancel_left]
  exact c3
end
