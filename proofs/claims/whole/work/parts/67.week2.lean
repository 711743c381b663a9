/-! calls of the class: week -/
/-- moods and wear in their bounds -/
def MWB (X : TN) : Prop := (∀ i, i < X.2.2.2.2.1 → ∃ y, y < 19 ∧ X.2.2.1 i = nI y - 9) ∧ ∀ i, i < X.2.2.2.2.1 → ∃ y, y < 10 ∧ X.2.1 i = nI y
def WFX (X : TN) : Prop := WFT X ∧ MWB X
theorem MWB_m {X : TN} (h : MWB X) {i : Nat} (hi : i < X.2.2.2.2.1) : ¬ 10 + X.2.2.1 i < 0 := by
  obtain ⟨y, hy, e⟩ := h.1 i hi
  rw [e]
  have : ∀ y : Fin 19, ¬ (10 : Int32) + (nI y.1 - 9) < 0 := by decide +kernel
  exact this ⟨y, hy⟩
theorem MWB_w {X : TN} (h : MWB X) {i : Nat} (hi : i < X.2.2.2.2.1) : ¬ X.2.1 i < 0 := by
  obtain ⟨y, hy, e⟩ := h.2 i hi
  rw [e]
  exact nI_pos (by omega)
/-- two digits -/
def dg2 (F : Nat → Int32) (p : Nat) : Int32 := 10 * (F p - 48) + (F (p + 1) - 48)
/-- an act at a, behind it q: what comes of it, if it can be done -/
def wact (cd : List Int32) (F : Nat → Int32) (X : TN) (a q : Nat) : Option TN :=
  if F a = 67 then (match dg2 F (a + 1) with
    | v => if v < 0 ∨ nI X.2.2.2.2.1 ≤ v then none else if X.2.2.1 v.toNatClampNeg = 0 then none else some (X.1, X.2.1, upd X.2.2.1 v.toNatClampNeg 0, X.2.2.2))
  else if F a = 70 then (match dg2 F (a + 1) with
    | v => if v < 0 ∨ nI X.2.2.2.2.1 ≤ v then none else if X.2.1 v.toNatClampNeg = 0 then none else some (X.1, upd X.2.1 v.toNatClampNeg 0, X.2.2))
  else if F a = 77 then (match dg2 F (a + 1) with
    | v => if v < 0 ∨ nI X.2.2.2.2.1 ≤ v then none else if (X.2.2.2.2.2.1 >>> (v &&& 31)) &&& 1 = 1 then none else if X.2.2.2.1 v.toNatClampNeg = F (a + 3) - 48 then none else some (X.1, X.2.1, X.2.2.1, upd X.2.2.2.1 v.toNatClampNeg (F (a + 3) - 48), X.2.2.2.2))
  else if F a = 78 then some (nXT cd (tc_allv (nI X.2.2.2.2.1)) (F (a + 1) - 48).toNatClampNeg X)
  else if F a = 83 then (match tc_t2 X.1 X.2.1 X.2.2.2.2.1 X.2.2.2.2.2.1 (lcn F (a + 3) (q - (a + 3))) 8 0 0 with
    | none => none
    | some t => some (X.1, tc_sW t X.2.1 X.2.2.2.2.1, tc_sM t (sgd F (a + 1)) X.2.2.1 X.2.2.2.2.1, X.2.2.2.1, X.2.2.2.2.1, X.2.2.2.2.2.1 ||| t, X.2.2.2.2.2.2))
  else none
/-- an act that was read is good: its signs fit -/
def agd (F : Nat → Int32) (c a q : Nat) : Prop := bha F c a = .inr q
theorem nM_b {V : (Nat → Int32) → Int32} {L W M : Nat → Int32} {β : Nat → Nat} {n N : Nat} {g mem : Int32} (h : ∀ i, i < N → ∃ y, y < 19 ∧ M i = nI y - 9) : ∀ k, ∀ i, i < N → ∃ y, y < 19 ∧ nM V L W M β n g mem k i = nI y - 9
  | 0 => h
  | k + 1 => by
    intro i hi
    have es : nM V L W M β n g mem (k + 1) = if (mem >>> (nI k &&& 31)) &&& 1 = 1 then upd (nM V L W M β n g mem k) k (nE V L W M β n g k) else nM V L W M β n g mem k := rfl
    rw [es]
    split
    · unfold upd
      split
      · unfold nE
        obtain ⟨y, hy, -, e⟩ := pm_9 (M k + pm (V (tc_env L W M β (fun x => bs M β x n) (fun x => bs (fun _ => 1) β x n) g k)))
        exact ⟨y, hy, e⟩
      · exact nM_b h k i hi
    · exact nM_b h k i hi
theorem ngs_b {V : (Nat → Int32) → Int32} {L W : Nat → Int32} {n N : Nat} {mem : Int32} : ∀ {m : Nat} {X : NX}, (∀ i, i < N → ∃ y, y < 19 ∧ X.1 i = nI y - 9) → ∀ i, i < N → ∃ y, y < 19 ∧ (ngs V L W n mem m X).1 i = nI y - 9
  | 0, X, h => h
  | m + 1, X, h => ngs_b (m := m) (X := ngt V L W n mem X) (nM_b h n)
theorem WFX_nXT {cd : List Int32} {mem : Int32} {m : Nat} {X : TN} (h : WFX X) : WFX (nXT cd mem m X) := ⟨WFT_nXT h.1, ngs_b h.2.1, h.2.2⟩
theorem sM_b {t v : Int32} {M : Nat → Int32} {N : Nat} (h : ∀ i, i < N → ∃ y, y < 19 ∧ M i = nI y - 9) : ∀ k, ∀ i, i < N → ∃ y, y < 19 ∧ tc_sM t v M k i = nI y - 9
  | 0 => h
  | k + 1 => by
    intro i hi
    have es : tc_sM t v M (k + 1) = if (t >>> (nI k &&& 31)) &&& 1 = 1 then upd (tc_sM t v M k) k (pm (tc_sM t v M k k + v)) else tc_sM t v M k := rfl
    rw [es]
    split
    · unfold upd
      split
      · obtain ⟨y, hy, -, e⟩ := pm_9 (tc_sM t v M k k + v)
        exact ⟨y, hy, e⟩
      · exact sM_b h k i hi
    · exact sM_b h k i hi
theorem w9_b {y : Nat} (hy : y < 10) : ∃ z, z < 10 ∧ (if nI y + 1 < 9 then nI y + 1 else 9) = nI z := by
  have : ∀ y : Fin 10, ∃ z : Fin 10, (if nI y.1 + 1 < 9 then nI y.1 + 1 else 9) = nI z.1 := by decide +kernel
  obtain ⟨z, hz⟩ := this ⟨y, hy⟩
  exact ⟨z.1, z.2, hz⟩
theorem sW_b {t : Int32} {W : Nat → Int32} {N : Nat} (h : ∀ i, i < N → ∃ y, y < 10 ∧ W i = nI y) : ∀ k, k ≤ N → ∀ i, i < N → ∃ y, y < 10 ∧ tc_sW t W k i = nI y
  | 0, _ => h
  | k + 1, hk => by
    intro i hi
    have ih := sW_b (t := t) h k (by omega)
    have es : tc_sW t W (k + 1) = if (t >>> (nI k &&& 31)) &&& 1 = 1 then upd (tc_sW t W k) k (if tc_sW t W k k + 1 < 9 then tc_sW t W k k + 1 else 9) else tc_sW t W k := rfl
    rw [es]
    split
    · unfold upd
      split
      · obtain ⟨y, hy, e⟩ := ih k (by omega)
        rw [e]
        exact w9_b hy
      · exact ih i hi
    · exact ih i hi
theorem upd_b {P : Int32 → Prop} {f : Nat → Int32} {N i : Nat} {v : Int32} (h : ∀ j, j < N → P (f j)) (hv : P v) : ∀ j, j < N → P (upd f i v j) := by
  intro j hj
  unfold upd
  split
  · exact hv
  · exact h j hj
