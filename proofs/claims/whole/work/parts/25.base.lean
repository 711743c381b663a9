/-! plain rows -/
theorem x_get_i {ci k : Nat} {fs : List Value} {φ : Value → Prop} : x_get (.inr (ci, fs)) ci k φ ↔ match fs[k]? with
    | some v => φ v
    | none => False := ⟨fun q => q.2, fun q => ⟨rfl, q⟩⟩
theorem x_ild_n {n j : Nat} {f : Nat → Int32} {φ : Int32 → Prop} (h : j < n) (hn : n < 2 ^ 31) : x_ild (.inl (0, n, .inl f)) (nI j) φ ↔ φ (f j) := by
  have h1 := nI_in h hn
  have h2 := nI_clamp (n := j) (by omega)
  rw [h2] at h1
  show (¬ (nI j < 0 ∨ n ≤ (nI j).toNatClampNeg) ∧ φ (f (nI j).toNatClampNeg)) ↔ _
  rw [h2]
  exact ⟨fun q => q.2, fun q => ⟨h1, q⟩⟩
theorem x_cs0 : tm_cs [] ≤ 8 := by decide
/-- a loop's accumulator -/
def fo {α : Type} (f : Nat → α → α) (a : α) : Nat → α
  | 0 => a
  | i + 1 => f i (fo f a i)
/-- is the bit there -/
def bb (x : Int32) (i : Nat) : Prop := (x >>> (nI i &&& 31)) &&& 1 = 1
/-- the cells of a TypeCase at k -/
abbrev TC : Type := (Nat → Int32) × (Nat → Int32) × (Nat → Int32) × (Nat → Int32) × Int32 × Int32 × Int32
def tc_at (h : tm_H) (k : Nat) (L W M B : Nat → Int32) (n s g : Int32) : Prop :=
  h.2.2 k = .inr (9, [.ref (k + 1), .ref (k + 2), .ref (k + 3), .ref (k + 4), .int n, .int s, .int g, .ref (k + 5), .ref (k + 6)]) ∧ h.2.2 (k + 1) = .inl (0, 12, .inl L) ∧ h.2.2 (k + 2) = .inl (0, 12, .inl W) ∧ h.2.2 (k + 3) = .inl (0, 12, .inl M) ∧ h.2.2 (k + 4) = .inl (0, 12, .inl B) ∧ (∃ f, h.2.2 (k + 5) = .inl (0, 8, .inl f)) ∧ ∃ f, h.2.2 (k + 6) = .inl (0, 8, .inl f)
section
variable {sa : g_SA} {sc : Nat × Nat × (Nat → Int32)} {xt : Nat → Nat → List Value → tm_H → Option (Option Value × tm_H)} {d : Nat} {h : tm_H} {Q : Option Value → tm_H → Prop}
variable {k n : Nat} {L W M B : Nat → Int32} {s g : Int32}
def tc_mo (M : Nat → Int32) (set : Int32) : Nat → Int32 := fo (fun i a => a + (if (set >>> (nI i &&& 31)) &&& 1 = 1 then M i else 0)) 0
theorem tc_moodsOf (hT : tc_at h k L W M B (nI n) s g) (hn : n ≤ 12) (set : Int32) : tm_D (g_G sa sc xt) d 85 [.ref k, .int set] h Q ↔ Q (some (.int (tc_mo M set n))) h := by
  obtain ⟨h0, h1, h2, h3, h4, h5, h6⟩ := hT
  have loop : ∀ j i, i + j = n → (tm_X (g_G sa sc xt) d 85 4 [.ref k, .int set, .int (tc_mo M set i), .int (nI i)] [] h Q ↔ Q (some (.int (tc_mo M set n))) h) := by
    intro j
    induction j with
    | zero =>
      intro i hi
      have hi : i = n := by omega
      subst hi
      rw [s_85_4]
      simp only [s_85_0, s_85_1, s_85_2, s_85_3, s_85_5, s_85_6, s_85_9, s_85_12, s_85_13, s_85_14, s_85_15, s_85_16, s_85_17, s_85_18, s_85_19, s_85_22, s_85_23, s_85_26, s_85_27, s_85_28, s_85_31, s_85_32, s_85_33, s_85_34, s_85_37, s_85_40, s_85_41, h0, x_get_i, List.getElem?_cons_succ, List.getElem?_cons_zero, Int32.le_refl, if_true]
    | succ j ih =>
      intro i hi
      have hin : i < n := by omega
      have c1 : ¬ nI n ≤ nI i := nI_ge hin (by omega)
      have c2 : i < 12 := by omega
      rw [s_85_4]
      simp only [s_85_0, s_85_1, s_85_2, s_85_3, s_85_5, s_85_6, s_85_9, s_85_12, s_85_13, s_85_14, s_85_15, s_85_16, s_85_17, s_85_18, s_85_19, s_85_22, s_85_23, s_85_26, s_85_27, s_85_28, s_85_31, s_85_32, s_85_33, s_85_34, s_85_37, s_85_40, s_85_41, h0, h3, x_get_i, List.getElem?_cons_succ, List.getElem?_cons_zero, c1, if_false, x_ild_n c2 (by decide : 12 < 2 ^ 31), nI_1]
      rw [← ih (i + 1) (by omega)]
      show _ ↔ tm_X (g_G sa sc xt) d 85 4 [.ref k, .int set, .int (tc_mo M set i + (if (set >>> (nI i &&& 31)) &&& 1 = 1 then M i else 0)), .int (nI (i + 1))] [] h Q
      by_cases hb : (set >>> (nI i &&& 31)) &&& 1 = 1
      · simp only [hb, if_true]
      · simp only [hb, if_false]
  rw [e_85]
  simp only [s_85_0, s_85_1, s_85_2, s_85_3, s_85_5, s_85_6, s_85_9, s_85_12, s_85_13, s_85_14, s_85_15, s_85_16, s_85_17, s_85_18, s_85_19, s_85_22, s_85_23, s_85_26, s_85_27, s_85_28, s_85_31, s_85_32, s_85_33, s_85_34, s_85_37, s_85_40, s_85_41]
  exact loop n 0 (by omega)
end
