section
variable {sa : g_SA} {sc : Nat × Nat × (Nat → Int32)} {xt : Nat → Nat → List Value → tm_H → Option (Option Value × tm_H)} {d : Nat} {h : tm_H} {Q : Option Value → tm_H → Prop}
variable {k n : Nat} {L W M B : Nat → Int32} {z s g : Int32} {a b : Nat → Int32}
/-- none: -1 -/
def oI : Option Nat → Int32
  | none => -1
  | some j => nI j
theorem oI_ne {j : Nat} (hj : j < 2 ^ 31) : ¬ nI j = -1 := by
  intro e
  have h1 := nI_toInt hj
  rw [e] at h1
  have h2 : ((-1 : Int32)).toInt = -1 := by decide
  rw [h2] at h1
  omega
/-- of a set the least worn, of like ones the first -/
def tc_lw (set : Int32) (W : Nat → Int32) : Nat → Option Nat := fo (fun i r => if (set >>> (nI i &&& 31)) &&& 1 = 1 then (match r with
  | none => some i
  | some j => if W j ≤ W i then some j else some i) else r) none
theorem tc_lw_lt {set : Int32} {W : Nat → Int32} : ∀ {i j : Nat}, tc_lw set W i = some j → j < i
  | 0, j, e => by cases e
  | i + 1, j, e => by
    have es : tc_lw set W (i + 1) = if (set >>> (nI i &&& 31)) &&& 1 = 1 then (match tc_lw set W i with
      | none => some i
      | some j => if W j ≤ W i then some j else some i) else tc_lw set W i := rfl
    rw [es] at e
    split at e
    · split at e
      · cases e; omega
      · rename_i j' hj
        split at e
        · cases e
          have := tc_lw_lt hj
          omega
        · cases e; omega
    · have := tc_lw_lt e
      omega
theorem tc_leastWorn (hT : tc_at h k L W M B (nI n) s g) (hn : n ≤ 12) (set : Int32) : tm_D (g_G sa sc xt) d 94 [.ref k, .int set] h Q ↔ Q (some (.int (oI (tc_lw set W n)))) h := by
  obtain ⟨h0, h1, h2, h3, h4, h5, h6⟩ := hT
  have loop : ∀ j i, i + j = n → (tm_X (g_G sa sc xt) d 94 4 [.ref k, .int set, .int (oI (tc_lw set W i)), .int (nI i)] [] h Q ↔ Q (some (.int (oI (tc_lw set W n)))) h) := by
    intro j
    induction j with
    | zero =>
      intro i hi
      have hi : i = n := by omega
      subst hi
      rw [s_94_4]
      simp only [s_94_0, s_94_1, s_94_2, s_94_3, s_94_5, s_94_6, s_94_9, s_94_12, s_94_13, s_94_14, s_94_15, s_94_16, s_94_17, s_94_18, s_94_21, s_94_22, s_94_23, s_94_26, s_94_27, s_94_30, s_94_31, s_94_32, s_94_33, s_94_36, s_94_37, s_94_38, s_94_41, s_94_42, s_94_43, s_94_46, s_94_49, s_94_50, h0, x_get_i, List.getElem?_cons_succ, List.getElem?_cons_zero, Int32.le_refl, if_true]
    | succ j ih =>
      intro i hi
      have hin : i < n := by omega
      have c1 : ¬ nI n ≤ nI i := nI_ge hin (by omega)
      have c2 : i < 12 := by omega
      have es : tc_lw set W (i + 1) = if (set >>> (nI i &&& 31)) &&& 1 = 1 then (match tc_lw set W i with
        | none => some i
        | some j => if W j ≤ W i then some j else some i) else tc_lw set W i := rfl
      rw [← ih (i + 1) (by omega), s_94_4, es]
      simp only [s_94_0, s_94_1, s_94_2, s_94_3, s_94_5, s_94_6, s_94_9, s_94_12, s_94_13, s_94_14, s_94_15, s_94_16, s_94_17, s_94_18, s_94_21, s_94_22, s_94_23, s_94_26, s_94_27, s_94_30, s_94_31, s_94_32, s_94_33, s_94_36, s_94_37, s_94_38, s_94_41, s_94_42, s_94_43, s_94_46, s_94_49, s_94_50, h0, h2, x_get_i, List.getElem?_cons_succ, List.getElem?_cons_zero, c1, if_false, x_ild_n c2 n12, nI_1]
      by_cases hb : (set >>> (nI i &&& 31)) &&& 1 = 1
      · simp only [hb, if_true]
        cases hr : tc_lw set W i with
        | none => simp only [oI, if_true]
        | some q =>
          have hq := tc_lw_lt hr
          simp only [oI, oI_ne (show q < 2 ^ 31 by omega), if_false, x_ild_n (show q < 12 by omega) n12]
          by_cases hw : W q ≤ W i
          · simp only [hw, if_true]
          · simp only [hw, if_false]
      · simp only [hb, if_false]
  rw [e_94]
  simp only [s_94_0, s_94_1, s_94_2, s_94_3, s_94_5, s_94_6, s_94_9, s_94_12, s_94_13, s_94_14, s_94_15, s_94_16, s_94_17, s_94_18, s_94_21, s_94_22, s_94_23, s_94_26, s_94_27, s_94_30, s_94_31, s_94_32, s_94_33, s_94_36, s_94_37, s_94_38, s_94_41, s_94_42, s_94_43, s_94_46, s_94_49, s_94_50]
  exact loop n 0 (by omega)
/-- m letters of one kind take each the least worn that is left -/
def tc_t1 (own W : Nat → Int32) (n : Nat) (s x : Int32) : Nat → Int32 → Option Int32
  | 0, t => some t
  | m + 1, t => match tc_lw ((tc_wh own x n &&& (s ^^^ (-1))) &&& (t ^^^ (-1))) W n with
    | none => none
    | some j => tc_t1 own W n s x m (t ||| (1 <<< (nI j &&& 31)))
/-- letters from l on -/
def tc_t2 (L W : Nat → Int32) (n : Nat) (s : Int32) (c : Nat → Nat) : Nat → Nat → Int32 → Option Int32
  | 0, _, t => some t
  | m + 1, l, t => match tc_t1 L W n s (nI l) (c l) t with
    | none => none
    | some t' => tc_t2 L W n s c m (l + 1) t'
def o2 : Option Int32 → Int32
  | none => -1
  | some t => t
theorem tc_wouldTake {q : Nat} {N : Nat → Int32} {c : Nat → Nat} {f1 f2 f3 : Value} (hT : tc_at h k L W M B (nI n) s g) (hn : n ≤ 12) (hq : h.2.2 q = .inr (3, [.ref (q + 1), f1, f2, f3])) (hN : h.2.2 (q + 1) = .inl (0, 8, .inl N)) (hc : ∀ i, i < 8 → N i = nI (c i) ∧ c i < 100) : tm_D (g_G sa sc xt) (d + 2) 93 [.ref k, .ref q] h Q ↔ Q (some (.int (o2 (tc_t2 L W n s c 8 0 0)))) h := by
  have hT0 := hT
  obtain ⟨h0, -⟩ := hT
  have outer : ∀ (m l : Nat) (t : Int32) (x4 x5 : Value), l + m = 8 → (tm_X (g_G sa sc xt) (d + 2) 93 4 [.ref k, .ref q, .int t, .int (nI l), x4, x5] [] h Q ↔ Q (some (.int (o2 (tc_t2 L W n s c m l t)))) h) := by
    intro m
    induction m with
    | zero =>
      intro l t x4 x5 hl
      have hl : l = 8 := by omega
      subst hl
      have c8 : (8 : Int32) ≤ nI 8 := by decide
      rw [s_93_4]
      simp only [s_93_0, s_93_1, s_93_2, s_93_3, s_93_5, s_93_7, s_93_10, s_93_11, s_93_15, s_93_16, s_93_19, s_93_20, s_93_21, s_93_24, s_93_25, s_93_26, s_93_27, s_93_30, s_93_31, s_93_34, s_93_35, s_93_36, s_93_37, s_93_38, s_93_39, s_93_40, s_93_41, s_93_44, s_93_46, s_93_48, s_93_49, s_93_52, s_93_53, s_93_54, s_93_55, s_93_56, s_93_58, s_93_59, s_93_60, s_93_61, s_93_64, s_93_67, s_93_70, s_93_73, s_93_74, c8, if_true]
      rfl
    | succ m ih =>
      intro l t x4 x5 hl
      have hl8 : l < 8 := by omega
      have c8 : ¬ (8 : Int32) ≤ nI l := nI_ge (b := 8) hl8 (by omega)
      obtain ⟨e1, e2⟩ := hc l hl8
      have inner : ∀ (r i : Nat) (t : Int32) (x5 : Value), i + r = c l → (tm_X (g_G sa sc xt) (d + 2) 93 13 [.ref k, .ref q, .int t, .int (nI l), .int (nI i), x5] [] h Q ↔ match tc_t1 L W n s (nI l) r t with
          | none => Q (some (.int (-1))) h
          | some t' => Q (some (.int (o2 (tc_t2 L W n s c m (l + 1) t')))) h) := by
        intro r
        induction r with
        | zero =>
          intro i t x5 hi
          have hi : i = c l := by omega
          rw [s_93_13]
          simp only [s_93_0, s_93_1, s_93_2, s_93_3, s_93_5, s_93_7, s_93_10, s_93_11, s_93_15, s_93_16, s_93_19, s_93_20, s_93_21, s_93_24, s_93_25, s_93_26, s_93_27, s_93_30, s_93_31, s_93_34, s_93_35, s_93_36, s_93_37, s_93_38, s_93_39, s_93_40, s_93_41, s_93_44, s_93_46, s_93_48, s_93_49, s_93_52, s_93_53, s_93_54, s_93_55, s_93_56, s_93_58, s_93_59, s_93_60, s_93_61, s_93_64, s_93_67, s_93_70, s_93_73, s_93_74, hq, hN, x_get_i, List.getElem?_cons_succ, List.getElem?_cons_zero, x_ild_n hl8 n8, e1, hi, Int32.le_refl, if_true, nI_1, ih (l + 1) _ _ _ (by omega)]
          rfl
        | succ r ihr =>
          intro i t x5 hi
          have c1 : ¬ nI (c l) ≤ nI i := nI_ge (by omega) (by omega)
          rw [s_93_13]
          simp only [s_93_0, s_93_1, s_93_2, s_93_3, s_93_5, s_93_7, s_93_10, s_93_11, s_93_15, s_93_16, s_93_19, s_93_20, s_93_21, s_93_24, s_93_25, s_93_26, s_93_27, s_93_30, s_93_31, s_93_34, s_93_35, s_93_36, s_93_37, s_93_38, s_93_39, s_93_40, s_93_41, s_93_44, s_93_46, s_93_48, s_93_49, s_93_52, s_93_53, s_93_54, s_93_55, s_93_56, s_93_58, s_93_59, s_93_60, s_93_61, s_93_64, s_93_67, s_93_70, s_93_73, s_93_74, hq, hN, h0, x_get_i, List.getElem?_cons_succ, List.getElem?_cons_zero, x_ild_n hl8 n8, e1, c1, if_false, x_cv_i x_cs0, x_cv_i cs1r, tc_ofLetter hT0 hn, tc_leastWorn hT0 hn, Option.toList_some, List.cons_append, List.nil_append, nI_1]
          unfold tc_t1
          cases hr : tc_lw ((tc_wh L (nI l) n &&& (s ^^^ (-1))) &&& (t ^^^ (-1))) W n with
          | none => simp only [oI, if_true]
          | some j =>
            have hj := tc_lw_lt hr
            simp only [oI, oI_ne (show j < 2 ^ 31 by omega), if_false]
            exact ihr (i + 1) _ _ (by omega)
      rw [s_93_4]
      simp only [s_93_0, s_93_1, s_93_2, s_93_3, s_93_5, s_93_7, s_93_10, s_93_11, s_93_15, s_93_16, s_93_19, s_93_20, s_93_21, s_93_24, s_93_25, s_93_26, s_93_27, s_93_30, s_93_31, s_93_34, s_93_35, s_93_36, s_93_37, s_93_38, s_93_39, s_93_40, s_93_41, s_93_44, s_93_46, s_93_48, s_93_49, s_93_52, s_93_53, s_93_54, s_93_55, s_93_56, s_93_58, s_93_59, s_93_60, s_93_61, s_93_64, s_93_67, s_93_70, s_93_73, s_93_74, c8, if_false]
      have hin := inner (c l) 0 t x5 (by omega)
      rw [show nI 0 = 0 from nI_0] at hin
      rw [hin]
      show _ ↔ Q (some (.int (o2 (match tc_t1 L W n s (nI l) (c l) t with
        | none => none
        | some t' => tc_t2 L W n s c m (l + 1) t')))) h
      cases tc_t1 L W n s (nI l) (c l) t <;> rfl
  rw [e_93]
  simp only [s_93_0, s_93_1, s_93_2, s_93_3, s_93_5, s_93_7, s_93_10, s_93_11, s_93_15, s_93_16, s_93_19, s_93_20, s_93_21, s_93_24, s_93_25, s_93_26, s_93_27, s_93_30, s_93_31, s_93_34, s_93_35, s_93_36, s_93_37, s_93_38, s_93_39, s_93_40, s_93_41, s_93_44, s_93_46, s_93_48, s_93_49, s_93_52, s_93_53, s_93_54, s_93_55, s_93_56, s_93_58, s_93_59, s_93_60, s_93_61, s_93_64, s_93_67, s_93_70, s_93_73, s_93_74]
  have := outer 8 0 0 tm_z tm_z (by omega)
  rw [show nI 0 = 0 from nI_0] at this
  exact this
end
