section
variable {sa : g_SA} {sc : Nat × Nat × (Nat → Int32)} {xt : Nat → Nat → List Value → tm_H → Option (Option Value × tm_H)} {d : Nat} {h : tm_H} {Q : Option Value → tm_H → Prop}
variable {k n : Nat} {L W M B : Nat → Int32} {z s g : Int32} {a b : Nat → Int32}
theorem tc_hasI {x : Int32} {n : Nat} (hn : n ≤ 12) : (if x < 0 then (0 : Int32) else if nI n ≤ x then 0 else 1) = 1 ↔ ∃ j, j < n ∧ x = nI j := by
  constructor
  · intro hq
    split at hq
    · cases hq
    · rename_i h1
      split at hq
      · cases hq
      · rename_i h2
        obtain ⟨j, h3, rfl⟩ := nI_of h1
        exact ⟨j, Nat.not_le.mp fun q => h2 (nI_le q h3), rfl⟩
  · rintro ⟨j, hj, rfl⟩
    rw [if_neg (nI_pos (by omega)), if_neg (nI_ge hj (by omega))]
theorem tc_clean0 {x : Int32} (hx : (if x < 0 then (0 : Int32) else if z ≤ x then 0 else 1) = 0) : tm_D (g_G sa sc xt) (d + 1) 97 [.ref k, .int x] (tcp h k L W M B z s g a b) Q ↔ Q (some (.int (-1))) (tcp h k L W M B z s g a b) := by
  rw [e_97]
  simp only [s_97_0, s_97_1, s_97_2, s_97_5, s_97_8, s_97_9, s_97_10, s_97_11, s_97_14, s_97_15, s_97_16, s_97_17, s_97_18, s_97_21, s_97_22, s_97_23, s_97_24, s_97_25, s_97_28, s_97_30, s_97_33, s_97_35, s_97_36, s_97_37, tcp_0, x_cv_i x_cs0, tc_has tcp_at, hx, Option.toList_some, List.cons_append, List.nil_append, if_true]
theorem tc_clean1 {j : Nat} (hn : n ≤ 12) (hj : j < n) : tm_D (g_G sa sc xt) (d + 1) 97 [.ref k, .int (nI j)] (tcp h k L W M B (nI n) s g a b) Q ↔ Q (some (.int (if M j = 0 then -2 else 10 + M j))) (tcp h k L W (upd M j 0) B (nI n) s g a b) := by
  have hx : (if nI j < 0 then (0 : Int32) else if nI n ≤ nI j then 0 else 1) = 1 := (tc_hasI hn).mpr ⟨j, hj, rfl⟩
  have c1 : ¬ (1 : Int32) = 0 := by decide
  have c2 : j < 12 := by omega
  rw [e_97]
  simp only [s_97_0, s_97_1, s_97_2, s_97_5, s_97_8, s_97_9, s_97_10, s_97_11, s_97_14, s_97_15, s_97_16, s_97_17, s_97_18, s_97_21, s_97_22, s_97_23, s_97_24, s_97_25, s_97_28, s_97_30, s_97_33, s_97_35, s_97_36, s_97_37, tcp_0, tcp_3, tcp_p3, x_cv_i x_cs0, tc_has tcp_at, hx, c1, x_get_i, List.getElem?_cons_succ, List.getElem?_cons_zero, x_ild_n c2 n12, x_ist_n c2 n12, Option.toList_some, List.cons_append, List.nil_append, if_false]
  by_cases hb : M j = 0
  · simp only [hb, if_true]
  · simp only [hb, if_false]
theorem tc_cast0 {x : Int32} (hx : (if x < 0 then (0 : Int32) else if z ≤ x then 0 else 1) = 0) : tm_D (g_G sa sc xt) (d + 1) 98 [.ref k, .int x] (tcp h k L W M B z s g a b) Q ↔ Q (some (.int (-1))) (tcp h k L W M B z s g a b) := by
  rw [e_98]
  simp only [s_98_0, s_98_1, s_98_2, s_98_5, s_98_8, s_98_9, s_98_10, s_98_11, s_98_14, s_98_15, s_98_16, s_98_17, s_98_18, s_98_21, s_98_22, s_98_23, s_98_24, s_98_25, s_98_28, s_98_30, s_98_33, s_98_34, tcp_0, x_cv_i x_cs0, tc_has tcp_at, hx, Option.toList_some, List.cons_append, List.nil_append, if_true]
theorem tc_cast1 {j : Nat} (hn : n ≤ 12) (hj : j < n) : tm_D (g_G sa sc xt) (d + 1) 98 [.ref k, .int (nI j)] (tcp h k L W M B (nI n) s g a b) Q ↔ Q (some (.int (if W j = 0 then -2 else W j))) (tcp h k L (upd W j 0) M B (nI n) s g a b) := by
  have hx : (if nI j < 0 then (0 : Int32) else if nI n ≤ nI j then 0 else 1) = 1 := (tc_hasI hn).mpr ⟨j, hj, rfl⟩
  have c1 : ¬ (1 : Int32) = 0 := by decide
  have c2 : j < 12 := by omega
  rw [e_98]
  simp only [s_98_0, s_98_1, s_98_2, s_98_5, s_98_8, s_98_9, s_98_10, s_98_11, s_98_14, s_98_15, s_98_16, s_98_17, s_98_18, s_98_21, s_98_22, s_98_23, s_98_24, s_98_25, s_98_28, s_98_30, s_98_33, s_98_34, tcp_0, tcp_2, tcp_p2, x_cv_i x_cs0, tc_has tcp_at, hx, c1, x_get_i, List.getElem?_cons_succ, List.getElem?_cons_zero, x_ild_n c2 n12, x_ist_n c2 n12, Option.toList_some, List.cons_append, List.nil_append, if_false]
  by_cases hb : W j = 0
  · simp only [hb, if_true]
  · simp only [hb, if_false]
theorem tc_move0 {x y : Int32} (hx : (if x < 0 then (0 : Int32) else if z ≤ x then 0 else 1) = 0 ∨ (if y < 0 then (0 : Int32) else if 8 ≤ y then 0 else 1) = 0) : tm_D (g_G sa sc xt) (d + 1) 96 [.ref k, .int x, .int y] (tcp h k L W M B z s g a b) Q ↔ Q (some (.int (-1))) (tcp h k L W M B z s g a b) := by
  rw [e_96]
  simp only [s_96_0, s_96_1, s_96_2, s_96_5, s_96_8, s_96_9, s_96_12, s_96_15, s_96_16, s_96_17, s_96_18, s_96_21, s_96_22, s_96_23, s_96_24, s_96_25, s_96_26, s_96_29, s_96_31, s_96_32, s_96_33, s_96_36, s_96_37, s_96_38, s_96_39, s_96_42, s_96_44, s_96_45, s_96_46, s_96_49, s_96_50, s_96_51, s_96_52, s_96_53, s_96_56, s_96_57, s_96_58, s_96_59, s_96_61, s_96_62, s_96_63, tcp_0, x_cv_i x_cs0, x_cs0, true_and, tc_has tcp_at, m_isBox, Option.toList_some, List.cons_append, List.nil_append]
  rcases hx with hx | hx
  · simp only [hx, if_true]
  · simp only [hx, if_true, ite_self]
theorem tc_move1 {j : Nat} {y : Int32} (hn : n ≤ 12) (hj : j < n) (hy : (if y < 0 then (0 : Int32) else if 8 ≤ y then 0 else 1) = 1) : tm_D (g_G sa sc xt) (d + 1) 96 [.ref k, .int (nI j), .int y] (tcp h k L W M B (nI n) s g a b) Q ↔ if (s >>> (nI j &&& 31)) &&& 1 = 1 then Q (some (.int (-2))) (tcp h k L W M B (nI n) s g a b) else if B j = y then Q (some (.int (-3))) (tcp h k L W M B (nI n) s g a b) else Q (some (.int (10 + B j))) (tcp h k L W M (upd B j y) (nI n) s g a b) := by
  have hx : (if nI j < 0 then (0 : Int32) else if nI n ≤ nI j then 0 else 1) = 1 := (tc_hasI hn).mpr ⟨j, hj, rfl⟩
  have c1 : ¬ (1 : Int32) = 0 := by decide
  have c2 : j < 12 := by omega
  rw [e_96]
  simp only [s_96_0, s_96_1, s_96_2, s_96_5, s_96_8, s_96_9, s_96_12, s_96_15, s_96_16, s_96_17, s_96_18, s_96_21, s_96_22, s_96_23, s_96_24, s_96_25, s_96_26, s_96_29, s_96_31, s_96_32, s_96_33, s_96_36, s_96_37, s_96_38, s_96_39, s_96_42, s_96_44, s_96_45, s_96_46, s_96_49, s_96_50, s_96_51, s_96_52, s_96_53, s_96_56, s_96_57, s_96_58, s_96_59, s_96_61, s_96_62, s_96_63, tcp_0, tcp_4, tcp_p4, x_cv_i x_cs0, x_cs0, true_and, tc_has tcp_at, m_isBox, hx, hy, c1, x_get_i, List.getElem?_cons_succ, List.getElem?_cons_zero, x_ild_n c2 n12, x_ist_n c2 n12, Option.toList_some, List.cons_append, List.nil_append, if_false]
/-- a text's letters are set: wear and mood of the taken -/
def tc_sW (t : Int32) (W : Nat → Int32) : Nat → Nat → Int32 := fo (fun i V => if (t >>> (nI i &&& 31)) &&& 1 = 1 then upd V i (if V i + 1 < 9 then V i + 1 else 9) else V) W
def tc_sM (t v : Int32) (M : Nat → Int32) : Nat → Nat → Int32 := fo (fun i V => if (t >>> (nI i &&& 31)) &&& 1 = 1 then upd V i (pm (V i + v)) else V) M
theorem tc_setSorts (hn : n ≤ 12) (t v : Int32) : tm_D (g_G sa sc xt) (d + 1) 95 [.ref k, .int t, .int v] (tcp h k L W M B (nI n) s g a b) Q ↔ Q none (tcp h k L (tc_sW t W n) (tc_sM t v M n) B (nI n) (s ||| t) g a b) := by
  have loop : ∀ j i, i + j = n → (tm_X (g_G sa sc xt) (d + 1) 95 12 [.ref k, .int t, .int v, .int (nI i)] [] (tcp h k L (tc_sW t W i) (tc_sM t v M i) B (nI n) (s ||| t) g a b) Q ↔ Q none (tcp h k L (tc_sW t W n) (tc_sM t v M n) B (nI n) (s ||| t) g a b)) := by
    intro j
    induction j with
    | zero =>
      intro i hi
      have hi : i = n := by omega
      subst hi
      rw [s_95_12]
      simp only [s_95_0, s_95_1, s_95_2, s_95_5, s_95_6, s_95_7, s_95_10, s_95_11, s_95_13, s_95_14, s_95_17, s_95_20, s_95_21, s_95_22, s_95_23, s_95_24, s_95_25, s_95_26, s_95_29, s_95_30, s_95_33, s_95_34, s_95_36, s_95_37, s_95_40, s_95_41, s_95_42, s_95_43, s_95_44, s_95_47, s_95_48, s_95_49, s_95_52, s_95_53, s_95_54, s_95_57, s_95_58, s_95_59, s_95_60, s_95_61, s_95_64, s_95_65, s_95_68, s_95_71, tcp_0, x_get_i, List.getElem?_cons_succ, List.getElem?_cons_zero, Int32.le_refl, if_true]
    | succ j ih =>
      intro i hi
      have hin : i < n := by omega
      have c1 : ¬ nI n ≤ nI i := nI_ge hin (by omega)
      have c2 : i < 12 := by omega
      have es : tc_sW t W (i + 1) = if (t >>> (nI i &&& 31)) &&& 1 = 1 then upd (tc_sW t W i) i (if tc_sW t W i i + 1 < 9 then tc_sW t W i i + 1 else 9) else tc_sW t W i := rfl
      have et : tc_sM t v M (i + 1) = if (t >>> (nI i &&& 31)) &&& 1 = 1 then upd (tc_sM t v M i) i (pm (tc_sM t v M i i + v)) else tc_sM t v M i := rfl
      rw [← ih (i + 1) (by omega), s_95_12]
      simp only [s_95_0, s_95_1, s_95_2, s_95_5, s_95_6, s_95_7, s_95_10, s_95_11, s_95_13, s_95_14, s_95_17, s_95_20, s_95_21, s_95_22, s_95_23, s_95_24, s_95_25, s_95_26, s_95_29, s_95_30, s_95_33, s_95_34, s_95_36, s_95_37, s_95_40, s_95_41, s_95_42, s_95_43, s_95_44, s_95_47, s_95_48, s_95_49, s_95_52, s_95_53, s_95_54, s_95_57, s_95_58, s_95_59, s_95_60, s_95_61, s_95_64, s_95_65, s_95_68, s_95_71, tcp_0, tcp_2, tcp_3, tcp_p2, tcp_p3, x_get_i, List.getElem?_cons_succ, List.getElem?_cons_zero, c1, if_false, x_ild_n c2 n12, x_ist_n c2 n12, csir, true_and, m_putToMood, Option.toList_some, List.cons_append, List.nil_append, nI_1, es, et]
      by_cases hb : (t >>> (nI i &&& 31)) &&& 1 = 1
      · simp only [hb, if_true]
      · simp only [hb, if_false]
  rw [e_95]
  simp only [s_95_0, s_95_1, s_95_2, s_95_5, s_95_6, s_95_7, s_95_10, s_95_11, s_95_13, s_95_14, s_95_17, s_95_20, s_95_21, s_95_22, s_95_23, s_95_24, s_95_25, s_95_26, s_95_29, s_95_30, s_95_33, s_95_34, s_95_36, s_95_37, s_95_40, s_95_41, s_95_42, s_95_43, s_95_44, s_95_47, s_95_48, s_95_49, s_95_52, s_95_53, s_95_54, s_95_57, s_95_58, s_95_59, s_95_60, s_95_61, s_95_64, s_95_65, s_95_68, s_95_71, tcp_0, x_get_i, List.getElem?_cons_succ, List.getElem?_cons_zero]
  rw [x_set_i (Nat.le_of_ble_eq_true rfl) rfl rfl]
  simp only [List.set_cons_succ, List.set_cons_zero, tcp_p0]
  exact loop n 0 (by omega)
/-- who stands goes back -/
def tc_dB (s : Int32) (L W B : Nat → Int32) : Nat → Nat → Int32 := fo (fun i V => if (s >>> (nI i &&& 31)) &&& 1 = 1 then upd V i (if W i = 9 then (L i + 1) - (L i + 1) / 8 * 8 else L i) else V) B
theorem tc_distribute (hn : n ≤ 12) (hs : s ≠ 0) : tm_D (g_G sa sc xt) d 99 [.ref k] (tcp h k L W M B (nI n) s g a b) Q ↔ Q none (tcp h k L W M (tc_dB s L W B n) (nI n) 0 g a b) := by
  have loop : ∀ j i, i + j = n → (tm_X (g_G sa sc xt) d 99 2 [.ref k, .int (nI i)] [] (tcp h k L W M (tc_dB s L W B i) (nI n) s g a b) Q ↔ Q none (tcp h k L W M (tc_dB s L W B n) (nI n) 0 g a b)) := by
    intro j
    induction j with
    | zero =>
      intro i hi
      have hi : i = n := by omega
      subst hi
      rw [s_99_2]
      simp only [s_99_0, s_99_1, s_99_3, s_99_4, s_99_7, s_99_10, s_99_11, s_99_14, s_99_17, s_99_18, s_99_21, s_99_22, s_99_23, s_99_24, s_99_25, s_99_26, s_99_29, s_99_30, s_99_33, s_99_34, s_99_35, s_99_38, s_99_39, s_99_40, s_99_42, s_99_45, s_99_46, s_99_49, s_99_50, s_99_51, s_99_52, s_99_53, s_99_55, s_99_56, s_99_59, s_99_60, s_99_63, s_99_64, s_99_65, s_99_66, s_99_69, s_99_72, s_99_73, s_99_74, s_99_77, tcp_0, x_get_i, List.getElem?_cons_succ, List.getElem?_cons_zero, Int32.le_refl, if_true]
      rw [x_set_i (Nat.le_of_ble_eq_true rfl) rfl rfl]
      simp only [List.set_cons_succ, List.set_cons_zero, tcp_p0]
    | succ j ih =>
      intro i hi
      have hin : i < n := by omega
      have c1 : ¬ nI n ≤ nI i := nI_ge hin (by omega)
      have c2 : i < 12 := by omega
      have c8 : ¬ (8 : Int32) = 0 := by decide
      have es : tc_dB s L W B (i + 1) = if (s >>> (nI i &&& 31)) &&& 1 = 1 then upd (tc_dB s L W B i) i (if W i = 9 then (L i + 1) - (L i + 1) / 8 * 8 else L i) else tc_dB s L W B i := rfl
      rw [← ih (i + 1) (by omega), s_99_2]
      simp only [s_99_0, s_99_1, s_99_3, s_99_4, s_99_7, s_99_10, s_99_11, s_99_14, s_99_17, s_99_18, s_99_21, s_99_22, s_99_23, s_99_24, s_99_25, s_99_26, s_99_29, s_99_30, s_99_33, s_99_34, s_99_35, s_99_38, s_99_39, s_99_40, s_99_42, s_99_45, s_99_46, s_99_49, s_99_50, s_99_51, s_99_52, s_99_53, s_99_55, s_99_56, s_99_59, s_99_60, s_99_63, s_99_64, s_99_65, s_99_66, s_99_69, s_99_72, s_99_73, s_99_74, s_99_77, tcp_0, tcp_1, tcp_2, tcp_4, tcp_p4, x_get_i, List.getElem?_cons_succ, List.getElem?_cons_zero, c1, c8, hs, if_false, x_ild_n c2 n12, x_ist_n c2 n12, nI_1, es]
      by_cases hb : (s >>> (nI i &&& 31)) &&& 1 = 1
      · by_cases hw : W i = 9
        · simp only [hb, hw, if_true]
        · simp only [hb, hw, if_true, if_false]
      · simp only [hb, if_false]
  rw [e_99]
  simp only [s_99_0, s_99_1, s_99_3, s_99_4, s_99_7, s_99_10, s_99_11, s_99_14, s_99_17, s_99_18, s_99_21, s_99_22, s_99_23, s_99_24, s_99_25, s_99_26, s_99_29, s_99_30, s_99_33, s_99_34, s_99_35, s_99_38, s_99_39, s_99_40, s_99_42, s_99_45, s_99_46, s_99_49, s_99_50, s_99_51, s_99_52, s_99_53, s_99_55, s_99_56, s_99_59, s_99_60, s_99_63, s_99_64, s_99_65, s_99_66, s_99_69, s_99_72, s_99_73, s_99_74, s_99_77]
  exact loop n 0 (by omega)
theorem tc_distribute0 (hn : n ≤ 12) : tm_D (g_G sa sc xt) d 99 [.ref k] (tcp h k L W M B (nI n) 0 g a b) Q ↔ Q none (tcp h k L W M B (nI n) 0 g a b) := by
  rw [e_99]
  simp only [s_99_0, s_99_1, s_99_3, s_99_4, s_99_7, s_99_10, s_99_11, s_99_14, s_99_17, s_99_18, s_99_21, s_99_22, s_99_23, s_99_24, s_99_25, s_99_26, s_99_29, s_99_30, s_99_33, s_99_34, s_99_35, s_99_38, s_99_39, s_99_40, s_99_42, s_99_45, s_99_46, s_99_49, s_99_50, s_99_51, s_99_52, s_99_53, s_99_55, s_99_56, s_99_59, s_99_60, s_99_63, s_99_64, s_99_65, s_99_66, s_99_69, s_99_72, s_99_73, s_99_74, s_99_77]
  rw [s_99_2]
  simp only [s_99_0, s_99_1, s_99_3, s_99_4, s_99_7, s_99_10, s_99_11, s_99_14, s_99_17, s_99_18, s_99_21, s_99_22, s_99_23, s_99_24, s_99_25, s_99_26, s_99_29, s_99_30, s_99_33, s_99_34, s_99_35, s_99_38, s_99_39, s_99_40, s_99_42, s_99_45, s_99_46, s_99_49, s_99_50, s_99_51, s_99_52, s_99_53, s_99_55, s_99_56, s_99_59, s_99_60, s_99_63, s_99_64, s_99_65, s_99_66, s_99_69, s_99_72, s_99_73, s_99_74, s_99_77, tcp_0, x_get_i, List.getElem?_cons_succ, List.getElem?_cons_zero, if_true]
  rw [x_set_i (Nat.le_of_ble_eq_true rfl) rfl rfl]
  simp only [List.set_cons_succ, List.set_cons_zero, tcp_p0]
  split <;> rfl
end
