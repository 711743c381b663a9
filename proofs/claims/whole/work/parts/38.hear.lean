/-! Hearsay, Mixing -/
theorem q_ite {Q : Option Value → tm_H → Prop} {c : Prop} [Decidable c] {a b : Int32} {h : tm_H} : Q (some (.int (if c then a else b))) h ↔ if c then Q (some (.int a)) h else Q (some (.int b)) h := by split <;> exact Iff.rfl
theorem n10 : 10 < 2 ^ 31 := by decide
theorem n19 : 19 < 2 ^ 31 := by decide
theorem ten0 : ¬ (10 : Int32) = 0 := by decide
abbrev hec (q : Nat) (H : Nat → Int32) (z : Int32) : List tm_E := [.inr (2, [.ref (q + 1), .int z]), .inl (0, 12, .inl H)]
/-- the greatest that may be heard of a kind -/
def hm (x : Int32) : Int32 := if x = 0 then 7 else if x = 1 then 9 else if x = 2 then 1 else if x = 3 then 7 else if x = 4 then 9 else -1
/-- is it so -/
def hso (L W M B : Nat → Int32) (s : Int32) (i : Nat) (w v : Int32) : Bool := if w = 0 then decide (L i = v) else if w = 1 then decide (v ≤ W i) else if w = 2 then decide ((s >>> (nI i &&& 31)) &&& 1 = v) else if w = 3 then decide (B i = v) else decide (v ≤ M i)
/-- of which it is so -/
def han (L W M B : Nat → Int32) (s : Int32) (x : Int32) : Nat → Int32 := fo (fun i a => a ||| (if hso L W M B s i (x / 10) (x - x / 10 * 10) then 1 <<< (nI i &&& 31) else 0)) 0
def hft (L W M B : Nat → Int32) (s : Int32) (n : Nat) (H : Nat → Int32) : Nat → Int32 := fo (fun j a => a &&& han L W M B s (H j) n) (tc_allv (nI n))
/-- how many are left at most -/
def hla (L W M B : Nat → Int32) (s : Int32) (n : Nat) (f x : Int32) : Int32 := if ibc (f &&& han L W M B s x n) < ibc f - ibc (f &&& han L W M B s x n) then ibc f - ibc (f &&& han L W M B s x n) else ibc (f &&& han L W M B s x n)
/-- the best of m questions of a kind from v on, against (best, fewest) -/
def hbv (la : Int32 → Int32) (w : Nat) : Nat → Nat → Int32 × Int32 → Int32 × Int32
  | 0, _, a => a
  | m + 1, v, a => hbv la w m (v + 1) (if a.2 ≤ la (nI (10 * w + v)) then a else (nI (10 * w + v), la (nI (10 * w + v))))
def hbw (la : Int32 → Int32) : Nat → Nat → Int32 × Int32 → Int32 × Int32
  | 0, _, a => a
  | m + 1, w, a => hbw la m (w + 1) (hbv la w ((hm (nI w)).toNatClampNeg + 1) 0 a)
section
variable {sa : g_SA} {sc : Nat × Nat × (Nat → Int32)} {xt : Nat → Nat → List Value → tm_H → Option (Option Value × tm_H)} {d : Nat} {h : tm_H} {Q : Option Value → tm_H → Prop}
variable {q c k n : Nat} {H L W M B : Nat → Int32} {z s g : Int32}
theorem he_size : tm_D (g_G sa sc xt) d 11 [.ref q] (wrl h q (hec q H z)) Q ↔ Q (some (.int z)) (wrl h q (hec q H z)) := by
  rw [e_11]
  simp only [s_11_0, s_11_1, s_11_4, x_get_i, List.getElem?_cons_succ, List.getElem?_cons_zero, x_cv_j, cs_n, cs_i, cs_r, cs_l, Nat.reduceAdd, Nat.reduceLeDiff, true_and, Option.toList_some, Option.toList_none, List.cons_append, List.nil_append, if_true, if_false, nb0, nb1, x_setJ, x_setZ0, x_setZ1, x_setA, x_setO, List.length_cons, List.length_nil, Nat.reduceLT, List.set_cons_succ, List.set_cons_zero, wrl_0, wrl_1, wrl_2, wrl_3, wrl_4, wrl_5, wrl_p0, wrl_p1, wrl_p2, wrl_p3, wrl_p4, wrl_0]
theorem he_clear : tm_D (g_G sa sc xt) d 13 [.ref q] (wrl h q (hec q H z)) Q ↔ Q (some (.int z)) (wrl h q (hec q H 0)) := by
  rw [e_13]
  simp only [s_13_0, s_13_1, s_13_4, s_13_5, s_13_6, s_13_7, s_13_10, s_13_11, x_get_i, List.getElem?_cons_succ, List.getElem?_cons_zero, x_cv_j, cs_n, cs_i, cs_r, cs_l, Nat.reduceAdd, Nat.reduceLeDiff, true_and, Option.toList_some, Option.toList_none, List.cons_append, List.nil_append, if_true, if_false, nb0, nb1, x_setJ, x_setZ0, x_setZ1, x_setA, x_setO, List.length_cons, List.length_nil, Nat.reduceLT, List.set_cons_succ, List.set_cons_zero, wrl_0, wrl_1, wrl_2, wrl_3, wrl_4, wrl_5, wrl_p0, wrl_p1, wrl_p2, wrl_p3, wrl_p4, wrl_0, wrl_p0]
theorem he_most (x : Int32) : tm_D (g_G sa sc xt) d 14 [.int x] h Q ↔ Q (some (.int (hm x))) h := by
  rw [e_14]
  unfold hm
  simp only [s_14_0, s_14_1, s_14_36, s_14_38, s_14_39, s_14_41, s_14_42, s_14_43, s_14_44, s_14_46, s_14_47, s_14_48, q_ite (Q := Q)]
theorem he_hear (hc : c ≤ 12) (w v : Int32) : tm_D (g_G sa sc xt) (d + 1) 12 [.ref q, .int w, .int v] (wrl h q (hec q H (nI c))) Q ↔ if v < 0 ∨ hm w < v ∨ c = 12 then Q (some (.int (-1))) (wrl h q (hec q H (nI c))) else Q (some (.int (nI (c + 1)))) (wrl h q (hec q (upd H c (10 * w + v)) (nI (c + 1)))) := by
  rw [e_12]
  simp only [s_12_0, s_12_1, s_12_4, s_12_5, s_12_6, s_12_9, s_12_12, s_12_13, s_12_16, s_12_18, s_12_21, s_12_22, s_12_23, s_12_24, s_12_27, s_12_28, s_12_31, s_12_33, s_12_34, s_12_35, s_12_36, s_12_37, s_12_38, s_12_39, s_12_40, s_12_43, s_12_44, s_12_45, s_12_48, s_12_49, s_12_52, x_get_i, List.getElem?_cons_succ, List.getElem?_cons_zero, x_cv_j, cs_n, cs_i, cs_r, cs_l, Nat.reduceAdd, Nat.reduceLeDiff, true_and, Option.toList_some, Option.toList_none, List.cons_append, List.nil_append, if_true, if_false, nb0, nb1, x_setJ, x_setZ0, x_setZ1, x_setA, x_setO, List.length_cons, List.length_nil, Nat.reduceLT, List.set_cons_succ, List.set_cons_zero, wrl_0, wrl_1, wrl_2, wrl_3, wrl_4, wrl_5, wrl_p0, wrl_p1, wrl_p2, wrl_p3, wrl_p4, wrl_0, he_most]
  by_cases c1 : v < 0
  · simp only [c1, if_true, true_or]
  · by_cases c2 : hm w < v
    · simp only [c1, c2, if_true, if_false, true_or, or_true]
    · by_cases c3 : c = 12
      · subst c3
        simp only [c1, c2, show ¬ nI 12 < (12 : Int32) by decide, if_true, if_false, or_true]
      · have c4 : nI c < (12 : Int32) := nI_lt (b := 12) (by omega) (by decide)
        simp only [c1, c2, c3, c4, if_true, if_false, or_self, wrl_0, wrl_1, s_12_0, s_12_1, s_12_4, s_12_5, s_12_6, s_12_9, s_12_12, s_12_13, s_12_16, s_12_18, s_12_21, s_12_22, s_12_23, s_12_24, s_12_27, s_12_28, s_12_31, s_12_33, s_12_34, s_12_35, s_12_36, s_12_37, s_12_38, s_12_39, s_12_40, s_12_43, s_12_44, s_12_45, s_12_48, s_12_49, s_12_52, x_get_i, List.getElem?_cons_succ, List.getElem?_cons_zero, x_cv_j, cs_n, cs_i, cs_r, cs_l, Nat.reduceAdd, Nat.reduceLeDiff, true_and, Option.toList_some, Option.toList_none, List.cons_append, List.nil_append, if_true, if_false, nb0, nb1, x_setJ, x_setZ0, x_setZ1, x_setA, x_setO, List.length_cons, List.length_nil, Nat.reduceLT, List.set_cons_succ, List.set_cons_zero, wrl_0, wrl_1, wrl_2, wrl_3, wrl_4, wrl_5, wrl_p0, wrl_p1, wrl_p2, wrl_p3, wrl_p4, x_ist_n (show c < 12 by omega) n12, wrl_p1, wrl_p0, nI_1]
theorem he_isSo {i : Nat} (hT : tc_at h k L W M B (nI n) s g) (hi : i < 12) (w v : Int32) : tm_D (g_G sa sc xt) d 17 [.ref k, .int (nI i), .int w, .int v] h Q ↔ Q (some (.int (bI (hso L W M B s i w v)))) h := by
  obtain ⟨h0, h1, h2, h3, h4, h5, h6⟩ := hT
  rw [e_17]
  simp only [s_17_0, s_17_1, s_17_32, s_17_33, s_17_36, s_17_37, s_17_38, s_17_39, s_17_42, s_17_43, s_17_46, s_17_47, s_17_48, s_17_49, s_17_52, s_17_53, s_17_54, s_17_55, s_17_58, s_17_59, s_17_62, s_17_63, s_17_64, s_17_65, s_17_68, s_17_69, s_17_70, s_17_71, s_17_72, s_17_73, s_17_76, s_17_77, s_17_80, s_17_81, s_17_82, s_17_83, s_17_86, s_17_87, s_17_88, s_17_89, s_17_92, s_17_93, s_17_96, s_17_97, s_17_98, s_17_99, s_17_102, s_17_103, s_17_104, s_17_105, s_17_108, s_17_109, s_17_112, s_17_113, x_get_i, List.getElem?_cons_succ, List.getElem?_cons_zero, x_cv_j, cs_n, cs_i, cs_r, cs_l, Nat.reduceAdd, Nat.reduceLeDiff, true_and, Option.toList_some, Option.toList_none, List.cons_append, List.nil_append, if_true, if_false, nb0, nb1, x_setJ, x_setZ0, x_setZ1, x_setA, x_setO, List.length_cons, List.length_nil, Nat.reduceLT, List.set_cons_succ, List.set_cons_zero, wrl_0, wrl_1, wrl_2, wrl_3, wrl_4, wrl_5, wrl_p0, wrl_p1, wrl_p2, wrl_p3, wrl_p4, h0, h1, h2, h3, h4, x_ild_n hi n12]
  unfold hso
  by_cases w0 : w = 0
  · subst w0
    simp only [if_true]
    by_cases c : L i = v
    · simp only [c, if_true, decide_true]; exact Iff.rfl
    · simp only [c, if_false, decide_false]; exact Iff.rfl
  by_cases w1 : w = 1
  · subst w1
    simp only [show ¬ (1 : Int32) = 0 by decide, if_true, if_false]
    by_cases c : W i < v
    · simp only [c, if_true, show ¬ v ≤ W i from Int32.not_le.mpr c, decide_false]; exact Iff.rfl
    · simp only [c, if_false, show v ≤ W i from Int32.not_lt.mp c, decide_true]; exact Iff.rfl
  by_cases w2 : w = 2
  · subst w2
    simp only [show ¬ (2 : Int32) = 0 by decide, show ¬ (2 : Int32) = 1 by decide, if_true, if_false]
    by_cases c : (s >>> (nI i &&& 31)) &&& 1 = v
    · simp only [c, if_true, decide_true]; exact Iff.rfl
    · simp only [c, if_false, decide_false]; exact Iff.rfl
  by_cases w3 : w = 3
  · subst w3
    simp only [show ¬ (3 : Int32) = 0 by decide, show ¬ (3 : Int32) = 1 by decide, show ¬ (3 : Int32) = 2 by decide, if_true, if_false]
    by_cases c : B i = v
    · simp only [c, if_true, decide_true]; exact Iff.rfl
    · simp only [c, if_false, decide_false]; exact Iff.rfl
  simp only [w0, w1, w2, w3, if_false]
  by_cases c : M i < v
  · simp only [c, if_true, show ¬ v ≤ M i from Int32.not_le.mpr c, decide_false]; exact Iff.rfl
  · simp only [c, if_false, show v ≤ M i from Int32.not_lt.mp c, decide_true]; exact Iff.rfl
theorem he_answering (hT : tc_at h k L W M B (nI n) s g) (hn : n ≤ 12) (x : Int32) : tm_D (g_G sa sc xt) (d + 1) 16 [.ref k, .int x] h Q ↔ Q (some (.int (han L W M B s x n))) h := by
  have h0 := hT.1
  have loop : ∀ j i, i + j = n → (tm_X (g_G sa sc xt) (d + 1) 16 4 [.ref k, .int x, .int (han L W M B s x i), .int (nI i)] [] h Q ↔ Q (some (.int (han L W M B s x n))) h) := by
    intro j
    induction j with
    | zero =>
      intro i hi
      have hi : i = n := by omega
      subst hi
      rw [s_16_4]
      simp only [s_16_0, s_16_1, s_16_2, s_16_3, s_16_5, s_16_6, s_16_9, s_16_12, s_16_13, s_16_14, s_16_15, s_16_16, s_16_18, s_16_19, s_16_20, s_16_22, s_16_23, s_16_26, s_16_29, s_16_30, s_16_31, s_16_32, s_16_35, s_16_36, s_16_37, s_16_38, s_16_41, s_16_44, s_16_45, x_get_i, List.getElem?_cons_succ, List.getElem?_cons_zero, x_cv_j, cs_n, cs_i, cs_r, cs_l, Nat.reduceAdd, Nat.reduceLeDiff, true_and, Option.toList_some, Option.toList_none, List.cons_append, List.nil_append, if_true, if_false, nb0, nb1, x_setJ, x_setZ0, x_setZ1, x_setA, x_setO, List.length_cons, List.length_nil, Nat.reduceLT, List.set_cons_succ, List.set_cons_zero, wrl_0, wrl_1, wrl_2, wrl_3, wrl_4, wrl_5, wrl_p0, wrl_p1, wrl_p2, wrl_p3, wrl_p4, h0, Int32.le_refl]
    | succ j ih =>
      intro i hi
      have c1 : ¬ nI n ≤ nI i := nI_ge (by omega) (by omega)
      have es : han L W M B s x (i + 1) = han L W M B s x i ||| (if hso L W M B s i (x / 10) (x - x / 10 * 10) then 1 <<< (nI i &&& 31) else 0) := rfl
      rw [← ih (i + 1) (by omega), s_16_4, es]
      simp only [s_16_0, s_16_1, s_16_2, s_16_3, s_16_5, s_16_6, s_16_9, s_16_12, s_16_13, s_16_14, s_16_15, s_16_16, s_16_18, s_16_19, s_16_20, s_16_22, s_16_23, s_16_26, s_16_29, s_16_30, s_16_31, s_16_32, s_16_35, s_16_36, s_16_37, s_16_38, s_16_41, s_16_44, s_16_45, x_get_i, List.getElem?_cons_succ, List.getElem?_cons_zero, x_cv_j, cs_n, cs_i, cs_r, cs_l, Nat.reduceAdd, Nat.reduceLeDiff, true_and, Option.toList_some, Option.toList_none, List.cons_append, List.nil_append, if_true, if_false, nb0, nb1, x_setJ, x_setZ0, x_setZ1, x_setA, x_setO, List.length_cons, List.length_nil, Nat.reduceLT, List.set_cons_succ, List.set_cons_zero, wrl_0, wrl_1, wrl_2, wrl_3, wrl_4, wrl_5, wrl_p0, wrl_p1, wrl_p2, wrl_p3, wrl_p4, h0, c1, ten0, he_isSo hT (show i < 12 by omega), nI_1]
      cases hso L W M B s i (x / 10) (x - x / 10 * 10)
      · simp only [show bI false = 0 by decide, if_true, Bool.false_eq_true, if_false]
      · simp only [show ¬ bI true = 0 by decide, if_false, if_true]
  rw [e_16]
  simp only [s_16_0, s_16_1, s_16_2, s_16_3, s_16_5, s_16_6, s_16_9, s_16_12, s_16_13, s_16_14, s_16_15, s_16_16, s_16_18, s_16_19, s_16_20, s_16_22, s_16_23, s_16_26, s_16_29, s_16_30, s_16_31, s_16_32, s_16_35, s_16_36, s_16_37, s_16_38, s_16_41, s_16_44, s_16_45]
  exact loop n 0 (by omega)
theorem he_fitting (hT : tc_at (wrl h q (hec q H (nI c))) k L W M B (nI n) s g) (hn : n ≤ 12) (hc : c ≤ 12) : tm_D (g_G sa sc xt) (d + 2) 15 [.ref q, .ref k] (wrl h q (hec q H (nI c))) Q ↔ Q (some (.int (hft L W M B s n H c))) (wrl h q (hec q H (nI c))) := by
  have h0 := hT.1
  have loop : ∀ j i, i + j = c → (tm_X (g_G sa sc xt) (d + 2) 15 7 [.ref q, .ref k, .int (hft L W M B s n H i), .int (nI i)] [] (wrl h q (hec q H (nI c))) Q ↔ Q (some (.int (hft L W M B s n H c))) (wrl h q (hec q H (nI c)))) := by
    intro j
    induction j with
    | zero =>
      intro i hi
      have hi : i = c := by omega
      subst hi
      rw [s_15_7]
      simp only [s_15_0, s_15_1, s_15_4, s_15_5, s_15_6, s_15_8, s_15_9, s_15_12, s_15_15, s_15_16, s_15_17, s_15_18, s_15_21, s_15_22, s_15_23, s_15_26, s_15_27, s_15_28, s_15_31, s_15_34, s_15_35, x_get_i, List.getElem?_cons_succ, List.getElem?_cons_zero, x_cv_j, cs_n, cs_i, cs_r, cs_l, Nat.reduceAdd, Nat.reduceLeDiff, true_and, Option.toList_some, Option.toList_none, List.cons_append, List.nil_append, if_true, if_false, nb0, nb1, x_setJ, x_setZ0, x_setZ1, x_setA, x_setO, List.length_cons, List.length_nil, Nat.reduceLT, List.set_cons_succ, List.set_cons_zero, wrl_0, wrl_1, wrl_2, wrl_3, wrl_4, wrl_5, wrl_p0, wrl_p1, wrl_p2, wrl_p3, wrl_p4, wrl_0, Int32.le_refl]
    | succ j ih =>
      intro i hi
      have c1 : ¬ nI c ≤ nI i := nI_ge (by omega) (by omega)
      have es : hft L W M B s n H (i + 1) = hft L W M B s n H i &&& han L W M B s (H i) n := rfl
      rw [← ih (i + 1) (by omega), s_15_7, es]
      simp only [s_15_0, s_15_1, s_15_4, s_15_5, s_15_6, s_15_8, s_15_9, s_15_12, s_15_15, s_15_16, s_15_17, s_15_18, s_15_21, s_15_22, s_15_23, s_15_26, s_15_27, s_15_28, s_15_31, s_15_34, s_15_35, x_get_i, List.getElem?_cons_succ, List.getElem?_cons_zero, x_cv_j, cs_n, cs_i, cs_r, cs_l, Nat.reduceAdd, Nat.reduceLeDiff, true_and, Option.toList_some, Option.toList_none, List.cons_append, List.nil_append, if_true, if_false, nb0, nb1, x_setJ, x_setZ0, x_setZ1, x_setA, x_setO, List.length_cons, List.length_nil, Nat.reduceLT, List.set_cons_succ, List.set_cons_zero, wrl_0, wrl_1, wrl_2, wrl_3, wrl_4, wrl_5, wrl_p0, wrl_p1, wrl_p2, wrl_p3, wrl_p4, wrl_0, wrl_1, c1, x_ild_n (show i < 12 by omega) n12, he_answering hT hn, nI_1]
  rw [e_15]
  simp only [s_15_0, s_15_1, s_15_4, s_15_5, s_15_6, s_15_8, s_15_9, s_15_12, s_15_15, s_15_16, s_15_17, s_15_18, s_15_21, s_15_22, s_15_23, s_15_26, s_15_27, s_15_28, s_15_31, s_15_34, s_15_35, x_get_i, List.getElem?_cons_succ, List.getElem?_cons_zero, x_cv_j, cs_n, cs_i, cs_r, cs_l, Nat.reduceAdd, Nat.reduceLeDiff, true_and, Option.toList_some, Option.toList_none, List.cons_append, List.nil_append, if_true, if_false, nb0, nb1, x_setJ, x_setZ0, x_setZ1, x_setA, x_setO, List.length_cons, List.length_nil, Nat.reduceLT, List.set_cons_succ, List.set_cons_zero, wrl_0, wrl_1, wrl_2, wrl_3, wrl_4, wrl_5, wrl_p0, wrl_p1, wrl_p2, wrl_p3, wrl_p4, h0, tc_all hT]
  exact loop c 0 (by omega)
theorem he_left {q : Nat} (hT : tc_at h k L W M B (nI n) s g) (hn : n ≤ 12) (f x : Int32) : tm_D (g_G sa sc xt) (d + 2) 18 [.ref q, .ref k, .int f, .int x] h Q ↔ Q (some (.int (hla L W M B s n f x))) h := by
  rw [e_18]
  simp only [s_18_0, s_18_1, s_18_2, s_18_3, s_18_6, s_18_7, s_18_10, s_18_12, s_18_14, s_18_15, s_18_18, s_18_20, s_18_21, s_18_24, x_get_i, List.getElem?_cons_succ, List.getElem?_cons_zero, x_cv_j, cs_n, cs_i, cs_r, cs_l, Nat.reduceAdd, Nat.reduceLeDiff, true_and, Option.toList_some, Option.toList_none, List.cons_append, List.nil_append, if_true, if_false, nb0, nb1, x_setJ, x_setZ0, x_setZ1, x_setA, x_setO, List.length_cons, List.length_nil, Nat.reduceLT, List.set_cons_succ, List.set_cons_zero, wrl_0, wrl_1, wrl_2, wrl_3, wrl_4, wrl_5, wrl_p0, wrl_p1, wrl_p2, wrl_p3, wrl_p4, he_answering hT hn, m_bitCount]
  exact Iff.rfl
theorem he_best {q : Nat} {fs : List Value} (hq : h.2.2 q = .inr (2, fs)) (hT : tc_at h k L W M B (nI n) s g) (hn : n ≤ 12) (f : Int32) : tm_D (g_G sa sc xt) (d + 3) 19 [.ref q, .ref k, .int f] h Q ↔ Q (some (.int (hbw (hla L W M B s n f) 5 0 (0, 13)).1)) h := by
  have hmb : ∀ w, w < 5 → ∃ m, m < 10 ∧ hm (nI w) = nI m := by
    intro w hw
    have : ∀ w : Fin 5, ∃ m : Fin 10, hm (nI w.1) = nI m.1 := by decide +kernel
    obtain ⟨m, hm⟩ := this ⟨w, hw⟩
    exact ⟨m.1, m.2, hm⟩
  have e10 : ∀ w v : Nat, 10 * nI w + nI v = nI (10 * w + v) := by
    intro w v
    rw [show (10 : Int32) = nI 10 from rfl, ← nI_add]
    congr 1
    exact (Int32.ofNat_mul 10 w).symm
  have outer : ∀ (m w : Nat) (a : Int32 × Int32) (x6 x7 : Value), w + m = 5 → (tm_X (g_G sa sc xt) (d + 3) 19 9 [.ref q, .ref k, .int f, .int a.1, .int a.2, .int (nI w), x6, x7] [] h Q ↔ Q (some (.int (hbw (hla L W M B s n f) m w a).1)) h) := by
    intro m
    induction m with
    | zero =>
      intro w a x6 x7 hw
      have hw : w = 5 := by omega
      subst hw
      rw [s_19_9]
      simp only [s_19_0, s_19_1, s_19_2, s_19_4, s_19_6, s_19_7, s_19_11, s_19_12, s_19_15, s_19_16, s_19_20, s_19_22, s_19_25, s_19_28, s_19_29, s_19_30, s_19_31, s_19_33, s_19_35, s_19_36, s_19_38, s_19_39, s_19_42, s_19_44, s_19_46, s_19_48, s_19_51, s_19_53, s_19_55, s_19_57, s_19_59, s_19_60, s_19_62, s_19_63, s_19_64, s_19_67, s_19_70, s_19_73, s_19_76, s_19_77, x_get_i, List.getElem?_cons_succ, List.getElem?_cons_zero, x_cv_j, cs_n, cs_i, cs_r, cs_l, Nat.reduceAdd, Nat.reduceLeDiff, true_and, Option.toList_some, Option.toList_none, List.cons_append, List.nil_append, if_true, if_false, nb0, nb1, x_setJ, x_setZ0, x_setZ1, x_setA, x_setO, List.length_cons, List.length_nil, Nat.reduceLT, List.set_cons_succ, List.set_cons_zero, wrl_0, wrl_1, wrl_2, wrl_3, wrl_4, wrl_5, wrl_p0, wrl_p1, wrl_p2, wrl_p3, wrl_p4, show (5 : Int32) ≤ nI 5 by decide]
      exact Iff.rfl
    | succ m ih =>
      intro w a x6 x7 hw
      have c1 : ¬ (5 : Int32) ≤ nI w := nI_ge (b := 5) (by omega) (by omega)
      obtain ⟨M0, hM0, eM⟩ := hmb w (by omega)
      have inner : ∀ (r v : Nat) (a : Int32 × Int32) (x7 : Value), v + r = M0 + 1 → (tm_X (g_G sa sc xt) (d + 3) 19 18 [.ref q, .ref k, .int f, .int a.1, .int a.2, .int (nI w), .int (nI v), x7] [] h Q ↔ Q (some (.int (hbw (hla L W M B s n f) m (w + 1) (hbv (hla L W M B s n f) w r v a)).1)) h) := by
        intro r
        induction r with
        | zero =>
          intro v a x7 hv
          rw [s_19_18]
          simp only [s_19_0, s_19_1, s_19_2, s_19_4, s_19_6, s_19_7, s_19_11, s_19_12, s_19_15, s_19_16, s_19_20, s_19_22, s_19_25, s_19_28, s_19_29, s_19_30, s_19_31, s_19_33, s_19_35, s_19_36, s_19_38, s_19_39, s_19_42, s_19_44, s_19_46, s_19_48, s_19_51, s_19_53, s_19_55, s_19_57, s_19_59, s_19_60, s_19_62, s_19_63, s_19_64, s_19_67, s_19_70, s_19_73, s_19_76, s_19_77, x_get_i, List.getElem?_cons_succ, List.getElem?_cons_zero, x_cv_j, cs_n, cs_i, cs_r, cs_l, Nat.reduceAdd, Nat.reduceLeDiff, true_and, Option.toList_some, Option.toList_none, List.cons_append, List.nil_append, if_true, if_false, nb0, nb1, x_setJ, x_setZ0, x_setZ1, x_setA, x_setO, List.length_cons, List.length_nil, Nat.reduceLT, List.set_cons_succ, List.set_cons_zero, wrl_0, wrl_1, wrl_2, wrl_3, wrl_4, wrl_5, wrl_p0, wrl_p1, wrl_p2, wrl_p3, wrl_p4, he_most, eM, show nI M0 < nI v from nI_lt (by omega) (by omega), nI_1]
          exact ih (w + 1) a _ _ (by omega)
        | succ r ihr =>
          intro v a x7 hv
          rw [s_19_18]
          simp only [s_19_0, s_19_1, s_19_2, s_19_4, s_19_6, s_19_7, s_19_11, s_19_12, s_19_15, s_19_16, s_19_20, s_19_22, s_19_25, s_19_28, s_19_29, s_19_30, s_19_31, s_19_33, s_19_35, s_19_36, s_19_38, s_19_39, s_19_42, s_19_44, s_19_46, s_19_48, s_19_51, s_19_53, s_19_55, s_19_57, s_19_59, s_19_60, s_19_62, s_19_63, s_19_64, s_19_67, s_19_70, s_19_73, s_19_76, s_19_77, x_get_i, List.getElem?_cons_succ, List.getElem?_cons_zero, x_cv_j, cs_n, cs_i, cs_r, cs_l, Nat.reduceAdd, Nat.reduceLeDiff, true_and, Option.toList_some, Option.toList_none, List.cons_append, List.nil_append, if_true, if_false, nb0, nb1, x_setJ, x_setZ0, x_setZ1, x_setA, x_setO, List.length_cons, List.length_nil, Nat.reduceLT, List.set_cons_succ, List.set_cons_zero, wrl_0, wrl_1, wrl_2, wrl_3, wrl_4, wrl_5, wrl_p0, wrl_p1, wrl_p2, wrl_p3, wrl_p4, he_most, eM, show ¬ nI M0 < nI v from nI_nlt (by omega) (by omega), hq, he_left hT hn, e10, nI_1]
          unfold hbv
          by_cases c2 : a.2 ≤ hla L W M B s n f (nI (10 * w + v))
          · simp only [c2, if_true]
            exact ihr (v + 1) a _ (by omega)
          · simp only [c2, if_false]
            exact ihr (v + 1) (nI (10 * w + v), hla L W M B s n f (nI (10 * w + v))) _ (by omega)
      rw [s_19_9]
      simp only [s_19_0, s_19_1, s_19_2, s_19_4, s_19_6, s_19_7, s_19_11, s_19_12, s_19_15, s_19_16, s_19_20, s_19_22, s_19_25, s_19_28, s_19_29, s_19_30, s_19_31, s_19_33, s_19_35, s_19_36, s_19_38, s_19_39, s_19_42, s_19_44, s_19_46, s_19_48, s_19_51, s_19_53, s_19_55, s_19_57, s_19_59, s_19_60, s_19_62, s_19_63, s_19_64, s_19_67, s_19_70, s_19_73, s_19_76, s_19_77, x_get_i, List.getElem?_cons_succ, List.getElem?_cons_zero, x_cv_j, cs_n, cs_i, cs_r, cs_l, Nat.reduceAdd, Nat.reduceLeDiff, true_and, Option.toList_some, Option.toList_none, List.cons_append, List.nil_append, if_true, if_false, nb0, nb1, x_setJ, x_setZ0, x_setZ1, x_setA, x_setO, List.length_cons, List.length_nil, Nat.reduceLT, List.set_cons_succ, List.set_cons_zero, wrl_0, wrl_1, wrl_2, wrl_3, wrl_4, wrl_5, wrl_p0, wrl_p1, wrl_p2, wrl_p3, wrl_p4, c1]
      rw [show (0 : Int32) = nI 0 from rfl, inner (M0 + 1) 0 a x7 (by omega)]
      have es : hbw (hla L W M B s n f) (m + 1) w a = hbw (hla L W M B s n f) m (w + 1) (hbv (hla L W M B s n f) w ((hm (nI w)).toNatClampNeg + 1) 0 a) := rfl
      rw [es, eM, nI_clamp (by omega)]
  rw [e_19]
  simp only [s_19_0, s_19_1, s_19_2, s_19_4, s_19_6, s_19_7, s_19_11, s_19_12, s_19_15, s_19_16, s_19_20, s_19_22, s_19_25, s_19_28, s_19_29, s_19_30, s_19_31, s_19_33, s_19_35, s_19_36, s_19_38, s_19_39, s_19_42, s_19_44, s_19_46, s_19_48, s_19_51, s_19_53, s_19_55, s_19_57, s_19_59, s_19_60, s_19_62, s_19_63, s_19_64, s_19_67, s_19_70, s_19_73, s_19_76, s_19_77]
  exact outer 5 0 (0, 13) _ _ (by omega)
end
