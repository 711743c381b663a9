/-! the reference: what it asks of a row of sorts -/
theorem n38 : 38 < 2 ^ 31 := by decide
/-- of a row: moods, boxes -/
abbrev rM (N : Nat → Int32) : Nat → Int32 := fun i => N (12 + i)
abbrev rB (N : Nat → Int32) : Nat → Int32 := fun i => N (24 + i)
theorem e12 {i : Nat} : (12 : Int32) + nI i = nI (12 + i) := nI_add 12 i
theorem e24 {i : Nat} : (24 : Int32) + nI i = nI (24 + i) := nI_add 24 i
theorem i36 : (36 : Int32) = nI 36 := rfl
theorem i37 : (37 : Int32) = nI 37 := rfl
/-- a row laid over another from k on -/
def lyt (N f : Nat → Int32) (k i : Nat) : Nat → Int32 := fun j => if k ≤ j ∧ j < k + i then N (j - k) else f j
theorem lyt_s {N f : Nat → Int32} {k i : Nat} : upd (lyt N f k i) (k + i) (N i) = lyt N f k (i + 1) := by
  funext j
  unfold upd lyt
  by_cases c : j = k + i
  · subst c
    rw [if_pos rfl, if_pos (by omega), Nat.add_sub_cancel_left]
  · rw [if_neg c]
    by_cases c2 : k ≤ j ∧ j < k + i
    · rw [if_pos c2, if_pos (by omega)]
    · rw [if_neg c2, if_neg (by omega)]
theorem lyt_0 {N f : Nat → Int32} {k : Nat} : lyt N f k 0 = f := by
  funext j
  unfold lyt
  rw [if_neg (by omega)]
section
variable {sa : g_SA} {sc : Nat × Nat × (Nat → Int32)} {xt : Nat → Nat → List Value → tm_H → Option (Option Value × tm_H)} {d : Nat} {h : tm_H} {Q : Option Value → tm_H → Prop}
theorem r_lay {x y len k : Nat} {N f : Nat → Int32} (hx : h.2.2 x = .inl (0, 38, .inl N)) (hy : h.2.2 y = .inl (0, len, .inl f)) (hne : x ≠ y) (hk : k + 38 ≤ len) (hl : len < 2 ^ 31) : tm_D (g_G sa sc xt) d 213 [.ref x, .ref y, .int (nI k)] h Q ↔ Q none (tm_put h y (.inl (0, len, .inl (lyt N f k 38)))) := by
  have loop : ∀ j i, i + j = 38 → (tm_X (g_G sa sc xt) d 213 2 [.ref x, .ref y, .int (nI k), .int (nI i)] [] (tm_put h y (.inl (0, len, .inl (lyt N f k i)))) Q ↔ Q none (tm_put h y (.inl (0, len, .inl (lyt N f k 38))))) := by
    intro j
    induction j with
    | zero =>
      intro i hi
      have hi : i = 38 := by omega
      subst hi
      rw [s_213_2]
      simp only [s_213_0, s_213_1, s_213_3, s_213_5, s_213_8, s_213_9, s_213_10, s_213_11, s_213_12, s_213_13, s_213_14, s_213_15, s_213_16, s_213_19, s_213_22, x_get_i, List.getElem?_cons_succ, List.getElem?_cons_zero, x_cv_j, cs_n, cs_i, cs_r, cs_l, Nat.reduceAdd, Nat.reduceLeDiff, true_and, Option.toList_some, Option.toList_none, List.cons_append, List.nil_append, if_true, if_false, nb0, nb1, x_setJ, x_setZ0, x_setZ1, x_setA, x_setO, List.length_cons, List.length_nil, Nat.reduceLT, List.set_cons_succ, List.set_cons_zero, wrl_0, wrl_1, wrl_2, wrl_3, wrl_4, wrl_5, wrl_p0, wrl_p1, wrl_p2, wrl_p3, wrl_p4, show (38 : Int32) ≤ nI 38 by decide]
    | succ j ih =>
      intro i hi
      rw [s_213_2]
      simp only [s_213_0, s_213_1, s_213_3, s_213_5, s_213_8, s_213_9, s_213_10, s_213_11, s_213_12, s_213_13, s_213_14, s_213_15, s_213_16, s_213_19, s_213_22, x_get_i, List.getElem?_cons_succ, List.getElem?_cons_zero, x_cv_j, cs_n, cs_i, cs_r, cs_l, Nat.reduceAdd, Nat.reduceLeDiff, true_and, Option.toList_some, Option.toList_none, List.cons_append, List.nil_append, if_true, if_false, nb0, nb1, x_setJ, x_setZ0, x_setZ1, x_setA, x_setO, List.length_cons, List.length_nil, Nat.reduceLT, List.set_cons_succ, List.set_cons_zero, wrl_0, wrl_1, wrl_2, wrl_3, wrl_4, wrl_5, wrl_p0, wrl_p1, wrl_p2, wrl_p3, wrl_p4, show ¬ (38 : Int32) ≤ nI i from nI_ge (b := 38) (by omega) (by decide), pa_n hne, hx, pa_s, nI_add, x_ild_n (show i < 38 by omega) n38, x_ist_n (show k + i < len by omega) hl, put_put, lyt_s, nI_1]
      exact ih (i + 1) (by omega)
  rw [e_213]
  simp only [s_213_0, s_213_1, s_213_3, s_213_5, s_213_8, s_213_9, s_213_10, s_213_11, s_213_12, s_213_13, s_213_14, s_213_15, s_213_16, s_213_19, s_213_22]
  have := loop 38 0 (by decide)
  rw [lyt_0, put_same hy] at this
  exact this
end
section
variable {sa : g_SA} {sc : Nat × Nat × (Nat → Int32)} {xt : Nat → Nat → List Value → tm_H → Option (Option Value × tm_H)} {d m : Nat} {h : tm_H} {Q : Option Value → tm_H → Prop} {I : Nat → Int32} {rd : Value} {ru : Nat} {C : Nat → tm_E}
variable {x n : Nat} {N L : Nat → Int32}
theorem r_inBox (h1 : I 1 = nI n) (hn : n ≤ 12) (hx : (mh h m I rd ru C).2.2 x = .inl (0, 38, .inl N)) (v : Int32) : tm_D (g_G sa sc xt) d 208 [.ref m, .ref x, .int v] (mh h m I rd ru C) Q ↔ Q (some (.int (tc_wh (rB N) v n))) (mh h m I rd ru C) := by
  have loop : ∀ j i, i + j = n → (tm_X (g_G sa sc xt) d 208 5 [.ref m, .ref x, .int v, .int (tc_wh (rB N) v i), .int (nI i)] [] (mh h m I rd ru C) Q ↔ Q (some (.int (tc_wh (rB N) v n))) (mh h m I rd ru C)) := by
    intro j
    induction j with
    | zero =>
      intro i hi
      have hi : i = n := by omega
      subst hi
      rw [s_208_5]
      simp only [s_208_0, s_208_1, s_208_2, s_208_3, s_208_7, s_208_8, s_208_11, s_208_14, s_208_15, s_208_16, s_208_18, s_208_20, s_208_21, s_208_22, s_208_23, s_208_26, s_208_27, s_208_29, s_208_30, s_208_33, s_208_34, s_208_35, s_208_36, s_208_39, s_208_42, s_208_43, x_get_i, List.getElem?_cons_succ, List.getElem?_cons_zero, x_cv_j, cs_n, cs_i, cs_r, cs_l, Nat.reduceAdd, Nat.reduceLeDiff, true_and, Option.toList_some, Option.toList_none, List.cons_append, List.nil_append, if_true, if_false, nb0, nb1, x_setJ, x_setZ0, x_setZ1, x_setA, x_setO, List.length_cons, List.length_nil, Nat.reduceLT, List.set_cons_succ, List.set_cons_zero, wrl_0, wrl_1, wrl_2, wrl_3, wrl_4, wrl_5, wrl_p0, wrl_p1, wrl_p2, wrl_p3, wrl_p4, mh_o, mh_po, mcv, mg_0, mg_1, mg_2, mg_3, mg_4, mg_5, mg_6, mg_7, mg_8, mg_9, mg_10, mg_11, mg_12, mg_13, mg_14, mg_15, mg_16, mg_17, mg_18, mg_19, mg_20, mg_21, mg_22, mg_23, mg_24, mg_25, mg_26, mg_27, mg_28, mg_29, mg_30, mg_31, mg_32, mg_33, mg_34, mg_35, mg_36, mg_37, mg_38, mg_39, mg_40, mg_41, mg_42, mg_43, mg_44, mg_45, mg_46, ms_1, ms_4, ms_6, ms_7, ms_9, ms_10, ms_11, ms_12, ms_16, ms_20, ms_24, ms_28, ms_35, ms_39, ms_42, ms_43, ms_17t, ms_17f, ms_8, ms_14, mc_1, mp_1, mc_2, mp_2, mc_3, mp_3, mc_4, mp_4, mc_5, mp_5, mc_6, mp_6, mc_7, mp_7, mc_8, mp_8, mc_9, mp_9, mc_10, mp_10, mc_11, mp_11, mc_12, mp_12, mc_13, mp_13, mc_14, mp_14, mc_15, mp_15, mc_16, mp_16, mc_17, mp_17, mc_18, mp_18, mc_19, mp_19, mc_20, mp_20, mc_21, mp_21, mc_22, mp_22, mc_23, mp_23, mc_24, mp_24, mc_25, mp_25, mc_26, mp_26, mc_27, mp_27, mc_28, mp_28, mc_29, mp_29, iu, cup, Nat.reduceEqDiff, h1, Int32.le_refl]
    | succ j ih =>
      intro i hi
      have es : tc_wh (rB N) v (i + 1) = tc_wh (rB N) v i ||| (if N (24 + i) = v then 1 <<< (nI i &&& 31) else 0) := rfl
      rw [← ih (i + 1) (by omega), s_208_5, es]
      simp only [s_208_0, s_208_1, s_208_2, s_208_3, s_208_7, s_208_8, s_208_11, s_208_14, s_208_15, s_208_16, s_208_18, s_208_20, s_208_21, s_208_22, s_208_23, s_208_26, s_208_27, s_208_29, s_208_30, s_208_33, s_208_34, s_208_35, s_208_36, s_208_39, s_208_42, s_208_43, x_get_i, List.getElem?_cons_succ, List.getElem?_cons_zero, x_cv_j, cs_n, cs_i, cs_r, cs_l, Nat.reduceAdd, Nat.reduceLeDiff, true_and, Option.toList_some, Option.toList_none, List.cons_append, List.nil_append, if_true, if_false, nb0, nb1, x_setJ, x_setZ0, x_setZ1, x_setA, x_setO, List.length_cons, List.length_nil, Nat.reduceLT, List.set_cons_succ, List.set_cons_zero, wrl_0, wrl_1, wrl_2, wrl_3, wrl_4, wrl_5, wrl_p0, wrl_p1, wrl_p2, wrl_p3, wrl_p4, mh_o, mh_po, mcv, mg_0, mg_1, mg_2, mg_3, mg_4, mg_5, mg_6, mg_7, mg_8, mg_9, mg_10, mg_11, mg_12, mg_13, mg_14, mg_15, mg_16, mg_17, mg_18, mg_19, mg_20, mg_21, mg_22, mg_23, mg_24, mg_25, mg_26, mg_27, mg_28, mg_29, mg_30, mg_31, mg_32, mg_33, mg_34, mg_35, mg_36, mg_37, mg_38, mg_39, mg_40, mg_41, mg_42, mg_43, mg_44, mg_45, mg_46, ms_1, ms_4, ms_6, ms_7, ms_9, ms_10, ms_11, ms_12, ms_16, ms_20, ms_24, ms_28, ms_35, ms_39, ms_42, ms_43, ms_17t, ms_17f, ms_8, ms_14, mc_1, mp_1, mc_2, mp_2, mc_3, mp_3, mc_4, mp_4, mc_5, mp_5, mc_6, mp_6, mc_7, mp_7, mc_8, mp_8, mc_9, mp_9, mc_10, mp_10, mc_11, mp_11, mc_12, mp_12, mc_13, mp_13, mc_14, mp_14, mc_15, mp_15, mc_16, mp_16, mc_17, mp_17, mc_18, mp_18, mc_19, mp_19, mc_20, mp_20, mc_21, mp_21, mc_22, mp_22, mc_23, mp_23, mc_24, mp_24, mc_25, mp_25, mc_26, mp_26, mc_27, mp_27, mc_28, mp_28, mc_29, mp_29, iu, cup, Nat.reduceEqDiff, h1, hx, show ¬ nI n ≤ nI i from nI_ge (by omega) (by omega), e24, x_ild_n (show 24 + i < 38 by omega) n38, nI_1]
      by_cases c : N (24 + i) = v
      · simp only [c, if_true]
      · simp only [c, if_false]
  rw [e_208]
  simp only [s_208_0, s_208_1, s_208_2, s_208_3, s_208_7, s_208_8, s_208_11, s_208_14, s_208_15, s_208_16, s_208_18, s_208_20, s_208_21, s_208_22, s_208_23, s_208_26, s_208_27, s_208_29, s_208_30, s_208_33, s_208_34, s_208_35, s_208_36, s_208_39, s_208_42, s_208_43]
  exact loop n 0 (by omega)
theorem r_moodsOf (h1 : I 1 = nI n) (hn : n ≤ 12) (hx : (mh h m I rd ru C).2.2 x = .inl (0, 38, .inl N)) (v : Int32) : tm_D (g_G sa sc xt) (d + 1) 209 [.ref m, .ref x, .int v] (mh h m I rd ru C) Q ↔ Q (some (.int (tc_mo (rM N) v n))) (mh h m I rd ru C) := by
  have loop : ∀ j i, i + j = n → (tm_X (g_G sa sc xt) (d + 1) 209 5 [.ref m, .ref x, .int v, .int (tc_mo (rM N) v i), .int (nI i)] [] (mh h m I rd ru C) Q ↔ Q (some (.int (tc_mo (rM N) v n))) (mh h m I rd ru C)) := by
    intro j
    induction j with
    | zero =>
      intro i hi
      have hi : i = n := by omega
      subst hi
      rw [s_209_5]
      simp only [s_209_0, s_209_1, s_209_2, s_209_3, s_209_7, s_209_8, s_209_11, s_209_14, s_209_15, s_209_16, s_209_18, s_209_21, s_209_24, s_209_25, s_209_27, s_209_29, s_209_30, s_209_31, s_209_34, s_209_35, s_209_36, s_209_37, s_209_40, s_209_43, s_209_44, x_get_i, List.getElem?_cons_succ, List.getElem?_cons_zero, x_cv_j, cs_n, cs_i, cs_r, cs_l, Nat.reduceAdd, Nat.reduceLeDiff, true_and, Option.toList_some, Option.toList_none, List.cons_append, List.nil_append, if_true, if_false, nb0, nb1, x_setJ, x_setZ0, x_setZ1, x_setA, x_setO, List.length_cons, List.length_nil, Nat.reduceLT, List.set_cons_succ, List.set_cons_zero, wrl_0, wrl_1, wrl_2, wrl_3, wrl_4, wrl_5, wrl_p0, wrl_p1, wrl_p2, wrl_p3, wrl_p4, mh_o, mh_po, mcv, mg_0, mg_1, mg_2, mg_3, mg_4, mg_5, mg_6, mg_7, mg_8, mg_9, mg_10, mg_11, mg_12, mg_13, mg_14, mg_15, mg_16, mg_17, mg_18, mg_19, mg_20, mg_21, mg_22, mg_23, mg_24, mg_25, mg_26, mg_27, mg_28, mg_29, mg_30, mg_31, mg_32, mg_33, mg_34, mg_35, mg_36, mg_37, mg_38, mg_39, mg_40, mg_41, mg_42, mg_43, mg_44, mg_45, mg_46, ms_1, ms_4, ms_6, ms_7, ms_9, ms_10, ms_11, ms_12, ms_16, ms_20, ms_24, ms_28, ms_35, ms_39, ms_42, ms_43, ms_17t, ms_17f, ms_8, ms_14, mc_1, mp_1, mc_2, mp_2, mc_3, mp_3, mc_4, mp_4, mc_5, mp_5, mc_6, mp_6, mc_7, mp_7, mc_8, mp_8, mc_9, mp_9, mc_10, mp_10, mc_11, mp_11, mc_12, mp_12, mc_13, mp_13, mc_14, mp_14, mc_15, mp_15, mc_16, mp_16, mc_17, mp_17, mc_18, mp_18, mc_19, mp_19, mc_20, mp_20, mc_21, mp_21, mc_22, mp_22, mc_23, mp_23, mc_24, mp_24, mc_25, mp_25, mc_26, mp_26, mc_27, mp_27, mc_28, mp_28, mc_29, mp_29, iu, cup, Nat.reduceEqDiff, h1, Int32.le_refl]
    | succ j ih =>
      intro i hi
      have es : tc_mo (rM N) v (i + 1) = tc_mo (rM N) v i + (if (v >>> (nI i &&& 31)) &&& 1 = 1 then N (12 + i) else 0) := rfl
      rw [← ih (i + 1) (by omega), s_209_5, es]
      simp only [s_209_0, s_209_1, s_209_2, s_209_3, s_209_7, s_209_8, s_209_11, s_209_14, s_209_15, s_209_16, s_209_18, s_209_21, s_209_24, s_209_25, s_209_27, s_209_29, s_209_30, s_209_31, s_209_34, s_209_35, s_209_36, s_209_37, s_209_40, s_209_43, s_209_44, x_get_i, List.getElem?_cons_succ, List.getElem?_cons_zero, x_cv_j, cs_n, cs_i, cs_r, cs_l, Nat.reduceAdd, Nat.reduceLeDiff, true_and, Option.toList_some, Option.toList_none, List.cons_append, List.nil_append, if_true, if_false, nb0, nb1, x_setJ, x_setZ0, x_setZ1, x_setA, x_setO, List.length_cons, List.length_nil, Nat.reduceLT, List.set_cons_succ, List.set_cons_zero, wrl_0, wrl_1, wrl_2, wrl_3, wrl_4, wrl_5, wrl_p0, wrl_p1, wrl_p2, wrl_p3, wrl_p4, mh_o, mh_po, mcv, mg_0, mg_1, mg_2, mg_3, mg_4, mg_5, mg_6, mg_7, mg_8, mg_9, mg_10, mg_11, mg_12, mg_13, mg_14, mg_15, mg_16, mg_17, mg_18, mg_19, mg_20, mg_21, mg_22, mg_23, mg_24, mg_25, mg_26, mg_27, mg_28, mg_29, mg_30, mg_31, mg_32, mg_33, mg_34, mg_35, mg_36, mg_37, mg_38, mg_39, mg_40, mg_41, mg_42, mg_43, mg_44, mg_45, mg_46, ms_1, ms_4, ms_6, ms_7, ms_9, ms_10, ms_11, ms_12, ms_16, ms_20, ms_24, ms_28, ms_35, ms_39, ms_42, ms_43, ms_17t, ms_17f, ms_8, ms_14, mc_1, mp_1, mc_2, mp_2, mc_3, mp_3, mc_4, mp_4, mc_5, mp_5, mc_6, mp_6, mc_7, mp_7, mc_8, mp_8, mc_9, mp_9, mc_10, mp_10, mc_11, mp_11, mc_12, mp_12, mc_13, mp_13, mc_14, mp_14, mc_15, mp_15, mc_16, mp_16, mc_17, mp_17, mc_18, mp_18, mc_19, mp_19, mc_20, mp_20, mc_21, mp_21, mc_22, mp_22, mc_23, mp_23, mc_24, mp_24, mc_25, mp_25, mc_26, mp_26, mc_27, mp_27, mc_28, mp_28, mc_29, mp_29, iu, cup, Nat.reduceEqDiff, h1, hx, show ¬ nI n ≤ nI i from nI_ge (by omega) (by omega), r_has, e12, x_ild_n (show 12 + i < 38 by omega) n38, nI_1]
      by_cases c : (v >>> (nI i &&& 31)) &&& 1 = 1
      · simp only [c, if_true, show ¬ (1 : Int32) = 0 by decide, if_false]
      · simp only [c, if_false, if_true]
  rw [e_209]
  simp only [s_209_0, s_209_1, s_209_2, s_209_3, s_209_7, s_209_8, s_209_11, s_209_14, s_209_15, s_209_16, s_209_18, s_209_21, s_209_24, s_209_25, s_209_27, s_209_29, s_209_30, s_209_31, s_209_34, s_209_35, s_209_36, s_209_37, s_209_40, s_209_43, s_209_44]
  exact loop n 0 (by omega)
theorem r_wears (h1 : I 1 = nI n) (hn : n ≤ 12) (hx : C 1 = .inl (0, 38, .inl N)) : tm_D (g_G sa sc xt) d 211 [.ref m] (mh h m I rd ru C) Q ↔ Q (some (.int (tc_sum N n))) (mh h m I rd ru C) := by
  have loop : ∀ j i, i + j = n → (tm_X (g_G sa sc xt) d 211 4 [.ref m, .int (tc_sum N i), .int (nI i)] [] (mh h m I rd ru C) Q ↔ Q (some (.int (tc_sum N n))) (mh h m I rd ru C)) := by
    intro j
    induction j with
    | zero =>
      intro i hi
      have hi : i = n := by omega
      subst hi
      rw [s_211_4]
      simp only [s_211_0, s_211_1, s_211_2, s_211_3, s_211_5, s_211_6, s_211_9, s_211_12, s_211_13, s_211_14, s_211_17, s_211_18, s_211_19, s_211_20, s_211_21, s_211_24, s_211_27, s_211_28, x_get_i, List.getElem?_cons_succ, List.getElem?_cons_zero, x_cv_j, cs_n, cs_i, cs_r, cs_l, Nat.reduceAdd, Nat.reduceLeDiff, true_and, Option.toList_some, Option.toList_none, List.cons_append, List.nil_append, if_true, if_false, nb0, nb1, x_setJ, x_setZ0, x_setZ1, x_setA, x_setO, List.length_cons, List.length_nil, Nat.reduceLT, List.set_cons_succ, List.set_cons_zero, wrl_0, wrl_1, wrl_2, wrl_3, wrl_4, wrl_5, wrl_p0, wrl_p1, wrl_p2, wrl_p3, wrl_p4, mh_o, mh_po, mcv, mg_0, mg_1, mg_2, mg_3, mg_4, mg_5, mg_6, mg_7, mg_8, mg_9, mg_10, mg_11, mg_12, mg_13, mg_14, mg_15, mg_16, mg_17, mg_18, mg_19, mg_20, mg_21, mg_22, mg_23, mg_24, mg_25, mg_26, mg_27, mg_28, mg_29, mg_30, mg_31, mg_32, mg_33, mg_34, mg_35, mg_36, mg_37, mg_38, mg_39, mg_40, mg_41, mg_42, mg_43, mg_44, mg_45, mg_46, ms_1, ms_4, ms_6, ms_7, ms_9, ms_10, ms_11, ms_12, ms_16, ms_20, ms_24, ms_28, ms_35, ms_39, ms_42, ms_43, ms_17t, ms_17f, ms_8, ms_14, mc_1, mp_1, mc_2, mp_2, mc_3, mp_3, mc_4, mp_4, mc_5, mp_5, mc_6, mp_6, mc_7, mp_7, mc_8, mp_8, mc_9, mp_9, mc_10, mp_10, mc_11, mp_11, mc_12, mp_12, mc_13, mp_13, mc_14, mp_14, mc_15, mp_15, mc_16, mp_16, mc_17, mp_17, mc_18, mp_18, mc_19, mp_19, mc_20, mp_20, mc_21, mp_21, mc_22, mp_22, mc_23, mp_23, mc_24, mp_24, mc_25, mp_25, mc_26, mp_26, mc_27, mp_27, mc_28, mp_28, mc_29, mp_29, iu, cup, Nat.reduceEqDiff, h1, Int32.le_refl]
    | succ j ih =>
      intro i hi
      rw [s_211_4]
      simp only [s_211_0, s_211_1, s_211_2, s_211_3, s_211_5, s_211_6, s_211_9, s_211_12, s_211_13, s_211_14, s_211_17, s_211_18, s_211_19, s_211_20, s_211_21, s_211_24, s_211_27, s_211_28, x_get_i, List.getElem?_cons_succ, List.getElem?_cons_zero, x_cv_j, cs_n, cs_i, cs_r, cs_l, Nat.reduceAdd, Nat.reduceLeDiff, true_and, Option.toList_some, Option.toList_none, List.cons_append, List.nil_append, if_true, if_false, nb0, nb1, x_setJ, x_setZ0, x_setZ1, x_setA, x_setO, List.length_cons, List.length_nil, Nat.reduceLT, List.set_cons_succ, List.set_cons_zero, wrl_0, wrl_1, wrl_2, wrl_3, wrl_4, wrl_5, wrl_p0, wrl_p1, wrl_p2, wrl_p3, wrl_p4, mh_o, mh_po, mcv, mg_0, mg_1, mg_2, mg_3, mg_4, mg_5, mg_6, mg_7, mg_8, mg_9, mg_10, mg_11, mg_12, mg_13, mg_14, mg_15, mg_16, mg_17, mg_18, mg_19, mg_20, mg_21, mg_22, mg_23, mg_24, mg_25, mg_26, mg_27, mg_28, mg_29, mg_30, mg_31, mg_32, mg_33, mg_34, mg_35, mg_36, mg_37, mg_38, mg_39, mg_40, mg_41, mg_42, mg_43, mg_44, mg_45, mg_46, ms_1, ms_4, ms_6, ms_7, ms_9, ms_10, ms_11, ms_12, ms_16, ms_20, ms_24, ms_28, ms_35, ms_39, ms_42, ms_43, ms_17t, ms_17f, ms_8, ms_14, mc_1, mp_1, mc_2, mp_2, mc_3, mp_3, mc_4, mp_4, mc_5, mp_5, mc_6, mp_6, mc_7, mp_7, mc_8, mp_8, mc_9, mp_9, mc_10, mp_10, mc_11, mp_11, mc_12, mp_12, mc_13, mp_13, mc_14, mp_14, mc_15, mp_15, mc_16, mp_16, mc_17, mp_17, mc_18, mp_18, mc_19, mp_19, mc_20, mp_20, mc_21, mp_21, mc_22, mp_22, mc_23, mp_23, mc_24, mp_24, mc_25, mp_25, mc_26, mp_26, mc_27, mp_27, mc_28, mp_28, mc_29, mp_29, iu, cup, Nat.reduceEqDiff, h1, hx, show ¬ nI n ≤ nI i from nI_ge (by omega) (by omega), x_ild_n (show i < 38 by omega) n38, nI_1]
      exact ih (i + 1) (by omega)
  rw [e_211]
  simp only [s_211_0, s_211_1, s_211_2, s_211_3, s_211_5, s_211_6, s_211_9, s_211_12, s_211_13, s_211_14, s_211_17, s_211_18, s_211_19, s_211_20, s_211_21, s_211_24, s_211_27, s_211_28]
  exact loop n 0 (by omega)
theorem r_atHome (h1 : I 1 = nI n) (hn : n ≤ 12) (hx : (mh h m I rd ru C).2.2 x = .inl (0, 38, .inl N)) (hL : C 2 = .inl (0, 12, .inl L)) : tm_D (g_G sa sc xt) d 223 [.ref m, .ref x] (mh h m I rd ru C) Q ↔ Q (some (.int (tc_home L (rB N) n))) (mh h m I rd ru C) := by
  have loop : ∀ j i, i + j = n → (tm_X (g_G sa sc xt) d 223 4 [.ref m, .ref x, .int (tc_home L (rB N) i), .int (nI i)] [] (mh h m I rd ru C) Q ↔ Q (some (.int (tc_home L (rB N) n))) (mh h m I rd ru C)) := by
    intro j
    induction j with
    | zero =>
      intro i hi
      have hi : i = n := by omega
      subst hi
      rw [s_223_4]
      simp only [s_223_0, s_223_1, s_223_2, s_223_3, s_223_5, s_223_6, s_223_9, s_223_12, s_223_13, s_223_14, s_223_16, s_223_17, s_223_18, s_223_19, s_223_20, s_223_23, s_223_24, s_223_25, s_223_28, s_223_29, s_223_32, s_223_33, s_223_34, s_223_35, s_223_38, s_223_41, s_223_42, x_get_i, List.getElem?_cons_succ, List.getElem?_cons_zero, x_cv_j, cs_n, cs_i, cs_r, cs_l, Nat.reduceAdd, Nat.reduceLeDiff, true_and, Option.toList_some, Option.toList_none, List.cons_append, List.nil_append, if_true, if_false, nb0, nb1, x_setJ, x_setZ0, x_setZ1, x_setA, x_setO, List.length_cons, List.length_nil, Nat.reduceLT, List.set_cons_succ, List.set_cons_zero, wrl_0, wrl_1, wrl_2, wrl_3, wrl_4, wrl_5, wrl_p0, wrl_p1, wrl_p2, wrl_p3, wrl_p4, mh_o, mh_po, mcv, mg_0, mg_1, mg_2, mg_3, mg_4, mg_5, mg_6, mg_7, mg_8, mg_9, mg_10, mg_11, mg_12, mg_13, mg_14, mg_15, mg_16, mg_17, mg_18, mg_19, mg_20, mg_21, mg_22, mg_23, mg_24, mg_25, mg_26, mg_27, mg_28, mg_29, mg_30, mg_31, mg_32, mg_33, mg_34, mg_35, mg_36, mg_37, mg_38, mg_39, mg_40, mg_41, mg_42, mg_43, mg_44, mg_45, mg_46, ms_1, ms_4, ms_6, ms_7, ms_9, ms_10, ms_11, ms_12, ms_16, ms_20, ms_24, ms_28, ms_35, ms_39, ms_42, ms_43, ms_17t, ms_17f, ms_8, ms_14, mc_1, mp_1, mc_2, mp_2, mc_3, mp_3, mc_4, mp_4, mc_5, mp_5, mc_6, mp_6, mc_7, mp_7, mc_8, mp_8, mc_9, mp_9, mc_10, mp_10, mc_11, mp_11, mc_12, mp_12, mc_13, mp_13, mc_14, mp_14, mc_15, mp_15, mc_16, mp_16, mc_17, mp_17, mc_18, mp_18, mc_19, mp_19, mc_20, mp_20, mc_21, mp_21, mc_22, mp_22, mc_23, mp_23, mc_24, mp_24, mc_25, mp_25, mc_26, mp_26, mc_27, mp_27, mc_28, mp_28, mc_29, mp_29, iu, cup, Nat.reduceEqDiff, h1, Int32.le_refl]
    | succ j ih =>
      intro i hi
      have es : tc_home L (rB N) (i + 1) = tc_home L (rB N) i + (if N (24 + i) = L i then 1 else 0) := rfl
      rw [← ih (i + 1) (by omega), s_223_4, es]
      simp only [s_223_0, s_223_1, s_223_2, s_223_3, s_223_5, s_223_6, s_223_9, s_223_12, s_223_13, s_223_14, s_223_16, s_223_17, s_223_18, s_223_19, s_223_20, s_223_23, s_223_24, s_223_25, s_223_28, s_223_29, s_223_32, s_223_33, s_223_34, s_223_35, s_223_38, s_223_41, s_223_42, x_get_i, List.getElem?_cons_succ, List.getElem?_cons_zero, x_cv_j, cs_n, cs_i, cs_r, cs_l, Nat.reduceAdd, Nat.reduceLeDiff, true_and, Option.toList_some, Option.toList_none, List.cons_append, List.nil_append, if_true, if_false, nb0, nb1, x_setJ, x_setZ0, x_setZ1, x_setA, x_setO, List.length_cons, List.length_nil, Nat.reduceLT, List.set_cons_succ, List.set_cons_zero, wrl_0, wrl_1, wrl_2, wrl_3, wrl_4, wrl_5, wrl_p0, wrl_p1, wrl_p2, wrl_p3, wrl_p4, mh_o, mh_po, mcv, mg_0, mg_1, mg_2, mg_3, mg_4, mg_5, mg_6, mg_7, mg_8, mg_9, mg_10, mg_11, mg_12, mg_13, mg_14, mg_15, mg_16, mg_17, mg_18, mg_19, mg_20, mg_21, mg_22, mg_23, mg_24, mg_25, mg_26, mg_27, mg_28, mg_29, mg_30, mg_31, mg_32, mg_33, mg_34, mg_35, mg_36, mg_37, mg_38, mg_39, mg_40, mg_41, mg_42, mg_43, mg_44, mg_45, mg_46, ms_1, ms_4, ms_6, ms_7, ms_9, ms_10, ms_11, ms_12, ms_16, ms_20, ms_24, ms_28, ms_35, ms_39, ms_42, ms_43, ms_17t, ms_17f, ms_8, ms_14, mc_1, mp_1, mc_2, mp_2, mc_3, mp_3, mc_4, mp_4, mc_5, mp_5, mc_6, mp_6, mc_7, mp_7, mc_8, mp_8, mc_9, mp_9, mc_10, mp_10, mc_11, mp_11, mc_12, mp_12, mc_13, mp_13, mc_14, mp_14, mc_15, mp_15, mc_16, mp_16, mc_17, mp_17, mc_18, mp_18, mc_19, mp_19, mc_20, mp_20, mc_21, mp_21, mc_22, mp_22, mc_23, mp_23, mc_24, mp_24, mc_25, mp_25, mc_26, mp_26, mc_27, mp_27, mc_28, mp_28, mc_29, mp_29, iu, cup, Nat.reduceEqDiff, h1, hx, hL, show ¬ nI n ≤ nI i from nI_ge (by omega) (by omega), e24, x_ild_n (show 24 + i < 38 by omega) n38, x_ild_n (show i < 12 by omega) n12, nI_1]
      by_cases c : N (24 + i) = L i
      · simp only [c, if_true]
      · simp only [c, if_false]
  rw [e_223]
  simp only [s_223_0, s_223_1, s_223_2, s_223_3, s_223_5, s_223_6, s_223_9, s_223_12, s_223_13, s_223_14, s_223_16, s_223_17, s_223_18, s_223_19, s_223_20, s_223_23, s_223_24, s_223_25, s_223_28, s_223_29, s_223_32, s_223_33, s_223_34, s_223_35, s_223_38, s_223_41, s_223_42]
  exact loop n 0 (by omega)
/-- of a letter those that do not stand -/
def rfr (L : Nat → Int32) (s v : Int32) : Nat → Int32 := fo (fun i a => a ||| (if L i = v then (if (s >>> (nI i &&& 31)) &&& 1 = 1 then (0 : Int32) else 1 <<< (nI i &&& 31)) else 0)) 0
theorem r_free (h1 : I 1 = nI n) (hn : n ≤ 12) (hx : C 1 = .inl (0, 38, .inl N)) (hL : C 2 = .inl (0, 12, .inl L)) (v : Int32) : tm_D (g_G sa sc xt) (d + 1) 236 [.ref m, .int v] (mh h m I rd ru C) Q ↔ Q (some (.int (rfr L (N 36) v n))) (mh h m I rd ru C) := by
  have loop : ∀ j i, i + j = n → (tm_X (g_G sa sc xt) (d + 1) 236 4 [.ref m, .int v, .int (rfr L (N 36) v i), .int (nI i)] [] (mh h m I rd ru C) Q ↔ Q (some (.int (rfr L (N 36) v n))) (mh h m I rd ru C)) := by
    intro j
    induction j with
    | zero =>
      intro i hi
      have hi : i = n := by omega
      subst hi
      rw [s_236_4]
      simp only [s_236_0, s_236_1, s_236_2, s_236_3, s_236_5, s_236_6, s_236_9, s_236_12, s_236_13, s_236_14, s_236_17, s_236_18, s_236_19, s_236_20, s_236_23, s_236_24, s_236_27, s_236_29, s_236_30, s_236_31, s_236_34, s_236_37, s_236_38, s_236_39, s_236_40, s_236_43, s_236_44, s_236_45, s_236_46, s_236_49, s_236_52, s_236_53, x_get_i, List.getElem?_cons_succ, List.getElem?_cons_zero, x_cv_j, cs_n, cs_i, cs_r, cs_l, Nat.reduceAdd, Nat.reduceLeDiff, true_and, Option.toList_some, Option.toList_none, List.cons_append, List.nil_append, if_true, if_false, nb0, nb1, x_setJ, x_setZ0, x_setZ1, x_setA, x_setO, List.length_cons, List.length_nil, Nat.reduceLT, List.set_cons_succ, List.set_cons_zero, wrl_0, wrl_1, wrl_2, wrl_3, wrl_4, wrl_5, wrl_p0, wrl_p1, wrl_p2, wrl_p3, wrl_p4, mh_o, mh_po, mcv, mg_0, mg_1, mg_2, mg_3, mg_4, mg_5, mg_6, mg_7, mg_8, mg_9, mg_10, mg_11, mg_12, mg_13, mg_14, mg_15, mg_16, mg_17, mg_18, mg_19, mg_20, mg_21, mg_22, mg_23, mg_24, mg_25, mg_26, mg_27, mg_28, mg_29, mg_30, mg_31, mg_32, mg_33, mg_34, mg_35, mg_36, mg_37, mg_38, mg_39, mg_40, mg_41, mg_42, mg_43, mg_44, mg_45, mg_46, ms_1, ms_4, ms_6, ms_7, ms_9, ms_10, ms_11, ms_12, ms_16, ms_20, ms_24, ms_28, ms_35, ms_39, ms_42, ms_43, ms_17t, ms_17f, ms_8, ms_14, mc_1, mp_1, mc_2, mp_2, mc_3, mp_3, mc_4, mp_4, mc_5, mp_5, mc_6, mp_6, mc_7, mp_7, mc_8, mp_8, mc_9, mp_9, mc_10, mp_10, mc_11, mp_11, mc_12, mp_12, mc_13, mp_13, mc_14, mp_14, mc_15, mp_15, mc_16, mp_16, mc_17, mp_17, mc_18, mp_18, mc_19, mp_19, mc_20, mp_20, mc_21, mp_21, mc_22, mp_22, mc_23, mp_23, mc_24, mp_24, mc_25, mp_25, mc_26, mp_26, mc_27, mp_27, mc_28, mp_28, mc_29, mp_29, iu, cup, Nat.reduceEqDiff, h1, Int32.le_refl]
    | succ j ih =>
      intro i hi
      have es : rfr L (N 36) v (i + 1) = rfr L (N 36) v i ||| (if L i = v then (if (N 36 >>> (nI i &&& 31)) &&& 1 = 1 then (0 : Int32) else 1 <<< (nI i &&& 31)) else 0) := rfl
      rw [← ih (i + 1) (by omega), s_236_4, es]
      simp only [s_236_0, s_236_1, s_236_2, s_236_3, s_236_5, s_236_6, s_236_9, s_236_12, s_236_13, s_236_14, s_236_17, s_236_18, s_236_19, s_236_20, s_236_23, s_236_24, s_236_27, s_236_29, s_236_30, s_236_31, s_236_34, s_236_37, s_236_38, s_236_39, s_236_40, s_236_43, s_236_44, s_236_45, s_236_46, s_236_49, s_236_52, s_236_53, x_get_i, List.getElem?_cons_succ, List.getElem?_cons_zero, x_cv_j, cs_n, cs_i, cs_r, cs_l, Nat.reduceAdd, Nat.reduceLeDiff, true_and, Option.toList_some, Option.toList_none, List.cons_append, List.nil_append, if_true, if_false, nb0, nb1, x_setJ, x_setZ0, x_setZ1, x_setA, x_setO, List.length_cons, List.length_nil, Nat.reduceLT, List.set_cons_succ, List.set_cons_zero, wrl_0, wrl_1, wrl_2, wrl_3, wrl_4, wrl_5, wrl_p0, wrl_p1, wrl_p2, wrl_p3, wrl_p4, mh_o, mh_po, mcv, mg_0, mg_1, mg_2, mg_3, mg_4, mg_5, mg_6, mg_7, mg_8, mg_9, mg_10, mg_11, mg_12, mg_13, mg_14, mg_15, mg_16, mg_17, mg_18, mg_19, mg_20, mg_21, mg_22, mg_23, mg_24, mg_25, mg_26, mg_27, mg_28, mg_29, mg_30, mg_31, mg_32, mg_33, mg_34, mg_35, mg_36, mg_37, mg_38, mg_39, mg_40, mg_41, mg_42, mg_43, mg_44, mg_45, mg_46, ms_1, ms_4, ms_6, ms_7, ms_9, ms_10, ms_11, ms_12, ms_16, ms_20, ms_24, ms_28, ms_35, ms_39, ms_42, ms_43, ms_17t, ms_17f, ms_8, ms_14, mc_1, mp_1, mc_2, mp_2, mc_3, mp_3, mc_4, mp_4, mc_5, mp_5, mc_6, mp_6, mc_7, mp_7, mc_8, mp_8, mc_9, mp_9, mc_10, mp_10, mc_11, mp_11, mc_12, mp_12, mc_13, mp_13, mc_14, mp_14, mc_15, mp_15, mc_16, mp_16, mc_17, mp_17, mc_18, mp_18, mc_19, mp_19, mc_20, mp_20, mc_21, mp_21, mc_22, mp_22, mc_23, mp_23, mc_24, mp_24, mc_25, mp_25, mc_26, mp_26, mc_27, mp_27, mc_28, mp_28, mc_29, mp_29, iu, cup, Nat.reduceEqDiff, h1, hx, hL, show ¬ nI n ≤ nI i from nI_ge (by omega) (by omega), i36, x_ild_n (show 36 < 38 by decide) n38, x_ild_n (show i < 12 by omega) n12, r_has, nI_1]
      by_cases c : L i = v
      · by_cases c2 : (N 36 >>> (nI i &&& 31)) &&& 1 = 1
        · simp only [c, c2, if_true, show ¬ (1 : Int32) = 0 by decide, if_false]
        · simp only [c, c2, if_true, if_false]
      · simp only [c, if_false]
  rw [e_236]
  simp only [s_236_0, s_236_1, s_236_2, s_236_3, s_236_5, s_236_6, s_236_9, s_236_12, s_236_13, s_236_14, s_236_17, s_236_18, s_236_19, s_236_20, s_236_23, s_236_24, s_236_27, s_236_29, s_236_30, s_236_31, s_236_34, s_236_37, s_236_38, s_236_39, s_236_40, s_236_43, s_236_44, s_236_45, s_236_46, s_236_49, s_236_52, s_236_53]
  exact loop n 0 (by omega)
/-- which sort a letter takes -/
def rtk (L W : Nat → Int32) (s v : Int32) : Nat → Option Nat := fo (fun i r => if L i = v then (if (s >>> (nI i &&& 31)) &&& 1 = 1 then r else (match r with
  | none => some i
  | some j => if W j ≤ W i then some j else some i)) else r) none
theorem rtk_lt {L W : Nat → Int32} {s v : Int32} : ∀ {i j : Nat}, rtk L W s v i = some j → j < i
  | 0, j, e => by cases e
  | i + 1, j, e => by
    have es : rtk L W s v (i + 1) = if L i = v then (if (s >>> (nI i &&& 31)) &&& 1 = 1 then rtk L W s v i else (match rtk L W s v i with
      | none => some i
      | some j => if W j ≤ W i then some j else some i)) else rtk L W s v i := rfl
    rw [es] at e
    split at e
    · split at e
      · have := rtk_lt e; omega
      · split at e
        · cases e; omega
        · rename_i j' hj
          split at e
          · cases e; have := rtk_lt hj; omega
          · cases e; omega
    · have := rtk_lt e; omega
theorem r_takes (h1 : I 1 = nI n) (hn : n ≤ 12) (hx : (mh h m I rd ru C).2.2 x = .inl (0, 38, .inl N)) (hL : C 2 = .inl (0, 12, .inl L)) (v : Int32) : tm_D (g_G sa sc xt) (d + 1) 217 [.ref m, .ref x, .int v] (mh h m I rd ru C) Q ↔ Q (some (.int (oI (rtk L N (N 36) v n)))) (mh h m I rd ru C) := by
  have loop : ∀ j i, i + j = n → (tm_X (g_G sa sc xt) (d + 1) 217 5 [.ref m, .ref x, .int v, .int (oI (rtk L N (N 36) v i)), .int (nI i)] [] (mh h m I rd ru C) Q ↔ Q (some (.int (oI (rtk L N (N 36) v n)))) (mh h m I rd ru C)) := by
    intro j
    induction j with
    | zero =>
      intro i hi
      have hi : i = n := by omega
      subst hi
      rw [s_217_5]
      simp only [s_217_0, s_217_1, s_217_2, s_217_3, s_217_7, s_217_8, s_217_11, s_217_14, s_217_15, s_217_18, s_217_20, s_217_21, s_217_22, s_217_25, s_217_26, s_217_28, s_217_29, s_217_31, s_217_34, s_217_37, s_217_38, s_217_39, s_217_42, s_217_43, s_217_45, s_217_46, s_217_47, s_217_48, s_217_49, s_217_52, s_217_54, s_217_55, s_217_58, s_217_61, s_217_62, x_get_i, List.getElem?_cons_succ, List.getElem?_cons_zero, x_cv_j, cs_n, cs_i, cs_r, cs_l, Nat.reduceAdd, Nat.reduceLeDiff, true_and, Option.toList_some, Option.toList_none, List.cons_append, List.nil_append, if_true, if_false, nb0, nb1, x_setJ, x_setZ0, x_setZ1, x_setA, x_setO, List.length_cons, List.length_nil, Nat.reduceLT, List.set_cons_succ, List.set_cons_zero, wrl_0, wrl_1, wrl_2, wrl_3, wrl_4, wrl_5, wrl_p0, wrl_p1, wrl_p2, wrl_p3, wrl_p4, mh_o, mh_po, mcv, mg_0, mg_1, mg_2, mg_3, mg_4, mg_5, mg_6, mg_7, mg_8, mg_9, mg_10, mg_11, mg_12, mg_13, mg_14, mg_15, mg_16, mg_17, mg_18, mg_19, mg_20, mg_21, mg_22, mg_23, mg_24, mg_25, mg_26, mg_27, mg_28, mg_29, mg_30, mg_31, mg_32, mg_33, mg_34, mg_35, mg_36, mg_37, mg_38, mg_39, mg_40, mg_41, mg_42, mg_43, mg_44, mg_45, mg_46, ms_1, ms_4, ms_6, ms_7, ms_9, ms_10, ms_11, ms_12, ms_16, ms_20, ms_24, ms_28, ms_35, ms_39, ms_42, ms_43, ms_17t, ms_17f, ms_8, ms_14, mc_1, mp_1, mc_2, mp_2, mc_3, mp_3, mc_4, mp_4, mc_5, mp_5, mc_6, mp_6, mc_7, mp_7, mc_8, mp_8, mc_9, mp_9, mc_10, mp_10, mc_11, mp_11, mc_12, mp_12, mc_13, mp_13, mc_14, mp_14, mc_15, mp_15, mc_16, mp_16, mc_17, mp_17, mc_18, mp_18, mc_19, mp_19, mc_20, mp_20, mc_21, mp_21, mc_22, mp_22, mc_23, mp_23, mc_24, mp_24, mc_25, mp_25, mc_26, mp_26, mc_27, mp_27, mc_28, mp_28, mc_29, mp_29, iu, cup, Nat.reduceEqDiff, h1, Int32.le_refl]
    | succ j ih =>
      intro i hi
      have es : rtk L N (N 36) v (i + 1) = if L i = v then (if (N 36 >>> (nI i &&& 31)) &&& 1 = 1 then rtk L N (N 36) v i else (match rtk L N (N 36) v i with
        | none => some i
        | some j => if N j ≤ N i then some j else some i)) else rtk L N (N 36) v i := rfl
      rw [← ih (i + 1) (by omega), s_217_5, es]
      simp only [s_217_0, s_217_1, s_217_2, s_217_3, s_217_7, s_217_8, s_217_11, s_217_14, s_217_15, s_217_18, s_217_20, s_217_21, s_217_22, s_217_25, s_217_26, s_217_28, s_217_29, s_217_31, s_217_34, s_217_37, s_217_38, s_217_39, s_217_42, s_217_43, s_217_45, s_217_46, s_217_47, s_217_48, s_217_49, s_217_52, s_217_54, s_217_55, s_217_58, s_217_61, s_217_62, x_get_i, List.getElem?_cons_succ, List.getElem?_cons_zero, x_cv_j, cs_n, cs_i, cs_r, cs_l, Nat.reduceAdd, Nat.reduceLeDiff, true_and, Option.toList_some, Option.toList_none, List.cons_append, List.nil_append, if_true, if_false, nb0, nb1, x_setJ, x_setZ0, x_setZ1, x_setA, x_setO, List.length_cons, List.length_nil, Nat.reduceLT, List.set_cons_succ, List.set_cons_zero, wrl_0, wrl_1, wrl_2, wrl_3, wrl_4, wrl_5, wrl_p0, wrl_p1, wrl_p2, wrl_p3, wrl_p4, mh_o, mh_po, mcv, mg_0, mg_1, mg_2, mg_3, mg_4, mg_5, mg_6, mg_7, mg_8, mg_9, mg_10, mg_11, mg_12, mg_13, mg_14, mg_15, mg_16, mg_17, mg_18, mg_19, mg_20, mg_21, mg_22, mg_23, mg_24, mg_25, mg_26, mg_27, mg_28, mg_29, mg_30, mg_31, mg_32, mg_33, mg_34, mg_35, mg_36, mg_37, mg_38, mg_39, mg_40, mg_41, mg_42, mg_43, mg_44, mg_45, mg_46, ms_1, ms_4, ms_6, ms_7, ms_9, ms_10, ms_11, ms_12, ms_16, ms_20, ms_24, ms_28, ms_35, ms_39, ms_42, ms_43, ms_17t, ms_17f, ms_8, ms_14, mc_1, mp_1, mc_2, mp_2, mc_3, mp_3, mc_4, mp_4, mc_5, mp_5, mc_6, mp_6, mc_7, mp_7, mc_8, mp_8, mc_9, mp_9, mc_10, mp_10, mc_11, mp_11, mc_12, mp_12, mc_13, mp_13, mc_14, mp_14, mc_15, mp_15, mc_16, mp_16, mc_17, mp_17, mc_18, mp_18, mc_19, mp_19, mc_20, mp_20, mc_21, mp_21, mc_22, mp_22, mc_23, mp_23, mc_24, mp_24, mc_25, mp_25, mc_26, mp_26, mc_27, mp_27, mc_28, mp_28, mc_29, mp_29, iu, cup, Nat.reduceEqDiff, h1, hx, hL, show ¬ nI n ≤ nI i from nI_ge (by omega) (by omega), i36, x_ild_n (show 36 < 38 by decide) n38, x_ild_n (show i < 12 by omega) n12, r_has, nI_1]
      by_cases c : L i = v
      · by_cases c2 : (N 36 >>> (nI i &&& 31)) &&& 1 = 1
        · simp only [c, c2, if_true, show ¬ (1 : Int32) = 0 by decide, if_false]
        · simp only [c, c2, if_true, if_false]
          cases hr : rtk L N (N 36) v i with
          | none => simp only [oI, if_true]
          | some q =>
            have hq := rtk_lt hr
            simp only [oI, oI_ne (show q < 2 ^ 31 by omega), if_false, s_217_0, s_217_1, s_217_2, s_217_3, s_217_7, s_217_8, s_217_11, s_217_14, s_217_15, s_217_18, s_217_20, s_217_21, s_217_22, s_217_25, s_217_26, s_217_28, s_217_29, s_217_31, s_217_34, s_217_37, s_217_38, s_217_39, s_217_42, s_217_43, s_217_45, s_217_46, s_217_47, s_217_48, s_217_49, s_217_52, s_217_54, s_217_55, s_217_58, s_217_61, s_217_62, x_get_i, List.getElem?_cons_succ, List.getElem?_cons_zero, x_cv_j, cs_n, cs_i, cs_r, cs_l, Nat.reduceAdd, Nat.reduceLeDiff, true_and, Option.toList_some, Option.toList_none, List.cons_append, List.nil_append, if_true, if_false, nb0, nb1, x_setJ, x_setZ0, x_setZ1, x_setA, x_setO, List.length_cons, List.length_nil, Nat.reduceLT, List.set_cons_succ, List.set_cons_zero, wrl_0, wrl_1, wrl_2, wrl_3, wrl_4, wrl_5, wrl_p0, wrl_p1, wrl_p2, wrl_p3, wrl_p4, mh_o, mh_po, mcv, mg_0, mg_1, mg_2, mg_3, mg_4, mg_5, mg_6, mg_7, mg_8, mg_9, mg_10, mg_11, mg_12, mg_13, mg_14, mg_15, mg_16, mg_17, mg_18, mg_19, mg_20, mg_21, mg_22, mg_23, mg_24, mg_25, mg_26, mg_27, mg_28, mg_29, mg_30, mg_31, mg_32, mg_33, mg_34, mg_35, mg_36, mg_37, mg_38, mg_39, mg_40, mg_41, mg_42, mg_43, mg_44, mg_45, mg_46, ms_1, ms_4, ms_6, ms_7, ms_9, ms_10, ms_11, ms_12, ms_16, ms_20, ms_24, ms_28, ms_35, ms_39, ms_42, ms_43, ms_17t, ms_17f, ms_8, ms_14, mc_1, mp_1, mc_2, mp_2, mc_3, mp_3, mc_4, mp_4, mc_5, mp_5, mc_6, mp_6, mc_7, mp_7, mc_8, mp_8, mc_9, mp_9, mc_10, mp_10, mc_11, mp_11, mc_12, mp_12, mc_13, mp_13, mc_14, mp_14, mc_15, mp_15, mc_16, mp_16, mc_17, mp_17, mc_18, mp_18, mc_19, mp_19, mc_20, mp_20, mc_21, mp_21, mc_22, mp_22, mc_23, mp_23, mc_24, mp_24, mc_25, mp_25, mc_26, mp_26, mc_27, mp_27, mc_28, mp_28, mc_29, mp_29, iu, cup, Nat.reduceEqDiff, hx, x_ild_n (show i < 38 by omega) n38, x_ild_n (show q < 38 by omega) n38, nI_1]
            by_cases hw : N q ≤ N i
            · simp only [hw, if_true]
            · simp only [hw, if_false]
      · simp only [c, if_false]
  rw [e_217]
  simp only [s_217_0, s_217_1, s_217_2, s_217_3, s_217_7, s_217_8, s_217_11, s_217_14, s_217_15, s_217_18, s_217_20, s_217_21, s_217_22, s_217_25, s_217_26, s_217_28, s_217_29, s_217_31, s_217_34, s_217_37, s_217_38, s_217_39, s_217_42, s_217_43, s_217_45, s_217_46, s_217_47, s_217_48, s_217_49, s_217_52, s_217_54, s_217_55, s_217_58, s_217_61, s_217_62]
  exact loop n 0 (by omega)
theorem r_refMove0 {v w : Int32} (h1 : I 1 = nI n) (hn : n ≤ 12) (hb : ¬ (∃ j, j < n ∧ v = nI j) ∨ ¬ ∃ x, x < 8 ∧ w = nI x) : tm_D (g_G sa sc xt) (d + 2) 225 [.ref m, .ref x, .int v, .int w] (mh h m I rd ru C) Q ↔ Q (some (.int (-1))) (mh h m I rd ru C) := by
  rw [e_225]
  simp only [s_225_0, s_225_1, s_225_2, s_225_5, s_225_8, s_225_9, s_225_10, s_225_12, s_225_15, s_225_18, s_225_19, s_225_20, s_225_21, s_225_23, s_225_24, s_225_25, s_225_28, s_225_31, s_225_33, s_225_34, s_225_35, s_225_37, s_225_38, s_225_39, s_225_40, s_225_41, s_225_44, s_225_46, s_225_49, s_225_50, x_get_i, List.getElem?_cons_succ, List.getElem?_cons_zero, x_cv_j, cs_n, cs_i, cs_r, cs_l, Nat.reduceAdd, Nat.reduceLeDiff, true_and, Option.toList_some, Option.toList_none, List.cons_append, List.nil_append, if_true, if_false, nb0, nb1, x_setJ, x_setZ0, x_setZ1, x_setA, x_setO, List.length_cons, List.length_nil, Nat.reduceLT, List.set_cons_succ, List.set_cons_zero, wrl_0, wrl_1, wrl_2, wrl_3, wrl_4, wrl_5, wrl_p0, wrl_p1, wrl_p2, wrl_p3, wrl_p4, mh_o, mh_po, mcv, mg_0, mg_1, mg_2, mg_3, mg_4, mg_5, mg_6, mg_7, mg_8, mg_9, mg_10, mg_11, mg_12, mg_13, mg_14, mg_15, mg_16, mg_17, mg_18, mg_19, mg_20, mg_21, mg_22, mg_23, mg_24, mg_25, mg_26, mg_27, mg_28, mg_29, mg_30, mg_31, mg_32, mg_33, mg_34, mg_35, mg_36, mg_37, mg_38, mg_39, mg_40, mg_41, mg_42, mg_43, mg_44, mg_45, mg_46, ms_1, ms_4, ms_6, ms_7, ms_9, ms_10, ms_11, ms_12, ms_16, ms_20, ms_24, ms_28, ms_35, ms_39, ms_42, ms_43, ms_17t, ms_17f, ms_8, ms_14, mc_1, mp_1, mc_2, mp_2, mc_3, mp_3, mc_4, mp_4, mc_5, mp_5, mc_6, mp_6, mc_7, mp_7, mc_8, mp_8, mc_9, mp_9, mc_10, mp_10, mc_11, mp_11, mc_12, mp_12, mc_13, mp_13, mc_14, mp_14, mc_15, mp_15, mc_16, mp_16, mc_17, mp_17, mc_18, mp_18, mc_19, mp_19, mc_20, mp_20, mc_21, mp_21, mc_22, mp_22, mc_23, mp_23, mc_24, mp_24, mc_25, mp_25, mc_26, mp_26, mc_27, mp_27, mc_28, mp_28, mc_29, mp_29, iu, cup, Nat.reduceEqDiff, r_isSort h1 hn, r_in]
  by_cases hv : ∃ j, j < n ∧ v = nI j
  · have hw : ¬ ∃ x, x < 8 ∧ w = nI x := by rcases hb with q | q; exact absurd hv q; exact q
    have e7 : (if w < 0 then (0 : Int32) else if 7 < w then 0 else 1) = 0 := by
      have := boxI0 hw
      by_cases k1 : w < 0
      · rw [if_pos k1]
      · rw [if_neg k1] at this ⊢
        by_cases k2 : 8 ≤ w
        · rw [if_pos]
          exact Int32.lt_of_lt_of_le (by decide) k2
        · rw [if_neg k2] at this
          exact absurd this (by decide)
    simp only [(tc_hasI hn).mpr hv, e7, show ¬ (1 : Int32) = 0 by decide, if_true, if_false]
  · simp only [hasI0 hn hv, if_true]
end
