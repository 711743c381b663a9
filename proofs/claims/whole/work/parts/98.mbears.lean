/-! the reference's calls: often, shortest, bears, spans -/
section
variable {sa : g_SA} {sc : Nat × Nat × (Nat → Int32)} {xt : Nat → Nat → List Value → tm_H → Option (Option Value × tm_H)} {d m : Nat} {h : tm_H} {Q : Option Value → tm_H → Prop} {I : Nat → Int32} {rd : Value} {ru : Nat} {C : Nat → tm_E}
variable {c n u : Nat} {F L W M B N Lm H Ms Bs Os : Nat → Int32} {s g : Int32} {rc hc mc : Nat} {R : Nat → Int64} {tx : Nat × (Nat → Int32)} {rw : Nat × (Nat → Int64)} {nw : TN} {pa : PA} {cd : List Int32} {he : Nat × (Nat → Int32)} {mi : Nat × (Nat → Int32) × (Nat → Int32) × (Nat → Int32)}
theorem r_isText {NN : Nat → Int32} (h1 : I 1 = nI n) (hn : n ≤ 12) (hx : C 1 = .inl (0, 38, .inl N)) (hL : C 2 = .inl (0, 12, .inl L)) (h13 : C 13 = .inl (0, 8, .inl NN)) (x : Int32) : tm_D (g_G sa sc xt) (d + 2) 239 [.ref m, .int x] (mh h m I rd ru C) Q ↔ Q (some (.int (bI (decide (x &&& N 36 = 0) && le_su NN (fun l => tc_wh L (nI l) n &&& (N 36 ^^^ (-1))) x 8 0)))) (mh h m I rd ru C) := by
  have loop : ∀ j i, i + j = 8 → (tm_X (g_G sa sc xt) (d + 2) 239 16 [.ref m, .int x, .int (nI i)] [] (mh h m I rd ru C) Q ↔ Q (some (.int (bI (le_su NN (fun l => tc_wh L (nI l) n &&& (N 36 ^^^ (-1))) x j i)))) (mh h m I rd ru C)) := by
    intro j
    induction j with
    | zero =>
      intro i hi
      have hi : i = 8 := by omega
      subst hi
      rw [s_239_16]
      simp only [s_239_0, s_239_1, s_239_2, s_239_5, s_239_7, s_239_8, s_239_9, s_239_12, s_239_13, s_239_14, s_239_15, s_239_17, s_239_19, s_239_22, s_239_23, s_239_24, s_239_25, s_239_28, s_239_29, s_239_32, s_239_33, s_239_36, s_239_37, s_239_38, s_239_41, s_239_42, s_239_43, s_239_46, s_239_49, s_239_50, x_get_i, List.getElem?_cons_succ, List.getElem?_cons_zero, x_cv_j, cs_n, cs_i, cs_r, cs_l, Nat.reduceAdd, Nat.reduceLeDiff, true_and, Option.toList_some, Option.toList_none, List.cons_append, List.nil_append, if_true, if_false, nb0, nb1, x_setJ, x_setZ0, x_setZ1, x_setA, x_setO, List.length_cons, List.length_nil, Nat.reduceLT, List.set_cons_succ, List.set_cons_zero, wrl_0, wrl_1, wrl_2, wrl_3, wrl_4, wrl_5, wrl_p0, wrl_p1, wrl_p2, wrl_p3, wrl_p4, mh_o, mh_po, mcv, mg_0, mg_1, mg_2, mg_3, mg_4, mg_5, mg_6, mg_7, mg_8, mg_9, mg_10, mg_11, mg_12, mg_13, mg_14, mg_15, mg_16, mg_17, mg_18, mg_19, mg_20, mg_21, mg_22, mg_23, mg_24, mg_25, mg_26, mg_27, mg_28, mg_29, mg_30, mg_31, mg_32, mg_33, mg_34, mg_35, mg_36, mg_37, mg_38, mg_39, mg_40, mg_41, mg_42, mg_43, mg_44, mg_45, mg_46, ms_1, ms_4, ms_6, ms_7, ms_9, ms_10, ms_11, ms_12, ms_16, ms_20, ms_24, ms_28, ms_35, ms_39, ms_42, ms_43, ms_17t, ms_17f, ms_8, ms_14, mc_1, mp_1, mc_2, mp_2, mc_3, mp_3, mc_4, mp_4, mc_5, mp_5, mc_6, mp_6, mc_7, mp_7, mc_8, mp_8, mc_9, mp_9, mc_10, mp_10, mc_11, mp_11, mc_12, mp_12, mc_13, mp_13, mc_14, mp_14, mc_15, mp_15, mc_16, mp_16, mc_17, mp_17, mc_18, mp_18, mc_19, mp_19, mc_20, mp_20, mc_21, mp_21, mc_22, mp_22, mc_23, mp_23, mc_24, mp_24, mc_25, mp_25, mc_26, mp_26, mc_27, mp_27, mc_28, mp_28, mc_29, mp_29, iu, cup, Nat.reduceEqDiff, show (8 : Int32) ≤ nI 8 by decide]
      exact Iff.rfl
    | succ j ih =>
      intro i hi
      have i8 : i < 8 := by omega
      rw [s_239_16]
      simp only [s_239_0, s_239_1, s_239_2, s_239_5, s_239_7, s_239_8, s_239_9, s_239_12, s_239_13, s_239_14, s_239_15, s_239_17, s_239_19, s_239_22, s_239_23, s_239_24, s_239_25, s_239_28, s_239_29, s_239_32, s_239_33, s_239_36, s_239_37, s_239_38, s_239_41, s_239_42, s_239_43, s_239_46, s_239_49, s_239_50, x_get_i, List.getElem?_cons_succ, List.getElem?_cons_zero, x_cv_j, cs_n, cs_i, cs_r, cs_l, Nat.reduceAdd, Nat.reduceLeDiff, true_and, Option.toList_some, Option.toList_none, List.cons_append, List.nil_append, if_true, if_false, nb0, nb1, x_setJ, x_setZ0, x_setZ1, x_setA, x_setO, List.length_cons, List.length_nil, Nat.reduceLT, List.set_cons_succ, List.set_cons_zero, wrl_0, wrl_1, wrl_2, wrl_3, wrl_4, wrl_5, wrl_p0, wrl_p1, wrl_p2, wrl_p3, wrl_p4, mh_o, mh_po, mcv, mg_0, mg_1, mg_2, mg_3, mg_4, mg_5, mg_6, mg_7, mg_8, mg_9, mg_10, mg_11, mg_12, mg_13, mg_14, mg_15, mg_16, mg_17, mg_18, mg_19, mg_20, mg_21, mg_22, mg_23, mg_24, mg_25, mg_26, mg_27, mg_28, mg_29, mg_30, mg_31, mg_32, mg_33, mg_34, mg_35, mg_36, mg_37, mg_38, mg_39, mg_40, mg_41, mg_42, mg_43, mg_44, mg_45, mg_46, ms_1, ms_4, ms_6, ms_7, ms_9, ms_10, ms_11, ms_12, ms_16, ms_20, ms_24, ms_28, ms_35, ms_39, ms_42, ms_43, ms_17t, ms_17f, ms_8, ms_14, mc_1, mp_1, mc_2, mp_2, mc_3, mp_3, mc_4, mp_4, mc_5, mp_5, mc_6, mp_6, mc_7, mp_7, mc_8, mp_8, mc_9, mp_9, mc_10, mp_10, mc_11, mp_11, mc_12, mp_12, mc_13, mp_13, mc_14, mp_14, mc_15, mp_15, mc_16, mp_16, mc_17, mp_17, mc_18, mp_18, mc_19, mp_19, mc_20, mp_20, mc_21, mp_21, mc_22, mp_22, mc_23, mp_23, mc_24, mp_24, mc_25, mp_25, mc_26, mp_26, mc_27, mp_27, mc_28, mp_28, mc_29, mp_29, iu, cup, Nat.reduceEqDiff, show ¬ (8 : Int32) ≤ nI i from nI_ge (b := 8) i8 (by decide), r_free h1 hn hx hL, m_bitCount, h13, x_ild_n i8 n8, nI_1, rfr_wh n hn]
      unfold le_su
      by_cases c : ibc (x &&& (tc_wh L (nI i) n &&& (N 36 ^^^ (-1)))) = NN i
      · simp only [c, if_true]
        exact ih (i + 1) (by omega)
      · simp only [c, if_false]
        exact Iff.rfl
  rw [e_239]
  simp only [s_239_0, s_239_1, s_239_2, s_239_5, s_239_7, s_239_8, s_239_9, s_239_12, s_239_13, s_239_14, s_239_15, s_239_17, s_239_19, s_239_22, s_239_23, s_239_24, s_239_25, s_239_28, s_239_29, s_239_32, s_239_33, s_239_36, s_239_37, s_239_38, s_239_41, s_239_42, s_239_43, s_239_46, s_239_49, s_239_50, x_get_i, List.getElem?_cons_succ, List.getElem?_cons_zero, x_cv_j, cs_n, cs_i, cs_r, cs_l, Nat.reduceAdd, Nat.reduceLeDiff, true_and, Option.toList_some, Option.toList_none, List.cons_append, List.nil_append, if_true, if_false, nb0, nb1, x_setJ, x_setZ0, x_setZ1, x_setA, x_setO, List.length_cons, List.length_nil, Nat.reduceLT, List.set_cons_succ, List.set_cons_zero, wrl_0, wrl_1, wrl_2, wrl_3, wrl_4, wrl_5, wrl_p0, wrl_p1, wrl_p2, wrl_p3, wrl_p4, mh_o, mh_po, mcv, mg_0, mg_1, mg_2, mg_3, mg_4, mg_5, mg_6, mg_7, mg_8, mg_9, mg_10, mg_11, mg_12, mg_13, mg_14, mg_15, mg_16, mg_17, mg_18, mg_19, mg_20, mg_21, mg_22, mg_23, mg_24, mg_25, mg_26, mg_27, mg_28, mg_29, mg_30, mg_31, mg_32, mg_33, mg_34, mg_35, mg_36, mg_37, mg_38, mg_39, mg_40, mg_41, mg_42, mg_43, mg_44, mg_45, mg_46, ms_1, ms_4, ms_6, ms_7, ms_9, ms_10, ms_11, ms_12, ms_16, ms_20, ms_24, ms_28, ms_35, ms_39, ms_42, ms_43, ms_17t, ms_17f, ms_8, ms_14, mc_1, mp_1, mc_2, mp_2, mc_3, mp_3, mc_4, mp_4, mc_5, mp_5, mc_6, mp_6, mc_7, mp_7, mc_8, mp_8, mc_9, mp_9, mc_10, mp_10, mc_11, mp_11, mc_12, mp_12, mc_13, mp_13, mc_14, mp_14, mc_15, mp_15, mc_16, mp_16, mc_17, mp_17, mc_18, mp_18, mc_19, mp_19, mc_20, mp_20, mc_21, mp_21, mc_22, mp_22, mc_23, mp_23, mc_24, mp_24, mc_25, mp_25, mc_26, mp_26, mc_27, mp_27, mc_28, mp_28, mc_29, mp_29, iu, cup, Nat.reduceEqDiff, hx, i36, x_ild_n (show 36 < 38 by decide) n38]
  by_cases c : x &&& N 36 = 0
  · simp only [c, if_true, decide_true, Bool.true_and]
    exact loop 8 0 (by decide)
  · simp only [c, if_false, decide_false, Bool.false_and]
    exact Iff.rfl
/-- the smallest of as many texts, from a bound on -/
def ofU (N fr : Nat → Int32) (z : Int32) : Nat → Int32 := fo (fun l t => if N l ≤ 0 then t else (if fr l / N l < t then fr l / N l else t)) z
theorem ofU_e {N fr : Nat → Int32} (hf : ∀ l, l < 8 → ∃ p, p ≤ 12 ∧ fr l = nI p) (hN : ∀ l, l < 8 → ∃ y, y < 100 ∧ N l = nI y) : ∀ k, k ≤ 8 → ((∃ l, l < k ∧ ¬ N l ≤ 0) → ofU N fr 1000000 k = ofU N fr 12 k) ∧ ((¬ ∃ l, l < k ∧ ¬ N l ≤ 0) → ofU N fr 1000000 k = 1000000 ∧ ofU N fr 12 k = 12)
  | 0, _ => ⟨fun ⟨l, h, _⟩ => absurd h (Nat.not_lt_zero l), fun _ => ⟨rfl, rfl⟩⟩
  | k + 1, hk => by
    obtain ⟨i1, i2⟩ := ofU_e hf hN k (by omega)
    have es : ∀ z, ofU N fr z (k + 1) = if N k ≤ 0 then ofU N fr z k else (if fr k / N k < ofU N fr z k then fr k / N k else ofU N fr z k) := fun _ => rfl
    rw [es, es]
    by_cases c : N k ≤ 0
    · rw [if_pos c, if_pos c]
      refine ⟨fun ⟨l, h1, h2⟩ => i1 ⟨l, ?_, h2⟩, fun h => i2 (fun ⟨l, h1, h2⟩ => h ⟨l, by omega, h2⟩)⟩
      have : l ≠ k := fun e => h2 (by rw [e]; exact c)
      omega
    · rw [if_neg c, if_neg c]
      refine ⟨fun _ => ?_, fun h => absurd ⟨k, by omega, c⟩ h⟩
      by_cases q : ∃ l, l < k ∧ ¬ N l ≤ 0
      · rw [i1 q]
      · obtain ⟨e1, e2⟩ := i2 q
        rw [e1, e2]
        obtain ⟨p, hp, ep⟩ := hf k (by omega)
        obtain ⟨y, hy, ey⟩ := hN k (by omega)
        have hdv : fr k / N k = nI (p / y) := by rw [ep, ey, nI_div (by omega) (by omega)]
        have hle : p / y ≤ 12 := Nat.le_trans (Nat.div_le_self p y) hp
        rw [hdv, if_pos (show nI (p / y) < 1000000 from nI_lt (b := 1000000) (by omega) (by decide))]
        by_cases c2 : p / y = 12
        · rw [c2]; decide
        · rw [if_pos (show nI (p / y) < 12 from nI_lt (b := 12) (by omega) (by decide))]
theorem lcn_some {F : Nat → Int32} {f : Nat} : ∀ {c : Nat}, 0 < c → (∀ i, i < c → ∃ y, y < 8 ∧ F (f + i) = nI (97 + y)) → ∃ l, l < 8 ∧ 0 < lcn F f c l
  | 0, h, _ => absurd h (by decide)
  | c + 1, _, h => by
    obtain ⟨y, hy, e⟩ := h c (by omega)
    refine ⟨y, hy, ?_⟩
    show 0 < lcn F f c y + if F (f + c) = nI (97 + y) then 1 else 0
    rw [if_pos e]
    omega
theorem fro_n {L : Nat → Int32} {n : Nat} {s : Int32} (hn : n ≤ 12) (l : Nat) : ∃ p, p ≤ 12 ∧ fro L n s l = nI p := by
  unfold fro
  rw [ibc_cn (lo12_and (lo12_wh hn))]
  exact ⟨_, cn_le, rfl⟩
theorem m_often (hM : MV I C (c, F) (rc, R) (L, W, M, B, n, s, g) pa cd he mi) (h1 : ∀ p I' rd' C', lrd F 0 c 0 = some p → MV I' C' (0, F) (rc, R) (L, W, M, B, n, s, g) pa cd he mi → Q (some (.int (-1 - nI p))) (mh h m I' rd' (m + 6) C')) (h2 : ∀ I' rd' C', lrd F 0 c 0 = none → MV I' C' (0, F) (rw1 R (ofM (fun l => nI (lcn F 0 c l)) (fro L n s) (ofT (fun l => nI (lcn F 0 c l)) (fro L n s) 8) 8).toInt64) (L, W, M, B, n, s, g) pa cd he mi → Q (some (.int (ofT (fun l => nI (lcn F 0 c l)) (fro L n s) 8))) (mh h m I' rd' (m + 6) C')) : tm_D (g_G sa sc xt) (d + 5) 237 [.ref m] (mh h m I rd (m + 6) C) Q := by
  rw [e_237]
  simp only [s_237_0, s_237_1, s_237_2, s_237_5, s_237_6, s_237_9, s_237_12, s_237_13, s_237_14, s_237_17, s_237_18, s_237_19, s_237_22, s_237_23, s_237_24, s_237_26, s_237_28, s_237_31, s_237_32, s_237_35, s_237_36, s_237_37, s_237_40, s_237_41, s_237_42, s_237_43, s_237_46, s_237_49, s_237_50, s_237_53, s_237_54, s_237_55, s_237_56, s_237_59, s_237_60, s_237_63, s_237_66, s_237_67, s_237_68, s_237_69, s_237_71, s_237_73, s_237_76, s_237_77, s_237_78, s_237_81, s_237_82, s_237_83, s_237_86, s_237_87, s_237_88, s_237_91, s_237_94, s_237_95, s_237_96, s_237_97, s_237_98, s_237_101, s_237_102, s_237_103, s_237_104, s_237_107, s_237_108, s_237_109, s_237_110, s_237_113, s_237_114, s_237_115, s_237_116, s_237_119, s_237_122, s_237_123, s_237_124, s_237_127, s_237_128, s_237_129, s_237_130, s_237_133, s_237_134, x_get_i, List.getElem?_cons_succ, List.getElem?_cons_zero, x_cv_j, cs_n, cs_i, cs_r, cs_l, Nat.reduceAdd, Nat.reduceLeDiff, true_and, Option.toList_some, Option.toList_none, List.cons_append, List.nil_append, if_true, if_false, nb0, nb1, x_setJ, x_setZ0, x_setZ1, x_setA, x_setO, List.length_cons, List.length_nil, Nat.reduceLT, List.set_cons_succ, List.set_cons_zero, wrl_0, wrl_1, wrl_2, wrl_3, wrl_4, wrl_5, wrl_p0, wrl_p1, wrl_p2, wrl_p3, wrl_p4, mh_o, mh_po, mcv, mg_0, mg_1, mg_2, mg_3, mg_4, mg_5, mg_6, mg_7, mg_8, mg_9, mg_10, mg_11, mg_12, mg_13, mg_14, mg_15, mg_16, mg_17, mg_18, mg_19, mg_20, mg_21, mg_22, mg_23, mg_24, mg_25, mg_26, mg_27, mg_28, mg_29, mg_30, mg_31, mg_32, mg_33, mg_34, mg_35, mg_36, mg_37, mg_38, mg_39, mg_40, mg_41, mg_42, mg_43, mg_44, mg_45, mg_46, ms_1, ms_4, ms_6, ms_7, ms_9, ms_10, ms_11, ms_12, ms_16, ms_20, ms_24, ms_28, ms_35, ms_39, ms_42, ms_43, ms_17t, ms_17f, ms_8, ms_14, mc_1, mp_1, mc_2, mp_2, mc_3, mp_3, mc_4, mp_4, mc_5, mp_5, mc_6, mp_6, mc_7, mp_7, mc_8, mp_8, mc_9, mp_9, mc_10, mp_10, mc_11, mp_11, mc_12, mp_12, mc_13, mp_13, mc_14, mp_14, mc_15, mp_15, mc_16, mp_16, mc_17, mp_17, mc_18, mp_18, mc_19, mp_19, mc_20, mp_20, mc_21, mp_21, mc_22, mp_22, mc_23, mp_23, mc_24, mp_24, mc_25, mp_25, mc_26, mp_26, mc_27, mp_27, mc_28, mp_28, mc_29, mp_29, iu, cup, Nat.reduceEqDiff]
  refine m_line (I := iu I 7 0) (c := c) hM.i7 (fun p I' rd' C' hl h12 hM1 => ?_) (fun I' rd' C' Z f hl hM1 h24 hc12 h12 hZ h13 => ?_)
  · simp only [s_237_0, s_237_1, s_237_2, s_237_5, s_237_6, s_237_9, s_237_12, s_237_13, s_237_14, s_237_17, s_237_18, s_237_19, s_237_22, s_237_23, s_237_24, s_237_26, s_237_28, s_237_31, s_237_32, s_237_35, s_237_36, s_237_37, s_237_40, s_237_41, s_237_42, s_237_43, s_237_46, s_237_49, s_237_50, s_237_53, s_237_54, s_237_55, s_237_56, s_237_59, s_237_60, s_237_63, s_237_66, s_237_67, s_237_68, s_237_69, s_237_71, s_237_73, s_237_76, s_237_77, s_237_78, s_237_81, s_237_82, s_237_83, s_237_86, s_237_87, s_237_88, s_237_91, s_237_94, s_237_95, s_237_96, s_237_97, s_237_98, s_237_101, s_237_102, s_237_103, s_237_104, s_237_107, s_237_108, s_237_109, s_237_110, s_237_113, s_237_114, s_237_115, s_237_116, s_237_119, s_237_122, s_237_123, s_237_124, s_237_127, s_237_128, s_237_129, s_237_130, s_237_133, s_237_134, x_get_i, List.getElem?_cons_succ, List.getElem?_cons_zero, x_cv_j, cs_n, cs_i, cs_r, cs_l, Nat.reduceAdd, Nat.reduceLeDiff, true_and, Option.toList_some, Option.toList_none, List.cons_append, List.nil_append, if_true, if_false, nb0, nb1, x_setJ, x_setZ0, x_setZ1, x_setA, x_setO, List.length_cons, List.length_nil, Nat.reduceLT, List.set_cons_succ, List.set_cons_zero, wrl_0, wrl_1, wrl_2, wrl_3, wrl_4, wrl_5, wrl_p0, wrl_p1, wrl_p2, wrl_p3, wrl_p4, mh_o, mh_po, mcv, mg_0, mg_1, mg_2, mg_3, mg_4, mg_5, mg_6, mg_7, mg_8, mg_9, mg_10, mg_11, mg_12, mg_13, mg_14, mg_15, mg_16, mg_17, mg_18, mg_19, mg_20, mg_21, mg_22, mg_23, mg_24, mg_25, mg_26, mg_27, mg_28, mg_29, mg_30, mg_31, mg_32, mg_33, mg_34, mg_35, mg_36, mg_37, mg_38, mg_39, mg_40, mg_41, mg_42, mg_43, mg_44, mg_45, mg_46, ms_1, ms_4, ms_6, ms_7, ms_9, ms_10, ms_11, ms_12, ms_16, ms_20, ms_24, ms_28, ms_35, ms_39, ms_42, ms_43, ms_17t, ms_17f, ms_8, ms_14, mc_1, mp_1, mc_2, mp_2, mc_3, mp_3, mc_4, mp_4, mc_5, mp_5, mc_6, mp_6, mc_7, mp_7, mc_8, mp_8, mc_9, mp_9, mc_10, mp_10, mc_11, mp_11, mc_12, mp_12, mc_13, mp_13, mc_14, mp_14, mc_15, mp_15, mc_16, mp_16, mc_17, mp_17, mc_18, mp_18, mc_19, mp_19, mc_20, mp_20, mc_21, mp_21, mc_22, mp_22, mc_23, mp_23, mc_24, mp_24, mc_25, mp_25, mc_26, mp_26, mc_27, mp_27, mc_28, mp_28, mc_29, mp_29, iu, cup, Nat.reduceEqDiff, h12, not_true_eq_false, if_false]
    exact h1 p I' rd' C' hl hM1
  obtain ⟨N, Lm, f11, hG, hN, hL, h11, hr, hLe, hwf, i1, hn⟩ := hM1.ngt (m := m)
  have i1 : I' 1 = nI n := i1
  have hn : n ≤ 12 := hn
  have e36 : N 36 = s := hr.2.2.2.1
  obtain ⟨R', hR'⟩ : ∃ R', C' 4 = .inl (3, 16, .inr (.inl R')) := by obtain ⟨-, -, R', hR, -⟩ := hM1.2.1; exact ⟨R', hR⟩
  obtain ⟨NN, hNN⟩ : ∃ NN : Nat → Int32, NN = fun l => nI (lcn F 0 c l) := ⟨_, rfl⟩
  have eNN : ∀ l, l < 8 → LN f F 0 c l = NN l := fun l hl => by rw [hNN]; exact if_pos hl
  have nNN : ∀ l, l < 8 → ∃ y, y < 100 ∧ NN l = nI y := fun l hl => by rw [hNN]; exact ⟨_, lcn_100 (by omega), rfl⟩
  have efr : ∀ l, ibc (rfr Lm (N 36) (nI l) n) = fro L n s l := fun l => by
    rw [rfr_wh n hn, e36, wh_cg hLe]; rfl
  have eT : ofU NN (fro L n s) 1000000 8 = ofT NN (fro L n s) 8 := by
    refine (ofU_e (fun l _ => fro_n hn l) nNN 8 (Nat.le_refl _)).1 ?_
    obtain ⟨l, l1, l2⟩ := lcn_some (F := F) (f := 0) (lrd_pos hl) (fun i hi => by obtain ⟨y, y1, y2, -⟩ := hZ i hi; exact ⟨y, y1, y2⟩)
    refine ⟨l, l1, ?_⟩
    rw [hNN]
    exact nI_nle l2 (by have := lcn_100 (F := F) (m := c) (x := l) (by omega); omega)
  rw [← hNN] at h2
  have loop2 : ∀ (j i : Nat) (t : Int32), i + j = 8 → t = ofT NN (fro L n s) 8 → tm_X (g_G sa sc xt) (d + 5) 237 70 [.ref m, .int t, .int (ofM NN (fro L n s) t i), .int (nI i)] [] (mh h m I' rd' (m + 6) C') Q := by
    intro j
    induction j with
    | zero =>
      intro i t hi ht
      have hi : i = 8 := by omega
      subst hi
      rw [s_237_70]
      simp only [s_237_0, s_237_1, s_237_2, s_237_5, s_237_6, s_237_9, s_237_12, s_237_13, s_237_14, s_237_17, s_237_18, s_237_19, s_237_22, s_237_23, s_237_24, s_237_26, s_237_28, s_237_31, s_237_32, s_237_35, s_237_36, s_237_37, s_237_40, s_237_41, s_237_42, s_237_43, s_237_46, s_237_49, s_237_50, s_237_53, s_237_54, s_237_55, s_237_56, s_237_59, s_237_60, s_237_63, s_237_66, s_237_67, s_237_68, s_237_69, s_237_71, s_237_73, s_237_76, s_237_77, s_237_78, s_237_81, s_237_82, s_237_83, s_237_86, s_237_87, s_237_88, s_237_91, s_237_94, s_237_95, s_237_96, s_237_97, s_237_98, s_237_101, s_237_102, s_237_103, s_237_104, s_237_107, s_237_108, s_237_109, s_237_110, s_237_113, s_237_114, s_237_115, s_237_116, s_237_119, s_237_122, s_237_123, s_237_124, s_237_127, s_237_128, s_237_129, s_237_130, s_237_133, s_237_134, x_get_i, List.getElem?_cons_succ, List.getElem?_cons_zero, x_cv_j, cs_n, cs_i, cs_r, cs_l, Nat.reduceAdd, Nat.reduceLeDiff, true_and, Option.toList_some, Option.toList_none, List.cons_append, List.nil_append, if_true, if_false, nb0, nb1, x_setJ, x_setZ0, x_setZ1, x_setA, x_setO, List.length_cons, List.length_nil, Nat.reduceLT, List.set_cons_succ, List.set_cons_zero, wrl_0, wrl_1, wrl_2, wrl_3, wrl_4, wrl_5, wrl_p0, wrl_p1, wrl_p2, wrl_p3, wrl_p4, mh_o, mh_po, mcv, mg_0, mg_1, mg_2, mg_3, mg_4, mg_5, mg_6, mg_7, mg_8, mg_9, mg_10, mg_11, mg_12, mg_13, mg_14, mg_15, mg_16, mg_17, mg_18, mg_19, mg_20, mg_21, mg_22, mg_23, mg_24, mg_25, mg_26, mg_27, mg_28, mg_29, mg_30, mg_31, mg_32, mg_33, mg_34, mg_35, mg_36, mg_37, mg_38, mg_39, mg_40, mg_41, mg_42, mg_43, mg_44, mg_45, mg_46, ms_1, ms_4, ms_6, ms_7, ms_9, ms_10, ms_11, ms_12, ms_16, ms_20, ms_24, ms_28, ms_35, ms_39, ms_42, ms_43, ms_17t, ms_17f, ms_8, ms_14, mc_1, mp_1, mc_2, mp_2, mc_3, mp_3, mc_4, mp_4, mc_5, mp_5, mc_6, mp_6, mc_7, mp_7, mc_8, mp_8, mc_9, mp_9, mc_10, mp_10, mc_11, mp_11, mc_12, mp_12, mc_13, mp_13, mc_14, mp_14, mc_15, mp_15, mc_16, mp_16, mc_17, mp_17, mc_18, mp_18, mc_19, mp_19, mc_20, mp_20, mc_21, mp_21, mc_22, mp_22, mc_23, mp_23, mc_24, mp_24, mc_25, mp_25, mc_26, mp_26, mc_27, mp_27, mc_28, mp_28, mc_29, mp_29, iu, cup, Nat.reduceEqDiff, show (8 : Int32) ≤ nI 8 by decide]
      refine Iff.mpr (r_tell (k := 0) (R := R') (by decide) ?_ ?_ _) ?_
      · exact if_pos rfl
      · exact hR'
      simp only [s_237_0, s_237_1, s_237_2, s_237_5, s_237_6, s_237_9, s_237_12, s_237_13, s_237_14, s_237_17, s_237_18, s_237_19, s_237_22, s_237_23, s_237_24, s_237_26, s_237_28, s_237_31, s_237_32, s_237_35, s_237_36, s_237_37, s_237_40, s_237_41, s_237_42, s_237_43, s_237_46, s_237_49, s_237_50, s_237_53, s_237_54, s_237_55, s_237_56, s_237_59, s_237_60, s_237_63, s_237_66, s_237_67, s_237_68, s_237_69, s_237_71, s_237_73, s_237_76, s_237_77, s_237_78, s_237_81, s_237_82, s_237_83, s_237_86, s_237_87, s_237_88, s_237_91, s_237_94, s_237_95, s_237_96, s_237_97, s_237_98, s_237_101, s_237_102, s_237_103, s_237_104, s_237_107, s_237_108, s_237_109, s_237_110, s_237_113, s_237_114, s_237_115, s_237_116, s_237_119, s_237_122, s_237_123, s_237_124, s_237_127, s_237_128, s_237_129, s_237_130, s_237_133, s_237_134, x_get_i, List.getElem?_cons_succ, List.getElem?_cons_zero, x_cv_j, cs_n, cs_i, cs_r, cs_l, Nat.reduceAdd, Nat.reduceLeDiff, true_and, Option.toList_some, Option.toList_none, List.cons_append, List.nil_append, if_true, if_false, nb0, nb1, x_setJ, x_setZ0, x_setZ1, x_setA, x_setO, List.length_cons, List.length_nil, Nat.reduceLT, List.set_cons_succ, List.set_cons_zero, wrl_0, wrl_1, wrl_2, wrl_3, wrl_4, wrl_5, wrl_p0, wrl_p1, wrl_p2, wrl_p3, wrl_p4, mh_o, mh_po, mcv, mg_0, mg_1, mg_2, mg_3, mg_4, mg_5, mg_6, mg_7, mg_8, mg_9, mg_10, mg_11, mg_12, mg_13, mg_14, mg_15, mg_16, mg_17, mg_18, mg_19, mg_20, mg_21, mg_22, mg_23, mg_24, mg_25, mg_26, mg_27, mg_28, mg_29, mg_30, mg_31, mg_32, mg_33, mg_34, mg_35, mg_36, mg_37, mg_38, mg_39, mg_40, mg_41, mg_42, mg_43, mg_44, mg_45, mg_46, ms_1, ms_4, ms_6, ms_7, ms_9, ms_10, ms_11, ms_12, ms_16, ms_20, ms_24, ms_28, ms_35, ms_39, ms_42, ms_43, ms_17t, ms_17f, ms_8, ms_14, mc_1, mp_1, mc_2, mp_2, mc_3, mp_3, mc_4, mp_4, mc_5, mp_5, mc_6, mp_6, mc_7, mp_7, mc_8, mp_8, mc_9, mp_9, mc_10, mp_10, mc_11, mp_11, mc_12, mp_12, mc_13, mp_13, mc_14, mp_14, mc_15, mp_15, mc_16, mp_16, mc_17, mp_17, mc_18, mp_18, mc_19, mp_19, mc_20, mp_20, mc_21, mp_21, mc_22, mp_22, mc_23, mp_23, mc_24, mp_24, mc_25, mp_25, mc_26, mp_26, mc_27, mp_27, mc_28, mp_28, mc_29, mp_29, iu, cup, Nat.reduceEqDiff, iu_iu]
      rw [ht]
      exact h2 _ _ _ hl (hM1.tell1 (KP.refl hM1.mx) rfl rfl)
    | succ j ih =>
      intro i t hi ht
      have i8 : i < 8 := by omega
      have es : ofM NN (fro L n s) t (i + 1) = if (t + 1) * NN i ≤ fro L n s i then ofM NN (fro L n s) t i else ofM NN (fro L n s) t i ||| (1 <<< (nI i &&& 31)) := rfl
      have ih := ih (i + 1) t (by omega) ht
      rw [es] at ih
      rw [s_237_70]
      simp only [s_237_0, s_237_1, s_237_2, s_237_5, s_237_6, s_237_9, s_237_12, s_237_13, s_237_14, s_237_17, s_237_18, s_237_19, s_237_22, s_237_23, s_237_24, s_237_26, s_237_28, s_237_31, s_237_32, s_237_35, s_237_36, s_237_37, s_237_40, s_237_41, s_237_42, s_237_43, s_237_46, s_237_49, s_237_50, s_237_53, s_237_54, s_237_55, s_237_56, s_237_59, s_237_60, s_237_63, s_237_66, s_237_67, s_237_68, s_237_69, s_237_71, s_237_73, s_237_76, s_237_77, s_237_78, s_237_81, s_237_82, s_237_83, s_237_86, s_237_87, s_237_88, s_237_91, s_237_94, s_237_95, s_237_96, s_237_97, s_237_98, s_237_101, s_237_102, s_237_103, s_237_104, s_237_107, s_237_108, s_237_109, s_237_110, s_237_113, s_237_114, s_237_115, s_237_116, s_237_119, s_237_122, s_237_123, s_237_124, s_237_127, s_237_128, s_237_129, s_237_130, s_237_133, s_237_134, x_get_i, List.getElem?_cons_succ, List.getElem?_cons_zero, x_cv_j, cs_n, cs_i, cs_r, cs_l, Nat.reduceAdd, Nat.reduceLeDiff, true_and, Option.toList_some, Option.toList_none, List.cons_append, List.nil_append, if_true, if_false, nb0, nb1, x_setJ, x_setZ0, x_setZ1, x_setA, x_setO, List.length_cons, List.length_nil, Nat.reduceLT, List.set_cons_succ, List.set_cons_zero, wrl_0, wrl_1, wrl_2, wrl_3, wrl_4, wrl_5, wrl_p0, wrl_p1, wrl_p2, wrl_p3, wrl_p4, mh_o, mh_po, mcv, mg_0, mg_1, mg_2, mg_3, mg_4, mg_5, mg_6, mg_7, mg_8, mg_9, mg_10, mg_11, mg_12, mg_13, mg_14, mg_15, mg_16, mg_17, mg_18, mg_19, mg_20, mg_21, mg_22, mg_23, mg_24, mg_25, mg_26, mg_27, mg_28, mg_29, mg_30, mg_31, mg_32, mg_33, mg_34, mg_35, mg_36, mg_37, mg_38, mg_39, mg_40, mg_41, mg_42, mg_43, mg_44, mg_45, mg_46, ms_1, ms_4, ms_6, ms_7, ms_9, ms_10, ms_11, ms_12, ms_16, ms_20, ms_24, ms_28, ms_35, ms_39, ms_42, ms_43, ms_17t, ms_17f, ms_8, ms_14, mc_1, mp_1, mc_2, mp_2, mc_3, mp_3, mc_4, mp_4, mc_5, mp_5, mc_6, mp_6, mc_7, mp_7, mc_8, mp_8, mc_9, mp_9, mc_10, mp_10, mc_11, mp_11, mc_12, mp_12, mc_13, mp_13, mc_14, mp_14, mc_15, mp_15, mc_16, mp_16, mc_17, mp_17, mc_18, mp_18, mc_19, mp_19, mc_20, mp_20, mc_21, mp_21, mc_22, mp_22, mc_23, mp_23, mc_24, mp_24, mc_25, mp_25, mc_26, mp_26, mc_27, mp_27, mc_28, mp_28, mc_29, mp_29, iu, cup, Nat.reduceEqDiff, show ¬ (8 : Int32) ≤ nI i from nI_ge (b := 8) i8 (by decide), h13, x_ild_n i8 n8, eNN i i8, nI_1, r_free i1 hn hN hL, m_bitCount, efr]
      by_cases c1 : NN i ≤ 0
      · have y0 : NN i = 0 := by
          obtain ⟨y, hy, ey⟩ := nNN i i8
          rw [ey] at c1 ⊢
          have : y = 0 := by
            apply Classical.byContradiction
            intro q
            exact nI_nle (by omega) (by omega) c1
          rw [this]; rfl
        have hle : (t + 1) * NN i ≤ fro L n s i := by
          rw [y0, Int32.mul_zero]
          obtain ⟨p, hp, ep⟩ := fro_n (L := L) (s := s) hn i
          rw [ep]
          exact nI_pos' (by omega)
        simp only [hle, if_true] at ih
        simp only [c1, if_true]
        have e0 : ofM NN (fro L n s) t i ||| 0 = ofM NN (fro L n s) t i := by
          apply bt_ext; intro q hq; rw [bt_or, bt_0, Bool.or_false]
        simp only [e0]
        exact ih
      · by_cases c2 : (t + 1) * NN i ≤ fro L n s i
        · simp only [c2, if_true] at ih
          have e0 : ofM NN (fro L n s) t i ||| 0 = ofM NN (fro L n s) t i := by
            apply bt_ext; intro q hq; rw [bt_or, bt_0, Bool.or_false]
          simp only [c1, c2, if_true, if_false, e0]
          exact ih
        · simp only [c2, if_false] at ih
          simp only [c1, c2, if_false]
          exact ih
  have loop1 : ∀ (j i : Nat) (x3 : Value), i + j = 8 → tm_X (g_G sa sc xt) (d + 5) 237 25 [.ref m, .int (ofU NN (fro L n s) 1000000 i), .int (nI i), x3] [] (mh h m I' rd' (m + 6) C') Q := by
    intro j
    induction j with
    | zero =>
      intro i x3 hi
      have hi : i = 8 := by omega
      subst hi
      rw [s_237_25]
      simp only [s_237_0, s_237_1, s_237_2, s_237_5, s_237_6, s_237_9, s_237_12, s_237_13, s_237_14, s_237_17, s_237_18, s_237_19, s_237_22, s_237_23, s_237_24, s_237_26, s_237_28, s_237_31, s_237_32, s_237_35, s_237_36, s_237_37, s_237_40, s_237_41, s_237_42, s_237_43, s_237_46, s_237_49, s_237_50, s_237_53, s_237_54, s_237_55, s_237_56, s_237_59, s_237_60, s_237_63, s_237_66, s_237_67, s_237_68, s_237_69, s_237_71, s_237_73, s_237_76, s_237_77, s_237_78, s_237_81, s_237_82, s_237_83, s_237_86, s_237_87, s_237_88, s_237_91, s_237_94, s_237_95, s_237_96, s_237_97, s_237_98, s_237_101, s_237_102, s_237_103, s_237_104, s_237_107, s_237_108, s_237_109, s_237_110, s_237_113, s_237_114, s_237_115, s_237_116, s_237_119, s_237_122, s_237_123, s_237_124, s_237_127, s_237_128, s_237_129, s_237_130, s_237_133, s_237_134, x_get_i, List.getElem?_cons_succ, List.getElem?_cons_zero, x_cv_j, cs_n, cs_i, cs_r, cs_l, Nat.reduceAdd, Nat.reduceLeDiff, true_and, Option.toList_some, Option.toList_none, List.cons_append, List.nil_append, if_true, if_false, nb0, nb1, x_setJ, x_setZ0, x_setZ1, x_setA, x_setO, List.length_cons, List.length_nil, Nat.reduceLT, List.set_cons_succ, List.set_cons_zero, wrl_0, wrl_1, wrl_2, wrl_3, wrl_4, wrl_5, wrl_p0, wrl_p1, wrl_p2, wrl_p3, wrl_p4, mh_o, mh_po, mcv, mg_0, mg_1, mg_2, mg_3, mg_4, mg_5, mg_6, mg_7, mg_8, mg_9, mg_10, mg_11, mg_12, mg_13, mg_14, mg_15, mg_16, mg_17, mg_18, mg_19, mg_20, mg_21, mg_22, mg_23, mg_24, mg_25, mg_26, mg_27, mg_28, mg_29, mg_30, mg_31, mg_32, mg_33, mg_34, mg_35, mg_36, mg_37, mg_38, mg_39, mg_40, mg_41, mg_42, mg_43, mg_44, mg_45, mg_46, ms_1, ms_4, ms_6, ms_7, ms_9, ms_10, ms_11, ms_12, ms_16, ms_20, ms_24, ms_28, ms_35, ms_39, ms_42, ms_43, ms_17t, ms_17f, ms_8, ms_14, mc_1, mp_1, mc_2, mp_2, mc_3, mp_3, mc_4, mp_4, mc_5, mp_5, mc_6, mp_6, mc_7, mp_7, mc_8, mp_8, mc_9, mp_9, mc_10, mp_10, mc_11, mp_11, mc_12, mp_12, mc_13, mp_13, mc_14, mp_14, mc_15, mp_15, mc_16, mp_16, mc_17, mp_17, mc_18, mp_18, mc_19, mp_19, mc_20, mp_20, mc_21, mp_21, mc_22, mp_22, mc_23, mp_23, mc_24, mp_24, mc_25, mp_25, mc_26, mp_26, mc_27, mp_27, mc_28, mp_28, mc_29, mp_29, iu, cup, Nat.reduceEqDiff, show (8 : Int32) ≤ nI 8 by decide]
      rw [eT]
      exact loop2 8 0 _ (by decide) rfl
    | succ j ih =>
      intro i x3 hi
      have i8 : i < 8 := by omega
      have es : ofU NN (fro L n s) 1000000 (i + 1) = if NN i ≤ 0 then ofU NN (fro L n s) 1000000 i else (if fro L n s i / NN i < ofU NN (fro L n s) 1000000 i then fro L n s i / NN i else ofU NN (fro L n s) 1000000 i) := rfl
      have ih := ih (i + 1) x3 (by omega)
      rw [es] at ih
      rw [s_237_25]
      simp only [s_237_0, s_237_1, s_237_2, s_237_5, s_237_6, s_237_9, s_237_12, s_237_13, s_237_14, s_237_17, s_237_18, s_237_19, s_237_22, s_237_23, s_237_24, s_237_26, s_237_28, s_237_31, s_237_32, s_237_35, s_237_36, s_237_37, s_237_40, s_237_41, s_237_42, s_237_43, s_237_46, s_237_49, s_237_50, s_237_53, s_237_54, s_237_55, s_237_56, s_237_59, s_237_60, s_237_63, s_237_66, s_237_67, s_237_68, s_237_69, s_237_71, s_237_73, s_237_76, s_237_77, s_237_78, s_237_81, s_237_82, s_237_83, s_237_86, s_237_87, s_237_88, s_237_91, s_237_94, s_237_95, s_237_96, s_237_97, s_237_98, s_237_101, s_237_102, s_237_103, s_237_104, s_237_107, s_237_108, s_237_109, s_237_110, s_237_113, s_237_114, s_237_115, s_237_116, s_237_119, s_237_122, s_237_123, s_237_124, s_237_127, s_237_128, s_237_129, s_237_130, s_237_133, s_237_134, x_get_i, List.getElem?_cons_succ, List.getElem?_cons_zero, x_cv_j, cs_n, cs_i, cs_r, cs_l, Nat.reduceAdd, Nat.reduceLeDiff, true_and, Option.toList_some, Option.toList_none, List.cons_append, List.nil_append, if_true, if_false, nb0, nb1, x_setJ, x_setZ0, x_setZ1, x_setA, x_setO, List.length_cons, List.length_nil, Nat.reduceLT, List.set_cons_succ, List.set_cons_zero, wrl_0, wrl_1, wrl_2, wrl_3, wrl_4, wrl_5, wrl_p0, wrl_p1, wrl_p2, wrl_p3, wrl_p4, mh_o, mh_po, mcv, mg_0, mg_1, mg_2, mg_3, mg_4, mg_5, mg_6, mg_7, mg_8, mg_9, mg_10, mg_11, mg_12, mg_13, mg_14, mg_15, mg_16, mg_17, mg_18, mg_19, mg_20, mg_21, mg_22, mg_23, mg_24, mg_25, mg_26, mg_27, mg_28, mg_29, mg_30, mg_31, mg_32, mg_33, mg_34, mg_35, mg_36, mg_37, mg_38, mg_39, mg_40, mg_41, mg_42, mg_43, mg_44, mg_45, mg_46, ms_1, ms_4, ms_6, ms_7, ms_9, ms_10, ms_11, ms_12, ms_16, ms_20, ms_24, ms_28, ms_35, ms_39, ms_42, ms_43, ms_17t, ms_17f, ms_8, ms_14, mc_1, mp_1, mc_2, mp_2, mc_3, mp_3, mc_4, mp_4, mc_5, mp_5, mc_6, mp_6, mc_7, mp_7, mc_8, mp_8, mc_9, mp_9, mc_10, mp_10, mc_11, mp_11, mc_12, mp_12, mc_13, mp_13, mc_14, mp_14, mc_15, mp_15, mc_16, mp_16, mc_17, mp_17, mc_18, mp_18, mc_19, mp_19, mc_20, mp_20, mc_21, mp_21, mc_22, mp_22, mc_23, mp_23, mc_24, mp_24, mc_25, mp_25, mc_26, mp_26, mc_27, mp_27, mc_28, mp_28, mc_29, mp_29, iu, cup, Nat.reduceEqDiff, show ¬ (8 : Int32) ≤ nI i from nI_ge (b := 8) i8 (by decide), h13, x_ild_n i8 n8, eNN i i8, nI_1, r_free i1 hn hN hL, m_bitCount, efr]
      by_cases c1 : NN i ≤ 0
      · simp only [c1, if_true] at ih ⊢
        exact ih
      · have n0 : ¬ NN i = 0 := fun e => c1 (by rw [e]; exact Int32.le_refl 0)
        simp only [c1, n0, if_false, not_false_eq_true, true_and] at ih ⊢
        exact ih
  simp only [s_237_0, s_237_1, s_237_2, s_237_5, s_237_6, s_237_9, s_237_12, s_237_13, s_237_14, s_237_17, s_237_18, s_237_19, s_237_22, s_237_23, s_237_24, s_237_26, s_237_28, s_237_31, s_237_32, s_237_35, s_237_36, s_237_37, s_237_40, s_237_41, s_237_42, s_237_43, s_237_46, s_237_49, s_237_50, s_237_53, s_237_54, s_237_55, s_237_56, s_237_59, s_237_60, s_237_63, s_237_66, s_237_67, s_237_68, s_237_69, s_237_71, s_237_73, s_237_76, s_237_77, s_237_78, s_237_81, s_237_82, s_237_83, s_237_86, s_237_87, s_237_88, s_237_91, s_237_94, s_237_95, s_237_96, s_237_97, s_237_98, s_237_101, s_237_102, s_237_103, s_237_104, s_237_107, s_237_108, s_237_109, s_237_110, s_237_113, s_237_114, s_237_115, s_237_116, s_237_119, s_237_122, s_237_123, s_237_124, s_237_127, s_237_128, s_237_129, s_237_130, s_237_133, s_237_134, x_get_i, List.getElem?_cons_succ, List.getElem?_cons_zero, x_cv_j, cs_n, cs_i, cs_r, cs_l, Nat.reduceAdd, Nat.reduceLeDiff, true_and, Option.toList_some, Option.toList_none, List.cons_append, List.nil_append, if_true, if_false, nb0, nb1, x_setJ, x_setZ0, x_setZ1, x_setA, x_setO, List.length_cons, List.length_nil, Nat.reduceLT, List.set_cons_succ, List.set_cons_zero, wrl_0, wrl_1, wrl_2, wrl_3, wrl_4, wrl_5, wrl_p0, wrl_p1, wrl_p2, wrl_p3, wrl_p4, mh_o, mh_po, mcv, mg_0, mg_1, mg_2, mg_3, mg_4, mg_5, mg_6, mg_7, mg_8, mg_9, mg_10, mg_11, mg_12, mg_13, mg_14, mg_15, mg_16, mg_17, mg_18, mg_19, mg_20, mg_21, mg_22, mg_23, mg_24, mg_25, mg_26, mg_27, mg_28, mg_29, mg_30, mg_31, mg_32, mg_33, mg_34, mg_35, mg_36, mg_37, mg_38, mg_39, mg_40, mg_41, mg_42, mg_43, mg_44, mg_45, mg_46, ms_1, ms_4, ms_6, ms_7, ms_9, ms_10, ms_11, ms_12, ms_16, ms_20, ms_24, ms_28, ms_35, ms_39, ms_42, ms_43, ms_17t, ms_17f, ms_8, ms_14, mc_1, mp_1, mc_2, mp_2, mc_3, mp_3, mc_4, mp_4, mc_5, mp_5, mc_6, mp_6, mc_7, mp_7, mc_8, mp_8, mc_9, mp_9, mc_10, mp_10, mc_11, mp_11, mc_12, mp_12, mc_13, mp_13, mc_14, mp_14, mc_15, mp_15, mc_16, mp_16, mc_17, mp_17, mc_18, mp_18, mc_19, mp_19, mc_20, mp_20, mc_21, mp_21, mc_22, mp_22, mc_23, mp_23, mc_24, mp_24, mc_25, mp_25, mc_26, mp_26, mc_27, mp_27, mc_28, mp_28, mc_29, mp_29, iu, cup, Nat.reduceEqDiff, show ¬ (1 : Int32) = 0 by decide, not_false_eq_true, if_true, if_false]
  exact loop1 8 0 _ (by decide)
/-- how many are of a letter -/
theorem cntL {L : Nat → Int32} {x : Int32} : ∀ {n : Nat}, n ≤ 12 → fo (fun i a => a + (if L i = x then (1 : Int32) else 0)) 0 n = ibc (tc_wh L x n) := by
  intro n hn
  have e1 : ∀ k, k ≤ 12 → fo (fun i a => a + (if L i = x then (1 : Int32) else 0)) 0 k = nI (cn (fun i => decide (L i = x)) k) := by
    intro k
    induction k with
    | zero => intro _; rfl
    | succ k ih =>
      intro hk
      show fo (fun i a => a + (if L i = x then (1 : Int32) else 0)) 0 k + (if L k = x then (1 : Int32) else 0) = _
      rw [ih (by omega), cn_s]
      by_cases c : L k = x
      · rw [if_pos c, if_pos (decide_eq_true c)]
        exact nI_1 _
      · rw [if_neg c, if_neg (by simp [c])]
        exact Int32.add_zero _
  rw [e1 n hn, ibc_cn (lo12_wh hn)]
  congr 1
  have e2 : cn (bt (tc_wh L x n)) 12 = cn (bt (tc_wh L x n)) n := by
    have := cn_up (p := bt (tc_wh L x n)) (k := n) (j := 12 - n) (fun i h1 h2 => by rw [wh_b hn (by omega), decide_eq_false (by omega)]; rfl)
    rwa [show n + (12 - n) = 12 by omega] at this
  rw [e2]
  exact cn_cg (fun i hi => by rw [wh_b hn (by omega), decide_eq_true hi]; rfl)
theorem m_shortest (hM : MV I C tx (rc, R) (L, W, M, B, n, s, g) pa cd he mi) (hQ : ∀ I' C', MV I' C' tx (rw2 R (fro L n s (shb (fro L n s) 7)).toInt64 (ibc (tc_wh L (nI (shb (fro L n s) 7)) n)).toInt64) (L, W, M, B, n, s, g) pa cd he mi → Q (some (.int (nI (shb (fro L n s) 7)))) (mh h m I' rd (m + 6) C')) : tm_D (g_G sa sc xt) (d + 3) 238 [.ref m] (mh h m I rd (m + 6) C) Q := by
  have hM7 : MV (iu I 7 0) C tx (rc, R) (L, W, M, B, n, s, g) pa cd he mi := hM.i7
  obtain ⟨N, Lm, f11, hG, hN, hL, h11, hr, hLe, hwf, i1, hn⟩ := hM7.ngt (m := m)
  have i1 : (iu I 7 0) 1 = nI n := i1
  have hn : n ≤ 12 := hn
  have e36 : N 36 = s := hr.2.2.2.1
  obtain ⟨I0, hI0⟩ : ∃ I0, I0 = iu I 7 0 := ⟨_, rfl⟩
  rw [← hI0] at i1 hM7
  obtain ⟨R', hR'⟩ : ∃ R', C 4 = .inl (3, 16, .inr (.inl R')) := by obtain ⟨-, -, R', hR, -⟩ := hM.2.1; exact ⟨R', hR⟩
  have efr : ∀ l, ibc (rfr Lm (N 36) (nI l) n) = fro L n s l := fun l => by
    rw [rfr_wh n hn, e36, wh_cg hLe]; rfl
  obtain ⟨b, hb⟩ : ∃ b, b = shb (fro L n s) 7 := ⟨_, rfl⟩
  have loop2 : ∀ (j i : Nat), i + j = n → tm_X (g_G sa sc xt) (d + 3) 238 50 [.ref m, .int (nI b), .int (fo (fun i a => a + (if Lm i = nI b then (1 : Int32) else 0)) 0 i), .int (nI i)] [] (mh h m I0 rd (m + 6) C) Q := by
    intro j
    induction j with
    | zero =>
      intro i hi
      have hi : i = n := by omega
      subst hi
      rw [s_238_50]
      simp only [s_238_0, s_238_1, s_238_2, s_238_5, s_238_6, s_238_7, s_238_8, s_238_10, s_238_12, s_238_15, s_238_16, s_238_17, s_238_20, s_238_23, s_238_24, s_238_25, s_238_28, s_238_31, s_238_34, s_238_35, s_238_38, s_238_39, s_238_40, s_238_43, s_238_46, s_238_47, s_238_48, s_238_49, s_238_51, s_238_52, s_238_55, s_238_58, s_238_59, s_238_60, s_238_63, s_238_64, s_238_65, s_238_66, s_238_69, s_238_70, s_238_73, s_238_74, s_238_75, s_238_76, s_238_79, s_238_82, s_238_83, s_238_84, s_238_87, s_238_88, s_238_89, s_238_90, s_238_93, s_238_96, s_238_97, s_238_100, s_238_101, s_238_102, s_238_103, s_238_106, s_238_107, x_get_i, List.getElem?_cons_succ, List.getElem?_cons_zero, x_cv_j, cs_n, cs_i, cs_r, cs_l, Nat.reduceAdd, Nat.reduceLeDiff, true_and, Option.toList_some, Option.toList_none, List.cons_append, List.nil_append, if_true, if_false, nb0, nb1, x_setJ, x_setZ0, x_setZ1, x_setA, x_setO, List.length_cons, List.length_nil, Nat.reduceLT, List.set_cons_succ, List.set_cons_zero, wrl_0, wrl_1, wrl_2, wrl_3, wrl_4, wrl_5, wrl_p0, wrl_p1, wrl_p2, wrl_p3, wrl_p4, mh_o, mh_po, mcv, mg_0, mg_1, mg_2, mg_3, mg_4, mg_5, mg_6, mg_7, mg_8, mg_9, mg_10, mg_11, mg_12, mg_13, mg_14, mg_15, mg_16, mg_17, mg_18, mg_19, mg_20, mg_21, mg_22, mg_23, mg_24, mg_25, mg_26, mg_27, mg_28, mg_29, mg_30, mg_31, mg_32, mg_33, mg_34, mg_35, mg_36, mg_37, mg_38, mg_39, mg_40, mg_41, mg_42, mg_43, mg_44, mg_45, mg_46, ms_1, ms_4, ms_6, ms_7, ms_9, ms_10, ms_11, ms_12, ms_16, ms_20, ms_24, ms_28, ms_35, ms_39, ms_42, ms_43, ms_17t, ms_17f, ms_8, ms_14, mc_1, mp_1, mc_2, mp_2, mc_3, mp_3, mc_4, mp_4, mc_5, mp_5, mc_6, mp_6, mc_7, mp_7, mc_8, mp_8, mc_9, mp_9, mc_10, mp_10, mc_11, mp_11, mc_12, mp_12, mc_13, mp_13, mc_14, mp_14, mc_15, mp_15, mc_16, mp_16, mc_17, mp_17, mc_18, mp_18, mc_19, mp_19, mc_20, mp_20, mc_21, mp_21, mc_22, mp_22, mc_23, mp_23, mc_24, mp_24, mc_25, mp_25, mc_26, mp_26, mc_27, mp_27, mc_28, mp_28, mc_29, mp_29, iu, cup, Nat.reduceEqDiff, i1, Int32.le_refl]
      refine Iff.mpr (r_free (n := i) (N := N) (L := Lm) ?_ hn hN hL _) ?_
      · exact i1
      simp only [s_238_0, s_238_1, s_238_2, s_238_5, s_238_6, s_238_7, s_238_8, s_238_10, s_238_12, s_238_15, s_238_16, s_238_17, s_238_20, s_238_23, s_238_24, s_238_25, s_238_28, s_238_31, s_238_34, s_238_35, s_238_38, s_238_39, s_238_40, s_238_43, s_238_46, s_238_47, s_238_48, s_238_49, s_238_51, s_238_52, s_238_55, s_238_58, s_238_59, s_238_60, s_238_63, s_238_64, s_238_65, s_238_66, s_238_69, s_238_70, s_238_73, s_238_74, s_238_75, s_238_76, s_238_79, s_238_82, s_238_83, s_238_84, s_238_87, s_238_88, s_238_89, s_238_90, s_238_93, s_238_96, s_238_97, s_238_100, s_238_101, s_238_102, s_238_103, s_238_106, s_238_107, x_get_i, List.getElem?_cons_succ, List.getElem?_cons_zero, x_cv_j, cs_n, cs_i, cs_r, cs_l, Nat.reduceAdd, Nat.reduceLeDiff, true_and, Option.toList_some, Option.toList_none, List.cons_append, List.nil_append, if_true, if_false, nb0, nb1, x_setJ, x_setZ0, x_setZ1, x_setA, x_setO, List.length_cons, List.length_nil, Nat.reduceLT, List.set_cons_succ, List.set_cons_zero, wrl_0, wrl_1, wrl_2, wrl_3, wrl_4, wrl_5, wrl_p0, wrl_p1, wrl_p2, wrl_p3, wrl_p4, mh_o, mh_po, mcv, mg_0, mg_1, mg_2, mg_3, mg_4, mg_5, mg_6, mg_7, mg_8, mg_9, mg_10, mg_11, mg_12, mg_13, mg_14, mg_15, mg_16, mg_17, mg_18, mg_19, mg_20, mg_21, mg_22, mg_23, mg_24, mg_25, mg_26, mg_27, mg_28, mg_29, mg_30, mg_31, mg_32, mg_33, mg_34, mg_35, mg_36, mg_37, mg_38, mg_39, mg_40, mg_41, mg_42, mg_43, mg_44, mg_45, mg_46, ms_1, ms_4, ms_6, ms_7, ms_9, ms_10, ms_11, ms_12, ms_16, ms_20, ms_24, ms_28, ms_35, ms_39, ms_42, ms_43, ms_17t, ms_17f, ms_8, ms_14, mc_1, mp_1, mc_2, mp_2, mc_3, mp_3, mc_4, mp_4, mc_5, mp_5, mc_6, mp_6, mc_7, mp_7, mc_8, mp_8, mc_9, mp_9, mc_10, mp_10, mc_11, mp_11, mc_12, mp_12, mc_13, mp_13, mc_14, mp_14, mc_15, mp_15, mc_16, mp_16, mc_17, mp_17, mc_18, mp_18, mc_19, mp_19, mc_20, mp_20, mc_21, mp_21, mc_22, mp_22, mc_23, mp_23, mc_24, mp_24, mc_25, mp_25, mc_26, mp_26, mc_27, mp_27, mc_28, mp_28, mc_29, mp_29, iu, cup, Nat.reduceEqDiff, m_bitCount, efr]
      refine Iff.mpr (r_tell (k := 0) (R := R') (by decide) ?_ ?_ _) ?_
      · exact if_pos rfl
      · exact hR'
      simp only [s_238_0, s_238_1, s_238_2, s_238_5, s_238_6, s_238_7, s_238_8, s_238_10, s_238_12, s_238_15, s_238_16, s_238_17, s_238_20, s_238_23, s_238_24, s_238_25, s_238_28, s_238_31, s_238_34, s_238_35, s_238_38, s_238_39, s_238_40, s_238_43, s_238_46, s_238_47, s_238_48, s_238_49, s_238_51, s_238_52, s_238_55, s_238_58, s_238_59, s_238_60, s_238_63, s_238_64, s_238_65, s_238_66, s_238_69, s_238_70, s_238_73, s_238_74, s_238_75, s_238_76, s_238_79, s_238_82, s_238_83, s_238_84, s_238_87, s_238_88, s_238_89, s_238_90, s_238_93, s_238_96, s_238_97, s_238_100, s_238_101, s_238_102, s_238_103, s_238_106, s_238_107, x_get_i, List.getElem?_cons_succ, List.getElem?_cons_zero, x_cv_j, cs_n, cs_i, cs_r, cs_l, Nat.reduceAdd, Nat.reduceLeDiff, true_and, Option.toList_some, Option.toList_none, List.cons_append, List.nil_append, if_true, if_false, nb0, nb1, x_setJ, x_setZ0, x_setZ1, x_setA, x_setO, List.length_cons, List.length_nil, Nat.reduceLT, List.set_cons_succ, List.set_cons_zero, wrl_0, wrl_1, wrl_2, wrl_3, wrl_4, wrl_5, wrl_p0, wrl_p1, wrl_p2, wrl_p3, wrl_p4, mh_o, mh_po, mcv, mg_0, mg_1, mg_2, mg_3, mg_4, mg_5, mg_6, mg_7, mg_8, mg_9, mg_10, mg_11, mg_12, mg_13, mg_14, mg_15, mg_16, mg_17, mg_18, mg_19, mg_20, mg_21, mg_22, mg_23, mg_24, mg_25, mg_26, mg_27, mg_28, mg_29, mg_30, mg_31, mg_32, mg_33, mg_34, mg_35, mg_36, mg_37, mg_38, mg_39, mg_40, mg_41, mg_42, mg_43, mg_44, mg_45, mg_46, ms_1, ms_4, ms_6, ms_7, ms_9, ms_10, ms_11, ms_12, ms_16, ms_20, ms_24, ms_28, ms_35, ms_39, ms_42, ms_43, ms_17t, ms_17f, ms_8, ms_14, mc_1, mp_1, mc_2, mp_2, mc_3, mp_3, mc_4, mp_4, mc_5, mp_5, mc_6, mp_6, mc_7, mp_7, mc_8, mp_8, mc_9, mp_9, mc_10, mp_10, mc_11, mp_11, mc_12, mp_12, mc_13, mp_13, mc_14, mp_14, mc_15, mp_15, mc_16, mp_16, mc_17, mp_17, mc_18, mp_18, mc_19, mp_19, mc_20, mp_20, mc_21, mp_21, mc_22, mp_22, mc_23, mp_23, mc_24, mp_24, mc_25, mp_25, mc_26, mp_26, mc_27, mp_27, mc_28, mp_28, mc_29, mp_29, iu, cup, Nat.reduceEqDiff, iu_iu]
      refine Iff.mpr (r_tell (k := 1) (R := vp_updL R' 0 (fro L i s b).toInt64) (by decide) ?_ ?_ _) ?_
      · exact if_pos rfl
      · exact if_pos rfl
      simp only [s_238_0, s_238_1, s_238_2, s_238_5, s_238_6, s_238_7, s_238_8, s_238_10, s_238_12, s_238_15, s_238_16, s_238_17, s_238_20, s_238_23, s_238_24, s_238_25, s_238_28, s_238_31, s_238_34, s_238_35, s_238_38, s_238_39, s_238_40, s_238_43, s_238_46, s_238_47, s_238_48, s_238_49, s_238_51, s_238_52, s_238_55, s_238_58, s_238_59, s_238_60, s_238_63, s_238_64, s_238_65, s_238_66, s_238_69, s_238_70, s_238_73, s_238_74, s_238_75, s_238_76, s_238_79, s_238_82, s_238_83, s_238_84, s_238_87, s_238_88, s_238_89, s_238_90, s_238_93, s_238_96, s_238_97, s_238_100, s_238_101, s_238_102, s_238_103, s_238_106, s_238_107, x_get_i, List.getElem?_cons_succ, List.getElem?_cons_zero, x_cv_j, cs_n, cs_i, cs_r, cs_l, Nat.reduceAdd, Nat.reduceLeDiff, true_and, Option.toList_some, Option.toList_none, List.cons_append, List.nil_append, if_true, if_false, nb0, nb1, x_setJ, x_setZ0, x_setZ1, x_setA, x_setO, List.length_cons, List.length_nil, Nat.reduceLT, List.set_cons_succ, List.set_cons_zero, wrl_0, wrl_1, wrl_2, wrl_3, wrl_4, wrl_5, wrl_p0, wrl_p1, wrl_p2, wrl_p3, wrl_p4, mh_o, mh_po, mcv, mg_0, mg_1, mg_2, mg_3, mg_4, mg_5, mg_6, mg_7, mg_8, mg_9, mg_10, mg_11, mg_12, mg_13, mg_14, mg_15, mg_16, mg_17, mg_18, mg_19, mg_20, mg_21, mg_22, mg_23, mg_24, mg_25, mg_26, mg_27, mg_28, mg_29, mg_30, mg_31, mg_32, mg_33, mg_34, mg_35, mg_36, mg_37, mg_38, mg_39, mg_40, mg_41, mg_42, mg_43, mg_44, mg_45, mg_46, ms_1, ms_4, ms_6, ms_7, ms_9, ms_10, ms_11, ms_12, ms_16, ms_20, ms_24, ms_28, ms_35, ms_39, ms_42, ms_43, ms_17t, ms_17f, ms_8, ms_14, mc_1, mp_1, mc_2, mp_2, mc_3, mp_3, mc_4, mp_4, mc_5, mp_5, mc_6, mp_6, mc_7, mp_7, mc_8, mp_8, mc_9, mp_9, mc_10, mp_10, mc_11, mp_11, mc_12, mp_12, mc_13, mp_13, mc_14, mp_14, mc_15, mp_15, mc_16, mp_16, mc_17, mp_17, mc_18, mp_18, mc_19, mp_19, mc_20, mp_20, mc_21, mp_21, mc_22, mp_22, mc_23, mp_23, mc_24, mp_24, mc_25, mp_25, mc_26, mp_26, mc_27, mp_27, mc_28, mp_28, mc_29, mp_29, iu, cup, Nat.reduceEqDiff, iu_iu, cup_cup]
      rw [cntL hn, wh_cg hLe]
      have := hQ (iu I0 6 (nI 2)) (cup C 4 (.inl (3, 16, .inr (.inl (vp_updL (vp_updL R' 0 (fro L i s b).toInt64) 1 (ibc (tc_wh L (nI b) i)).toInt64)))))
      rw [← hb] at this
      exact this (hM7.tell2 (KP.refl hM7.mx) rfl rfl)
    | succ j ih =>
      intro i hi
      have es : fo (fun i a => a + (if Lm i = nI b then (1 : Int32) else 0)) 0 (i + 1) = fo (fun i a => a + (if Lm i = nI b then (1 : Int32) else 0)) 0 i + (if Lm i = nI b then (1 : Int32) else 0) := rfl
      have ih := ih (i + 1) (by omega)
      rw [es] at ih
      rw [s_238_50]
      simp only [s_238_0, s_238_1, s_238_2, s_238_5, s_238_6, s_238_7, s_238_8, s_238_10, s_238_12, s_238_15, s_238_16, s_238_17, s_238_20, s_238_23, s_238_24, s_238_25, s_238_28, s_238_31, s_238_34, s_238_35, s_238_38, s_238_39, s_238_40, s_238_43, s_238_46, s_238_47, s_238_48, s_238_49, s_238_51, s_238_52, s_238_55, s_238_58, s_238_59, s_238_60, s_238_63, s_238_64, s_238_65, s_238_66, s_238_69, s_238_70, s_238_73, s_238_74, s_238_75, s_238_76, s_238_79, s_238_82, s_238_83, s_238_84, s_238_87, s_238_88, s_238_89, s_238_90, s_238_93, s_238_96, s_238_97, s_238_100, s_238_101, s_238_102, s_238_103, s_238_106, s_238_107, x_get_i, List.getElem?_cons_succ, List.getElem?_cons_zero, x_cv_j, cs_n, cs_i, cs_r, cs_l, Nat.reduceAdd, Nat.reduceLeDiff, true_and, Option.toList_some, Option.toList_none, List.cons_append, List.nil_append, if_true, if_false, nb0, nb1, x_setJ, x_setZ0, x_setZ1, x_setA, x_setO, List.length_cons, List.length_nil, Nat.reduceLT, List.set_cons_succ, List.set_cons_zero, wrl_0, wrl_1, wrl_2, wrl_3, wrl_4, wrl_5, wrl_p0, wrl_p1, wrl_p2, wrl_p3, wrl_p4, mh_o, mh_po, mcv, mg_0, mg_1, mg_2, mg_3, mg_4, mg_5, mg_6, mg_7, mg_8, mg_9, mg_10, mg_11, mg_12, mg_13, mg_14, mg_15, mg_16, mg_17, mg_18, mg_19, mg_20, mg_21, mg_22, mg_23, mg_24, mg_25, mg_26, mg_27, mg_28, mg_29, mg_30, mg_31, mg_32, mg_33, mg_34, mg_35, mg_36, mg_37, mg_38, mg_39, mg_40, mg_41, mg_42, mg_43, mg_44, mg_45, mg_46, ms_1, ms_4, ms_6, ms_7, ms_9, ms_10, ms_11, ms_12, ms_16, ms_20, ms_24, ms_28, ms_35, ms_39, ms_42, ms_43, ms_17t, ms_17f, ms_8, ms_14, mc_1, mp_1, mc_2, mp_2, mc_3, mp_3, mc_4, mp_4, mc_5, mp_5, mc_6, mp_6, mc_7, mp_7, mc_8, mp_8, mc_9, mp_9, mc_10, mp_10, mc_11, mp_11, mc_12, mp_12, mc_13, mp_13, mc_14, mp_14, mc_15, mp_15, mc_16, mp_16, mc_17, mp_17, mc_18, mp_18, mc_19, mp_19, mc_20, mp_20, mc_21, mp_21, mc_22, mp_22, mc_23, mp_23, mc_24, mp_24, mc_25, mp_25, mc_26, mp_26, mc_27, mp_27, mc_28, mp_28, mc_29, mp_29, iu, cup, Nat.reduceEqDiff, i1, show ¬ nI n ≤ nI i from nI_ge (by omega) (by omega), hL, x_ild_n (show i < 12 by omega) n12, nI_1]
      by_cases c : Lm i = nI b
      · simp only [c, if_true] at ih ⊢
        exact ih
      · simp only [c, if_false] at ih ⊢
        exact ih
  have loop1 : ∀ (j i : Nat) (x3 : Value), i + j = 7 → tm_X (g_G sa sc xt) (d + 3) 238 9 [.ref m, .int (nI (shb (fro L n s) i)), .int (nI (i + 1)), x3] [] (mh h m I0 rd (m + 6) C) Q := by
    intro j
    induction j with
    | zero =>
      intro i x3 hi
      have hi : i = 7 := by omega
      subst hi
      rw [s_238_9]
      simp only [s_238_0, s_238_1, s_238_2, s_238_5, s_238_6, s_238_7, s_238_8, s_238_10, s_238_12, s_238_15, s_238_16, s_238_17, s_238_20, s_238_23, s_238_24, s_238_25, s_238_28, s_238_31, s_238_34, s_238_35, s_238_38, s_238_39, s_238_40, s_238_43, s_238_46, s_238_47, s_238_48, s_238_49, s_238_51, s_238_52, s_238_55, s_238_58, s_238_59, s_238_60, s_238_63, s_238_64, s_238_65, s_238_66, s_238_69, s_238_70, s_238_73, s_238_74, s_238_75, s_238_76, s_238_79, s_238_82, s_238_83, s_238_84, s_238_87, s_238_88, s_238_89, s_238_90, s_238_93, s_238_96, s_238_97, s_238_100, s_238_101, s_238_102, s_238_103, s_238_106, s_238_107, x_get_i, List.getElem?_cons_succ, List.getElem?_cons_zero, x_cv_j, cs_n, cs_i, cs_r, cs_l, Nat.reduceAdd, Nat.reduceLeDiff, true_and, Option.toList_some, Option.toList_none, List.cons_append, List.nil_append, if_true, if_false, nb0, nb1, x_setJ, x_setZ0, x_setZ1, x_setA, x_setO, List.length_cons, List.length_nil, Nat.reduceLT, List.set_cons_succ, List.set_cons_zero, wrl_0, wrl_1, wrl_2, wrl_3, wrl_4, wrl_5, wrl_p0, wrl_p1, wrl_p2, wrl_p3, wrl_p4, mh_o, mh_po, mcv, mg_0, mg_1, mg_2, mg_3, mg_4, mg_5, mg_6, mg_7, mg_8, mg_9, mg_10, mg_11, mg_12, mg_13, mg_14, mg_15, mg_16, mg_17, mg_18, mg_19, mg_20, mg_21, mg_22, mg_23, mg_24, mg_25, mg_26, mg_27, mg_28, mg_29, mg_30, mg_31, mg_32, mg_33, mg_34, mg_35, mg_36, mg_37, mg_38, mg_39, mg_40, mg_41, mg_42, mg_43, mg_44, mg_45, mg_46, ms_1, ms_4, ms_6, ms_7, ms_9, ms_10, ms_11, ms_12, ms_16, ms_20, ms_24, ms_28, ms_35, ms_39, ms_42, ms_43, ms_17t, ms_17f, ms_8, ms_14, mc_1, mp_1, mc_2, mp_2, mc_3, mp_3, mc_4, mp_4, mc_5, mp_5, mc_6, mp_6, mc_7, mp_7, mc_8, mp_8, mc_9, mp_9, mc_10, mp_10, mc_11, mp_11, mc_12, mp_12, mc_13, mp_13, mc_14, mp_14, mc_15, mp_15, mc_16, mp_16, mc_17, mp_17, mc_18, mp_18, mc_19, mp_19, mc_20, mp_20, mc_21, mp_21, mc_22, mp_22, mc_23, mp_23, mc_24, mp_24, mc_25, mp_25, mc_26, mp_26, mc_27, mp_27, mc_28, mp_28, mc_29, mp_29, iu, cup, Nat.reduceEqDiff, show (8 : Int32) ≤ nI (7 + 1) by decide]
      rw [← hb]
      exact loop2 n 0 (by omega)
    | succ j ih =>
      intro i x3 hi
      have i8 : i + 1 < 8 := by omega
      have es : shb (fro L n s) (i + 1) = if fro L n s (shb (fro L n s) i) ≤ fro L n s (i + 1) then shb (fro L n s) i else i + 1 := rfl
      have ih := ih (i + 1) x3 (by omega)
      rw [es] at ih
      rw [s_238_9]
      simp only [s_238_0, s_238_1, s_238_2, s_238_5, s_238_6, s_238_7, s_238_8, s_238_10, s_238_12, s_238_15, s_238_16, s_238_17, s_238_20, s_238_23, s_238_24, s_238_25, s_238_28, s_238_31, s_238_34, s_238_35, s_238_38, s_238_39, s_238_40, s_238_43, s_238_46, s_238_47, s_238_48, s_238_49, s_238_51, s_238_52, s_238_55, s_238_58, s_238_59, s_238_60, s_238_63, s_238_64, s_238_65, s_238_66, s_238_69, s_238_70, s_238_73, s_238_74, s_238_75, s_238_76, s_238_79, s_238_82, s_238_83, s_238_84, s_238_87, s_238_88, s_238_89, s_238_90, s_238_93, s_238_96, s_238_97, s_238_100, s_238_101, s_238_102, s_238_103, s_238_106, s_238_107, x_get_i, List.getElem?_cons_succ, List.getElem?_cons_zero, x_cv_j, cs_n, cs_i, cs_r, cs_l, Nat.reduceAdd, Nat.reduceLeDiff, true_and, Option.toList_some, Option.toList_none, List.cons_append, List.nil_append, if_true, if_false, nb0, nb1, x_setJ, x_setZ0, x_setZ1, x_setA, x_setO, List.length_cons, List.length_nil, Nat.reduceLT, List.set_cons_succ, List.set_cons_zero, wrl_0, wrl_1, wrl_2, wrl_3, wrl_4, wrl_5, wrl_p0, wrl_p1, wrl_p2, wrl_p3, wrl_p4, mh_o, mh_po, mcv, mg_0, mg_1, mg_2, mg_3, mg_4, mg_5, mg_6, mg_7, mg_8, mg_9, mg_10, mg_11, mg_12, mg_13, mg_14, mg_15, mg_16, mg_17, mg_18, mg_19, mg_20, mg_21, mg_22, mg_23, mg_24, mg_25, mg_26, mg_27, mg_28, mg_29, mg_30, mg_31, mg_32, mg_33, mg_34, mg_35, mg_36, mg_37, mg_38, mg_39, mg_40, mg_41, mg_42, mg_43, mg_44, mg_45, mg_46, ms_1, ms_4, ms_6, ms_7, ms_9, ms_10, ms_11, ms_12, ms_16, ms_20, ms_24, ms_28, ms_35, ms_39, ms_42, ms_43, ms_17t, ms_17f, ms_8, ms_14, mc_1, mp_1, mc_2, mp_2, mc_3, mp_3, mc_4, mp_4, mc_5, mp_5, mc_6, mp_6, mc_7, mp_7, mc_8, mp_8, mc_9, mp_9, mc_10, mp_10, mc_11, mp_11, mc_12, mp_12, mc_13, mp_13, mc_14, mp_14, mc_15, mp_15, mc_16, mp_16, mc_17, mp_17, mc_18, mp_18, mc_19, mp_19, mc_20, mp_20, mc_21, mp_21, mc_22, mp_22, mc_23, mp_23, mc_24, mp_24, mc_25, mp_25, mc_26, mp_26, mc_27, mp_27, mc_28, mp_28, mc_29, mp_29, iu, cup, Nat.reduceEqDiff, show ¬ (8 : Int32) ≤ nI (i + 1) from nI_ge (b := 8) i8 (by decide), r_free i1 hn hN hL, m_bitCount, efr, nI_1]
      by_cases c : fro L n s (shb (fro L n s) i) ≤ fro L n s (i + 1)
      · simp only [c, if_true] at ih ⊢
        exact ih
      · simp only [c, if_false] at ih ⊢
        exact ih
  rw [e_238]
  simp only [s_238_0, s_238_1, s_238_2, s_238_5, s_238_6, s_238_7, s_238_8, s_238_10, s_238_12, s_238_15, s_238_16, s_238_17, s_238_20, s_238_23, s_238_24, s_238_25, s_238_28, s_238_31, s_238_34, s_238_35, s_238_38, s_238_39, s_238_40, s_238_43, s_238_46, s_238_47, s_238_48, s_238_49, s_238_51, s_238_52, s_238_55, s_238_58, s_238_59, s_238_60, s_238_63, s_238_64, s_238_65, s_238_66, s_238_69, s_238_70, s_238_73, s_238_74, s_238_75, s_238_76, s_238_79, s_238_82, s_238_83, s_238_84, s_238_87, s_238_88, s_238_89, s_238_90, s_238_93, s_238_96, s_238_97, s_238_100, s_238_101, s_238_102, s_238_103, s_238_106, s_238_107, x_get_i, List.getElem?_cons_succ, List.getElem?_cons_zero, x_cv_j, cs_n, cs_i, cs_r, cs_l, Nat.reduceAdd, Nat.reduceLeDiff, true_and, Option.toList_some, Option.toList_none, List.cons_append, List.nil_append, if_true, if_false, nb0, nb1, x_setJ, x_setZ0, x_setZ1, x_setA, x_setO, List.length_cons, List.length_nil, Nat.reduceLT, List.set_cons_succ, List.set_cons_zero, wrl_0, wrl_1, wrl_2, wrl_3, wrl_4, wrl_5, wrl_p0, wrl_p1, wrl_p2, wrl_p3, wrl_p4, mh_o, mh_po, mcv, mg_0, mg_1, mg_2, mg_3, mg_4, mg_5, mg_6, mg_7, mg_8, mg_9, mg_10, mg_11, mg_12, mg_13, mg_14, mg_15, mg_16, mg_17, mg_18, mg_19, mg_20, mg_21, mg_22, mg_23, mg_24, mg_25, mg_26, mg_27, mg_28, mg_29, mg_30, mg_31, mg_32, mg_33, mg_34, mg_35, mg_36, mg_37, mg_38, mg_39, mg_40, mg_41, mg_42, mg_43, mg_44, mg_45, mg_46, ms_1, ms_4, ms_6, ms_7, ms_9, ms_10, ms_11, ms_12, ms_16, ms_20, ms_24, ms_28, ms_35, ms_39, ms_42, ms_43, ms_17t, ms_17f, ms_8, ms_14, mc_1, mp_1, mc_2, mp_2, mc_3, mp_3, mc_4, mp_4, mc_5, mp_5, mc_6, mp_6, mc_7, mp_7, mc_8, mp_8, mc_9, mp_9, mc_10, mp_10, mc_11, mp_11, mc_12, mp_12, mc_13, mp_13, mc_14, mp_14, mc_15, mp_15, mc_16, mp_16, mc_17, mp_17, mc_18, mp_18, mc_19, mp_19, mc_20, mp_20, mc_21, mp_21, mc_22, mp_22, mc_23, mp_23, mc_24, mp_24, mc_25, mp_25, mc_26, mp_26, mc_27, mp_27, mc_28, mp_28, mc_29, mp_29, iu, cup, Nat.reduceEqDiff]
  rw [← hI0]
  exact loop1 7 0 _ (by decide)
end
