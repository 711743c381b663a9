/-! calls of the class: nights, moves, undo .. -/
section
variable {sa : g_SA} {sc : Nat × Nat × (Nat → Int32)} {xt : Nat → Nat → List Value → tm_H → Option (Option Value × tm_H)} {d b : Nat} {h : tm_H} {Q : Option Value → tm_H → Prop}
variable {tx : Nat × (Nat → Int32)} {rw : Nat × (Nat → Int64)} {nw : TN} {pa : Nat × Nat × (Nat → TN) × (Nat → TN) × (Nat → Int32)} {ru : Nat × Nat × List Int32} {he : Nat × (Nat → Int32)} {mi : Nat × (Nat → Int32) × (Nat → Int32) × (Nat → Int32)} {ga : Nat}
variable {c n m : Nat} {F L W M B : Nat → Int32} {s g : Int32} {rc : Nat} {R : Nat → Int64}
theorem c_tells (hW : CW sa h b (c, F) (rc, R) (L, W, M, B, n, s, g) pa ru he mi ga) (h1 : ∀ p h', lrd F 0 c 0 = some p → sm b (b + 162) h h' → CW sa h' b (0, F) (rc, R) (L, W, M, B, n, s, g) pa ru he mi ga → Q (some (.int (-1 - nI p))) h') (h3 : ∀ h', lrd F 0 c 0 = none → tkn L W n s F c = none → sm b (b + 162) h h' → CW sa h' b (0, F) (rc, R) (L, W, M, B, n, s, g) pa ru he mi ga → Q (some (.int (-101))) h') (h4 : ∀ t h', lrd F 0 c 0 = none → tkn L W n s F c = some t → sm b (b + 162) h h' → CW sa h' b (0, F) (rw1 R t.toInt64) (L, W, M, B, n, s, g) pa ru he mi ga → Q (some (.int (200 + tc_mo M t n))) h') : tm_D (g_G sa sc xt) (d + 4) 124 [.ref b] h Q := by
  obtain ⟨w_o, w_t, w_r, w_n, w_h, w_l, w_b, w_p, w_u, w_v, w_a, w_e, w_w, w_x, w_q, w_m, w_g, w_d, w_s⟩ := id hW
  have hc80 : c ≤ 80 := w_t.2.1
  have hn : n ≤ 12 := w_n.2.1
  rw [e_124]
  simp only [s_124_0, s_124_1, s_124_4, s_124_5, s_124_6, s_124_7, s_124_10, s_124_11, s_124_12, s_124_13, s_124_14, s_124_15, s_124_18, s_124_19, s_124_22, s_124_25, s_124_26, s_124_27, s_124_28, s_124_31, s_124_33, s_124_34, s_124_35, s_124_38, s_124_39, s_124_40, s_124_43, s_124_46, s_124_47, s_124_50, s_124_51, s_124_54, s_124_55, x_get_i, List.getElem?_cons_succ, List.getElem?_cons_zero, x_cv_j, cs_n, cs_i, cs_r, cs_l, Nat.reduceAdd, Nat.reduceLeDiff, true_and, Option.toList_some, Option.toList_none, List.cons_append, List.nil_append, if_true, if_false, nb0, nb1, x_setJ, x_setZ0, x_setZ1, x_setA, x_setO, List.length_cons, List.length_nil, Nat.reduceLT, List.set_cons_succ, List.set_cons_zero, wrl_0, wrl_1, wrl_2, wrl_3, wrl_4, wrl_5, wrl_p0, wrl_p1, wrl_p2, wrl_p3, wrl_p4, w_o]
  refine c_readLetters hW (fun ha N P p sA hWa ca => ?_)
  have o_a := hWa.1
  have a_a : ha.2.2 (b + 1) = .inr (8, _) := hWa.2.1.1.1
  have c_a : ha.2.2 (b + 3) = .inr (5, _) := cel_0 hWa.2.2.1.1
  have n_a : ha.2.2 (b + 5) = .inr (9, _) := hWa.2.2.2.1.1.1
  have p_a : ha.2.2 (b + 33) = .inr (6, _) := hWa.2.2.2.2.2.2.2.1.1.1
  have q_a : ha.2.2 (b + 152) = .inr (2, _) := cel_0 hWa.2.2.2.2.2.2.2.2.2.2.2.2.2.2.1.1
  obtain ⟨_, mm_a⟩ := hWa.2.2.2.2.2.2.2.2.2.2.2.2.2.2.2.1.1
  have m_a : ha.2.2 (b + 154) = .inr (4, _) := cel_0 mm_a
  have g_a : ha.2.2 (b + 159) = .inr (1, _) := cel_0 hWa.2.2.2.2.2.2.2.2.2.2.2.2.2.2.2.2.1.1
  cases hf : lrd F 0 c 0 with
  | some p0 =>
    have hp := lrd_lt (Nat.le_refl 0) hf
    simp only [s_124_0, s_124_1, s_124_4, s_124_5, s_124_6, s_124_7, s_124_10, s_124_11, s_124_12, s_124_13, s_124_14, s_124_15, s_124_18, s_124_19, s_124_22, s_124_25, s_124_26, s_124_27, s_124_28, s_124_31, s_124_33, s_124_34, s_124_35, s_124_38, s_124_39, s_124_40, s_124_43, s_124_46, s_124_47, s_124_50, s_124_51, s_124_54, s_124_55, x_get_i, List.getElem?_cons_succ, List.getElem?_cons_zero, x_cv_j, cs_n, cs_i, cs_r, cs_l, Nat.reduceAdd, Nat.reduceLeDiff, true_and, Option.toList_some, Option.toList_none, List.cons_append, List.nil_append, if_true, if_false, nb0, nb1, x_setJ, x_setZ0, x_setZ1, x_setA, x_setO, List.length_cons, List.length_nil, Nat.reduceLT, List.set_cons_succ, List.set_cons_zero, wrl_0, wrl_1, wrl_2, wrl_3, wrl_4, wrl_5, wrl_p0, wrl_p1, wrl_p2, wrl_p3, wrl_p4, oI, oI_ne (show p0 < 2 ^ 31 by omega)]
    exact h1 p0 ha hf sA hWa
  | none =>
    rw [hf, Option.getD_none] at ca
    simp only [s_124_0, s_124_1, s_124_4, s_124_5, s_124_6, s_124_7, s_124_10, s_124_11, s_124_12, s_124_13, s_124_14, s_124_15, s_124_18, s_124_19, s_124_22, s_124_25, s_124_26, s_124_27, s_124_28, s_124_31, s_124_33, s_124_34, s_124_35, s_124_38, s_124_39, s_124_40, s_124_43, s_124_46, s_124_47, s_124_50, s_124_51, s_124_54, s_124_55, x_get_i, List.getElem?_cons_succ, List.getElem?_cons_zero, x_cv_j, cs_n, cs_i, cs_r, cs_l, Nat.reduceAdd, Nat.reduceLeDiff, true_and, Option.toList_some, Option.toList_none, List.cons_append, List.nil_append, if_true, if_false, nb0, nb1, x_setJ, x_setZ0, x_setZ1, x_setA, x_setO, List.length_cons, List.length_nil, Nat.reduceLT, List.set_cons_succ, List.set_cons_zero, wrl_0, wrl_1, wrl_2, wrl_3, wrl_4, wrl_5, wrl_p0, wrl_p1, wrl_p2, wrl_p3, wrl_p4, oI, o_a, a_a, c_a, n_a, p_a, q_a, m_a, g_a]
    rw [c_take hWa ca hc80]
    cases ht : tkn L W n s F c with
    | none =>
      simp only [s_124_0, s_124_1, s_124_4, s_124_5, s_124_6, s_124_7, s_124_10, s_124_11, s_124_12, s_124_13, s_124_14, s_124_15, s_124_18, s_124_19, s_124_22, s_124_25, s_124_26, s_124_27, s_124_28, s_124_31, s_124_33, s_124_34, s_124_35, s_124_38, s_124_39, s_124_40, s_124_43, s_124_46, s_124_47, s_124_50, s_124_51, s_124_54, s_124_55, x_get_i, List.getElem?_cons_succ, List.getElem?_cons_zero, x_cv_j, cs_n, cs_i, cs_r, cs_l, Nat.reduceAdd, Nat.reduceLeDiff, true_and, Option.toList_some, Option.toList_none, List.cons_append, List.nil_append, if_true, if_false, nb0, nb1, x_setJ, x_setZ0, x_setZ1, x_setA, x_setO, List.length_cons, List.length_nil, Nat.reduceLT, List.set_cons_succ, List.set_cons_zero, wrl_0, wrl_1, wrl_2, wrl_3, wrl_4, wrl_5, wrl_p0, wrl_p1, wrl_p2, wrl_p3, wrl_p4, o2]
      exact h3 ha hf ht sA hWa
    | some t =>
      simp only [s_124_0, s_124_1, s_124_4, s_124_5, s_124_6, s_124_7, s_124_10, s_124_11, s_124_12, s_124_13, s_124_14, s_124_15, s_124_18, s_124_19, s_124_22, s_124_25, s_124_26, s_124_27, s_124_28, s_124_31, s_124_33, s_124_34, s_124_35, s_124_38, s_124_39, s_124_40, s_124_43, s_124_46, s_124_47, s_124_50, s_124_51, s_124_54, s_124_55, x_get_i, List.getElem?_cons_succ, List.getElem?_cons_zero, x_cv_j, cs_n, cs_i, cs_r, cs_l, Nat.reduceAdd, Nat.reduceLeDiff, true_and, Option.toList_some, Option.toList_none, List.cons_append, List.nil_append, if_true, if_false, nb0, nb1, x_setJ, x_setZ0, x_setZ1, x_setA, x_setO, List.length_cons, List.length_nil, Nat.reduceLT, List.set_cons_succ, List.set_cons_zero, wrl_0, wrl_1, wrl_2, wrl_3, wrl_4, wrl_5, wrl_p0, wrl_p1, wrl_p2, wrl_p3, wrl_p4, o2, tkn_ne hn ht, o_a, a_a, c_a, n_a, p_a, q_a, m_a, g_a]
      refine c_tell1 hWa _ (fun hb sB hWb => ?_)
      have o_b := hWb.1
      have a_b : hb.2.2 (b + 1) = .inr (8, _) := hWb.2.1.1.1
      have c_b : hb.2.2 (b + 3) = .inr (5, _) := cel_0 hWb.2.2.1.1
      have n_b : hb.2.2 (b + 5) = .inr (9, _) := hWb.2.2.2.1.1.1
      have p_b : hb.2.2 (b + 33) = .inr (6, _) := hWb.2.2.2.2.2.2.2.1.1.1
      have q_b : hb.2.2 (b + 152) = .inr (2, _) := cel_0 hWb.2.2.2.2.2.2.2.2.2.2.2.2.2.2.1.1
      obtain ⟨_, mm_b⟩ := hWb.2.2.2.2.2.2.2.2.2.2.2.2.2.2.2.1.1
      have m_b : hb.2.2 (b + 154) = .inr (4, _) := cel_0 mm_b
      have g_b : hb.2.2 (b + 159) = .inr (1, _) := cel_0 hWb.2.2.2.2.2.2.2.2.2.2.2.2.2.2.2.2.1.1
      have hTb : tc_at hb (b + 5) L W M B (nI n) s g := hWb.2.2.2.1.1
      simp only [s_124_0, s_124_1, s_124_4, s_124_5, s_124_6, s_124_7, s_124_10, s_124_11, s_124_12, s_124_13, s_124_14, s_124_15, s_124_18, s_124_19, s_124_22, s_124_25, s_124_26, s_124_27, s_124_28, s_124_31, s_124_33, s_124_34, s_124_35, s_124_38, s_124_39, s_124_40, s_124_43, s_124_46, s_124_47, s_124_50, s_124_51, s_124_54, s_124_55, x_get_i, List.getElem?_cons_succ, List.getElem?_cons_zero, x_cv_j, cs_n, cs_i, cs_r, cs_l, Nat.reduceAdd, Nat.reduceLeDiff, true_and, Option.toList_some, Option.toList_none, List.cons_append, List.nil_append, if_true, if_false, nb0, nb1, x_setJ, x_setZ0, x_setZ1, x_setA, x_setO, List.length_cons, List.length_nil, Nat.reduceLT, List.set_cons_succ, List.set_cons_zero, wrl_0, wrl_1, wrl_2, wrl_3, wrl_4, wrl_5, wrl_p0, wrl_p1, wrl_p2, wrl_p3, wrl_p4, o_b, a_b, c_b, n_b, p_b, q_b, m_b, g_b, tc_moodsOf hTb hn]
      exact h4 t hb hf ht (sA.trans (sB.mono (by omega) (by omega))) hWb
theorem c_nights (hW : CW sa h b tx (rc, R) (L, W, M, B, n, s, g) pa ru he mi ga) (v : Int32) (h1 : (v < 0 ∨ 60 < v) → Q (some (.int (-1))) h) (h2 : ∀ m h', m ≤ 60 → v = nI m → sm b (b + 162) h h' → CW sa h' b tx (rw1 R (200 + tc_mo (nXT ru.2.2 (tc_allv (nI n)) m (L, W, M, B, n, s, g)).2.2.1 (tc_allv (nI n)) n).toInt64) (nXT ru.2.2 (tc_allv (nI n)) m (L, W, M, B, n, s, g)) (if m = 0 then pa else pap1 pa (L, W, M, B, n, s, g)) ru he mi ga → Q (some (.int (tc_home L (nXT ru.2.2 (tc_allv (nI n)) m (L, W, M, B, n, s, g)).2.2.2.1 n))) h') : tm_D (g_G sa sc xt) (d + 4) 118 [.ref b, .int v] h Q := by
  obtain ⟨w_o, w_t, w_r, w_n, w_h, w_l, w_b, w_p, w_u, w_v, w_a, w_e, w_w, w_x, w_q, w_m, w_g, w_d, w_s⟩ := id hW
  have hn : n ≤ 12 := w_n.2.1
  have o_0 := hW.1
  have a_0 : h.2.2 (b + 1) = .inr (8, _) := hW.2.1.1.1
  have c_0 : h.2.2 (b + 3) = .inr (5, _) := cel_0 hW.2.2.1.1
  have n_0 : h.2.2 (b + 5) = .inr (9, _) := hW.2.2.2.1.1.1
  have p_0 : h.2.2 (b + 33) = .inr (6, _) := hW.2.2.2.2.2.2.2.1.1.1
  have q_0 : h.2.2 (b + 152) = .inr (2, _) := cel_0 hW.2.2.2.2.2.2.2.2.2.2.2.2.2.2.1.1
  obtain ⟨_, mm_0⟩ := hW.2.2.2.2.2.2.2.2.2.2.2.2.2.2.2.1.1
  have m_0 : h.2.2 (b + 154) = .inr (4, _) := cel_0 mm_0
  have g_0 : h.2.2 (b + 159) = .inr (1, _) := cel_0 hW.2.2.2.2.2.2.2.2.2.2.2.2.2.2.2.2.1.1
  rw [e_118]
  simp only [s_118_0, s_118_1, s_118_4, s_118_5, s_118_7, s_118_10, s_118_11, s_118_12, s_118_13, s_118_16, s_118_17, s_118_20, s_118_21, s_118_24, s_118_27, s_118_28, s_118_31, s_118_32, s_118_35, s_118_36, s_118_37, s_118_40, s_118_43, s_118_46, s_118_47, s_118_50, s_118_53, s_118_54, s_118_57, s_118_60, s_118_61, s_118_62, s_118_65, s_118_66, s_118_69, s_118_72, x_get_i, List.getElem?_cons_succ, List.getElem?_cons_zero, x_cv_j, cs_n, cs_i, cs_r, cs_l, Nat.reduceAdd, Nat.reduceLeDiff, true_and, Option.toList_some, Option.toList_none, List.cons_append, List.nil_append, if_true, if_false, nb0, nb1, x_setJ, x_setZ0, x_setZ1, x_setA, x_setO, List.length_cons, List.length_nil, Nat.reduceLT, List.set_cons_succ, List.set_cons_zero, wrl_0, wrl_1, wrl_2, wrl_3, wrl_4, wrl_5, wrl_p0, wrl_p1, wrl_p2, wrl_p3, wrl_p4]
  by_cases c1 : v < 0
  · simp only [c1, if_true]
    exact h1 (Or.inl c1)
  by_cases c2 : v ≤ 60
  · obtain ⟨m, hm, rfl⟩ := nI_of2 (n := 60) (by decide) c1 c2
    have key : ∀ h0 pa0, sm b (b + 162) h h0 → CW sa h0 b tx (rc, R) (L, W, M, B, n, s, g) pa0 ru he mi ga → pa0 = (if m = 0 then pa else pap1 pa (L, W, M, B, n, s, g)) → tm_X (g_G sa sc xt) (d + 4) 118 27 [.ref b, .int (nI m)] [] h0 Q := by
      intro hz pa0 s0 hWz ep
      have o_z := hWz.1
      have n_z : hz.2.2 (b + 5) = .inr (9, _) := hWz.2.2.2.1.1.1
      have hT0 : tc_at hz (b + 5) L W M B (nI n) s g := hWz.2.2.2.1.1
      rw [s_118_27]
      simp only [s_118_0, s_118_1, s_118_4, s_118_5, s_118_7, s_118_10, s_118_11, s_118_12, s_118_13, s_118_16, s_118_17, s_118_20, s_118_21, s_118_24, s_118_27, s_118_28, s_118_31, s_118_32, s_118_35, s_118_36, s_118_37, s_118_40, s_118_43, s_118_46, s_118_47, s_118_50, s_118_53, s_118_54, s_118_57, s_118_60, s_118_61, s_118_62, s_118_65, s_118_66, s_118_69, s_118_72, x_get_i, List.getElem?_cons_succ, List.getElem?_cons_zero, x_cv_j, cs_n, cs_i, cs_r, cs_l, Nat.reduceAdd, Nat.reduceLeDiff, true_and, Option.toList_some, Option.toList_none, List.cons_append, List.nil_append, if_true, if_false, nb0, nb1, x_setJ, x_setZ0, x_setZ1, x_setA, x_setO, List.length_cons, List.length_nil, Nat.reduceLT, List.set_cons_succ, List.set_cons_zero, wrl_0, wrl_1, wrl_2, wrl_3, wrl_4, wrl_5, wrl_p0, wrl_p1, wrl_p2, wrl_p3, wrl_p4, o_z, n_z, tc_all hT0]
      refine c_nightsN (by omega) hWz (fun ha sA hWa => ?_)
      have o_a := hWa.1
      have a_a : ha.2.2 (b + 1) = .inr (8, _) := hWa.2.1.1.1
      have c_a : ha.2.2 (b + 3) = .inr (5, _) := cel_0 hWa.2.2.1.1
      have n_a : ha.2.2 (b + 5) = .inr (9, _) := hWa.2.2.2.1.1.1
      have p_a : ha.2.2 (b + 33) = .inr (6, _) := hWa.2.2.2.2.2.2.2.1.1.1
      have q_a : ha.2.2 (b + 152) = .inr (2, _) := cel_0 hWa.2.2.2.2.2.2.2.2.2.2.2.2.2.2.1.1
      obtain ⟨_, mm_a⟩ := hWa.2.2.2.2.2.2.2.2.2.2.2.2.2.2.2.1.1
      have m_a : ha.2.2 (b + 154) = .inr (4, _) := cel_0 mm_a
      have g_a : ha.2.2 (b + 159) = .inr (1, _) := cel_0 hWa.2.2.2.2.2.2.2.2.2.2.2.2.2.2.2.2.1.1
      have hTa : tc_at ha (b + 5) L W (nXT ru.2.2 (tc_allv (nI n)) m (L, W, M, B, n, s, g)).2.2.1 (nXT ru.2.2 (tc_allv (nI n)) m (L, W, M, B, n, s, g)).2.2.2.1 (nI n) (nXT ru.2.2 (tc_allv (nI n)) m (L, W, M, B, n, s, g)).2.2.2.2.2.1 (nXT ru.2.2 (tc_allv (nI n)) m (L, W, M, B, n, s, g)).2.2.2.2.2.2 := hWa.2.2.2.1.1
      simp only [s_118_0, s_118_1, s_118_4, s_118_5, s_118_7, s_118_10, s_118_11, s_118_12, s_118_13, s_118_16, s_118_17, s_118_20, s_118_21, s_118_24, s_118_27, s_118_28, s_118_31, s_118_32, s_118_35, s_118_36, s_118_37, s_118_40, s_118_43, s_118_46, s_118_47, s_118_50, s_118_53, s_118_54, s_118_57, s_118_60, s_118_61, s_118_62, s_118_65, s_118_66, s_118_69, s_118_72, x_get_i, List.getElem?_cons_succ, List.getElem?_cons_zero, x_cv_j, cs_n, cs_i, cs_r, cs_l, Nat.reduceAdd, Nat.reduceLeDiff, true_and, Option.toList_some, Option.toList_none, List.cons_append, List.nil_append, if_true, if_false, nb0, nb1, x_setJ, x_setZ0, x_setZ1, x_setA, x_setO, List.length_cons, List.length_nil, Nat.reduceLT, List.set_cons_succ, List.set_cons_zero, wrl_0, wrl_1, wrl_2, wrl_3, wrl_4, wrl_5, wrl_p0, wrl_p1, wrl_p2, wrl_p3, wrl_p4, o_a, a_a, c_a, n_a, p_a, q_a, m_a, g_a, tc_moodsOfAll hTa hn]
      refine c_tell1 hWa _ (fun hb sB hWb => ?_)
      have o_b := hWb.1
      have a_b : hb.2.2 (b + 1) = .inr (8, _) := hWb.2.1.1.1
      have c_b : hb.2.2 (b + 3) = .inr (5, _) := cel_0 hWb.2.2.1.1
      have n_b : hb.2.2 (b + 5) = .inr (9, _) := hWb.2.2.2.1.1.1
      have p_b : hb.2.2 (b + 33) = .inr (6, _) := hWb.2.2.2.2.2.2.2.1.1.1
      have q_b : hb.2.2 (b + 152) = .inr (2, _) := cel_0 hWb.2.2.2.2.2.2.2.2.2.2.2.2.2.2.1.1
      obtain ⟨_, mm_b⟩ := hWb.2.2.2.2.2.2.2.2.2.2.2.2.2.2.2.1.1
      have m_b : hb.2.2 (b + 154) = .inr (4, _) := cel_0 mm_b
      have g_b : hb.2.2 (b + 159) = .inr (1, _) := cel_0 hWb.2.2.2.2.2.2.2.2.2.2.2.2.2.2.2.2.1.1
      have hTb : tc_at hb (b + 5) L W (nXT ru.2.2 (tc_allv (nI n)) m (L, W, M, B, n, s, g)).2.2.1 (nXT ru.2.2 (tc_allv (nI n)) m (L, W, M, B, n, s, g)).2.2.2.1 (nI n) (nXT ru.2.2 (tc_allv (nI n)) m (L, W, M, B, n, s, g)).2.2.2.2.2.1 (nXT ru.2.2 (tc_allv (nI n)) m (L, W, M, B, n, s, g)).2.2.2.2.2.2 := hWb.2.2.2.1.1
      simp only [s_118_0, s_118_1, s_118_4, s_118_5, s_118_7, s_118_10, s_118_11, s_118_12, s_118_13, s_118_16, s_118_17, s_118_20, s_118_21, s_118_24, s_118_27, s_118_28, s_118_31, s_118_32, s_118_35, s_118_36, s_118_37, s_118_40, s_118_43, s_118_46, s_118_47, s_118_50, s_118_53, s_118_54, s_118_57, s_118_60, s_118_61, s_118_62, s_118_65, s_118_66, s_118_69, s_118_72, x_get_i, List.getElem?_cons_succ, List.getElem?_cons_zero, x_cv_j, cs_n, cs_i, cs_r, cs_l, Nat.reduceAdd, Nat.reduceLeDiff, true_and, Option.toList_some, Option.toList_none, List.cons_append, List.nil_append, if_true, if_false, nb0, nb1, x_setJ, x_setZ0, x_setZ1, x_setA, x_setO, List.length_cons, List.length_nil, Nat.reduceLT, List.set_cons_succ, List.set_cons_zero, wrl_0, wrl_1, wrl_2, wrl_3, wrl_4, wrl_5, wrl_p0, wrl_p1, wrl_p2, wrl_p3, wrl_p4, o_b, a_b, c_b, n_b, p_b, q_b, m_b, g_b, tc_atHome hTb hn]
      rw [ep] at hWb
      exact h2 m hb hm rfl (s0.trans (sA.trans (sB.mono (by omega) (by omega)))) hWb
    simp only [show ¬ nI m < 0 from c1, if_false, show nI m ≤ (60 : Int32) from c2, if_true]
    by_cases c3 : m = 0
    · subst c3
      simp only [show nI 0 ≤ 0 by decide, if_true]
      have := key h pa sm.rfl hW rfl
      rw [s_118_27] at this
      simp only [s_118_0, s_118_1, s_118_4, s_118_5, s_118_7, s_118_10, s_118_11, s_118_12, s_118_13, s_118_16, s_118_17, s_118_20, s_118_21, s_118_24, s_118_27, s_118_28, s_118_31, s_118_32, s_118_35, s_118_36, s_118_37, s_118_40, s_118_43, s_118_46, s_118_47, s_118_50, s_118_53, s_118_54, s_118_57, s_118_60, s_118_61, s_118_62, s_118_65, s_118_66, s_118_69, s_118_72, x_get_i, List.getElem?_cons_succ, List.getElem?_cons_zero, x_cv_j, cs_n, cs_i, cs_r, cs_l, Nat.reduceAdd, Nat.reduceLeDiff, true_and, Option.toList_some, Option.toList_none, List.cons_append, List.nil_append, if_true, if_false, nb0, nb1, x_setJ, x_setZ0, x_setZ1, x_setA, x_setO, List.length_cons, List.length_nil, Nat.reduceLT, List.set_cons_succ, List.set_cons_zero, wrl_0, wrl_1, wrl_2, wrl_3, wrl_4, wrl_5, wrl_p0, wrl_p1, wrl_p2, wrl_p3, wrl_p4] at this
      exact this
    · simp only [show ¬ nI m ≤ 0 from nI_nle (by omega) (by omega), if_false, s_118_0, s_118_1, s_118_4, s_118_5, s_118_7, s_118_10, s_118_11, s_118_12, s_118_13, s_118_16, s_118_17, s_118_20, s_118_21, s_118_24, s_118_27, s_118_28, s_118_31, s_118_32, s_118_35, s_118_36, s_118_37, s_118_40, s_118_43, s_118_46, s_118_47, s_118_50, s_118_53, s_118_54, s_118_57, s_118_60, s_118_61, s_118_62, s_118_65, s_118_66, s_118_69, s_118_72, x_get_i, List.getElem?_cons_succ, List.getElem?_cons_zero, x_cv_j, cs_n, cs_i, cs_r, cs_l, Nat.reduceAdd, Nat.reduceLeDiff, true_and, Option.toList_some, Option.toList_none, List.cons_append, List.nil_append, if_true, if_false, nb0, nb1, x_setJ, x_setZ0, x_setZ1, x_setA, x_setO, List.length_cons, List.length_nil, Nat.reduceLT, List.set_cons_succ, List.set_cons_zero, wrl_0, wrl_1, wrl_2, wrl_3, wrl_4, wrl_5, wrl_p0, wrl_p1, wrl_p2, wrl_p3, wrl_p4, o_0, a_0, c_0, n_0, p_0, q_0, m_0, g_0]
      refine c_push hW w_n.1 (Or.inl rfl) w_n.2 (fun h0 s0 hW0 => ?_)
      have := key h0 _ (s0.mono (by omega) (by omega)) hW0 (by rw [if_neg c3])
      rw [s_118_27] at this
      simp only [s_118_0, s_118_1, s_118_4, s_118_5, s_118_7, s_118_10, s_118_11, s_118_12, s_118_13, s_118_16, s_118_17, s_118_20, s_118_21, s_118_24, s_118_27, s_118_28, s_118_31, s_118_32, s_118_35, s_118_36, s_118_37, s_118_40, s_118_43, s_118_46, s_118_47, s_118_50, s_118_53, s_118_54, s_118_57, s_118_60, s_118_61, s_118_62, s_118_65, s_118_66, s_118_69, s_118_72, x_get_i, List.getElem?_cons_succ, List.getElem?_cons_zero, x_cv_j, cs_n, cs_i, cs_r, cs_l, Nat.reduceAdd, Nat.reduceLeDiff, true_and, Option.toList_some, Option.toList_none, List.cons_append, List.nil_append, if_true, if_false, nb0, nb1, x_setJ, x_setZ0, x_setZ1, x_setA, x_setO, List.length_cons, List.length_nil, Nat.reduceLT, List.set_cons_succ, List.set_cons_zero, wrl_0, wrl_1, wrl_2, wrl_3, wrl_4, wrl_5, wrl_p0, wrl_p1, wrl_p2, wrl_p3, wrl_p4] at this ⊢
      exact this
  · simp only [c1, c2, if_false]
    exact h1 (Or.inr (Int32.not_le.mp c2))
theorem c_undoable {X : TN} (hW : CW sa h b tx rw nw pa ru he mi ga) (hT : tca h (b + 26) (tcT X)) (hwf : WFT X) (v : Int32) (h1 : v < 0 → Q (some (.int v)) h) (h2 : ¬ v < 0 → ∀ h', sm (b + 33) (b + 135) h h' → CW sa h' b tx rw nw (pap1 pa X) ru he mi ga → Q (some (.int v)) h') : tm_D (g_G sa sc xt) (d + 3) 160 [.ref b, .int v] h Q := by
  have o_0 := hW.1
  have a_0 : h.2.2 (b + 1) = .inr (8, _) := hW.2.1.1.1
  have c_0 : h.2.2 (b + 3) = .inr (5, _) := cel_0 hW.2.2.1.1
  have n_0 : h.2.2 (b + 5) = .inr (9, _) := hW.2.2.2.1.1.1
  have p_0 : h.2.2 (b + 33) = .inr (6, _) := hW.2.2.2.2.2.2.2.1.1.1
  have q_0 : h.2.2 (b + 152) = .inr (2, _) := cel_0 hW.2.2.2.2.2.2.2.2.2.2.2.2.2.2.1.1
  obtain ⟨_, mm_0⟩ := hW.2.2.2.2.2.2.2.2.2.2.2.2.2.2.2.1.1
  have m_0 : h.2.2 (b + 154) = .inr (4, _) := cel_0 mm_0
  have g_0 : h.2.2 (b + 159) = .inr (1, _) := cel_0 hW.2.2.2.2.2.2.2.2.2.2.2.2.2.2.2.2.1.1
  rw [e_160]
  simp only [s_160_0, s_160_1, s_160_4, s_160_5, s_160_8, s_160_9, s_160_12, s_160_15, s_160_16, x_get_i, List.getElem?_cons_succ, List.getElem?_cons_zero, x_cv_j, cs_n, cs_i, cs_r, cs_l, Nat.reduceAdd, Nat.reduceLeDiff, true_and, Option.toList_some, Option.toList_none, List.cons_append, List.nil_append, if_true, if_false, nb0, nb1, x_setJ, x_setZ0, x_setZ1, x_setA, x_setO, List.length_cons, List.length_nil, Nat.reduceLT, List.set_cons_succ, List.set_cons_zero, wrl_0, wrl_1, wrl_2, wrl_3, wrl_4, wrl_5, wrl_p0, wrl_p1, wrl_p2, wrl_p3, wrl_p4, o_0, a_0, c_0, n_0, p_0, q_0, m_0, g_0]
  by_cases c1 : v < 0
  · simp only [c1, if_true]
    exact h1 c1
  · simp only [c1, if_false]
    refine c_push hW hT (Or.inr rfl) hwf (fun h0 s0 hW0 => ?_)
    simp only [s_160_0, s_160_1, s_160_4, s_160_5, s_160_8, s_160_9, s_160_12, s_160_15, s_160_16, x_get_i, List.getElem?_cons_succ, List.getElem?_cons_zero, x_cv_j, cs_n, cs_i, cs_r, cs_l, Nat.reduceAdd, Nat.reduceLeDiff, true_and, Option.toList_some, Option.toList_none, List.cons_append, List.nil_append, if_true, if_false, nb0, nb1, x_setJ, x_setZ0, x_setZ1, x_setA, x_setO, List.length_cons, List.length_nil, Nat.reduceLT, List.set_cons_succ, List.set_cons_zero, wrl_0, wrl_1, wrl_2, wrl_3, wrl_4, wrl_5, wrl_p0, wrl_p1, wrl_p2, wrl_p3, wrl_p4]
    exact h2 c1 h0 s0 hW0
theorem c_undo0 (hW : CW sa h b tx rw nw pa ru he mi ga) (hz : pa.1 = 0) : tm_D (g_G sa sc xt) (d + 3) 123 [.ref b] h Q ↔ Q (some (.int (-1))) h := by
  have o_0 := hW.1
  have a_0 : h.2.2 (b + 1) = .inr (8, _) := hW.2.1.1.1
  have c_0 : h.2.2 (b + 3) = .inr (5, _) := cel_0 hW.2.2.1.1
  have n_0 : h.2.2 (b + 5) = .inr (9, _) := hW.2.2.2.1.1.1
  have p_0 : h.2.2 (b + 33) = .inr (6, _) := hW.2.2.2.2.2.2.2.1.1.1
  have q_0 : h.2.2 (b + 152) = .inr (2, _) := cel_0 hW.2.2.2.2.2.2.2.2.2.2.2.2.2.2.1.1
  obtain ⟨_, mm_0⟩ := hW.2.2.2.2.2.2.2.2.2.2.2.2.2.2.2.1.1
  have m_0 : h.2.2 (b + 154) = .inr (4, _) := cel_0 mm_0
  have g_0 : h.2.2 (b + 159) = .inr (1, _) := cel_0 hW.2.2.2.2.2.2.2.2.2.2.2.2.2.2.2.2.1.1
  have hp := hW.2.2.2.2.2.2.2.1.1
  rw [hz] at hp
  rw [e_123]
  simp only [s_123_0, s_123_1, s_123_4, s_123_5, s_123_8, s_123_11, s_123_14, s_123_15, s_123_18, s_123_21, s_123_24, s_123_25, x_get_i, List.getElem?_cons_succ, List.getElem?_cons_zero, x_cv_j, cs_n, cs_i, cs_r, cs_l, Nat.reduceAdd, Nat.reduceLeDiff, true_and, Option.toList_some, Option.toList_none, List.cons_append, List.nil_append, if_true, if_false, nb0, nb1, x_setJ, x_setZ0, x_setZ1, x_setA, x_setO, List.length_cons, List.length_nil, Nat.reduceLT, List.set_cons_succ, List.set_cons_zero, wrl_0, wrl_1, wrl_2, wrl_3, wrl_4, wrl_5, wrl_p0, wrl_p1, wrl_p2, wrl_p3, wrl_p4, o_0, a_0, c_0, n_0, p_0, q_0, m_0, g_0, pa_pop0 hp]
theorem c_undo (hW : CW sa h b tx rw nw (m + 1, pa.2) ru he mi ga) (hQ : ∀ h', sm b (b + 162) h h' → CW sa h' b tx rw (pa.2.2.1 ((pa.2.1 + 11) % 12)) (m, (pa.2.1 + 11) % 12, pa.2.2) ru he mi ga → Q (some (.int (nI m))) h') : tm_D (g_G sa sc xt) (d + 3) 123 [.ref b] h Q := by
  obtain ⟨w_o, w_t, w_r, w_n, w_h, w_l, w_b, w_p, w_u, w_v, w_a, w_e, w_w, w_x, w_q, w_m, w_g, w_d, w_s⟩ := id hW
  obtain ⟨p1, p2, p3, p4, p5⟩ := w_p
  have o_0 := hW.1
  have a_0 : h.2.2 (b + 1) = .inr (8, _) := hW.2.1.1.1
  have c_0 : h.2.2 (b + 3) = .inr (5, _) := cel_0 hW.2.2.1.1
  have n_0 : h.2.2 (b + 5) = .inr (9, _) := hW.2.2.2.1.1.1
  have p_0 : h.2.2 (b + 33) = .inr (6, _) := hW.2.2.2.2.2.2.2.1.1.1
  have q_0 : h.2.2 (b + 152) = .inr (2, _) := cel_0 hW.2.2.2.2.2.2.2.2.2.2.2.2.2.2.1.1
  obtain ⟨_, mm_0⟩ := hW.2.2.2.2.2.2.2.2.2.2.2.2.2.2.2.1.1
  have m_0 : h.2.2 (b + 154) = .inr (4, _) := cel_0 mm_0
  have g_0 : h.2.2 (b + 159) = .inr (1, _) := cel_0 hW.2.2.2.2.2.2.2.2.2.2.2.2.2.2.2.2.1.1
  rw [e_123]
  simp only [s_123_0, s_123_1, s_123_4, s_123_5, s_123_8, s_123_11, s_123_14, s_123_15, s_123_18, s_123_21, s_123_24, s_123_25, x_get_i, List.getElem?_cons_succ, List.getElem?_cons_zero, x_cv_j, cs_n, cs_i, cs_r, cs_l, Nat.reduceAdd, Nat.reduceLeDiff, true_and, Option.toList_some, Option.toList_none, List.cons_append, List.nil_append, if_true, if_false, nb0, nb1, x_setJ, x_setZ0, x_setZ1, x_setA, x_setO, List.length_cons, List.length_nil, Nat.reduceLT, List.set_cons_succ, List.set_cons_zero, wrl_0, wrl_1, wrl_2, wrl_3, wrl_4, wrl_5, wrl_p0, wrl_p1, wrl_p2, wrl_p3, wrl_p4, o_0, a_0, c_0, n_0, p_0, q_0, m_0, g_0]
  refine pa_pop (z := m) p1 (by show m < 12; exact p2) p3 w_n.1 (by omega) (fun ha hb sA sB q1 q2 => ?_)
  have hWa : CW sa ha b tx rw nw (m, (pa.2.1 + 11) % 12, pa.2.2) ru he mi ga := CW_p (pa' := (m, (pa.2.1 + 11) % 12, pa.2.2)) hW sA ⟨pa_in_sm ⟨sB.1.symm, sB.2.1.symm, fun x hx => (sB.2.2 x hx).symm⟩ (by omega) q1, (by have h2 : m + 1 ≤ 12 := p2; show m ≤ 12; omega), Nat.mod_lt _ (by decide), p4, p5⟩
  have hWb := CW_n (nw' := pa.2.2.1 ((pa.2.1 + 11) % 12)) hWa sB ⟨q2, p4 _⟩
  have o_b := hWb.1
  have p_b : hb.2.2 (b + 33) = .inr (6, _) := hWb.2.2.2.2.2.2.2.1.1.1
  simp only [s_123_0, s_123_1, s_123_4, s_123_5, s_123_8, s_123_11, s_123_14, s_123_15, s_123_18, s_123_21, s_123_24, s_123_25, x_get_i, List.getElem?_cons_succ, List.getElem?_cons_zero, x_cv_j, cs_n, cs_i, cs_r, cs_l, Nat.reduceAdd, Nat.reduceLeDiff, true_and, Option.toList_some, Option.toList_none, List.cons_append, List.nil_append, if_true, if_false, nb0, nb1, x_setJ, x_setZ0, x_setZ1, x_setA, x_setO, List.length_cons, List.length_nil, Nat.reduceLT, List.set_cons_succ, List.set_cons_zero, wrl_0, wrl_1, wrl_2, wrl_3, wrl_4, wrl_5, wrl_p0, wrl_p1, wrl_p2, wrl_p3, wrl_p4, o_b, p_b, show ¬ (1 : Int32) = 0 by decide, pa_size hWb.2.2.2.2.2.2.2.1.1]
  exact hQ hb ((sA.mono (by omega) (by omega)).trans (sB.mono (by omega) (by omega))) hWb
theorem c_keep0 (hW : CW sa h b tx rw nw pa ru he mi ga) {v : Int32} (hv : v < 0 ∨ ¬ v < 2) : tm_D (g_G sa sc xt) (d + 3) 152 [.ref b, .int v] h Q ↔ Q (some (.int 0)) h := by
  have o_0 := hW.1
  have a_0 : h.2.2 (b + 1) = .inr (8, _) := hW.2.1.1.1
  have c_0 : h.2.2 (b + 3) = .inr (5, _) := cel_0 hW.2.2.1.1
  have n_0 : h.2.2 (b + 5) = .inr (9, _) := hW.2.2.2.1.1.1
  have p_0 : h.2.2 (b + 33) = .inr (6, _) := hW.2.2.2.2.2.2.2.1.1.1
  have q_0 : h.2.2 (b + 152) = .inr (2, _) := cel_0 hW.2.2.2.2.2.2.2.2.2.2.2.2.2.2.1.1
  obtain ⟨_, mm_0⟩ := hW.2.2.2.2.2.2.2.2.2.2.2.2.2.2.2.1.1
  have m_0 : h.2.2 (b + 154) = .inr (4, _) := cel_0 mm_0
  have g_0 : h.2.2 (b + 159) = .inr (1, _) := cel_0 hW.2.2.2.2.2.2.2.2.2.2.2.2.2.2.2.2.1.1
  rw [e_152]
  simp only [s_152_0, s_152_1, s_152_4, s_152_5, s_152_6, s_152_9, s_152_12, x_get_i, List.getElem?_cons_succ, List.getElem?_cons_zero, x_cv_j, cs_n, cs_i, cs_r, cs_l, Nat.reduceAdd, Nat.reduceLeDiff, true_and, Option.toList_some, Option.toList_none, List.cons_append, List.nil_append, if_true, if_false, nb0, nb1, x_setJ, x_setZ0, x_setZ1, x_setA, x_setO, List.length_cons, List.length_nil, Nat.reduceLT, List.set_cons_succ, List.set_cons_zero, wrl_0, wrl_1, wrl_2, wrl_3, wrl_4, wrl_5, wrl_p0, wrl_p1, wrl_p2, wrl_p3, wrl_p4, o_0, a_0, c_0, n_0, p_0, q_0, m_0, g_0, pa_keep0 hv]
theorem c_keep {i : Nat} (hi : i < 2) (hW : CW sa h b tx rw nw pa ru he mi ga) (hQ : ∀ h', sm b (b + 162) h h' → CW sa h' b tx rw nw (pa.1, pa.2.1, pa.2.2.1, (fun j => if j = i then nw else pa.2.2.2.1 j), upd pa.2.2.2.2 i 1) ru he mi ga → Q (some (.int 1)) h') : tm_D (g_G sa sc xt) (d + 3) 152 [.ref b, .int (nI i)] h Q := by
  obtain ⟨w_o, w_t, w_r, w_n, w_h, w_l, w_b, w_p, w_u, w_v, w_a, w_e, w_w, w_x, w_q, w_m, w_g, w_d, w_s⟩ := id hW
  obtain ⟨p1, p2, p3, p4, p5⟩ := w_p
  have o_0 := hW.1
  have a_0 : h.2.2 (b + 1) = .inr (8, _) := hW.2.1.1.1
  have c_0 : h.2.2 (b + 3) = .inr (5, _) := cel_0 hW.2.2.1.1
  have n_0 : h.2.2 (b + 5) = .inr (9, _) := hW.2.2.2.1.1.1
  have p_0 : h.2.2 (b + 33) = .inr (6, _) := hW.2.2.2.2.2.2.2.1.1.1
  have q_0 : h.2.2 (b + 152) = .inr (2, _) := cel_0 hW.2.2.2.2.2.2.2.2.2.2.2.2.2.2.1.1
  obtain ⟨_, mm_0⟩ := hW.2.2.2.2.2.2.2.2.2.2.2.2.2.2.2.1.1
  have m_0 : h.2.2 (b + 154) = .inr (4, _) := cel_0 mm_0
  have g_0 : h.2.2 (b + 159) = .inr (1, _) := cel_0 hW.2.2.2.2.2.2.2.2.2.2.2.2.2.2.2.2.1.1
  rw [e_152]
  simp only [s_152_0, s_152_1, s_152_4, s_152_5, s_152_6, s_152_9, s_152_12, x_get_i, List.getElem?_cons_succ, List.getElem?_cons_zero, x_cv_j, cs_n, cs_i, cs_r, cs_l, Nat.reduceAdd, Nat.reduceLeDiff, true_and, Option.toList_some, Option.toList_none, List.cons_append, List.nil_append, if_true, if_false, nb0, nb1, x_setJ, x_setZ0, x_setZ1, x_setA, x_setO, List.length_cons, List.length_nil, Nat.reduceLT, List.set_cons_succ, List.set_cons_zero, wrl_0, wrl_1, wrl_2, wrl_3, wrl_4, wrl_5, wrl_p0, wrl_p1, wrl_p2, wrl_p3, wrl_p4, o_0, a_0, c_0, n_0, p_0, q_0, m_0, g_0]
  refine pa_keep p1 hi w_n.1 (by omega) (fun ha sA q1 => ?_)
  simp only [s_152_0, s_152_1, s_152_4, s_152_5, s_152_6, s_152_9, s_152_12, x_get_i, List.getElem?_cons_succ, List.getElem?_cons_zero, x_cv_j, cs_n, cs_i, cs_r, cs_l, Nat.reduceAdd, Nat.reduceLeDiff, true_and, Option.toList_some, Option.toList_none, List.cons_append, List.nil_append, if_true, if_false, nb0, nb1, x_setJ, x_setZ0, x_setZ1, x_setA, x_setO, List.length_cons, List.length_nil, Nat.reduceLT, List.set_cons_succ, List.set_cons_zero, wrl_0, wrl_1, wrl_2, wrl_3, wrl_4, wrl_5, wrl_p0, wrl_p1, wrl_p2, wrl_p3, wrl_p4]
  refine hQ ha (sA.mono (by omega) (by omega)) (CW_p (pa' := (pa.1, pa.2.1, pa.2.2.1, (fun j => if j = i then nw else pa.2.2.2.1 j), upd pa.2.2.2.2 i 1)) hW sA ⟨?_, p2, p3, p4, fun j => ?_⟩)
  · have e : (fun j => if j = i then tcT nw else tcT (pa.2.2.2.1 j)) = fun j => tcT (if j = i then nw else pa.2.2.2.1 j) := by
      funext j
      split <;> rfl
    rw [e] at q1
    exact q1
  · dsimp only
    split
    · exact w_n.2
    · exact p5 j
theorem c_again0 (hW : CW sa h b tx rw nw pa ru he mi ga) {v : Int32} (hv : v < 0 ∨ 2 ≤ v) : tm_D (g_G sa sc xt) (d + 3) 153 [.ref b, .int v] h Q ↔ Q (some (.int 0)) h := by
  have o_0 := hW.1
  have a_0 : h.2.2 (b + 1) = .inr (8, _) := hW.2.1.1.1
  have c_0 : h.2.2 (b + 3) = .inr (5, _) := cel_0 hW.2.2.1.1
  have n_0 : h.2.2 (b + 5) = .inr (9, _) := hW.2.2.2.1.1.1
  have p_0 : h.2.2 (b + 33) = .inr (6, _) := hW.2.2.2.2.2.2.2.1.1.1
  have q_0 : h.2.2 (b + 152) = .inr (2, _) := cel_0 hW.2.2.2.2.2.2.2.2.2.2.2.2.2.2.1.1
  obtain ⟨_, mm_0⟩ := hW.2.2.2.2.2.2.2.2.2.2.2.2.2.2.2.1.1
  have m_0 : h.2.2 (b + 154) = .inr (4, _) := cel_0 mm_0
  have g_0 : h.2.2 (b + 159) = .inr (1, _) := cel_0 hW.2.2.2.2.2.2.2.2.2.2.2.2.2.2.2.2.1.1
  rw [e_153]
  simp only [s_153_0, s_153_1, s_153_4, s_153_5, s_153_6, s_153_9, s_153_12, x_get_i, List.getElem?_cons_succ, List.getElem?_cons_zero, x_cv_j, cs_n, cs_i, cs_r, cs_l, Nat.reduceAdd, Nat.reduceLeDiff, true_and, Option.toList_some, Option.toList_none, List.cons_append, List.nil_append, if_true, if_false, nb0, nb1, x_setJ, x_setZ0, x_setZ1, x_setA, x_setO, List.length_cons, List.length_nil, Nat.reduceLT, List.set_cons_succ, List.set_cons_zero, wrl_0, wrl_1, wrl_2, wrl_3, wrl_4, wrl_5, wrl_p0, wrl_p1, wrl_p2, wrl_p3, wrl_p4, o_0, a_0, c_0, n_0, p_0, q_0, m_0, g_0, pa_back0 hv]
theorem c_again1 {i : Nat} (hi : i < 2) (hW : CW sa h b tx rw nw pa ru he mi ga) (hb : pa.2.2.2.2 i = 0 ∨ (pa.2.2.2.1 i).2.2.2.2.1 ≠ nw.2.2.2.2.1) : tm_D (g_G sa sc xt) (d + 3) 153 [.ref b, .int (nI i)] h Q ↔ Q (some (.int 0)) h := by
  obtain ⟨w_o, w_t, w_r, w_n, w_h, w_l, w_b, w_p, w_u, w_v, w_a, w_e, w_w, w_x, w_q, w_m, w_g, w_d, w_s⟩ := id hW
  obtain ⟨p1, p2, p3, p4, p5⟩ := w_p
  have o_0 := hW.1
  have a_0 : h.2.2 (b + 1) = .inr (8, _) := hW.2.1.1.1
  have c_0 : h.2.2 (b + 3) = .inr (5, _) := cel_0 hW.2.2.1.1
  have n_0 : h.2.2 (b + 5) = .inr (9, _) := hW.2.2.2.1.1.1
  have p_0 : h.2.2 (b + 33) = .inr (6, _) := hW.2.2.2.2.2.2.2.1.1.1
  have q_0 : h.2.2 (b + 152) = .inr (2, _) := cel_0 hW.2.2.2.2.2.2.2.2.2.2.2.2.2.2.1.1
  obtain ⟨_, mm_0⟩ := hW.2.2.2.2.2.2.2.2.2.2.2.2.2.2.2.1.1
  have m_0 : h.2.2 (b + 154) = .inr (4, _) := cel_0 mm_0
  have g_0 : h.2.2 (b + 159) = .inr (1, _) := cel_0 hW.2.2.2.2.2.2.2.2.2.2.2.2.2.2.2.2.1.1
  rw [e_153]
  have hb' : pa.2.2.2.2 i = 0 ∨ (tcT (pa.2.2.2.1 i)).2.2.2.2.1 ≠ (tcT nw).2.2.2.2.1 := by
    rcases hb with q | q
    · exact Or.inl q
    · refine Or.inr (fun e => q ?_)
      have e1 : (pa.2.2.2.1 i).2.2.2.2.1 ≤ 12 := (p5 i).1
      have e2 : nw.2.2.2.2.1 ≤ 12 := w_n.2.1
      exact (nI_eq (by omega) (by omega)).mp e
  simp only [s_153_0, s_153_1, s_153_4, s_153_5, s_153_6, s_153_9, s_153_12, x_get_i, List.getElem?_cons_succ, List.getElem?_cons_zero, x_cv_j, cs_n, cs_i, cs_r, cs_l, Nat.reduceAdd, Nat.reduceLeDiff, true_and, Option.toList_some, Option.toList_none, List.cons_append, List.nil_append, if_true, if_false, nb0, nb1, x_setJ, x_setZ0, x_setZ1, x_setA, x_setO, List.length_cons, List.length_nil, Nat.reduceLT, List.set_cons_succ, List.set_cons_zero, wrl_0, wrl_1, wrl_2, wrl_3, wrl_4, wrl_5, wrl_p0, wrl_p1, wrl_p2, wrl_p3, wrl_p4, o_0, a_0, c_0, n_0, p_0, q_0, m_0, g_0, pa_back1 p1 hi w_n.1 hb']
theorem c_again2 {i : Nat} (hi : i < 2) (hW : CW sa h b tx rw nw pa ru he mi ga) (hb : pa.2.2.2.2 i ≠ 0) (hs : (pa.2.2.2.1 i).2.2.2.2.1 = nw.2.2.2.2.1) (hQ : ∀ h', sm b (b + 162) h h' → CW sa h' b tx rw (pa.2.2.2.1 i) (0, pa.2) ru he mi ga → Q (some (.int 1)) h') : tm_D (g_G sa sc xt) (d + 3) 153 [.ref b, .int (nI i)] h Q := by
  obtain ⟨w_o, w_t, w_r, w_n, w_h, w_l, w_b, w_p, w_u, w_v, w_a, w_e, w_w, w_x, w_q, w_m, w_g, w_d, w_s⟩ := id hW
  obtain ⟨p1, p2, p3, p4, p5⟩ := w_p
  have o_0 := hW.1
  have a_0 : h.2.2 (b + 1) = .inr (8, _) := hW.2.1.1.1
  have c_0 : h.2.2 (b + 3) = .inr (5, _) := cel_0 hW.2.2.1.1
  have n_0 : h.2.2 (b + 5) = .inr (9, _) := hW.2.2.2.1.1.1
  have p_0 : h.2.2 (b + 33) = .inr (6, _) := hW.2.2.2.2.2.2.2.1.1.1
  have q_0 : h.2.2 (b + 152) = .inr (2, _) := cel_0 hW.2.2.2.2.2.2.2.2.2.2.2.2.2.2.1.1
  obtain ⟨_, mm_0⟩ := hW.2.2.2.2.2.2.2.2.2.2.2.2.2.2.2.1.1
  have m_0 : h.2.2 (b + 154) = .inr (4, _) := cel_0 mm_0
  have g_0 : h.2.2 (b + 159) = .inr (1, _) := cel_0 hW.2.2.2.2.2.2.2.2.2.2.2.2.2.2.2.2.1.1
  rw [e_153]
  simp only [s_153_0, s_153_1, s_153_4, s_153_5, s_153_6, s_153_9, s_153_12, x_get_i, List.getElem?_cons_succ, List.getElem?_cons_zero, x_cv_j, cs_n, cs_i, cs_r, cs_l, Nat.reduceAdd, Nat.reduceLeDiff, true_and, Option.toList_some, Option.toList_none, List.cons_append, List.nil_append, if_true, if_false, nb0, nb1, x_setJ, x_setZ0, x_setZ1, x_setA, x_setO, List.length_cons, List.length_nil, Nat.reduceLT, List.set_cons_succ, List.set_cons_zero, wrl_0, wrl_1, wrl_2, wrl_3, wrl_4, wrl_5, wrl_p0, wrl_p1, wrl_p2, wrl_p3, wrl_p4, o_0, a_0, c_0, n_0, p_0, q_0, m_0, g_0]
  have hs' : (tcT (pa.2.2.2.1 i)).2.2.2.2.1 = (tcT nw).2.2.2.2.1 := by show nI _ = nI _; rw [hs]
  refine pa_back2 p1 hi w_n.1 hb hs' (by omega) (fun ha hb sA sB q1 q2 => ?_)
  simp only [s_153_0, s_153_1, s_153_4, s_153_5, s_153_6, s_153_9, s_153_12, x_get_i, List.getElem?_cons_succ, List.getElem?_cons_zero, x_cv_j, cs_n, cs_i, cs_r, cs_l, Nat.reduceAdd, Nat.reduceLeDiff, true_and, Option.toList_some, Option.toList_none, List.cons_append, List.nil_append, if_true, if_false, nb0, nb1, x_setJ, x_setZ0, x_setZ1, x_setA, x_setO, List.length_cons, List.length_nil, Nat.reduceLT, List.set_cons_succ, List.set_cons_zero, wrl_0, wrl_1, wrl_2, wrl_3, wrl_4, wrl_5, wrl_p0, wrl_p1, wrl_p2, wrl_p3, wrl_p4]
  have hWa := CW_n (nw' := pa.2.2.2.1 i) hW sA ⟨tca_sm ⟨sB.1.symm, sB.2.1.symm, fun x hx => (sB.2.2 x hx).symm⟩ (by omega) q2, p5 i⟩
  exact hQ hb ((sA.mono (by omega) (by omega)).trans (sB.mono (by omega) (by omega))) (CW_p (pa' := (0, pa.2)) hWa sB ⟨q1, Nat.zero_le _, p3, p4, p5⟩)
end
