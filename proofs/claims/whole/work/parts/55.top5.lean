/-! calls of the class: heard, seen; count, sort, box, row -/
section
variable {sa : g_SA} {sc : Nat × Nat × (Nat → Int32)} {xt : Nat → Nat → List Value → tm_H → Option (Option Value × tm_H)} {d b : Nat} {h : tm_H} {Q : Option Value → tm_H → Prop}
variable {tx : Nat × (Nat → Int32)} {rw : Nat × (Nat → Int64)} {nw : TN} {pa : Nat × Nat × (Nat → TN) × (Nat → TN) × (Nat → Int32)} {ru : Nat × Nat × List Int32} {he : Nat × (Nat → Int32)} {mi : Nat × (Nat → Int32) × (Nat → Int32) × (Nat → Int32)} {ga : Nat}
variable {c n m : Nat} {F L W M B H Ms Bs Os : Nat → Int32} {s g : Int32} {rc hc mc : Nat} {R : Nat → Int64}
theorem c_heard (hW : CW sa h b tx rw nw pa ru (hc, H) mi ga) (w v : Int32) (h1 : (v < 0 ∨ hm w < v ∨ hc = 12) → ∀ h', sm b (b + 162) h h' → CW sa h' b tx rw nw pa ru (hc, H) mi ga → Q (some (.int (-1))) h') (h2 : ¬ (v < 0 ∨ hm w < v ∨ hc = 12) → ∀ h', sm b (b + 162) h h' → CW sa h' b tx rw nw pa ru (hc + 1, upd H hc (10 * w + v)) mi ga → Q (some (.int (nI (hc + 1)))) h') : tm_D (g_G sa sc xt) (d + 2) 139 [.ref b, .int w, .int v] h Q := by
  obtain ⟨w_o, w_t, w_r, w_n, w_h, w_l, w_b, w_p, w_u, w_v, w_a, w_e, w_w, w_x, w_q, w_m, w_g, w_d, w_s⟩ := id hW
  have o_0 := hW.1
  have a_0 : h.2.2 (b + 1) = .inr (8, _) := hW.2.1.1.1
  have c_0 : h.2.2 (b + 3) = .inr (5, _) := cel_0 hW.2.2.1.1
  have n_0 : h.2.2 (b + 5) = .inr (9, _) := hW.2.2.2.1.1.1
  have p_0 : h.2.2 (b + 33) = .inr (6, _) := hW.2.2.2.2.2.2.2.1.1.1
  have q_0 : h.2.2 (b + 152) = .inr (2, _) := cel_0 hW.2.2.2.2.2.2.2.2.2.2.2.2.2.2.1.1
  obtain ⟨_, mm_0⟩ := hW.2.2.2.2.2.2.2.2.2.2.2.2.2.2.2.1.1
  have m_0 : h.2.2 (b + 154) = .inr (4, _) := cel_0 mm_0
  have g_0 : h.2.2 (b + 159) = .inr (1, _) := cel_0 hW.2.2.2.2.2.2.2.2.2.2.2.2.2.2.2.2.1.1
  have hq12 : hc ≤ 12 := w_q.2
  rw [e_139]
  simp only [s_139_0, s_139_1, s_139_4, s_139_5, s_139_6, s_139_9, x_get_i, List.getElem?_cons_succ, List.getElem?_cons_zero, x_cv_j, cs_n, cs_i, cs_r, cs_l, Nat.reduceAdd, Nat.reduceLeDiff, true_and, Option.toList_some, Option.toList_none, List.cons_append, List.nil_append, if_true, if_false, nb0, nb1, x_setJ, x_setZ0, x_setZ1, x_setA, x_setO, List.length_cons, List.length_nil, Nat.reduceLT, List.set_cons_succ, List.set_cons_zero, wrl_0, wrl_1, wrl_2, wrl_3, wrl_4, wrl_5, wrl_p0, wrl_p1, wrl_p2, wrl_p3, wrl_p4, o_0, a_0, c_0, n_0, p_0, q_0, m_0, g_0]
  by_cases k1 : v < 0 ∨ hm w < v ∨ hc = 12
  · refine cel_call (n := 2) (cs' := hec (b + 152) H (nI hc)) (r := some (.int (-1))) w_q.1 rfl (fun Q => ?_) (fun ha sA cA => ?_)
    · exact (he_hear hq12 w v).trans (by rw [if_pos k1])
    · simp only [s_139_0, s_139_1, s_139_4, s_139_5, s_139_6, s_139_9, x_get_i, List.getElem?_cons_succ, List.getElem?_cons_zero, x_cv_j, cs_n, cs_i, cs_r, cs_l, Nat.reduceAdd, Nat.reduceLeDiff, true_and, Option.toList_some, Option.toList_none, List.cons_append, List.nil_append, if_true, if_false, nb0, nb1, x_setJ, x_setZ0, x_setZ1, x_setA, x_setO, List.length_cons, List.length_nil, Nat.reduceLT, List.set_cons_succ, List.set_cons_zero, wrl_0, wrl_1, wrl_2, wrl_3, wrl_4, wrl_5, wrl_p0, wrl_p1, wrl_p2, wrl_p3, wrl_p4]
      exact h1 k1 ha (sA.mono (by omega) (by omega)) (CW_q (he' := (hc, H)) hW sA ⟨cA, w_q.2⟩)
  · refine cel_call (n := 2) (cs' := hec (b + 152) (upd H hc (10 * w + v)) (nI (hc + 1))) (r := some (.int (nI (hc + 1)))) w_q.1 rfl (fun Q => ?_) (fun ha sA cA => ?_)
    · exact (he_hear hq12 w v).trans (by rw [if_neg k1])
    · simp only [s_139_0, s_139_1, s_139_4, s_139_5, s_139_6, s_139_9, x_get_i, List.getElem?_cons_succ, List.getElem?_cons_zero, x_cv_j, cs_n, cs_i, cs_r, cs_l, Nat.reduceAdd, Nat.reduceLeDiff, true_and, Option.toList_some, Option.toList_none, List.cons_append, List.nil_append, if_true, if_false, nb0, nb1, x_setJ, x_setZ0, x_setZ1, x_setA, x_setO, List.length_cons, List.length_nil, Nat.reduceLT, List.set_cons_succ, List.set_cons_zero, wrl_0, wrl_1, wrl_2, wrl_3, wrl_4, wrl_5, wrl_p0, wrl_p1, wrl_p2, wrl_p3, wrl_p4]
      exact h2 k1 ha (sA.mono (by omega) (by omega)) (CW_q (he' := (hc + 1, upd H hc (10 * w + v))) hW sA ⟨cA, by show hc + 1 ≤ 12; omega⟩)
theorem c_forget (hW : CW sa h b tx rw nw pa ru (hc, H) mi ga) (hQ : ∀ h', sm b (b + 162) h h' → CW sa h' b tx rw nw pa ru (0, H) mi ga → Q (some (.int (nI hc))) h') : tm_D (g_G sa sc xt) (d + 1) 140 [.ref b] h Q := by
  obtain ⟨w_o, w_t, w_r, w_n, w_h, w_l, w_b, w_p, w_u, w_v, w_a, w_e, w_w, w_x, w_q, w_m, w_g, w_d, w_s⟩ := id hW
  have o_0 := hW.1
  have a_0 : h.2.2 (b + 1) = .inr (8, _) := hW.2.1.1.1
  have c_0 : h.2.2 (b + 3) = .inr (5, _) := cel_0 hW.2.2.1.1
  have n_0 : h.2.2 (b + 5) = .inr (9, _) := hW.2.2.2.1.1.1
  have p_0 : h.2.2 (b + 33) = .inr (6, _) := hW.2.2.2.2.2.2.2.1.1.1
  have q_0 : h.2.2 (b + 152) = .inr (2, _) := cel_0 hW.2.2.2.2.2.2.2.2.2.2.2.2.2.2.1.1
  obtain ⟨_, mm_0⟩ := hW.2.2.2.2.2.2.2.2.2.2.2.2.2.2.2.1.1
  have m_0 : h.2.2 (b + 154) = .inr (4, _) := cel_0 mm_0
  have g_0 : h.2.2 (b + 159) = .inr (1, _) := cel_0 hW.2.2.2.2.2.2.2.2.2.2.2.2.2.2.2.2.1.1
  rw [e_140]
  simp only [s_140_0, s_140_1, s_140_4, s_140_7, x_get_i, List.getElem?_cons_succ, List.getElem?_cons_zero, x_cv_j, cs_n, cs_i, cs_r, cs_l, Nat.reduceAdd, Nat.reduceLeDiff, true_and, Option.toList_some, Option.toList_none, List.cons_append, List.nil_append, if_true, if_false, nb0, nb1, x_setJ, x_setZ0, x_setZ1, x_setA, x_setO, List.length_cons, List.length_nil, Nat.reduceLT, List.set_cons_succ, List.set_cons_zero, wrl_0, wrl_1, wrl_2, wrl_3, wrl_4, wrl_5, wrl_p0, wrl_p1, wrl_p2, wrl_p3, wrl_p4, o_0, a_0, c_0, n_0, p_0, q_0, m_0, g_0]
  refine cel_call (n := 2) (cs' := hec (b + 152) H (nI 0)) (r := some (.int (nI hc))) w_q.1 rfl (fun Q => he_clear) (fun ha sA cA => ?_)
  simp only [s_140_0, s_140_1, s_140_4, s_140_7, x_get_i, List.getElem?_cons_succ, List.getElem?_cons_zero, x_cv_j, cs_n, cs_i, cs_r, cs_l, Nat.reduceAdd, Nat.reduceLeDiff, true_and, Option.toList_some, Option.toList_none, List.cons_append, List.nil_append, if_true, if_false, nb0, nb1, x_setJ, x_setZ0, x_setZ1, x_setA, x_setO, List.length_cons, List.length_nil, Nat.reduceLT, List.set_cons_succ, List.set_cons_zero, wrl_0, wrl_1, wrl_2, wrl_3, wrl_4, wrl_5, wrl_p0, wrl_p1, wrl_p2, wrl_p3, wrl_p4]
  exact hQ ha (sA.mono (by omega) (by omega)) (CW_q (he' := (0, H)) hW sA ⟨cA, Nat.zero_le _⟩)
theorem c_fitting (hW : CW sa h b tx rw (L, W, M, B, n, s, g) pa ru (hc, H) mi ga) : tm_D (g_G sa sc xt) (d + 2) 15 [.ref (b + 152), .ref (b + 5)] h Q ↔ Q (some (.int (hft L W M B s n H hc))) h := by
  obtain ⟨w_o, w_t, w_r, w_n, w_h, w_l, w_b, w_p, w_u, w_v, w_a, w_e, w_w, w_x, w_q, w_m, w_g, w_d, w_s⟩ := id hW
  have hT : tc_at h (b + 5) L W M B (nI n) s g := w_n.1
  have hcl : cel h (b + 152) (hec (b + 152) H (nI hc)) := w_q.1
  refine cel_ro hcl (fun Q => ?_)
  exact he_fitting (by rw [wrl_eta hcl]; exact hT) w_n.2.1 w_q.2
theorem c_fits (hW : CW sa h b tx (rc, R) (L, W, M, B, n, s, g) pa ru (hc, H) mi ga) (hQ : ∀ h', sm b (b + 162) h h' → CW sa h' b tx (rw1 R (ibc (hft L W M B s n H hc)).toInt64) (L, W, M, B, n, s, g) pa ru (hc, H) mi ga → Q (some (.int (hft L W M B s n H hc))) h') : tm_D (g_G sa sc xt) (d + 3) 141 [.ref b] h Q := by
  have o_0 := hW.1
  have a_0 : h.2.2 (b + 1) = .inr (8, _) := hW.2.1.1.1
  have c_0 : h.2.2 (b + 3) = .inr (5, _) := cel_0 hW.2.2.1.1
  have n_0 : h.2.2 (b + 5) = .inr (9, _) := hW.2.2.2.1.1.1
  have p_0 : h.2.2 (b + 33) = .inr (6, _) := hW.2.2.2.2.2.2.2.1.1.1
  have q_0 : h.2.2 (b + 152) = .inr (2, _) := cel_0 hW.2.2.2.2.2.2.2.2.2.2.2.2.2.2.1.1
  obtain ⟨_, mm_0⟩ := hW.2.2.2.2.2.2.2.2.2.2.2.2.2.2.2.1.1
  have m_0 : h.2.2 (b + 154) = .inr (4, _) := cel_0 mm_0
  have g_0 : h.2.2 (b + 159) = .inr (1, _) := cel_0 hW.2.2.2.2.2.2.2.2.2.2.2.2.2.2.2.2.1.1
  rw [e_141]
  simp only [s_141_0, s_141_1, s_141_4, s_141_5, s_141_8, s_141_11, s_141_12, s_141_13, s_141_16, s_141_17, s_141_20, s_141_21, s_141_24, s_141_25, x_get_i, List.getElem?_cons_succ, List.getElem?_cons_zero, x_cv_j, cs_n, cs_i, cs_r, cs_l, Nat.reduceAdd, Nat.reduceLeDiff, true_and, Option.toList_some, Option.toList_none, List.cons_append, List.nil_append, if_true, if_false, nb0, nb1, x_setJ, x_setZ0, x_setZ1, x_setA, x_setO, List.length_cons, List.length_nil, Nat.reduceLT, List.set_cons_succ, List.set_cons_zero, wrl_0, wrl_1, wrl_2, wrl_3, wrl_4, wrl_5, wrl_p0, wrl_p1, wrl_p2, wrl_p3, wrl_p4, o_0, a_0, c_0, n_0, p_0, q_0, m_0, g_0, c_fitting hW, m_bitCount]
  refine c_tell1 hW _ (fun ha sA hWa => ?_)
  simp only [s_141_0, s_141_1, s_141_4, s_141_5, s_141_8, s_141_11, s_141_12, s_141_13, s_141_16, s_141_17, s_141_20, s_141_21, s_141_24, s_141_25, x_get_i, List.getElem?_cons_succ, List.getElem?_cons_zero, x_cv_j, cs_n, cs_i, cs_r, cs_l, Nat.reduceAdd, Nat.reduceLeDiff, true_and, Option.toList_some, Option.toList_none, List.cons_append, List.nil_append, if_true, if_false, nb0, nb1, x_setJ, x_setZ0, x_setZ1, x_setA, x_setO, List.length_cons, List.length_nil, Nat.reduceLT, List.set_cons_succ, List.set_cons_zero, wrl_0, wrl_1, wrl_2, wrl_3, wrl_4, wrl_5, wrl_p0, wrl_p1, wrl_p2, wrl_p3, wrl_p4]
  exact hQ ha (sA.mono (by omega) (by omega)) hWa
theorem c_asks (hW : CW sa h b tx (rc, R) (L, W, M, B, n, s, g) pa ru (hc, H) mi ga) (h1 : hft L W M B s n H hc = 0 → Q (some (.int (-2))) h) (h2 : ¬ hft L W M B s n H hc = 0 → ∀ h', sm b (b + 162) h h' → CW sa h' b tx (rw1 R (hla L W M B s n (hft L W M B s n H hc) (hbw (hla L W M B s n (hft L W M B s n H hc)) 5 0 (0, 13)).1).toInt64) (L, W, M, B, n, s, g) pa ru (hc, H) mi ga → Q (some (.int (hbw (hla L W M B s n (hft L W M B s n H hc)) 5 0 (0, 13)).1)) h') : tm_D (g_G sa sc xt) (d + 4) 142 [.ref b] h Q := by
  obtain ⟨w_o, w_t, w_r, w_n, w_h, w_l, w_b, w_p, w_u, w_v, w_a, w_e, w_w, w_x, w_q, w_m, w_g, w_d, w_s⟩ := id hW
  have o_0 := hW.1
  have a_0 : h.2.2 (b + 1) = .inr (8, _) := hW.2.1.1.1
  have c_0 : h.2.2 (b + 3) = .inr (5, _) := cel_0 hW.2.2.1.1
  have n_0 : h.2.2 (b + 5) = .inr (9, _) := hW.2.2.2.1.1.1
  have p_0 : h.2.2 (b + 33) = .inr (6, _) := hW.2.2.2.2.2.2.2.1.1.1
  have q_0 : h.2.2 (b + 152) = .inr (2, _) := cel_0 hW.2.2.2.2.2.2.2.2.2.2.2.2.2.2.1.1
  obtain ⟨_, mm_0⟩ := hW.2.2.2.2.2.2.2.2.2.2.2.2.2.2.2.1.1
  have m_0 : h.2.2 (b + 154) = .inr (4, _) := cel_0 mm_0
  have g_0 : h.2.2 (b + 159) = .inr (1, _) := cel_0 hW.2.2.2.2.2.2.2.2.2.2.2.2.2.2.2.2.1.1
  have hT : tc_at h (b + 5) L W M B (nI n) s g := w_n.1
  rw [e_142]
  simp only [s_142_0, s_142_1, s_142_4, s_142_5, s_142_8, s_142_11, s_142_12, s_142_13, s_142_16, s_142_18, s_142_19, s_142_20, s_142_23, s_142_24, s_142_27, s_142_28, s_142_31, s_142_32, s_142_33, s_142_36, s_142_37, s_142_40, s_142_41, s_142_44, s_142_45, s_142_46, s_142_49, s_142_50, s_142_53, s_142_54, x_get_i, List.getElem?_cons_succ, List.getElem?_cons_zero, x_cv_j, cs_n, cs_i, cs_r, cs_l, Nat.reduceAdd, Nat.reduceLeDiff, true_and, Option.toList_some, Option.toList_none, List.cons_append, List.nil_append, if_true, if_false, nb0, nb1, x_setJ, x_setZ0, x_setZ1, x_setA, x_setO, List.length_cons, List.length_nil, Nat.reduceLT, List.set_cons_succ, List.set_cons_zero, wrl_0, wrl_1, wrl_2, wrl_3, wrl_4, wrl_5, wrl_p0, wrl_p1, wrl_p2, wrl_p3, wrl_p4, o_0, a_0, c_0, n_0, p_0, q_0, m_0, g_0, c_fitting hW]
  by_cases k1 : hft L W M B s n H hc = 0
  · simp only [k1, if_true]
    exact h1 k1
  · simp only [k1, if_false, he_best q_0 hT w_n.2.1, s_142_0, s_142_1, s_142_4, s_142_5, s_142_8, s_142_11, s_142_12, s_142_13, s_142_16, s_142_18, s_142_19, s_142_20, s_142_23, s_142_24, s_142_27, s_142_28, s_142_31, s_142_32, s_142_33, s_142_36, s_142_37, s_142_40, s_142_41, s_142_44, s_142_45, s_142_46, s_142_49, s_142_50, s_142_53, s_142_54, x_get_i, List.getElem?_cons_succ, List.getElem?_cons_zero, x_cv_j, cs_n, cs_i, cs_r, cs_l, Nat.reduceAdd, Nat.reduceLeDiff, true_and, Option.toList_some, Option.toList_none, List.cons_append, List.nil_append, if_true, if_false, nb0, nb1, x_setJ, x_setZ0, x_setZ1, x_setA, x_setO, List.length_cons, List.length_nil, Nat.reduceLT, List.set_cons_succ, List.set_cons_zero, wrl_0, wrl_1, wrl_2, wrl_3, wrl_4, wrl_5, wrl_p0, wrl_p1, wrl_p2, wrl_p3, wrl_p4, o_0, a_0, c_0, n_0, p_0, q_0, m_0, g_0, he_left hT w_n.2.1]
    refine c_tell1 hW _ (fun ha sA hWa => ?_)
    simp only [s_142_0, s_142_1, s_142_4, s_142_5, s_142_8, s_142_11, s_142_12, s_142_13, s_142_16, s_142_18, s_142_19, s_142_20, s_142_23, s_142_24, s_142_27, s_142_28, s_142_31, s_142_32, s_142_33, s_142_36, s_142_37, s_142_40, s_142_41, s_142_44, s_142_45, s_142_46, s_142_49, s_142_50, s_142_53, s_142_54, x_get_i, List.getElem?_cons_succ, List.getElem?_cons_zero, x_cv_j, cs_n, cs_i, cs_r, cs_l, Nat.reduceAdd, Nat.reduceLeDiff, true_and, Option.toList_some, Option.toList_none, List.cons_append, List.nil_append, if_true, if_false, nb0, nb1, x_setJ, x_setZ0, x_setZ1, x_setA, x_setO, List.length_cons, List.length_nil, Nat.reduceLT, List.set_cons_succ, List.set_cons_zero, wrl_0, wrl_1, wrl_2, wrl_3, wrl_4, wrl_5, wrl_p0, wrl_p1, wrl_p2, wrl_p3, wrl_p4]
    exact h2 k1 ha (sA.mono (by omega) (by omega)) hWa
/-- is it a mood -/
abbrev isM (v : Int32) : Prop := ¬ (v < -9 ∨ 9 < v)
theorem isM_i {v : Int32} : (if v < -9 then (0 : Int32) else if 9 < v then 0 else 1) = if (v < -9 ∨ 9 < v) then 0 else 1 := by
  by_cases c1 : v < -9
  · simp only [c1, if_true, true_or]
  · by_cases c2 : 9 < v
    · simp only [c1, c2, if_true, if_false, or_true]
    · simp only [c1, c2, if_false, or_self]
theorem c_saw (hW : CW sa h b tx rw nw pa ru he (mc, Ms, Bs, Os) ga) (x y z : Int32) (h1 : ¬ (isM x ∧ isM y ∧ isM z ∧ mc < 10) → ∀ h', sm b (b + 162) h h' → CW sa h' b tx rw nw pa ru he (mc, Ms, Bs, Os) ga → Q (some (.int (-1))) h') (h2 : (isM x ∧ isM y ∧ isM z ∧ mc < 10) → ∀ h', sm b (b + 162) h h' → CW sa h' b tx rw nw pa ru he (mc + 1, upd Ms mc x, upd Bs mc y, upd Os mc z) ga → Q (some (.int (nI (mc + 1)))) h') : tm_D (g_G sa sc xt) (d + 1) 143 [.ref b, .int x, .int y, .int z] h Q := by
  obtain ⟨w_o, w_t, w_r, w_n, w_h, w_l, w_b, w_p, w_u, w_v, w_a, w_e, w_w, w_x, w_q, w_m, w_g, w_d, w_s⟩ := id hW
  have o_0 := hW.1
  have a_0 : h.2.2 (b + 1) = .inr (8, _) := hW.2.1.1.1
  have c_0 : h.2.2 (b + 3) = .inr (5, _) := cel_0 hW.2.2.1.1
  have n_0 : h.2.2 (b + 5) = .inr (9, _) := hW.2.2.2.1.1.1
  have p_0 : h.2.2 (b + 33) = .inr (6, _) := hW.2.2.2.2.2.2.2.1.1.1
  have q_0 : h.2.2 (b + 152) = .inr (2, _) := cel_0 hW.2.2.2.2.2.2.2.2.2.2.2.2.2.2.1.1
  obtain ⟨_, mm_0⟩ := hW.2.2.2.2.2.2.2.2.2.2.2.2.2.2.2.1.1
  have m_0 : h.2.2 (b + 154) = .inr (4, _) := cel_0 mm_0
  have g_0 : h.2.2 (b + 159) = .inr (1, _) := cel_0 hW.2.2.2.2.2.2.2.2.2.2.2.2.2.2.2.2.1.1
  have hm10 : mc ≤ 10 := w_m.2
  have sr : sm b (b + 162) h h := sm.rfl
  rw [e_143]
  simp only [s_143_0, s_143_1, s_143_4, s_143_7, s_143_8, s_143_11, s_143_14, s_143_15, s_143_18, s_143_21, s_143_22, s_143_23, s_143_24, s_143_27, s_143_28, s_143_29, s_143_30, s_143_33, x_get_i, List.getElem?_cons_succ, List.getElem?_cons_zero, x_cv_j, cs_n, cs_i, cs_r, cs_l, Nat.reduceAdd, Nat.reduceLeDiff, true_and, Option.toList_some, Option.toList_none, List.cons_append, List.nil_append, if_true, if_false, nb0, nb1, x_setJ, x_setZ0, x_setZ1, x_setA, x_setO, List.length_cons, List.length_nil, Nat.reduceLT, List.set_cons_succ, List.set_cons_zero, wrl_0, wrl_1, wrl_2, wrl_3, wrl_4, wrl_5, wrl_p0, wrl_p1, wrl_p2, wrl_p3, wrl_p4, o_0, a_0, c_0, n_0, p_0, q_0, m_0, g_0, c_isMood, isM_i]
  by_cases k1 : x < -9 ∨ 9 < x
  · simp only [k1, if_true]
    exact h1 (fun q => q.1 k1) h sr hW
  by_cases k2 : y < -9 ∨ 9 < y
  · simp only [k1, k2, if_true, if_false, show ¬ (1 : Int32) = 0 by decide]
    exact h1 (fun q => q.2.1 k2) h sr hW
  by_cases k3 : z < -9 ∨ 9 < z
  · simp only [k1, k2, k3, if_true, if_false, show ¬ (1 : Int32) = 0 by decide]
    exact h1 (fun q => q.2.2.1 k3) h sr hW
  simp only [k1, k2, k3, if_false, show ¬ (1 : Int32) = 0 by decide]
  obtain ⟨A, cA⟩ := w_m.1
  have cA : cel h (b + 154) (mxc (b + 154) Ms Bs Os A (nI mc)) := cA
  by_cases k4 : mc = 10
  · refine cel_call (n := 5) (cs' := mxc (b + 154) Ms Bs Os A (nI mc)) (r := some (.int (-1))) cA rfl (fun Q => ?_) (fun ha sA cA => ?_)
    · exact (mi_see hm10 x y z).trans (by rw [if_pos k4])
    · simp only [s_143_0, s_143_1, s_143_4, s_143_7, s_143_8, s_143_11, s_143_14, s_143_15, s_143_18, s_143_21, s_143_22, s_143_23, s_143_24, s_143_27, s_143_28, s_143_29, s_143_30, s_143_33, x_get_i, List.getElem?_cons_succ, List.getElem?_cons_zero, x_cv_j, cs_n, cs_i, cs_r, cs_l, Nat.reduceAdd, Nat.reduceLeDiff, true_and, Option.toList_some, Option.toList_none, List.cons_append, List.nil_append, if_true, if_false, nb0, nb1, x_setJ, x_setZ0, x_setZ1, x_setA, x_setO, List.length_cons, List.length_nil, Nat.reduceLT, List.set_cons_succ, List.set_cons_zero, wrl_0, wrl_1, wrl_2, wrl_3, wrl_4, wrl_5, wrl_p0, wrl_p1, wrl_p2, wrl_p3, wrl_p4]
      exact h1 (fun q => by omega) ha (sA.mono (by omega) (by omega)) (CW_m (mi' := (mc, Ms, Bs, Os)) hW sA ⟨⟨A, cA⟩, hm10⟩)
  · refine cel_call (n := 5) (cs' := mxc (b + 154) (upd Ms mc x) (upd Bs mc y) (upd Os mc z) A (nI (mc + 1))) (r := some (.int (nI (mc + 1)))) cA rfl (fun Q => ?_) (fun ha sA cA => ?_)
    · exact (mi_see hm10 x y z).trans (by rw [if_neg k4])
    · simp only [s_143_0, s_143_1, s_143_4, s_143_7, s_143_8, s_143_11, s_143_14, s_143_15, s_143_18, s_143_21, s_143_22, s_143_23, s_143_24, s_143_27, s_143_28, s_143_29, s_143_30, s_143_33, x_get_i, List.getElem?_cons_succ, List.getElem?_cons_zero, x_cv_j, cs_n, cs_i, cs_r, cs_l, Nat.reduceAdd, Nat.reduceLeDiff, true_and, Option.toList_some, Option.toList_none, List.cons_append, List.nil_append, if_true, if_false, nb0, nb1, x_setJ, x_setZ0, x_setZ1, x_setA, x_setO, List.length_cons, List.length_nil, Nat.reduceLT, List.set_cons_succ, List.set_cons_zero, wrl_0, wrl_1, wrl_2, wrl_3, wrl_4, wrl_5, wrl_p0, wrl_p1, wrl_p2, wrl_p3, wrl_p4]
      exact h2 ⟨k1, k2, k3, by omega⟩ ha (sA.mono (by omega) (by omega)) (CW_m (mi' := (mc + 1, upd Ms mc x, upd Bs mc y, upd Os mc z)) hW sA ⟨⟨A, cA⟩, by show mc + 1 ≤ 10; omega⟩)
theorem c_denies (hW : CW sa h b tx rw nw pa ru he (mc, Ms, Bs, Os) ga) (hQ : ∀ h', sm b (b + 162) h h' → CW sa h' b tx rw nw pa ru he (0, Ms, Bs, Os) ga → Q (some (.int (nI mc))) h') : tm_D (g_G sa sc xt) (d + 1) 144 [.ref b] h Q := by
  obtain ⟨w_o, w_t, w_r, w_n, w_h, w_l, w_b, w_p, w_u, w_v, w_a, w_e, w_w, w_x, w_q, w_m, w_g, w_d, w_s⟩ := id hW
  have o_0 := hW.1
  have a_0 : h.2.2 (b + 1) = .inr (8, _) := hW.2.1.1.1
  have c_0 : h.2.2 (b + 3) = .inr (5, _) := cel_0 hW.2.2.1.1
  have n_0 : h.2.2 (b + 5) = .inr (9, _) := hW.2.2.2.1.1.1
  have p_0 : h.2.2 (b + 33) = .inr (6, _) := hW.2.2.2.2.2.2.2.1.1.1
  have q_0 : h.2.2 (b + 152) = .inr (2, _) := cel_0 hW.2.2.2.2.2.2.2.2.2.2.2.2.2.2.1.1
  obtain ⟨_, mm_0⟩ := hW.2.2.2.2.2.2.2.2.2.2.2.2.2.2.2.1.1
  have m_0 : h.2.2 (b + 154) = .inr (4, _) := cel_0 mm_0
  have g_0 : h.2.2 (b + 159) = .inr (1, _) := cel_0 hW.2.2.2.2.2.2.2.2.2.2.2.2.2.2.2.2.1.1
  rw [e_144]
  simp only [s_144_0, s_144_1, s_144_4, s_144_7, x_get_i, List.getElem?_cons_succ, List.getElem?_cons_zero, x_cv_j, cs_n, cs_i, cs_r, cs_l, Nat.reduceAdd, Nat.reduceLeDiff, true_and, Option.toList_some, Option.toList_none, List.cons_append, List.nil_append, if_true, if_false, nb0, nb1, x_setJ, x_setZ0, x_setZ1, x_setA, x_setO, List.length_cons, List.length_nil, Nat.reduceLT, List.set_cons_succ, List.set_cons_zero, wrl_0, wrl_1, wrl_2, wrl_3, wrl_4, wrl_5, wrl_p0, wrl_p1, wrl_p2, wrl_p3, wrl_p4, o_0, a_0, c_0, n_0, p_0, q_0, m_0, g_0]
  obtain ⟨A, cA⟩ := w_m.1
  refine cel_call (n := 5) (cs' := mxc (b + 154) Ms Bs Os A (nI 0)) (r := some (.int (nI mc))) cA rfl (fun Q => mi_clear) (fun ha sA cA => ?_)
  simp only [s_144_0, s_144_1, s_144_4, s_144_7, x_get_i, List.getElem?_cons_succ, List.getElem?_cons_zero, x_cv_j, cs_n, cs_i, cs_r, cs_l, Nat.reduceAdd, Nat.reduceLeDiff, true_and, Option.toList_some, Option.toList_none, List.cons_append, List.nil_append, if_true, if_false, nb0, nb1, x_setJ, x_setZ0, x_setZ1, x_setA, x_setO, List.length_cons, List.length_nil, Nat.reduceLT, List.set_cons_succ, List.set_cons_zero, wrl_0, wrl_1, wrl_2, wrl_3, wrl_4, wrl_5, wrl_p0, wrl_p1, wrl_p2, wrl_p3, wrl_p4]
  exact hQ ha (sA.mono (by omega) (by omega)) (CW_m (mi' := (0, Ms, Bs, Os)) hW sA ⟨⟨A, cA⟩, Nat.zero_le _⟩)
theorem c_mfit (hW : CW sa h b tx rw nw pa ru he (mc, Ms, Bs, Os) ga) : tm_D (g_G sa sc xt) (d + 3) 31 [.ref (b + 154)] h Q ↔ Q (some (.int (mxF Ms Bs Os mc 30))) h := by
  obtain ⟨w_o, w_t, w_r, w_n, w_h, w_l, w_b, w_p, w_u, w_v, w_a, w_e, w_w, w_x, w_q, w_m, w_g, w_d, w_s⟩ := id hW
  obtain ⟨A, cA⟩ := w_m.1
  exact cel_ro cA (fun Q => mi_fitting w_m.2)
theorem c_laws (hW : CW sa h b tx (rc, R) nw pa ru he (mc, Ms, Bs, Os) ga) (h1 : mxF Ms Bs Os mc 30 = 0 → ∀ h', sm b (b + 162) h h' → CW sa h' b tx (0, R) nw pa ru he (mc, Ms, Bs, Os) ga → Q (some (.int (ibc (mxF Ms Bs Os mc 30)))) h') (h2 : ¬ mxF Ms Bs Os mc 30 = 0 → ∀ h', sm b (b + 162) h h' → CW sa h' b tx (rw2 R (itz (mxF Ms Bs Os mc 30) / 5).toInt64 (itz (mxF Ms Bs Os mc 30) - itz (mxF Ms Bs Os mc 30) / 5 * 5 + 1).toInt64) nw pa ru he (mc, Ms, Bs, Os) ga → Q (some (.int (ibc (mxF Ms Bs Os mc 30)))) h') : tm_D (g_G sa sc xt) (d + 4) 145 [.ref b] h Q := by
  have o_0 := hW.1
  have a_0 : h.2.2 (b + 1) = .inr (8, _) := hW.2.1.1.1
  have c_0 : h.2.2 (b + 3) = .inr (5, _) := cel_0 hW.2.2.1.1
  have n_0 : h.2.2 (b + 5) = .inr (9, _) := hW.2.2.2.1.1.1
  have p_0 : h.2.2 (b + 33) = .inr (6, _) := hW.2.2.2.2.2.2.2.1.1.1
  have q_0 : h.2.2 (b + 152) = .inr (2, _) := cel_0 hW.2.2.2.2.2.2.2.2.2.2.2.2.2.2.1.1
  obtain ⟨_, mm_0⟩ := hW.2.2.2.2.2.2.2.2.2.2.2.2.2.2.2.1.1
  have m_0 : h.2.2 (b + 154) = .inr (4, _) := cel_0 mm_0
  have g_0 : h.2.2 (b + 159) = .inr (1, _) := cel_0 hW.2.2.2.2.2.2.2.2.2.2.2.2.2.2.2.2.1.1
  rw [e_145]
  simp only [s_145_0, s_145_1, s_145_4, s_145_7, s_145_8, s_145_9, s_145_12, s_145_15, s_145_16, s_145_19, s_145_20, s_145_23, s_145_24, s_145_25, s_145_28, s_145_29, s_145_32, s_145_33, s_145_34, s_145_37, s_145_38, s_145_41, s_145_42, s_145_45, x_get_i, List.getElem?_cons_succ, List.getElem?_cons_zero, x_cv_j, cs_n, cs_i, cs_r, cs_l, Nat.reduceAdd, Nat.reduceLeDiff, true_and, Option.toList_some, Option.toList_none, List.cons_append, List.nil_append, if_true, if_false, nb0, nb1, x_setJ, x_setZ0, x_setZ1, x_setA, x_setO, List.length_cons, List.length_nil, Nat.reduceLT, List.set_cons_succ, List.set_cons_zero, wrl_0, wrl_1, wrl_2, wrl_3, wrl_4, wrl_5, wrl_p0, wrl_p1, wrl_p2, wrl_p3, wrl_p4, o_0, a_0, c_0, n_0, p_0, q_0, m_0, g_0, c_mfit hW]
  refine c_rclear hW (fun ha sA hWa => ?_)
  have o_a := hWa.1
  have a_a : ha.2.2 (b + 1) = .inr (8, _) := hWa.2.1.1.1
  have c_a : ha.2.2 (b + 3) = .inr (5, _) := cel_0 hWa.2.2.1.1
  have n_a : ha.2.2 (b + 5) = .inr (9, _) := hWa.2.2.2.1.1.1
  have p_a : ha.2.2 (b + 33) = .inr (6, _) := hWa.2.2.2.2.2.2.2.1.1.1
  have q_a : ha.2.2 (b + 152) = .inr (2, _) := cel_0 hWa.2.2.2.2.2.2.2.2.2.2.2.2.2.2.1.1
  obtain ⟨_, mm_a⟩ := hWa.2.2.2.2.2.2.2.2.2.2.2.2.2.2.2.1.1
  have m_a : ha.2.2 (b + 154) = .inr (4, _) := cel_0 mm_a
  have g_a : ha.2.2 (b + 159) = .inr (1, _) := cel_0 hWa.2.2.2.2.2.2.2.2.2.2.2.2.2.2.2.2.1.1
  simp only [s_145_0, s_145_1, s_145_4, s_145_7, s_145_8, s_145_9, s_145_12, s_145_15, s_145_16, s_145_19, s_145_20, s_145_23, s_145_24, s_145_25, s_145_28, s_145_29, s_145_32, s_145_33, s_145_34, s_145_37, s_145_38, s_145_41, s_145_42, s_145_45, x_get_i, List.getElem?_cons_succ, List.getElem?_cons_zero, x_cv_j, cs_n, cs_i, cs_r, cs_l, Nat.reduceAdd, Nat.reduceLeDiff, true_and, Option.toList_some, Option.toList_none, List.cons_append, List.nil_append, if_true, if_false, nb0, nb1, x_setJ, x_setZ0, x_setZ1, x_setA, x_setO, List.length_cons, List.length_nil, Nat.reduceLT, List.set_cons_succ, List.set_cons_zero, wrl_0, wrl_1, wrl_2, wrl_3, wrl_4, wrl_5, wrl_p0, wrl_p1, wrl_p2, wrl_p3, wrl_p4, o_a, a_a, c_a, n_a, p_a, q_a, m_a, g_a]
  by_cases k1 : mxF Ms Bs Os mc 30 = 0
  · simp only [k1, if_true, m_bitCount, s_145_0, s_145_1, s_145_4, s_145_7, s_145_8, s_145_9, s_145_12, s_145_15, s_145_16, s_145_19, s_145_20, s_145_23, s_145_24, s_145_25, s_145_28, s_145_29, s_145_32, s_145_33, s_145_34, s_145_37, s_145_38, s_145_41, s_145_42, s_145_45, x_get_i, List.getElem?_cons_succ, List.getElem?_cons_zero, x_cv_j, cs_n, cs_i, cs_r, cs_l, Nat.reduceAdd, Nat.reduceLeDiff, true_and, Option.toList_some, Option.toList_none, List.cons_append, List.nil_append, if_true, if_false, nb0, nb1, x_setJ, x_setZ0, x_setZ1, x_setA, x_setO, List.length_cons, List.length_nil, Nat.reduceLT, List.set_cons_succ, List.set_cons_zero, wrl_0, wrl_1, wrl_2, wrl_3, wrl_4, wrl_5, wrl_p0, wrl_p1, wrl_p2, wrl_p3, wrl_p4]
    rw [k1] at h1
    exact h1 rfl ha (sA.mono (by omega) (by omega)) hWa
  · simp only [k1, if_false, m_itz, s_145_0, s_145_1, s_145_4, s_145_7, s_145_8, s_145_9, s_145_12, s_145_15, s_145_16, s_145_19, s_145_20, s_145_23, s_145_24, s_145_25, s_145_28, s_145_29, s_145_32, s_145_33, s_145_34, s_145_37, s_145_38, s_145_41, s_145_42, s_145_45, x_get_i, List.getElem?_cons_succ, List.getElem?_cons_zero, x_cv_j, cs_n, cs_i, cs_r, cs_l, Nat.reduceAdd, Nat.reduceLeDiff, true_and, Option.toList_some, Option.toList_none, List.cons_append, List.nil_append, if_true, if_false, nb0, nb1, x_setJ, x_setZ0, x_setZ1, x_setA, x_setO, List.length_cons, List.length_nil, Nat.reduceLT, List.set_cons_succ, List.set_cons_zero, wrl_0, wrl_1, wrl_2, wrl_3, wrl_4, wrl_5, wrl_p0, wrl_p1, wrl_p2, wrl_p3, wrl_p4, o_a, a_a, c_a, n_a, p_a, q_a, m_a, g_a, mi_upper, mi_lower]
    refine c_tell2 hWa _ _ (fun hb sB hWb => ?_)
    simp only [s_145_0, s_145_1, s_145_4, s_145_7, s_145_8, s_145_9, s_145_12, s_145_15, s_145_16, s_145_19, s_145_20, s_145_23, s_145_24, s_145_25, s_145_28, s_145_29, s_145_32, s_145_33, s_145_34, s_145_37, s_145_38, s_145_41, s_145_42, s_145_45, x_get_i, List.getElem?_cons_succ, List.getElem?_cons_zero, x_cv_j, cs_n, cs_i, cs_r, cs_l, Nat.reduceAdd, Nat.reduceLeDiff, true_and, Option.toList_some, Option.toList_none, List.cons_append, List.nil_append, if_true, if_false, nb0, nb1, x_setJ, x_setZ0, x_setZ1, x_setA, x_setO, List.length_cons, List.length_nil, Nat.reduceLT, List.set_cons_succ, List.set_cons_zero, wrl_0, wrl_1, wrl_2, wrl_3, wrl_4, wrl_5, wrl_p0, wrl_p1, wrl_p2, wrl_p3, wrl_p4, m_bitCount]
    exact h2 k1 hb ((sA.mono (by omega) (by omega)).trans (sB.mono (by omega) (by omega))) hWb
theorem c_looks (hW : CW sa h b tx (rc, R) nw pa ru he (mc, Ms, Bs, Os) ga) (h1 : mxF Ms Bs Os mc 30 = 0 → Q (some (.int (-2))) h) (h2 : ¬ mxF Ms Bs Os mc 30 = 0 → ∀ h', sm b (b + 162) h h' → CW sa h' b tx (rw1 R (mxm (mxF Ms Bs Os mc 30) (mxs (mxF Ms Bs Os mc 30) 361).1 30).toInt64) nw pa ru he (mc, Ms, Bs, Os) ga → Q (some (.int (mxs (mxF Ms Bs Os mc 30) 361).1)) h') : tm_D (g_G sa sc xt) (d + 4) 146 [.ref b] h Q := by
  obtain ⟨w_o, w_t, w_r, w_n, w_h, w_l, w_b, w_p, w_u, w_v, w_a, w_e, w_w, w_x, w_q, w_m, w_g, w_d, w_s⟩ := id hW
  have o_0 := hW.1
  have a_0 : h.2.2 (b + 1) = .inr (8, _) := hW.2.1.1.1
  have c_0 : h.2.2 (b + 3) = .inr (5, _) := cel_0 hW.2.2.1.1
  have n_0 : h.2.2 (b + 5) = .inr (9, _) := hW.2.2.2.1.1.1
  have p_0 : h.2.2 (b + 33) = .inr (6, _) := hW.2.2.2.2.2.2.2.1.1.1
  have q_0 : h.2.2 (b + 152) = .inr (2, _) := cel_0 hW.2.2.2.2.2.2.2.2.2.2.2.2.2.2.1.1
  obtain ⟨_, mm_0⟩ := hW.2.2.2.2.2.2.2.2.2.2.2.2.2.2.2.1.1
  have m_0 : h.2.2 (b + 154) = .inr (4, _) := cel_0 mm_0
  have g_0 : h.2.2 (b + 159) = .inr (1, _) := cel_0 hW.2.2.2.2.2.2.2.2.2.2.2.2.2.2.2.2.1.1
  rw [e_146]
  simp only [s_146_0, s_146_1, s_146_4, s_146_7, s_146_8, s_146_9, s_146_12, s_146_14, s_146_15, s_146_16, s_146_19, s_146_20, s_146_23, s_146_24, s_146_25, s_146_28, s_146_29, s_146_32, s_146_33, s_146_34, s_146_37, s_146_38, s_146_41, s_146_42, x_get_i, List.getElem?_cons_succ, List.getElem?_cons_zero, x_cv_j, cs_n, cs_i, cs_r, cs_l, Nat.reduceAdd, Nat.reduceLeDiff, true_and, Option.toList_some, Option.toList_none, List.cons_append, List.nil_append, if_true, if_false, nb0, nb1, x_setJ, x_setZ0, x_setZ1, x_setA, x_setO, List.length_cons, List.length_nil, Nat.reduceLT, List.set_cons_succ, List.set_cons_zero, wrl_0, wrl_1, wrl_2, wrl_3, wrl_4, wrl_5, wrl_p0, wrl_p1, wrl_p2, wrl_p3, wrl_p4, o_0, a_0, c_0, n_0, p_0, q_0, m_0, g_0, c_mfit hW]
  by_cases k1 : mxF Ms Bs Os mc 30 = 0
  · simp only [k1, if_true]
    exact h1 k1
  · simp only [k1, if_false]
    obtain ⟨A, cA⟩ := w_m.1
    rw [← wrl_eta cA]
    refine mi_best _ (fun A' => ?_)
    have sA : sm (b + 154) (b + 159) h (wrl h (b + 154) (mxc (b + 154) Ms Bs Os A' (nI mc))) := sm_wrl (Nat.le_refl _) (Nat.le_refl _)
    have cA' : cel (wrl h (b + 154) (mxc (b + 154) Ms Bs Os A' (nI mc))) (b + 154) (mxc (b + 154) Ms Bs Os A' (nI mc)) := fun i x hx => wrl_i hx
    have hWa := CW_m (mi' := (mc, Ms, Bs, Os)) hW sA ⟨⟨A', cA'⟩, w_m.2⟩
    generalize wrl h (b + 154) (mxc (b + 154) Ms Bs Os A' (nI mc)) = ha at sA cA' hWa
    have o_a := hWa.1
    have a_a : ha.2.2 (b + 1) = .inr (8, _) := hWa.2.1.1.1
    have c_a : ha.2.2 (b + 3) = .inr (5, _) := cel_0 hWa.2.2.1.1
    have n_a : ha.2.2 (b + 5) = .inr (9, _) := hWa.2.2.2.1.1.1
    have p_a : ha.2.2 (b + 33) = .inr (6, _) := hWa.2.2.2.2.2.2.2.1.1.1
    have q_a : ha.2.2 (b + 152) = .inr (2, _) := cel_0 hWa.2.2.2.2.2.2.2.2.2.2.2.2.2.2.1.1
    obtain ⟨_, mm_a⟩ := hWa.2.2.2.2.2.2.2.2.2.2.2.2.2.2.2.1.1
    have m_a : ha.2.2 (b + 154) = .inr (4, _) := cel_0 mm_a
    have g_a : ha.2.2 (b + 159) = .inr (1, _) := cel_0 hWa.2.2.2.2.2.2.2.2.2.2.2.2.2.2.2.2.1.1
    simp only [s_146_0, s_146_1, s_146_4, s_146_7, s_146_8, s_146_9, s_146_12, s_146_14, s_146_15, s_146_16, s_146_19, s_146_20, s_146_23, s_146_24, s_146_25, s_146_28, s_146_29, s_146_32, s_146_33, s_146_34, s_146_37, s_146_38, s_146_41, s_146_42, x_get_i, List.getElem?_cons_succ, List.getElem?_cons_zero, x_cv_j, cs_n, cs_i, cs_r, cs_l, Nat.reduceAdd, Nat.reduceLeDiff, true_and, Option.toList_some, Option.toList_none, List.cons_append, List.nil_append, if_true, if_false, nb0, nb1, x_setJ, x_setZ0, x_setZ1, x_setA, x_setO, List.length_cons, List.length_nil, Nat.reduceLT, List.set_cons_succ, List.set_cons_zero, wrl_0, wrl_1, wrl_2, wrl_3, wrl_4, wrl_5, wrl_p0, wrl_p1, wrl_p2, wrl_p3, wrl_p4, o_a, a_a, c_a, n_a, p_a, q_a, m_a, g_a]
    refine cel_call (n := 5) cA' rfl (fun Q => mi_left _ _) (fun hb sB cB => ?_)
    have hWb := CW_m (mi' := (mc, Ms, Bs, Os)) hWa sB ⟨⟨_, cB⟩, w_m.2⟩
    have o_b := hWb.1
    have a_b : hb.2.2 (b + 1) = .inr (8, _) := hWb.2.1.1.1
    have c_b : hb.2.2 (b + 3) = .inr (5, _) := cel_0 hWb.2.2.1.1
    have n_b : hb.2.2 (b + 5) = .inr (9, _) := hWb.2.2.2.1.1.1
    have p_b : hb.2.2 (b + 33) = .inr (6, _) := hWb.2.2.2.2.2.2.2.1.1.1
    have q_b : hb.2.2 (b + 152) = .inr (2, _) := cel_0 hWb.2.2.2.2.2.2.2.2.2.2.2.2.2.2.1.1
    obtain ⟨_, mm_b⟩ := hWb.2.2.2.2.2.2.2.2.2.2.2.2.2.2.2.1.1
    have m_b : hb.2.2 (b + 154) = .inr (4, _) := cel_0 mm_b
    have g_b : hb.2.2 (b + 159) = .inr (1, _) := cel_0 hWb.2.2.2.2.2.2.2.2.2.2.2.2.2.2.2.2.1.1
    simp only [s_146_0, s_146_1, s_146_4, s_146_7, s_146_8, s_146_9, s_146_12, s_146_14, s_146_15, s_146_16, s_146_19, s_146_20, s_146_23, s_146_24, s_146_25, s_146_28, s_146_29, s_146_32, s_146_33, s_146_34, s_146_37, s_146_38, s_146_41, s_146_42, x_get_i, List.getElem?_cons_succ, List.getElem?_cons_zero, x_cv_j, cs_n, cs_i, cs_r, cs_l, Nat.reduceAdd, Nat.reduceLeDiff, true_and, Option.toList_some, Option.toList_none, List.cons_append, List.nil_append, if_true, if_false, nb0, nb1, x_setJ, x_setZ0, x_setZ1, x_setA, x_setO, List.length_cons, List.length_nil, Nat.reduceLT, List.set_cons_succ, List.set_cons_zero, wrl_0, wrl_1, wrl_2, wrl_3, wrl_4, wrl_5, wrl_p0, wrl_p1, wrl_p2, wrl_p3, wrl_p4, o_b, a_b, c_b, n_b, p_b, q_b, m_b, g_b]
    refine c_tell1 hWb _ (fun hd sD hWd => ?_)
    simp only [s_146_0, s_146_1, s_146_4, s_146_7, s_146_8, s_146_9, s_146_12, s_146_14, s_146_15, s_146_16, s_146_19, s_146_20, s_146_23, s_146_24, s_146_25, s_146_28, s_146_29, s_146_32, s_146_33, s_146_34, s_146_37, s_146_38, s_146_41, s_146_42, x_get_i, List.getElem?_cons_succ, List.getElem?_cons_zero, x_cv_j, cs_n, cs_i, cs_r, cs_l, Nat.reduceAdd, Nat.reduceLeDiff, true_and, Option.toList_some, Option.toList_none, List.cons_append, List.nil_append, if_true, if_false, nb0, nb1, x_setJ, x_setZ0, x_setZ1, x_setA, x_setO, List.length_cons, List.length_nil, Nat.reduceLT, List.set_cons_succ, List.set_cons_zero, wrl_0, wrl_1, wrl_2, wrl_3, wrl_4, wrl_5, wrl_p0, wrl_p1, wrl_p2, wrl_p3, wrl_p4]
    exact h2 k1 hd ((sA.mono (by omega) (by omega)).trans ((sB.mono (by omega) (by omega)).trans (sD.mono (by omega) (by omega)))) hWd
/-- what count() tells -/
def cnt (c rc : Nat) (X : TN) (pz hc mc : Nat) (w : Int32) : Int32 := if w = 0 then nI X.2.2.2.2.1 else if w = 1 then X.2.2.2.2.2.2 else if w = 2 then X.2.2.2.2.2.1 else if w = 3 then tc_sum X.2.1 X.2.2.2.2.1 else if w = 4 then 200 + tc_mo X.2.2.1 (tc_allv (nI X.2.2.2.2.1)) X.2.2.2.2.1 else if w = 5 then tc_home X.1 X.2.2.2.1 X.2.2.2.2.1 else if w = 6 then nI hc else if w = 7 then nI mc else if w = 8 then nI pz else if w = 9 then nI rc else if w = 10 then nI c else -1
theorem c_count (hW : CW sa h b (c, F) (rc, R) (L, W, M, B, n, s, g) pa ru (hc, H) (mc, Ms, Bs, Os) ga) (w : Int32) : tm_D (g_G sa sc xt) (d + 2) 154 [.ref b, .int w] h Q ↔ Q (some (.int (cnt c rc (L, W, M, B, n, s, g) pa.1 hc mc w))) h := by
  obtain ⟨w_o, w_t, w_r, w_n, w_h, w_l, w_b, w_p, w_u, w_v, w_a, w_e, w_w, w_x, w_q, w_m, w_g, w_d, w_s⟩ := id hW
  have o_0 := hW.1
  have a_0 : h.2.2 (b + 1) = .inr (8, _) := hW.2.1.1.1
  have c_0 : h.2.2 (b + 3) = .inr (5, _) := cel_0 hW.2.2.1.1
  have n_0 : h.2.2 (b + 5) = .inr (9, _) := hW.2.2.2.1.1.1
  have p_0 : h.2.2 (b + 33) = .inr (6, _) := hW.2.2.2.2.2.2.2.1.1.1
  have q_0 : h.2.2 (b + 152) = .inr (2, _) := cel_0 hW.2.2.2.2.2.2.2.2.2.2.2.2.2.2.1.1
  obtain ⟨_, mm_0⟩ := hW.2.2.2.2.2.2.2.2.2.2.2.2.2.2.2.1.1
  have m_0 : h.2.2 (b + 154) = .inr (4, _) := cel_0 mm_0
  have g_0 : h.2.2 (b + 159) = .inr (1, _) := cel_0 hW.2.2.2.2.2.2.2.2.2.2.2.2.2.2.2.2.1.1
  have hT : tc_at h (b + 5) L W M B (nI n) s g := w_n.1
  have hn : n ≤ 12 := w_n.2.1
  obtain ⟨A, cA⟩ := w_m.1
  have a1 : ∀ {d : Nat} {Q}, tm_D (g_G sa sc xt) d 11 [.ref (b + 152)] h Q ↔ Q (some (.int (nI hc))) h := fun {d Q} => cel_ro w_q.1 (fun Q => he_size)
  have a2 : ∀ {d : Nat} {Q}, tm_D (g_G sa sc xt) d 25 [.ref (b + 154)] h Q ↔ Q (some (.int (nI mc))) h := fun {d Q} => cel_ro cA (fun Q => mi_size)
  have a3 : ∀ {d : Nat} {Q}, tm_D (g_G sa sc xt) d 41 [.ref (b + 3)] h Q ↔ Q (some (.int (nI rc))) h := fun {d Q} => cel_ro w_r.1 (fun Q => nu_size)
  have n_1 : h.2.2 (b + 5) = .inr (9, [.ref (b + 5 + 1), .ref (b + 5 + 2), .ref (b + 5 + 3), .ref (b + 5 + 4), .int (nI n), .int s, .int g, .ref (b + 5 + 5), .ref (b + 5 + 6)]) := hT.1
  rw [e_154]
  unfold cnt
  simp only [s_154_0, s_154_1, s_154_60, s_154_61, s_154_64, s_154_67, s_154_68, s_154_69, s_154_72, s_154_75, s_154_76, s_154_77, s_154_80, s_154_83, s_154_84, s_154_85, s_154_88, s_154_91, s_154_92, s_154_95, s_154_96, s_154_99, s_154_102, s_154_103, s_154_104, s_154_105, s_154_108, s_154_111, s_154_112, s_154_113, s_154_116, s_154_119, s_154_120, s_154_121, s_154_124, s_154_127, s_154_128, s_154_129, s_154_132, s_154_135, s_154_136, s_154_137, s_154_140, s_154_143, s_154_144, s_154_145, s_154_148, s_154_151, s_154_152, s_154_153, x_get_i, List.getElem?_cons_succ, List.getElem?_cons_zero, x_cv_j, cs_n, cs_i, cs_r, cs_l, Nat.reduceAdd, Nat.reduceLeDiff, true_and, Option.toList_some, Option.toList_none, List.cons_append, List.nil_append, if_true, if_false, nb0, nb1, x_setJ, x_setZ0, x_setZ1, x_setA, x_setO, List.length_cons, List.length_nil, Nat.reduceLT, List.set_cons_succ, List.set_cons_zero, wrl_0, wrl_1, wrl_2, wrl_3, wrl_4, wrl_5, wrl_p0, wrl_p1, wrl_p2, wrl_p3, wrl_p4, o_0, a_0, c_0, n_1, p_0, q_0, m_0, q_ite (Q := Q), tc_wearOfAll hT hn, tc_moodsOfAll hT hn, tc_atHome hT hn, pa_size w_p.1, tx_size' w_t.1, a1, a2, a3]
end
