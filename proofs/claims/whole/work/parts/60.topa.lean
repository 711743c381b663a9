/-! calls of the class: rubs, round -/
section
variable {sa : g_SA} {sc : Nat × Nat × (Nat → Int32)} {xt : Nat → Nat → List Value → tm_H → Option (Option Value × tm_H)} {d b : Nat} {h : tm_H} {Q : Option Value → tm_H → Prop}
variable {tx : Nat × (Nat → Int32)} {rw : Nat × (Nat → Int64)} {nw : TN} {pa : Nat × Nat × (Nat → TN) × (Nat → TN) × (Nat → Int32)} {ru : Nat × Nat × List Int32} {he : Nat × (Nat → Int32)} {mi : Nat × (Nat → Int32) × (Nat → Int32) × (Nat → Int32)} {ga : Nat}
variable {c n m : Nat} {F L W M B H Ms Bs Os : Nat → Int32} {s g : Int32} {rc hc mc : Nat} {R : Nat → Int64}
theorem c_rubs (hW : CW sa h b tx (rc, R) (L, W, M, B, n, s, g) pa ru he mi ga) (hQ : ∀ h', sm b (b + 162) h h' → CW sa h' b tx (rbo M B n n 0 (-1, rc, R)).2 (L, W, M, B, n, s, g) pa ru he mi ga → Q (some (.int (if (rbo M B n n 0 (-1, rc, R)).1 = -1 then -2 else (rbo M B n n 0 (-1, rc, R)).1))) h') : tm_D (g_G sa sc xt) (d + 4) 137 [.ref b] h Q := by
  obtain ⟨w_o, w_t, w_r, w_n, w_h, w_l, w_b, w_p, w_u, w_v, w_a, w_e, w_w, w_x, w_q, w_m, w_g, w_d, w_s⟩ := id hW
  have hn : n ≤ 12 := w_n.2.1
  have ei : ∀ x : Int32, (if 0 ≤ x then x else 0 - x) = iabs x := fun x => rfl
  have outer : ∀ (j p : Nat) (a : Int32 × Nat × (Nat → Int64)) (x3 x4 : Value) (hz : tm_H), p + j = n → sm b (b + 162) h hz → CW sa hz b tx a.2 (L, W, M, B, n, s, g) pa ru he mi ga → rbo M B n j p a = rbo M B n n 0 (-1, rc, R) → tm_X (g_G sa sc xt) (d + 4) 137 4 [.ref b, .int a.1, .int (nI p), x3, x4] [] hz Q := by
    intro j
    induction j with
    | zero =>
      intro p a x3 x4 hz hp sz hWz er
      have hT : tc_at hz (b + 5) L W M B (nI n) s g := hWz.2.2.2.1.1
      have o_z := hWz.1
      have t0 := hT.1
      have er : a = rbo M B n n 0 (-1, rc, R) := er
      have hp : p = n := by omega
      subst hp
      rw [s_137_4]
      simp only [s_137_0, s_137_1, s_137_2, s_137_3, s_137_5, s_137_6, s_137_9, s_137_12, s_137_15, s_137_16, s_137_17, s_137_18, s_137_20, s_137_21, s_137_24, s_137_27, s_137_30, s_137_31, s_137_34, s_137_37, s_137_38, s_137_39, s_137_40, s_137_43, s_137_46, s_137_47, s_137_48, s_137_49, s_137_52, s_137_54, s_137_55, s_137_58, s_137_61, s_137_62, s_137_63, s_137_64, s_137_67, s_137_70, s_137_71, s_137_72, s_137_75, s_137_77, s_137_78, s_137_81, s_137_83, s_137_84, s_137_85, s_137_88, s_137_89, s_137_90, s_137_91, s_137_92, s_137_95, s_137_98, s_137_101, s_137_104, s_137_107, s_137_108, s_137_109, s_137_112, s_137_114, s_137_117, s_137_118, x_get_i, List.getElem?_cons_succ, List.getElem?_cons_zero, x_cv_j, cs_n, cs_i, cs_r, cs_l, Nat.reduceAdd, Nat.reduceLeDiff, true_and, Option.toList_some, Option.toList_none, List.cons_append, List.nil_append, if_true, if_false, nb0, nb1, x_setJ, x_setZ0, x_setZ1, x_setA, x_setO, List.length_cons, List.length_nil, Nat.reduceLT, List.set_cons_succ, List.set_cons_zero, wrl_0, wrl_1, wrl_2, wrl_3, wrl_4, wrl_5, wrl_p0, wrl_p1, wrl_p2, wrl_p3, wrl_p4, o_z, t0, Int32.le_refl]
      have := hQ hz sz
      rw [← er] at this
      have := this hWz
      by_cases k : a.1 = -1
      · simp only [k, if_true] at this ⊢
        exact this
      · simp only [k, if_false] at this ⊢
        exact this
    | succ j ih =>
      intro p a x3 x4 hz hp sz hWz er
      have hT : tc_at hz (b + 5) L W M B (nI n) s g := hWz.2.2.2.1.1
      have o_z := hWz.1
      have t0 := hT.1
      have inner : ∀ (r q : Nat) (a : Int32 × Nat × (Nat → Int64)) (x4 : Value) (hz : tm_H), q + r = n → p < q → sm b (b + 162) h hz → CW sa hz b tx a.2 (L, W, M, B, n, s, g) pa ru he mi ga → rbo M B n j (p + 1) (rbi M B p r q a) = rbo M B n n 0 (-1, rc, R) → tm_X (g_G sa sc xt) (d + 4) 137 19 [.ref b, .int a.1, .int (nI p), .int (nI q), x4] [] hz Q := by
        intro r
        induction r with
        | zero =>
          intro q a x4 hz hq hpq sz hWz er
          have hT : tc_at hz (b + 5) L W M B (nI n) s g := hWz.2.2.2.1.1
          have o_z := hWz.1
          have t0 := hT.1
          have hq : q = n := by omega
          subst hq
          rw [s_137_19]
          simp only [s_137_0, s_137_1, s_137_2, s_137_3, s_137_5, s_137_6, s_137_9, s_137_12, s_137_15, s_137_16, s_137_17, s_137_18, s_137_20, s_137_21, s_137_24, s_137_27, s_137_30, s_137_31, s_137_34, s_137_37, s_137_38, s_137_39, s_137_40, s_137_43, s_137_46, s_137_47, s_137_48, s_137_49, s_137_52, s_137_54, s_137_55, s_137_58, s_137_61, s_137_62, s_137_63, s_137_64, s_137_67, s_137_70, s_137_71, s_137_72, s_137_75, s_137_77, s_137_78, s_137_81, s_137_83, s_137_84, s_137_85, s_137_88, s_137_89, s_137_90, s_137_91, s_137_92, s_137_95, s_137_98, s_137_101, s_137_104, s_137_107, s_137_108, s_137_109, s_137_112, s_137_114, s_137_117, s_137_118, x_get_i, List.getElem?_cons_succ, List.getElem?_cons_zero, x_cv_j, cs_n, cs_i, cs_r, cs_l, Nat.reduceAdd, Nat.reduceLeDiff, true_and, Option.toList_some, Option.toList_none, List.cons_append, List.nil_append, if_true, if_false, nb0, nb1, x_setJ, x_setZ0, x_setZ1, x_setA, x_setO, List.length_cons, List.length_nil, Nat.reduceLT, List.set_cons_succ, List.set_cons_zero, wrl_0, wrl_1, wrl_2, wrl_3, wrl_4, wrl_5, wrl_p0, wrl_p1, wrl_p2, wrl_p3, wrl_p4, o_z, t0, Int32.le_refl, nI_1]
          exact ih (p + 1) a _ _ hz (by omega) sz hWz er
        | succ r ihr =>
          intro q a x4 hz hq hpq sz hWz er
          have hT : tc_at hz (b + 5) L W M B (nI n) s g := hWz.2.2.2.1.1
          have o_z := hWz.1
          have a_z : hz.2.2 (b + 1) = .inr (8, _) := hWz.2.1.1.1
          have c_z : hz.2.2 (b + 3) = .inr (5, _) := cel_0 hWz.2.2.1.1
          have n_z : hz.2.2 (b + 5) = .inr (9, _) := hWz.2.2.2.1.1.1
          have p_z : hz.2.2 (b + 33) = .inr (6, _) := hWz.2.2.2.2.2.2.2.1.1.1
          have q_z : hz.2.2 (b + 152) = .inr (2, _) := cel_0 hWz.2.2.2.2.2.2.2.2.2.2.2.2.2.2.1.1
          obtain ⟨_, mm_z⟩ := hWz.2.2.2.2.2.2.2.2.2.2.2.2.2.2.2.1.1
          have m_z : hz.2.2 (b + 154) = .inr (4, _) := cel_0 mm_z
          have g_z : hz.2.2 (b + 159) = .inr (1, _) := cel_0 hWz.2.2.2.2.2.2.2.2.2.2.2.2.2.2.2.2.1.1
          obtain ⟨t0, t1, t2, t3, t4, -, -⟩ := id hT
          have er : rbo M B n j (p + 1) (rbi M B p r (q + 1) (if B p = B q then (if iabs (M p - M q) ≤ a.1 then a else (iabs (M p - M q), rw2 a.2.2 (nI p).toInt64 (nI q).toInt64)) else a)) = rbo M B n n 0 (-1, rc, R) := er
          rw [s_137_19]
          simp only [s_137_0, s_137_1, s_137_2, s_137_3, s_137_5, s_137_6, s_137_9, s_137_12, s_137_15, s_137_16, s_137_17, s_137_18, s_137_20, s_137_21, s_137_24, s_137_27, s_137_30, s_137_31, s_137_34, s_137_37, s_137_38, s_137_39, s_137_40, s_137_43, s_137_46, s_137_47, s_137_48, s_137_49, s_137_52, s_137_54, s_137_55, s_137_58, s_137_61, s_137_62, s_137_63, s_137_64, s_137_67, s_137_70, s_137_71, s_137_72, s_137_75, s_137_77, s_137_78, s_137_81, s_137_83, s_137_84, s_137_85, s_137_88, s_137_89, s_137_90, s_137_91, s_137_92, s_137_95, s_137_98, s_137_101, s_137_104, s_137_107, s_137_108, s_137_109, s_137_112, s_137_114, s_137_117, s_137_118, x_get_i, List.getElem?_cons_succ, List.getElem?_cons_zero, x_cv_j, cs_n, cs_i, cs_r, cs_l, Nat.reduceAdd, Nat.reduceLeDiff, true_and, Option.toList_some, Option.toList_none, List.cons_append, List.nil_append, if_true, if_false, nb0, nb1, x_setJ, x_setZ0, x_setZ1, x_setA, x_setO, List.length_cons, List.length_nil, Nat.reduceLT, List.set_cons_succ, List.set_cons_zero, wrl_0, wrl_1, wrl_2, wrl_3, wrl_4, wrl_5, wrl_p0, wrl_p1, wrl_p2, wrl_p3, wrl_p4, o_z, t0, t3, t4, show ¬ nI n ≤ nI q from nI_ge (by omega) (by omega), x_ild_n (show p < 12 by omega) n12, x_ild_n (show q < 12 by omega) n12, ei, nI_1]
          by_cases k1 : B p = B q
          · by_cases k2 : iabs (M p - M q) ≤ a.1
            · simp only [k1, k2, if_true] at er ⊢
              exact ihr (q + 1) a _ hz (by omega) (by omega) sz hWz er
            · simp only [k1, k2, if_true, if_false] at er ⊢
              simp only [s_137_0, s_137_1, s_137_2, s_137_3, s_137_5, s_137_6, s_137_9, s_137_12, s_137_15, s_137_16, s_137_17, s_137_18, s_137_20, s_137_21, s_137_24, s_137_27, s_137_30, s_137_31, s_137_34, s_137_37, s_137_38, s_137_39, s_137_40, s_137_43, s_137_46, s_137_47, s_137_48, s_137_49, s_137_52, s_137_54, s_137_55, s_137_58, s_137_61, s_137_62, s_137_63, s_137_64, s_137_67, s_137_70, s_137_71, s_137_72, s_137_75, s_137_77, s_137_78, s_137_81, s_137_83, s_137_84, s_137_85, s_137_88, s_137_89, s_137_90, s_137_91, s_137_92, s_137_95, s_137_98, s_137_101, s_137_104, s_137_107, s_137_108, s_137_109, s_137_112, s_137_114, s_137_117, s_137_118, x_get_i, List.getElem?_cons_succ, List.getElem?_cons_zero, x_cv_j, cs_n, cs_i, cs_r, cs_l, Nat.reduceAdd, Nat.reduceLeDiff, true_and, Option.toList_some, Option.toList_none, List.cons_append, List.nil_append, if_true, if_false, nb0, nb1, x_setJ, x_setZ0, x_setZ1, x_setA, x_setO, List.length_cons, List.length_nil, Nat.reduceLT, List.set_cons_succ, List.set_cons_zero, wrl_0, wrl_1, wrl_2, wrl_3, wrl_4, wrl_5, wrl_p0, wrl_p1, wrl_p2, wrl_p3, wrl_p4, o_z, c_z]
              have hWz' : CW sa hz b tx (a.2.1, a.2.2) (L, W, M, B, n, s, g) pa ru he mi ga := hWz
              refine c_tell2 hWz' _ _ (fun hy sy hWy => ?_)
              simp only [s_137_0, s_137_1, s_137_2, s_137_3, s_137_5, s_137_6, s_137_9, s_137_12, s_137_15, s_137_16, s_137_17, s_137_18, s_137_20, s_137_21, s_137_24, s_137_27, s_137_30, s_137_31, s_137_34, s_137_37, s_137_38, s_137_39, s_137_40, s_137_43, s_137_46, s_137_47, s_137_48, s_137_49, s_137_52, s_137_54, s_137_55, s_137_58, s_137_61, s_137_62, s_137_63, s_137_64, s_137_67, s_137_70, s_137_71, s_137_72, s_137_75, s_137_77, s_137_78, s_137_81, s_137_83, s_137_84, s_137_85, s_137_88, s_137_89, s_137_90, s_137_91, s_137_92, s_137_95, s_137_98, s_137_101, s_137_104, s_137_107, s_137_108, s_137_109, s_137_112, s_137_114, s_137_117, s_137_118, x_get_i, List.getElem?_cons_succ, List.getElem?_cons_zero, x_cv_j, cs_n, cs_i, cs_r, cs_l, Nat.reduceAdd, Nat.reduceLeDiff, true_and, Option.toList_some, Option.toList_none, List.cons_append, List.nil_append, if_true, if_false, nb0, nb1, x_setJ, x_setZ0, x_setZ1, x_setA, x_setO, List.length_cons, List.length_nil, Nat.reduceLT, List.set_cons_succ, List.set_cons_zero, wrl_0, wrl_1, wrl_2, wrl_3, wrl_4, wrl_5, wrl_p0, wrl_p1, wrl_p2, wrl_p3, wrl_p4, nI_1]
              exact ihr (q + 1) (iabs (M p - M q), rw2 a.2.2 (nI p).toInt64 (nI q).toInt64) _ hy (by omega) (by omega) (sz.trans (sy.mono (by omega) (by omega))) hWy er
          · simp only [k1, if_false] at er ⊢
            exact ihr (q + 1) a _ hz (by omega) (by omega) sz hWz er
      rw [s_137_4]
      simp only [s_137_0, s_137_1, s_137_2, s_137_3, s_137_5, s_137_6, s_137_9, s_137_12, s_137_15, s_137_16, s_137_17, s_137_18, s_137_20, s_137_21, s_137_24, s_137_27, s_137_30, s_137_31, s_137_34, s_137_37, s_137_38, s_137_39, s_137_40, s_137_43, s_137_46, s_137_47, s_137_48, s_137_49, s_137_52, s_137_54, s_137_55, s_137_58, s_137_61, s_137_62, s_137_63, s_137_64, s_137_67, s_137_70, s_137_71, s_137_72, s_137_75, s_137_77, s_137_78, s_137_81, s_137_83, s_137_84, s_137_85, s_137_88, s_137_89, s_137_90, s_137_91, s_137_92, s_137_95, s_137_98, s_137_101, s_137_104, s_137_107, s_137_108, s_137_109, s_137_112, s_137_114, s_137_117, s_137_118, x_get_i, List.getElem?_cons_succ, List.getElem?_cons_zero, x_cv_j, cs_n, cs_i, cs_r, cs_l, Nat.reduceAdd, Nat.reduceLeDiff, true_and, Option.toList_some, Option.toList_none, List.cons_append, List.nil_append, if_true, if_false, nb0, nb1, x_setJ, x_setZ0, x_setZ1, x_setA, x_setO, List.length_cons, List.length_nil, Nat.reduceLT, List.set_cons_succ, List.set_cons_zero, wrl_0, wrl_1, wrl_2, wrl_3, wrl_4, wrl_5, wrl_p0, wrl_p1, wrl_p2, wrl_p3, wrl_p4, o_z, t0, show ¬ nI n ≤ nI p from nI_ge (by omega) (by omega), nI_1]
      exact inner (n - (p + 1)) (p + 1) a x4 hz (by omega) (by omega) sz hWz er
  rw [e_137]
  simp only [s_137_0, s_137_1, s_137_2, s_137_3, s_137_5, s_137_6, s_137_9, s_137_12, s_137_15, s_137_16, s_137_17, s_137_18, s_137_20, s_137_21, s_137_24, s_137_27, s_137_30, s_137_31, s_137_34, s_137_37, s_137_38, s_137_39, s_137_40, s_137_43, s_137_46, s_137_47, s_137_48, s_137_49, s_137_52, s_137_54, s_137_55, s_137_58, s_137_61, s_137_62, s_137_63, s_137_64, s_137_67, s_137_70, s_137_71, s_137_72, s_137_75, s_137_77, s_137_78, s_137_81, s_137_83, s_137_84, s_137_85, s_137_88, s_137_89, s_137_90, s_137_91, s_137_92, s_137_95, s_137_98, s_137_101, s_137_104, s_137_107, s_137_108, s_137_109, s_137_112, s_137_114, s_137_117, s_137_118]
  exact outer n 0 (-1, rc, R) _ _ h (by omega) sm.rfl hW rfl
/-- moods behind i nights, in one number -/
def pkn (cd : List Int32) (X : TN) (i : Nat) : Int64 := tc_pk (nXT cd (tc_allv (nI X.2.2.2.2.1)) i X).2.2.1 X.2.2.2.2.1
theorem updL_s {f : Nat → Int64} {i : Nat} {v : Int64} : vp_updL f i v i = v := if_pos rfl
theorem updL_n {f : Nat → Int64} {i j : Nat} {v : Int64} (h : j ≠ i) : vp_updL f i v j = f j := if_neg h
set_option maxHeartbeats 1000000 in
theorem c_round (hW : CW sa h b tx (rc, R) nw pa ru he mi ga) (h1 : rnd (pkn ru.2.2 nw) (if nw.2.2.2.2.2.1 = 0 then 0 else 1) 99 1 = none → ∀ h', sm b (b + 162) h h' → CW sa h' b tx (rc, R) nw pa ru he mi ga → Q (some (.int (-2))) h') (h2 : ∀ i f h', rnd (pkn ru.2.2 nw) (if nw.2.2.2.2.2.1 = 0 then 0 else 1) 99 1 = some (i, f) → sm b (b + 162) h h' → CW sa h' b tx (rw1 R (nI f).toInt64) nw pa ru he mi ga → Q (some (.int (nI i))) h') : tm_D (g_G sa sc xt) (d + 4) 132 [.ref b] h Q := by
  obtain ⟨w_o, w_t, w_r, w_n, w_h, w_l, w_b, w_p, w_u, w_v, w_a, w_e, w_w, w_x, w_q, w_m, w_g, w_d, w_s⟩ := id hW
  have o_0 := hW.1
  have a_0 : h.2.2 (b + 1) = .inr (8, _) := hW.2.1.1.1
  have c_0 : h.2.2 (b + 3) = .inr (5, _) := cel_0 hW.2.2.1.1
  have n_0 : h.2.2 (b + 5) = .inr (9, _) := hW.2.2.2.1.1.1
  have p_0 : h.2.2 (b + 33) = .inr (6, _) := hW.2.2.2.2.2.2.2.1.1.1
  have q_0 : h.2.2 (b + 152) = .inr (2, _) := cel_0 hW.2.2.2.2.2.2.2.2.2.2.2.2.2.2.1.1
  obtain ⟨_, mm_0⟩ := hW.2.2.2.2.2.2.2.2.2.2.2.2.2.2.2.1.1
  have m_0 : h.2.2 (b + 154) = .inr (4, _) := cel_0 mm_0
  have g_0 : h.2.2 (b + 159) = .inr (1, _) := cel_0 hW.2.2.2.2.2.2.2.2.2.2.2.2.2.2.2.2.1.1
  have hT : tc_at h (b + 5) nw.1 nw.2.1 nw.2.2.1 nw.2.2.2.1 (nI nw.2.2.2.2.1) nw.2.2.2.2.2.1 nw.2.2.2.2.2.2 := w_n.1
  have hn : nw.2.2.2.2.1 ≤ 12 := w_n.2.1
  obtain ⟨Th, hTh⟩ := w_h
  have x0 : h.2.2 (b + 12) = .inr (9, _) := hTh.1
  rw [e_132]
  simp only [s_132_0, s_132_1, s_132_4, s_132_5, s_132_8, s_132_11, s_132_12, s_132_15, s_132_16, s_132_17, s_132_20, s_132_23, s_132_24, s_132_25, s_132_28, s_132_31, s_132_34, s_132_35, s_132_38, s_132_39, s_132_40, s_132_41, s_132_43, s_132_45, s_132_48, s_132_49, s_132_52, s_132_53, s_132_56, s_132_57, s_132_60, s_132_63, s_132_66, s_132_67, s_132_68, s_132_71, s_132_72, s_132_73, s_132_76, s_132_79, s_132_80, s_132_81, s_132_83, s_132_84, s_132_86, s_132_87, s_132_90, s_132_91, s_132_94, s_132_95, s_132_96, s_132_97, s_132_100, s_132_101, s_132_102, s_132_103, s_132_106, s_132_107, s_132_110, s_132_111, s_132_112, s_132_115, s_132_116, s_132_117, s_132_120, s_132_123, s_132_126, s_132_129, s_132_131, x_get_i, List.getElem?_cons_succ, List.getElem?_cons_zero, x_cv_j, cs_n, cs_i, cs_r, cs_l, Nat.reduceAdd, Nat.reduceLeDiff, true_and, Option.toList_some, Option.toList_none, List.cons_append, List.nil_append, if_true, if_false, nb0, nb1, x_setJ, x_setZ0, x_setZ1, x_setA, x_setO, List.length_cons, List.length_nil, Nat.reduceLT, List.set_cons_succ, List.set_cons_zero, wrl_0, wrl_1, wrl_2, wrl_3, wrl_4, wrl_5, wrl_p0, wrl_p1, wrl_p2, wrl_p3, wrl_p4, o_0, a_0, c_0, n_0, p_0, q_0, m_0, g_0, x0]
  refine c_copyH hW (fun ha sA hWa tA => ?_)
  obtain ⟨f0, e0⟩ := hWa.2.2.2.2.2.2.2.2.2.2.2.2.2.2.2.2.2.1
  have hTa : tc_at ha (b + 12) nw.1 nw.2.1 nw.2.2.1 nw.2.2.2.1 (nI nw.2.2.2.2.1) nw.2.2.2.2.2.1 nw.2.2.2.2.2.2 := tA
  have x1 := hTa.1
  have o_a := hWa.1
  have s1 : sm (b + 161) (b + 162) ha (tm_put ha (b + 161) (.inl (3, 100, .inr (.inl (vp_updL f0 0 (pkn ru.2.2 nw 0)))))) := sm_put (Nat.le_refl _) (by omega)
  have hWb := CW_d hWa s1 ⟨_, pa_s⟩
  have tB := tca_sm s1 (by omega) tA
  have hNb : tc_at (tm_put ha (b + 161) (.inl (3, 100, .inr (.inl (vp_updL f0 0 (pkn ru.2.2 nw 0)))))) (b + 5) nw.1 nw.2.1 nw.2.2.1 nw.2.2.2.1 (nI nw.2.2.2.2.1) nw.2.2.2.2.2.1 nw.2.2.2.2.2.2 := hWb.2.2.2.1.1
  have o_b := hWb.1
  have u0 := hNb.1
  have ep : tc_pk nw.2.2.1 nw.2.2.2.2.1 = pkn ru.2.2 nw 0 := rfl
  have z0 : ∀ {x : Int64} {φ : tm_E → Prop}, x_lst (.inl (3, 100, .inr (.inl f0))) 0 x φ ↔ φ (.inl (3, 100, .inr (.inl (vp_updL f0 0 x)))) := fun {x φ} => x_lst_n (j := 0) (by decide) n100
  simp only [s_132_0, s_132_1, s_132_4, s_132_5, s_132_8, s_132_11, s_132_12, s_132_15, s_132_16, s_132_17, s_132_20, s_132_23, s_132_24, s_132_25, s_132_28, s_132_31, s_132_34, s_132_35, s_132_38, s_132_39, s_132_40, s_132_41, s_132_43, s_132_45, s_132_48, s_132_49, s_132_52, s_132_53, s_132_56, s_132_57, s_132_60, s_132_63, s_132_66, s_132_67, s_132_68, s_132_71, s_132_72, s_132_73, s_132_76, s_132_79, s_132_80, s_132_81, s_132_83, s_132_84, s_132_86, s_132_87, s_132_90, s_132_91, s_132_94, s_132_95, s_132_96, s_132_97, s_132_100, s_132_101, s_132_102, s_132_103, s_132_106, s_132_107, s_132_110, s_132_111, s_132_112, s_132_115, s_132_116, s_132_117, s_132_120, s_132_123, s_132_126, s_132_129, s_132_131, x_get_i, List.getElem?_cons_succ, List.getElem?_cons_zero, x_cv_j, cs_n, cs_i, cs_r, cs_l, Nat.reduceAdd, Nat.reduceLeDiff, true_and, Option.toList_some, Option.toList_none, List.cons_append, List.nil_append, if_true, if_false, nb0, nb1, x_setJ, x_setZ0, x_setZ1, x_setA, x_setO, List.length_cons, List.length_nil, Nat.reduceLT, List.set_cons_succ, List.set_cons_zero, wrl_0, wrl_1, wrl_2, wrl_3, wrl_4, wrl_5, wrl_p0, wrl_p1, wrl_p2, wrl_p3, wrl_p4, o_a, x1, e0, tc_packed hTa hn, z0, ep, o_b, u0]
  have sAB := (sA.mono (lo' := b) (hi' := b + 162) (by omega) (by omega)).trans (s1.mono (lo' := b) (hi' := b + 162) (by omega) (by omega))
  have key : ∀ (E : Nat), E ≤ 1 → E = (if nw.2.2.2.2.2.1 = 0 then 0 else 1) → ∀ (j i : Nat) (hz : tm_H) (f : Nat → Int64) (x3 : Value), i + j = 99 → sm b (b + 162) h hz → CW sa hz b tx (rc, R) nw pa ru he mi ga → tca hz (b + 12) (tcT (nXT ru.2.2 (tc_allv (nI nw.2.2.2.2.1)) i nw)) → hz.2.2 (b + 161) = .inl (3, 100, .inr (.inl f)) → (∀ k, k ≤ i → f k = pkn ru.2.2 nw k) → rnd (pkn ru.2.2 nw) E j (i + 1) = rnd (pkn ru.2.2 nw) E 99 1 → tm_X (g_G sa sc xt) (d + 4) 132 42 [.ref b, .int (nI E), .int (nI (i + 1)), x3] [] hz Q := by
    intro E hE eE j
    rw [← eE] at h1 h2
    induction j with
    | zero =>
      intro i hz f x3 hi sz hWz tz fz hf er
      have hi : i = 99 := by omega
      subst hi
      rw [s_132_42]
      simp only [s_132_0, s_132_1, s_132_4, s_132_5, s_132_8, s_132_11, s_132_12, s_132_15, s_132_16, s_132_17, s_132_20, s_132_23, s_132_24, s_132_25, s_132_28, s_132_31, s_132_34, s_132_35, s_132_38, s_132_39, s_132_40, s_132_41, s_132_43, s_132_45, s_132_48, s_132_49, s_132_52, s_132_53, s_132_56, s_132_57, s_132_60, s_132_63, s_132_66, s_132_67, s_132_68, s_132_71, s_132_72, s_132_73, s_132_76, s_132_79, s_132_80, s_132_81, s_132_83, s_132_84, s_132_86, s_132_87, s_132_90, s_132_91, s_132_94, s_132_95, s_132_96, s_132_97, s_132_100, s_132_101, s_132_102, s_132_103, s_132_106, s_132_107, s_132_110, s_132_111, s_132_112, s_132_115, s_132_116, s_132_117, s_132_120, s_132_123, s_132_126, s_132_129, s_132_131, x_get_i, List.getElem?_cons_succ, List.getElem?_cons_zero, x_cv_j, cs_n, cs_i, cs_r, cs_l, Nat.reduceAdd, Nat.reduceLeDiff, true_and, Option.toList_some, Option.toList_none, List.cons_append, List.nil_append, if_true, if_false, nb0, nb1, x_setJ, x_setZ0, x_setZ1, x_setA, x_setO, List.length_cons, List.length_nil, Nat.reduceLT, List.set_cons_succ, List.set_cons_zero, wrl_0, wrl_1, wrl_2, wrl_3, wrl_4, wrl_5, wrl_p0, wrl_p1, wrl_p2, wrl_p3, wrl_p4, show (99 : Int32) < nI (99 + 1) by decide]
      exact h1 er.symm hz sz hWz
    | succ j ih =>
      intro i hz f x3 hi sz hWz tz fz hf er
      have o_z := hWz.1
      have y0 : hz.2.2 (b + 12) = .inr (9, _) := tz.1
      have hTz : tc_at hz (b + 12) nw.1 nw.2.1 (nXT ru.2.2 (tc_allv (nI nw.2.2.2.2.1)) i nw).2.2.1 (nXT ru.2.2 (tc_allv (nI nw.2.2.2.2.1)) i nw).2.2.2.1 (nI nw.2.2.2.2.1) (nXT ru.2.2 (tc_allv (nI nw.2.2.2.2.1)) i nw).2.2.2.2.2.1 (nXT ru.2.2 (tc_allv (nI nw.2.2.2.2.1)) i nw).2.2.2.2.2.2 := tz
      rw [s_132_42]
      simp only [s_132_0, s_132_1, s_132_4, s_132_5, s_132_8, s_132_11, s_132_12, s_132_15, s_132_16, s_132_17, s_132_20, s_132_23, s_132_24, s_132_25, s_132_28, s_132_31, s_132_34, s_132_35, s_132_38, s_132_39, s_132_40, s_132_41, s_132_43, s_132_45, s_132_48, s_132_49, s_132_52, s_132_53, s_132_56, s_132_57, s_132_60, s_132_63, s_132_66, s_132_67, s_132_68, s_132_71, s_132_72, s_132_73, s_132_76, s_132_79, s_132_80, s_132_81, s_132_83, s_132_84, s_132_86, s_132_87, s_132_90, s_132_91, s_132_94, s_132_95, s_132_96, s_132_97, s_132_100, s_132_101, s_132_102, s_132_103, s_132_106, s_132_107, s_132_110, s_132_111, s_132_112, s_132_115, s_132_116, s_132_117, s_132_120, s_132_123, s_132_126, s_132_129, s_132_131, x_get_i, List.getElem?_cons_succ, List.getElem?_cons_zero, x_cv_j, cs_n, cs_i, cs_r, cs_l, Nat.reduceAdd, Nat.reduceLeDiff, true_and, Option.toList_some, Option.toList_none, List.cons_append, List.nil_append, if_true, if_false, nb0, nb1, x_setJ, x_setZ0, x_setZ1, x_setA, x_setO, List.length_cons, List.length_nil, Nat.reduceLT, List.set_cons_succ, List.set_cons_zero, wrl_0, wrl_1, wrl_2, wrl_3, wrl_4, wrl_5, wrl_p0, wrl_p1, wrl_p2, wrl_p3, wrl_p4, show ¬ (99 : Int32) < nI (i + 1) from nI_nlt (a := 99) (by omega) (by decide), o_z, y0, tc_all hTz]
      refine c_nightH hWz tz (WFT_nXT w_n.2) (fun hy sy hWy ty ey => ?_)
      rw [nXT_s] at ty
      have o_y := hWy.1
      have y1 : hy.2.2 (b + 12) = .inr (9, _) := ty.1
      have fy : hy.2.2 (b + 161) = .inl (3, 100, .inr (.inl f)) := (ey _ (Nat.le_refl _)).trans fz
      have hTy : tc_at hy (b + 12) nw.1 nw.2.1 (nXT ru.2.2 (tc_allv (nI nw.2.2.2.2.1)) (i + 1) nw).2.2.1 (nXT ru.2.2 (tc_allv (nI nw.2.2.2.2.1)) (i + 1) nw).2.2.2.1 (nI nw.2.2.2.2.1) (nXT ru.2.2 (tc_allv (nI nw.2.2.2.2.1)) (i + 1) nw).2.2.2.2.2.1 (nXT ru.2.2 (tc_allv (nI nw.2.2.2.2.1)) (i + 1) nw).2.2.2.2.2.2 := ty
      have ep : tc_pk (nXT ru.2.2 (tc_allv (nI nw.2.2.2.2.1)) (i + 1) nw).2.2.1 nw.2.2.2.2.1 = pkn ru.2.2 nw (i + 1) := rfl
      simp only [s_132_0, s_132_1, s_132_4, s_132_5, s_132_8, s_132_11, s_132_12, s_132_15, s_132_16, s_132_17, s_132_20, s_132_23, s_132_24, s_132_25, s_132_28, s_132_31, s_132_34, s_132_35, s_132_38, s_132_39, s_132_40, s_132_41, s_132_43, s_132_45, s_132_48, s_132_49, s_132_52, s_132_53, s_132_56, s_132_57, s_132_60, s_132_63, s_132_66, s_132_67, s_132_68, s_132_71, s_132_72, s_132_73, s_132_76, s_132_79, s_132_80, s_132_81, s_132_83, s_132_84, s_132_86, s_132_87, s_132_90, s_132_91, s_132_94, s_132_95, s_132_96, s_132_97, s_132_100, s_132_101, s_132_102, s_132_103, s_132_106, s_132_107, s_132_110, s_132_111, s_132_112, s_132_115, s_132_116, s_132_117, s_132_120, s_132_123, s_132_126, s_132_129, s_132_131, x_get_i, List.getElem?_cons_succ, List.getElem?_cons_zero, x_cv_j, cs_n, cs_i, cs_r, cs_l, Nat.reduceAdd, Nat.reduceLeDiff, true_and, Option.toList_some, Option.toList_none, List.cons_append, List.nil_append, if_true, if_false, nb0, nb1, x_setJ, x_setZ0, x_setZ1, x_setA, x_setO, List.length_cons, List.length_nil, Nat.reduceLT, List.set_cons_succ, List.set_cons_zero, wrl_0, wrl_1, wrl_2, wrl_3, wrl_4, wrl_5, wrl_p0, wrl_p1, wrl_p2, wrl_p3, wrl_p4, o_y, y1, fy, tc_packed hTy hn, ep, x_lst_n (show i + 1 < 100 by omega) n100]
      have s2 : sm (b + 161) (b + 162) hy (tm_put hy (b + 161) (.inl (3, 100, .inr (.inl (vp_updL f (i + 1) (pkn ru.2.2 nw (i + 1))))))) := sm_put (Nat.le_refl _) (by omega)
      have hWx := CW_d hWy s2 ⟨_, pa_s⟩
      have tx2 := tca_sm s2 (by omega) ty
      have fx : (tm_put hy (b + 161) (.inl (3, 100, .inr (.inl (vp_updL f (i + 1) (pkn ru.2.2 nw (i + 1))))))).2.2 (b + 161) = .inl (3, 100, .inr (.inl (vp_updL f (i + 1) (pkn ru.2.2 nw (i + 1))))) := pa_s
      have sx : sm b (b + 162) h (tm_put hy (b + 161) (.inl (3, 100, .inr (.inl (vp_updL f (i + 1) (pkn ru.2.2 nw (i + 1))))))) := sz.trans (sy.trans (s2.mono (by omega) (by omega)))
      have hf2 : ∀ k, k ≤ i + 1 → vp_updL f (i + 1) (pkn ru.2.2 nw (i + 1)) k = pkn ru.2.2 nw k := by
        intro k hk
        by_cases e : k = i + 1
        · rw [e, updL_s]
        · rw [updL_n e]
          exact hf k (by omega)
      generalize tm_put hy (b + 161) (.inl (3, 100, .inr (.inl (vp_updL f (i + 1) (pkn ru.2.2 nw (i + 1)))))) = hx at hWx tx2 fx sx
      generalize vp_updL f (i + 1) (pkn ru.2.2 nw (i + 1)) = f2 at fx hf2
      have o_x := hWx.1
      have er2 : (match rin (pkn ru.2.2 nw) E (i + 1) 16 1 with
        | some f => some (i + 1, f)
        | none => rnd (pkn ru.2.2 nw) E j (i + 1 + 1)) = rnd (pkn ru.2.2 nw) E 99 1 := er
      generalize hstart : rin (pkn ru.2.2 nw) E (i + 1) 16 1 = rr at er2
      have inner : ∀ (r k : Nat), 1 ≤ k → k + r = 17 → rin (pkn ru.2.2 nw) E (i + 1) r k = rr → tm_X (g_G sa sc xt) (d + 4) 132 85 [.ref b, .int (nI E), .int (nI (i + 1)), .int (nI (i + 1) - nI (7 * k))] [] hx Q := by
        intro r
        induction r with
        | zero =>
          intro k hk hk2 ei
          have c1 : nI (i + 1) - nI (7 * k) < nI E := by
            rw [Int32.lt_iff_toInt_lt, Int32.toInt_sub, nI_toInt (by omega), nI_toInt (by omega), nI_toInt (by omega), Int.bmod_eq_of_le (by omega) (by omega)]
            omega
          rw [s_132_85]
          simp only [s_132_0, s_132_1, s_132_4, s_132_5, s_132_8, s_132_11, s_132_12, s_132_15, s_132_16, s_132_17, s_132_20, s_132_23, s_132_24, s_132_25, s_132_28, s_132_31, s_132_34, s_132_35, s_132_38, s_132_39, s_132_40, s_132_41, s_132_43, s_132_45, s_132_48, s_132_49, s_132_52, s_132_53, s_132_56, s_132_57, s_132_60, s_132_63, s_132_66, s_132_67, s_132_68, s_132_71, s_132_72, s_132_73, s_132_76, s_132_79, s_132_80, s_132_81, s_132_83, s_132_84, s_132_86, s_132_87, s_132_90, s_132_91, s_132_94, s_132_95, s_132_96, s_132_97, s_132_100, s_132_101, s_132_102, s_132_103, s_132_106, s_132_107, s_132_110, s_132_111, s_132_112, s_132_115, s_132_116, s_132_117, s_132_120, s_132_123, s_132_126, s_132_129, s_132_131, x_get_i, List.getElem?_cons_succ, List.getElem?_cons_zero, x_cv_j, cs_n, cs_i, cs_r, cs_l, Nat.reduceAdd, Nat.reduceLeDiff, true_and, Option.toList_some, Option.toList_none, List.cons_append, List.nil_append, if_true, if_false, nb0, nb1, x_setJ, x_setZ0, x_setZ1, x_setA, x_setO, List.length_cons, List.length_nil, Nat.reduceLT, List.set_cons_succ, List.set_cons_zero, wrl_0, wrl_1, wrl_2, wrl_3, wrl_4, wrl_5, wrl_p0, wrl_p1, wrl_p2, wrl_p3, wrl_p4, c1, nI_1]
          have ei : rr = none := ei.symm
          rw [ei] at er2
          exact ih (i + 1) hx f2 _ (by omega) sx hWx tx2 fx hf2 er2
        | succ r ihr =>
          intro k hk hk2 ei
          unfold rin at ei
          by_cases k1 : i + 1 < 7 * k + E
          · rw [if_pos k1] at ei
            have c1 : nI (i + 1) - nI (7 * k) < nI E := by
              rw [Int32.lt_iff_toInt_lt, Int32.toInt_sub, nI_toInt (by omega), nI_toInt (by omega), nI_toInt (by omega), Int.bmod_eq_of_le (by omega) (by omega)]
              omega
            rw [s_132_85]
            simp only [s_132_0, s_132_1, s_132_4, s_132_5, s_132_8, s_132_11, s_132_12, s_132_15, s_132_16, s_132_17, s_132_20, s_132_23, s_132_24, s_132_25, s_132_28, s_132_31, s_132_34, s_132_35, s_132_38, s_132_39, s_132_40, s_132_41, s_132_43, s_132_45, s_132_48, s_132_49, s_132_52, s_132_53, s_132_56, s_132_57, s_132_60, s_132_63, s_132_66, s_132_67, s_132_68, s_132_71, s_132_72, s_132_73, s_132_76, s_132_79, s_132_80, s_132_81, s_132_83, s_132_84, s_132_86, s_132_87, s_132_90, s_132_91, s_132_94, s_132_95, s_132_96, s_132_97, s_132_100, s_132_101, s_132_102, s_132_103, s_132_106, s_132_107, s_132_110, s_132_111, s_132_112, s_132_115, s_132_116, s_132_117, s_132_120, s_132_123, s_132_126, s_132_129, s_132_131, x_get_i, List.getElem?_cons_succ, List.getElem?_cons_zero, x_cv_j, cs_n, cs_i, cs_r, cs_l, Nat.reduceAdd, Nat.reduceLeDiff, true_and, Option.toList_some, Option.toList_none, List.cons_append, List.nil_append, if_true, if_false, nb0, nb1, x_setJ, x_setZ0, x_setZ1, x_setA, x_setO, List.length_cons, List.length_nil, Nat.reduceLT, List.set_cons_succ, List.set_cons_zero, wrl_0, wrl_1, wrl_2, wrl_3, wrl_4, wrl_5, wrl_p0, wrl_p1, wrl_p2, wrl_p3, wrl_p4, c1, nI_1]
            have ei : rr = none := ei.symm
            rw [ei] at er2
            exact ih (i + 1) hx f2 _ (by omega) sx hWx tx2 fx hf2 er2
          · rw [if_neg k1] at ei
            have e7 : nI (i + 1) - nI (7 * k) = nI (i + 1 - 7 * k) := nI_s (by omega)
            have c1 : ¬ nI (i + 1 - 7 * k) < nI E := nI_nlt (by omega) (by omega)
            rw [s_132_85]
            simp only [s_132_0, s_132_1, s_132_4, s_132_5, s_132_8, s_132_11, s_132_12, s_132_15, s_132_16, s_132_17, s_132_20, s_132_23, s_132_24, s_132_25, s_132_28, s_132_31, s_132_34, s_132_35, s_132_38, s_132_39, s_132_40, s_132_41, s_132_43, s_132_45, s_132_48, s_132_49, s_132_52, s_132_53, s_132_56, s_132_57, s_132_60, s_132_63, s_132_66, s_132_67, s_132_68, s_132_71, s_132_72, s_132_73, s_132_76, s_132_79, s_132_80, s_132_81, s_132_83, s_132_84, s_132_86, s_132_87, s_132_90, s_132_91, s_132_94, s_132_95, s_132_96, s_132_97, s_132_100, s_132_101, s_132_102, s_132_103, s_132_106, s_132_107, s_132_110, s_132_111, s_132_112, s_132_115, s_132_116, s_132_117, s_132_120, s_132_123, s_132_126, s_132_129, s_132_131, x_get_i, List.getElem?_cons_succ, List.getElem?_cons_zero, x_cv_j, cs_n, cs_i, cs_r, cs_l, Nat.reduceAdd, Nat.reduceLeDiff, true_and, Option.toList_some, Option.toList_none, List.cons_append, List.nil_append, if_true, if_false, nb0, nb1, x_setJ, x_setZ0, x_setZ1, x_setA, x_setO, List.length_cons, List.length_nil, Nat.reduceLT, List.set_cons_succ, List.set_cons_zero, wrl_0, wrl_1, wrl_2, wrl_3, wrl_4, wrl_5, wrl_p0, wrl_p1, wrl_p2, wrl_p3, wrl_p4, e7, c1, o_x, fx, x_lld_n (show i + 1 - 7 * k < 100 by omega) n100, x_lld_n (show i + 1 < 100 by omega) n100, hf2 (i + 1 - 7 * k) (by omega), hf2 (i + 1) (by omega), lg_cmp0]
            by_cases k2 : pkn ru.2.2 nw (i + 1 - 7 * k) = pkn ru.2.2 nw (i + 1)
            · rw [if_pos k2] at ei
              rw [← ei] at er2
              simp only [k2, if_true]
              have c_x : hx.2.2 (b + 3) = .inr (5, _) := cel_0 hWx.2.2.1.1
              simp only [s_132_0, s_132_1, s_132_4, s_132_5, s_132_8, s_132_11, s_132_12, s_132_15, s_132_16, s_132_17, s_132_20, s_132_23, s_132_24, s_132_25, s_132_28, s_132_31, s_132_34, s_132_35, s_132_38, s_132_39, s_132_40, s_132_41, s_132_43, s_132_45, s_132_48, s_132_49, s_132_52, s_132_53, s_132_56, s_132_57, s_132_60, s_132_63, s_132_66, s_132_67, s_132_68, s_132_71, s_132_72, s_132_73, s_132_76, s_132_79, s_132_80, s_132_81, s_132_83, s_132_84, s_132_86, s_132_87, s_132_90, s_132_91, s_132_94, s_132_95, s_132_96, s_132_97, s_132_100, s_132_101, s_132_102, s_132_103, s_132_106, s_132_107, s_132_110, s_132_111, s_132_112, s_132_115, s_132_116, s_132_117, s_132_120, s_132_123, s_132_126, s_132_129, s_132_131, x_get_i, List.getElem?_cons_succ, List.getElem?_cons_zero, x_cv_j, cs_n, cs_i, cs_r, cs_l, Nat.reduceAdd, Nat.reduceLeDiff, true_and, Option.toList_some, Option.toList_none, List.cons_append, List.nil_append, if_true, if_false, nb0, nb1, x_setJ, x_setZ0, x_setZ1, x_setA, x_setO, List.length_cons, List.length_nil, Nat.reduceLT, List.set_cons_succ, List.set_cons_zero, wrl_0, wrl_1, wrl_2, wrl_3, wrl_4, wrl_5, wrl_p0, wrl_p1, wrl_p2, wrl_p3, wrl_p4, o_x, c_x]
              refine c_tell1 hWx _ (fun hw sw hWw => ?_)
              simp only [s_132_0, s_132_1, s_132_4, s_132_5, s_132_8, s_132_11, s_132_12, s_132_15, s_132_16, s_132_17, s_132_20, s_132_23, s_132_24, s_132_25, s_132_28, s_132_31, s_132_34, s_132_35, s_132_38, s_132_39, s_132_40, s_132_41, s_132_43, s_132_45, s_132_48, s_132_49, s_132_52, s_132_53, s_132_56, s_132_57, s_132_60, s_132_63, s_132_66, s_132_67, s_132_68, s_132_71, s_132_72, s_132_73, s_132_76, s_132_79, s_132_80, s_132_81, s_132_83, s_132_84, s_132_86, s_132_87, s_132_90, s_132_91, s_132_94, s_132_95, s_132_96, s_132_97, s_132_100, s_132_101, s_132_102, s_132_103, s_132_106, s_132_107, s_132_110, s_132_111, s_132_112, s_132_115, s_132_116, s_132_117, s_132_120, s_132_123, s_132_126, s_132_129, s_132_131, x_get_i, List.getElem?_cons_succ, List.getElem?_cons_zero, x_cv_j, cs_n, cs_i, cs_r, cs_l, Nat.reduceAdd, Nat.reduceLeDiff, true_and, Option.toList_some, Option.toList_none, List.cons_append, List.nil_append, if_true, if_false, nb0, nb1, x_setJ, x_setZ0, x_setZ1, x_setA, x_setO, List.length_cons, List.length_nil, Nat.reduceLT, List.set_cons_succ, List.set_cons_zero, wrl_0, wrl_1, wrl_2, wrl_3, wrl_4, wrl_5, wrl_p0, wrl_p1, wrl_p2, wrl_p3, wrl_p4]
              exact h2 (i + 1) (i + 1 - 7 * k) hw er2.symm (sx.trans (sw.mono (by omega) (by omega))) hWw
            · rw [if_neg k2] at ei
              simp only [k2, if_false]
              have e8 : nI (i + 1 - 7 * k) + -7 = nI (i + 1) - nI (7 * (k + 1)) := by
                rw [← e7, Int32.sub_eq_add_neg, Int32.sub_eq_add_neg, show nI (7 * (k + 1)) = nI (7 * k) + nI 7 by rw [nI_add]; rfl, Int32.neg_add, show (-7 : Int32) = -nI 7 by decide, Int32.sub_eq_add_neg, Int32.add_assoc]
              rw [e8]
              exact ihr (k + 1) (by omega) (by omega) ei
      exact inner 16 1 (by decide) (by decide) hstart
  by_cases ks : nw.2.2.2.2.2.1 = 0
  · simp only [ks, if_true]
    have hf0 : ∀ k, k ≤ 0 → vp_updL f0 0 (pkn ru.2.2 nw 0) k = pkn ru.2.2 nw k := by
      intro k hk
      have : k = 0 := by omega
      rw [this, updL_s]
    exact key 0 (by decide) (by rw [if_pos ks]) 99 0 _ (vp_updL f0 0 (pkn ru.2.2 nw 0)) _ (by decide) sAB hWb tB pa_s hf0 rfl
  · simp only [ks, if_false]
    have hf0 : ∀ k, k ≤ 0 → vp_updL f0 0 (pkn ru.2.2 nw 0) k = pkn ru.2.2 nw k := by
      intro k hk
      have : k = 0 := by omega
      rw [this, updL_s]
    exact key 1 (by decide) (by rw [if_neg ks]) 99 0 _ (vp_updL f0 0 (pkn ru.2.2 nw 0)) _ (by decide) sAB hWb tB pa_s hf0 rfl
end
