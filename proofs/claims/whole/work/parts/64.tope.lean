/-! calls of the class: blows -/
section
variable {sa : g_SA} {sc : Nat × Nat × (Nat → Int32)} {xt : Nat → Nat → List Value → tm_H → Option (Option Value × tm_H)} {d b : Nat} {h : tm_H} {Q : Option Value → tm_H → Prop}
variable {tx : Nat × (Nat → Int32)} {rw : Nat × (Nat → Int64)} {nw : TN} {pa : Nat × Nat × (Nat → TN) × (Nat → TN) × (Nat → Int32)} {ru : Nat × Nat × List Int32} {he : Nat × (Nat → Int32)} {mi : Nat × (Nat → Int32) × (Nat → Int32) × (Nat → Int32)} {ga : Nat}
variable {c n m : Nat} {F L W M B H Ms Bs Os : Nat → Int32} {s g : Int32} {rc hc mc : Nat} {R : Nat → Int64} {r1 r2 : Nat} {cd0 : List Int32}
theorem c_calms {mem set v : Int32} (hW : CW sa h b tx rw nw pa ru he mi ga) (hT : tca h (b + 12) (tcT (L, W, M, B, n, s, g))) (wf : WFT (L, W, M, B, n, s, g)) (hm : m ≤ 20) (hQ : ∀ h', sm b (b + 162) h h' → CW sa h' b tx rw nw pa ru he mi ga → tca h' (b + 12) (tcT (L, W, M, B, n, s, g)) → Q (some (.int (bI (clm ru.2.2 mem v m (L, W, M, B, n, s, g) set)))) h') : tm_D (g_G sa sc xt) (d + 4) 170 [.ref b, .int mem, .int set, .int (nI m), .int v] h Q := by
  obtain ⟨w_o, w_t, w_r, w_n, w_h, w_l, w_b, w_p, w_u, w_v, w_a, w_e, w_w, w_x, w_q, w_m, w_g, w_d, w_s⟩ := id hW
  have hn : n ≤ 12 := wf.1
  obtain ⟨Tl, hTl⟩ := w_l
  have l0 : h.2.2 (b + 19) = .inr (9, _) := hTl.1
  have ei : ∀ x : Int32, (if 0 ≤ x then x else 0 - x) = iabs x := fun x => rfl
  rw [e_170]
  simp only [s_170_0, s_170_1, s_170_4, s_170_5, s_170_8, s_170_11, s_170_12, s_170_16, s_170_17, s_170_20, s_170_23, s_170_26, s_170_27, s_170_29, s_170_30, s_170_31, s_170_32, s_170_33, s_170_36, s_170_37, s_170_40, s_170_43, s_170_45, s_170_46, s_170_47, s_170_50, s_170_53, s_170_54, s_170_57, s_170_58, s_170_61, s_170_62, s_170_63, s_170_66, s_170_67, s_170_71, s_170_72, s_170_75, s_170_78, s_170_81, s_170_82, s_170_84, s_170_85, s_170_86, s_170_87, s_170_88, s_170_91, s_170_92, s_170_95, s_170_98, s_170_100, s_170_101, s_170_104, s_170_106, s_170_109, s_170_110, s_170_111, s_170_114, s_170_117, s_170_118, x_get_i, List.getElem?_cons_succ, List.getElem?_cons_zero, x_cv_j, cs_n, cs_i, cs_r, cs_l, Nat.reduceAdd, Nat.reduceLeDiff, true_and, Option.toList_some, Option.toList_none, List.cons_append, List.nil_append, if_true, if_false, nb0, nb1, x_setJ, x_setZ0, x_setZ1, x_setA, x_setO, List.length_cons, List.length_nil, Nat.reduceLT, List.set_cons_succ, List.set_cons_zero, wrl_0, wrl_1, wrl_2, wrl_3, wrl_4, wrl_5, wrl_p0, wrl_p1, wrl_p2, wrl_p3, wrl_p4, w_o, l0]
  refine tc_copyR (by omega) hTl hT (fun ha sA tA tA2 => ?_)
  have hWa := CW_l hW sA ⟨_, tA⟩
  have hTa : tc_at ha (b + 19) L W M B (nI n) s g := tA
  obtain ⟨a0, b0, e0⟩ := tcp_eta hTa
  have sM : ∀ M', sm (b + 19) (b + 26) ha (tcp ha (b + 19) L W M' B (nI n) s g a0 b0) := fun M' => sm_tcp (Nat.le_refl _) (Nat.le_refl _)
  have tM : ∀ M', tca (tcp ha (b + 19) L W M' B (nI n) s g a0 b0) (b + 19) (tcT (L, W, M', B, n, s, g)) := fun M' => tcp_at
  have wM : ∀ M', CW sa (tcp ha (b + 19) L W M' B (nI n) s g a0 b0) b tx rw nw pa ru he mi ga := fun M' => CW_l hWa (sM M') ⟨_, tM M'⟩
  have oM : ∀ M', (tcp ha (b + 19) L W M' B (nI n) s g a0 b0).2.2 b = cob b ru.1 ru.2.1 := fun M' => (wM M').1
  have loop1 : ∀ (j i : Nat), i + j = n → tm_X (g_G sa sc xt) (d + 4) 170 14 [.ref b, .int mem, .int set, .int (nI m), .int v, .int (nI i)] [] (tcp ha (b + 19) L W (clM set M i) B (nI n) s g a0 b0) Q := by
    intro j
    induction j with
    | zero =>
      intro i hi
      have hi : i = n := by omega
      subst hi
      rw [s_170_14]
      simp only [s_170_0, s_170_1, s_170_4, s_170_5, s_170_8, s_170_11, s_170_12, s_170_16, s_170_17, s_170_20, s_170_23, s_170_26, s_170_27, s_170_29, s_170_30, s_170_31, s_170_32, s_170_33, s_170_36, s_170_37, s_170_40, s_170_43, s_170_45, s_170_46, s_170_47, s_170_50, s_170_53, s_170_54, s_170_57, s_170_58, s_170_61, s_170_62, s_170_63, s_170_66, s_170_67, s_170_71, s_170_72, s_170_75, s_170_78, s_170_81, s_170_82, s_170_84, s_170_85, s_170_86, s_170_87, s_170_88, s_170_91, s_170_92, s_170_95, s_170_98, s_170_100, s_170_101, s_170_104, s_170_106, s_170_109, s_170_110, s_170_111, s_170_114, s_170_117, s_170_118, x_get_i, List.getElem?_cons_succ, List.getElem?_cons_zero, x_cv_j, cs_n, cs_i, cs_r, cs_l, Nat.reduceAdd, Nat.reduceLeDiff, true_and, Option.toList_some, Option.toList_none, List.cons_append, List.nil_append, if_true, if_false, nb0, nb1, x_setJ, x_setZ0, x_setZ1, x_setA, x_setO, List.length_cons, List.length_nil, Nat.reduceLT, List.set_cons_succ, List.set_cons_zero, wrl_0, wrl_1, wrl_2, wrl_3, wrl_4, wrl_5, wrl_p0, wrl_p1, wrl_p2, wrl_p3, wrl_p4, oM, tcp_0, Int32.le_refl]
      refine tc_nightsR (m := m) (by omega) (tM (clM set M i)) ⟨wf.1, wf.2.1, wf.2.2⟩ (wM (clM set M i)).2.2.2.2.2.2.2.2.1 (by omega) (fun h1 hz s1 s2 u1 tz => ?_)
      have u0 : RUc h1 ru.1 ru.2.2 := RUc_sm ⟨s2.1.symm, s2.2.1.symm, fun x hx => (s2.2.2 x hx).symm⟩ (by omega) u1
      have hWz := CW_l (CW_u (wM (clM set M i)) s1 u0) s2 ⟨_, tz⟩
      have sz : sm b (b + 162) h hz := (sA.mono (by omega) (by omega)).trans (((sM (clM set M i)).mono (by omega) (by omega)).trans ((s1.mono (by omega) (by omega)).trans (s2.mono (by omega) (by omega))))
      have tT : tca hz (b + 12) (tcT (L, W, M, B, i, s, g)) := tca_sm s2 (by omega) (tca_sm s1 (by omega) (tca_sm (sM (clM set M i)) (by omega) tA2))
      have hQ := hQ hz sz hWz tT
      unfold clm at hQ
      dsimp only at hQ
      have o_z := hWz.1
      have hTz : tc_at hz (b + 19) L W (nXT ru.2.2 mem m (L, W, clM set M i, B, i, s, g)).2.2.1 (nXT ru.2.2 mem m (L, W, clM set M i, B, i, s, g)).2.2.2.1 (nI i) (nXT ru.2.2 mem m (L, W, clM set M i, B, i, s, g)).2.2.2.2.2.1 (nXT ru.2.2 mem m (L, W, clM set M i, B, i, s, g)).2.2.2.2.2.2 := tz
      obtain ⟨y0, y1, y2, y3, y4, -, -⟩ := id hTz
      have loop2 : ∀ (j k : Nat), k + j = i → (cal mem v (nXT ru.2.2 mem m (L, W, clM set M i, B, i, s, g)).2.2.1 j k = cal mem v (nXT ru.2.2 mem m (L, W, clM set M i, B, i, s, g)).2.2.1 i 0) → tm_X (g_G sa sc xt) (d + 4) 170 69 [.ref b, .int mem, .int set, .int (nI m), .int v, .int (nI k)] [] hz Q := by
        intro j
        induction j with
        | zero =>
          intro k hk ec
          have hk : k = i := by omega
          subst hk
          rw [← ec] at hQ
          rw [s_170_69]
          simp only [s_170_0, s_170_1, s_170_4, s_170_5, s_170_8, s_170_11, s_170_12, s_170_16, s_170_17, s_170_20, s_170_23, s_170_26, s_170_27, s_170_29, s_170_30, s_170_31, s_170_32, s_170_33, s_170_36, s_170_37, s_170_40, s_170_43, s_170_45, s_170_46, s_170_47, s_170_50, s_170_53, s_170_54, s_170_57, s_170_58, s_170_61, s_170_62, s_170_63, s_170_66, s_170_67, s_170_71, s_170_72, s_170_75, s_170_78, s_170_81, s_170_82, s_170_84, s_170_85, s_170_86, s_170_87, s_170_88, s_170_91, s_170_92, s_170_95, s_170_98, s_170_100, s_170_101, s_170_104, s_170_106, s_170_109, s_170_110, s_170_111, s_170_114, s_170_117, s_170_118, x_get_i, List.getElem?_cons_succ, List.getElem?_cons_zero, x_cv_j, cs_n, cs_i, cs_r, cs_l, Nat.reduceAdd, Nat.reduceLeDiff, true_and, Option.toList_some, Option.toList_none, List.cons_append, List.nil_append, if_true, if_false, nb0, nb1, x_setJ, x_setZ0, x_setZ1, x_setA, x_setO, List.length_cons, List.length_nil, Nat.reduceLT, List.set_cons_succ, List.set_cons_zero, wrl_0, wrl_1, wrl_2, wrl_3, wrl_4, wrl_5, wrl_p0, wrl_p1, wrl_p2, wrl_p3, wrl_p4, o_z, y0, Int32.le_refl]
          exact hQ
        | succ j ih =>
          intro k hk ec
          unfold cal at ec
          rw [s_170_69]
          simp only [s_170_0, s_170_1, s_170_4, s_170_5, s_170_8, s_170_11, s_170_12, s_170_16, s_170_17, s_170_20, s_170_23, s_170_26, s_170_27, s_170_29, s_170_30, s_170_31, s_170_32, s_170_33, s_170_36, s_170_37, s_170_40, s_170_43, s_170_45, s_170_46, s_170_47, s_170_50, s_170_53, s_170_54, s_170_57, s_170_58, s_170_61, s_170_62, s_170_63, s_170_66, s_170_67, s_170_71, s_170_72, s_170_75, s_170_78, s_170_81, s_170_82, s_170_84, s_170_85, s_170_86, s_170_87, s_170_88, s_170_91, s_170_92, s_170_95, s_170_98, s_170_100, s_170_101, s_170_104, s_170_106, s_170_109, s_170_110, s_170_111, s_170_114, s_170_117, s_170_118, x_get_i, List.getElem?_cons_succ, List.getElem?_cons_zero, x_cv_j, cs_n, cs_i, cs_r, cs_l, Nat.reduceAdd, Nat.reduceLeDiff, true_and, Option.toList_some, Option.toList_none, List.cons_append, List.nil_append, if_true, if_false, nb0, nb1, x_setJ, x_setZ0, x_setZ1, x_setA, x_setO, List.length_cons, List.length_nil, Nat.reduceLT, List.set_cons_succ, List.set_cons_zero, wrl_0, wrl_1, wrl_2, wrl_3, wrl_4, wrl_5, wrl_p0, wrl_p1, wrl_p2, wrl_p3, wrl_p4, o_z, y0, y3, show ¬ nI i ≤ nI k from nI_ge (by omega) (by omega), x_ild_n (show k < 12 by omega) n12, ei, nI_1]
          by_cases k1 : (mem >>> (nI k &&& 31)) &&& 1 = 1
          · rw [if_pos k1] at ec
            simp only [k1, if_true]
            by_cases k2 : iabs ((nXT ru.2.2 mem m (L, W, clM set M i, B, i, s, g)).2.2.1 k) ≤ v
            · rw [if_pos k2] at ec
              simp only [k2, if_true]
              refine ih (k + 1) (by omega) ?_
              rw [ec]
              cases i with
              | zero => omega
              | succ i => rfl
            · rw [if_neg k2] at ec
              simp only [k2, if_false]
              have ec2 : cal mem v (nXT ru.2.2 mem m (L, W, clM set M i, B, i, s, g)).2.2.1 i 0 = false := by
                rw [ec]
                cases i with
                | zero => omega
                | succ i => rfl
              rw [ec2] at hQ
              exact hQ
          · rw [if_neg k1] at ec
            simp only [k1, if_false]
            refine ih (k + 1) (by omega) ?_
            rw [ec]
            cases i with
            | zero => omega
            | succ i => rfl
      simp only [s_170_0, s_170_1, s_170_4, s_170_5, s_170_8, s_170_11, s_170_12, s_170_16, s_170_17, s_170_20, s_170_23, s_170_26, s_170_27, s_170_29, s_170_30, s_170_31, s_170_32, s_170_33, s_170_36, s_170_37, s_170_40, s_170_43, s_170_45, s_170_46, s_170_47, s_170_50, s_170_53, s_170_54, s_170_57, s_170_58, s_170_61, s_170_62, s_170_63, s_170_66, s_170_67, s_170_71, s_170_72, s_170_75, s_170_78, s_170_81, s_170_82, s_170_84, s_170_85, s_170_86, s_170_87, s_170_88, s_170_91, s_170_92, s_170_95, s_170_98, s_170_100, s_170_101, s_170_104, s_170_106, s_170_109, s_170_110, s_170_111, s_170_114, s_170_117, s_170_118, x_get_i, List.getElem?_cons_succ, List.getElem?_cons_zero, x_cv_j, cs_n, cs_i, cs_r, cs_l, Nat.reduceAdd, Nat.reduceLeDiff, true_and, Option.toList_some, Option.toList_none, List.cons_append, List.nil_append, if_true, if_false, nb0, nb1, x_setJ, x_setZ0, x_setZ1, x_setA, x_setO, List.length_cons, List.length_nil, Nat.reduceLT, List.set_cons_succ, List.set_cons_zero, wrl_0, wrl_1, wrl_2, wrl_3, wrl_4, wrl_5, wrl_p0, wrl_p1, wrl_p2, wrl_p3, wrl_p4]
      exact loop2 i 0 (by omega) rfl
    | succ j ih =>
      intro i hi
      have es : clM set M (i + 1) = if (set >>> (nI i &&& 31)) &&& 1 = 1 then upd (clM set M i) i 0 else clM set M i := rfl
      have ih := ih (i + 1) (by omega)
      rw [es] at ih
      rw [s_170_14]
      simp only [s_170_0, s_170_1, s_170_4, s_170_5, s_170_8, s_170_11, s_170_12, s_170_16, s_170_17, s_170_20, s_170_23, s_170_26, s_170_27, s_170_29, s_170_30, s_170_31, s_170_32, s_170_33, s_170_36, s_170_37, s_170_40, s_170_43, s_170_45, s_170_46, s_170_47, s_170_50, s_170_53, s_170_54, s_170_57, s_170_58, s_170_61, s_170_62, s_170_63, s_170_66, s_170_67, s_170_71, s_170_72, s_170_75, s_170_78, s_170_81, s_170_82, s_170_84, s_170_85, s_170_86, s_170_87, s_170_88, s_170_91, s_170_92, s_170_95, s_170_98, s_170_100, s_170_101, s_170_104, s_170_106, s_170_109, s_170_110, s_170_111, s_170_114, s_170_117, s_170_118, x_get_i, List.getElem?_cons_succ, List.getElem?_cons_zero, x_cv_j, cs_n, cs_i, cs_r, cs_l, Nat.reduceAdd, Nat.reduceLeDiff, true_and, Option.toList_some, Option.toList_none, List.cons_append, List.nil_append, if_true, if_false, nb0, nb1, x_setJ, x_setZ0, x_setZ1, x_setA, x_setO, List.length_cons, List.length_nil, Nat.reduceLT, List.set_cons_succ, List.set_cons_zero, wrl_0, wrl_1, wrl_2, wrl_3, wrl_4, wrl_5, wrl_p0, wrl_p1, wrl_p2, wrl_p3, wrl_p4, oM, tcp_0, tcp_3, show ¬ nI n ≤ nI i from nI_ge (by omega) (by omega), x_ist_n (show i < 12 by omega) n12, tcp_p3, nI_1]
      by_cases k1 : (set >>> (nI i &&& 31)) &&& 1 = 1
      · simp only [k1, if_true] at ih ⊢
        exact ih
      · simp only [k1, if_false] at ih ⊢
        exact ih
  simp only [s_170_0, s_170_1, s_170_4, s_170_5, s_170_8, s_170_11, s_170_12, s_170_16, s_170_17, s_170_20, s_170_23, s_170_26, s_170_27, s_170_29, s_170_30, s_170_31, s_170_32, s_170_33, s_170_36, s_170_37, s_170_40, s_170_43, s_170_45, s_170_46, s_170_47, s_170_50, s_170_53, s_170_54, s_170_57, s_170_58, s_170_61, s_170_62, s_170_63, s_170_66, s_170_67, s_170_71, s_170_72, s_170_75, s_170_78, s_170_81, s_170_82, s_170_84, s_170_85, s_170_86, s_170_87, s_170_88, s_170_91, s_170_92, s_170_95, s_170_98, s_170_100, s_170_101, s_170_104, s_170_106, s_170_109, s_170_110, s_170_111, s_170_114, s_170_117, s_170_118, x_get_i, List.getElem?_cons_succ, List.getElem?_cons_zero, x_cv_j, cs_n, cs_i, cs_r, cs_l, Nat.reduceAdd, Nat.reduceLeDiff, true_and, Option.toList_some, Option.toList_none, List.cons_append, List.nil_append, if_true, if_false, nb0, nb1, x_setJ, x_setZ0, x_setZ1, x_setA, x_setO, List.length_cons, List.length_nil, Nat.reduceLT, List.set_cons_succ, List.set_cons_zero, wrl_0, wrl_1, wrl_2, wrl_3, wrl_4, wrl_5, wrl_p0, wrl_p1, wrl_p2, wrl_p3, wrl_p4]
  have := loop1 n 0 (by omega)
  have em : clM set M 0 = M := rfl
  rw [em, ← e0] at this
  exact this
theorem c_ftc {mem v : Int32} (hW : CW sa h b tx rw nw pa ru he mi ga) (hT : tca h (b + 12) (tcT (L, W, M, B, n, s, g))) (wf : WFT (L, W, M, B, n, s, g)) (hm : m ≤ 20) (hQ : ∀ h', sm b (b + 162) h h' → CW sa h' b tx rw nw pa ru he mi ga → tca h' (b + 12) (tcT (L, W, M, B, n, s, g)) → Q (some (.int (oI (ftc ru.2.2 (L, W, M, B, n, s, g) mem m v)))) h') : tm_D (g_G sa sc xt) (d + 5) 169 [.ref b, .int mem, .int (nI m), .int v] h Q := by
  have hn : n ≤ 12 := wf.1
  have hTh : tc_at h (b + 12) L W M B (nI n) s g := hT
  obtain ⟨y0, y1, y2, y3, y4, -, -⟩ := id hTh
  have o_h := hW.1
  obtain ⟨q, hq, eq⟩ := low12 (x := moo mem M n) (fun i h1 h2 => moo_low h1 h2 n hn)
  obtain ⟨kb, hkb, ekb⟩ := ibc_13 hq
  have eF : ftc ru.2.2 (L, W, M, B, n, s, g) mem m v = few2 (fun x => clm ru.2.2 mem v m (L, W, M, B, n, s, g) (nI x)) (nI q) q (kb + 1) 0 := by
    unfold ftc
    dsimp only
    rw [eq, ekb, nI_clamp (by omega), nI_clamp (by omega)]
  rw [eF] at hQ
  have loop2 : ∀ (j k : Nat) (hz : tm_H) (x6 : Value), k + j = kb + 1 → sm b (b + 162) h hz → CW sa hz b tx rw nw pa ru he mi ga → tca hz (b + 12) (tcT (L, W, M, B, n, s, g)) → few2 (fun x => clm ru.2.2 mem v m (L, W, M, B, n, s, g) (nI x)) (nI q) q j k = few2 (fun x => clm ru.2.2 mem v m (L, W, M, B, n, s, g) (nI x)) (nI q) q (kb + 1) 0 → tm_X (g_G sa sc xt) (d + 5) 169 59 [.ref b, .int mem, .int (nI m), .int v, .int (nI q), .int (nI k), x6] [] hz Q := by
    intro j
    induction j with
    | zero =>
      intro k hz x6 hk sz hWz tz er
      have hk : k = kb + 1 := by omega
      subst hk
      have er : few2 (fun x => clm ru.2.2 mem v m (L, W, M, B, n, s, g) (nI x)) (nI q) q (kb + 1) 0 = none := er.symm
      rw [er] at hQ
      rw [s_169_59]
      simp only [s_169_0, s_169_1, s_169_3, s_169_4, s_169_8, s_169_9, s_169_12, s_169_15, s_169_18, s_169_19, s_169_21, s_169_22, s_169_23, s_169_24, s_169_25, s_169_28, s_169_29, s_169_32, s_169_35, s_169_37, s_169_38, s_169_41, s_169_43, s_169_44, s_169_46, s_169_47, s_169_48, s_169_50, s_169_53, s_169_56, s_169_57, s_169_61, s_169_63, s_169_66, s_169_69, s_169_70, s_169_74, s_169_76, s_169_79, s_169_81, s_169_83, s_169_84, s_169_85, s_169_86, s_169_89, s_169_91, s_169_94, s_169_96, s_169_99, s_169_100, s_169_101, s_169_103, s_169_104, s_169_105, s_169_108, s_169_111, s_169_113, s_169_114, s_169_117, s_169_120, s_169_123, s_169_126, s_169_127, x_get_i, List.getElem?_cons_succ, List.getElem?_cons_zero, x_cv_j, cs_n, cs_i, cs_r, cs_l, Nat.reduceAdd, Nat.reduceLeDiff, true_and, Option.toList_some, Option.toList_none, List.cons_append, List.nil_append, if_true, if_false, nb0, nb1, x_setJ, x_setZ0, x_setZ1, x_setA, x_setO, List.length_cons, List.length_nil, Nat.reduceLT, List.set_cons_succ, List.set_cons_zero, wrl_0, wrl_1, wrl_2, wrl_3, wrl_4, wrl_5, wrl_p0, wrl_p1, wrl_p2, wrl_p3, wrl_p4, m_bitCount, ekb, show nI kb < nI (kb + 1) from nI_lt (by omega) (by omega)]
      exact hQ hz sz hWz tz
    | succ j ih =>
      intro k hz x6 hk sz hWz tz er
      have er2 : (match few1 (fun x => clm ru.2.2 mem v m (L, W, M, B, n, s, g) (nI x)) (nI q) (nI k) (q + 1) 0 with
        | some x => some x
        | none => few2 (fun x => clm ru.2.2 mem v m (L, W, M, B, n, s, g) (nI x)) (nI q) q j (k + 1)) = few2 (fun x => clm ru.2.2 mem v m (L, W, M, B, n, s, g) (nI x)) (nI q) q (kb + 1) 0 := er
      generalize hst : few1 (fun x => clm ru.2.2 mem v m (L, W, M, B, n, s, g) (nI x)) (nI q) (nI k) (q + 1) 0 = rr at er2
      have inner : ∀ (r x : Nat) (hz : tm_H), x + r = q + 1 → sm b (b + 162) h hz → CW sa hz b tx rw nw pa ru he mi ga → tca hz (b + 12) (tcT (L, W, M, B, n, s, g)) → few1 (fun x => clm ru.2.2 mem v m (L, W, M, B, n, s, g) (nI x)) (nI q) (nI k) r x = rr → tm_X (g_G sa sc xt) (d + 5) 169 72 [.ref b, .int mem, .int (nI m), .int v, .int (nI q), .int (nI k), .int (nI x)] [] hz Q := by
        intro r
        induction r with
        | zero =>
          intro x hz hx sz hWz tz ef
          have hx : x = q + 1 := by omega
          subst hx
          have ef : rr = none := ef.symm
          subst ef
          rw [s_169_72]
          simp only [s_169_0, s_169_1, s_169_3, s_169_4, s_169_8, s_169_9, s_169_12, s_169_15, s_169_18, s_169_19, s_169_21, s_169_22, s_169_23, s_169_24, s_169_25, s_169_28, s_169_29, s_169_32, s_169_35, s_169_37, s_169_38, s_169_41, s_169_43, s_169_44, s_169_46, s_169_47, s_169_48, s_169_50, s_169_53, s_169_56, s_169_57, s_169_61, s_169_63, s_169_66, s_169_69, s_169_70, s_169_74, s_169_76, s_169_79, s_169_81, s_169_83, s_169_84, s_169_85, s_169_86, s_169_89, s_169_91, s_169_94, s_169_96, s_169_99, s_169_100, s_169_101, s_169_103, s_169_104, s_169_105, s_169_108, s_169_111, s_169_113, s_169_114, s_169_117, s_169_120, s_169_123, s_169_126, s_169_127, x_get_i, List.getElem?_cons_succ, List.getElem?_cons_zero, x_cv_j, cs_n, cs_i, cs_r, cs_l, Nat.reduceAdd, Nat.reduceLeDiff, true_and, Option.toList_some, Option.toList_none, List.cons_append, List.nil_append, if_true, if_false, nb0, nb1, x_setJ, x_setZ0, x_setZ1, x_setA, x_setO, List.length_cons, List.length_nil, Nat.reduceLT, List.set_cons_succ, List.set_cons_zero, wrl_0, wrl_1, wrl_2, wrl_3, wrl_4, wrl_5, wrl_p0, wrl_p1, wrl_p2, wrl_p3, wrl_p4, show nI q < nI (q + 1) from nI_lt (by omega) (by omega), nI_1]
          exact ih (k + 1) hz _ (by omega) sz hWz tz er2
        | succ r ihr =>
          intro x hz hx sz hWz tz ef
          have o_z := hWz.1
          unfold few1 at ef
          rw [s_169_72]
          simp only [s_169_0, s_169_1, s_169_3, s_169_4, s_169_8, s_169_9, s_169_12, s_169_15, s_169_18, s_169_19, s_169_21, s_169_22, s_169_23, s_169_24, s_169_25, s_169_28, s_169_29, s_169_32, s_169_35, s_169_37, s_169_38, s_169_41, s_169_43, s_169_44, s_169_46, s_169_47, s_169_48, s_169_50, s_169_53, s_169_56, s_169_57, s_169_61, s_169_63, s_169_66, s_169_69, s_169_70, s_169_74, s_169_76, s_169_79, s_169_81, s_169_83, s_169_84, s_169_85, s_169_86, s_169_89, s_169_91, s_169_94, s_169_96, s_169_99, s_169_100, s_169_101, s_169_103, s_169_104, s_169_105, s_169_108, s_169_111, s_169_113, s_169_114, s_169_117, s_169_120, s_169_123, s_169_126, s_169_127, x_get_i, List.getElem?_cons_succ, List.getElem?_cons_zero, x_cv_j, cs_n, cs_i, cs_r, cs_l, Nat.reduceAdd, Nat.reduceLeDiff, true_and, Option.toList_some, Option.toList_none, List.cons_append, List.nil_append, if_true, if_false, nb0, nb1, x_setJ, x_setZ0, x_setZ1, x_setA, x_setO, List.length_cons, List.length_nil, Nat.reduceLT, List.set_cons_succ, List.set_cons_zero, wrl_0, wrl_1, wrl_2, wrl_3, wrl_4, wrl_5, wrl_p0, wrl_p1, wrl_p2, wrl_p3, wrl_p4, show ¬ nI q < nI x from nI_nlt (by omega) (by omega), m_bitCount, nI_1]
          by_cases k1 : nI x &&& (nI q ^^^ (-1)) = 0
          · rw [if_pos k1] at ef
            simp only [k1, if_true]
            by_cases k2 : ibc (nI x) = nI k
            · rw [if_pos k2] at ef
              simp only [k2, if_true, s_169_0, s_169_1, s_169_3, s_169_4, s_169_8, s_169_9, s_169_12, s_169_15, s_169_18, s_169_19, s_169_21, s_169_22, s_169_23, s_169_24, s_169_25, s_169_28, s_169_29, s_169_32, s_169_35, s_169_37, s_169_38, s_169_41, s_169_43, s_169_44, s_169_46, s_169_47, s_169_48, s_169_50, s_169_53, s_169_56, s_169_57, s_169_61, s_169_63, s_169_66, s_169_69, s_169_70, s_169_74, s_169_76, s_169_79, s_169_81, s_169_83, s_169_84, s_169_85, s_169_86, s_169_89, s_169_91, s_169_94, s_169_96, s_169_99, s_169_100, s_169_101, s_169_103, s_169_104, s_169_105, s_169_108, s_169_111, s_169_113, s_169_114, s_169_117, s_169_120, s_169_123, s_169_126, s_169_127, x_get_i, List.getElem?_cons_succ, List.getElem?_cons_zero, x_cv_j, cs_n, cs_i, cs_r, cs_l, Nat.reduceAdd, Nat.reduceLeDiff, true_and, Option.toList_some, Option.toList_none, List.cons_append, List.nil_append, if_true, if_false, nb0, nb1, x_setJ, x_setZ0, x_setZ1, x_setA, x_setO, List.length_cons, List.length_nil, Nat.reduceLT, List.set_cons_succ, List.set_cons_zero, wrl_0, wrl_1, wrl_2, wrl_3, wrl_4, wrl_5, wrl_p0, wrl_p1, wrl_p2, wrl_p3, wrl_p4, o_z]
              refine c_calms hWz tz wf hm (fun hy sy hWy ty => ?_)
              simp only [s_169_0, s_169_1, s_169_3, s_169_4, s_169_8, s_169_9, s_169_12, s_169_15, s_169_18, s_169_19, s_169_21, s_169_22, s_169_23, s_169_24, s_169_25, s_169_28, s_169_29, s_169_32, s_169_35, s_169_37, s_169_38, s_169_41, s_169_43, s_169_44, s_169_46, s_169_47, s_169_48, s_169_50, s_169_53, s_169_56, s_169_57, s_169_61, s_169_63, s_169_66, s_169_69, s_169_70, s_169_74, s_169_76, s_169_79, s_169_81, s_169_83, s_169_84, s_169_85, s_169_86, s_169_89, s_169_91, s_169_94, s_169_96, s_169_99, s_169_100, s_169_101, s_169_103, s_169_104, s_169_105, s_169_108, s_169_111, s_169_113, s_169_114, s_169_117, s_169_120, s_169_123, s_169_126, s_169_127, x_get_i, List.getElem?_cons_succ, List.getElem?_cons_zero, x_cv_j, cs_n, cs_i, cs_r, cs_l, Nat.reduceAdd, Nat.reduceLeDiff, true_and, Option.toList_some, Option.toList_none, List.cons_append, List.nil_append, if_true, if_false, nb0, nb1, x_setJ, x_setZ0, x_setZ1, x_setA, x_setO, List.length_cons, List.length_nil, Nat.reduceLT, List.set_cons_succ, List.set_cons_zero, wrl_0, wrl_1, wrl_2, wrl_3, wrl_4, wrl_5, wrl_p0, wrl_p1, wrl_p2, wrl_p3, wrl_p4]
              cases hc : clm ru.2.2 mem v m (L, W, M, B, n, s, g) (nI x) with
              | true =>
                rw [hc] at ef
                simp only [if_true] at ef
                subst ef
                simp only [show ¬ bI true = 0 by decide, if_false]
                rw [← er2] at hQ
                exact hQ hy (sz.trans sy) hWy ty
              | false =>
                rw [hc] at ef
                simp only [Bool.false_eq_true, if_false] at ef
                simp only [show bI false = 0 by decide, if_true, nI_1]
                exact ihr (x + 1) hy (by omega) (sz.trans sy) hWy ty ef
            · rw [if_neg k2] at ef
              simp only [k2, if_false]
              exact ihr (x + 1) hz (by omega) sz hWz tz ef
          · rw [if_neg k1] at ef
            simp only [k1, if_false]
            exact ihr (x + 1) hz (by omega) sz hWz tz ef
      rw [s_169_59]
      simp only [s_169_0, s_169_1, s_169_3, s_169_4, s_169_8, s_169_9, s_169_12, s_169_15, s_169_18, s_169_19, s_169_21, s_169_22, s_169_23, s_169_24, s_169_25, s_169_28, s_169_29, s_169_32, s_169_35, s_169_37, s_169_38, s_169_41, s_169_43, s_169_44, s_169_46, s_169_47, s_169_48, s_169_50, s_169_53, s_169_56, s_169_57, s_169_61, s_169_63, s_169_66, s_169_69, s_169_70, s_169_74, s_169_76, s_169_79, s_169_81, s_169_83, s_169_84, s_169_85, s_169_86, s_169_89, s_169_91, s_169_94, s_169_96, s_169_99, s_169_100, s_169_101, s_169_103, s_169_104, s_169_105, s_169_108, s_169_111, s_169_113, s_169_114, s_169_117, s_169_120, s_169_123, s_169_126, s_169_127, x_get_i, List.getElem?_cons_succ, List.getElem?_cons_zero, x_cv_j, cs_n, cs_i, cs_r, cs_l, Nat.reduceAdd, Nat.reduceLeDiff, true_and, Option.toList_some, Option.toList_none, List.cons_append, List.nil_append, if_true, if_false, nb0, nb1, x_setJ, x_setZ0, x_setZ1, x_setA, x_setO, List.length_cons, List.length_nil, Nat.reduceLT, List.set_cons_succ, List.set_cons_zero, wrl_0, wrl_1, wrl_2, wrl_3, wrl_4, wrl_5, wrl_p0, wrl_p1, wrl_p2, wrl_p3, wrl_p4, m_bitCount, ekb, show ¬ nI kb < nI k from nI_nlt (by omega) (by omega)]
      exact inner (q + 1) 0 hz (by omega) sz hWz tz hst
  have loop1 : ∀ (j i : Nat), i + j = n → tm_X (g_G sa sc xt) (d + 5) 169 6 [.ref b, .int mem, .int (nI m), .int v, .int (moo mem M i), .int (nI i), tm_z] [] h Q := by
    intro j
    induction j with
    | zero =>
      intro i hi
      have hi : i = n := by omega
      subst hi
      rw [s_169_6]
      simp only [s_169_0, s_169_1, s_169_3, s_169_4, s_169_8, s_169_9, s_169_12, s_169_15, s_169_18, s_169_19, s_169_21, s_169_22, s_169_23, s_169_24, s_169_25, s_169_28, s_169_29, s_169_32, s_169_35, s_169_37, s_169_38, s_169_41, s_169_43, s_169_44, s_169_46, s_169_47, s_169_48, s_169_50, s_169_53, s_169_56, s_169_57, s_169_61, s_169_63, s_169_66, s_169_69, s_169_70, s_169_74, s_169_76, s_169_79, s_169_81, s_169_83, s_169_84, s_169_85, s_169_86, s_169_89, s_169_91, s_169_94, s_169_96, s_169_99, s_169_100, s_169_101, s_169_103, s_169_104, s_169_105, s_169_108, s_169_111, s_169_113, s_169_114, s_169_117, s_169_120, s_169_123, s_169_126, s_169_127, x_get_i, List.getElem?_cons_succ, List.getElem?_cons_zero, x_cv_j, cs_n, cs_i, cs_r, cs_l, Nat.reduceAdd, Nat.reduceLeDiff, true_and, Option.toList_some, Option.toList_none, List.cons_append, List.nil_append, if_true, if_false, nb0, nb1, x_setJ, x_setZ0, x_setZ1, x_setA, x_setO, List.length_cons, List.length_nil, Nat.reduceLT, List.set_cons_succ, List.set_cons_zero, wrl_0, wrl_1, wrl_2, wrl_3, wrl_4, wrl_5, wrl_p0, wrl_p1, wrl_p2, wrl_p3, wrl_p4, o_h, y0, Int32.le_refl, eq]
      exact loop2 (kb + 1) 0 h _ (by omega) sm.rfl hW hT rfl
    | succ j ih =>
      intro i hi
      have es : moo mem M (i + 1) = if (mem >>> (nI i &&& 31)) &&& 1 = 1 then (if M i = 0 then moo mem M i else moo mem M i ||| (1 <<< (nI i &&& 31))) else moo mem M i := rfl
      have ih := ih (i + 1) (by omega)
      rw [es] at ih
      rw [s_169_6]
      simp only [s_169_0, s_169_1, s_169_3, s_169_4, s_169_8, s_169_9, s_169_12, s_169_15, s_169_18, s_169_19, s_169_21, s_169_22, s_169_23, s_169_24, s_169_25, s_169_28, s_169_29, s_169_32, s_169_35, s_169_37, s_169_38, s_169_41, s_169_43, s_169_44, s_169_46, s_169_47, s_169_48, s_169_50, s_169_53, s_169_56, s_169_57, s_169_61, s_169_63, s_169_66, s_169_69, s_169_70, s_169_74, s_169_76, s_169_79, s_169_81, s_169_83, s_169_84, s_169_85, s_169_86, s_169_89, s_169_91, s_169_94, s_169_96, s_169_99, s_169_100, s_169_101, s_169_103, s_169_104, s_169_105, s_169_108, s_169_111, s_169_113, s_169_114, s_169_117, s_169_120, s_169_123, s_169_126, s_169_127, x_get_i, List.getElem?_cons_succ, List.getElem?_cons_zero, x_cv_j, cs_n, cs_i, cs_r, cs_l, Nat.reduceAdd, Nat.reduceLeDiff, true_and, Option.toList_some, Option.toList_none, List.cons_append, List.nil_append, if_true, if_false, nb0, nb1, x_setJ, x_setZ0, x_setZ1, x_setA, x_setO, List.length_cons, List.length_nil, Nat.reduceLT, List.set_cons_succ, List.set_cons_zero, wrl_0, wrl_1, wrl_2, wrl_3, wrl_4, wrl_5, wrl_p0, wrl_p1, wrl_p2, wrl_p3, wrl_p4, o_h, y0, y3, show ¬ nI n ≤ nI i from nI_ge (by omega) (by omega), x_ild_n (show i < 12 by omega) n12, nI_1]
      by_cases k1 : (mem >>> (nI i &&& 31)) &&& 1 = 1
      · simp only [k1, if_true] at ih ⊢
        by_cases k2 : M i = 0
        · simp only [k2, if_true] at ih ⊢
          exact ih
        · simp only [k2, if_false] at ih ⊢
          exact ih
      · simp only [k1, if_false] at ih ⊢
        exact ih
  rw [e_169]
  simp only [s_169_0, s_169_1, s_169_3, s_169_4, s_169_8, s_169_9, s_169_12, s_169_15, s_169_18, s_169_19, s_169_21, s_169_22, s_169_23, s_169_24, s_169_25, s_169_28, s_169_29, s_169_32, s_169_35, s_169_37, s_169_38, s_169_41, s_169_43, s_169_44, s_169_46, s_169_47, s_169_48, s_169_50, s_169_53, s_169_56, s_169_57, s_169_61, s_169_63, s_169_66, s_169_69, s_169_70, s_169_74, s_169_76, s_169_79, s_169_81, s_169_83, s_169_84, s_169_85, s_169_86, s_169_89, s_169_91, s_169_94, s_169_96, s_169_99, s_169_100, s_169_101, s_169_103, s_169_104, s_169_105, s_169_108, s_169_111, s_169_113, s_169_114, s_169_117, s_169_120, s_169_123, s_169_126, s_169_127]
  exact loop1 n 0 (by omega)
theorem few1_lt {ok : Nat → Bool} {mo k : Int32} : ∀ {j x y : Nat}, few1 ok mo k j x = some y → y < x + j
  | 0, x, y, e => by cases e
  | j + 1, x, y, e => by
    unfold few1 at e
    split at e
    · split at e
      · split at e
        · cases e; omega
        · have := few1_lt e; omega
      · have := few1_lt e; omega
    · have := few1_lt e; omega
theorem few2_lt {ok : Nat → Bool} {mo : Int32} {q : Nat} : ∀ {j k y : Nat}, few2 ok mo q j k = some y → y ≤ q
  | 0, k, y, e => by cases e
  | j + 1, k, y, e => by
    unfold few2 at e
    split at e
    · rename_i x hx
      cases e
      have := few1_lt hx
      omega
    · exact few2_lt e
theorem ftc_lt {cd : List Int32} {X : TN} {mem v : Int32} {y : Nat} (hn : X.2.2.2.2.1 ≤ 12) (e : ftc cd X mem m v = some y) : y < 4096 := by
  obtain ⟨q, hq, eq⟩ := low12 (x := moo mem X.2.2.1 X.2.2.2.2.1) (fun i h1 h2 => moo_low h1 h2 _ hn)
  have := few2_lt e
  rw [eq, nI_clamp (by omega)] at this
  omega
theorem c_blows (hW : CW sa h b tx (rc, R) (L, W, M, B, n, s, g) pa ru he mi ga) (x v : Int32) (h1 : (x < 0 ∨ 20 < x ∨ v < 0 ∨ 9 < v) → Q (some (.int (-1))) h) (h2 : ∀ m h', m ≤ 20 → x = nI m → ¬ (v < 0 ∨ 9 < v) → blo ru.2.2 (L, W, M, tc_dB s L W B n, n, 0, g) m v 8 0 0 = none → sm b (b + 162) h h' → CW sa h' b tx (rc, R) (L, W, M, B, n, s, g) pa ru he mi ga → Q (some (.int (-2))) h') (h3 : ∀ m t h', m ≤ 20 → x = nI m → ¬ (v < 0 ∨ 9 < v) → blo ru.2.2 (L, W, M, tc_dB s L W B n, n, 0, g) m v 8 0 0 = some t → sm b (b + 162) h h' → CW sa h' b tx (rw1 R t.toInt64) (L, W, M, B, n, s, g) pa ru he mi ga → Q (some (.int (ibc t))) h') : tm_D (g_G sa sc xt) (d + 6) 134 [.ref b, .int x, .int v] h Q := by
  obtain ⟨w_o, w_t, w_r, w_n, w_h, w_l, w_b, w_p, w_u, w_v, w_a, w_e, w_w, w_x, w_q, w_m, w_g, w_d, w_s⟩ := id hW
  have o_0 := hW.1
  have a_0 : h.2.2 (b + 1) = .inr (8, _) := hW.2.1.1.1
  have c_0 : h.2.2 (b + 3) = .inr (5, _) := cel_0 hW.2.2.1.1
  have n_0 : h.2.2 (b + 5) = .inr (9, _) := hW.2.2.2.1.1.1
  have p_0 : h.2.2 (b + 33) = .inr (6, _) := hW.2.2.2.2.2.2.2.1.1.1
  have q_0 : h.2.2 (b + 152) = .inr (2, _) := cel_0 hW.2.2.2.2.2.2.2.2.2.2.2.2.2.2.1.1
  obtain ⟨_, mm_0⟩ := hW.2.2.2.2.2.2.2.2.2.2.2.2.2.2.2.1.1
  have m_0 : h.2.2 (b + 154) = .inr (4, _) := cel_0 mm_0
  have g_0 : h.2.2 (b + 159) = .inr (1, _) := cel_0 hW.2.2.2.2.2.2.2.2.2.2.2.2.2.2.2.2.1.1
  have hn : n ≤ 12 := w_n.2.1
  obtain ⟨Th, hTh⟩ := w_h
  have x0 : h.2.2 (b + 12) = .inr (9, _) := hTh.1
  rw [e_134]
  simp only [s_134_0, s_134_1, s_134_4, s_134_5, s_134_7, s_134_10, s_134_11, s_134_14, s_134_15, s_134_17, s_134_20, s_134_21, s_134_22, s_134_23, s_134_26, s_134_27, s_134_30, s_134_33, s_134_34, s_134_37, s_134_40, s_134_41, s_134_42, s_134_43, s_134_47, s_134_49, s_134_52, s_134_53, s_134_54, s_134_57, s_134_59, s_134_62, s_134_63, s_134_64, s_134_67, s_134_69, s_134_71, s_134_72, s_134_75, s_134_77, s_134_78, s_134_79, s_134_81, s_134_82, s_134_83, s_134_86, s_134_89, s_134_90, s_134_93, s_134_94, s_134_95, s_134_98, s_134_99, s_134_102, x_get_i, List.getElem?_cons_succ, List.getElem?_cons_zero, x_cv_j, cs_n, cs_i, cs_r, cs_l, Nat.reduceAdd, Nat.reduceLeDiff, true_and, Option.toList_some, Option.toList_none, List.cons_append, List.nil_append, if_true, if_false, nb0, nb1, x_setJ, x_setZ0, x_setZ1, x_setA, x_setO, List.length_cons, List.length_nil, Nat.reduceLT, List.set_cons_succ, List.set_cons_zero, wrl_0, wrl_1, wrl_2, wrl_3, wrl_4, wrl_5, wrl_p0, wrl_p1, wrl_p2, wrl_p3, wrl_p4, o_0, n_0, x0]
  by_cases k1 : x < 0
  · simp only [k1, if_true]
    exact h1 (Or.inl k1)
  by_cases k2 : 20 < x
  · simp only [k1, k2, if_true, if_false]
    exact h1 (Or.inr (Or.inl k2))
  by_cases k3 : v < 0
  · simp only [k1, k2, k3, if_true, if_false]
    exact h1 (Or.inr (Or.inr (Or.inl k3)))
  by_cases k4 : v ≤ 9
  · have k0 : ¬ (v < 0 ∨ 9 < v) := by
      rintro (q | q)
      · exact k3 q
      · exact Int32.not_lt.mpr k4 q
    obtain ⟨m, hm, em⟩ := nI_of2 (n := 20) (by decide) k1 (Int32.not_lt.mp k2)
    subst em
    have h2 := fun h' => h2 m h' hm rfl k0
    have h3 := fun t h' => h3 m t h' hm rfl k0
    simp only [k1, k2, k3, k4, if_true, if_false]
    refine c_copyH hW (fun ha sA hWa tA => ?_)
    have o_a := hWa.1
    have x_a : ha.2.2 (b + 12) = .inr (9, _) := tA.1
    simp only [s_134_0, s_134_1, s_134_4, s_134_5, s_134_7, s_134_10, s_134_11, s_134_14, s_134_15, s_134_17, s_134_20, s_134_21, s_134_22, s_134_23, s_134_26, s_134_27, s_134_30, s_134_33, s_134_34, s_134_37, s_134_40, s_134_41, s_134_42, s_134_43, s_134_47, s_134_49, s_134_52, s_134_53, s_134_54, s_134_57, s_134_59, s_134_62, s_134_63, s_134_64, s_134_67, s_134_69, s_134_71, s_134_72, s_134_75, s_134_77, s_134_78, s_134_79, s_134_81, s_134_82, s_134_83, s_134_86, s_134_89, s_134_90, s_134_93, s_134_94, s_134_95, s_134_98, s_134_99, s_134_102, x_get_i, List.getElem?_cons_succ, List.getElem?_cons_zero, x_cv_j, cs_n, cs_i, cs_r, cs_l, Nat.reduceAdd, Nat.reduceLeDiff, true_and, Option.toList_some, Option.toList_none, List.cons_append, List.nil_append, if_true, if_false, nb0, nb1, x_setJ, x_setZ0, x_setZ1, x_setA, x_setO, List.length_cons, List.length_nil, Nat.reduceLT, List.set_cons_succ, List.set_cons_zero, wrl_0, wrl_1, wrl_2, wrl_3, wrl_4, wrl_5, wrl_p0, wrl_p1, wrl_p2, wrl_p3, wrl_p4, o_a, x_a]
    refine tca_call (T := tcT (L, W, M, B, n, s, g)) (T' := tcT (L, W, M, tc_dB s L W B n, n, 0, g)) (r := none) tA (fun a b' Q => tc_distr hn) (fun hb sB tB => ?_)
    have hWb := CW_h hWa sB ⟨_, tB⟩
    have wf : WFT (L, W, M, tc_dB s L W B n, n, 0, g) := ⟨hn, w_n.2.2.1, BX_dB w_n.2.2.1 w_n.2.2.2 n (Nat.le_refl _)⟩
    have sAB := (sA.mono (lo' := b) (hi' := b + 162) (by omega) (by omega)).trans (sB.mono (lo' := b) (hi' := b + 162) (by omega) (by omega))
    have loop : ∀ (j k : Nat) (t : Int32) (hz : tm_H) (x5 : Value), k + j = 8 → sm b (b + 162) h hz → CW sa hz b tx (rc, R) (L, W, M, B, n, s, g) pa ru he mi ga → tca hz (b + 12) (tcT (L, W, M, tc_dB s L W B n, n, 0, g)) → blo ru.2.2 (L, W, M, tc_dB s L W B n, n, 0, g) m v j k t = blo ru.2.2 (L, W, M, tc_dB s L W B n, n, 0, g) m v 8 0 0 → tm_X (g_G sa sc xt) (d + 6) 134 45 [.ref b, .int (nI m), .int v, .int t, .int (nI k), x5] [] hz Q := by
      intro j
      induction j with
      | zero =>
        intro k t hz x5 hk sz hWz tz er
        have er9 : blo ru.2.2 (L, W, M, tc_dB s L W B n, n, 0, g) m v 8 0 0 = some t := er.symm
        have hk : k = 8 := by omega
        subst hk
        have o_z := hWz.1
        have a_z : hz.2.2 (b + 1) = .inr (8, _) := hWz.2.1.1.1
        have c_z : hz.2.2 (b + 3) = .inr (5, _) := cel_0 hWz.2.2.1.1
        have n_z : hz.2.2 (b + 5) = .inr (9, _) := hWz.2.2.2.1.1.1
        have p_z : hz.2.2 (b + 33) = .inr (6, _) := hWz.2.2.2.2.2.2.2.1.1.1
        have q_z : hz.2.2 (b + 152) = .inr (2, _) := cel_0 hWz.2.2.2.2.2.2.2.2.2.2.2.2.2.2.1.1
        obtain ⟨_, mm_z⟩ := hWz.2.2.2.2.2.2.2.2.2.2.2.2.2.2.2.1.1
        have m_z : hz.2.2 (b + 154) = .inr (4, _) := cel_0 mm_z
        have g_z : hz.2.2 (b + 159) = .inr (1, _) := cel_0 hWz.2.2.2.2.2.2.2.2.2.2.2.2.2.2.2.2.1.1
        rw [s_134_45]
        simp only [s_134_0, s_134_1, s_134_4, s_134_5, s_134_7, s_134_10, s_134_11, s_134_14, s_134_15, s_134_17, s_134_20, s_134_21, s_134_22, s_134_23, s_134_26, s_134_27, s_134_30, s_134_33, s_134_34, s_134_37, s_134_40, s_134_41, s_134_42, s_134_43, s_134_47, s_134_49, s_134_52, s_134_53, s_134_54, s_134_57, s_134_59, s_134_62, s_134_63, s_134_64, s_134_67, s_134_69, s_134_71, s_134_72, s_134_75, s_134_77, s_134_78, s_134_79, s_134_81, s_134_82, s_134_83, s_134_86, s_134_89, s_134_90, s_134_93, s_134_94, s_134_95, s_134_98, s_134_99, s_134_102, x_get_i, List.getElem?_cons_succ, List.getElem?_cons_zero, x_cv_j, cs_n, cs_i, cs_r, cs_l, Nat.reduceAdd, Nat.reduceLeDiff, true_and, Option.toList_some, Option.toList_none, List.cons_append, List.nil_append, if_true, if_false, nb0, nb1, x_setJ, x_setZ0, x_setZ1, x_setA, x_setO, List.length_cons, List.length_nil, Nat.reduceLT, List.set_cons_succ, List.set_cons_zero, wrl_0, wrl_1, wrl_2, wrl_3, wrl_4, wrl_5, wrl_p0, wrl_p1, wrl_p2, wrl_p3, wrl_p4, show (8 : Int32) ≤ nI 8 by decide, o_z, a_z, c_z, n_z, p_z, q_z, m_z, g_z]
        refine c_tell1 hWz _ (fun hy sy hWy => ?_)
        simp only [s_134_0, s_134_1, s_134_4, s_134_5, s_134_7, s_134_10, s_134_11, s_134_14, s_134_15, s_134_17, s_134_20, s_134_21, s_134_22, s_134_23, s_134_26, s_134_27, s_134_30, s_134_33, s_134_34, s_134_37, s_134_40, s_134_41, s_134_42, s_134_43, s_134_47, s_134_49, s_134_52, s_134_53, s_134_54, s_134_57, s_134_59, s_134_62, s_134_63, s_134_64, s_134_67, s_134_69, s_134_71, s_134_72, s_134_75, s_134_77, s_134_78, s_134_79, s_134_81, s_134_82, s_134_83, s_134_86, s_134_89, s_134_90, s_134_93, s_134_94, s_134_95, s_134_98, s_134_99, s_134_102, x_get_i, List.getElem?_cons_succ, List.getElem?_cons_zero, x_cv_j, cs_n, cs_i, cs_r, cs_l, Nat.reduceAdd, Nat.reduceLeDiff, true_and, Option.toList_some, Option.toList_none, List.cons_append, List.nil_append, if_true, if_false, nb0, nb1, x_setJ, x_setZ0, x_setZ1, x_setA, x_setO, List.length_cons, List.length_nil, Nat.reduceLT, List.set_cons_succ, List.set_cons_zero, wrl_0, wrl_1, wrl_2, wrl_3, wrl_4, wrl_5, wrl_p0, wrl_p1, wrl_p2, wrl_p3, wrl_p4, m_bitCount]
        exact h3 t hy er9 (sz.trans (sy.mono (by omega) (by omega))) hWy
      | succ j ih =>
        intro k t hz x5 hk sz hWz tz er
        have er2 : (match ftc ru.2.2 (L, W, M, tc_dB s L W B n, n, 0, g) (tc_wh (tc_dB s L W B n) (nI k) n) m v with
          | none => none
          | some q => blo ru.2.2 (L, W, M, tc_dB s L W B n, n, 0, g) m v j (k + 1) (t ||| nI q)) = blo ru.2.2 (L, W, M, tc_dB s L W B n, n, 0, g) m v 8 0 0 := er
        have o_z := hWz.1
        have hTz : tc_at hz (b + 12) L W M (tc_dB s L W B n) (nI n) 0 g := tz
        have x_z := hTz.1
        rw [s_134_45]
        simp only [s_134_0, s_134_1, s_134_4, s_134_5, s_134_7, s_134_10, s_134_11, s_134_14, s_134_15, s_134_17, s_134_20, s_134_21, s_134_22, s_134_23, s_134_26, s_134_27, s_134_30, s_134_33, s_134_34, s_134_37, s_134_40, s_134_41, s_134_42, s_134_43, s_134_47, s_134_49, s_134_52, s_134_53, s_134_54, s_134_57, s_134_59, s_134_62, s_134_63, s_134_64, s_134_67, s_134_69, s_134_71, s_134_72, s_134_75, s_134_77, s_134_78, s_134_79, s_134_81, s_134_82, s_134_83, s_134_86, s_134_89, s_134_90, s_134_93, s_134_94, s_134_95, s_134_98, s_134_99, s_134_102, x_get_i, List.getElem?_cons_succ, List.getElem?_cons_zero, x_cv_j, cs_n, cs_i, cs_r, cs_l, Nat.reduceAdd, Nat.reduceLeDiff, true_and, Option.toList_some, Option.toList_none, List.cons_append, List.nil_append, if_true, if_false, nb0, nb1, x_setJ, x_setZ0, x_setZ1, x_setA, x_setO, List.length_cons, List.length_nil, Nat.reduceLT, List.set_cons_succ, List.set_cons_zero, wrl_0, wrl_1, wrl_2, wrl_3, wrl_4, wrl_5, wrl_p0, wrl_p1, wrl_p2, wrl_p3, wrl_p4, show ¬ (8 : Int32) ≤ nI k from nI_ge (b := 8) (by omega) (by decide), o_z, x_z, tc_inBox hTz hn]
        refine c_ftc hWz tz wf hm (fun hy sy hWy ty => ?_)
        cases hf : ftc ru.2.2 (L, W, M, tc_dB s L W B n, n, 0, g) (tc_wh (tc_dB s L W B n) (nI k) n) m v with
        | none =>
          rw [hf] at er2
          simp only [s_134_0, s_134_1, s_134_4, s_134_5, s_134_7, s_134_10, s_134_11, s_134_14, s_134_15, s_134_17, s_134_20, s_134_21, s_134_22, s_134_23, s_134_26, s_134_27, s_134_30, s_134_33, s_134_34, s_134_37, s_134_40, s_134_41, s_134_42, s_134_43, s_134_47, s_134_49, s_134_52, s_134_53, s_134_54, s_134_57, s_134_59, s_134_62, s_134_63, s_134_64, s_134_67, s_134_69, s_134_71, s_134_72, s_134_75, s_134_77, s_134_78, s_134_79, s_134_81, s_134_82, s_134_83, s_134_86, s_134_89, s_134_90, s_134_93, s_134_94, s_134_95, s_134_98, s_134_99, s_134_102, x_get_i, List.getElem?_cons_succ, List.getElem?_cons_zero, x_cv_j, cs_n, cs_i, cs_r, cs_l, Nat.reduceAdd, Nat.reduceLeDiff, true_and, Option.toList_some, Option.toList_none, List.cons_append, List.nil_append, if_true, if_false, nb0, nb1, x_setJ, x_setZ0, x_setZ1, x_setA, x_setO, List.length_cons, List.length_nil, Nat.reduceLT, List.set_cons_succ, List.set_cons_zero, wrl_0, wrl_1, wrl_2, wrl_3, wrl_4, wrl_5, wrl_p0, wrl_p1, wrl_p2, wrl_p3, wrl_p4, oI]
          exact h2 hy er2.symm (sz.trans sy) hWy
        | some q =>
          have hq := ftc_lt (X := (L, W, M, tc_dB s L W B n, n, 0, g)) hn hf
          rw [hf] at er2
          simp only [s_134_0, s_134_1, s_134_4, s_134_5, s_134_7, s_134_10, s_134_11, s_134_14, s_134_15, s_134_17, s_134_20, s_134_21, s_134_22, s_134_23, s_134_26, s_134_27, s_134_30, s_134_33, s_134_34, s_134_37, s_134_40, s_134_41, s_134_42, s_134_43, s_134_47, s_134_49, s_134_52, s_134_53, s_134_54, s_134_57, s_134_59, s_134_62, s_134_63, s_134_64, s_134_67, s_134_69, s_134_71, s_134_72, s_134_75, s_134_77, s_134_78, s_134_79, s_134_81, s_134_82, s_134_83, s_134_86, s_134_89, s_134_90, s_134_93, s_134_94, s_134_95, s_134_98, s_134_99, s_134_102, x_get_i, List.getElem?_cons_succ, List.getElem?_cons_zero, x_cv_j, cs_n, cs_i, cs_r, cs_l, Nat.reduceAdd, Nat.reduceLeDiff, true_and, Option.toList_some, Option.toList_none, List.cons_append, List.nil_append, if_true, if_false, nb0, nb1, x_setJ, x_setZ0, x_setZ1, x_setA, x_setO, List.length_cons, List.length_nil, Nat.reduceLT, List.set_cons_succ, List.set_cons_zero, wrl_0, wrl_1, wrl_2, wrl_3, wrl_4, wrl_5, wrl_p0, wrl_p1, wrl_p2, wrl_p3, wrl_p4, oI, oI_ne (show q < 2 ^ 31 by omega), nI_1]
          exact ih (k + 1) _ hy _ (by omega) (sz.trans sy) hWy ty er2
    simp only [s_134_0, s_134_1, s_134_4, s_134_5, s_134_7, s_134_10, s_134_11, s_134_14, s_134_15, s_134_17, s_134_20, s_134_21, s_134_22, s_134_23, s_134_26, s_134_27, s_134_30, s_134_33, s_134_34, s_134_37, s_134_40, s_134_41, s_134_42, s_134_43, s_134_47, s_134_49, s_134_52, s_134_53, s_134_54, s_134_57, s_134_59, s_134_62, s_134_63, s_134_64, s_134_67, s_134_69, s_134_71, s_134_72, s_134_75, s_134_77, s_134_78, s_134_79, s_134_81, s_134_82, s_134_83, s_134_86, s_134_89, s_134_90, s_134_93, s_134_94, s_134_95, s_134_98, s_134_99, s_134_102, x_get_i, List.getElem?_cons_succ, List.getElem?_cons_zero, x_cv_j, cs_n, cs_i, cs_r, cs_l, Nat.reduceAdd, Nat.reduceLeDiff, true_and, Option.toList_some, Option.toList_none, List.cons_append, List.nil_append, if_true, if_false, nb0, nb1, x_setJ, x_setZ0, x_setZ1, x_setA, x_setO, List.length_cons, List.length_nil, Nat.reduceLT, List.set_cons_succ, List.set_cons_zero, wrl_0, wrl_1, wrl_2, wrl_3, wrl_4, wrl_5, wrl_p0, wrl_p1, wrl_p2, wrl_p3, wrl_p4]
    exact loop 8 0 0 hb _ (by decide) sAB hWb tB rfl
  · simp only [k1, k2, k3, k4, if_false]
    exact h1 (Or.inr (Or.inr (Or.inr (Int32.not_le.mp k4))))
end
