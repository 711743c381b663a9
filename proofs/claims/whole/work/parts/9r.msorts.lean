/-! the reference's calls: sorts -/
theorem txs_d1 {y : Nat} (hy : y < 10) : ¬ txs 100 (nI (48 + y)) = 0 := by
  have : ∀ y : Fin 10, ¬ txs 100 (nI (48 + y.1)) = 0 := by decide +kernel
  exact this ⟨y, hy⟩
theorem ron_48 {F : Nat → Int32} {e a : Nat} : ron F e a 48 10 ↔ a < e ∧ ¬ txs 100 (F a) = 0 := by
  constructor
  · rintro ⟨h1, y, y1, y2, y3⟩
    refine ⟨h1, ?_⟩
    rw [y3, show y = 48 + (y - 48) by omega]
    exact txs_d1 (by omega)
  · rintro ⟨h1, h2⟩
    obtain ⟨y, hy, e⟩ := txs_d0 h2
    exact ⟨h1, 48 + y, by omega, by omega, e⟩
theorem txs_s {x : Int32} : ¬ txs 115 x = 0 ↔ x = 43 ∨ x = 45 := by
  have e : txs 115 x = if x = 43 then 1 else if x = 45 then 1 else 0 := rfl
  rw [e]
  by_cases c1 : x = 43
  · rw [if_pos c1]; exact ⟨fun _ => Or.inl c1, fun _ => by decide⟩
  · rw [if_neg c1]
    by_cases c2 : x = 45
    · rw [if_pos c2]; exact ⟨fun _ => Or.inr c2, fun _ => by decide⟩
    · rw [if_neg c2]; exact ⟨fun q => absurd rfl q, fun q => (by rcases q with q | q; exact absurd q c1; exact absurd q c2)⟩
/-- the mood that is read -/
theorem sgd_b {F : Nat → Int32} {p : Nat} (h : ¬ txs 100 (F (p + 1)) = 0) : ∃ y, y < 19 ∧ sgd F p = nI y - 9 := by
  obtain ⟨y, hy, e⟩ := txs_d0 h
  have e1 : F (p + 1) - 48 = nI y := by
    rw [e]
    have : ∀ y : Fin 10, nI (48 + y.1) - 48 = nI y.1 := by decide +kernel
    exact this ⟨y, hy⟩
  unfold sgd
  rw [e1]
  split
  · have : ∀ y : Fin 10, -(nI y.1) = nI (9 - y.1) - 9 := by decide +kernel
    exact ⟨9 - y, by omega, this ⟨y, hy⟩⟩
  · have : ∀ y : Fin 10, nI y.1 = nI (9 + y.1) - 9 := by decide +kernel
    exact ⟨9 + y, by omega, this ⟨y, hy⟩⟩
theorem adX_s {F : Nat → Int32} {X : TN} : ∀ i, (adX F X i).2.2.2.2.2 = X.2.2.2.2.2
  | 0 => rfl
  | i + 1 => by
    show (adX F X i).2.2.2.2.2 = _
    exact adX_s i
theorem adX_wx {F : Nat → Int32} {X : TN} (h : WFX X) {k : Nat} (hk : X.2.2.2.2.1 + k ≤ 12) (hl : ∀ i, i < k → lnk F (5 * i)) (hz : WZ X) : ∀ i, i ≤ k → WFX (adX F X i) ∧ WZ (adX F X i)
  | 0, _ => ⟨h, hz⟩
  | i + 1, hi => by
    obtain ⟨⟨h1, h2, h3⟩, h4⟩ := adX_wx h hk hl hz i (by omega)
    have en := adX_n (F := F) (X := X) i
    refine ⟨⟨adX_wf h.1 hk hl (i + 1) hi, fun j hj => ?_, fun j hj => ?_⟩, fun j hj1 hj2 => ?_⟩
    · have hj : j < (adX F X i).2.2.2.2.1 + 1 := hj
      show ∃ y, y < 19 ∧ upd (adX F X i).2.2.1 (adX F X i).2.2.2.2.1 (sgd F (5 * i + 2)) j = nI y - 9
      by_cases e : j = (adX F X i).2.2.2.2.1
      · subst e
        rw [upd_at]
        exact sgd_b (hl i (by omega)).2.2.2
      · rw [upd_below (by omega)]
        exact h2 j (by omega)
    · have hj : j < (adX F X i).2.2.2.2.1 + 1 := hj
      show ∃ y, y < 10 ∧ upd (adX F X i).2.1 (adX F X i).2.2.2.2.1 (F (5 * i + 1) - 48) j = nI y
      by_cases e : j = (adX F X i).2.2.2.2.1
      · subst e
        rw [upd_at]
        obtain ⟨y, hy, ey⟩ := txs_d0 (hl i (by omega)).2.1
        refine ⟨y, hy, ?_⟩
        rw [ey]
        have : ∀ y : Fin 10, nI (48 + y.1) - 48 = nI y.1 := by decide +kernel
        exact this ⟨y, hy⟩
      · rw [upd_below (by omega)]
        exact h3 j (by omega)
    · have hj1 : (adX F X i).2.2.2.2.1 + 1 ≤ j := hj1
      show upd (adX F X i).2.1 (adX F X i).2.2.2.2.1 (F (5 * i + 1) - 48) j = 0
      exact (if_neg (by omega)).trans (h4 j (by omega) hj2)
section
variable {sa : g_SA} {sc : Nat × Nat × (Nat → Int32)} {xt : Nat → Nat → List Value → tm_H → Option (Option Value × tm_H)} {d m : Nat} {h : tm_H} {Q : Option Value → tm_H → Prop} {I : Nat → Int32} {rd : Value} {ru : Nat} {C : Nat → tm_E}
variable {c n u : Nat} {F L W M B N Lm H Ms Bs Os : Nat → Int32} {s g : Int32} {rc hc mc : Nat} {R : Nat → Int64} {tx : Nat × (Nat → Int32)} {rw : Nat × (Nat → Int64)} {nw : TN} {pa : PA} {cd : List Int32} {he : Nat × (Nat → Int32)} {mi : Nat × (Nat → Int32) × (Nat → Int32) × (Nat → Int32)}
variable {J : Nat → Int32} {r l e a : Nat} {w : Int32}
theorem r_sgn0 (hR : RDX h m C r J F l e) (ha : a ≤ 900) (hw : ¬ w = -1) : tm_D (g_G sa sc xt) (d + 3) 197 [.ref m] (mh h m (ra J (nI a) w) (.ref r) ru C) Q ↔ Q (some (.int 0)) (mh h m (ra J (nI (a + 1)) w) (.ref r) ru C) := by
  rw [e_197]
  simp only [s_197_0, s_197_1, s_197_4, s_197_6, s_197_9, s_197_10, s_197_13, s_197_14, s_197_15, s_197_16, s_197_19, s_197_22, s_197_23, s_197_26, s_197_28, s_197_31, s_197_32, s_197_35, s_197_37, s_197_40, s_197_41, s_197_42, s_197_45, s_197_48, s_197_49, s_197_50, s_197_53, s_197_54, s_197_55, s_197_58, s_197_59, s_197_61, s_197_63, s_197_66, s_197_67, s_197_68, s_197_71, s_197_72, s_197_73, s_197_76, s_197_77, x_get_i, List.getElem?_cons_succ, List.getElem?_cons_zero, x_cv_j, cs_n, cs_i, cs_r, cs_l, Nat.reduceAdd, Nat.reduceLeDiff, true_and, Option.toList_some, Option.toList_none, List.cons_append, List.nil_append, if_true, if_false, nb0, nb1, x_setJ, x_setZ0, x_setZ1, x_setA, x_setO, List.length_cons, List.length_nil, Nat.reduceLT, List.set_cons_succ, List.set_cons_zero, wrl_0, wrl_1, wrl_2, wrl_3, wrl_4, wrl_5, wrl_p0, wrl_p1, wrl_p2, wrl_p3, wrl_p4, mh_o, mh_po, mcv, mg_0, mg_1, mg_2, mg_3, mg_4, mg_5, mg_6, mg_7, mg_8, mg_9, mg_10, mg_11, mg_12, mg_13, mg_14, mg_15, mg_16, mg_17, mg_18, mg_19, mg_20, mg_21, mg_22, mg_23, mg_24, mg_25, mg_26, mg_27, mg_28, mg_29, mg_30, mg_31, mg_32, mg_33, mg_34, mg_35, mg_36, mg_37, mg_38, mg_39, mg_40, mg_41, mg_42, mg_43, mg_44, mg_45, mg_46, ms_1, ms_4, ms_6, ms_7, ms_9, ms_10, ms_11, ms_12, ms_16, ms_20, ms_24, ms_28, ms_35, ms_39, ms_42, ms_43, ms_17t, ms_17f, ms_8, ms_14, mc_1, mp_1, mc_2, mp_2, mc_3, mp_3, mc_4, mp_4, mc_5, mp_5, mc_6, mp_6, mc_7, mp_7, mc_8, mp_8, mc_9, mp_9, mc_10, mp_10, mc_11, mp_11, mc_12, mp_12, mc_13, mp_13, mc_14, mp_14, mc_15, mp_15, mc_16, mp_16, mc_17, mp_17, mc_18, mp_18, mc_19, mp_19, mc_20, mp_20, mc_21, mp_21, mc_22, mp_22, mc_23, mp_23, mc_24, mp_24, mc_25, mp_25, mc_26, mp_26, mc_27, mp_27, mc_28, mp_28, mc_29, mp_29, iu, cup, Nat.reduceEqDiff, r_here hR (show a ≤ 1000 by omega), r_fine, hw, if_false, if_true, ra, ra_11, nI_1, show (48 : Int32) = nI 48 from rfl, show (10 : Int32) = nI 10 from rfl, r_one0 hw]
  by_cases c : hv F e a = 45
  · simp only [c, if_true, show ¬ (1 : Int32) = 0 by decide, if_false, show -(0 : Int32) = 0 by decide]
  · simp only [c, if_true, if_false]
theorem r_sgn2 (hR : RDX h m C r J F l e) (ha : a ≤ 290) (hno : ¬ (a < e ∧ ¬ txs 115 (F a) = 0)) : tm_D (g_G sa sc xt) (d + 3) 197 [.ref m] (mh h m (ra J (nI a) (-1)) (.ref r) ru C) Q ↔ Q (some (.int 0)) (mh h m (ra J (nI (a + 1)) (nI a)) (.ref r) ru C) := by
  have hw := nm1 (show a ≤ 300 by omega)
  have h45 : ¬ hv F e a = 45 := by
    by_cases c : a < e
    · rw [hv_lt c]
      exact fun q => hno ⟨c, txs_s.mpr (Or.inr q)⟩
    · rw [hv_ge (by omega)]; decide
  have h43 : ¬ hv F e a = 43 := by
    by_cases c : a < e
    · rw [hv_lt c]
      exact fun q => hno ⟨c, txs_s.mpr (Or.inl q)⟩
    · rw [hv_ge (by omega)]; decide
  rw [e_197]
  simp only [s_197_0, s_197_1, s_197_4, s_197_6, s_197_9, s_197_10, s_197_13, s_197_14, s_197_15, s_197_16, s_197_19, s_197_22, s_197_23, s_197_26, s_197_28, s_197_31, s_197_32, s_197_35, s_197_37, s_197_40, s_197_41, s_197_42, s_197_45, s_197_48, s_197_49, s_197_50, s_197_53, s_197_54, s_197_55, s_197_58, s_197_59, s_197_61, s_197_63, s_197_66, s_197_67, s_197_68, s_197_71, s_197_72, s_197_73, s_197_76, s_197_77, x_get_i, List.getElem?_cons_succ, List.getElem?_cons_zero, x_cv_j, cs_n, cs_i, cs_r, cs_l, Nat.reduceAdd, Nat.reduceLeDiff, true_and, Option.toList_some, Option.toList_none, List.cons_append, List.nil_append, if_true, if_false, nb0, nb1, x_setJ, x_setZ0, x_setZ1, x_setA, x_setO, List.length_cons, List.length_nil, Nat.reduceLT, List.set_cons_succ, List.set_cons_zero, wrl_0, wrl_1, wrl_2, wrl_3, wrl_4, wrl_5, wrl_p0, wrl_p1, wrl_p2, wrl_p3, wrl_p4, mh_o, mh_po, mcv, mg_0, mg_1, mg_2, mg_3, mg_4, mg_5, mg_6, mg_7, mg_8, mg_9, mg_10, mg_11, mg_12, mg_13, mg_14, mg_15, mg_16, mg_17, mg_18, mg_19, mg_20, mg_21, mg_22, mg_23, mg_24, mg_25, mg_26, mg_27, mg_28, mg_29, mg_30, mg_31, mg_32, mg_33, mg_34, mg_35, mg_36, mg_37, mg_38, mg_39, mg_40, mg_41, mg_42, mg_43, mg_44, mg_45, mg_46, ms_1, ms_4, ms_6, ms_7, ms_9, ms_10, ms_11, ms_12, ms_16, ms_20, ms_24, ms_28, ms_35, ms_39, ms_42, ms_43, ms_17t, ms_17f, ms_8, ms_14, mc_1, mp_1, mc_2, mp_2, mc_3, mp_3, mc_4, mp_4, mc_5, mp_5, mc_6, mp_6, mc_7, mp_7, mc_8, mp_8, mc_9, mp_9, mc_10, mp_10, mc_11, mp_11, mc_12, mp_12, mc_13, mp_13, mc_14, mp_14, mc_15, mp_15, mc_16, mp_16, mc_17, mp_17, mc_18, mp_18, mc_19, mp_19, mc_20, mp_20, mc_21, mp_21, mc_22, mp_22, mc_23, mp_23, mc_24, mp_24, mc_25, mp_25, mc_26, mp_26, mc_27, mp_27, mc_28, mp_28, mc_29, mp_29, iu, cup, Nat.reduceEqDiff, r_here hR (show a ≤ 1000 by omega), r_fine, r_fault, h45, h43, hw, if_false, if_true, show ¬ (1 : Int32) = 0 by decide, ra, ra_11, nI_1, show (48 : Int32) = nI 48 from rfl, show (10 : Int32) = nI 10 from rfl, r_one0 hw]
theorem r_sgn1 (hR : RDX h m C r J F l e) (ha : a ≤ 290) (h1 : a < e) (h2 : ¬ txs 115 (F a) = 0) (h3 : ron F e (a + 1) 48 10) : tm_D (g_G sa sc xt) (d + 3) 197 [.ref m] (mh h m (ra J (nI a) (-1)) (.ref r) ru C) Q ↔ Q (some (.int (sgd F a))) (mh h m (ra J (nI (a + 2)) (-1)) (.ref r) ru C) := by
  rw [e_197]
  simp only [s_197_0, s_197_1, s_197_4, s_197_6, s_197_9, s_197_10, s_197_13, s_197_14, s_197_15, s_197_16, s_197_19, s_197_22, s_197_23, s_197_26, s_197_28, s_197_31, s_197_32, s_197_35, s_197_37, s_197_40, s_197_41, s_197_42, s_197_45, s_197_48, s_197_49, s_197_50, s_197_53, s_197_54, s_197_55, s_197_58, s_197_59, s_197_61, s_197_63, s_197_66, s_197_67, s_197_68, s_197_71, s_197_72, s_197_73, s_197_76, s_197_77, x_get_i, List.getElem?_cons_succ, List.getElem?_cons_zero, x_cv_j, cs_n, cs_i, cs_r, cs_l, Nat.reduceAdd, Nat.reduceLeDiff, true_and, Option.toList_some, Option.toList_none, List.cons_append, List.nil_append, if_true, if_false, nb0, nb1, x_setJ, x_setZ0, x_setZ1, x_setA, x_setO, List.length_cons, List.length_nil, Nat.reduceLT, List.set_cons_succ, List.set_cons_zero, wrl_0, wrl_1, wrl_2, wrl_3, wrl_4, wrl_5, wrl_p0, wrl_p1, wrl_p2, wrl_p3, wrl_p4, mh_o, mh_po, mcv, mg_0, mg_1, mg_2, mg_3, mg_4, mg_5, mg_6, mg_7, mg_8, mg_9, mg_10, mg_11, mg_12, mg_13, mg_14, mg_15, mg_16, mg_17, mg_18, mg_19, mg_20, mg_21, mg_22, mg_23, mg_24, mg_25, mg_26, mg_27, mg_28, mg_29, mg_30, mg_31, mg_32, mg_33, mg_34, mg_35, mg_36, mg_37, mg_38, mg_39, mg_40, mg_41, mg_42, mg_43, mg_44, mg_45, mg_46, ms_1, ms_4, ms_6, ms_7, ms_9, ms_10, ms_11, ms_12, ms_16, ms_20, ms_24, ms_28, ms_35, ms_39, ms_42, ms_43, ms_17t, ms_17f, ms_8, ms_14, mc_1, mp_1, mc_2, mp_2, mc_3, mp_3, mc_4, mp_4, mc_5, mp_5, mc_6, mp_6, mc_7, mp_7, mc_8, mp_8, mc_9, mp_9, mc_10, mp_10, mc_11, mp_11, mc_12, mp_12, mc_13, mp_13, mc_14, mp_14, mc_15, mp_15, mc_16, mp_16, mc_17, mp_17, mc_18, mp_18, mc_19, mp_19, mc_20, mp_20, mc_21, mp_21, mc_22, mp_22, mc_23, mp_23, mc_24, mp_24, mc_25, mp_25, mc_26, mp_26, mc_27, mp_27, mc_28, mp_28, mc_29, mp_29, iu, cup, Nat.reduceEqDiff, r_here hR (show a ≤ 1000 by omega), r_fine, hv_lt h1]
  unfold sgd
  rcases txs_s.mp h2 with q | q
  · simp only [q, show ¬ (43 : Int32) = 45 by decide, if_true, if_false, show ¬ (1 : Int32) = 0 by decide, ra, ra_11, nI_1, s_197_0, s_197_1, s_197_4, s_197_6, s_197_9, s_197_10, s_197_13, s_197_14, s_197_15, s_197_16, s_197_19, s_197_22, s_197_23, s_197_26, s_197_28, s_197_31, s_197_32, s_197_35, s_197_37, s_197_40, s_197_41, s_197_42, s_197_45, s_197_48, s_197_49, s_197_50, s_197_53, s_197_54, s_197_55, s_197_58, s_197_59, s_197_61, s_197_63, s_197_66, s_197_67, s_197_68, s_197_71, s_197_72, s_197_73, s_197_76, s_197_77, x_get_i, List.getElem?_cons_succ, List.getElem?_cons_zero, x_cv_j, cs_n, cs_i, cs_r, cs_l, Nat.reduceAdd, Nat.reduceLeDiff, true_and, Option.toList_some, Option.toList_none, List.cons_append, List.nil_append, if_true, if_false, nb0, nb1, x_setJ, x_setZ0, x_setZ1, x_setA, x_setO, List.length_cons, List.length_nil, Nat.reduceLT, List.set_cons_succ, List.set_cons_zero, wrl_0, wrl_1, wrl_2, wrl_3, wrl_4, wrl_5, wrl_p0, wrl_p1, wrl_p2, wrl_p3, wrl_p4, mh_o, mh_po, mcv, mg_0, mg_1, mg_2, mg_3, mg_4, mg_5, mg_6, mg_7, mg_8, mg_9, mg_10, mg_11, mg_12, mg_13, mg_14, mg_15, mg_16, mg_17, mg_18, mg_19, mg_20, mg_21, mg_22, mg_23, mg_24, mg_25, mg_26, mg_27, mg_28, mg_29, mg_30, mg_31, mg_32, mg_33, mg_34, mg_35, mg_36, mg_37, mg_38, mg_39, mg_40, mg_41, mg_42, mg_43, mg_44, mg_45, mg_46, ms_1, ms_4, ms_6, ms_7, ms_9, ms_10, ms_11, ms_12, ms_16, ms_20, ms_24, ms_28, ms_35, ms_39, ms_42, ms_43, ms_17t, ms_17f, ms_8, ms_14, mc_1, mp_1, mc_2, mp_2, mc_3, mp_3, mc_4, mp_4, mc_5, mp_5, mc_6, mp_6, mc_7, mp_7, mc_8, mp_8, mc_9, mp_9, mc_10, mp_10, mc_11, mp_11, mc_12, mp_12, mc_13, mp_13, mc_14, mp_14, mc_15, mp_15, mc_16, mp_16, mc_17, mp_17, mc_18, mp_18, mc_19, mp_19, mc_20, mp_20, mc_21, mp_21, mc_22, mp_22, mc_23, mp_23, mc_24, mp_24, mc_25, mp_25, mc_26, mp_26, mc_27, mp_27, mc_28, mp_28, mc_29, mp_29, iu, cup, Nat.reduceEqDiff, show (48 : Int32) = nI 48 from rfl, show (10 : Int32) = nI 10 from rfl, r_one1 hR (show a + 1 ≤ 1000 by omega) (show 0 < 10 by decide) (show 48 + 10 ≤ 128 by decide) h3]
  · simp only [q, if_true, if_false, show ¬ (1 : Int32) = 0 by decide, ra, ra_11, nI_1, s_197_0, s_197_1, s_197_4, s_197_6, s_197_9, s_197_10, s_197_13, s_197_14, s_197_15, s_197_16, s_197_19, s_197_22, s_197_23, s_197_26, s_197_28, s_197_31, s_197_32, s_197_35, s_197_37, s_197_40, s_197_41, s_197_42, s_197_45, s_197_48, s_197_49, s_197_50, s_197_53, s_197_54, s_197_55, s_197_58, s_197_59, s_197_61, s_197_63, s_197_66, s_197_67, s_197_68, s_197_71, s_197_72, s_197_73, s_197_76, s_197_77, x_get_i, List.getElem?_cons_succ, List.getElem?_cons_zero, x_cv_j, cs_n, cs_i, cs_r, cs_l, Nat.reduceAdd, Nat.reduceLeDiff, true_and, Option.toList_some, Option.toList_none, List.cons_append, List.nil_append, if_true, if_false, nb0, nb1, x_setJ, x_setZ0, x_setZ1, x_setA, x_setO, List.length_cons, List.length_nil, Nat.reduceLT, List.set_cons_succ, List.set_cons_zero, wrl_0, wrl_1, wrl_2, wrl_3, wrl_4, wrl_5, wrl_p0, wrl_p1, wrl_p2, wrl_p3, wrl_p4, mh_o, mh_po, mcv, mg_0, mg_1, mg_2, mg_3, mg_4, mg_5, mg_6, mg_7, mg_8, mg_9, mg_10, mg_11, mg_12, mg_13, mg_14, mg_15, mg_16, mg_17, mg_18, mg_19, mg_20, mg_21, mg_22, mg_23, mg_24, mg_25, mg_26, mg_27, mg_28, mg_29, mg_30, mg_31, mg_32, mg_33, mg_34, mg_35, mg_36, mg_37, mg_38, mg_39, mg_40, mg_41, mg_42, mg_43, mg_44, mg_45, mg_46, ms_1, ms_4, ms_6, ms_7, ms_9, ms_10, ms_11, ms_12, ms_16, ms_20, ms_24, ms_28, ms_35, ms_39, ms_42, ms_43, ms_17t, ms_17f, ms_8, ms_14, mc_1, mp_1, mc_2, mp_2, mc_3, mp_3, mc_4, mp_4, mc_5, mp_5, mc_6, mp_6, mc_7, mp_7, mc_8, mp_8, mc_9, mp_9, mc_10, mp_10, mc_11, mp_11, mc_12, mp_12, mc_13, mp_13, mc_14, mp_14, mc_15, mp_15, mc_16, mp_16, mc_17, mp_17, mc_18, mp_18, mc_19, mp_19, mc_20, mp_20, mc_21, mp_21, mc_22, mp_22, mc_23, mp_23, mc_24, mp_24, mc_25, mp_25, mc_26, mp_26, mc_27, mp_27, mc_28, mp_28, mc_29, mp_29, iu, cup, Nat.reduceEqDiff, show (48 : Int32) = nI 48 from rfl, show (10 : Int32) = nI 10 from rfl, r_one1 hR (show a + 1 ≤ 1000 by omega) (show 0 < 10 by decide) (show 48 + 10 ≤ 128 by decide) h3]
theorem r_sgn3 (hR : RDX h m C r J F l e) (ha : a ≤ 290) (h1 : a < e) (h2 : ¬ txs 115 (F a) = 0) (h3 : ¬ ron F e (a + 1) 48 10) : tm_D (g_G sa sc xt) (d + 3) 197 [.ref m] (mh h m (ra J (nI a) (-1)) (.ref r) ru C) Q ↔ Q (some (.int 0)) (mh h m (ra J (nI (a + 1)) (nI (a + 1))) (.ref r) ru C) := by
  rw [e_197]
  simp only [s_197_0, s_197_1, s_197_4, s_197_6, s_197_9, s_197_10, s_197_13, s_197_14, s_197_15, s_197_16, s_197_19, s_197_22, s_197_23, s_197_26, s_197_28, s_197_31, s_197_32, s_197_35, s_197_37, s_197_40, s_197_41, s_197_42, s_197_45, s_197_48, s_197_49, s_197_50, s_197_53, s_197_54, s_197_55, s_197_58, s_197_59, s_197_61, s_197_63, s_197_66, s_197_67, s_197_68, s_197_71, s_197_72, s_197_73, s_197_76, s_197_77, x_get_i, List.getElem?_cons_succ, List.getElem?_cons_zero, x_cv_j, cs_n, cs_i, cs_r, cs_l, Nat.reduceAdd, Nat.reduceLeDiff, true_and, Option.toList_some, Option.toList_none, List.cons_append, List.nil_append, if_true, if_false, nb0, nb1, x_setJ, x_setZ0, x_setZ1, x_setA, x_setO, List.length_cons, List.length_nil, Nat.reduceLT, List.set_cons_succ, List.set_cons_zero, wrl_0, wrl_1, wrl_2, wrl_3, wrl_4, wrl_5, wrl_p0, wrl_p1, wrl_p2, wrl_p3, wrl_p4, mh_o, mh_po, mcv, mg_0, mg_1, mg_2, mg_3, mg_4, mg_5, mg_6, mg_7, mg_8, mg_9, mg_10, mg_11, mg_12, mg_13, mg_14, mg_15, mg_16, mg_17, mg_18, mg_19, mg_20, mg_21, mg_22, mg_23, mg_24, mg_25, mg_26, mg_27, mg_28, mg_29, mg_30, mg_31, mg_32, mg_33, mg_34, mg_35, mg_36, mg_37, mg_38, mg_39, mg_40, mg_41, mg_42, mg_43, mg_44, mg_45, mg_46, ms_1, ms_4, ms_6, ms_7, ms_9, ms_10, ms_11, ms_12, ms_16, ms_20, ms_24, ms_28, ms_35, ms_39, ms_42, ms_43, ms_17t, ms_17f, ms_8, ms_14, mc_1, mp_1, mc_2, mp_2, mc_3, mp_3, mc_4, mp_4, mc_5, mp_5, mc_6, mp_6, mc_7, mp_7, mc_8, mp_8, mc_9, mp_9, mc_10, mp_10, mc_11, mp_11, mc_12, mp_12, mc_13, mp_13, mc_14, mp_14, mc_15, mp_15, mc_16, mp_16, mc_17, mp_17, mc_18, mp_18, mc_19, mp_19, mc_20, mp_20, mc_21, mp_21, mc_22, mp_22, mc_23, mp_23, mc_24, mp_24, mc_25, mp_25, mc_26, mp_26, mc_27, mp_27, mc_28, mp_28, mc_29, mp_29, iu, cup, Nat.reduceEqDiff, r_here hR (show a ≤ 1000 by omega), r_fine, hv_lt h1]
  rcases txs_s.mp h2 with q | q
  · simp only [q, show ¬ (43 : Int32) = 45 by decide, if_true, if_false, show ¬ (1 : Int32) = 0 by decide, ra, ra_11, nI_1, s_197_0, s_197_1, s_197_4, s_197_6, s_197_9, s_197_10, s_197_13, s_197_14, s_197_15, s_197_16, s_197_19, s_197_22, s_197_23, s_197_26, s_197_28, s_197_31, s_197_32, s_197_35, s_197_37, s_197_40, s_197_41, s_197_42, s_197_45, s_197_48, s_197_49, s_197_50, s_197_53, s_197_54, s_197_55, s_197_58, s_197_59, s_197_61, s_197_63, s_197_66, s_197_67, s_197_68, s_197_71, s_197_72, s_197_73, s_197_76, s_197_77, x_get_i, List.getElem?_cons_succ, List.getElem?_cons_zero, x_cv_j, cs_n, cs_i, cs_r, cs_l, Nat.reduceAdd, Nat.reduceLeDiff, true_and, Option.toList_some, Option.toList_none, List.cons_append, List.nil_append, if_true, if_false, nb0, nb1, x_setJ, x_setZ0, x_setZ1, x_setA, x_setO, List.length_cons, List.length_nil, Nat.reduceLT, List.set_cons_succ, List.set_cons_zero, wrl_0, wrl_1, wrl_2, wrl_3, wrl_4, wrl_5, wrl_p0, wrl_p1, wrl_p2, wrl_p3, wrl_p4, mh_o, mh_po, mcv, mg_0, mg_1, mg_2, mg_3, mg_4, mg_5, mg_6, mg_7, mg_8, mg_9, mg_10, mg_11, mg_12, mg_13, mg_14, mg_15, mg_16, mg_17, mg_18, mg_19, mg_20, mg_21, mg_22, mg_23, mg_24, mg_25, mg_26, mg_27, mg_28, mg_29, mg_30, mg_31, mg_32, mg_33, mg_34, mg_35, mg_36, mg_37, mg_38, mg_39, mg_40, mg_41, mg_42, mg_43, mg_44, mg_45, mg_46, ms_1, ms_4, ms_6, ms_7, ms_9, ms_10, ms_11, ms_12, ms_16, ms_20, ms_24, ms_28, ms_35, ms_39, ms_42, ms_43, ms_17t, ms_17f, ms_8, ms_14, mc_1, mp_1, mc_2, mp_2, mc_3, mp_3, mc_4, mp_4, mc_5, mp_5, mc_6, mp_6, mc_7, mp_7, mc_8, mp_8, mc_9, mp_9, mc_10, mp_10, mc_11, mp_11, mc_12, mp_12, mc_13, mp_13, mc_14, mp_14, mc_15, mp_15, mc_16, mp_16, mc_17, mp_17, mc_18, mp_18, mc_19, mp_19, mc_20, mp_20, mc_21, mp_21, mc_22, mp_22, mc_23, mp_23, mc_24, mp_24, mc_25, mp_25, mc_26, mp_26, mc_27, mp_27, mc_28, mp_28, mc_29, mp_29, iu, cup, Nat.reduceEqDiff, show (48 : Int32) = nI 48 from rfl, show (10 : Int32) = nI 10 from rfl, r_one2 hR (show a + 1 ≤ 1000 by omega) (show 0 < 10 by decide) (show 48 + 10 ≤ 128 by decide) h3]
  · simp only [q, if_true, if_false, show ¬ (1 : Int32) = 0 by decide, ra, ra_11, nI_1, s_197_0, s_197_1, s_197_4, s_197_6, s_197_9, s_197_10, s_197_13, s_197_14, s_197_15, s_197_16, s_197_19, s_197_22, s_197_23, s_197_26, s_197_28, s_197_31, s_197_32, s_197_35, s_197_37, s_197_40, s_197_41, s_197_42, s_197_45, s_197_48, s_197_49, s_197_50, s_197_53, s_197_54, s_197_55, s_197_58, s_197_59, s_197_61, s_197_63, s_197_66, s_197_67, s_197_68, s_197_71, s_197_72, s_197_73, s_197_76, s_197_77, x_get_i, List.getElem?_cons_succ, List.getElem?_cons_zero, x_cv_j, cs_n, cs_i, cs_r, cs_l, Nat.reduceAdd, Nat.reduceLeDiff, true_and, Option.toList_some, Option.toList_none, List.cons_append, List.nil_append, if_true, if_false, nb0, nb1, x_setJ, x_setZ0, x_setZ1, x_setA, x_setO, List.length_cons, List.length_nil, Nat.reduceLT, List.set_cons_succ, List.set_cons_zero, wrl_0, wrl_1, wrl_2, wrl_3, wrl_4, wrl_5, wrl_p0, wrl_p1, wrl_p2, wrl_p3, wrl_p4, mh_o, mh_po, mcv, mg_0, mg_1, mg_2, mg_3, mg_4, mg_5, mg_6, mg_7, mg_8, mg_9, mg_10, mg_11, mg_12, mg_13, mg_14, mg_15, mg_16, mg_17, mg_18, mg_19, mg_20, mg_21, mg_22, mg_23, mg_24, mg_25, mg_26, mg_27, mg_28, mg_29, mg_30, mg_31, mg_32, mg_33, mg_34, mg_35, mg_36, mg_37, mg_38, mg_39, mg_40, mg_41, mg_42, mg_43, mg_44, mg_45, mg_46, ms_1, ms_4, ms_6, ms_7, ms_9, ms_10, ms_11, ms_12, ms_16, ms_20, ms_24, ms_28, ms_35, ms_39, ms_42, ms_43, ms_17t, ms_17f, ms_8, ms_14, mc_1, mp_1, mc_2, mp_2, mc_3, mp_3, mc_4, mp_4, mc_5, mp_5, mc_6, mp_6, mc_7, mp_7, mc_8, mp_8, mc_9, mp_9, mc_10, mp_10, mc_11, mp_11, mc_12, mp_12, mc_13, mp_13, mc_14, mp_14, mc_15, mp_15, mc_16, mp_16, mc_17, mp_17, mc_18, mp_18, mc_19, mp_19, mc_20, mp_20, mc_21, mp_21, mc_22, mp_22, mc_23, mp_23, mc_24, mp_24, mc_25, mp_25, mc_26, mp_26, mc_27, mp_27, mc_28, mp_28, mc_29, mp_29, iu, cup, Nat.reduceEqDiff, show (48 : Int32) = nI 48 from rfl, show (10 : Int32) = nI 10 from rfl, r_one2 hR (show a + 1 ≤ 1000 by omega) (show 0 < 10 by decide) (show 48 + 10 ≤ 128 by decide) h3, show -(0 : Int32) = 0 by decide]
end
