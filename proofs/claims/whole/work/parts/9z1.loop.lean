/-! the law's loop -/
theorem iteP {c : Prop} [Decidable c] {A B : Prop} (h1 : A) (h2 : B) : if c then A else B := by
  split
  · exact h1
  · exact h2
theorem RLX_z {sa : g_SA} {b : Nat} {zk : Nat × Nat} {hh : tm_H} (h : RLX sa b zk hh) : hh.1 = zk.1 ∧ hh.2.1 = zk.2 := by
  obtain ⟨tx, rw, nw, pa, ru, he, mi, ga, h0, I, rd, C, e, hW, hM, hS, ho⟩ := h
  exact ⟨ho.2.1, ho.2.2.1⟩
section
variable {sa : g_SA} {sc : Nat × Nat × (Nat → Int32)} {xt : Nat → Nat → List Value → tm_H → Option (Option Value × tm_H)} {d b o : Nat} {Q : Option Value → tm_H → Prop}
theorem law_loop {K : Nat × Nat} (hl : sc.2.1 < 2 ^ 30) (h_s : ∀ (i : Nat) (zk : Nat × Nat) (hh : tm_H) (x5 x6 x7 : Value), RLX sa b zk hh → i + 4 < sc.2.1 → (∀ zk' hh' x5 x6 x7, zk'.1 ≤ zk.1 + 1 → zk'.2 ≤ zk.2 + 6 → RLX sa b zk' hh' → tm_X (g_G sa sc xt) (d + 301) 0 1370 [.ref sc.1, .ref b, .ref (b + 162), .ref o, .int (nI i), x5, x6, x7] [] hh' Q) → tm_X (g_G sa sc xt) (d + 301) 0 312 [.ref sc.1, .ref b, .ref (b + 162), .ref o, .int (nI i), x5, x6, x7] [] hh Q) (h_b : ∀ (i : Nat) (zk : Nat × Nat) (hh : tm_H) (x5 x6 x7 : Value), RLX sa b zk hh → i + 4 < sc.2.1 → (∀ zk' hh' x5 x6 x7, zk'.1 ≤ zk.1 + 1 → zk'.2 ≤ zk.2 + 6 → RLX sa b zk' hh' → tm_X (g_G sa sc xt) (d + 301) 0 1370 [.ref sc.1, .ref b, .ref (b + 162), .ref o, .int (nI i), x5, x6, x7] [] hh' Q) → tm_X (g_G sa sc xt) (d + 301) 0 380 [.ref sc.1, .ref b, .ref (b + 162), .ref o, .int (nI i), x5, x6, x7] [] hh Q) (h_r : ∀ (i : Nat) (zk : Nat × Nat) (hh : tm_H) (x5 x6 x7 : Value), RLX sa b zk hh → i + 4 < sc.2.1 → (∀ zk' hh' x5 x6 x7, zk'.1 ≤ zk.1 + 1 → zk'.2 ≤ zk.2 + 6 → RLX sa b zk' hh' → tm_X (g_G sa sc xt) (d + 301) 0 1370 [.ref sc.1, .ref b, .ref (b + 162), .ref o, .int (nI i), x5, x6, x7] [] hh' Q) → tm_X (g_G sa sc xt) (d + 301) 0 1315 [.ref sc.1, .ref b, .ref (b + 162), .ref o, .int (nI i), x5, x6, x7] [] hh Q) (hQ : ∀ hh, hh.1 ≤ K.1 → hh.2.1 ≤ K.2 → Q (some (.int 1)) hh) : ∀ (r i : Nat) (zk : Nat × Nat) (hh : tm_H) (x5 x6 x7 : Value), sc.2.1 ≤ i + r → i ≤ sc.2.1 + 5 → zk.1 + r ≤ K.1 → zk.2 + 6 * r ≤ K.2 → RLX sa b zk hh → tm_X (g_G sa sc xt) (d + 301) 0 23 [.ref sc.1, .ref b, .ref (b + 162), .ref o, .int (nI i), x5, x6, x7] [] hh Q := by
  have hl' : sc.2.1 < 2 ^ 31 := by omega
  intro r
  induction r with
  | zero =>
    intro i zk hh x5 x6 x7 hr hi5 hz1 hz2 hR
    have hsz := RLX_z hR
    have hlt : nI sc.2.1 - 5 < nI i := by
      rw [Int32.lt_iff_toInt_lt, nI_toInt (by omega)]
      by_cases c : 5 ≤ sc.2.1
      · rw [show (5 : Int32) = nI 5 from rfl, nI_s c, nI_toInt (by omega)]
        omega
      · have : ∀ l : Fin 5, (nI l.1 - 5).toInt < 0 := by decide +kernel
        have := this ⟨sc.2.1, by omega⟩
        dsimp only at this
        omega
    rw [s_0_23]
    simp only [s_0_25, s_0_26, s_0_27, s_0_28, s_0_29, s_0_32, s_0_33, s_0_35, s_0_36, s_0_38, s_0_39, s_0_1376, s_0_1377, x_get_i, List.getElem?_cons_succ, List.getElem?_cons_zero, x_cv_j, cs_n, cs_i, cs_r, cs_l, Nat.reduceAdd, Nat.reduceLeDiff, true_and, Option.toList_some, Option.toList_none, List.cons_append, List.nil_append, if_true, if_false, nb0, nb1, x_setJ, x_setZ0, x_setZ1, x_setA, x_setO, List.length_cons, List.length_nil, Nat.reduceLT, List.set_cons_succ, List.set_cons_zero, wrl_0, wrl_1, wrl_2, wrl_3, wrl_4, wrl_5, wrl_p0, wrl_p1, wrl_p2, wrl_p3, wrl_p4, mh_o, mh_po, mcv, mg_0, mg_1, mg_2, mg_3, mg_4, mg_5, mg_6, mg_7, mg_8, mg_9, mg_10, mg_11, mg_12, mg_13, mg_14, mg_15, mg_16, mg_17, mg_18, mg_19, mg_20, mg_21, mg_22, mg_23, mg_24, mg_25, mg_26, mg_27, mg_28, mg_29, mg_30, mg_31, mg_32, mg_33, mg_34, mg_35, mg_36, mg_37, mg_38, mg_39, mg_40, mg_41, mg_42, mg_43, mg_44, mg_45, mg_46, ms_1, ms_4, ms_6, ms_7, ms_9, ms_10, ms_11, ms_12, ms_16, ms_20, ms_24, ms_28, ms_35, ms_39, ms_42, ms_43, ms_17t, ms_17f, ms_8, ms_14, mc_1, mp_1, mc_2, mp_2, mc_3, mp_3, mc_4, mp_4, mc_5, mp_5, mc_6, mp_6, mc_7, mp_7, mc_8, mp_8, mc_9, mp_9, mc_10, mp_10, mc_11, mp_11, mc_12, mp_12, mc_13, mp_13, mc_14, mp_14, mc_15, mp_15, mc_16, mp_16, mc_17, mp_17, mc_18, mp_18, mc_19, mp_19, mc_20, mp_20, mc_21, mp_21, mc_22, mp_22, mc_23, mp_23, mc_24, mp_24, mc_25, mp_25, mc_26, mp_26, mc_27, mp_27, mc_28, mp_28, mc_29, mp_29, iu, cup, Nat.reduceEqDiff, show Int32.ofNat sc.2.1 = nI sc.2.1 from rfl, hlt, if_true]
    exact hQ hh (by omega) (by omega)
  | succ r ih =>
    intro i zk hh x5 x6 x7 hr hi5 hz1 hz2 hR
    have hsz := RLX_z hR
    by_cases c5 : i + 5 ≤ sc.2.1
    · have hge : ¬ nI sc.2.1 - 5 < nI i := by
        rw [show (5 : Int32) = nI 5 from rfl, nI_s (by omega)]
        exact nI_nlt (by omega) (by omega)
      have c0 := scb (sc := sc) (i := i) (j := 0) (by omega) hl'
      rw [Nat.add_zero] at c0
      have hN : ∀ zk' hh' x5 x6 x7, zk'.1 ≤ zk.1 + 1 → zk'.2 ≤ zk.2 + 6 → RLX sa b zk' hh' → tm_X (g_G sa sc xt) (d + 301) 0 1370 [.ref sc.1, .ref b, .ref (b + 162), .ref o, .int (nI i), x5, x6, x7] [] hh' Q := by
        intro zk' hh' x5 x6 x7 hz3 hz4 hR'
        rw [s_0_1370, s_0_1373, show nI i + 5 = nI (i + 5) from nI_add i 5]
        exact ih (i + 5) zk' hh' x5 x6 x7 (by omega) (by omega) (by omega) (by omega) hR'
      rw [s_0_23]
      simp only [s_0_25, s_0_26, s_0_27, s_0_28, s_0_29, s_0_32, s_0_33, s_0_35, s_0_36, s_0_38, s_0_39, x_get_i, List.getElem?_cons_succ, List.getElem?_cons_zero, x_cv_j, cs_n, cs_i, cs_r, cs_l, Nat.reduceAdd, Nat.reduceLeDiff, true_and, Option.toList_some, Option.toList_none, List.cons_append, List.nil_append, if_true, if_false, nb0, nb1, x_setJ, x_setZ0, x_setZ1, x_setA, x_setO, List.length_cons, List.length_nil, Nat.reduceLT, List.set_cons_succ, List.set_cons_zero, wrl_0, wrl_1, wrl_2, wrl_3, wrl_4, wrl_5, wrl_p0, wrl_p1, wrl_p2, wrl_p3, wrl_p4, mh_o, mh_po, mcv, mg_0, mg_1, mg_2, mg_3, mg_4, mg_5, mg_6, mg_7, mg_8, mg_9, mg_10, mg_11, mg_12, mg_13, mg_14, mg_15, mg_16, mg_17, mg_18, mg_19, mg_20, mg_21, mg_22, mg_23, mg_24, mg_25, mg_26, mg_27, mg_28, mg_29, mg_30, mg_31, mg_32, mg_33, mg_34, mg_35, mg_36, mg_37, mg_38, mg_39, mg_40, mg_41, mg_42, mg_43, mg_44, mg_45, mg_46, ms_1, ms_4, ms_6, ms_7, ms_9, ms_10, ms_11, ms_12, ms_16, ms_20, ms_24, ms_28, ms_35, ms_39, ms_42, ms_43, ms_17t, ms_17f, ms_8, ms_14, mc_1, mp_1, mc_2, mp_2, mc_3, mp_3, mc_4, mp_4, mc_5, mp_5, mc_6, mp_6, mc_7, mp_7, mc_8, mp_8, mc_9, mp_9, mc_10, mp_10, mc_11, mp_11, mc_12, mp_12, mc_13, mp_13, mc_14, mp_14, mc_15, mp_15, mc_16, mp_16, mc_17, mp_17, mc_18, mp_18, mc_19, mp_19, mc_20, mp_20, mc_21, mp_21, mc_22, mp_22, mc_23, mp_23, mc_24, mp_24, mc_25, mp_25, mc_26, mp_26, mc_27, mp_27, mc_28, mp_28, mc_29, mp_29, iu, cup, Nat.reduceEqDiff, show Int32.ofNat sc.2.1 = nI sc.2.1 from rfl, hge, if_true, if_false, c0]
      refine iteP (l_sign hR (by omega) hl' (fun hh' hR' => hN zk hh' _ _ _ (by omega) (by omega) hR')) ?_
      refine iteP (l_end hR (by omega) hl' (fun hh' hR' => hN zk hh' _ _ _ (by omega) (by omega) hR')) ?_
      refine iteP (l_sorts hR (by omega) hl' (fun hh' hR' => hN zk hh' _ _ _ (by omega) (by omega) hR')) ?_
      refine iteP (l_rule hR (by omega) hl' (fun hh' hR' => hN zk hh' _ _ _ (by omega) (by omega) hR')) ?_
      refine iteP (h_s i zk hh x5 x6 x7 hR (by omega) hN) ?_
      refine iteP (h_b i zk hh x5 x6 x7 hR (by omega) hN) ?_
      refine iteP (l_sheet hR (by omega) hl' (fun hh' hR' => hN zk hh' _ _ _ (by omega) (by omega) hR')) ?_
      refine iteP (l_sets hR (by omega) hl' (fun hh' hR' => hN zk hh' _ _ _ (by omega) (by omega) hR')) ?_
      refine iteP (l_nights hR (by omega) hl' (fun hh' hR' => hN zk hh' _ _ _ (by omega) (by omega) hR')) ?_
      refine iteP (l_moves hR (by omega) hl' (fun hh' hR' => hN zk hh' _ _ _ (by omega) (by omega) hR')) ?_
      refine iteP (l_cleans hR (by omega) hl' (fun hh' hR' => hN zk hh' _ _ _ (by omega) (by omega) hR')) ?_
      refine iteP (l_casts hR (by omega) hl' (fun hh' hR' => hN zk hh' _ _ _ (by omega) (by omega) hR')) ?_
      refine iteP (l_week hR (by omega) hl' (fun hh' hR' => hN zk hh' _ _ _ (by omega) (by omega) hR')) ?_
      refine iteP (l_undo hR (by omega) hl' (fun hh' hR' => hN zk hh' _ _ _ (by omega) (by omega) hR')) ?_
      refine iteP (l_tells hR (by omega) hl' (fun hh' hR' => hN zk hh' _ _ _ (by omega) (by omega) hR')) ?_
      refine iteP (l_often hR (by omega) hl' (fun hh' hR' => hN zk hh' _ _ _ (by omega) (by omega) hR')) ?_
      refine iteP (l_shortest hR (by omega) hl' (fun hh' hR' => hN zk hh' _ _ _ (by omega) (by omega) hR')) ?_
      refine iteP (l_bears hR (by omega) hl' (fun hh' hR' => hN zk hh' _ _ _ (by omega) (by omega) hR')) ?_
      refine iteP (l_spans hR (by omega) hl' (fun hh' hR' => hN zk hh' _ _ _ (by omega) (by omega) hR')) ?_
      refine iteP (l_packs hR (by omega) hl' (fun hh' hR' => hN zk hh' _ _ _ (by omega) (by omega) hR')) ?_
      refine iteP (l_later hR (by omega) hl' (fun hh' hR' => hN zk hh' _ _ _ (by omega) (by omega) hR')) ?_
      refine iteP (l_settles hR (by omega) hl' (fun hh' hR' => hN zk hh' _ _ _ (by omega) (by omega) hR')) ?_
      refine iteP (l_round hR (by omega) hl' (fun hh' hR' => hN zk hh' _ _ _ (by omega) (by omega) hR')) ?_
      refine iteP (l_gravest hR (by omega) hl' (fun hh' hR' => hN zk hh' _ _ _ (by omega) (by omega) hR')) ?_
      refine iteP (l_blows hR (by omega) hl' (fun hh' hR' => hN zk hh' _ _ _ (by omega) (by omega) hR')) ?_
      refine iteP (l_parts hR (by omega) hl' (fun hh' hR' => hN zk hh' _ _ _ (by omega) (by omega) hR')) ?_
      refine iteP (l_mixed hR (by omega) hl' (fun hh' hR' => hN zk hh' _ _ _ (by omega) (by omega) hR')) ?_
      refine iteP (l_rubs hR (by omega) hl' (fun hh' hR' => hN zk hh' _ _ _ (by omega) (by omega) hR')) ?_
      refine iteP (l_chord hR (by omega) hl' (fun hh' hR' => hN zk hh' _ _ _ (by omega) (by omega) hR')) ?_
      refine iteP (l_heard hR (by omega) hl' (fun hh' hR' => hN zk hh' _ _ _ (by omega) (by omega) hR')) ?_
      refine iteP (l_forget hR (by omega) hl' (fun hh' hR' => hN zk hh' _ _ _ (by omega) (by omega) hR')) ?_
      refine iteP (l_fits hR (by omega) hl' (fun hh' hR' => hN zk hh' _ _ _ (by omega) (by omega) hR')) ?_
      refine iteP (l_asks hR (by omega) hl' (fun hh' hR' => hN zk hh' _ _ _ (by omega) (by omega) hR')) ?_
      refine iteP (l_saw hR (by omega) hl' (fun hh' hR' => hN zk hh' _ _ _ (by omega) (by omega) hR')) ?_
      refine iteP (l_denies hR (by omega) hl' (fun hh' hR' => hN zk hh' _ _ _ (by omega) (by omega) hR')) ?_
      refine iteP (l_laws hR (by omega) hl' (fun hh' hR' => hN zk hh' _ _ _ (by omega) (by omega) hR')) ?_
      refine iteP (l_looks hR (by omega) hl' (fun hh' hR' => hN zk hh' _ _ _ (by omega) (by omega) hR')) ?_
      refine iteP (l_reads hR (by omega) hl' (fun hh' hR' => hN zk hh' _ _ _ (by omega) (by omega) hR')) ?_
      refine iteP (l_galley hR (by omega) hl' (fun hh' hR' => hN zk hh' _ _ _ (by omega) (by omega) hR')) ?_
      refine iteP (l_rests hR (by omega) hl' (fun hh' hR' => hN zk hh' _ _ _ (by omega) (by omega) hR')) ?_
      refine iteP (l_law hR (by omega) hl' (fun hh' hR' => hN zk hh' _ _ _ (by omega) (by omega) hR')) ?_
      refine iteP (l_years hR (by omega) hl' (fun hh' hR' => hN zk hh' _ _ _ (by omega) (by omega) hR')) ?_
      refine iteP (l_keep hR (by omega) hl' (fun hh' hR' => hN zk hh' _ _ _ (by omega) (by omega) hR')) ?_
      refine iteP (l_again hR (by omega) hl' (fun hh' hR' => hN zk hh' _ _ _ (by omega) (by omega) hR')) ?_
      refine iteP (l_count hR (by omega) hl' (fun hh' hR' => hN zk hh' _ _ _ (by omega) (by omega) hR')) ?_
      refine iteP (h_r i zk hh x5 x6 x7 hR (by omega) hN) ?_
      exact hN zk hh _ _ _ (by omega) (by omega) hR
    · have hlt : nI sc.2.1 - 5 < nI i := by
        rw [Int32.lt_iff_toInt_lt, nI_toInt (by omega)]
        by_cases c : 5 ≤ sc.2.1
        · rw [show (5 : Int32) = nI 5 from rfl, nI_s c, nI_toInt (by omega)]
          omega
        · have : ∀ l : Fin 5, (nI l.1 - 5).toInt < 0 := by decide +kernel
          have := this ⟨sc.2.1, by omega⟩
          dsimp only at this
          omega
      rw [s_0_23]
      simp only [s_0_25, s_0_26, s_0_27, s_0_28, s_0_29, s_0_32, s_0_33, s_0_35, s_0_36, s_0_38, s_0_39, s_0_1376, s_0_1377, x_get_i, List.getElem?_cons_succ, List.getElem?_cons_zero, x_cv_j, cs_n, cs_i, cs_r, cs_l, Nat.reduceAdd, Nat.reduceLeDiff, true_and, Option.toList_some, Option.toList_none, List.cons_append, List.nil_append, if_true, if_false, nb0, nb1, x_setJ, x_setZ0, x_setZ1, x_setA, x_setO, List.length_cons, List.length_nil, Nat.reduceLT, List.set_cons_succ, List.set_cons_zero, wrl_0, wrl_1, wrl_2, wrl_3, wrl_4, wrl_5, wrl_p0, wrl_p1, wrl_p2, wrl_p3, wrl_p4, mh_o, mh_po, mcv, mg_0, mg_1, mg_2, mg_3, mg_4, mg_5, mg_6, mg_7, mg_8, mg_9, mg_10, mg_11, mg_12, mg_13, mg_14, mg_15, mg_16, mg_17, mg_18, mg_19, mg_20, mg_21, mg_22, mg_23, mg_24, mg_25, mg_26, mg_27, mg_28, mg_29, mg_30, mg_31, mg_32, mg_33, mg_34, mg_35, mg_36, mg_37, mg_38, mg_39, mg_40, mg_41, mg_42, mg_43, mg_44, mg_45, mg_46, ms_1, ms_4, ms_6, ms_7, ms_9, ms_10, ms_11, ms_12, ms_16, ms_20, ms_24, ms_28, ms_35, ms_39, ms_42, ms_43, ms_17t, ms_17f, ms_8, ms_14, mc_1, mp_1, mc_2, mp_2, mc_3, mp_3, mc_4, mp_4, mc_5, mp_5, mc_6, mp_6, mc_7, mp_7, mc_8, mp_8, mc_9, mp_9, mc_10, mp_10, mc_11, mp_11, mc_12, mp_12, mc_13, mp_13, mc_14, mp_14, mc_15, mp_15, mc_16, mp_16, mc_17, mp_17, mc_18, mp_18, mc_19, mp_19, mc_20, mp_20, mc_21, mp_21, mc_22, mp_22, mc_23, mp_23, mc_24, mp_24, mc_25, mp_25, mc_26, mp_26, mc_27, mp_27, mc_28, mp_28, mc_29, mp_29, iu, cup, Nat.reduceEqDiff, show Int32.ofNat sc.2.1 = nI sc.2.1 from rfl, hlt, if_true]
      exact hQ hh (by omega) (by omega)
end
