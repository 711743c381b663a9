/-! the start: both are made, and stand side by side -/
theorem cel_app {h : tm_H} {q : Nat} {A B : List tm_E} (hc : cel h q (A ++ B)) : cel h q A ∧ cel h (q + A.length) B := by
  refine ⟨fun i x hx => hc i x ?_, fun i x hx => ?_⟩
  · rw [List.getElem?_append_left (List.getElem?_eq_some_iff.mp hx).1]
    exact hx
  · have := hc (A.length + i) x (by rw [List.getElem?_append_right (by omega), Nat.add_sub_cancel_left]; exact hx)
    rwa [← Nat.add_assoc] at this
theorem cel_cons {h : tm_H} {q : Nat} {e : tm_E} {B : List tm_E} (hc : cel h q (e :: B)) : h.2.2 q = e ∧ cel h (q + 1) B := by
  refine ⟨hc 0 e rfl, fun i x hx => ?_⟩
  have := hc (i + 1) x hx
  rwa [show q + (i + 1) = q + 1 + i by omega] at this
theorem tcs_cel {h : tm_H} {q : Nat} : ∀ n, cel h q (tcs q n) → ∀ i, i < n → cel h (q + 7 * i) (tcc (q + 7 * i))
  | 0, _, i, hi => absurd hi (Nat.not_lt_zero i)
  | n + 1, hc, i, hi => by
    obtain ⟨h1, h2⟩ := cel_app (A := tcs q n) (B := tcc (q + 7 * n)) hc
    rw [tcs_l] at h2
    by_cases c : i = n
    · subst c
      exact h2
    · exact tcs_cel n h1 i (by omega)
def nw0 : TN := (fun _ => 0, fun _ => 0, fun _ => 0, fun _ => 0, 0, 0, 0)
def pa0 : PA := (0, 0, fun _ => nw0, fun _ => nw0, fun _ => 0)
theorem WFT_0 : WFT nw0 := ⟨Nat.zero_le _, fun i hi => absurd hi (Nat.not_lt_zero i), fun i hi => absurd hi (Nat.not_lt_zero i)⟩
theorem WFX_0 : WFX nw0 := ⟨WFT_0, fun i hi => absurd hi (Nat.not_lt_zero i), fun i hi => absurd hi (Nat.not_lt_zero i)⟩
theorem tca_0 {h : tm_H} {k : Nat} (hc : cel h k (tcc k)) : tca h k (tcT nw0) := ⟨hc 0 _ rfl, hc 1 _ rfl, hc 2 _ rfl, hc 3 _ rfl, hc 4 _ rfl, ⟨_, hc 5 _ rfl⟩, ⟨_, hc 6 _ rfl⟩⟩
theorem RU_0 {h : tm_H} {r : Nat} (hc : cel h r (e_rule r)) : RUc h r rfirst := by
  refine ⟨fun _ => 0, wrc (fun _ => 0) 0 rfirst, fun _ => 0, 7, 0, 0, ?_, by decide, fun E K => vrun_evv (cd := rfirst) (by decide) VPr_first.1⟩
  rw [show bI (hsN rfirst) = 0 by decide]
  exact hc
theorem gwt_0 : gwt 0 = fun _ => 0 := by
  funext i
  unfold gwt
  split
  · rename_i hi
    have hi : i = 0 := by omega
    subst hi
    decide
  · rfl
theorem RT_0 {N : Nat} : RT (fun _ => 0) (fun _ => 0) N := fun i _ => ⟨0, by decide, (by decide : (0 : Int32) = (nI 0).toInt8.toInt32), rfl⟩
theorem cc_CW {sa : g_SA} {h : tm_H} {b : Nat} {f g : Nat → Option Nat} (hc : cel h b (cob b (b + 135) (b + 139) :: ccs b f g)) (hf : ∀ i, i < 12 → f i = some (b + 33 + 4 + 7 * i)) (hg : ∀ i, i < 2 → g i = some (b + 33 + 88 + 7 * i)) (hS : SH sa h) (hSo : SHo sa b) : CW sa h b (0, fun _ => 0) (0, fun _ => 0) nw0 pa0 (b + 135, b + 139, rfirst) (0, fun _ => 0) (0, fun _ => 0, fun _ => 0, fun _ => 0) 0 := by
  obtain ⟨c0, hc⟩ := cel_cons hc
  unfold ccs at hc
  obtain ⟨hc, c15⟩ := cel_app hc
  obtain ⟨hc, c14⟩ := cel_app hc
  obtain ⟨hc, c13⟩ := cel_app hc
  obtain ⟨hc, c12⟩ := cel_app hc
  obtain ⟨hc, c11⟩ := cel_app hc
  obtain ⟨hc, c10⟩ := cel_app hc
  obtain ⟨hc, c9⟩ := cel_app hc
  obtain ⟨hc, c8⟩ := cel_app hc
  obtain ⟨hc, c7⟩ := cel_app hc
  obtain ⟨hc, c6⟩ := cel_app hc
  obtain ⟨hc, c5⟩ := cel_app hc
  obtain ⟨hc, c4⟩ := cel_app hc
  obtain ⟨hc, c3⟩ := cel_app hc
  obtain ⟨hc, c2⟩ := cel_app hc
  obtain ⟨hc, c1⟩ := cel_app hc
  have L1 : ∀ k, (e_text k).length = 2 := fun _ => rfl
  have L2 : ∀ k, (e_numb k).length = 2 := fun _ => rfl
  have L3 : ∀ k, (tcc k).length = 7 := fun _ => rfl
  have L4 : ∀ k, (e_rule k).length = 4 := fun _ => rfl
  have L5 : ∀ k, (e_lett k).length = 3 := fun _ => rfl
  have L6 : ∀ k, (e_word k).length = 3 := fun _ => rfl
  have L7 : ∀ k, (e_boxi k).length = 3 := fun _ => rfl
  have L8 : ∀ k, (e_hear k).length = 2 := fun _ => rfl
  have L9 : ∀ k, (e_mixi k).length = 5 := fun _ => rfl
  have L10 : ∀ k, (e_gall k).length = 2 := fun _ => rfl
  simp only [List.length_append, L1, L2, L3, L4, L5, L6, L7, L8, L9, L10, l_past, Nat.reduceAdd, Nat.add_assoc] at c1 c2 c3 c4 c5 c6 c7 c8 c9 c10 c11 c12 c13 c14 c15
  have cp := c6
  obtain ⟨p0, cp⟩ := cel_cons (B := oa f 12 :: oa g 2 :: .inl (4, 2, .inl (fun _ => 0)) :: tcs (b + 33 + 4) 14) cp
  obtain ⟨p1, cp⟩ := cel_cons cp
  obtain ⟨p2, cp⟩ := cel_cons cp
  obtain ⟨p3, cp⟩ := cel_cons cp
  have ct := tcs_cel (q := b + 33 + 4) 14 cp
  refine ⟨c0, ⟨⟨hc 0 _ rfl, hc 1 _ rfl⟩, Nat.zero_le _, fun i _ => ⟨0, by decide, rfl⟩⟩, ⟨c1, Nat.zero_le _⟩, ⟨tca_0 c2, WFT_0⟩, ⟨_, tca_0 c3⟩, ⟨_, tca_0 c4⟩, ⟨_, tca_0 c5⟩, ⟨⟨p0, ⟨f, p1, hf⟩, ⟨g, p2, hg⟩, p3, fun i hi => tca_0 (ct i (by omega)), fun i hi => ?_⟩, Nat.zero_le _, by decide, fun _ => WFT_0, fun _ => WFT_0⟩, RU_0 c7, RUc_s (RU_0 c8), Or.inl ⟨rfl, rfl⟩, ⟨_, _, _, _, c9⟩, ⟨_, _, _, c10⟩, ⟨_, _, c11⟩, ⟨c12, Nat.zero_le _⟩, ⟨⟨_, c13⟩, Nat.zero_le _⟩, ⟨?_, Nat.zero_le _⟩, ⟨_, c15 0 _ rfl⟩, ⟨hS, hSo⟩⟩
  · have := tca_0 (ct (12 + i) (by omega))
    rwa [show b + 33 + 4 + 7 * (12 + i) = b + 33 + 88 + 7 * i by omega] at this
  · rw [gwt_0]
    exact c14
theorem mm_MV {C : Nat → tm_E} (hC : ∀ j x, mrows[j]? = some x → C (j + 1) = x) : MV (fun _ => 0) C (0, fun _ => 0) (0, fun _ => 0) nw0 pa0 rfirst (0, fun _ => 0) (0, fun _ => 0, fun _ => 0, fun _ => 0) := by
  have n0 : (0 : Int32) = nI 0 := rfl
  refine ⟨⟨rfl, Nat.zero_le _, _, hC 2 _ rfl, RT_0⟩, ⟨rfl, Nat.zero_le _, _, hC 3 _ rfl, fun i hi => absurd hi (Nat.not_lt_zero i)⟩, ⟨rfl, WFX_0, fun _ _ _ => rfl, _, _, hC 0 _ rfl, hC 1 _ rfl, ⟨fun _ _ => rfl, fun _ _ => rfl, fun _ _ => rfl, rfl, rfl⟩, fun i hi => absurd hi (Nat.not_lt_zero i)⟩, ⟨rfl, Nat.zero_le _, by decide, _, hC 8 _ rfl, fun k hk => absurd hk (Nat.not_lt_zero k)⟩, ⟨0, _, _, _, rfl, Nat.zero_le _, hC 26 _ rfl, hC 27 _ rfl, hC 28 _ rfl, fun i _ => ⟨Or.inl rfl, rfl, fun z => absurd z (show ¬ (0 : Int32) = 1 by decide)⟩⟩, ⟨rfl, ⟨_, _, hC 6 _ rfl, RT_0⟩, 0, _, _, rfl, Nat.zero_le _, hC 5 _ rfl, RT_0, rfl⟩, ⟨rfl, Nat.zero_le _, _, _, hC 19 _ rfl, hC 20 _ rfl, fun k hk => absurd hk (Nat.not_lt_zero k)⟩, ⟨rfl, Nat.zero_le _, _, _, _, hC 21 _ rfl, hC 22 _ rfl, hC 23 _ rfl, fun k hk => absurd hk (Nat.not_lt_zero k)⟩, ?_⟩
  intro j t l hj
  unfold msh at hj
  by_cases c5 : j = 5
  · rw [if_pos c5] at hj
    subst c5
    cases hj
    exact ⟨_, hC 4 _ rfl⟩
  rw [if_neg c5] at hj
  by_cases c8 : j = 8
  · rw [if_pos c8] at hj
    subst c8
    cases hj
    exact ⟨_, hC 7 _ rfl⟩
  rw [if_neg c8] at hj
  by_cases c10 : j = 10
  · rw [if_pos c10] at hj
    subst c10
    cases hj
    exact ⟨_, hC 9 _ rfl⟩
  rw [if_neg c10] at hj
  by_cases c11 : j = 11
  · rw [if_pos c11] at hj
    subst c11
    cases hj
    exact ⟨_, hC 10 _ rfl⟩
  rw [if_neg c11] at hj
  by_cases c12 : j = 12
  · rw [if_pos c12] at hj
    subst c12
    cases hj
    exact ⟨_, hC 11 _ rfl⟩
  rw [if_neg c12] at hj
  by_cases c13 : j = 13
  · rw [if_pos c13] at hj
    subst c13
    cases hj
    exact ⟨_, hC 12 _ rfl⟩
  rw [if_neg c13] at hj
  by_cases c14 : j = 14
  · rw [if_pos c14] at hj
    subst c14
    cases hj
    exact ⟨_, hC 13 _ rfl⟩
  rw [if_neg c14] at hj
  by_cases c15 : j = 15
  · rw [if_pos c15] at hj
    subst c15
    cases hj
    exact ⟨_, hC 14 _ rfl⟩
  rw [if_neg c15] at hj
  by_cases c16 : j = 16
  · rw [if_pos c16] at hj
    subst c16
    cases hj
    exact ⟨_, hC 15 _ rfl⟩
  rw [if_neg c16] at hj
  by_cases c17 : j = 17
  · rw [if_pos c17] at hj
    subst c17
    cases hj
    exact ⟨_, hC 16 _ rfl⟩
  rw [if_neg c17] at hj
  by_cases c18 : j = 18
  · rw [if_pos c18] at hj
    subst c18
    cases hj
    exact ⟨_, hC 17 _ rfl⟩
  rw [if_neg c18] at hj
  by_cases c19 : j = 19
  · rw [if_pos c19] at hj
    subst c19
    cases hj
    exact ⟨_, hC 18 _ rfl⟩
  rw [if_neg c19] at hj
  by_cases c25 : j = 25
  · rw [if_pos c25] at hj
    subst c25
    cases hj
    exact ⟨_, hC 24 _ rfl⟩
  rw [if_neg c25] at hj
  by_cases c26 : j = 26
  · rw [if_pos c26] at hj
    subst c26
    cases hj
    exact ⟨_, hC 25 _ rfl⟩
  rw [if_neg c26] at hj
  cases hj
theorem ccs_l {k : Nat} {f g : Nat → Option Nat} : (ccs k f g).length = 161 := by
  simp only [ccs, List.length_append, List.length_cons, List.length_nil, l_past, e_text, e_numb, tcc, e_rule, e_lett, e_word, e_boxi, e_hear, e_mixi, e_gall]
theorem start_R {sa : g_SA} {h : tm_H} {f g : Nat → Option Nat} {s1 s2 : Nat} (hf : ∀ i, i < 12 → f i = some (h.1 + 33 + 4 + 7 * i)) (hg : ∀ i, i < 2 → g i = some (h.1 + 33 + 88 + 7 * i)) (hS : SH sa h) (hSo : SHo sa h.1) : RLX sa h.1 (h.1 + 193, h.2.1 + (s1 + s2)) (NW (NW h s1 (cob h.1 (h.1 + 135) (h.1 + 139) :: ccs h.1 f g)) s2 (mo (h.1 + 162) (fun _ => 0) .null (h.1 + 162 + 6) :: (mrows ++ [.inl (3, 1, .inr (.inl (fun _ => 0)))]))) := by
  obtain ⟨L, hL⟩ : ∃ L, L = cob h.1 (h.1 + 135) (h.1 + 139) :: ccs h.1 f g := ⟨_, rfl⟩
  have hl : L.length = 162 := by rw [hL, List.length_cons, ccs_l]
  rw [← hL]
  have hm : (NW h s1 L).1 = h.1 + 162 := by rw [NW_1, hl]
  obtain ⟨hh, hhe⟩ : ∃ hh, hh = NW (NW h s1 L) s2 (mo (h.1 + 162) (fun _ => 0) .null (h.1 + 162 + 6) :: (mrows ++ [.inl (3, 1, .inr (.inl (fun _ => 0)))])) := ⟨_, rfl⟩
  rw [← hhe]
  have lowL : ∀ q, q < h.1 + 162 → hh.2.2 q = (NW h s1 L).2.2 q := fun q hq => by rw [hhe]; exact NW_b (by rw [hm]; exact hq)
  have low : ∀ q, q < h.1 → hh.2.2 q = h.2.2 q := fun q hq => (lowL q (by omega)).trans (NW_b hq)
  have hi : ∀ j x, (mo (h.1 + 162) (fun _ => 0) .null (h.1 + 162 + 6) :: (mrows ++ [.inl (3, 1, .inr (.inl (fun _ => 0)))]))[j]? = some x → hh.2.2 (h.1 + 162 + j) = x := fun j x hx => by
    have := NW_g (h := NW h s1 L) (s := s2) hx
    rw [hm] at this
    rw [hhe]
    exact this
  have hW : CW sa hh h.1 (0, fun _ => 0) (0, fun _ => 0) nw0 pa0 (h.1 + 135, h.1 + 139, rfirst) (0, fun _ => 0) (0, fun _ => 0, fun _ => 0, fun _ => 0) 0 := by
    refine cc_CW (f := f) (g := g) (fun i x hx => ?_) hf hg (SH_same hSo (fun q hq => low q hq) hS) hSo
    have hb : i < 162 := by
      have := (List.getElem?_eq_some_iff.mp hx).1
      rwa [← hL, hl] at this
    rw [lowL _ (by omega)]
    exact NW_g (by rw [hL]; exact hx)
  have hM : MV (fun _ => 0) (fun i => hh.2.2 (h.1 + 162 + i)) (0, fun _ => 0) (0, fun _ => 0) nw0 pa0 rfirst (0, fun _ => 0) (0, fun _ => 0, fun _ => 0, fun _ => 0) := by
    refine mm_MV (fun j x hx => hi (j + 1) x ?_)
    rw [List.getElem?_cons_succ, List.getElem?_append_left (List.getElem?_eq_some_iff.mp hx).1]
    exact hx
  refine ⟨_, _, _, _, _, _, _, _, hh, fun _ => 0, .null, fun i => hh.2.2 (h.1 + 162 + i), ?_, hW, hM, ⟨fun i _ _ => bt_0, fun _ _ i _ _ => bt_0, fun _ _ i _ _ => bt_0⟩, ⟨⟨fun _ => 0, ?_⟩, ?_, ?_, Nat.le_refl _⟩⟩
  · refine tcp_ext rfl rfl (fun q => ?_)
    show hh.2.2 q = (if q = h.1 + 162 then mo (h.1 + 162) (fun _ => 0) .null (h.1 + 162 + 6) else if q < h.1 + 162 then hh.2.2 q else if q < h.1 + 162 + 30 then hh.2.2 (h.1 + 162 + (q - (h.1 + 162))) else hh.2.2 q)
    by_cases c1 : q = h.1 + 162
    · rw [if_pos c1, c1]
      exact hi 0 _ rfl
    · rw [if_neg c1]
      by_cases c2 : q < h.1 + 162
      · rw [if_pos c2]
      · rw [if_neg c2]
        by_cases c3 : q < h.1 + 162 + 30
        · rw [if_pos c3, show h.1 + 162 + (q - (h.1 + 162)) = q by omega]
        · rw [if_neg c3]
  · exact hi 30 _ rfl
  · rw [hhe, NW_1, hm]
    rfl
  · rw [hhe]
    show h.2.1 + s1 + s2 = h.2.1 + (s1 + s2)
    omega
theorem NW_n1 {h : tm_H} {n : Nat} {e : tm_E} : tm_new h n e = NW h (0 + n) [e] := (congrArg (fun x => tm_new x n e) (NW_nil (h := h))).trans NW_new
section
variable {sa : g_SA} {sc : Nat × Nat × (Nat → Int32)} {xt : Nat → Nat → List Value → tm_H → Option (Option Value × tm_H)} {d : Nat} {h : tm_H} {Q : Option Value → tm_H → Prop}
theorem law_start (hS : SH sa h) (hSo : SHo sa h.1) (hN : ∀ hh s', s' ≤ 20000 → RLX sa h.1 (h.1 + 193, h.2.1 + s') hh → tm_X (g_G sa sc xt) (d + 301) 0 23 [.ref sc.1, .ref h.1, .ref (h.1 + 162), .ref (h.1 + 192), .int (nI 0), tm_z, tm_z, tm_z] [] hh Q) : tm_X (g_G sa sc xt) (d + 301) 0 0 [.ref sc.1, tm_z, tm_z, tm_z, tm_z, tm_z, tm_z, tm_z] [] h Q := by
  simp only [s_0_0, s_0_3, s_0_4, x_get_i, List.getElem?_cons_succ, List.getElem?_cons_zero, x_cv_j, cs_n, cs_i, cs_r, cs_l, Nat.reduceAdd, Nat.reduceLeDiff, true_and, Option.toList_some, Option.toList_none, List.cons_append, List.nil_append, if_true, if_false, nb0, nb1, x_setJ, x_setZ0, x_setZ1, x_setA, x_setO, List.length_cons, List.length_nil, Nat.reduceLT, List.set_cons_succ, List.set_cons_zero, wrl_0, wrl_1, wrl_2, wrl_3, wrl_4, wrl_5, wrl_p0, wrl_p1, wrl_p2, wrl_p3, wrl_p4, mh_o, mh_po, mcv, mg_0, mg_1, mg_2, mg_3, mg_4, mg_5, mg_6, mg_7, mg_8, mg_9, mg_10, mg_11, mg_12, mg_13, mg_14, mg_15, mg_16, mg_17, mg_18, mg_19, mg_20, mg_21, mg_22, mg_23, mg_24, mg_25, mg_26, mg_27, mg_28, mg_29, mg_30, mg_31, mg_32, mg_33, mg_34, mg_35, mg_36, mg_37, mg_38, mg_39, mg_40, mg_41, mg_42, mg_43, mg_44, mg_45, mg_46, ms_1, ms_4, ms_6, ms_7, ms_9, ms_10, ms_11, ms_12, ms_16, ms_20, ms_24, ms_28, ms_35, ms_39, ms_42, ms_43, ms_17t, ms_17f, ms_8, ms_14, mc_1, mp_1, mc_2, mp_2, mc_3, mp_3, mc_4, mp_4, mc_5, mp_5, mc_6, mp_6, mc_7, mp_7, mc_8, mp_8, mc_9, mp_9, mc_10, mp_10, mc_11, mp_11, mc_12, mp_12, mc_13, mp_13, mc_14, mp_14, mc_15, mp_15, mc_16, mp_16, mc_17, mp_17, mc_18, mp_18, mc_19, mp_19, mc_20, mp_20, mc_21, mp_21, mc_22, mp_22, mc_23, mp_23, mc_24, mp_24, mc_25, mp_25, mc_26, mp_26, mc_27, mp_27, mc_28, mp_28, mc_29, mp_29, iu, cup, Nat.reduceEqDiff, NW_n1]
  refine n_class (d := d + 296) (fun s1 f g hs1 hf hg => ?_)
  obtain ⟨L, hL⟩ : ∃ L, L = cob h.1 (h.1 + 135) (h.1 + 139) :: ccs h.1 f g := ⟨_, rfl⟩
  have hl : L.length = 162 := by rw [hL, List.length_cons, ccs_l]
  rw [← hL]
  have hm : (NW h s1 L).1 = h.1 + 162 := by rw [NW_1, hl]
  simp only [s_0_7, s_0_8, s_0_11, s_0_12, x_get_i, List.getElem?_cons_succ, List.getElem?_cons_zero, x_cv_j, cs_n, cs_i, cs_r, cs_l, Nat.reduceAdd, Nat.reduceLeDiff, true_and, Option.toList_some, Option.toList_none, List.cons_append, List.nil_append, if_true, if_false, nb0, nb1, x_setJ, x_setZ0, x_setZ1, x_setA, x_setO, List.length_cons, List.length_nil, Nat.reduceLT, List.set_cons_succ, List.set_cons_zero, wrl_0, wrl_1, wrl_2, wrl_3, wrl_4, wrl_5, wrl_p0, wrl_p1, wrl_p2, wrl_p3, wrl_p4, mh_o, mh_po, mcv, mg_0, mg_1, mg_2, mg_3, mg_4, mg_5, mg_6, mg_7, mg_8, mg_9, mg_10, mg_11, mg_12, mg_13, mg_14, mg_15, mg_16, mg_17, mg_18, mg_19, mg_20, mg_21, mg_22, mg_23, mg_24, mg_25, mg_26, mg_27, mg_28, mg_29, mg_30, mg_31, mg_32, mg_33, mg_34, mg_35, mg_36, mg_37, mg_38, mg_39, mg_40, mg_41, mg_42, mg_43, mg_44, mg_45, mg_46, ms_1, ms_4, ms_6, ms_7, ms_9, ms_10, ms_11, ms_12, ms_16, ms_20, ms_24, ms_28, ms_35, ms_39, ms_42, ms_43, ms_17t, ms_17f, ms_8, ms_14, mc_1, mp_1, mc_2, mp_2, mc_3, mp_3, mc_4, mp_4, mc_5, mp_5, mc_6, mp_6, mc_7, mp_7, mc_8, mp_8, mc_9, mp_9, mc_10, mp_10, mc_11, mp_11, mc_12, mp_12, mc_13, mp_13, mc_14, mp_14, mc_15, mp_15, mc_16, mp_16, mc_17, mp_17, mc_18, mp_18, mc_19, mp_19, mc_20, mp_20, mc_21, mp_21, mc_22, mp_22, mc_23, mp_23, mc_24, mp_24, mc_25, mp_25, mc_26, mp_26, mc_27, mp_27, mc_28, mp_28, mc_29, mp_29, iu, cup, Nat.reduceEqDiff, NW_n1]
  refine n_model (d := d + 299) (fun s2 hs2 => ?_)
  have hm2 : (NW (NW h s1 L) s2 (mo (NW h s1 L).1 (fun _ => 0) .null ((NW h s1 L).1 + 6) :: mrows)).1 = h.1 + 192 := by
    rw [NW_1, hm]
    rfl
  simp only [s_0_15, s_0_16, s_0_17, s_0_19, s_0_20, s_0_21, x_get_i, List.getElem?_cons_succ, List.getElem?_cons_zero, x_cv_j, cs_n, cs_i, cs_r, cs_l, Nat.reduceAdd, Nat.reduceLeDiff, true_and, Option.toList_some, Option.toList_none, List.cons_append, List.nil_append, if_true, if_false, nb0, nb1, x_setJ, x_setZ0, x_setZ1, x_setA, x_setO, List.length_cons, List.length_nil, Nat.reduceLT, List.set_cons_succ, List.set_cons_zero, wrl_0, wrl_1, wrl_2, wrl_3, wrl_4, wrl_5, wrl_p0, wrl_p1, wrl_p2, wrl_p3, wrl_p4, mh_o, mh_po, mcv, mg_0, mg_1, mg_2, mg_3, mg_4, mg_5, mg_6, mg_7, mg_8, mg_9, mg_10, mg_11, mg_12, mg_13, mg_14, mg_15, mg_16, mg_17, mg_18, mg_19, mg_20, mg_21, mg_22, mg_23, mg_24, mg_25, mg_26, mg_27, mg_28, mg_29, mg_30, mg_31, mg_32, mg_33, mg_34, mg_35, mg_36, mg_37, mg_38, mg_39, mg_40, mg_41, mg_42, mg_43, mg_44, mg_45, mg_46, ms_1, ms_4, ms_6, ms_7, ms_9, ms_10, ms_11, ms_12, ms_16, ms_20, ms_24, ms_28, ms_35, ms_39, ms_42, ms_43, ms_17t, ms_17f, ms_8, ms_14, mc_1, mp_1, mc_2, mp_2, mc_3, mp_3, mc_4, mp_4, mc_5, mp_5, mc_6, mp_6, mc_7, mp_7, mc_8, mp_8, mc_9, mp_9, mc_10, mp_10, mc_11, mp_11, mc_12, mp_12, mc_13, mp_13, mc_14, mp_14, mc_15, mp_15, mc_16, mp_16, mc_17, mp_17, mc_18, mp_18, mc_19, mp_19, mc_20, mp_20, mc_21, mp_21, mc_22, mp_22, mc_23, mp_23, mc_24, mp_24, mc_25, mp_25, mc_26, mp_26, mc_27, mp_27, mc_28, mp_28, mc_29, mp_29, iu, cup, Nat.reduceEqDiff, show ((1 : Int32) < 0 ∨ 60000000 < (1 : Int32).toNatClampNeg) = False from (z32 1 (by decide)).1, show (1 : Int32).toNatClampNeg = 1 from (z32 1 (by decide)).2, hm2, NW_new]
  rw [hm]
  refine hN _ (s1 + (s2 + 1)) (by omega) ?_
  rw [hL]
  exact start_R hf hg hS hSo
end
