/-! the reference: goNight, goNights -/
theorem n36 : 36 < 2 ^ 31 := by decide
/-- only what a night may write has changed, the row at j aside -/
def NSC (j : Nat) (I I' : Nat → Int32) (C C' : Nat → tm_E) : Prop := (∀ k, k ≠ 9 → k ≠ 10 → k ≠ 11 → k ≠ 12 → I' k = I k) ∧ (∀ i, i ≠ 8 → i ≠ 5 → i ≠ j → C' i = C i) ∧ (∃ f, C' 8 = .inl (0, 7, .inl f)) ∧ ∃ f, C' 5 = .inl (0, 36, .inl f)
theorem NSC.trans {j : Nat} {I I' I2 : Nat → Int32} {C C' C2 : Nat → tm_E} (a : NSC j I I' C C') (b : NSC j I' I2 C' C2) : NSC j I I2 C C2 := ⟨fun k h1 h2 h3 h4 => (b.1 k h1 h2 h3 h4).trans (a.1 k h1 h2 h3 h4), fun i h1 h2 h3 => (b.2.1 i h1 h2 h3).trans (a.2.1 i h1 h2 h3), b.2.2⟩
/-- what a night needs of the reference -/
def NGT (I : Nat → Int32) (C : Nat → tm_E) (m ru n : Nat) (Lm : Nat → Int32) (cd : List Int32) : Prop := I 1 = nI n ∧ n ≤ 12 ∧ C 2 = .inl (0, 12, .inl Lm) ∧ (∃ f, C 8 = .inl (0, 7, .inl f)) ∧ (∃ f, C 5 = .inl (0, 36, .inl f)) ∧ I 17 = 0 ∧ (ru = m + 6 ∨ ru = m + 7) ∧ ∃ rs T F, I 16 = nI rs ∧ rs ≤ 40 ∧ C (ru - m) = .inl (1, 40, .inl T) ∧ RT T F 40 ∧ rrd F rs = .inr cd
theorem NGT_sc {j m ru n : Nat} {I I' : Nat → Int32} {C C' : Nat → tm_E} {Lm : Nat → Int32} {cd : List Int32} (hj : j = 1 ∨ j = 11) (a : NSC j I I' C C') (h : NGT I C m ru n Lm cd) : NGT I' C' m ru n Lm cd := by
  obtain ⟨h1, h2, h3, h4, h5, h6, h7, rs, T, F, h8, h9, h10, h11, h12⟩ := h
  obtain ⟨a1, a2, a3, a4⟩ := a
  refine ⟨by rw [a1 1 (by decide) (by decide) (by decide) (by decide)]; exact h1, h2, by rw [a2 2 (by decide) (by decide) (by omega)]; exact h3, a3, a4, by rw [a1 17 (by decide) (by decide) (by decide) (by decide)]; exact h6, h7, rs, T, F, by rw [a1 16 (by decide) (by decide) (by decide) (by decide)]; exact h8, h9, ?_, h11, h12⟩
  rw [a2 _ (by omega) (by omega) (by omega)]
  exact h10
section
variable {sa : g_SA} {sc : Nat × Nat × (Nat → Int32)} {xt : Nat → Nat → List Value → tm_H → Option (Option Value × tm_H)} {d m : Nat} {h : tm_H} {Q : Option Value → tm_H → Prop} {I : Nat → Int32} {rd : Value} {ru : Nat} {C : Nat → tm_E}
variable {x n s rs : Nat} {N Lm L W M B : Nat → Int32} {g sd : Int32} {cd : List Int32}
set_option maxHeartbeats 2000000 in
theorem r_goNight (hG : NGT I C m ru n Lm cd) (hx : x = m + 1 ∨ x = m + 11) (hxN : C (x - m) = .inl (0, 38, .inl N)) (hr : RW N (L, W, M, B, n, sd, g)) (hL : ∀ i, i < n → Lm i = L i) (hLb : BX n L) (hBb : BX n B) (hQ : ∀ I' rd' C' N', NSC (x - m) I I' C C' → C' (x - m) = .inl (0, 38, .inl N') → RW N' (nXT cd (tc_allv (nI n)) 1 (L, W, M, B, n, sd, g)) → Q none (mh h m I' rd' ru C')) : tm_D (g_G sa sc xt) (d + 268) 221 [.ref m, .ref x] (mh h m I rd ru C) Q := by
  obtain ⟨j, hj, ej⟩ : ∃ j, (j = 1 ∨ j = 11) ∧ x = m + j := by
    rcases hx with e | e
    · exact ⟨1, Or.inl rfl, e⟩
    · exact ⟨11, Or.inr rfl, e⟩
  subst ej
  rw [Nat.add_sub_cancel_left] at hxN hQ
  have j1 : 0 < j := by omega
  have j2 : j < 30 := by omega
  have n36' : (36 : Int32) = nI 36 := rfl
  have c8 : ¬ (8 : Int32) = 0 := by decide
  have hn : n ≤ 12 := hG.2.1
  have cj : ∀ (C : Nat → tm_E) (e : tm_E), cup C j e j = e := fun C e => if_pos rfl
  -- (3) moods
  have loop3 : ∀ (r k : Nat) (I0 : Nat → Int32) (rd0 : Value) (C0 : Nat → tm_E) (N0 A : Nat → Int32), k + r = n → NSC j I I0 C C0 → C0 j = .inl (0, 38, .inl N0) → C0 5 = .inl (0, 36, .inl A) → RW N0 (L, W, nM (fun E => evv E cd) L W M (be (tc_dB sd L W B n)) n g (tc_allv (nI n)) k, tc_dB sd L W B n, n, 0, g) → (∀ i, i < n → pm (M i + A i) = nE (fun E => evv E cd) L W M (be (tc_dB sd L W B n)) n g i) → tm_X (g_G sa sc xt) (d + 268) 221 99 [.ref m, .ref (m + j), .int (nI k)] [] (mh h m I0 rd0 ru C0) Q := by
    intro r
    induction r with
    | zero =>
      intro k I0 rd0 C0 N0 A hk sc0 hc0 h5 hw hA
      have hk : k = n := by omega
      subst hk
      have h1 := (NGT_sc hj sc0 hG).1
      have hcell : (mh h m I0 rd0 ru C0).2.2 (m + j) = .inl (0, 38, .inl N0) := (mh_c j1 j2).trans hc0
      rw [s_221_99]
      simp only [s_221_0, s_221_1, s_221_3, s_221_4, s_221_7, s_221_10, s_221_11, s_221_13, s_221_14, s_221_15, s_221_18, s_221_21, s_221_24, s_221_25, s_221_27, s_221_28, s_221_29, s_221_30, s_221_31, s_221_32, s_221_34, s_221_37, s_221_38, s_221_41, s_221_42, s_221_43, s_221_44, s_221_45, s_221_47, s_221_48, s_221_51, s_221_52, s_221_55, s_221_56, s_221_57, s_221_58, s_221_61, s_221_64, s_221_65, s_221_67, s_221_68, s_221_69, s_221_70, s_221_72, s_221_73, s_221_76, s_221_79, s_221_80, s_221_83, s_221_84, s_221_85, s_221_86, s_221_87, s_221_90, s_221_91, s_221_94, s_221_97, s_221_98, s_221_100, s_221_101, s_221_104, s_221_107, s_221_108, s_221_110, s_221_111, s_221_112, s_221_113, s_221_115, s_221_116, s_221_117, s_221_118, s_221_119, s_221_122, s_221_123, s_221_124, s_221_125, s_221_128, s_221_129, s_221_132, s_221_135, s_221_136, s_221_138, s_221_139, s_221_140, s_221_141, s_221_142, s_221_143, x_get_i, List.getElem?_cons_succ, List.getElem?_cons_zero, x_cv_j, cs_n, cs_i, cs_r, cs_l, Nat.reduceAdd, Nat.reduceLeDiff, true_and, Option.toList_some, Option.toList_none, List.cons_append, List.nil_append, if_true, if_false, nb0, nb1, x_setJ, x_setZ0, x_setZ1, x_setA, x_setO, List.length_cons, List.length_nil, Nat.reduceLT, List.set_cons_succ, List.set_cons_zero, wrl_0, wrl_1, wrl_2, wrl_3, wrl_4, wrl_5, wrl_p0, wrl_p1, wrl_p2, wrl_p3, wrl_p4, mh_o, mh_po, mcv, mg_0, mg_1, mg_2, mg_3, mg_4, mg_5, mg_6, mg_7, mg_8, mg_9, mg_10, mg_11, mg_12, mg_13, mg_14, mg_15, mg_16, mg_17, mg_18, mg_19, mg_20, mg_21, mg_22, mg_23, mg_24, mg_25, mg_26, mg_27, mg_28, mg_29, mg_30, mg_31, mg_32, mg_33, mg_34, mg_35, mg_36, mg_37, mg_38, mg_39, mg_40, mg_41, mg_42, mg_43, mg_44, mg_45, mg_46, ms_1, ms_4, ms_6, ms_7, ms_9, ms_10, ms_11, ms_12, ms_16, ms_20, ms_24, ms_28, ms_35, ms_39, ms_42, ms_43, ms_17t, ms_17f, ms_8, ms_14, mc_1, mp_1, mc_2, mp_2, mc_3, mp_3, mc_4, mp_4, mc_5, mp_5, mc_6, mp_6, mc_7, mp_7, mc_8, mp_8, mc_9, mp_9, mc_10, mp_10, mc_11, mp_11, mc_12, mp_12, mc_13, mp_13, mc_14, mp_14, mc_15, mp_15, mc_16, mp_16, mc_17, mp_17, mc_18, mp_18, mc_19, mp_19, mc_20, mp_20, mc_21, mp_21, mc_22, mp_22, mc_23, mp_23, mc_24, mp_24, mc_25, mp_25, mc_26, mp_26, mc_27, mp_27, mc_28, mp_28, mc_29, mp_29, iu, cup, Nat.reduceEqDiff, h1, Int32.le_refl, hcell, i37, x_ild_n (show 37 < 38 by decide) n38, x_ist_n (show 37 < 38 by decide) n38, mh_pc j1 j2]
      have e37 : N0 37 = g := hw.2.2.2.2
      rw [e37]
      refine hQ _ _ _ _ ⟨sc0.1, fun i i1 i2 i3 => ?_, ?_, ?_⟩ (cj _ _) (RW_g hw)
      · exact (if_neg i3).trans (sc0.2.1 i i1 i2 i3)
      · obtain ⟨f, hf⟩ := sc0.2.2.1
        exact ⟨f, (if_neg (by omega)).trans hf⟩
      · obtain ⟨f, hf⟩ := sc0.2.2.2
        exact ⟨f, (if_neg (by omega)).trans hf⟩
    | succ r ih =>
      intro k I0 rd0 C0 N0 A hk sc0 hc0 h5 hw hA
      have h1 := (NGT_sc hj sc0 hG).1
      have hcell : (mh h m I0 rd0 ru C0).2.2 (m + j) = .inl (0, 38, .inl N0) := (mh_c j1 j2).trans hc0
      have hkn : k < n := by omega
      have es : nM (fun E => evv E cd) L W M (be (tc_dB sd L W B n)) n g (tc_allv (nI n)) (k + 1) = if (tc_allv (nI n) >>> (nI k &&& 31)) &&& 1 = 1 then upd (nM (fun E => evv E cd) L W M (be (tc_dB sd L W B n)) n g (tc_allv (nI n)) k) k (nE (fun E => evv E cd) L W M (be (tc_dB sd L W B n)) n g k) else nM (fun E => evv E cd) L W M (be (tc_dB sd L W B n)) n g (tc_allv (nI n)) k := rfl
      rw [if_pos (all_bit hn hkn)] at es
      have eN : N0 (12 + k) = M k := by
        have := hw.2.1 k (by omega)
        rw [this]
        exact nM_ge (Nat.le_refl _)
      rw [s_221_99]
      simp only [s_221_0, s_221_1, s_221_3, s_221_4, s_221_7, s_221_10, s_221_11, s_221_13, s_221_14, s_221_15, s_221_18, s_221_21, s_221_24, s_221_25, s_221_27, s_221_28, s_221_29, s_221_30, s_221_31, s_221_32, s_221_34, s_221_37, s_221_38, s_221_41, s_221_42, s_221_43, s_221_44, s_221_45, s_221_47, s_221_48, s_221_51, s_221_52, s_221_55, s_221_56, s_221_57, s_221_58, s_221_61, s_221_64, s_221_65, s_221_67, s_221_68, s_221_69, s_221_70, s_221_72, s_221_73, s_221_76, s_221_79, s_221_80, s_221_83, s_221_84, s_221_85, s_221_86, s_221_87, s_221_90, s_221_91, s_221_94, s_221_97, s_221_98, s_221_100, s_221_101, s_221_104, s_221_107, s_221_108, s_221_110, s_221_111, s_221_112, s_221_113, s_221_115, s_221_116, s_221_117, s_221_118, s_221_119, s_221_122, s_221_123, s_221_124, s_221_125, s_221_128, s_221_129, s_221_132, s_221_135, s_221_136, s_221_138, s_221_139, s_221_140, s_221_141, s_221_142, s_221_143, x_get_i, List.getElem?_cons_succ, List.getElem?_cons_zero, x_cv_j, cs_n, cs_i, cs_r, cs_l, Nat.reduceAdd, Nat.reduceLeDiff, true_and, Option.toList_some, Option.toList_none, List.cons_append, List.nil_append, if_true, if_false, nb0, nb1, x_setJ, x_setZ0, x_setZ1, x_setA, x_setO, List.length_cons, List.length_nil, Nat.reduceLT, List.set_cons_succ, List.set_cons_zero, wrl_0, wrl_1, wrl_2, wrl_3, wrl_4, wrl_5, wrl_p0, wrl_p1, wrl_p2, wrl_p3, wrl_p4, mh_o, mh_po, mcv, mg_0, mg_1, mg_2, mg_3, mg_4, mg_5, mg_6, mg_7, mg_8, mg_9, mg_10, mg_11, mg_12, mg_13, mg_14, mg_15, mg_16, mg_17, mg_18, mg_19, mg_20, mg_21, mg_22, mg_23, mg_24, mg_25, mg_26, mg_27, mg_28, mg_29, mg_30, mg_31, mg_32, mg_33, mg_34, mg_35, mg_36, mg_37, mg_38, mg_39, mg_40, mg_41, mg_42, mg_43, mg_44, mg_45, mg_46, ms_1, ms_4, ms_6, ms_7, ms_9, ms_10, ms_11, ms_12, ms_16, ms_20, ms_24, ms_28, ms_35, ms_39, ms_42, ms_43, ms_17t, ms_17f, ms_8, ms_14, mc_1, mp_1, mc_2, mp_2, mc_3, mp_3, mc_4, mp_4, mc_5, mp_5, mc_6, mp_6, mc_7, mp_7, mc_8, mp_8, mc_9, mp_9, mc_10, mp_10, mc_11, mp_11, mc_12, mp_12, mc_13, mp_13, mc_14, mp_14, mc_15, mp_15, mc_16, mp_16, mc_17, mp_17, mc_18, mp_18, mc_19, mp_19, mc_20, mp_20, mc_21, mp_21, mc_22, mp_22, mc_23, mp_23, mc_24, mp_24, mc_25, mp_25, mc_26, mp_26, mc_27, mp_27, mc_28, mp_28, mc_29, mp_29, iu, cup, Nat.reduceEqDiff, h1, show ¬ nI n ≤ nI k from nI_ge hkn (by omega), hcell, h5, e12, x_ild_n (show 12 + k < 38 by omega) n38, x_ild_n (show k < 36 by omega) n36, r_put, x_ist_n (show 12 + k < 38 by omega) n38, mh_pc j1 j2, eN, hA k hkn, nI_1]
      have hw2 := RW_M (k := k) (v := nE (fun E => evv E cd) L W M (be (tc_dB sd L W B n)) n g k) (by omega) hw
      rw [← es] at hw2
      refine ih (k + 1) I0 rd0 _ _ A (by omega) ⟨sc0.1, fun i i1 i2 i3 => (if_neg i3).trans (sc0.2.1 i i1 i2 i3), ?_, ?_⟩ (cj _ _) ((if_neg (by omega)).trans h5) hw2 hA
      · obtain ⟨f, hf⟩ := sc0.2.2.1
        exact ⟨f, (if_neg (by omega)).trans hf⟩
      · obtain ⟨f, hf⟩ := sc0.2.2.2
        exact ⟨f, (if_neg (by omega)).trans hf⟩
  -- (2) turns
  have hB1 := BX_dB (s := sd) (W := W) hLb hBb n (Nat.le_refl _)
  have loop2 : ∀ (r k : Nat) (I0 : Nat → Int32) (rd0 : Value) (C0 : Nat → tm_E) (N0 A : Nat → Int32), k + r = n → NSC j I I0 C C0 → C0 j = .inl (0, 38, .inl N0) → C0 5 = .inl (0, 36, .inl A) → RW N0 (L, W, M, tc_dB sd L W B n, n, 0, g) → (∀ i, i < k → pm (M i + A i) = nE (fun E => evv E cd) L W M (be (tc_dB sd L W B n)) n g i) → tm_X (g_G sa sc xt) (d + 268) 221 71 [.ref m, .ref (m + j), .int (nI k)] [] (mh h m I0 rd0 ru C0) Q := by
    intro r
    induction r with
    | zero =>
      intro k I0 rd0 C0 N0 A hk sc0 hc0 h5 hw hA
      have hk : k = n := by omega
      subst hk
      have h1 := (NGT_sc hj sc0 hG).1
      rw [s_221_71]
      simp only [s_221_0, s_221_1, s_221_3, s_221_4, s_221_7, s_221_10, s_221_11, s_221_13, s_221_14, s_221_15, s_221_18, s_221_21, s_221_24, s_221_25, s_221_27, s_221_28, s_221_29, s_221_30, s_221_31, s_221_32, s_221_34, s_221_37, s_221_38, s_221_41, s_221_42, s_221_43, s_221_44, s_221_45, s_221_47, s_221_48, s_221_51, s_221_52, s_221_55, s_221_56, s_221_57, s_221_58, s_221_61, s_221_64, s_221_65, s_221_67, s_221_68, s_221_69, s_221_70, s_221_72, s_221_73, s_221_76, s_221_79, s_221_80, s_221_83, s_221_84, s_221_85, s_221_86, s_221_87, s_221_90, s_221_91, s_221_94, s_221_97, s_221_98, s_221_100, s_221_101, s_221_104, s_221_107, s_221_108, s_221_110, s_221_111, s_221_112, s_221_113, s_221_115, s_221_116, s_221_117, s_221_118, s_221_119, s_221_122, s_221_123, s_221_124, s_221_125, s_221_128, s_221_129, s_221_132, s_221_135, s_221_136, s_221_138, s_221_139, s_221_140, s_221_141, s_221_142, s_221_143, x_get_i, List.getElem?_cons_succ, List.getElem?_cons_zero, x_cv_j, cs_n, cs_i, cs_r, cs_l, Nat.reduceAdd, Nat.reduceLeDiff, true_and, Option.toList_some, Option.toList_none, List.cons_append, List.nil_append, if_true, if_false, nb0, nb1, x_setJ, x_setZ0, x_setZ1, x_setA, x_setO, List.length_cons, List.length_nil, Nat.reduceLT, List.set_cons_succ, List.set_cons_zero, wrl_0, wrl_1, wrl_2, wrl_3, wrl_4, wrl_5, wrl_p0, wrl_p1, wrl_p2, wrl_p3, wrl_p4, mh_o, mh_po, mcv, mg_0, mg_1, mg_2, mg_3, mg_4, mg_5, mg_6, mg_7, mg_8, mg_9, mg_10, mg_11, mg_12, mg_13, mg_14, mg_15, mg_16, mg_17, mg_18, mg_19, mg_20, mg_21, mg_22, mg_23, mg_24, mg_25, mg_26, mg_27, mg_28, mg_29, mg_30, mg_31, mg_32, mg_33, mg_34, mg_35, mg_36, mg_37, mg_38, mg_39, mg_40, mg_41, mg_42, mg_43, mg_44, mg_45, mg_46, ms_1, ms_4, ms_6, ms_7, ms_9, ms_10, ms_11, ms_12, ms_16, ms_20, ms_24, ms_28, ms_35, ms_39, ms_42, ms_43, ms_17t, ms_17f, ms_8, ms_14, mc_1, mp_1, mc_2, mp_2, mc_3, mp_3, mc_4, mp_4, mc_5, mp_5, mc_6, mp_6, mc_7, mp_7, mc_8, mp_8, mc_9, mp_9, mc_10, mp_10, mc_11, mp_11, mc_12, mp_12, mc_13, mp_13, mc_14, mp_14, mc_15, mp_15, mc_16, mp_16, mc_17, mp_17, mc_18, mp_18, mc_19, mp_19, mc_20, mp_20, mc_21, mp_21, mc_22, mp_22, mc_23, mp_23, mc_24, mp_24, mc_25, mp_25, mc_26, mp_26, mc_27, mp_27, mc_28, mp_28, mc_29, mp_29, iu, cup, Nat.reduceEqDiff, h1, Int32.le_refl]
      exact loop3 k 0 I0 rd0 C0 N0 A (by omega) sc0 hc0 h5 hw hA
    | succ r ih =>
      intro k I0 rd0 C0 N0 A hk sc0 hc0 h5 hw hA
      have hG0 := NGT_sc hj sc0 hG
      obtain ⟨h1, -, h3, ⟨f8, h8⟩, -, h17, hru, rs, T, F, h16, hrs, hT, hRT, hcd⟩ := hG0
      have hkn : k < n := by omega
      rw [s_221_71]
      simp only [s_221_0, s_221_1, s_221_3, s_221_4, s_221_7, s_221_10, s_221_11, s_221_13, s_221_14, s_221_15, s_221_18, s_221_21, s_221_24, s_221_25, s_221_27, s_221_28, s_221_29, s_221_30, s_221_31, s_221_32, s_221_34, s_221_37, s_221_38, s_221_41, s_221_42, s_221_43, s_221_44, s_221_45, s_221_47, s_221_48, s_221_51, s_221_52, s_221_55, s_221_56, s_221_57, s_221_58, s_221_61, s_221_64, s_221_65, s_221_67, s_221_68, s_221_69, s_221_70, s_221_72, s_221_73, s_221_76, s_221_79, s_221_80, s_221_83, s_221_84, s_221_85, s_221_86, s_221_87, s_221_90, s_221_91, s_221_94, s_221_97, s_221_98, s_221_100, s_221_101, s_221_104, s_221_107, s_221_108, s_221_110, s_221_111, s_221_112, s_221_113, s_221_115, s_221_116, s_221_117, s_221_118, s_221_119, s_221_122, s_221_123, s_221_124, s_221_125, s_221_128, s_221_129, s_221_132, s_221_135, s_221_136, s_221_138, s_221_139, s_221_140, s_221_141, s_221_142, s_221_143, x_get_i, List.getElem?_cons_succ, List.getElem?_cons_zero, x_cv_j, cs_n, cs_i, cs_r, cs_l, Nat.reduceAdd, Nat.reduceLeDiff, true_and, Option.toList_some, Option.toList_none, List.cons_append, List.nil_append, if_true, if_false, nb0, nb1, x_setJ, x_setZ0, x_setZ1, x_setA, x_setO, List.length_cons, List.length_nil, Nat.reduceLT, List.set_cons_succ, List.set_cons_zero, wrl_0, wrl_1, wrl_2, wrl_3, wrl_4, wrl_5, wrl_p0, wrl_p1, wrl_p2, wrl_p3, wrl_p4, mh_o, mh_po, mcv, mg_0, mg_1, mg_2, mg_3, mg_4, mg_5, mg_6, mg_7, mg_8, mg_9, mg_10, mg_11, mg_12, mg_13, mg_14, mg_15, mg_16, mg_17, mg_18, mg_19, mg_20, mg_21, mg_22, mg_23, mg_24, mg_25, mg_26, mg_27, mg_28, mg_29, mg_30, mg_31, mg_32, mg_33, mg_34, mg_35, mg_36, mg_37, mg_38, mg_39, mg_40, mg_41, mg_42, mg_43, mg_44, mg_45, mg_46, ms_1, ms_4, ms_6, ms_7, ms_9, ms_10, ms_11, ms_12, ms_16, ms_20, ms_24, ms_28, ms_35, ms_39, ms_42, ms_43, ms_17t, ms_17f, ms_8, ms_14, mc_1, mp_1, mc_2, mp_2, mc_3, mp_3, mc_4, mp_4, mc_5, mp_5, mc_6, mp_6, mc_7, mp_7, mc_8, mp_8, mc_9, mp_9, mc_10, mp_10, mc_11, mp_11, mc_12, mp_12, mc_13, mp_13, mc_14, mp_14, mc_15, mp_15, mc_16, mp_16, mc_17, mp_17, mc_18, mp_18, mc_19, mp_19, mc_20, mp_20, mc_21, mp_21, mc_22, mp_22, mc_23, mp_23, mc_24, mp_24, mc_25, mp_25, mc_26, mp_26, mc_27, mp_27, mc_28, mp_28, mc_29, mp_29, iu, cup, Nat.reduceEqDiff, h1, show ¬ nI n ≤ nI k from nI_ge hkn (by omega)]
      refine r_turnOf (d := d) h1 hn hkn (by omega) (by rw [Nat.add_sub_cancel_left]; exact hc0) h3 h8 h16 h17 hrs hru hT hRT hcd (fun I1 rd1 C1 ts => ?_)
      obtain ⟨t1, t2, t3⟩ := ts
      have h51 : C1 5 = .inl (0, 36, .inl A) := (t2 5 (by decide)).trans h5
      have e := renv_e hw hn hL hB1 hkn cd
      rw [e]
      simp only [s_221_0, s_221_1, s_221_3, s_221_4, s_221_7, s_221_10, s_221_11, s_221_13, s_221_14, s_221_15, s_221_18, s_221_21, s_221_24, s_221_25, s_221_27, s_221_28, s_221_29, s_221_30, s_221_31, s_221_32, s_221_34, s_221_37, s_221_38, s_221_41, s_221_42, s_221_43, s_221_44, s_221_45, s_221_47, s_221_48, s_221_51, s_221_52, s_221_55, s_221_56, s_221_57, s_221_58, s_221_61, s_221_64, s_221_65, s_221_67, s_221_68, s_221_69, s_221_70, s_221_72, s_221_73, s_221_76, s_221_79, s_221_80, s_221_83, s_221_84, s_221_85, s_221_86, s_221_87, s_221_90, s_221_91, s_221_94, s_221_97, s_221_98, s_221_100, s_221_101, s_221_104, s_221_107, s_221_108, s_221_110, s_221_111, s_221_112, s_221_113, s_221_115, s_221_116, s_221_117, s_221_118, s_221_119, s_221_122, s_221_123, s_221_124, s_221_125, s_221_128, s_221_129, s_221_132, s_221_135, s_221_136, s_221_138, s_221_139, s_221_140, s_221_141, s_221_142, s_221_143, x_get_i, List.getElem?_cons_succ, List.getElem?_cons_zero, x_cv_j, cs_n, cs_i, cs_r, cs_l, Nat.reduceAdd, Nat.reduceLeDiff, true_and, Option.toList_some, Option.toList_none, List.cons_append, List.nil_append, if_true, if_false, nb0, nb1, x_setJ, x_setZ0, x_setZ1, x_setA, x_setO, List.length_cons, List.length_nil, Nat.reduceLT, List.set_cons_succ, List.set_cons_zero, wrl_0, wrl_1, wrl_2, wrl_3, wrl_4, wrl_5, wrl_p0, wrl_p1, wrl_p2, wrl_p3, wrl_p4, mh_o, mh_po, mcv, mg_0, mg_1, mg_2, mg_3, mg_4, mg_5, mg_6, mg_7, mg_8, mg_9, mg_10, mg_11, mg_12, mg_13, mg_14, mg_15, mg_16, mg_17, mg_18, mg_19, mg_20, mg_21, mg_22, mg_23, mg_24, mg_25, mg_26, mg_27, mg_28, mg_29, mg_30, mg_31, mg_32, mg_33, mg_34, mg_35, mg_36, mg_37, mg_38, mg_39, mg_40, mg_41, mg_42, mg_43, mg_44, mg_45, mg_46, ms_1, ms_4, ms_6, ms_7, ms_9, ms_10, ms_11, ms_12, ms_16, ms_20, ms_24, ms_28, ms_35, ms_39, ms_42, ms_43, ms_17t, ms_17f, ms_8, ms_14, mc_1, mp_1, mc_2, mp_2, mc_3, mp_3, mc_4, mp_4, mc_5, mp_5, mc_6, mp_6, mc_7, mp_7, mc_8, mp_8, mc_9, mp_9, mc_10, mp_10, mc_11, mp_11, mc_12, mp_12, mc_13, mp_13, mc_14, mp_14, mc_15, mp_15, mc_16, mp_16, mc_17, mp_17, mc_18, mp_18, mc_19, mp_19, mc_20, mp_20, mc_21, mp_21, mc_22, mp_22, mc_23, mp_23, mc_24, mp_24, mc_25, mp_25, mc_26, mp_26, mc_27, mp_27, mc_28, mp_28, mc_29, mp_29, iu, cup, Nat.reduceEqDiff, h51, x_ist_n (show k < 36 by omega) n36, nI_1]
      refine ih (k + 1) I1 rd1 _ N0 _ (by omega) ⟨fun q q1 q2 q3 q4 => (t1 q q1 q2 q3 q4).trans (sc0.1 q q1 q2 q3 q4), fun i i1 i2 i3 => (if_neg i2).trans ((t2 i i1).trans (sc0.2.1 i i1 i2 i3)), ?_, ⟨_, if_pos rfl⟩⟩ ((if_neg (by omega)).trans ((t2 j (by omega)).trans hc0)) (if_pos rfl) hw (fun i hi => ?_)
      · obtain ⟨f, hf⟩ := t3
        exact ⟨f, (if_neg (by decide)).trans hf⟩
      · unfold upd
        by_cases q : i = k
        · rw [q, if_pos rfl]
          rfl
        · rw [if_neg q]
          exact hA i (by omega)
  -- (1) boxes
  have loop1 : ∀ (r k : Nat) (C0 : Nat → tm_E) (N0 : Nat → Int32), k + r = n → (∀ i, i ≠ j → C0 i = C i) → C0 j = .inl (0, 38, .inl N0) → RW N0 (L, W, M, tc_dB sd L W B k, n, sd, g) → tm_X (g_G sa sc xt) (d + 268) 221 2 [.ref m, .ref (m + j), .int (nI k)] [] (mh h m I rd ru C0) Q := by
    intro r
    induction r with
    | zero =>
      intro k C0 N0 hk sc0 hc0 hw
      have hk : k = n := by omega
      subst hk
      have h1 := hG.1
      have hcell : (mh h m I rd ru C0).2.2 (m + j) = .inl (0, 38, .inl N0) := (mh_c j1 j2).trans hc0
      rw [s_221_2]
      simp only [s_221_0, s_221_1, s_221_3, s_221_4, s_221_7, s_221_10, s_221_11, s_221_13, s_221_14, s_221_15, s_221_18, s_221_21, s_221_24, s_221_25, s_221_27, s_221_28, s_221_29, s_221_30, s_221_31, s_221_32, s_221_34, s_221_37, s_221_38, s_221_41, s_221_42, s_221_43, s_221_44, s_221_45, s_221_47, s_221_48, s_221_51, s_221_52, s_221_55, s_221_56, s_221_57, s_221_58, s_221_61, s_221_64, s_221_65, s_221_67, s_221_68, s_221_69, s_221_70, s_221_72, s_221_73, s_221_76, s_221_79, s_221_80, s_221_83, s_221_84, s_221_85, s_221_86, s_221_87, s_221_90, s_221_91, s_221_94, s_221_97, s_221_98, s_221_100, s_221_101, s_221_104, s_221_107, s_221_108, s_221_110, s_221_111, s_221_112, s_221_113, s_221_115, s_221_116, s_221_117, s_221_118, s_221_119, s_221_122, s_221_123, s_221_124, s_221_125, s_221_128, s_221_129, s_221_132, s_221_135, s_221_136, s_221_138, s_221_139, s_221_140, s_221_141, s_221_142, s_221_143, x_get_i, List.getElem?_cons_succ, List.getElem?_cons_zero, x_cv_j, cs_n, cs_i, cs_r, cs_l, Nat.reduceAdd, Nat.reduceLeDiff, true_and, Option.toList_some, Option.toList_none, List.cons_append, List.nil_append, if_true, if_false, nb0, nb1, x_setJ, x_setZ0, x_setZ1, x_setA, x_setO, List.length_cons, List.length_nil, Nat.reduceLT, List.set_cons_succ, List.set_cons_zero, wrl_0, wrl_1, wrl_2, wrl_3, wrl_4, wrl_5, wrl_p0, wrl_p1, wrl_p2, wrl_p3, wrl_p4, mh_o, mh_po, mcv, mg_0, mg_1, mg_2, mg_3, mg_4, mg_5, mg_6, mg_7, mg_8, mg_9, mg_10, mg_11, mg_12, mg_13, mg_14, mg_15, mg_16, mg_17, mg_18, mg_19, mg_20, mg_21, mg_22, mg_23, mg_24, mg_25, mg_26, mg_27, mg_28, mg_29, mg_30, mg_31, mg_32, mg_33, mg_34, mg_35, mg_36, mg_37, mg_38, mg_39, mg_40, mg_41, mg_42, mg_43, mg_44, mg_45, mg_46, ms_1, ms_4, ms_6, ms_7, ms_9, ms_10, ms_11, ms_12, ms_16, ms_20, ms_24, ms_28, ms_35, ms_39, ms_42, ms_43, ms_17t, ms_17f, ms_8, ms_14, mc_1, mp_1, mc_2, mp_2, mc_3, mp_3, mc_4, mp_4, mc_5, mp_5, mc_6, mp_6, mc_7, mp_7, mc_8, mp_8, mc_9, mp_9, mc_10, mp_10, mc_11, mp_11, mc_12, mp_12, mc_13, mp_13, mc_14, mp_14, mc_15, mp_15, mc_16, mp_16, mc_17, mp_17, mc_18, mp_18, mc_19, mp_19, mc_20, mp_20, mc_21, mp_21, mc_22, mp_22, mc_23, mp_23, mc_24, mp_24, mc_25, mp_25, mc_26, mp_26, mc_27, mp_27, mc_28, mp_28, mc_29, mp_29, iu, cup, Nat.reduceEqDiff, h1, Int32.le_refl, hcell, n36', x_ist_n (show 36 < 38 by decide) n38, mh_pc j1 j2]
      obtain ⟨f8, h8⟩ := hG.2.2.2.1
      obtain ⟨f5, h5⟩ := hG.2.2.2.2.1
      refine loop2 k 0 I rd _ _ f5 (by omega) ⟨fun _ _ _ _ _ => rfl, fun i i1 i2 i3 => (if_neg i3).trans (sc0 i i3), ⟨f8, (if_neg (by omega)).trans ((sc0 8 (by omega)).trans h8)⟩, ⟨f5, (if_neg (by omega)).trans ((sc0 5 (by omega)).trans h5)⟩⟩ (cj _ _) ((if_neg (by omega)).trans ((sc0 5 (by omega)).trans h5)) (RW_s hw) (fun i hi => by omega)
    | succ r ih =>
      intro k C0 N0 hk sc0 hc0 hw
      have h1 := hG.1
      have hLc : C0 2 = .inl (0, 12, .inl Lm) := (sc0 2 (by omega)).trans hG.2.2.1
      have hcell : (mh h m I rd ru C0).2.2 (m + j) = .inl (0, 38, .inl N0) := (mh_c j1 j2).trans hc0
      have hkn : k < n := by omega
      have e36 : N0 36 = sd := hw.2.2.2.1
      have eW : N0 k = W k := hw.1 k (by omega)
      have eL := hL k hkn
      have es : tc_dB sd L W B (k + 1) = if (sd >>> (nI k &&& 31)) &&& 1 = 1 then upd (tc_dB sd L W B k) k (if W k = 9 then (L k + 1) - (L k + 1) / 8 * 8 else L k) else tc_dB sd L W B k := rfl
      rw [s_221_2]
      simp only [s_221_0, s_221_1, s_221_3, s_221_4, s_221_7, s_221_10, s_221_11, s_221_13, s_221_14, s_221_15, s_221_18, s_221_21, s_221_24, s_221_25, s_221_27, s_221_28, s_221_29, s_221_30, s_221_31, s_221_32, s_221_34, s_221_37, s_221_38, s_221_41, s_221_42, s_221_43, s_221_44, s_221_45, s_221_47, s_221_48, s_221_51, s_221_52, s_221_55, s_221_56, s_221_57, s_221_58, s_221_61, s_221_64, s_221_65, s_221_67, s_221_68, s_221_69, s_221_70, s_221_72, s_221_73, s_221_76, s_221_79, s_221_80, s_221_83, s_221_84, s_221_85, s_221_86, s_221_87, s_221_90, s_221_91, s_221_94, s_221_97, s_221_98, s_221_100, s_221_101, s_221_104, s_221_107, s_221_108, s_221_110, s_221_111, s_221_112, s_221_113, s_221_115, s_221_116, s_221_117, s_221_118, s_221_119, s_221_122, s_221_123, s_221_124, s_221_125, s_221_128, s_221_129, s_221_132, s_221_135, s_221_136, s_221_138, s_221_139, s_221_140, s_221_141, s_221_142, s_221_143, x_get_i, List.getElem?_cons_succ, List.getElem?_cons_zero, x_cv_j, cs_n, cs_i, cs_r, cs_l, Nat.reduceAdd, Nat.reduceLeDiff, true_and, Option.toList_some, Option.toList_none, List.cons_append, List.nil_append, if_true, if_false, nb0, nb1, x_setJ, x_setZ0, x_setZ1, x_setA, x_setO, List.length_cons, List.length_nil, Nat.reduceLT, List.set_cons_succ, List.set_cons_zero, wrl_0, wrl_1, wrl_2, wrl_3, wrl_4, wrl_5, wrl_p0, wrl_p1, wrl_p2, wrl_p3, wrl_p4, mh_o, mh_po, mcv, mg_0, mg_1, mg_2, mg_3, mg_4, mg_5, mg_6, mg_7, mg_8, mg_9, mg_10, mg_11, mg_12, mg_13, mg_14, mg_15, mg_16, mg_17, mg_18, mg_19, mg_20, mg_21, mg_22, mg_23, mg_24, mg_25, mg_26, mg_27, mg_28, mg_29, mg_30, mg_31, mg_32, mg_33, mg_34, mg_35, mg_36, mg_37, mg_38, mg_39, mg_40, mg_41, mg_42, mg_43, mg_44, mg_45, mg_46, ms_1, ms_4, ms_6, ms_7, ms_9, ms_10, ms_11, ms_12, ms_16, ms_20, ms_24, ms_28, ms_35, ms_39, ms_42, ms_43, ms_17t, ms_17f, ms_8, ms_14, mc_1, mp_1, mc_2, mp_2, mc_3, mp_3, mc_4, mp_4, mc_5, mp_5, mc_6, mp_6, mc_7, mp_7, mc_8, mp_8, mc_9, mp_9, mc_10, mp_10, mc_11, mp_11, mc_12, mp_12, mc_13, mp_13, mc_14, mp_14, mc_15, mp_15, mc_16, mp_16, mc_17, mp_17, mc_18, mp_18, mc_19, mp_19, mc_20, mp_20, mc_21, mp_21, mc_22, mp_22, mc_23, mp_23, mc_24, mp_24, mc_25, mp_25, mc_26, mp_26, mc_27, mp_27, mc_28, mp_28, mc_29, mp_29, iu, cup, Nat.reduceEqDiff, h1, show ¬ nI n ≤ nI k from nI_ge hkn (by omega), hcell, n36', x_ild_n (show 36 < 38 by decide) n38, e36, r_has]
      by_cases c1 : (sd >>> (nI k &&& 31)) &&& 1 = 1
      · rw [if_pos c1] at es
        simp only [c1, if_true, show ¬ (1 : Int32) = 0 by decide, if_false, s_221_0, s_221_1, s_221_3, s_221_4, s_221_7, s_221_10, s_221_11, s_221_13, s_221_14, s_221_15, s_221_18, s_221_21, s_221_24, s_221_25, s_221_27, s_221_28, s_221_29, s_221_30, s_221_31, s_221_32, s_221_34, s_221_37, s_221_38, s_221_41, s_221_42, s_221_43, s_221_44, s_221_45, s_221_47, s_221_48, s_221_51, s_221_52, s_221_55, s_221_56, s_221_57, s_221_58, s_221_61, s_221_64, s_221_65, s_221_67, s_221_68, s_221_69, s_221_70, s_221_72, s_221_73, s_221_76, s_221_79, s_221_80, s_221_83, s_221_84, s_221_85, s_221_86, s_221_87, s_221_90, s_221_91, s_221_94, s_221_97, s_221_98, s_221_100, s_221_101, s_221_104, s_221_107, s_221_108, s_221_110, s_221_111, s_221_112, s_221_113, s_221_115, s_221_116, s_221_117, s_221_118, s_221_119, s_221_122, s_221_123, s_221_124, s_221_125, s_221_128, s_221_129, s_221_132, s_221_135, s_221_136, s_221_138, s_221_139, s_221_140, s_221_141, s_221_142, s_221_143, x_get_i, List.getElem?_cons_succ, List.getElem?_cons_zero, x_cv_j, cs_n, cs_i, cs_r, cs_l, Nat.reduceAdd, Nat.reduceLeDiff, true_and, Option.toList_some, Option.toList_none, List.cons_append, List.nil_append, if_true, if_false, nb0, nb1, x_setJ, x_setZ0, x_setZ1, x_setA, x_setO, List.length_cons, List.length_nil, Nat.reduceLT, List.set_cons_succ, List.set_cons_zero, wrl_0, wrl_1, wrl_2, wrl_3, wrl_4, wrl_5, wrl_p0, wrl_p1, wrl_p2, wrl_p3, wrl_p4, mh_o, mh_po, mcv, mg_0, mg_1, mg_2, mg_3, mg_4, mg_5, mg_6, mg_7, mg_8, mg_9, mg_10, mg_11, mg_12, mg_13, mg_14, mg_15, mg_16, mg_17, mg_18, mg_19, mg_20, mg_21, mg_22, mg_23, mg_24, mg_25, mg_26, mg_27, mg_28, mg_29, mg_30, mg_31, mg_32, mg_33, mg_34, mg_35, mg_36, mg_37, mg_38, mg_39, mg_40, mg_41, mg_42, mg_43, mg_44, mg_45, mg_46, ms_1, ms_4, ms_6, ms_7, ms_9, ms_10, ms_11, ms_12, ms_16, ms_20, ms_24, ms_28, ms_35, ms_39, ms_42, ms_43, ms_17t, ms_17f, ms_8, ms_14, mc_1, mp_1, mc_2, mp_2, mc_3, mp_3, mc_4, mp_4, mc_5, mp_5, mc_6, mp_6, mc_7, mp_7, mc_8, mp_8, mc_9, mp_9, mc_10, mp_10, mc_11, mp_11, mc_12, mp_12, mc_13, mp_13, mc_14, mp_14, mc_15, mp_15, mc_16, mp_16, mc_17, mp_17, mc_18, mp_18, mc_19, mp_19, mc_20, mp_20, mc_21, mp_21, mc_22, mp_22, mc_23, mp_23, mc_24, mp_24, mc_25, mp_25, mc_26, mp_26, mc_27, mp_27, mc_28, mp_28, mc_29, mp_29, iu, cup, Nat.reduceEqDiff, hcell, hLc, e24, x_ild_n (show k < 38 by omega) n38, x_ild_n (show k < 12 by omega) n12, eW, eL, c8, x_ist_n (show 24 + k < 38 by omega) n38, mh_pc j1 j2, nI_1]
        by_cases c9 : W k = 9
        · rw [if_pos c9] at es
          have hw2 := RW_B (k := k) (v := (L k + 1) - (L k + 1) / 8 * 8) (by omega) hw
          rw [← es] at hw2
          simp only [c9, if_true]
          exact ih (k + 1) _ _ (by omega) (fun i hi => (if_neg hi).trans (sc0 i hi)) (cj _ _) hw2
        · rw [if_neg c9] at es
          have hw2 := RW_B (k := k) (v := L k) (by omega) hw
          rw [← es] at hw2
          simp only [c9, if_false]
          exact ih (k + 1) _ _ (by omega) (fun i hi => (if_neg hi).trans (sc0 i hi)) (cj _ _) hw2
      · rw [if_neg c1] at es
        rw [← es] at hw
        simp only [c1, if_false, if_true, nI_1]
        exact ih (k + 1) C0 N0 (by omega) sc0 hc0 hw
  rw [e_221]
  simp only [s_221_0, s_221_1, s_221_3, s_221_4, s_221_7, s_221_10, s_221_11, s_221_13, s_221_14, s_221_15, s_221_18, s_221_21, s_221_24, s_221_25, s_221_27, s_221_28, s_221_29, s_221_30, s_221_31, s_221_32, s_221_34, s_221_37, s_221_38, s_221_41, s_221_42, s_221_43, s_221_44, s_221_45, s_221_47, s_221_48, s_221_51, s_221_52, s_221_55, s_221_56, s_221_57, s_221_58, s_221_61, s_221_64, s_221_65, s_221_67, s_221_68, s_221_69, s_221_70, s_221_72, s_221_73, s_221_76, s_221_79, s_221_80, s_221_83, s_221_84, s_221_85, s_221_86, s_221_87, s_221_90, s_221_91, s_221_94, s_221_97, s_221_98, s_221_100, s_221_101, s_221_104, s_221_107, s_221_108, s_221_110, s_221_111, s_221_112, s_221_113, s_221_115, s_221_116, s_221_117, s_221_118, s_221_119, s_221_122, s_221_123, s_221_124, s_221_125, s_221_128, s_221_129, s_221_132, s_221_135, s_221_136, s_221_138, s_221_139, s_221_140, s_221_141, s_221_142, s_221_143]
  exact loop1 n 0 C N (by omega) (fun _ _ => rfl) hxN hr
theorem r_goNights {k : Nat} (hk : k < 2 ^ 30) (hG : NGT I C m ru n Lm cd) (hx : x = m + 1 ∨ x = m + 11) (hxN : C (x - m) = .inl (0, 38, .inl N)) {X : TN} (hXn : X.2.2.2.2.1 = n) (hr : RW N X) (hL : ∀ i, i < n → Lm i = X.1 i) (hwf : WFT X) (hQ : ∀ I' rd' C' N', ((∃ f, C' 8 = .inl (0, 7, .inl f)) ∧ ∃ f, C' 5 = .inl (0, 36, .inl f)) → (∀ q, q ≠ 9 → q ≠ 10 → q ≠ 11 → q ≠ 12 → I' q = I q) → (∀ i, i ≠ 8 → i ≠ 5 → i ≠ x - m → C' i = C i) → C' (x - m) = .inl (0, 38, .inl N') → RW N' (nXT cd (tc_allv (nI n)) k X) → Q none (mh h m I' rd' ru C')) : tm_D (g_G sa sc xt) (d + 269) 222 [.ref m, .ref x, .int (nI k)] (mh h m I rd ru C) Q := by
  have loop : ∀ (j i : Nat) (I0 : Nat → Int32) (rd0 : Value) (C0 : Nat → tm_E) (N0 : Nat → Int32), i + j = k → NSC (x - m) I I0 C C0 → C0 (x - m) = .inl (0, 38, .inl N0) → RW N0 (nXT cd (tc_allv (nI n)) i X) → tm_X (g_G sa sc xt) (d + 269) 222 2 [.ref m, .ref x, .int (nI k), .int (nI i)] [] (mh h m I0 rd0 ru C0) Q := by
    intro j
    induction j with
    | zero =>
      intro i I0 rd0 C0 N0 hi sc0 hc0 hw
      have hi : i = k := by omega
      subst hi
      rw [s_222_2]
      simp only [s_222_0, s_222_1, s_222_3, s_222_4, s_222_7, s_222_8, s_222_9, s_222_12, s_222_15, s_222_18, x_get_i, List.getElem?_cons_succ, List.getElem?_cons_zero, x_cv_j, cs_n, cs_i, cs_r, cs_l, Nat.reduceAdd, Nat.reduceLeDiff, true_and, Option.toList_some, Option.toList_none, List.cons_append, List.nil_append, if_true, if_false, nb0, nb1, x_setJ, x_setZ0, x_setZ1, x_setA, x_setO, List.length_cons, List.length_nil, Nat.reduceLT, List.set_cons_succ, List.set_cons_zero, wrl_0, wrl_1, wrl_2, wrl_3, wrl_4, wrl_5, wrl_p0, wrl_p1, wrl_p2, wrl_p3, wrl_p4, mh_o, mh_po, mcv, mg_0, mg_1, mg_2, mg_3, mg_4, mg_5, mg_6, mg_7, mg_8, mg_9, mg_10, mg_11, mg_12, mg_13, mg_14, mg_15, mg_16, mg_17, mg_18, mg_19, mg_20, mg_21, mg_22, mg_23, mg_24, mg_25, mg_26, mg_27, mg_28, mg_29, mg_30, mg_31, mg_32, mg_33, mg_34, mg_35, mg_36, mg_37, mg_38, mg_39, mg_40, mg_41, mg_42, mg_43, mg_44, mg_45, mg_46, ms_1, ms_4, ms_6, ms_7, ms_9, ms_10, ms_11, ms_12, ms_16, ms_20, ms_24, ms_28, ms_35, ms_39, ms_42, ms_43, ms_17t, ms_17f, ms_8, ms_14, mc_1, mp_1, mc_2, mp_2, mc_3, mp_3, mc_4, mp_4, mc_5, mp_5, mc_6, mp_6, mc_7, mp_7, mc_8, mp_8, mc_9, mp_9, mc_10, mp_10, mc_11, mp_11, mc_12, mp_12, mc_13, mp_13, mc_14, mp_14, mc_15, mp_15, mc_16, mp_16, mc_17, mp_17, mc_18, mp_18, mc_19, mp_19, mc_20, mp_20, mc_21, mp_21, mc_22, mp_22, mc_23, mp_23, mc_24, mp_24, mc_25, mp_25, mc_26, mp_26, mc_27, mp_27, mc_28, mp_28, mc_29, mp_29, iu, cup, Nat.reduceEqDiff, Int32.le_refl]
      exact hQ I0 rd0 C0 N0 sc0.2.2 sc0.1 sc0.2.1 hc0 hw
    | succ j ih =>
      intro i I0 rd0 C0 N0 hi sc0 hc0 hw
      have hG0 := NGT_sc (by omega) sc0 hG
      have wf := WFT_nXT (cd := cd) (mem := tc_allv (nI n)) (m := i) hwf
      rw [s_222_2]
      simp only [s_222_0, s_222_1, s_222_3, s_222_4, s_222_7, s_222_8, s_222_9, s_222_12, s_222_15, s_222_18, x_get_i, List.getElem?_cons_succ, List.getElem?_cons_zero, x_cv_j, cs_n, cs_i, cs_r, cs_l, Nat.reduceAdd, Nat.reduceLeDiff, true_and, Option.toList_some, Option.toList_none, List.cons_append, List.nil_append, if_true, if_false, nb0, nb1, x_setJ, x_setZ0, x_setZ1, x_setA, x_setO, List.length_cons, List.length_nil, Nat.reduceLT, List.set_cons_succ, List.set_cons_zero, wrl_0, wrl_1, wrl_2, wrl_3, wrl_4, wrl_5, wrl_p0, wrl_p1, wrl_p2, wrl_p3, wrl_p4, mh_o, mh_po, mcv, mg_0, mg_1, mg_2, mg_3, mg_4, mg_5, mg_6, mg_7, mg_8, mg_9, mg_10, mg_11, mg_12, mg_13, mg_14, mg_15, mg_16, mg_17, mg_18, mg_19, mg_20, mg_21, mg_22, mg_23, mg_24, mg_25, mg_26, mg_27, mg_28, mg_29, mg_30, mg_31, mg_32, mg_33, mg_34, mg_35, mg_36, mg_37, mg_38, mg_39, mg_40, mg_41, mg_42, mg_43, mg_44, mg_45, mg_46, ms_1, ms_4, ms_6, ms_7, ms_9, ms_10, ms_11, ms_12, ms_16, ms_20, ms_24, ms_28, ms_35, ms_39, ms_42, ms_43, ms_17t, ms_17f, ms_8, ms_14, mc_1, mp_1, mc_2, mp_2, mc_3, mp_3, mc_4, mp_4, mc_5, mp_5, mc_6, mp_6, mc_7, mp_7, mc_8, mp_8, mc_9, mp_9, mc_10, mp_10, mc_11, mp_11, mc_12, mp_12, mc_13, mp_13, mc_14, mp_14, mc_15, mp_15, mc_16, mp_16, mc_17, mp_17, mc_18, mp_18, mc_19, mp_19, mc_20, mp_20, mc_21, mp_21, mc_22, mp_22, mc_23, mp_23, mc_24, mp_24, mc_25, mp_25, mc_26, mp_26, mc_27, mp_27, mc_28, mp_28, mc_29, mp_29, iu, cup, Nat.reduceEqDiff, show ¬ nI k ≤ nI i from nI_ge (by omega) (by omega)]
      refine r_goNight (d := d) (L := X.1) (W := X.2.1) (M := (nXT cd (tc_allv (nI n)) i X).2.2.1) (B := (nXT cd (tc_allv (nI n)) i X).2.2.2.1) (sd := (nXT cd (tc_allv (nI n)) i X).2.2.2.2.2.1) (g := (nXT cd (tc_allv (nI n)) i X).2.2.2.2.2.2) hG0 hx hc0 ?_ hL (by rw [← hXn]; exact hwf.2.1) (by have h9 := wf.2.2; rw [show (nXT cd (tc_allv (nI n)) i X).2.2.2.2.1 = n from hXn] at h9; exact h9) (fun I1 rd1 C1 N1 sc1 hc1 hw1 => ?_)
      · exact hw
      · simp only [s_222_0, s_222_1, s_222_3, s_222_4, s_222_7, s_222_8, s_222_9, s_222_12, s_222_15, s_222_18, x_get_i, List.getElem?_cons_succ, List.getElem?_cons_zero, x_cv_j, cs_n, cs_i, cs_r, cs_l, Nat.reduceAdd, Nat.reduceLeDiff, true_and, Option.toList_some, Option.toList_none, List.cons_append, List.nil_append, if_true, if_false, nb0, nb1, x_setJ, x_setZ0, x_setZ1, x_setA, x_setO, List.length_cons, List.length_nil, Nat.reduceLT, List.set_cons_succ, List.set_cons_zero, wrl_0, wrl_1, wrl_2, wrl_3, wrl_4, wrl_5, wrl_p0, wrl_p1, wrl_p2, wrl_p3, wrl_p4, nI_1]
        refine ih (i + 1) I1 rd1 C1 N1 (by omega) (sc0.trans sc1) hc1 ?_
        rw [← nXT_s]
        have : nXT cd (tc_allv (nI n)) i X = (X.1, X.2.1, (nXT cd (tc_allv (nI n)) i X).2.2.1, (nXT cd (tc_allv (nI n)) i X).2.2.2.1, n, (nXT cd (tc_allv (nI n)) i X).2.2.2.2.2.1, (nXT cd (tc_allv (nI n)) i X).2.2.2.2.2.2) := by rw [← hXn]; rfl
        rw [this]
        exact hw1
  rw [e_222]
  simp only [s_222_0, s_222_1, s_222_3, s_222_4, s_222_7, s_222_8, s_222_9, s_222_12, s_222_15, s_222_18]
  obtain ⟨f8, h8⟩ := hG.2.2.2.1
  obtain ⟨f5, h5⟩ := hG.2.2.2.2.1
  exact loop k 0 I rd C N (by omega) ⟨fun _ _ _ _ _ => rfl, fun _ _ _ _ => rfl, ⟨f8, h8⟩, ⟨f5, h5⟩⟩ hxN hr
end
