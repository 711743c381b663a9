/-! calls of the class: spans, packs, mixed, rubs, chord -/
theorem spa_ne {su : Nat → Bool} {mo : Int32 → Int32} : ∀ i, i < 2 ^ 31 → ((spa su mo i).1 = -1 ∨ ∃ j, j < i ∧ (spa su mo i).1 = nI j) ∧ ((spa su mo i).2 = -1 ↔ (spa su mo i).1 = -1)
  | 0, _ => ⟨Or.inl rfl, Iff.rfl⟩
  | i + 1, hi => by
    obtain ⟨h1, h2⟩ := spa_ne (su := su) (mo := mo) i (by omega)
    have es : spa su mo (i + 1) = if su i then ((if (spa su mo i).1 = -1 then nI i else if mo (spa su mo i).1 ≤ mo (nI i) then (spa su mo i).1 else nI i), (if (spa su mo i).2 = -1 then nI i else if mo (nI i) ≤ mo (spa su mo i).2 then (spa su mo i).2 else nI i)) else spa su mo i := rfl
    have hne : ¬ nI i = -1 := oI_ne (by omega)
    rw [es]
    cases su i with
    | false =>
      simp only [Bool.false_eq_true, if_false]
      exact ⟨h1.imp id (fun ⟨j, q1, q2⟩ => ⟨j, by omega, q2⟩), h2⟩
    | true =>
      simp only [if_true]
      by_cases k1 : (spa su mo i).1 = -1
      · have k2 := h2.mpr k1
        rw [if_pos k1, if_pos k2]
        exact ⟨Or.inr ⟨i, by omega, rfl⟩, Iff.rfl⟩
      · have k2 : ¬ (spa su mo i).2 = -1 := fun e => k1 (h2.mp e)
        rw [if_neg k1, if_neg k2]
        have a1 : ¬ (if mo (spa su mo i).1 ≤ mo (nI i) then (spa su mo i).1 else nI i) = -1 := by split <;> assumption
        have a2 : ¬ (if mo (nI i) ≤ mo (spa su mo i).2 then (spa su mo i).2 else nI i) = -1 := by split <;> assumption
        refine ⟨Or.inr ?_, ⟨fun e => absurd e a2, fun e => absurd e a1⟩⟩
        rcases h1 with h1 | ⟨j, q1, q2⟩
        · exact absurd h1 k1
        · split
          · exact ⟨j, by omega, q2⟩
          · exact ⟨i, by omega, rfl⟩
def mxd (L B : Nat → Int32) (n : Nat) : Nat → Int32 := fo (fun x a => if ibc (tc_let L (tc_wh B (nI x) n) n) ≤ 1 then a else a ||| (1 <<< (nI x &&& 31))) 0
/-- the two that rub most: inner places from q on, against (farthest, row) -/
def rbi (M B : Nat → Int32) (p : Nat) : Nat → Nat → Int32 × Nat × (Nat → Int64) → Int32 × Nat × (Nat → Int64)
  | 0, _, a => a
  | j + 1, q, a => rbi M B p j (q + 1) (if B p = B q then (if iabs (M p - M q) ≤ a.1 then a else (iabs (M p - M q), rw2 a.2.2 (nI p).toInt64 (nI q).toInt64)) else a)
def rbo (M B : Nat → Int32) (n : Nat) : Nat → Nat → Int32 × Nat × (Nat → Int64) → Int32 × Nat × (Nat → Int64)
  | 0, _, a => a
  | j + 1, p, a => rbo M B n j (p + 1) (rbi M B p (n - (p + 1)) (p + 1) a)
/-- sets of sorts that do not stand, no two of one letter: (best, most) -/
def cho (L M : Nat → Int32) (n : Nat) (fr v : Int32) : Nat → Int32 × Int32 := fo (fun i a => if nI i &&& (fr ^^^ (-1)) = 0 then (if ibc (nI i) ≤ a.2 then a else if tc_mo M (nI i) n = v then (if ibc (tc_let L (nI i) n) = ibc (nI i) then (nI i, ibc (nI i)) else a) else a) else a) (-1, -1)
section
variable {sa : g_SA} {sc : Nat × Nat × (Nat → Int32)} {xt : Nat → Nat → List Value → tm_H → Option (Option Value × tm_H)} {d b : Nat} {h : tm_H} {Q : Option Value → tm_H → Prop}
variable {tx : Nat × (Nat → Int32)} {rw : Nat × (Nat → Int64)} {nw : TN} {pa : Nat × Nat × (Nat → TN) × (Nat → TN) × (Nat → Int32)} {ru : Nat × Nat × List Int32} {he : Nat × (Nat → Int32)} {mi : Nat × (Nat → Int32) × (Nat → Int32) × (Nat → Int32)} {ga : Nat}
variable {c n m : Nat} {F L W M B H Ms Bs Os : Nat → Int32} {s g : Int32} {rc hc mc : Nat} {R : Nat → Int64}
theorem c_spans (hW : CW sa h b (c, F) (rc, R) (L, W, M, B, n, s, g) pa ru he mi ga) (h1 : ∀ p h', lrd F 0 c 0 = some p → sm b (b + 162) h h' → CW sa h' b (0, F) (rc, R) (L, W, M, B, n, s, g) pa ru he mi ga → Q (some (.int (-1 - nI p))) h') (h2 : ∀ h' N q, lrd F 0 c 0 = none → (∀ l, l < 8 → N l = nI (lcn F 0 c l)) → le_pl N L n s 8 = nI q → q < 4096 → (spa (fun i => sui N L n s (nI c) (nI i)) (fun x => tc_mo M x n) (q + 1)).1 = -1 → sm b (b + 162) h h' → CW sa h' b (0, F) (rc, R) (L, W, M, B, n, s, g) pa ru he mi ga → Q (some (.int (-101))) h') (h3 : ∀ h' N q, lrd F 0 c 0 = none → (∀ l, l < 8 → N l = nI (lcn F 0 c l)) → le_pl N L n s 8 = nI q → q < 4096 → ¬ (spa (fun i => sui N L n s (nI c) (nI i)) (fun x => tc_mo M x n) (q + 1)).1 = -1 → sm b (b + 162) h h' → CW sa h' b (0, F) (rw3 R (200 + tc_mo M (spa (fun i => sui N L n s (nI c) (nI i)) (fun x => tc_mo M x n) (q + 1)).2 n).toInt64 (spa (fun i => sui N L n s (nI c) (nI i)) (fun x => tc_mo M x n) (q + 1)).1.toInt64 (spa (fun i => sui N L n s (nI c) (nI i)) (fun x => tc_mo M x n) (q + 1)).2.toInt64) (L, W, M, B, n, s, g) pa ru he mi ga → Q (some (.int (200 + tc_mo M (spa (fun i => sui N L n s (nI c) (nI i)) (fun x => tc_mo M x n) (q + 1)).1 n))) h') : tm_D (g_G sa sc xt) (d + 4) 128 [.ref b] h Q := by
  obtain ⟨w_o, w_t, w_r, w_n, w_h, w_l, w_b, w_p, w_u, w_v, w_a, w_e, w_w, w_x, w_q, w_m, w_g, w_d, w_s⟩ := id hW
  have hc80 : c ≤ 80 := w_t.2.1
  have hn : n ≤ 12 := w_n.2.1
  rw [e_128]
  simp only [s_128_0, s_128_1, s_128_4, s_128_5, s_128_6, s_128_7, s_128_10, s_128_11, s_128_12, s_128_13, s_128_14, s_128_15, s_128_18, s_128_19, s_128_22, s_128_25, s_128_26, s_128_27, s_128_28, s_128_29, s_128_31, s_128_32, s_128_36, s_128_37, s_128_40, s_128_41, s_128_44, s_128_46, s_128_49, s_128_52, s_128_53, s_128_56, s_128_58, s_128_61, s_128_63, s_128_64, s_128_65, s_128_68, s_128_70, s_128_71, s_128_74, s_128_75, s_128_78, s_128_81, s_128_83, s_128_84, s_128_86, s_128_87, s_128_90, s_128_92, s_128_93, s_128_96, s_128_98, s_128_101, s_128_104, s_128_106, s_128_108, s_128_111, s_128_114, s_128_115, s_128_116, s_128_119, s_128_121, s_128_122, s_128_123, s_128_126, s_128_129, s_128_130, s_128_133, s_128_135, s_128_138, s_128_139, s_128_140, s_128_141, s_128_142, s_128_144, s_128_145, s_128_148, s_128_151, s_128_152, s_128_155, s_128_156, s_128_159, s_128_160, x_get_i, List.getElem?_cons_succ, List.getElem?_cons_zero, x_cv_j, cs_n, cs_i, cs_r, cs_l, Nat.reduceAdd, Nat.reduceLeDiff, true_and, Option.toList_some, Option.toList_none, List.cons_append, List.nil_append, if_true, if_false, nb0, nb1, x_setJ, x_setZ0, x_setZ1, x_setA, x_setO, List.length_cons, List.length_nil, Nat.reduceLT, List.set_cons_succ, List.set_cons_zero, wrl_0, wrl_1, wrl_2, wrl_3, wrl_4, wrl_5, wrl_p0, wrl_p1, wrl_p2, wrl_p3, wrl_p4, w_o]
  refine c_readLetters hW (fun ha N P p sA hWa ca => ?_)
  have o_a := hWa.1
  have a_a : ha.2.2 (b + 1) = .inr (8, _) := hWa.2.1.1.1
  have c_a : ha.2.2 (b + 3) = .inr (5, _) := cel_0 hWa.2.2.1.1
  have n_a : ha.2.2 (b + 5) = .inr (9, _) := hWa.2.2.2.1.1.1
  have p_a : ha.2.2 (b + 33) = .inr (6, _) := hWa.2.2.2.2.2.2.2.1.1.1
  have q_a : ha.2.2 (b + 152) = .inr (2, _) := cel_0 hWa.2.2.2.2.2.2.2.2.2.2.2.2.2.2.1.1
  obtain ⟨_, mm_a⟩ := hWa.2.2.2.2.2.2.2.2.2.2.2.2.2.2.2.1.1
  have m_a : ha.2.2 (b + 154) = .inr (4, _) := cel_0 mm_a
  have g_a : ha.2.2 (b + 159) = .inr (1, _) := cel_0 hWa.2.2.2.2.2.2.2.2.2.2.2.2.2.2.2.2.1.1
  cases hf : lrd F 0 c 0 with
  | some p0 =>
    have hp := lrd_lt (Nat.le_refl 0) hf
    simp only [s_128_0, s_128_1, s_128_4, s_128_5, s_128_6, s_128_7, s_128_10, s_128_11, s_128_12, s_128_13, s_128_14, s_128_15, s_128_18, s_128_19, s_128_22, s_128_25, s_128_26, s_128_27, s_128_28, s_128_29, s_128_31, s_128_32, s_128_36, s_128_37, s_128_40, s_128_41, s_128_44, s_128_46, s_128_49, s_128_52, s_128_53, s_128_56, s_128_58, s_128_61, s_128_63, s_128_64, s_128_65, s_128_68, s_128_70, s_128_71, s_128_74, s_128_75, s_128_78, s_128_81, s_128_83, s_128_84, s_128_86, s_128_87, s_128_90, s_128_92, s_128_93, s_128_96, s_128_98, s_128_101, s_128_104, s_128_106, s_128_108, s_128_111, s_128_114, s_128_115, s_128_116, s_128_119, s_128_121, s_128_122, s_128_123, s_128_126, s_128_129, s_128_130, s_128_133, s_128_135, s_128_138, s_128_139, s_128_140, s_128_141, s_128_142, s_128_144, s_128_145, s_128_148, s_128_151, s_128_152, s_128_155, s_128_156, s_128_159, s_128_160, x_get_i, List.getElem?_cons_succ, List.getElem?_cons_zero, x_cv_j, cs_n, cs_i, cs_r, cs_l, Nat.reduceAdd, Nat.reduceLeDiff, true_and, Option.toList_some, Option.toList_none, List.cons_append, List.nil_append, if_true, if_false, nb0, nb1, x_setJ, x_setZ0, x_setZ1, x_setA, x_setO, List.length_cons, List.length_nil, Nat.reduceLT, List.set_cons_succ, List.set_cons_zero, wrl_0, wrl_1, wrl_2, wrl_3, wrl_4, wrl_5, wrl_p0, wrl_p1, wrl_p2, wrl_p3, wrl_p4, oI, oI_ne (show p0 < 2 ^ 31 by omega)]
    exact h1 p0 ha hf sA hWa
  | none =>
    rw [hf, Option.getD_none] at ca
    have e0 := cel_0 ca
    simp only [s_128_0, s_128_1, s_128_4, s_128_5, s_128_6, s_128_7, s_128_10, s_128_11, s_128_12, s_128_13, s_128_14, s_128_15, s_128_18, s_128_19, s_128_22, s_128_25, s_128_26, s_128_27, s_128_28, s_128_29, s_128_31, s_128_32, s_128_36, s_128_37, s_128_40, s_128_41, s_128_44, s_128_46, s_128_49, s_128_52, s_128_53, s_128_56, s_128_58, s_128_61, s_128_63, s_128_64, s_128_65, s_128_68, s_128_70, s_128_71, s_128_74, s_128_75, s_128_78, s_128_81, s_128_83, s_128_84, s_128_86, s_128_87, s_128_90, s_128_92, s_128_93, s_128_96, s_128_98, s_128_101, s_128_104, s_128_106, s_128_108, s_128_111, s_128_114, s_128_115, s_128_116, s_128_119, s_128_121, s_128_122, s_128_123, s_128_126, s_128_129, s_128_130, s_128_133, s_128_135, s_128_138, s_128_139, s_128_140, s_128_141, s_128_142, s_128_144, s_128_145, s_128_148, s_128_151, s_128_152, s_128_155, s_128_156, s_128_159, s_128_160, x_get_i, List.getElem?_cons_succ, List.getElem?_cons_zero, x_cv_j, cs_n, cs_i, cs_r, cs_l, Nat.reduceAdd, Nat.reduceLeDiff, true_and, Option.toList_some, Option.toList_none, List.cons_append, List.nil_append, if_true, if_false, nb0, nb1, x_setJ, x_setZ0, x_setZ1, x_setA, x_setO, List.length_cons, List.length_nil, Nat.reduceLT, List.set_cons_succ, List.set_cons_zero, wrl_0, wrl_1, wrl_2, wrl_3, wrl_4, wrl_5, wrl_p0, wrl_p1, wrl_p2, wrl_p3, wrl_p4, oI, o_a, a_a, c_a, n_a, p_a, q_a, m_a, g_a, e0]
    refine c_gather hWa ca (fun hb P' sB hWb cb hP => ?_)
    have o_b := hWb.1
    have a_b : hb.2.2 (b + 1) = .inr (8, _) := hWb.2.1.1.1
    have c_b : hb.2.2 (b + 3) = .inr (5, _) := cel_0 hWb.2.2.1.1
    have n_b : hb.2.2 (b + 5) = .inr (9, _) := hWb.2.2.2.1.1.1
    have p_b : hb.2.2 (b + 33) = .inr (6, _) := hWb.2.2.2.2.2.2.2.1.1.1
    have q_b : hb.2.2 (b + 152) = .inr (2, _) := cel_0 hWb.2.2.2.2.2.2.2.2.2.2.2.2.2.2.1.1
    obtain ⟨_, mm_b⟩ := hWb.2.2.2.2.2.2.2.2.2.2.2.2.2.2.2.1.1
    have m_b : hb.2.2 (b + 154) = .inr (4, _) := cel_0 mm_b
    have g_b : hb.2.2 (b + 159) = .inr (1, _) := cel_0 hWb.2.2.2.2.2.2.2.2.2.2.2.2.2.2.2.2.1.1
    obtain ⟨q, hq, eq⟩ := low12 (x := le_pl (LN N F 0 c) L n s 8) (fun i h1 h2 => pl_low hn h1 h2 8)
    have hTb : tc_at hb (b + 5) L W M B (nI n) s g := hWb.2.2.2.1.1
    have z0 := cel_0 cb
    have sAB := sA.trans (sB.mono (lo' := b) (hi' := b + 162) (by omega) (by omega))
    have loop : ∀ (j i : Nat) (x6 : Value), i + j = q + 1 → tm_X (g_G sa sc xt) (d + 4) 128 34 [.ref b, .int (-1), .int (nI q), .int (spa (fun i => sui (LN N F 0 c) L n s (nI c) (nI i)) (fun x => tc_mo M x n) i).1, .int (spa (fun i => sui (LN N F 0 c) L n s (nI c) (nI i)) (fun x => tc_mo M x n) i).2, .int (nI i), x6] [] hb Q := by
      intro j
      induction j with
      | zero =>
        intro i x6 hi
        have hi : i = q + 1 := by omega
        subst hi
        rw [s_128_34]
        simp only [s_128_0, s_128_1, s_128_4, s_128_5, s_128_6, s_128_7, s_128_10, s_128_11, s_128_12, s_128_13, s_128_14, s_128_15, s_128_18, s_128_19, s_128_22, s_128_25, s_128_26, s_128_27, s_128_28, s_128_29, s_128_31, s_128_32, s_128_36, s_128_37, s_128_40, s_128_41, s_128_44, s_128_46, s_128_49, s_128_52, s_128_53, s_128_56, s_128_58, s_128_61, s_128_63, s_128_64, s_128_65, s_128_68, s_128_70, s_128_71, s_128_74, s_128_75, s_128_78, s_128_81, s_128_83, s_128_84, s_128_86, s_128_87, s_128_90, s_128_92, s_128_93, s_128_96, s_128_98, s_128_101, s_128_104, s_128_106, s_128_108, s_128_111, s_128_114, s_128_115, s_128_116, s_128_119, s_128_121, s_128_122, s_128_123, s_128_126, s_128_129, s_128_130, s_128_133, s_128_135, s_128_138, s_128_139, s_128_140, s_128_141, s_128_142, s_128_144, s_128_145, s_128_148, s_128_151, s_128_152, s_128_155, s_128_156, s_128_159, s_128_160, x_get_i, List.getElem?_cons_succ, List.getElem?_cons_zero, x_cv_j, cs_n, cs_i, cs_r, cs_l, Nat.reduceAdd, Nat.reduceLeDiff, true_and, Option.toList_some, Option.toList_none, List.cons_append, List.nil_append, if_true, if_false, nb0, nb1, x_setJ, x_setZ0, x_setZ1, x_setA, x_setO, List.length_cons, List.length_nil, Nat.reduceLT, List.set_cons_succ, List.set_cons_zero, wrl_0, wrl_1, wrl_2, wrl_3, wrl_4, wrl_5, wrl_p0, wrl_p1, wrl_p2, wrl_p3, wrl_p4, show nI q < nI (q + 1) from nI_lt (by omega) (by omega)]
        by_cases k1 : (spa (fun i => sui (LN N F 0 c) L n s (nI c) (nI i)) (fun x => tc_mo M x n) (q + 1)).1 = -1
        · simp only [k1, if_true]
          exact h2 hb (LN N F 0 c) q hf (fun l hl => if_pos hl) eq hq k1 sAB hWb
        · simp only [k1, if_false, s_128_0, s_128_1, s_128_4, s_128_5, s_128_6, s_128_7, s_128_10, s_128_11, s_128_12, s_128_13, s_128_14, s_128_15, s_128_18, s_128_19, s_128_22, s_128_25, s_128_26, s_128_27, s_128_28, s_128_29, s_128_31, s_128_32, s_128_36, s_128_37, s_128_40, s_128_41, s_128_44, s_128_46, s_128_49, s_128_52, s_128_53, s_128_56, s_128_58, s_128_61, s_128_63, s_128_64, s_128_65, s_128_68, s_128_70, s_128_71, s_128_74, s_128_75, s_128_78, s_128_81, s_128_83, s_128_84, s_128_86, s_128_87, s_128_90, s_128_92, s_128_93, s_128_96, s_128_98, s_128_101, s_128_104, s_128_106, s_128_108, s_128_111, s_128_114, s_128_115, s_128_116, s_128_119, s_128_121, s_128_122, s_128_123, s_128_126, s_128_129, s_128_130, s_128_133, s_128_135, s_128_138, s_128_139, s_128_140, s_128_141, s_128_142, s_128_144, s_128_145, s_128_148, s_128_151, s_128_152, s_128_155, s_128_156, s_128_159, s_128_160, x_get_i, List.getElem?_cons_succ, List.getElem?_cons_zero, x_cv_j, cs_n, cs_i, cs_r, cs_l, Nat.reduceAdd, Nat.reduceLeDiff, true_and, Option.toList_some, Option.toList_none, List.cons_append, List.nil_append, if_true, if_false, nb0, nb1, x_setJ, x_setZ0, x_setZ1, x_setA, x_setO, List.length_cons, List.length_nil, Nat.reduceLT, List.set_cons_succ, List.set_cons_zero, wrl_0, wrl_1, wrl_2, wrl_3, wrl_4, wrl_5, wrl_p0, wrl_p1, wrl_p2, wrl_p3, wrl_p4, o_b, a_b, c_b, n_b, p_b, q_b, m_b, g_b, tc_moodsOf hTb hn]
          refine c_tell3 hWb _ _ _ (fun hd sD hWd => ?_)
          have o_d := hWd.1
          have a_d : hd.2.2 (b + 1) = .inr (8, _) := hWd.2.1.1.1
          have c_d : hd.2.2 (b + 3) = .inr (5, _) := cel_0 hWd.2.2.1.1
          have n_d : hd.2.2 (b + 5) = .inr (9, _) := hWd.2.2.2.1.1.1
          have p_d : hd.2.2 (b + 33) = .inr (6, _) := hWd.2.2.2.2.2.2.2.1.1.1
          have q_d : hd.2.2 (b + 152) = .inr (2, _) := cel_0 hWd.2.2.2.2.2.2.2.2.2.2.2.2.2.2.1.1
          obtain ⟨_, mm_d⟩ := hWd.2.2.2.2.2.2.2.2.2.2.2.2.2.2.2.1.1
          have m_d : hd.2.2 (b + 154) = .inr (4, _) := cel_0 mm_d
          have g_d : hd.2.2 (b + 159) = .inr (1, _) := cel_0 hWd.2.2.2.2.2.2.2.2.2.2.2.2.2.2.2.2.1.1
          have hTd : tc_at hd (b + 5) L W M B (nI n) s g := hWd.2.2.2.1.1
          simp only [s_128_0, s_128_1, s_128_4, s_128_5, s_128_6, s_128_7, s_128_10, s_128_11, s_128_12, s_128_13, s_128_14, s_128_15, s_128_18, s_128_19, s_128_22, s_128_25, s_128_26, s_128_27, s_128_28, s_128_29, s_128_31, s_128_32, s_128_36, s_128_37, s_128_40, s_128_41, s_128_44, s_128_46, s_128_49, s_128_52, s_128_53, s_128_56, s_128_58, s_128_61, s_128_63, s_128_64, s_128_65, s_128_68, s_128_70, s_128_71, s_128_74, s_128_75, s_128_78, s_128_81, s_128_83, s_128_84, s_128_86, s_128_87, s_128_90, s_128_92, s_128_93, s_128_96, s_128_98, s_128_101, s_128_104, s_128_106, s_128_108, s_128_111, s_128_114, s_128_115, s_128_116, s_128_119, s_128_121, s_128_122, s_128_123, s_128_126, s_128_129, s_128_130, s_128_133, s_128_135, s_128_138, s_128_139, s_128_140, s_128_141, s_128_142, s_128_144, s_128_145, s_128_148, s_128_151, s_128_152, s_128_155, s_128_156, s_128_159, s_128_160, x_get_i, List.getElem?_cons_succ, List.getElem?_cons_zero, x_cv_j, cs_n, cs_i, cs_r, cs_l, Nat.reduceAdd, Nat.reduceLeDiff, true_and, Option.toList_some, Option.toList_none, List.cons_append, List.nil_append, if_true, if_false, nb0, nb1, x_setJ, x_setZ0, x_setZ1, x_setA, x_setO, List.length_cons, List.length_nil, Nat.reduceLT, List.set_cons_succ, List.set_cons_zero, wrl_0, wrl_1, wrl_2, wrl_3, wrl_4, wrl_5, wrl_p0, wrl_p1, wrl_p2, wrl_p3, wrl_p4, o_d, a_d, c_d, n_d, p_d, q_d, m_d, g_d, tc_moodsOf hTd hn]
          exact h3 hd (LN N F 0 c) q hf (fun l hl => if_pos hl) eq hq k1 (sAB.trans (sD.mono (by omega) (by omega))) hWd
      | succ j ih =>
        intro i x6 hi
        have es : spa (fun i => sui (LN N F 0 c) L n s (nI c) (nI i)) (fun x => tc_mo M x n) (i + 1) = if sui (LN N F 0 c) L n s (nI c) (nI i) then ((if (spa (fun i => sui (LN N F 0 c) L n s (nI c) (nI i)) (fun x => tc_mo M x n) i).1 = -1 then nI i else if tc_mo M (spa (fun i => sui (LN N F 0 c) L n s (nI c) (nI i)) (fun x => tc_mo M x n) i).1 n ≤ tc_mo M (nI i) n then (spa (fun i => sui (LN N F 0 c) L n s (nI c) (nI i)) (fun x => tc_mo M x n) i).1 else nI i), (if (spa (fun i => sui (LN N F 0 c) L n s (nI c) (nI i)) (fun x => tc_mo M x n) i).2 = -1 then nI i else if tc_mo M (nI i) n ≤ tc_mo M (spa (fun i => sui (LN N F 0 c) L n s (nI c) (nI i)) (fun x => tc_mo M x n) i).2 n then (spa (fun i => sui (LN N F 0 c) L n s (nI c) (nI i)) (fun x => tc_mo M x n) i).2 else nI i)) else spa (fun i => sui (LN N F 0 c) L n s (nI c) (nI i)) (fun x => tc_mo M x n) i := rfl
        have ih := fun x => ih (i + 1) x (by omega)
        rw [es] at ih
        clear es
        generalize spa (fun i => sui (LN N F 0 c) L n s (nI c) (nI i)) (fun x => tc_mo M x n) i = a at ih
        rw [s_128_34]
        simp only [s_128_0, s_128_1, s_128_4, s_128_5, s_128_6, s_128_7, s_128_10, s_128_11, s_128_12, s_128_13, s_128_14, s_128_15, s_128_18, s_128_19, s_128_22, s_128_25, s_128_26, s_128_27, s_128_28, s_128_29, s_128_31, s_128_32, s_128_36, s_128_37, s_128_40, s_128_41, s_128_44, s_128_46, s_128_49, s_128_52, s_128_53, s_128_56, s_128_58, s_128_61, s_128_63, s_128_64, s_128_65, s_128_68, s_128_70, s_128_71, s_128_74, s_128_75, s_128_78, s_128_81, s_128_83, s_128_84, s_128_86, s_128_87, s_128_90, s_128_92, s_128_93, s_128_96, s_128_98, s_128_101, s_128_104, s_128_106, s_128_108, s_128_111, s_128_114, s_128_115, s_128_116, s_128_119, s_128_121, s_128_122, s_128_123, s_128_126, s_128_129, s_128_130, s_128_133, s_128_135, s_128_138, s_128_139, s_128_140, s_128_141, s_128_142, s_128_144, s_128_145, s_128_148, s_128_151, s_128_152, s_128_155, s_128_156, s_128_159, s_128_160, x_get_i, List.getElem?_cons_succ, List.getElem?_cons_zero, x_cv_j, cs_n, cs_i, cs_r, cs_l, Nat.reduceAdd, Nat.reduceLeDiff, true_and, Option.toList_some, Option.toList_none, List.cons_append, List.nil_append, if_true, if_false, nb0, nb1, x_setJ, x_setZ0, x_setZ1, x_setA, x_setO, List.length_cons, List.length_nil, Nat.reduceLT, List.set_cons_succ, List.set_cons_zero, wrl_0, wrl_1, wrl_2, wrl_3, wrl_4, wrl_5, wrl_p0, wrl_p1, wrl_p2, wrl_p3, wrl_p4, show ¬ nI q < nI i from nI_nlt (by omega) (by omega), o_b, a_b, c_b, n_b, p_b, q_b, m_b, g_b, z0, c_suits cb hP, nI_1]
        cases hs : sui (LN N F 0 c) L n s (nI c) (nI i) with
        | false =>
          rw [hs] at ih
          simp only [show bI false = 0 by decide, if_true]
          exact ih _
        | true =>
          rw [hs] at ih
          simp only [show ¬ bI true = 0 by decide, if_false, if_true, s_128_0, s_128_1, s_128_4, s_128_5, s_128_6, s_128_7, s_128_10, s_128_11, s_128_12, s_128_13, s_128_14, s_128_15, s_128_18, s_128_19, s_128_22, s_128_25, s_128_26, s_128_27, s_128_28, s_128_29, s_128_31, s_128_32, s_128_36, s_128_37, s_128_40, s_128_41, s_128_44, s_128_46, s_128_49, s_128_52, s_128_53, s_128_56, s_128_58, s_128_61, s_128_63, s_128_64, s_128_65, s_128_68, s_128_70, s_128_71, s_128_74, s_128_75, s_128_78, s_128_81, s_128_83, s_128_84, s_128_86, s_128_87, s_128_90, s_128_92, s_128_93, s_128_96, s_128_98, s_128_101, s_128_104, s_128_106, s_128_108, s_128_111, s_128_114, s_128_115, s_128_116, s_128_119, s_128_121, s_128_122, s_128_123, s_128_126, s_128_129, s_128_130, s_128_133, s_128_135, s_128_138, s_128_139, s_128_140, s_128_141, s_128_142, s_128_144, s_128_145, s_128_148, s_128_151, s_128_152, s_128_155, s_128_156, s_128_159, s_128_160, x_get_i, List.getElem?_cons_succ, List.getElem?_cons_zero, x_cv_j, cs_n, cs_i, cs_r, cs_l, Nat.reduceAdd, Nat.reduceLeDiff, true_and, Option.toList_some, Option.toList_none, List.cons_append, List.nil_append, if_true, if_false, nb0, nb1, x_setJ, x_setZ0, x_setZ1, x_setA, x_setO, List.length_cons, List.length_nil, Nat.reduceLT, List.set_cons_succ, List.set_cons_zero, wrl_0, wrl_1, wrl_2, wrl_3, wrl_4, wrl_5, wrl_p0, wrl_p1, wrl_p2, wrl_p3, wrl_p4, o_b, a_b, c_b, n_b, p_b, q_b, m_b, g_b, tc_moodsOf hTb hn, nI_1] at ih ⊢
          by_cases k1 : a.1 = -1
          · simp only [k1, if_true] at ih ⊢
            by_cases k2 : a.2 = -1
            · simp only [k2, if_true] at ih ⊢
              exact ih _
            · by_cases k3 : tc_mo M (nI i) n ≤ tc_mo M a.2 n
              · simp only [k2, k3, if_true, if_false] at ih ⊢
                exact ih _
              · simp only [k2, k3, if_false] at ih ⊢
                exact ih _
          · by_cases k4 : tc_mo M a.1 n ≤ tc_mo M (nI i) n
            · simp only [k1, k4, if_true, if_false] at ih ⊢
              by_cases k2 : a.2 = -1
              · simp only [k2, if_true] at ih ⊢
                exact ih _
              · by_cases k3 : tc_mo M (nI i) n ≤ tc_mo M a.2 n
                · simp only [k2, k3, if_true, if_false] at ih ⊢
                  exact ih _
                · simp only [k2, k3, if_false] at ih ⊢
                  exact ih _
            · simp only [k1, k4, if_false] at ih ⊢
              by_cases k2 : a.2 = -1
              · simp only [k2, if_true] at ih ⊢
                exact ih _
              · by_cases k3 : tc_mo M (nI i) n ≤ tc_mo M a.2 n
                · simp only [k2, k3, if_true, if_false] at ih ⊢
                  exact ih _
                · simp only [k2, k3, if_false] at ih ⊢
                  exact ih _
    simp only [s_128_0, s_128_1, s_128_4, s_128_5, s_128_6, s_128_7, s_128_10, s_128_11, s_128_12, s_128_13, s_128_14, s_128_15, s_128_18, s_128_19, s_128_22, s_128_25, s_128_26, s_128_27, s_128_28, s_128_29, s_128_31, s_128_32, s_128_36, s_128_37, s_128_40, s_128_41, s_128_44, s_128_46, s_128_49, s_128_52, s_128_53, s_128_56, s_128_58, s_128_61, s_128_63, s_128_64, s_128_65, s_128_68, s_128_70, s_128_71, s_128_74, s_128_75, s_128_78, s_128_81, s_128_83, s_128_84, s_128_86, s_128_87, s_128_90, s_128_92, s_128_93, s_128_96, s_128_98, s_128_101, s_128_104, s_128_106, s_128_108, s_128_111, s_128_114, s_128_115, s_128_116, s_128_119, s_128_121, s_128_122, s_128_123, s_128_126, s_128_129, s_128_130, s_128_133, s_128_135, s_128_138, s_128_139, s_128_140, s_128_141, s_128_142, s_128_144, s_128_145, s_128_148, s_128_151, s_128_152, s_128_155, s_128_156, s_128_159, s_128_160, x_get_i, List.getElem?_cons_succ, List.getElem?_cons_zero, x_cv_j, cs_n, cs_i, cs_r, cs_l, Nat.reduceAdd, Nat.reduceLeDiff, true_and, Option.toList_some, Option.toList_none, List.cons_append, List.nil_append, if_true, if_false, nb0, nb1, x_setJ, x_setZ0, x_setZ1, x_setA, x_setO, List.length_cons, List.length_nil, Nat.reduceLT, List.set_cons_succ, List.set_cons_zero, wrl_0, wrl_1, wrl_2, wrl_3, wrl_4, wrl_5, wrl_p0, wrl_p1, wrl_p2, wrl_p3, wrl_p4, eq]
    exact loop (q + 1) 0 _ (by omega)
theorem c_packs (hW : CW sa h b (c, F) (rc, R) (L, W, M, B, n, s, g) pa ru he mi ga) (h1 : ∀ p h' N, (wread F c N).1 = some p → sm b (b + 162) h h' → CW sa h' b (0, F) (rc, R) (L, W, M, B, n, s, g) pa ru he mi ga → Q (some (.int (-1 - nI p))) h') (h2 : ∀ h' N T, (wread F c N).1 = none → sm b (b + 162) h h' → CW sa h' b (0, F) (rw1 R (wbs (wread F c N).2.1 (wT T L n s 8) (wread F c N).2.2.1 (2 ^ (wread F c N).2.2.1 - 1) 1 0).toInt64) (L, W, M, B, n, s, g) pa ru he mi ga → Q (some (.int (ibc (wbs (wread F c N).2.1 (wT T L n s 8) (wread F c N).2.2.1 (2 ^ (wread F c N).2.2.1 - 1) 1 0)))) h') (hp80 : ∀ N p, (wread F c N).1 = some p → p ≤ 80) (hz8 : ∀ N, (wread F c N).2.2.1 ≤ 8) : tm_D (g_G sa sc xt) (d + 4) 129 [.ref b] h Q := by
  obtain ⟨w_o, w_t, w_r, w_n, w_h, w_l, w_b, w_p, w_u, w_v, w_a, w_e, w_w, w_x, w_q, w_m, w_g, w_d, w_s⟩ := id hW
  have o_0 := hW.1
  have a_0 : h.2.2 (b + 1) = .inr (8, _) := hW.2.1.1.1
  have c_0 : h.2.2 (b + 3) = .inr (5, _) := cel_0 hW.2.2.1.1
  have n_0 : h.2.2 (b + 5) = .inr (9, _) := hW.2.2.2.1.1.1
  have p_0 : h.2.2 (b + 33) = .inr (6, _) := hW.2.2.2.2.2.2.2.1.1.1
  have q_0 : h.2.2 (b + 152) = .inr (2, _) := cel_0 hW.2.2.2.2.2.2.2.2.2.2.2.2.2.2.1.1
  obtain ⟨_, mm_0⟩ := hW.2.2.2.2.2.2.2.2.2.2.2.2.2.2.2.1.1
  have m_0 : h.2.2 (b + 154) = .inr (4, _) := cel_0 mm_0
  have g_0 : h.2.2 (b + 159) = .inr (1, _) := cel_0 hW.2.2.2.2.2.2.2.2.2.2.2.2.2.2.2.2.1.1
  have hn : n ≤ 12 := w_n.2.1
  obtain ⟨N, T, z, cw⟩ := w_w
  have v0 := cel_0 cw
  rw [e_129]
  simp only [s_129_0, s_129_1, s_129_4, s_129_5, s_129_8, s_129_11, s_129_12, s_129_13, s_129_16, s_129_19, s_129_20, s_129_21, s_129_24, s_129_25, s_129_26, s_129_27, s_129_28, s_129_29, s_129_32, s_129_33, s_129_36, s_129_39, s_129_40, s_129_41, s_129_44, s_129_45, s_129_46, s_129_49, s_129_50, s_129_53, x_get_i, List.getElem?_cons_succ, List.getElem?_cons_zero, x_cv_j, cs_n, cs_i, cs_r, cs_l, Nat.reduceAdd, Nat.reduceLeDiff, true_and, Option.toList_some, Option.toList_none, List.cons_append, List.nil_append, if_true, if_false, nb0, nb1, x_setJ, x_setZ0, x_setZ1, x_setA, x_setO, List.length_cons, List.length_nil, Nat.reduceLT, List.set_cons_succ, List.set_cons_zero, wrl_0, wrl_1, wrl_2, wrl_3, wrl_4, wrl_5, wrl_p0, wrl_p1, wrl_p2, wrl_p3, wrl_p4, o_0, a_0, c_0, n_0, p_0, q_0, m_0, g_0, v0]
  refine cel_call (n := 3) cw rfl (fun Q => wo_read w_t.1 w_t.2.1 (by omega)) (fun ha sA ca => ?_)
  have hWa := CW_w hW sA ⟨_, _, _, ca⟩
  have o_a := hWa.1
  have a_a : ha.2.2 (b + 1) = .inr (8, _) := hWa.2.1.1.1
  have c_a : ha.2.2 (b + 3) = .inr (5, _) := cel_0 hWa.2.2.1.1
  have n_a : ha.2.2 (b + 5) = .inr (9, _) := hWa.2.2.2.1.1.1
  have p_a : ha.2.2 (b + 33) = .inr (6, _) := hWa.2.2.2.2.2.2.2.1.1.1
  have q_a : ha.2.2 (b + 152) = .inr (2, _) := cel_0 hWa.2.2.2.2.2.2.2.2.2.2.2.2.2.2.1.1
  obtain ⟨_, mm_a⟩ := hWa.2.2.2.2.2.2.2.2.2.2.2.2.2.2.2.1.1
  have m_a : ha.2.2 (b + 154) = .inr (4, _) := cel_0 mm_a
  have g_a : ha.2.2 (b + 159) = .inr (1, _) := cel_0 hWa.2.2.2.2.2.2.2.2.2.2.2.2.2.2.2.2.1.1
  simp only [s_129_0, s_129_1, s_129_4, s_129_5, s_129_8, s_129_11, s_129_12, s_129_13, s_129_16, s_129_19, s_129_20, s_129_21, s_129_24, s_129_25, s_129_26, s_129_27, s_129_28, s_129_29, s_129_32, s_129_33, s_129_36, s_129_39, s_129_40, s_129_41, s_129_44, s_129_45, s_129_46, s_129_49, s_129_50, s_129_53, x_get_i, List.getElem?_cons_succ, List.getElem?_cons_zero, x_cv_j, cs_n, cs_i, cs_r, cs_l, Nat.reduceAdd, Nat.reduceLeDiff, true_and, Option.toList_some, Option.toList_none, List.cons_append, List.nil_append, if_true, if_false, nb0, nb1, x_setJ, x_setZ0, x_setZ1, x_setA, x_setO, List.length_cons, List.length_nil, Nat.reduceLT, List.set_cons_succ, List.set_cons_zero, wrl_0, wrl_1, wrl_2, wrl_3, wrl_4, wrl_5, wrl_p0, wrl_p1, wrl_p2, wrl_p3, wrl_p4, o_a, a_a, c_a, n_a, p_a, q_a, m_a, g_a]
  refine c_tclear hWa (fun hb sB hWb => ?_)
  have o_b := hWb.1
  have a_b : hb.2.2 (b + 1) = .inr (8, _) := hWb.2.1.1.1
  have c_b : hb.2.2 (b + 3) = .inr (5, _) := cel_0 hWb.2.2.1.1
  have n_b : hb.2.2 (b + 5) = .inr (9, _) := hWb.2.2.2.1.1.1
  have p_b : hb.2.2 (b + 33) = .inr (6, _) := hWb.2.2.2.2.2.2.2.1.1.1
  have q_b : hb.2.2 (b + 152) = .inr (2, _) := cel_0 hWb.2.2.2.2.2.2.2.2.2.2.2.2.2.2.1.1
  obtain ⟨_, mm_b⟩ := hWb.2.2.2.2.2.2.2.2.2.2.2.2.2.2.2.1.1
  have m_b : hb.2.2 (b + 154) = .inr (4, _) := cel_0 mm_b
  have g_b : hb.2.2 (b + 159) = .inr (1, _) := cel_0 hWb.2.2.2.2.2.2.2.2.2.2.2.2.2.2.2.2.1.1
  have cb := cel_sm sB (by simp only [List.length_cons, List.length_nil]; omega) ca
  have v1 := cel_0 cb
  have sAB := (sA.mono (lo' := b) (hi' := b + 162) (by omega) (by omega)).trans (sB.mono (lo' := b) (hi' := b + 162) (by omega) (by omega))
  cases hf : (wread F c N).1 with
  | some p =>
    have hp := hp80 N p hf
    simp only [s_129_0, s_129_1, s_129_4, s_129_5, s_129_8, s_129_11, s_129_12, s_129_13, s_129_16, s_129_19, s_129_20, s_129_21, s_129_24, s_129_25, s_129_26, s_129_27, s_129_28, s_129_29, s_129_32, s_129_33, s_129_36, s_129_39, s_129_40, s_129_41, s_129_44, s_129_45, s_129_46, s_129_49, s_129_50, s_129_53, x_get_i, List.getElem?_cons_succ, List.getElem?_cons_zero, x_cv_j, cs_n, cs_i, cs_r, cs_l, Nat.reduceAdd, Nat.reduceLeDiff, true_and, Option.toList_some, Option.toList_none, List.cons_append, List.nil_append, if_true, if_false, nb0, nb1, x_setJ, x_setZ0, x_setZ1, x_setA, x_setO, List.length_cons, List.length_nil, Nat.reduceLT, List.set_cons_succ, List.set_cons_zero, wrl_0, wrl_1, wrl_2, wrl_3, wrl_4, wrl_5, wrl_p0, wrl_p1, wrl_p2, wrl_p3, wrl_p4, oI, oI_ne (show p < 2 ^ 31 by omega)]
    exact h1 p hb N hf sAB hWb
  | none =>
    simp only [s_129_0, s_129_1, s_129_4, s_129_5, s_129_8, s_129_11, s_129_12, s_129_13, s_129_16, s_129_19, s_129_20, s_129_21, s_129_24, s_129_25, s_129_26, s_129_27, s_129_28, s_129_29, s_129_32, s_129_33, s_129_36, s_129_39, s_129_40, s_129_41, s_129_44, s_129_45, s_129_46, s_129_49, s_129_50, s_129_53, x_get_i, List.getElem?_cons_succ, List.getElem?_cons_zero, x_cv_j, cs_n, cs_i, cs_r, cs_l, Nat.reduceAdd, Nat.reduceLeDiff, true_and, Option.toList_some, Option.toList_none, List.cons_append, List.nil_append, if_true, if_false, nb0, nb1, x_setJ, x_setZ0, x_setZ1, x_setA, x_setO, List.length_cons, List.length_nil, Nat.reduceLT, List.set_cons_succ, List.set_cons_zero, wrl_0, wrl_1, wrl_2, wrl_3, wrl_4, wrl_5, wrl_p0, wrl_p1, wrl_p2, wrl_p3, wrl_p4, oI, o_b, a_b, c_b, n_b, p_b, q_b, m_b, g_b, v1]
    have hTb : tc_at hb (b + 5) L W M B (nI n) s g := hWb.2.2.2.1.1
    refine cel_call (n := 3) cb rfl (fun Q => wo_most hTb hn (by omega) (hz8 N)) (fun hd sD cd => ?_)
    have hWd := CW_w hWb sD ⟨_, _, _, cd⟩
    have o_d := hWd.1
    have a_d : hd.2.2 (b + 1) = .inr (8, _) := hWd.2.1.1.1
    have c_d : hd.2.2 (b + 3) = .inr (5, _) := cel_0 hWd.2.2.1.1
    have n_d : hd.2.2 (b + 5) = .inr (9, _) := hWd.2.2.2.1.1.1
    have p_d : hd.2.2 (b + 33) = .inr (6, _) := hWd.2.2.2.2.2.2.2.1.1.1
    have q_d : hd.2.2 (b + 152) = .inr (2, _) := cel_0 hWd.2.2.2.2.2.2.2.2.2.2.2.2.2.2.1.1
    obtain ⟨_, mm_d⟩ := hWd.2.2.2.2.2.2.2.2.2.2.2.2.2.2.2.1.1
    have m_d : hd.2.2 (b + 154) = .inr (4, _) := cel_0 mm_d
    have g_d : hd.2.2 (b + 159) = .inr (1, _) := cel_0 hWd.2.2.2.2.2.2.2.2.2.2.2.2.2.2.2.2.1.1
    simp only [s_129_0, s_129_1, s_129_4, s_129_5, s_129_8, s_129_11, s_129_12, s_129_13, s_129_16, s_129_19, s_129_20, s_129_21, s_129_24, s_129_25, s_129_26, s_129_27, s_129_28, s_129_29, s_129_32, s_129_33, s_129_36, s_129_39, s_129_40, s_129_41, s_129_44, s_129_45, s_129_46, s_129_49, s_129_50, s_129_53, x_get_i, List.getElem?_cons_succ, List.getElem?_cons_zero, x_cv_j, cs_n, cs_i, cs_r, cs_l, Nat.reduceAdd, Nat.reduceLeDiff, true_and, Option.toList_some, Option.toList_none, List.cons_append, List.nil_append, if_true, if_false, nb0, nb1, x_setJ, x_setZ0, x_setZ1, x_setA, x_setO, List.length_cons, List.length_nil, Nat.reduceLT, List.set_cons_succ, List.set_cons_zero, wrl_0, wrl_1, wrl_2, wrl_3, wrl_4, wrl_5, wrl_p0, wrl_p1, wrl_p2, wrl_p3, wrl_p4, o_d, a_d, c_d, n_d, p_d, q_d, m_d, g_d]
    refine c_tell1 hWd _ (fun hy sy hWy => ?_)
    simp only [s_129_0, s_129_1, s_129_4, s_129_5, s_129_8, s_129_11, s_129_12, s_129_13, s_129_16, s_129_19, s_129_20, s_129_21, s_129_24, s_129_25, s_129_26, s_129_27, s_129_28, s_129_29, s_129_32, s_129_33, s_129_36, s_129_39, s_129_40, s_129_41, s_129_44, s_129_45, s_129_46, s_129_49, s_129_50, s_129_53, x_get_i, List.getElem?_cons_succ, List.getElem?_cons_zero, x_cv_j, cs_n, cs_i, cs_r, cs_l, Nat.reduceAdd, Nat.reduceLeDiff, true_and, Option.toList_some, Option.toList_none, List.cons_append, List.nil_append, if_true, if_false, nb0, nb1, x_setJ, x_setZ0, x_setZ1, x_setA, x_setO, List.length_cons, List.length_nil, Nat.reduceLT, List.set_cons_succ, List.set_cons_zero, wrl_0, wrl_1, wrl_2, wrl_3, wrl_4, wrl_5, wrl_p0, wrl_p1, wrl_p2, wrl_p3, wrl_p4, m_bitCount]
    exact h2 hy N T hf (sAB.trans ((sD.mono (by omega) (by omega)).trans (sy.mono (by omega) (by omega)))) hWy
theorem c_mixed (hW : CW sa h b tx (rc, R) (L, W, M, B, n, s, g) pa ru he mi ga) (hQ : ∀ h', sm b (b + 162) h h' → CW sa h' b tx (rw1 R (mxd L B n 8).toInt64) (L, W, M, B, n, s, g) pa ru he mi ga → Q (some (.int (nI n - tc_home L B n))) h') : tm_D (g_G sa sc xt) (d + 4) 136 [.ref b] h Q := by
  obtain ⟨w_o, w_t, w_r, w_n, w_h, w_l, w_b, w_p, w_u, w_v, w_a, w_e, w_w, w_x, w_q, w_m, w_g, w_d, w_s⟩ := id hW
  have o_0 := hW.1
  have a_0 : h.2.2 (b + 1) = .inr (8, _) := hW.2.1.1.1
  have c_0 : h.2.2 (b + 3) = .inr (5, _) := cel_0 hW.2.2.1.1
  have n_0 : h.2.2 (b + 5) = .inr (9, _) := hW.2.2.2.1.1.1
  have p_0 : h.2.2 (b + 33) = .inr (6, _) := hW.2.2.2.2.2.2.2.1.1.1
  have q_0 : h.2.2 (b + 152) = .inr (2, _) := cel_0 hW.2.2.2.2.2.2.2.2.2.2.2.2.2.2.1.1
  obtain ⟨_, mm_0⟩ := hW.2.2.2.2.2.2.2.2.2.2.2.2.2.2.2.1.1
  have m_0 : h.2.2 (b + 154) = .inr (4, _) := cel_0 mm_0
  have g_0 : h.2.2 (b + 159) = .inr (1, _) := cel_0 hW.2.2.2.2.2.2.2.2.2.2.2.2.2.2.2.2.1.1
  have hT : tc_at h (b + 5) L W M B (nI n) s g := w_n.1
  have hn : n ≤ 12 := w_n.2.1
  have loop : ∀ (j i : Nat), i + j = 8 → tm_X (g_G sa sc xt) (d + 4) 136 4 [.ref b, .int (mxd L B n i), .int (nI i)] [] h Q := by
    intro j
    induction j with
    | zero =>
      intro i hi
      have hi : i = 8 := by omega
      subst hi
      rw [s_136_4]
      simp only [s_136_0, s_136_1, s_136_2, s_136_3, s_136_5, s_136_7, s_136_10, s_136_11, s_136_14, s_136_15, s_136_18, s_136_21, s_136_22, s_136_23, s_136_24, s_136_25, s_136_26, s_136_27, s_136_30, s_136_33, s_136_34, s_136_37, s_136_38, s_136_39, s_136_42, s_136_43, s_136_46, s_136_49, s_136_50, s_136_53, s_136_56, s_136_57, x_get_i, List.getElem?_cons_succ, List.getElem?_cons_zero, x_cv_j, cs_n, cs_i, cs_r, cs_l, Nat.reduceAdd, Nat.reduceLeDiff, true_and, Option.toList_some, Option.toList_none, List.cons_append, List.nil_append, if_true, if_false, nb0, nb1, x_setJ, x_setZ0, x_setZ1, x_setA, x_setO, List.length_cons, List.length_nil, Nat.reduceLT, List.set_cons_succ, List.set_cons_zero, wrl_0, wrl_1, wrl_2, wrl_3, wrl_4, wrl_5, wrl_p0, wrl_p1, wrl_p2, wrl_p3, wrl_p4, show (8 : Int32) ≤ nI 8 by decide, o_0, a_0, c_0, n_0, p_0, q_0, m_0, g_0]
      refine c_tell1 hW _ (fun ha sA hWa => ?_)
      have o_a := hWa.1
      have a_a : ha.2.2 (b + 1) = .inr (8, _) := hWa.2.1.1.1
      have c_a : ha.2.2 (b + 3) = .inr (5, _) := cel_0 hWa.2.2.1.1
      have n_a : ha.2.2 (b + 5) = .inr (9, _) := hWa.2.2.2.1.1.1
      have p_a : ha.2.2 (b + 33) = .inr (6, _) := hWa.2.2.2.2.2.2.2.1.1.1
      have q_a : ha.2.2 (b + 152) = .inr (2, _) := cel_0 hWa.2.2.2.2.2.2.2.2.2.2.2.2.2.2.1.1
      obtain ⟨_, mm_a⟩ := hWa.2.2.2.2.2.2.2.2.2.2.2.2.2.2.2.1.1
      have m_a : ha.2.2 (b + 154) = .inr (4, _) := cel_0 mm_a
      have g_a : ha.2.2 (b + 159) = .inr (1, _) := cel_0 hWa.2.2.2.2.2.2.2.2.2.2.2.2.2.2.2.2.1.1
      have hTa : tc_at ha (b + 5) L W M B (nI n) s g := hWa.2.2.2.1.1
      have n_1 := hTa.1
      simp only [s_136_0, s_136_1, s_136_2, s_136_3, s_136_5, s_136_7, s_136_10, s_136_11, s_136_14, s_136_15, s_136_18, s_136_21, s_136_22, s_136_23, s_136_24, s_136_25, s_136_26, s_136_27, s_136_30, s_136_33, s_136_34, s_136_37, s_136_38, s_136_39, s_136_42, s_136_43, s_136_46, s_136_49, s_136_50, s_136_53, s_136_56, s_136_57, x_get_i, List.getElem?_cons_succ, List.getElem?_cons_zero, x_cv_j, cs_n, cs_i, cs_r, cs_l, Nat.reduceAdd, Nat.reduceLeDiff, true_and, Option.toList_some, Option.toList_none, List.cons_append, List.nil_append, if_true, if_false, nb0, nb1, x_setJ, x_setZ0, x_setZ1, x_setA, x_setO, List.length_cons, List.length_nil, Nat.reduceLT, List.set_cons_succ, List.set_cons_zero, wrl_0, wrl_1, wrl_2, wrl_3, wrl_4, wrl_5, wrl_p0, wrl_p1, wrl_p2, wrl_p3, wrl_p4, o_a, n_1, tc_atHome hTa hn]
      exact hQ ha (sA.mono (by omega) (by omega)) hWa
    | succ j ih =>
      intro i hi
      have es : mxd L B n (i + 1) = if ibc (tc_let L (tc_wh B (nI i) n) n) ≤ 1 then mxd L B n i else mxd L B n i ||| (1 <<< (nI i &&& 31)) := rfl
      have ih := ih (i + 1) (by omega)
      rw [es] at ih
      rw [s_136_4]
      simp only [s_136_0, s_136_1, s_136_2, s_136_3, s_136_5, s_136_7, s_136_10, s_136_11, s_136_14, s_136_15, s_136_18, s_136_21, s_136_22, s_136_23, s_136_24, s_136_25, s_136_26, s_136_27, s_136_30, s_136_33, s_136_34, s_136_37, s_136_38, s_136_39, s_136_42, s_136_43, s_136_46, s_136_49, s_136_50, s_136_53, s_136_56, s_136_57, x_get_i, List.getElem?_cons_succ, List.getElem?_cons_zero, x_cv_j, cs_n, cs_i, cs_r, cs_l, Nat.reduceAdd, Nat.reduceLeDiff, true_and, Option.toList_some, Option.toList_none, List.cons_append, List.nil_append, if_true, if_false, nb0, nb1, x_setJ, x_setZ0, x_setZ1, x_setA, x_setO, List.length_cons, List.length_nil, Nat.reduceLT, List.set_cons_succ, List.set_cons_zero, wrl_0, wrl_1, wrl_2, wrl_3, wrl_4, wrl_5, wrl_p0, wrl_p1, wrl_p2, wrl_p3, wrl_p4, show ¬ (8 : Int32) ≤ nI i from nI_ge (b := 8) (by omega) (by decide), o_0, a_0, c_0, n_0, p_0, q_0, m_0, g_0, tc_hasTwo hT hn, nI_1]
      by_cases k : ibc (tc_let L (tc_wh B (nI i) n) n) ≤ 1
      · simp only [k, if_true] at ih ⊢
        exact ih
      · simp only [k, if_false, show ¬ (1 : Int32) = 0 by decide] at ih ⊢
        exact ih
  rw [e_136]
  simp only [s_136_0, s_136_1, s_136_2, s_136_3, s_136_5, s_136_7, s_136_10, s_136_11, s_136_14, s_136_15, s_136_18, s_136_21, s_136_22, s_136_23, s_136_24, s_136_25, s_136_26, s_136_27, s_136_30, s_136_33, s_136_34, s_136_37, s_136_38, s_136_39, s_136_42, s_136_43, s_136_46, s_136_49, s_136_50, s_136_53, s_136_56, s_136_57]
  exact loop 8 0 (by decide)
theorem c_chord (hW : CW sa h b tx (rc, R) (L, W, M, B, n, s, g) pa ru he mi ga) (v : Int32) (h1 : (v < -72 ∨ 72 < v) → Q (some (.int (-100))) h) (h2 : ∀ q, ¬ (v < -72 ∨ 72 < v) → tc_allv (nI n) &&& (s ^^^ (-1)) = nI q → q < 4096 → (cho L M n (tc_allv (nI n) &&& (s ^^^ (-1))) v (q + 1)).1 = -1 → Q (some (.int (-2))) h) (h3 : ∀ q h', ¬ (v < -72 ∨ 72 < v) → tc_allv (nI n) &&& (s ^^^ (-1)) = nI q → q < 4096 → ¬ (cho L M n (tc_allv (nI n) &&& (s ^^^ (-1))) v (q + 1)).1 = -1 → sm b (b + 162) h h' → CW sa h' b tx (rw1 R (cho L M n (tc_allv (nI n) &&& (s ^^^ (-1))) v (q + 1)).1.toInt64) (L, W, M, B, n, s, g) pa ru he mi ga → Q (some (.int (cho L M n (tc_allv (nI n) &&& (s ^^^ (-1))) v (q + 1)).2)) h') : tm_D (g_G sa sc xt) (d + 4) 138 [.ref b, .int v] h Q := by
  obtain ⟨w_o, w_t, w_r, w_n, w_h, w_l, w_b, w_p, w_u, w_v, w_a, w_e, w_w, w_x, w_q, w_m, w_g, w_d, w_s⟩ := id hW
  have o_0 := hW.1
  have a_0 : h.2.2 (b + 1) = .inr (8, _) := hW.2.1.1.1
  have c_0 : h.2.2 (b + 3) = .inr (5, _) := cel_0 hW.2.2.1.1
  have n_0 : h.2.2 (b + 5) = .inr (9, _) := hW.2.2.2.1.1.1
  have p_0 : h.2.2 (b + 33) = .inr (6, _) := hW.2.2.2.2.2.2.2.1.1.1
  have q_0 : h.2.2 (b + 152) = .inr (2, _) := cel_0 hW.2.2.2.2.2.2.2.2.2.2.2.2.2.2.1.1
  obtain ⟨_, mm_0⟩ := hW.2.2.2.2.2.2.2.2.2.2.2.2.2.2.2.1.1
  have m_0 : h.2.2 (b + 154) = .inr (4, _) := cel_0 mm_0
  have g_0 : h.2.2 (b + 159) = .inr (1, _) := cel_0 hW.2.2.2.2.2.2.2.2.2.2.2.2.2.2.2.2.1.1
  have hT : tc_at h (b + 5) L W M B (nI n) s g := w_n.1
  have hn : n ≤ 12 := w_n.2.1
  have hall : ∀ i, 12 ≤ i → i < 32 → bt (tc_allv (nI n)) i = false := by
    have : ∀ n : Fin 13, ∀ i : Fin 32, 12 ≤ i.1 → bt (tc_allv (nI n.1)) i.1 = false := by decide +kernel
    exact fun i h1 h2 => this ⟨n, by omega⟩ ⟨i, h2⟩ h1
  obtain ⟨q, hq, eq⟩ := low12 (x := tc_allv (nI n) &&& (s ^^^ (-1))) (fun i h1 h2 => by rw [bt_and, hall i h1 h2]; rfl)
  rw [e_138]
  simp only [s_138_0, s_138_1, s_138_3, s_138_6, s_138_7, s_138_9, s_138_12, s_138_14, s_138_15, s_138_16, s_138_19, s_138_22, s_138_23, s_138_24, s_138_25, s_138_26, s_138_28, s_138_29, s_138_33, s_138_34, s_138_37, s_138_39, s_138_42, s_138_44, s_138_46, s_138_47, s_138_48, s_138_49, s_138_50, s_138_53, s_138_55, s_138_57, s_138_60, s_138_61, s_138_64, s_138_66, s_138_69, s_138_70, s_138_73, s_138_74, s_138_77, s_138_79, s_138_82, s_138_84, s_138_87, s_138_89, s_138_90, s_138_92, s_138_94, s_138_97, s_138_100, s_138_101, s_138_102, s_138_105, s_138_107, s_138_108, s_138_109, s_138_112, s_138_113, s_138_114, s_138_117, s_138_119, x_get_i, List.getElem?_cons_succ, List.getElem?_cons_zero, x_cv_j, cs_n, cs_i, cs_r, cs_l, Nat.reduceAdd, Nat.reduceLeDiff, true_and, Option.toList_some, Option.toList_none, List.cons_append, List.nil_append, if_true, if_false, nb0, nb1, x_setJ, x_setZ0, x_setZ1, x_setA, x_setO, List.length_cons, List.length_nil, Nat.reduceLT, List.set_cons_succ, List.set_cons_zero, wrl_0, wrl_1, wrl_2, wrl_3, wrl_4, wrl_5, wrl_p0, wrl_p1, wrl_p2, wrl_p3, wrl_p4]
  by_cases k1 : v < -72
  · simp only [k1, if_true]
    exact h1 (Or.inl k1)
  by_cases k2 : v ≤ 72
  · have k0 : ¬ (v < -72 ∨ 72 < v) := by
      rintro (q | q)
      · exact k1 q
      · exact Int32.not_lt.mpr k2 q
    simp only [k1, k2, if_true, if_false, o_0, a_0, c_0, n_0, p_0, q_0, m_0, g_0, s_138_0, s_138_1, s_138_3, s_138_6, s_138_7, s_138_9, s_138_12, s_138_14, s_138_15, s_138_16, s_138_19, s_138_22, s_138_23, s_138_24, s_138_25, s_138_26, s_138_28, s_138_29, s_138_33, s_138_34, s_138_37, s_138_39, s_138_42, s_138_44, s_138_46, s_138_47, s_138_48, s_138_49, s_138_50, s_138_53, s_138_55, s_138_57, s_138_60, s_138_61, s_138_64, s_138_66, s_138_69, s_138_70, s_138_73, s_138_74, s_138_77, s_138_79, s_138_82, s_138_84, s_138_87, s_138_89, s_138_90, s_138_92, s_138_94, s_138_97, s_138_100, s_138_101, s_138_102, s_138_105, s_138_107, s_138_108, s_138_109, s_138_112, s_138_113, s_138_114, s_138_117, s_138_119, x_get_i, List.getElem?_cons_succ, List.getElem?_cons_zero, x_cv_j, cs_n, cs_i, cs_r, cs_l, Nat.reduceAdd, Nat.reduceLeDiff, true_and, Option.toList_some, Option.toList_none, List.cons_append, List.nil_append, if_true, if_false, nb0, nb1, x_setJ, x_setZ0, x_setZ1, x_setA, x_setO, List.length_cons, List.length_nil, Nat.reduceLT, List.set_cons_succ, List.set_cons_zero, wrl_0, wrl_1, wrl_2, wrl_3, wrl_4, wrl_5, wrl_p0, wrl_p1, wrl_p2, wrl_p3, wrl_p4, tc_free hT]
    have h2 := h2 q k0 eq hq
    have h3 := fun h' => h3 q h' k0 eq hq
    rw [eq] at h2 h3 ⊢
    have loop : ∀ (j i : Nat) (x6 : Value), i + j = q + 1 → tm_X (g_G sa sc xt) (d + 4) 138 31 [.ref b, .int v, .int (nI q), .int (cho L M n (nI q) v i).1, .int (cho L M n (nI q) v i).2, .int (nI i), x6] [] h Q := by
      intro j
      induction j with
      | zero =>
        intro i x6 hi
        have hi : i = q + 1 := by omega
        subst hi
        rw [s_138_31]
        simp only [s_138_0, s_138_1, s_138_3, s_138_6, s_138_7, s_138_9, s_138_12, s_138_14, s_138_15, s_138_16, s_138_19, s_138_22, s_138_23, s_138_24, s_138_25, s_138_26, s_138_28, s_138_29, s_138_33, s_138_34, s_138_37, s_138_39, s_138_42, s_138_44, s_138_46, s_138_47, s_138_48, s_138_49, s_138_50, s_138_53, s_138_55, s_138_57, s_138_60, s_138_61, s_138_64, s_138_66, s_138_69, s_138_70, s_138_73, s_138_74, s_138_77, s_138_79, s_138_82, s_138_84, s_138_87, s_138_89, s_138_90, s_138_92, s_138_94, s_138_97, s_138_100, s_138_101, s_138_102, s_138_105, s_138_107, s_138_108, s_138_109, s_138_112, s_138_113, s_138_114, s_138_117, s_138_119, x_get_i, List.getElem?_cons_succ, List.getElem?_cons_zero, x_cv_j, cs_n, cs_i, cs_r, cs_l, Nat.reduceAdd, Nat.reduceLeDiff, true_and, Option.toList_some, Option.toList_none, List.cons_append, List.nil_append, if_true, if_false, nb0, nb1, x_setJ, x_setZ0, x_setZ1, x_setA, x_setO, List.length_cons, List.length_nil, Nat.reduceLT, List.set_cons_succ, List.set_cons_zero, wrl_0, wrl_1, wrl_2, wrl_3, wrl_4, wrl_5, wrl_p0, wrl_p1, wrl_p2, wrl_p3, wrl_p4, show nI q < nI (q + 1) from nI_lt (by omega) (by omega)]
        by_cases k3 : (cho L M n (nI q) v (q + 1)).1 = -1
        · simp only [k3, if_true]
          exact h2 k3
        · simp only [k3, if_false, s_138_0, s_138_1, s_138_3, s_138_6, s_138_7, s_138_9, s_138_12, s_138_14, s_138_15, s_138_16, s_138_19, s_138_22, s_138_23, s_138_24, s_138_25, s_138_26, s_138_28, s_138_29, s_138_33, s_138_34, s_138_37, s_138_39, s_138_42, s_138_44, s_138_46, s_138_47, s_138_48, s_138_49, s_138_50, s_138_53, s_138_55, s_138_57, s_138_60, s_138_61, s_138_64, s_138_66, s_138_69, s_138_70, s_138_73, s_138_74, s_138_77, s_138_79, s_138_82, s_138_84, s_138_87, s_138_89, s_138_90, s_138_92, s_138_94, s_138_97, s_138_100, s_138_101, s_138_102, s_138_105, s_138_107, s_138_108, s_138_109, s_138_112, s_138_113, s_138_114, s_138_117, s_138_119, x_get_i, List.getElem?_cons_succ, List.getElem?_cons_zero, x_cv_j, cs_n, cs_i, cs_r, cs_l, Nat.reduceAdd, Nat.reduceLeDiff, true_and, Option.toList_some, Option.toList_none, List.cons_append, List.nil_append, if_true, if_false, nb0, nb1, x_setJ, x_setZ0, x_setZ1, x_setA, x_setO, List.length_cons, List.length_nil, Nat.reduceLT, List.set_cons_succ, List.set_cons_zero, wrl_0, wrl_1, wrl_2, wrl_3, wrl_4, wrl_5, wrl_p0, wrl_p1, wrl_p2, wrl_p3, wrl_p4, o_0, a_0, c_0, n_0, p_0, q_0, m_0, g_0]
          refine c_tell1 hW _ (fun ha sA hWa => ?_)
          simp only [s_138_0, s_138_1, s_138_3, s_138_6, s_138_7, s_138_9, s_138_12, s_138_14, s_138_15, s_138_16, s_138_19, s_138_22, s_138_23, s_138_24, s_138_25, s_138_26, s_138_28, s_138_29, s_138_33, s_138_34, s_138_37, s_138_39, s_138_42, s_138_44, s_138_46, s_138_47, s_138_48, s_138_49, s_138_50, s_138_53, s_138_55, s_138_57, s_138_60, s_138_61, s_138_64, s_138_66, s_138_69, s_138_70, s_138_73, s_138_74, s_138_77, s_138_79, s_138_82, s_138_84, s_138_87, s_138_89, s_138_90, s_138_92, s_138_94, s_138_97, s_138_100, s_138_101, s_138_102, s_138_105, s_138_107, s_138_108, s_138_109, s_138_112, s_138_113, s_138_114, s_138_117, s_138_119, x_get_i, List.getElem?_cons_succ, List.getElem?_cons_zero, x_cv_j, cs_n, cs_i, cs_r, cs_l, Nat.reduceAdd, Nat.reduceLeDiff, true_and, Option.toList_some, Option.toList_none, List.cons_append, List.nil_append, if_true, if_false, nb0, nb1, x_setJ, x_setZ0, x_setZ1, x_setA, x_setO, List.length_cons, List.length_nil, Nat.reduceLT, List.set_cons_succ, List.set_cons_zero, wrl_0, wrl_1, wrl_2, wrl_3, wrl_4, wrl_5, wrl_p0, wrl_p1, wrl_p2, wrl_p3, wrl_p4]
          exact h3 ha k3 (sA.mono (by omega) (by omega)) hWa
      | succ j ih =>
        intro i x6 hi
        have es : cho L M n (nI q) v (i + 1) = if nI i &&& (nI q ^^^ (-1)) = 0 then (if ibc (nI i) ≤ (cho L M n (nI q) v i).2 then cho L M n (nI q) v i else if tc_mo M (nI i) n = v then (if ibc (tc_let L (nI i) n) = ibc (nI i) then (nI i, ibc (nI i)) else cho L M n (nI q) v i) else cho L M n (nI q) v i) else cho L M n (nI q) v i := rfl
        have ih := fun x => ih (i + 1) x (by omega)
        rw [es] at ih
        clear es
        generalize cho L M n (nI q) v i = a at ih
        rw [s_138_31]
        simp only [s_138_0, s_138_1, s_138_3, s_138_6, s_138_7, s_138_9, s_138_12, s_138_14, s_138_15, s_138_16, s_138_19, s_138_22, s_138_23, s_138_24, s_138_25, s_138_26, s_138_28, s_138_29, s_138_33, s_138_34, s_138_37, s_138_39, s_138_42, s_138_44, s_138_46, s_138_47, s_138_48, s_138_49, s_138_50, s_138_53, s_138_55, s_138_57, s_138_60, s_138_61, s_138_64, s_138_66, s_138_69, s_138_70, s_138_73, s_138_74, s_138_77, s_138_79, s_138_82, s_138_84, s_138_87, s_138_89, s_138_90, s_138_92, s_138_94, s_138_97, s_138_100, s_138_101, s_138_102, s_138_105, s_138_107, s_138_108, s_138_109, s_138_112, s_138_113, s_138_114, s_138_117, s_138_119, x_get_i, List.getElem?_cons_succ, List.getElem?_cons_zero, x_cv_j, cs_n, cs_i, cs_r, cs_l, Nat.reduceAdd, Nat.reduceLeDiff, true_and, Option.toList_some, Option.toList_none, List.cons_append, List.nil_append, if_true, if_false, nb0, nb1, x_setJ, x_setZ0, x_setZ1, x_setA, x_setO, List.length_cons, List.length_nil, Nat.reduceLT, List.set_cons_succ, List.set_cons_zero, wrl_0, wrl_1, wrl_2, wrl_3, wrl_4, wrl_5, wrl_p0, wrl_p1, wrl_p2, wrl_p3, wrl_p4, show ¬ nI q < nI i from nI_nlt (by omega) (by omega), o_0, a_0, c_0, n_0, p_0, q_0, m_0, g_0, m_bitCount, tc_moodsOf hT hn, tc_lettersOf hT hn, nI_1]
        by_cases k3 : nI i &&& (nI q ^^^ (-1)) = 0
        · simp only [k3, if_true] at ih ⊢
          by_cases k4 : ibc (nI i) ≤ a.2
          · simp only [k4, if_true] at ih ⊢
            exact ih _
          · simp only [k4, if_false] at ih ⊢
            by_cases k5 : tc_mo M (nI i) n = v
            · simp only [k5, if_true] at ih ⊢
              by_cases k6 : ibc (tc_let L (nI i) n) = ibc (nI i)
              · simp only [k6, if_true] at ih ⊢
                exact ih _
              · simp only [k6, if_false] at ih ⊢
                exact ih _
            · simp only [k5, if_false] at ih ⊢
              exact ih _
        · simp only [k3, if_false] at ih ⊢
          exact ih _
    exact loop (q + 1) 0 _ (by omega)
  · simp only [k1, k2, if_false]
    exact h1 (Or.inr (Int32.not_le.mp k2))
end
