/-! calls of the class: often, shortest, bears, spans, packs -/
/-- a number whose bits are below 12 -/
theorem low12 {x : Int32} (h : ∀ i, 12 ≤ i → i < 32 → bt x i = false) : ∃ q, q < 4096 ∧ x = nI q := by
  have hl : x.toBitVec.toNat < 2 ^ 12 := by
    apply Nat.lt_pow_two_of_testBit
    intro i hi
    by_cases h32 : i < 32
    · exact h i hi h32
    · apply Nat.testBit_lt_two_pow
      exact Nat.lt_of_lt_of_le x.toBitVec.isLt (Nat.pow_le_pow_right (by decide) (by omega))
  refine ⟨x.toBitVec.toNat, hl, ?_⟩
  apply Int32.toBitVec_inj.mp
  apply BitVec.eq_of_toNat_eq
  show _ = (BitVec.ofNat 32 x.toBitVec.toNat).toNat
  rw [BitVec.toNat_ofNat]
  exact (Nat.mod_eq_of_lt (by omega)).symm
theorem wh_b {A : Nat → Int32} {x : Int32} : ∀ {n i : Nat}, n ≤ 12 → i < 32 → bt (tc_wh A x n) i = (decide (i < n) && decide (A i = x))
  | 0, i, _, hi => by
    show bt 0 i = _
    rw [bt_0, decide_eq_false (by omega)]; rfl
  | n + 1, i, hn, hi => by
    have es : tc_wh A x (n + 1) = tc_wh A x n ||| (if A n = x then 1 <<< (nI n &&& 31) else 0) := rfl
    rw [es, bt_or, wh_b (by omega) hi]
    by_cases h1 : i = n
    · subst h1
      rw [decide_eq_false (show ¬ i < i by omega), decide_eq_true (show i < i + 1 by omega)]
      by_cases h2 : A i = x
      · rw [if_pos h2, bt_one (by omega) hi, decide_eq_true h2, decide_eq_true rfl]; rfl
      · rw [if_neg h2, bt_0, decide_eq_false h2]; rfl
    · have h3 : bt (if A n = x then 1 <<< (nI n &&& 31) else 0) i = false := by
        split
        · rw [bt_one (by omega) hi, decide_eq_false h1]
        · exact bt_0
      rw [h3, Bool.or_false]
      by_cases h4 : i < n
      · rw [decide_eq_true h4, decide_eq_true (show i < n + 1 by omega)]
      · rw [decide_eq_false h4, decide_eq_false (show ¬ i < n + 1 by omega)]
theorem po_low {N L : Nat → Int32} {n : Nat} {s : Int32} (hn : n ≤ 12) {x i : Nat} (h1 : 12 ≤ i) (h2 : i < 32) : bt (le_po N L n s x) i = false := by
  unfold le_po
  split
  · exact bt_0
  · rw [bt_and, wh_b hn h2, decide_eq_false (by omega)]; rfl
theorem pl_low {N L : Nat → Int32} {n : Nat} {s : Int32} (hn : n ≤ 12) {i : Nat} (h1 : 12 ≤ i) (h2 : i < 32) : ∀ k, bt (le_pl N L n s k) i = false
  | 0 => bt_0
  | k + 1 => by
    have es : le_pl N L n s (k + 1) = le_pl N L n s k ||| le_po N L n s k := rfl
    rw [es, bt_or, pl_low hn h1 h2 k, po_low hn h1 h2]; rfl
/-- does a set suit: letters N, gathered -/
def sui (N L : Nat → Int32) (n : Nat) (s z : Int32) (x : Int32) : Bool := decide (x &&& (le_pl N L n s 8 ^^^ (-1)) = 0) && (decide (ibc x = z) && le_su N (le_po N L n s) x 8 0)
theorem su_congr {N P P' : Nat → Int32} {x : Int32} : ∀ {j k : Nat}, (∀ i, k ≤ i → i < k + j → P i = P' i) → le_su N P x j k = le_su N P' x j k
  | 0, k, _ => rfl
  | j + 1, k, h => by
    unfold le_su
    rw [h k (by omega) (by omega), su_congr (fun i h1 h2 => h i (by omega) (by omega))]
def bea (su : Nat → Bool) (mo : Nat → Int32) (v : Int32) (R : Nat → Int64) : Nat → Nat × Nat × (Nat → Int64) := fo (fun i a => if su i && decide (mo i = v) then (a.1 + 1, if a.1 = 0 then rw1 a.2.2 (nI i).toInt64 else a.2) else a) (0, 0, R)
theorem bea_le {su : Nat → Bool} {mo : Nat → Int32} {v : Int32} {R : Nat → Int64} : ∀ i, (bea su mo v R i).1 ≤ i
  | 0 => Nat.le_refl _
  | i + 1 => by
    have ih := bea_le (su := su) (mo := mo) (v := v) (R := R) i
    have es : bea su mo v R (i + 1) = if su i && decide (mo i = v) then ((bea su mo v R i).1 + 1, if (bea su mo v R i).1 = 0 then rw1 (bea su mo v R i).2.2 (nI i).toInt64 else (bea su mo v R i).2) else bea su mo v R i := rfl
    rw [es]
    split
    · show _ + 1 ≤ _; omega
    · omega
/-- the least and the greatest so far -/
def spa (su : Nat → Bool) (mo : Int32 → Int32) : Nat → Int32 × Int32 := fo (fun i a => if su i then ((if a.1 = -1 then nI i else if mo a.1 ≤ mo (nI i) then a.1 else nI i), (if a.2 = -1 then nI i else if mo (nI i) ≤ mo a.2 then a.2 else nI i)) else a) (-1, -1)
section
variable {sa : g_SA} {sc : Nat × Nat × (Nat → Int32)} {xt : Nat → Nat → List Value → tm_H → Option (Option Value × tm_H)} {d b : Nat} {h : tm_H} {Q : Option Value → tm_H → Prop}
variable {tx : Nat × (Nat → Int32)} {rw : Nat × (Nat → Int64)} {nw : TN} {pa : Nat × Nat × (Nat → TN) × (Nat → TN) × (Nat → Int32)} {ru : Nat × Nat × List Int32} {he : Nat × (Nat → Int32)} {mi : Nat × (Nat → Int32) × (Nat → Int32) × (Nat → Int32)} {ga : Nat}
variable {c n m : Nat} {F L W M B H Ms Bs Os : Nat → Int32} {s g : Int32} {rc hc mc : Nat} {R : Nat → Int64}
theorem c_often (hW : CW sa h b (c, F) (rc, R) (L, W, M, B, n, s, g) pa ru he mi ga) (h1 : ∀ p h', lrd F 0 c 0 = some p → sm b (b + 162) h h' → CW sa h' b (0, F) (rc, R) (L, W, M, B, n, s, g) pa ru he mi ga → Q (some (.int (-1 - nI p))) h') (h2 : ∀ h', lrd F 0 c 0 = none → sm b (b + 162) h h' → CW sa h' b (0, F) (rw1 R (ofM (fun l => nI (lcn F 0 c l)) (fro L n s) (ofT (fun l => nI (lcn F 0 c l)) (fro L n s) 8) 8).toInt64) (L, W, M, B, n, s, g) pa ru he mi ga → Q (some (.int (ofT (fun l => nI (lcn F 0 c l)) (fro L n s) 8))) h') : tm_D (g_G sa sc xt) (d + 4) 125 [.ref b] h Q := by
  obtain ⟨w_o, w_t, w_r, w_n, w_h, w_l, w_b, w_p, w_u, w_v, w_a, w_e, w_w, w_x, w_q, w_m, w_g, w_d, w_s⟩ := id hW
  have hc80 : c ≤ 80 := w_t.2.1
  have hn : n ≤ 12 := w_n.2.1
  rw [e_125]
  simp only [s_125_0, s_125_1, s_125_4, s_125_5, s_125_6, s_125_7, s_125_10, s_125_11, s_125_12, s_125_13, s_125_14, s_125_16, s_125_17, s_125_18, s_125_20, s_125_22, s_125_25, s_125_26, s_125_29, s_125_32, s_125_33, s_125_34, s_125_37, s_125_38, s_125_39, s_125_42, s_125_43, s_125_46, s_125_47, s_125_50, s_125_53, s_125_54, s_125_55, s_125_56, s_125_59, s_125_60, s_125_63, s_125_66, s_125_67, s_125_68, s_125_69, s_125_73, s_125_75, s_125_78, s_125_79, s_125_82, s_125_84, s_125_87, s_125_88, s_125_89, s_125_90, s_125_91, s_125_94, s_125_97, s_125_99, s_125_100, s_125_101, s_125_104, s_125_105, s_125_106, s_125_108, s_125_109, s_125_110, s_125_111, s_125_114, s_125_117, s_125_118, s_125_121, s_125_122, s_125_123, s_125_126, s_125_127, x_get_i, List.getElem?_cons_succ, List.getElem?_cons_zero, x_cv_j, cs_n, cs_i, cs_r, cs_l, Nat.reduceAdd, Nat.reduceLeDiff, true_and, Option.toList_some, Option.toList_none, List.cons_append, List.nil_append, if_true, if_false, nb0, nb1, x_setJ, x_setZ0, x_setZ1, x_setA, x_setO, List.length_cons, List.length_nil, Nat.reduceLT, List.set_cons_succ, List.set_cons_zero, wrl_0, wrl_1, wrl_2, wrl_3, wrl_4, wrl_5, wrl_p0, wrl_p1, wrl_p2, wrl_p3, wrl_p4, w_o]
  refine c_readLetters hW (fun ha N P p sA hWa ca => ?_)
  have o_a := hWa.1
  have a_a : ha.2.2 (b + 1) = .inr (8, _) := hWa.2.1.1.1
  have c_a : ha.2.2 (b + 3) = .inr (5, _) := cel_0 hWa.2.2.1.1
  have n_a : ha.2.2 (b + 5) = .inr (9, _) := hWa.2.2.2.1.1.1
  have p_a : ha.2.2 (b + 33) = .inr (6, _) := hWa.2.2.2.2.2.2.2.1.1.1
  have q_a : ha.2.2 (b + 152) = .inr (2, _) := cel_0 hWa.2.2.2.2.2.2.2.2.2.2.2.2.2.2.1.1
  obtain ⟨_, mm_a⟩ := hWa.2.2.2.2.2.2.2.2.2.2.2.2.2.2.2.1.1
  have m_a : ha.2.2 (b + 154) = .inr (4, _) := cel_0 mm_a
  have g_a : ha.2.2 (b + 159) = .inr (1, _) := cel_0 hWa.2.2.2.2.2.2.2.2.2.2.2.2.2.2.2.2.1.1
  cases hf : lrd F 0 c 0 with
  | some p0 =>
    have hp := lrd_lt (Nat.le_refl 0) hf
    simp only [s_125_0, s_125_1, s_125_4, s_125_5, s_125_6, s_125_7, s_125_10, s_125_11, s_125_12, s_125_13, s_125_14, s_125_16, s_125_17, s_125_18, s_125_20, s_125_22, s_125_25, s_125_26, s_125_29, s_125_32, s_125_33, s_125_34, s_125_37, s_125_38, s_125_39, s_125_42, s_125_43, s_125_46, s_125_47, s_125_50, s_125_53, s_125_54, s_125_55, s_125_56, s_125_59, s_125_60, s_125_63, s_125_66, s_125_67, s_125_68, s_125_69, s_125_73, s_125_75, s_125_78, s_125_79, s_125_82, s_125_84, s_125_87, s_125_88, s_125_89, s_125_90, s_125_91, s_125_94, s_125_97, s_125_99, s_125_100, s_125_101, s_125_104, s_125_105, s_125_106, s_125_108, s_125_109, s_125_110, s_125_111, s_125_114, s_125_117, s_125_118, s_125_121, s_125_122, s_125_123, s_125_126, s_125_127, x_get_i, List.getElem?_cons_succ, List.getElem?_cons_zero, x_cv_j, cs_n, cs_i, cs_r, cs_l, Nat.reduceAdd, Nat.reduceLeDiff, true_and, Option.toList_some, Option.toList_none, List.cons_append, List.nil_append, if_true, if_false, nb0, nb1, x_setJ, x_setZ0, x_setZ1, x_setA, x_setO, List.length_cons, List.length_nil, Nat.reduceLT, List.set_cons_succ, List.set_cons_zero, wrl_0, wrl_1, wrl_2, wrl_3, wrl_4, wrl_5, wrl_p0, wrl_p1, wrl_p2, wrl_p3, wrl_p4, oI, oI_ne (show p0 < 2 ^ 31 by omega)]
    exact h1 p0 ha hf sA hWa
  | none =>
    rw [hf, Option.getD_none] at ca
    have hT : tc_at ha (b + 5) L W M B (nI n) s g := hWa.2.2.2.1.1
    have e0 := cel_0 ca
    have e1 := cel_1 ca
    have en : ∀ l, l < 8 → LN N F 0 c l = nI (lcn F 0 c l) := fun l hl => if_pos hl
    have fr : ∀ l, ibc (tc_wh L (nI l) n &&& (s ^^^ (-1))) = fro L n s l := fun l => rfl
    have loop2 : ∀ (j l : Nat) (t : Int32), l + j = 8 → t = ofT (fun l => nI (lcn F 0 c l)) (fro L n s) 8 → tm_X (g_G sa sc xt) (d + 4) 125 71 [.ref b, .int (-1), .int t, .int (ofM (fun l => nI (lcn F 0 c l)) (fro L n s) t l), .int (nI l)] [] ha Q := by
      intro j
      induction j with
      | zero =>
        intro l t hl et
        have hl : l = 8 := by omega
        subst hl
        rw [s_125_71]
        simp only [s_125_0, s_125_1, s_125_4, s_125_5, s_125_6, s_125_7, s_125_10, s_125_11, s_125_12, s_125_13, s_125_14, s_125_16, s_125_17, s_125_18, s_125_20, s_125_22, s_125_25, s_125_26, s_125_29, s_125_32, s_125_33, s_125_34, s_125_37, s_125_38, s_125_39, s_125_42, s_125_43, s_125_46, s_125_47, s_125_50, s_125_53, s_125_54, s_125_55, s_125_56, s_125_59, s_125_60, s_125_63, s_125_66, s_125_67, s_125_68, s_125_69, s_125_73, s_125_75, s_125_78, s_125_79, s_125_82, s_125_84, s_125_87, s_125_88, s_125_89, s_125_90, s_125_91, s_125_94, s_125_97, s_125_99, s_125_100, s_125_101, s_125_104, s_125_105, s_125_106, s_125_108, s_125_109, s_125_110, s_125_111, s_125_114, s_125_117, s_125_118, s_125_121, s_125_122, s_125_123, s_125_126, s_125_127, x_get_i, List.getElem?_cons_succ, List.getElem?_cons_zero, x_cv_j, cs_n, cs_i, cs_r, cs_l, Nat.reduceAdd, Nat.reduceLeDiff, true_and, Option.toList_some, Option.toList_none, List.cons_append, List.nil_append, if_true, if_false, nb0, nb1, x_setJ, x_setZ0, x_setZ1, x_setA, x_setO, List.length_cons, List.length_nil, Nat.reduceLT, List.set_cons_succ, List.set_cons_zero, wrl_0, wrl_1, wrl_2, wrl_3, wrl_4, wrl_5, wrl_p0, wrl_p1, wrl_p2, wrl_p3, wrl_p4, show (8 : Int32) ≤ nI 8 by decide, o_a, a_a, c_a, n_a, p_a, q_a, m_a, g_a]
        refine c_tell1 hWa _ (fun hb sB hWb => ?_)
        simp only [s_125_0, s_125_1, s_125_4, s_125_5, s_125_6, s_125_7, s_125_10, s_125_11, s_125_12, s_125_13, s_125_14, s_125_16, s_125_17, s_125_18, s_125_20, s_125_22, s_125_25, s_125_26, s_125_29, s_125_32, s_125_33, s_125_34, s_125_37, s_125_38, s_125_39, s_125_42, s_125_43, s_125_46, s_125_47, s_125_50, s_125_53, s_125_54, s_125_55, s_125_56, s_125_59, s_125_60, s_125_63, s_125_66, s_125_67, s_125_68, s_125_69, s_125_73, s_125_75, s_125_78, s_125_79, s_125_82, s_125_84, s_125_87, s_125_88, s_125_89, s_125_90, s_125_91, s_125_94, s_125_97, s_125_99, s_125_100, s_125_101, s_125_104, s_125_105, s_125_106, s_125_108, s_125_109, s_125_110, s_125_111, s_125_114, s_125_117, s_125_118, s_125_121, s_125_122, s_125_123, s_125_126, s_125_127, x_get_i, List.getElem?_cons_succ, List.getElem?_cons_zero, x_cv_j, cs_n, cs_i, cs_r, cs_l, Nat.reduceAdd, Nat.reduceLeDiff, true_and, Option.toList_some, Option.toList_none, List.cons_append, List.nil_append, if_true, if_false, nb0, nb1, x_setJ, x_setZ0, x_setZ1, x_setA, x_setO, List.length_cons, List.length_nil, Nat.reduceLT, List.set_cons_succ, List.set_cons_zero, wrl_0, wrl_1, wrl_2, wrl_3, wrl_4, wrl_5, wrl_p0, wrl_p1, wrl_p2, wrl_p3, wrl_p4]
        rw [et]
        rw [et] at hWb
        exact h2 hb hf (sA.trans (sB.mono (by omega) (by omega))) hWb
      | succ j ih =>
        intro l t hl et
        have l8 : l < 8 := by omega
        have es : ofM (fun l => nI (lcn F 0 c l)) (fro L n s) t (l + 1) = if (t + 1) * nI (lcn F 0 c l) ≤ fro L n s l then ofM (fun l => nI (lcn F 0 c l)) (fro L n s) t l else ofM (fun l => nI (lcn F 0 c l)) (fro L n s) t l ||| (1 <<< (nI l &&& 31)) := rfl
        have ih := ih (l + 1) t (by omega) et
        rw [es] at ih
        rw [s_125_71]
        simp only [s_125_0, s_125_1, s_125_4, s_125_5, s_125_6, s_125_7, s_125_10, s_125_11, s_125_12, s_125_13, s_125_14, s_125_16, s_125_17, s_125_18, s_125_20, s_125_22, s_125_25, s_125_26, s_125_29, s_125_32, s_125_33, s_125_34, s_125_37, s_125_38, s_125_39, s_125_42, s_125_43, s_125_46, s_125_47, s_125_50, s_125_53, s_125_54, s_125_55, s_125_56, s_125_59, s_125_60, s_125_63, s_125_66, s_125_67, s_125_68, s_125_69, s_125_73, s_125_75, s_125_78, s_125_79, s_125_82, s_125_84, s_125_87, s_125_88, s_125_89, s_125_90, s_125_91, s_125_94, s_125_97, s_125_99, s_125_100, s_125_101, s_125_104, s_125_105, s_125_106, s_125_108, s_125_109, s_125_110, s_125_111, s_125_114, s_125_117, s_125_118, s_125_121, s_125_122, s_125_123, s_125_126, s_125_127, x_get_i, List.getElem?_cons_succ, List.getElem?_cons_zero, x_cv_j, cs_n, cs_i, cs_r, cs_l, Nat.reduceAdd, Nat.reduceLeDiff, true_and, Option.toList_some, Option.toList_none, List.cons_append, List.nil_append, if_true, if_false, nb0, nb1, x_setJ, x_setZ0, x_setZ1, x_setA, x_setO, List.length_cons, List.length_nil, Nat.reduceLT, List.set_cons_succ, List.set_cons_zero, wrl_0, wrl_1, wrl_2, wrl_3, wrl_4, wrl_5, wrl_p0, wrl_p1, wrl_p2, wrl_p3, wrl_p4, show ¬ (8 : Int32) ≤ nI l from nI_ge (b := 8) l8 (by decide), o_a, a_a, c_a, n_a, p_a, q_a, m_a, g_a, e0, e1, tc_freeOf hT hn, x_ild_n l8 n8, en l l8, fr, nI_1]
        by_cases k : (t + 1) * nI (lcn F 0 c l) ≤ fro L n s l
        · simp only [k, if_true] at ih ⊢
          exact ih
        · simp only [k, if_false] at ih ⊢
          exact ih
    have loop1 : ∀ (j l : Nat), l + j = 8 → tm_X (g_G sa sc xt) (d + 4) 125 19 [.ref b, .int (-1), .int (ofT (fun l => nI (lcn F 0 c l)) (fro L n s) l), .int (nI l), tm_z] [] ha Q := by
      intro j
      induction j with
      | zero =>
        intro l hl
        have hl : l = 8 := by omega
        subst hl
        rw [s_125_19]
        simp only [s_125_0, s_125_1, s_125_4, s_125_5, s_125_6, s_125_7, s_125_10, s_125_11, s_125_12, s_125_13, s_125_14, s_125_16, s_125_17, s_125_18, s_125_20, s_125_22, s_125_25, s_125_26, s_125_29, s_125_32, s_125_33, s_125_34, s_125_37, s_125_38, s_125_39, s_125_42, s_125_43, s_125_46, s_125_47, s_125_50, s_125_53, s_125_54, s_125_55, s_125_56, s_125_59, s_125_60, s_125_63, s_125_66, s_125_67, s_125_68, s_125_69, s_125_73, s_125_75, s_125_78, s_125_79, s_125_82, s_125_84, s_125_87, s_125_88, s_125_89, s_125_90, s_125_91, s_125_94, s_125_97, s_125_99, s_125_100, s_125_101, s_125_104, s_125_105, s_125_106, s_125_108, s_125_109, s_125_110, s_125_111, s_125_114, s_125_117, s_125_118, s_125_121, s_125_122, s_125_123, s_125_126, s_125_127, x_get_i, List.getElem?_cons_succ, List.getElem?_cons_zero, x_cv_j, cs_n, cs_i, cs_r, cs_l, Nat.reduceAdd, Nat.reduceLeDiff, true_and, Option.toList_some, Option.toList_none, List.cons_append, List.nil_append, if_true, if_false, nb0, nb1, x_setJ, x_setZ0, x_setZ1, x_setA, x_setO, List.length_cons, List.length_nil, Nat.reduceLT, List.set_cons_succ, List.set_cons_zero, wrl_0, wrl_1, wrl_2, wrl_3, wrl_4, wrl_5, wrl_p0, wrl_p1, wrl_p2, wrl_p3, wrl_p4, show (8 : Int32) ≤ nI 8 by decide]
        exact loop2 8 0 _ (by decide) rfl
      | succ j ih =>
        intro l hl
        have l8 : l < 8 := by omega
        have hl100 := lcn_100 (F := F) (x := l) hc80
        have es : ofT (fun l => nI (lcn F 0 c l)) (fro L n s) (l + 1) = if nI (lcn F 0 c l) ≤ 0 then ofT (fun l => nI (lcn F 0 c l)) (fro L n s) l else (if fro L n s l / nI (lcn F 0 c l) < ofT (fun l => nI (lcn F 0 c l)) (fro L n s) l then fro L n s l / nI (lcn F 0 c l) else ofT (fun l => nI (lcn F 0 c l)) (fro L n s) l) := rfl
        have ih := ih (l + 1) (by omega)
        rw [es] at ih
        rw [s_125_19]
        simp only [s_125_0, s_125_1, s_125_4, s_125_5, s_125_6, s_125_7, s_125_10, s_125_11, s_125_12, s_125_13, s_125_14, s_125_16, s_125_17, s_125_18, s_125_20, s_125_22, s_125_25, s_125_26, s_125_29, s_125_32, s_125_33, s_125_34, s_125_37, s_125_38, s_125_39, s_125_42, s_125_43, s_125_46, s_125_47, s_125_50, s_125_53, s_125_54, s_125_55, s_125_56, s_125_59, s_125_60, s_125_63, s_125_66, s_125_67, s_125_68, s_125_69, s_125_73, s_125_75, s_125_78, s_125_79, s_125_82, s_125_84, s_125_87, s_125_88, s_125_89, s_125_90, s_125_91, s_125_94, s_125_97, s_125_99, s_125_100, s_125_101, s_125_104, s_125_105, s_125_106, s_125_108, s_125_109, s_125_110, s_125_111, s_125_114, s_125_117, s_125_118, s_125_121, s_125_122, s_125_123, s_125_126, s_125_127, x_get_i, List.getElem?_cons_succ, List.getElem?_cons_zero, x_cv_j, cs_n, cs_i, cs_r, cs_l, Nat.reduceAdd, Nat.reduceLeDiff, true_and, Option.toList_some, Option.toList_none, List.cons_append, List.nil_append, if_true, if_false, nb0, nb1, x_setJ, x_setZ0, x_setZ1, x_setA, x_setO, List.length_cons, List.length_nil, Nat.reduceLT, List.set_cons_succ, List.set_cons_zero, wrl_0, wrl_1, wrl_2, wrl_3, wrl_4, wrl_5, wrl_p0, wrl_p1, wrl_p2, wrl_p3, wrl_p4, show ¬ (8 : Int32) ≤ nI l from nI_ge (b := 8) l8 (by decide), o_a, a_a, c_a, n_a, p_a, q_a, m_a, g_a, e0, e1, x_ild_n l8 n8, en l l8, nI_1]
        by_cases k : nI (lcn F 0 c l) ≤ 0
        · simp only [k, if_true] at ih ⊢
          exact ih
        · have k0 : ¬ nI (lcn F 0 c l) = 0 := fun e => k (by rw [e]; exact Int32.le_refl _)
          simp only [k, k0, if_false, s_125_0, s_125_1, s_125_4, s_125_5, s_125_6, s_125_7, s_125_10, s_125_11, s_125_12, s_125_13, s_125_14, s_125_16, s_125_17, s_125_18, s_125_20, s_125_22, s_125_25, s_125_26, s_125_29, s_125_32, s_125_33, s_125_34, s_125_37, s_125_38, s_125_39, s_125_42, s_125_43, s_125_46, s_125_47, s_125_50, s_125_53, s_125_54, s_125_55, s_125_56, s_125_59, s_125_60, s_125_63, s_125_66, s_125_67, s_125_68, s_125_69, s_125_73, s_125_75, s_125_78, s_125_79, s_125_82, s_125_84, s_125_87, s_125_88, s_125_89, s_125_90, s_125_91, s_125_94, s_125_97, s_125_99, s_125_100, s_125_101, s_125_104, s_125_105, s_125_106, s_125_108, s_125_109, s_125_110, s_125_111, s_125_114, s_125_117, s_125_118, s_125_121, s_125_122, s_125_123, s_125_126, s_125_127, x_get_i, List.getElem?_cons_succ, List.getElem?_cons_zero, x_cv_j, cs_n, cs_i, cs_r, cs_l, Nat.reduceAdd, Nat.reduceLeDiff, true_and, Option.toList_some, Option.toList_none, List.cons_append, List.nil_append, if_true, if_false, nb0, nb1, x_setJ, x_setZ0, x_setZ1, x_setA, x_setO, List.length_cons, List.length_nil, Nat.reduceLT, List.set_cons_succ, List.set_cons_zero, wrl_0, wrl_1, wrl_2, wrl_3, wrl_4, wrl_5, wrl_p0, wrl_p1, wrl_p2, wrl_p3, wrl_p4, o_a, a_a, c_a, n_a, p_a, q_a, m_a, g_a, e0, e1, tc_freeOf hT hn, x_ild_n l8 n8, en l l8, fr, nI_1] at ih ⊢
          exact ih
    simp only [s_125_0, s_125_1, s_125_4, s_125_5, s_125_6, s_125_7, s_125_10, s_125_11, s_125_12, s_125_13, s_125_14, s_125_16, s_125_17, s_125_18, s_125_20, s_125_22, s_125_25, s_125_26, s_125_29, s_125_32, s_125_33, s_125_34, s_125_37, s_125_38, s_125_39, s_125_42, s_125_43, s_125_46, s_125_47, s_125_50, s_125_53, s_125_54, s_125_55, s_125_56, s_125_59, s_125_60, s_125_63, s_125_66, s_125_67, s_125_68, s_125_69, s_125_73, s_125_75, s_125_78, s_125_79, s_125_82, s_125_84, s_125_87, s_125_88, s_125_89, s_125_90, s_125_91, s_125_94, s_125_97, s_125_99, s_125_100, s_125_101, s_125_104, s_125_105, s_125_106, s_125_108, s_125_109, s_125_110, s_125_111, s_125_114, s_125_117, s_125_118, s_125_121, s_125_122, s_125_123, s_125_126, s_125_127, x_get_i, List.getElem?_cons_succ, List.getElem?_cons_zero, x_cv_j, cs_n, cs_i, cs_r, cs_l, Nat.reduceAdd, Nat.reduceLeDiff, true_and, Option.toList_some, Option.toList_none, List.cons_append, List.nil_append, if_true, if_false, nb0, nb1, x_setJ, x_setZ0, x_setZ1, x_setA, x_setO, List.length_cons, List.length_nil, Nat.reduceLT, List.set_cons_succ, List.set_cons_zero, wrl_0, wrl_1, wrl_2, wrl_3, wrl_4, wrl_5, wrl_p0, wrl_p1, wrl_p2, wrl_p3, wrl_p4, oI]
    exact loop1 8 0 (by decide)
theorem c_shortest (hW : CW sa h b tx (rc, R) (L, W, M, B, n, s, g) pa ru he mi ga) (hQ : ∀ h', sm b (b + 162) h h' → CW sa h' b tx (rw2 R (fro L n s (shb (fro L n s) 7)).toInt64 (ibc (tc_wh L (nI (shb (fro L n s) 7)) n)).toInt64) (L, W, M, B, n, s, g) pa ru he mi ga → Q (some (.int (nI (shb (fro L n s) 7)))) h') : tm_D (g_G sa sc xt) (d + 4) 126 [.ref b] h Q := by
  obtain ⟨w_o, w_t, w_r, w_n, w_h, w_l, w_b, w_p, w_u, w_v, w_a, w_e, w_w, w_x, w_q, w_m, w_g, w_d, w_s⟩ := id hW
  have o_0 := hW.1
  have a_0 : h.2.2 (b + 1) = .inr (8, _) := hW.2.1.1.1
  have c_0 : h.2.2 (b + 3) = .inr (5, _) := cel_0 hW.2.2.1.1
  have n_0 : h.2.2 (b + 5) = .inr (9, _) := hW.2.2.2.1.1.1
  have p_0 : h.2.2 (b + 33) = .inr (6, _) := hW.2.2.2.2.2.2.2.1.1.1
  have q_0 : h.2.2 (b + 152) = .inr (2, _) := cel_0 hW.2.2.2.2.2.2.2.2.2.2.2.2.2.2.1.1
  obtain ⟨_, mm_0⟩ := hW.2.2.2.2.2.2.2.2.2.2.2.2.2.2.2.1.1
  have m_0 : h.2.2 (b + 154) = .inr (4, _) := cel_0 mm_0
  have g_0 : h.2.2 (b + 159) = .inr (1, _) := cel_0 hW.2.2.2.2.2.2.2.2.2.2.2.2.2.2.2.2.1.1
  have hT : tc_at h (b + 5) L W M B (nI n) s g := w_n.1
  have hn : n ≤ 12 := w_n.2.1
  have fr : ∀ l, ibc (tc_wh L (nI l) n &&& (s ^^^ (-1))) = fro L n s l := fun l => rfl
  have loop : ∀ (j i : Nat), i + j = 7 → tm_X (g_G sa sc xt) (d + 4) 126 4 [.ref b, .int (nI (shb (fro L n s) i)), .int (nI (i + 1))] [] h Q := by
    intro j
    induction j with
    | zero =>
      intro i hi
      have hi : i = 7 := by omega
      subst hi
      rw [s_126_4]
      simp only [s_126_0, s_126_1, s_126_2, s_126_3, s_126_5, s_126_7, s_126_10, s_126_11, s_126_14, s_126_15, s_126_18, s_126_19, s_126_22, s_126_23, s_126_26, s_126_29, s_126_30, s_126_31, s_126_34, s_126_37, s_126_38, s_126_41, s_126_42, s_126_45, s_126_46, s_126_49, s_126_50, s_126_51, s_126_54, s_126_55, s_126_58, s_126_61, s_126_62, s_126_65, s_126_66, x_get_i, List.getElem?_cons_succ, List.getElem?_cons_zero, x_cv_j, cs_n, cs_i, cs_r, cs_l, Nat.reduceAdd, Nat.reduceLeDiff, true_and, Option.toList_some, Option.toList_none, List.cons_append, List.nil_append, if_true, if_false, nb0, nb1, x_setJ, x_setZ0, x_setZ1, x_setA, x_setO, List.length_cons, List.length_nil, Nat.reduceLT, List.set_cons_succ, List.set_cons_zero, wrl_0, wrl_1, wrl_2, wrl_3, wrl_4, wrl_5, wrl_p0, wrl_p1, wrl_p2, wrl_p3, wrl_p4, show (8 : Int32) ≤ nI (7 + 1) by decide, o_0, a_0, c_0, n_0, p_0, q_0, m_0, g_0, tc_freeOf hT hn, tc_ofLetter hT hn, m_bitCount, fr]
      refine c_tell2 hW _ _ (fun ha sA hWa => ?_)
      simp only [s_126_0, s_126_1, s_126_2, s_126_3, s_126_5, s_126_7, s_126_10, s_126_11, s_126_14, s_126_15, s_126_18, s_126_19, s_126_22, s_126_23, s_126_26, s_126_29, s_126_30, s_126_31, s_126_34, s_126_37, s_126_38, s_126_41, s_126_42, s_126_45, s_126_46, s_126_49, s_126_50, s_126_51, s_126_54, s_126_55, s_126_58, s_126_61, s_126_62, s_126_65, s_126_66, x_get_i, List.getElem?_cons_succ, List.getElem?_cons_zero, x_cv_j, cs_n, cs_i, cs_r, cs_l, Nat.reduceAdd, Nat.reduceLeDiff, true_and, Option.toList_some, Option.toList_none, List.cons_append, List.nil_append, if_true, if_false, nb0, nb1, x_setJ, x_setZ0, x_setZ1, x_setA, x_setO, List.length_cons, List.length_nil, Nat.reduceLT, List.set_cons_succ, List.set_cons_zero, wrl_0, wrl_1, wrl_2, wrl_3, wrl_4, wrl_5, wrl_p0, wrl_p1, wrl_p2, wrl_p3, wrl_p4]
      exact hQ ha (sA.mono (by omega) (by omega)) hWa
    | succ j ih =>
      intro i hi
      have es : shb (fro L n s) (i + 1) = if fro L n s (shb (fro L n s) i) ≤ fro L n s (i + 1) then shb (fro L n s) i else i + 1 := rfl
      have ih := ih (i + 1) (by omega)
      rw [es] at ih
      rw [s_126_4]
      simp only [s_126_0, s_126_1, s_126_2, s_126_3, s_126_5, s_126_7, s_126_10, s_126_11, s_126_14, s_126_15, s_126_18, s_126_19, s_126_22, s_126_23, s_126_26, s_126_29, s_126_30, s_126_31, s_126_34, s_126_37, s_126_38, s_126_41, s_126_42, s_126_45, s_126_46, s_126_49, s_126_50, s_126_51, s_126_54, s_126_55, s_126_58, s_126_61, s_126_62, s_126_65, s_126_66, x_get_i, List.getElem?_cons_succ, List.getElem?_cons_zero, x_cv_j, cs_n, cs_i, cs_r, cs_l, Nat.reduceAdd, Nat.reduceLeDiff, true_and, Option.toList_some, Option.toList_none, List.cons_append, List.nil_append, if_true, if_false, nb0, nb1, x_setJ, x_setZ0, x_setZ1, x_setA, x_setO, List.length_cons, List.length_nil, Nat.reduceLT, List.set_cons_succ, List.set_cons_zero, wrl_0, wrl_1, wrl_2, wrl_3, wrl_4, wrl_5, wrl_p0, wrl_p1, wrl_p2, wrl_p3, wrl_p4, show ¬ (8 : Int32) ≤ nI (i + 1) from nI_ge (b := 8) (by omega) (by decide), o_0, a_0, c_0, n_0, p_0, q_0, m_0, g_0, tc_freeOf hT hn, fr, nI_1]
      by_cases k : fro L n s (shb (fro L n s) i) ≤ fro L n s (i + 1)
      · simp only [k, if_true] at ih ⊢
        exact ih
      · simp only [k, if_false] at ih ⊢
        exact ih
  rw [e_126]
  simp only [s_126_0, s_126_1, s_126_2, s_126_3, s_126_5, s_126_7, s_126_10, s_126_11, s_126_14, s_126_15, s_126_18, s_126_19, s_126_22, s_126_23, s_126_26, s_126_29, s_126_30, s_126_31, s_126_34, s_126_37, s_126_38, s_126_41, s_126_42, s_126_45, s_126_46, s_126_49, s_126_50, s_126_51, s_126_54, s_126_55, s_126_58, s_126_61, s_126_62, s_126_65, s_126_66]
  exact loop 7 0 (by decide)
/-- gather and suits, as a set of letters of the text -/
theorem c_gather {N P : Nat → Int32} {p : Int32} {k : Nat} (hW : CW sa h b tx rw (L, W, M, B, n, s, g) pa ru he mi ga) (hc : cel h (b + 143) (lec (b + 143) N P (nI k) p)) (hQ : ∀ h' P', sm (b + 143) (b + 146) h h' → CW sa h' b tx rw (L, W, M, B, n, s, g) pa ru he mi ga → cel h' (b + 143) (lec (b + 143) N P' (nI k) (le_pl N L n s 8)) → (∀ i, i < 8 → P' i = le_po N L n s i) → Q (some (.int (le_pl N L n s 8))) h') : tm_D (g_G sa sc xt) (d + 2) 22 [.ref (b + 143), .ref (b + 5)] h Q := by
  obtain ⟨w_o, w_t, w_r, w_n, w_h, w_l, w_b, w_p, w_u, w_v, w_a, w_e, w_w, w_x, w_q, w_m, w_g, w_d, w_s⟩ := id hW
  have hT : tc_at h (b + 5) L W M B (nI n) s g := w_n.1
  refine cel_call (n := 3) hc rfl (fun Q => le_gather hT w_n.2.1 (by omega)) (fun ha sA cA => ?_)
  exact hQ ha _ sA (CW_e hW sA ⟨_, _, _, _, cA⟩) cA (fun i hi => if_pos hi)
theorem c_suits {N P : Nat → Int32} {k : Nat} (hc : cel h (b + 143) (lec (b + 143) N P (nI k) (le_pl N L n s 8))) (hP : ∀ i, i < 8 → P i = le_po N L n s i) (x : Int32) : tm_D (g_G sa sc xt) (d + 1) 23 [.ref (b + 143), .int x] h Q ↔ Q (some (.int (bI (sui N L n s (nI k) x)))) h := by
  refine (cel_ro hc (fun Q => le_suits x)).trans ?_
  have e : (if x &&& (le_pl N L n s 8 ^^^ (-1)) = 0 then if ibc x = nI k then bI (le_su N P x 8 0) else 0 else 0) = bI (sui N L n s (nI k) x) := by
    unfold sui
    rw [su_congr (P' := le_po N L n s) (fun i h1 h2 => hP i (by omega))]
    by_cases k1 : x &&& (le_pl N L n s 8 ^^^ (-1)) = 0
    · rw [if_pos k1, decide_eq_true k1]
      by_cases k2 : ibc x = nI k
      · rw [if_pos k2, decide_eq_true k2]; rfl
      · rw [if_neg k2, decide_eq_false k2]; rfl
    · rw [if_neg k1, decide_eq_false k1]; rfl
  rw [e]
theorem c_bears (hW : CW sa h b (c, F) (rc, R) (L, W, M, B, n, s, g) pa ru he mi ga) (v : Int32) (h1 : ∀ p h', lrd F 0 c 0 = some p → sm b (b + 162) h h' → CW sa h' b (0, F) (rc, R) (L, W, M, B, n, s, g) pa ru he mi ga → Q (some (.int (-1 - nI p))) h') (h2 : ∀ h', lrd F 0 c 0 = none → (v < -108 ∨ 108 < v) → sm b (b + 162) h h' → CW sa h' b (0, F) (rc, R) (L, W, M, B, n, s, g) pa ru he mi ga → Q (some (.int (-100))) h') (h3 : ∀ h' N q, lrd F 0 c 0 = none → ¬ (v < -108 ∨ 108 < v) → (∀ l, l < 8 → N l = nI (lcn F 0 c l)) → le_pl N L n s 8 = nI q → q < 4096 → sm b (b + 162) h h' → CW sa h' b (0, F) (bea (fun i => sui N L n s (nI c) (nI i)) (fun i => tc_mo M (nI i) n) v R (q + 1)).2 (L, W, M, B, n, s, g) pa ru he mi ga → Q (some (.int (nI (bea (fun i => sui N L n s (nI c) (nI i)) (fun i => tc_mo M (nI i) n) v R (q + 1)).1))) h') : tm_D (g_G sa sc xt) (d + 4) 127 [.ref b, .int v] h Q := by
  obtain ⟨w_o, w_t, w_r, w_n, w_h, w_l, w_b, w_p, w_u, w_v, w_a, w_e, w_w, w_x, w_q, w_m, w_g, w_d, w_s⟩ := id hW
  have hc80 : c ≤ 80 := w_t.2.1
  have hn : n ≤ 12 := w_n.2.1
  rw [e_127]
  simp only [s_127_0, s_127_1, s_127_4, s_127_5, s_127_6, s_127_7, s_127_10, s_127_11, s_127_12, s_127_13, s_127_14, s_127_15, s_127_17, s_127_20, s_127_21, s_127_23, s_127_26, s_127_28, s_127_29, s_127_30, s_127_33, s_127_34, s_127_37, s_127_40, s_127_41, s_127_42, s_127_44, s_127_45, s_127_48, s_127_51, s_127_52, s_127_56, s_127_57, s_127_60, s_127_61, s_127_64, s_127_66, s_127_69, s_127_72, s_127_73, s_127_76, s_127_78, s_127_81, s_127_82, s_127_85, s_127_88, s_127_90, s_127_91, s_127_94, s_127_95, s_127_98, s_127_100, s_127_101, s_127_104, s_127_107, s_127_110, s_127_112, x_get_i, List.getElem?_cons_succ, List.getElem?_cons_zero, x_cv_j, cs_n, cs_i, cs_r, cs_l, Nat.reduceAdd, Nat.reduceLeDiff, true_and, Option.toList_some, Option.toList_none, List.cons_append, List.nil_append, if_true, if_false, nb0, nb1, x_setJ, x_setZ0, x_setZ1, x_setA, x_setO, List.length_cons, List.length_nil, Nat.reduceLT, List.set_cons_succ, List.set_cons_zero, wrl_0, wrl_1, wrl_2, wrl_3, wrl_4, wrl_5, wrl_p0, wrl_p1, wrl_p2, wrl_p3, wrl_p4, w_o]
  refine c_readLetters hW (fun ha N P p sA hWa ca => ?_)
  have o_a := hWa.1
  have a_a : ha.2.2 (b + 1) = .inr (8, _) := hWa.2.1.1.1
  have c_a : ha.2.2 (b + 3) = .inr (5, _) := cel_0 hWa.2.2.1.1
  have n_a : ha.2.2 (b + 5) = .inr (9, _) := hWa.2.2.2.1.1.1
  have p_a : ha.2.2 (b + 33) = .inr (6, _) := hWa.2.2.2.2.2.2.2.1.1.1
  have q_a : ha.2.2 (b + 152) = .inr (2, _) := cel_0 hWa.2.2.2.2.2.2.2.2.2.2.2.2.2.2.1.1
  obtain ⟨_, mm_a⟩ := hWa.2.2.2.2.2.2.2.2.2.2.2.2.2.2.2.1.1
  have m_a : ha.2.2 (b + 154) = .inr (4, _) := cel_0 mm_a
  have g_a : ha.2.2 (b + 159) = .inr (1, _) := cel_0 hWa.2.2.2.2.2.2.2.2.2.2.2.2.2.2.2.2.1.1
  cases hf : lrd F 0 c 0 with
  | some p0 =>
    have hp := lrd_lt (Nat.le_refl 0) hf
    simp only [s_127_0, s_127_1, s_127_4, s_127_5, s_127_6, s_127_7, s_127_10, s_127_11, s_127_12, s_127_13, s_127_14, s_127_15, s_127_17, s_127_20, s_127_21, s_127_23, s_127_26, s_127_28, s_127_29, s_127_30, s_127_33, s_127_34, s_127_37, s_127_40, s_127_41, s_127_42, s_127_44, s_127_45, s_127_48, s_127_51, s_127_52, s_127_56, s_127_57, s_127_60, s_127_61, s_127_64, s_127_66, s_127_69, s_127_72, s_127_73, s_127_76, s_127_78, s_127_81, s_127_82, s_127_85, s_127_88, s_127_90, s_127_91, s_127_94, s_127_95, s_127_98, s_127_100, s_127_101, s_127_104, s_127_107, s_127_110, s_127_112, x_get_i, List.getElem?_cons_succ, List.getElem?_cons_zero, x_cv_j, cs_n, cs_i, cs_r, cs_l, Nat.reduceAdd, Nat.reduceLeDiff, true_and, Option.toList_some, Option.toList_none, List.cons_append, List.nil_append, if_true, if_false, nb0, nb1, x_setJ, x_setZ0, x_setZ1, x_setA, x_setO, List.length_cons, List.length_nil, Nat.reduceLT, List.set_cons_succ, List.set_cons_zero, wrl_0, wrl_1, wrl_2, wrl_3, wrl_4, wrl_5, wrl_p0, wrl_p1, wrl_p2, wrl_p3, wrl_p4, oI, oI_ne (show p0 < 2 ^ 31 by omega)]
    exact h1 p0 ha hf sA hWa
  | none =>
    rw [hf, Option.getD_none] at ca
    simp only [s_127_0, s_127_1, s_127_4, s_127_5, s_127_6, s_127_7, s_127_10, s_127_11, s_127_12, s_127_13, s_127_14, s_127_15, s_127_17, s_127_20, s_127_21, s_127_23, s_127_26, s_127_28, s_127_29, s_127_30, s_127_33, s_127_34, s_127_37, s_127_40, s_127_41, s_127_42, s_127_44, s_127_45, s_127_48, s_127_51, s_127_52, s_127_56, s_127_57, s_127_60, s_127_61, s_127_64, s_127_66, s_127_69, s_127_72, s_127_73, s_127_76, s_127_78, s_127_81, s_127_82, s_127_85, s_127_88, s_127_90, s_127_91, s_127_94, s_127_95, s_127_98, s_127_100, s_127_101, s_127_104, s_127_107, s_127_110, s_127_112, x_get_i, List.getElem?_cons_succ, List.getElem?_cons_zero, x_cv_j, cs_n, cs_i, cs_r, cs_l, Nat.reduceAdd, Nat.reduceLeDiff, true_and, Option.toList_some, Option.toList_none, List.cons_append, List.nil_append, if_true, if_false, nb0, nb1, x_setJ, x_setZ0, x_setZ1, x_setA, x_setO, List.length_cons, List.length_nil, Nat.reduceLT, List.set_cons_succ, List.set_cons_zero, wrl_0, wrl_1, wrl_2, wrl_3, wrl_4, wrl_5, wrl_p0, wrl_p1, wrl_p2, wrl_p3, wrl_p4, oI]
    by_cases k1 : v < -108
    · simp only [k1, if_true]
      exact h2 ha hf (Or.inl k1) sA hWa
    by_cases k2 : v ≤ 108
    · have k0 : ¬ (v < -108 ∨ 108 < v) := by
        rintro (q | q)
        · exact k1 q
        · exact Int32.not_lt.mpr k2 q
      have e0 := cel_0 ca
      simp only [k1, k2, if_true, if_false, s_127_0, s_127_1, s_127_4, s_127_5, s_127_6, s_127_7, s_127_10, s_127_11, s_127_12, s_127_13, s_127_14, s_127_15, s_127_17, s_127_20, s_127_21, s_127_23, s_127_26, s_127_28, s_127_29, s_127_30, s_127_33, s_127_34, s_127_37, s_127_40, s_127_41, s_127_42, s_127_44, s_127_45, s_127_48, s_127_51, s_127_52, s_127_56, s_127_57, s_127_60, s_127_61, s_127_64, s_127_66, s_127_69, s_127_72, s_127_73, s_127_76, s_127_78, s_127_81, s_127_82, s_127_85, s_127_88, s_127_90, s_127_91, s_127_94, s_127_95, s_127_98, s_127_100, s_127_101, s_127_104, s_127_107, s_127_110, s_127_112, x_get_i, List.getElem?_cons_succ, List.getElem?_cons_zero, x_cv_j, cs_n, cs_i, cs_r, cs_l, Nat.reduceAdd, Nat.reduceLeDiff, true_and, Option.toList_some, Option.toList_none, List.cons_append, List.nil_append, if_true, if_false, nb0, nb1, x_setJ, x_setZ0, x_setZ1, x_setA, x_setO, List.length_cons, List.length_nil, Nat.reduceLT, List.set_cons_succ, List.set_cons_zero, wrl_0, wrl_1, wrl_2, wrl_3, wrl_4, wrl_5, wrl_p0, wrl_p1, wrl_p2, wrl_p3, wrl_p4, o_a, a_a, c_a, n_a, p_a, q_a, m_a, g_a, e0]
      refine c_gather hWa ca (fun hb P' sB hWb cb hP => ?_)
      have o_b := hWb.1
      have a_b : hb.2.2 (b + 1) = .inr (8, _) := hWb.2.1.1.1
      have c_b : hb.2.2 (b + 3) = .inr (5, _) := cel_0 hWb.2.2.1.1
      have n_b : hb.2.2 (b + 5) = .inr (9, _) := hWb.2.2.2.1.1.1
      have p_b : hb.2.2 (b + 33) = .inr (6, _) := hWb.2.2.2.2.2.2.2.1.1.1
      have q_b : hb.2.2 (b + 152) = .inr (2, _) := cel_0 hWb.2.2.2.2.2.2.2.2.2.2.2.2.2.2.1.1
      obtain ⟨_, mm_b⟩ := hWb.2.2.2.2.2.2.2.2.2.2.2.2.2.2.2.1.1
      have m_b : hb.2.2 (b + 154) = .inr (4, _) := cel_0 mm_b
      have g_b : hb.2.2 (b + 159) = .inr (1, _) := cel_0 hWb.2.2.2.2.2.2.2.2.2.2.2.2.2.2.2.2.1.1
      obtain ⟨q, hq, eq⟩ := low12 (x := le_pl (LN N F 0 c) L n s 8) (fun i h1 h2 => pl_low hn h1 h2 8)
      simp only [s_127_0, s_127_1, s_127_4, s_127_5, s_127_6, s_127_7, s_127_10, s_127_11, s_127_12, s_127_13, s_127_14, s_127_15, s_127_17, s_127_20, s_127_21, s_127_23, s_127_26, s_127_28, s_127_29, s_127_30, s_127_33, s_127_34, s_127_37, s_127_40, s_127_41, s_127_42, s_127_44, s_127_45, s_127_48, s_127_51, s_127_52, s_127_56, s_127_57, s_127_60, s_127_61, s_127_64, s_127_66, s_127_69, s_127_72, s_127_73, s_127_76, s_127_78, s_127_81, s_127_82, s_127_85, s_127_88, s_127_90, s_127_91, s_127_94, s_127_95, s_127_98, s_127_100, s_127_101, s_127_104, s_127_107, s_127_110, s_127_112, x_get_i, List.getElem?_cons_succ, List.getElem?_cons_zero, x_cv_j, cs_n, cs_i, cs_r, cs_l, Nat.reduceAdd, Nat.reduceLeDiff, true_and, Option.toList_some, Option.toList_none, List.cons_append, List.nil_append, if_true, if_false, nb0, nb1, x_setJ, x_setZ0, x_setZ1, x_setA, x_setO, List.length_cons, List.length_nil, Nat.reduceLT, List.set_cons_succ, List.set_cons_zero, wrl_0, wrl_1, wrl_2, wrl_3, wrl_4, wrl_5, wrl_p0, wrl_p1, wrl_p2, wrl_p3, wrl_p4, o_b, a_b, c_b, n_b, p_b, q_b, m_b, g_b]
      refine c_rclear hWb (fun hd sD hWd => ?_)
      have cd := cel_sm sD (by simp only [List.length_cons, List.length_nil]; omega) cb
      have loop : ∀ (j i : Nat) (hz : tm_H), i + j = q + 1 → sm b (b + 162) h hz → CW sa hz b (0, F) (bea (fun i => sui (LN N F 0 c) L n s (nI c) (nI i)) (fun i => tc_mo M (nI i) n) v R i).2 (L, W, M, B, n, s, g) pa ru he mi ga → cel hz (b + 143) (lec (b + 143) (LN N F 0 c) P' (nI c) (le_pl (LN N F 0 c) L n s 8)) → tm_X (g_G sa sc xt) (d + 4) 127 54 [.ref b, .int v, .int (-1), .int (nI q), .int (nI (bea (fun i => sui (LN N F 0 c) L n s (nI c) (nI i)) (fun i => tc_mo M (nI i) n) v R i).1), .int (nI i)] [] hz Q := by
        intro j
        induction j with
        | zero =>
          intro i hz hi sz hWz cz
          have hi : i = q + 1 := by omega
          subst hi
          rw [s_127_54]
          simp only [s_127_0, s_127_1, s_127_4, s_127_5, s_127_6, s_127_7, s_127_10, s_127_11, s_127_12, s_127_13, s_127_14, s_127_15, s_127_17, s_127_20, s_127_21, s_127_23, s_127_26, s_127_28, s_127_29, s_127_30, s_127_33, s_127_34, s_127_37, s_127_40, s_127_41, s_127_42, s_127_44, s_127_45, s_127_48, s_127_51, s_127_52, s_127_56, s_127_57, s_127_60, s_127_61, s_127_64, s_127_66, s_127_69, s_127_72, s_127_73, s_127_76, s_127_78, s_127_81, s_127_82, s_127_85, s_127_88, s_127_90, s_127_91, s_127_94, s_127_95, s_127_98, s_127_100, s_127_101, s_127_104, s_127_107, s_127_110, s_127_112, x_get_i, List.getElem?_cons_succ, List.getElem?_cons_zero, x_cv_j, cs_n, cs_i, cs_r, cs_l, Nat.reduceAdd, Nat.reduceLeDiff, true_and, Option.toList_some, Option.toList_none, List.cons_append, List.nil_append, if_true, if_false, nb0, nb1, x_setJ, x_setZ0, x_setZ1, x_setA, x_setO, List.length_cons, List.length_nil, Nat.reduceLT, List.set_cons_succ, List.set_cons_zero, wrl_0, wrl_1, wrl_2, wrl_3, wrl_4, wrl_5, wrl_p0, wrl_p1, wrl_p2, wrl_p3, wrl_p4, show nI q < nI (q + 1) from nI_lt (by omega) (by omega)]
          exact h3 hz (LN N F 0 c) q hf k0 (fun l hl => if_pos hl) eq hq sz hWz
        | succ j ih =>
          intro i hz hi sz hWz cz
          have o_z := hWz.1
          have a_z : hz.2.2 (b + 1) = .inr (8, _) := hWz.2.1.1.1
          have c_z : hz.2.2 (b + 3) = .inr (5, _) := cel_0 hWz.2.2.1.1
          have n_z : hz.2.2 (b + 5) = .inr (9, _) := hWz.2.2.2.1.1.1
          have p_z : hz.2.2 (b + 33) = .inr (6, _) := hWz.2.2.2.2.2.2.2.1.1.1
          have q_z : hz.2.2 (b + 152) = .inr (2, _) := cel_0 hWz.2.2.2.2.2.2.2.2.2.2.2.2.2.2.1.1
          obtain ⟨_, mm_z⟩ := hWz.2.2.2.2.2.2.2.2.2.2.2.2.2.2.2.1.1
          have m_z : hz.2.2 (b + 154) = .inr (4, _) := cel_0 mm_z
          have g_z : hz.2.2 (b + 159) = .inr (1, _) := cel_0 hWz.2.2.2.2.2.2.2.2.2.2.2.2.2.2.2.2.1.1
          have hTz : tc_at hz (b + 5) L W M B (nI n) s g := hWz.2.2.2.1.1
          have z0 := cel_0 cz
          have hle := bea_le (su := fun i => sui (LN N F 0 c) L n s (nI c) (nI i)) (mo := fun i => tc_mo M (nI i) n) (v := v) (R := R) i
          have es : bea (fun i => sui (LN N F 0 c) L n s (nI c) (nI i)) (fun i => tc_mo M (nI i) n) v R (i + 1) = if sui (LN N F 0 c) L n s (nI c) (nI i) && decide (tc_mo M (nI i) n = v) then ((bea (fun i => sui (LN N F 0 c) L n s (nI c) (nI i)) (fun i => tc_mo M (nI i) n) v R i).1 + 1, if (bea (fun i => sui (LN N F 0 c) L n s (nI c) (nI i)) (fun i => tc_mo M (nI i) n) v R i).1 = 0 then rw1 (bea (fun i => sui (LN N F 0 c) L n s (nI c) (nI i)) (fun i => tc_mo M (nI i) n) v R i).2.2 (nI i).toInt64 else (bea (fun i => sui (LN N F 0 c) L n s (nI c) (nI i)) (fun i => tc_mo M (nI i) n) v R i).2) else bea (fun i => sui (LN N F 0 c) L n s (nI c) (nI i)) (fun i => tc_mo M (nI i) n) v R i := rfl
          have ih := ih (i + 1)
          rw [es] at ih
          clear es
          generalize bea (fun i => sui (LN N F 0 c) L n s (nI c) (nI i)) (fun i => tc_mo M (nI i) n) v R i = a at ih hWz hle
          rw [s_127_54]
          simp only [s_127_0, s_127_1, s_127_4, s_127_5, s_127_6, s_127_7, s_127_10, s_127_11, s_127_12, s_127_13, s_127_14, s_127_15, s_127_17, s_127_20, s_127_21, s_127_23, s_127_26, s_127_28, s_127_29, s_127_30, s_127_33, s_127_34, s_127_37, s_127_40, s_127_41, s_127_42, s_127_44, s_127_45, s_127_48, s_127_51, s_127_52, s_127_56, s_127_57, s_127_60, s_127_61, s_127_64, s_127_66, s_127_69, s_127_72, s_127_73, s_127_76, s_127_78, s_127_81, s_127_82, s_127_85, s_127_88, s_127_90, s_127_91, s_127_94, s_127_95, s_127_98, s_127_100, s_127_101, s_127_104, s_127_107, s_127_110, s_127_112, x_get_i, List.getElem?_cons_succ, List.getElem?_cons_zero, x_cv_j, cs_n, cs_i, cs_r, cs_l, Nat.reduceAdd, Nat.reduceLeDiff, true_and, Option.toList_some, Option.toList_none, List.cons_append, List.nil_append, if_true, if_false, nb0, nb1, x_setJ, x_setZ0, x_setZ1, x_setA, x_setO, List.length_cons, List.length_nil, Nat.reduceLT, List.set_cons_succ, List.set_cons_zero, wrl_0, wrl_1, wrl_2, wrl_3, wrl_4, wrl_5, wrl_p0, wrl_p1, wrl_p2, wrl_p3, wrl_p4, show ¬ nI q < nI i from nI_nlt (by omega) (by omega), o_z, a_z, c_z, n_z, p_z, q_z, m_z, g_z, z0, c_suits cz hP, nI_1]
          cases hs : sui (LN N F 0 c) L n s (nI c) (nI i) with
          | false =>
            rw [hs] at ih
            simp only [show bI false = 0 by decide, if_true]
            exact ih hz (by omega) sz hWz cz
          | true =>
            rw [hs] at ih
            simp only [show ¬ bI true = 0 by decide, if_false, s_127_0, s_127_1, s_127_4, s_127_5, s_127_6, s_127_7, s_127_10, s_127_11, s_127_12, s_127_13, s_127_14, s_127_15, s_127_17, s_127_20, s_127_21, s_127_23, s_127_26, s_127_28, s_127_29, s_127_30, s_127_33, s_127_34, s_127_37, s_127_40, s_127_41, s_127_42, s_127_44, s_127_45, s_127_48, s_127_51, s_127_52, s_127_56, s_127_57, s_127_60, s_127_61, s_127_64, s_127_66, s_127_69, s_127_72, s_127_73, s_127_76, s_127_78, s_127_81, s_127_82, s_127_85, s_127_88, s_127_90, s_127_91, s_127_94, s_127_95, s_127_98, s_127_100, s_127_101, s_127_104, s_127_107, s_127_110, s_127_112, x_get_i, List.getElem?_cons_succ, List.getElem?_cons_zero, x_cv_j, cs_n, cs_i, cs_r, cs_l, Nat.reduceAdd, Nat.reduceLeDiff, true_and, Option.toList_some, Option.toList_none, List.cons_append, List.nil_append, if_true, if_false, nb0, nb1, x_setJ, x_setZ0, x_setZ1, x_setA, x_setO, List.length_cons, List.length_nil, Nat.reduceLT, List.set_cons_succ, List.set_cons_zero, wrl_0, wrl_1, wrl_2, wrl_3, wrl_4, wrl_5, wrl_p0, wrl_p1, wrl_p2, wrl_p3, wrl_p4, o_z, a_z, c_z, n_z, p_z, q_z, m_z, g_z, tc_moodsOf hTz hn]
            by_cases k3 : tc_mo M (nI i) n = v
            · simp only [k3, if_true, decide_true, Bool.and_self, nI_1] at ih ⊢
              by_cases k4 : a.1 = 0
              · rw [k4] at ih ⊢
                simp only [show nI (0 + 1) = 1 by decide, if_true, s_127_0, s_127_1, s_127_4, s_127_5, s_127_6, s_127_7, s_127_10, s_127_11, s_127_12, s_127_13, s_127_14, s_127_15, s_127_17, s_127_20, s_127_21, s_127_23, s_127_26, s_127_28, s_127_29, s_127_30, s_127_33, s_127_34, s_127_37, s_127_40, s_127_41, s_127_42, s_127_44, s_127_45, s_127_48, s_127_51, s_127_52, s_127_56, s_127_57, s_127_60, s_127_61, s_127_64, s_127_66, s_127_69, s_127_72, s_127_73, s_127_76, s_127_78, s_127_81, s_127_82, s_127_85, s_127_88, s_127_90, s_127_91, s_127_94, s_127_95, s_127_98, s_127_100, s_127_101, s_127_104, s_127_107, s_127_110, s_127_112, x_get_i, List.getElem?_cons_succ, List.getElem?_cons_zero, x_cv_j, cs_n, cs_i, cs_r, cs_l, Nat.reduceAdd, Nat.reduceLeDiff, true_and, Option.toList_some, Option.toList_none, List.cons_append, List.nil_append, if_true, if_false, nb0, nb1, x_setJ, x_setZ0, x_setZ1, x_setA, x_setO, List.length_cons, List.length_nil, Nat.reduceLT, List.set_cons_succ, List.set_cons_zero, wrl_0, wrl_1, wrl_2, wrl_3, wrl_4, wrl_5, wrl_p0, wrl_p1, wrl_p2, wrl_p3, wrl_p4, o_z, a_z, c_z, n_z, p_z, q_z, m_z, g_z]
                simp only [if_true] at ih
                have hWz' : CW sa hz b (0, F) (a.2.1, a.2.2) (L, W, M, B, n, s, g) pa ru he mi ga := hWz
                refine c_tell1 hWz' _ (fun hy sy hWy => ?_)
                simp only [s_127_0, s_127_1, s_127_4, s_127_5, s_127_6, s_127_7, s_127_10, s_127_11, s_127_12, s_127_13, s_127_14, s_127_15, s_127_17, s_127_20, s_127_21, s_127_23, s_127_26, s_127_28, s_127_29, s_127_30, s_127_33, s_127_34, s_127_37, s_127_40, s_127_41, s_127_42, s_127_44, s_127_45, s_127_48, s_127_51, s_127_52, s_127_56, s_127_57, s_127_60, s_127_61, s_127_64, s_127_66, s_127_69, s_127_72, s_127_73, s_127_76, s_127_78, s_127_81, s_127_82, s_127_85, s_127_88, s_127_90, s_127_91, s_127_94, s_127_95, s_127_98, s_127_100, s_127_101, s_127_104, s_127_107, s_127_110, s_127_112, x_get_i, List.getElem?_cons_succ, List.getElem?_cons_zero, x_cv_j, cs_n, cs_i, cs_r, cs_l, Nat.reduceAdd, Nat.reduceLeDiff, true_and, Option.toList_some, Option.toList_none, List.cons_append, List.nil_append, if_true, if_false, nb0, nb1, x_setJ, x_setZ0, x_setZ1, x_setA, x_setO, List.length_cons, List.length_nil, Nat.reduceLT, List.set_cons_succ, List.set_cons_zero, wrl_0, wrl_1, wrl_2, wrl_3, wrl_4, wrl_5, wrl_p0, wrl_p1, wrl_p2, wrl_p3, wrl_p4, nI_1]
                have := ih hy (by omega) (sz.trans (sy.mono (by omega) (by omega))) hWy (cel_sm sy (by simp only [List.length_cons, List.length_nil]; omega) cz)
                exact this
              · have k5 : ¬ nI (a.1 + 1) = 1 := by
                  rw [show (1 : Int32) = nI 1 from rfl, nI_eq (by omega) (by decide)]
                  omega
                simp only [k4, k5, if_false] at ih ⊢
                exact ih hz (by omega) sz hWz cz
            · simp only [k3, if_false, decide_false, Bool.and_false, Bool.false_eq_true, nI_1] at ih ⊢
              exact ih hz (by omega) sz hWz cz
      simp only [s_127_0, s_127_1, s_127_4, s_127_5, s_127_6, s_127_7, s_127_10, s_127_11, s_127_12, s_127_13, s_127_14, s_127_15, s_127_17, s_127_20, s_127_21, s_127_23, s_127_26, s_127_28, s_127_29, s_127_30, s_127_33, s_127_34, s_127_37, s_127_40, s_127_41, s_127_42, s_127_44, s_127_45, s_127_48, s_127_51, s_127_52, s_127_56, s_127_57, s_127_60, s_127_61, s_127_64, s_127_66, s_127_69, s_127_72, s_127_73, s_127_76, s_127_78, s_127_81, s_127_82, s_127_85, s_127_88, s_127_90, s_127_91, s_127_94, s_127_95, s_127_98, s_127_100, s_127_101, s_127_104, s_127_107, s_127_110, s_127_112, x_get_i, List.getElem?_cons_succ, List.getElem?_cons_zero, x_cv_j, cs_n, cs_i, cs_r, cs_l, Nat.reduceAdd, Nat.reduceLeDiff, true_and, Option.toList_some, Option.toList_none, List.cons_append, List.nil_append, if_true, if_false, nb0, nb1, x_setJ, x_setZ0, x_setZ1, x_setA, x_setO, List.length_cons, List.length_nil, Nat.reduceLT, List.set_cons_succ, List.set_cons_zero, wrl_0, wrl_1, wrl_2, wrl_3, wrl_4, wrl_5, wrl_p0, wrl_p1, wrl_p2, wrl_p3, wrl_p4, eq]
      exact loop (q + 1) 0 hd (by omega) (sA.trans ((sB.mono (by omega) (by omega)).trans (sD.mono (by omega) (by omega)))) hWd cd
    · simp only [k1, k2, if_false]
      exact h2 ha hf (Or.inr (Int32.not_le.mp k2)) sA hWa
end
