/-! calls of the class: sort, box, row, sheet, often, shortest -/
def sval (cd : List Int32) (X : TN) (j : Nat) (w : Int32) : Int32 := if w = 0 then X.1 j else if w = 1 then X.2.1 j else if w = 2 then 10 + X.2.2.1 j else if w = 3 then X.2.2.2.1 j else if w = 4 then (X.2.2.2.2.2.1 >>> (nI j &&& 31)) &&& 1 else 10 + tnow cd X j
/-- an entry of a sheet -/
def ent (k v : Int32) : Int32 := if k = 0 then v.toInt8.toInt32 else if k = 1 then v.toInt16.toInt32 else v
def cl9 (e : Int32) : Int32 := if 0 < (if e < 9 then e else 9) then (if e < 9 then e else 9) else 0
def shW (k nn f st : Int32) (W : Nat → Int32) : Nat → Nat → Int32 := fo (fun i X => upd X i (cl9 (if nn ≤ nI i then 0 else ent k (f + nI i * st)))) W
/-- how many of a letter do not stand -/
def fro (L : Nat → Int32) (n : Nat) (s : Int32) (l : Nat) : Int32 := ibc (tc_wh L (nI l) n &&& (s ^^^ (-1)))
def ofT (N fr : Nat → Int32) : Nat → Int32 := fo (fun l t => if N l ≤ 0 then t else (if fr l / N l < t then fr l / N l else t)) 12
def ofM (N fr : Nat → Int32) (t : Int32) : Nat → Int32 := fo (fun l a => if (t + 1) * N l ≤ fr l then a else a ||| (1 <<< (nI l &&& 31))) 0
def shb (fr : Nat → Int32) : Nat → Nat := fo (fun i b => if fr b ≤ fr (i + 1) then b else i + 1) 0
theorem shb_le {fr : Nat → Int32} : ∀ i, shb fr i ≤ i
  | 0 => Nat.le_refl _
  | i + 1 => by
    have := shb_le (fr := fr) i
    have es : shb fr (i + 1) = if fr (shb fr i) ≤ fr (i + 1) then shb fr i else i + 1 := rfl
    rw [es]
    split <;> omega
section
variable {sa : g_SA} {sc : Nat × Nat × (Nat → Int32)} {xt : Nat → Nat → List Value → tm_H → Option (Option Value × tm_H)} {d b : Nat} {h : tm_H} {Q : Option Value → tm_H → Prop}
variable {tx : Nat × (Nat → Int32)} {rw : Nat × (Nat → Int64)} {nw : TN} {pa : Nat × Nat × (Nat → TN) × (Nat → TN) × (Nat → Int32)} {ru : Nat × Nat × List Int32} {he : Nat × (Nat → Int32)} {mi : Nat × (Nat → Int32) × (Nat → Int32) × (Nat → Int32)} {ga : Nat}
variable {c n m : Nat} {F L W M B H Ms Bs Os : Nat → Int32} {s g : Int32} {rc hc mc : Nat} {R : Nat → Int64}
theorem c_turnNow {j : Nat} (hW : CW sa h b tx rw nw pa ru he mi ga) (hj : j < nw.2.2.2.2.1) (hQ : ∀ h', sm b (b + 162) h h' → CW sa h' b tx rw nw pa ru he mi ga → Q (some (.int (tnow ru.2.2 nw j))) h') : tm_D (g_G sa sc xt) (d + 2) 102 [.ref (b + 5), .ref ru.1, .int (nI j)] h Q := by
  obtain ⟨w_o, w_t, w_r, w_n, w_h, w_l, w_b, w_p, w_u, w_v, w_a, w_e, w_w, w_x, w_q, w_m, w_g, w_d, w_s⟩ := id hW
  obtain ⟨a, b', e⟩ := tcp_eta w_n.1
  rw [e]
  refine tc_turnNow w_n.2.1 hj w_n.2.2.2 w_u evv_7 (by omega) (fun h1 a b' q1 q2 => ?_)
  have s1 := rsm_sm q1
  have hW1 := CW_u hW s1 q2
  have s2 : sm (b + 5) (b + 12) h1 (tcp h1 (b + 5) nw.1 nw.2.1 nw.2.2.1 nw.2.2.2.1 (nI nw.2.2.2.2.1) nw.2.2.2.2.2.1 nw.2.2.2.2.2.2 a b') := sm_tcp (Nat.le_refl _) (Nat.le_refl _)
  exact hQ _ ((s1.mono (by omega) (by omega)).trans (s2.mono (by omega) (by omega))) (CW_n (nw' := nw) hW1 s2 ⟨tcp_at, w_n.2⟩)
theorem c_sort (hW : CW sa h b tx rw nw pa ru he mi ga) (v w : Int32) (h0 : (¬ ∃ j, j < nw.2.2.2.2.1 ∧ v = nI j) → Q (some (.double (UInt64.ofNat 11))) h) (h1 : (∃ j, j < nw.2.2.2.2.1 ∧ v = nI j) → (w < 0 ∨ 5 < w) → Q (some (.double (UInt64.ofNat 131))) h) (h2 : ∀ j h', j < nw.2.2.2.2.1 → v = nI j → ¬ (w < 0 ∨ 5 < w) → sm b (b + 162) h h' → CW sa h' b tx rw nw pa ru he mi ga → Q (some (.int (sval ru.2.2 nw j w))) h') : tm_D (g_G sa sc xt) (d + 3) 114 [.ref b, .int v, .int w] h Q := by
  obtain ⟨w_o, w_t, w_r, w_n, w_h, w_l, w_b, w_p, w_u, w_v, w_a, w_e, w_w, w_x, w_q, w_m, w_g, w_d, w_s⟩ := id hW
  have o_0 := hW.1
  have a_0 : h.2.2 (b + 1) = .inr (8, _) := hW.2.1.1.1
  have c_0 : h.2.2 (b + 3) = .inr (5, _) := cel_0 hW.2.2.1.1
  have n_0 : h.2.2 (b + 5) = .inr (9, _) := hW.2.2.2.1.1.1
  have p_0 : h.2.2 (b + 33) = .inr (6, _) := hW.2.2.2.2.2.2.2.1.1.1
  have q_0 : h.2.2 (b + 152) = .inr (2, _) := cel_0 hW.2.2.2.2.2.2.2.2.2.2.2.2.2.2.1.1
  obtain ⟨_, mm_0⟩ := hW.2.2.2.2.2.2.2.2.2.2.2.2.2.2.2.1.1
  have m_0 : h.2.2 (b + 154) = .inr (4, _) := cel_0 mm_0
  have g_0 : h.2.2 (b + 159) = .inr (1, _) := cel_0 hW.2.2.2.2.2.2.2.2.2.2.2.2.2.2.2.2.1.1
  have hT : tc_at h (b + 5) nw.1 nw.2.1 nw.2.2.1 nw.2.2.2.1 (nI nw.2.2.2.2.1) nw.2.2.2.2.2.1 nw.2.2.2.2.2.2 := w_n.1
  have hn : nw.2.2.2.2.1 ≤ 12 := w_n.2.1
  obtain ⟨t0, t1, t2, t3, t4, -, -⟩ := id hT
  rw [e_114]
  simp only [s_114_0, s_114_1, s_114_4, s_114_5, s_114_8, s_114_11, s_114_21, s_114_22, s_114_60, s_114_61, s_114_64, s_114_67, s_114_68, s_114_69, s_114_70, s_114_71, s_114_74, s_114_77, s_114_78, s_114_79, s_114_80, s_114_82, s_114_83, s_114_86, s_114_89, s_114_90, s_114_91, s_114_92, s_114_93, s_114_94, s_114_97, s_114_100, s_114_101, s_114_102, s_114_103, s_114_104, s_114_107, s_114_110, s_114_111, s_114_112, s_114_113, s_114_114, s_114_115, s_114_117, s_114_118, s_114_121, s_114_122, s_114_125, s_114_126, s_114_129, s_114_130, s_114_131, x_get_i, List.getElem?_cons_succ, List.getElem?_cons_zero, x_cv_j, cs_n, cs_i, cs_r, cs_l, Nat.reduceAdd, Nat.reduceLeDiff, true_and, Option.toList_some, Option.toList_none, List.cons_append, List.nil_append, if_true, if_false, nb0, nb1, x_setJ, x_setZ0, x_setZ1, x_setA, x_setO, List.length_cons, List.length_nil, Nat.reduceLT, List.set_cons_succ, List.set_cons_zero, wrl_0, wrl_1, wrl_2, wrl_3, wrl_4, wrl_5, wrl_p0, wrl_p1, wrl_p2, wrl_p3, wrl_p4, o_0, t0, tc_has hT]
  by_cases hv : ∃ j, j < nw.2.2.2.2.1 ∧ v = nI j
  · have hv1 := (tc_hasI hn).mpr hv
    simp only [hv1, show ¬ (1 : Int32) = 0 by decide, if_false]
    obtain ⟨j, hj, ej⟩ := id hv
    subst ej
    have h12 : j < 12 := by omega
    simp only [x_ild_n h12 n12, t1, t2, t3, t4, s_114_0, s_114_1, s_114_4, s_114_5, s_114_8, s_114_11, s_114_21, s_114_22, s_114_60, s_114_61, s_114_64, s_114_67, s_114_68, s_114_69, s_114_70, s_114_71, s_114_74, s_114_77, s_114_78, s_114_79, s_114_80, s_114_82, s_114_83, s_114_86, s_114_89, s_114_90, s_114_91, s_114_92, s_114_93, s_114_94, s_114_97, s_114_100, s_114_101, s_114_102, s_114_103, s_114_104, s_114_107, s_114_110, s_114_111, s_114_112, s_114_113, s_114_114, s_114_115, s_114_117, s_114_118, s_114_121, s_114_122, s_114_125, s_114_126, s_114_129, s_114_130, s_114_131, x_get_i, List.getElem?_cons_succ, List.getElem?_cons_zero, x_cv_j, cs_n, cs_i, cs_r, cs_l, Nat.reduceAdd, Nat.reduceLeDiff, true_and, Option.toList_some, Option.toList_none, List.cons_append, List.nil_append, if_true, if_false, nb0, nb1, x_setJ, x_setZ0, x_setZ1, x_setA, x_setO, List.length_cons, List.length_nil, Nat.reduceLT, List.set_cons_succ, List.set_cons_zero, wrl_0, wrl_1, wrl_2, wrl_3, wrl_4, wrl_5, wrl_p0, wrl_p1, wrl_p2, wrl_p3, wrl_p4, o_0, t0]
    by_cases w0 : w = 0
    · simp only [w0, if_true]
      have := h2 j h hj rfl (by rw [w0]; decide) sm.rfl hW
      rwa [w0] at this
    by_cases w1 : w = 1
    · simp only [w1, if_true, if_false, show ¬ (1 : Int32) = 0 by decide]
      have := h2 j h hj rfl (by rw [w1]; decide) sm.rfl hW
      rwa [w1] at this
    by_cases w2 : w = 2
    · simp only [w2, if_true, if_false, show ¬ (2 : Int32) = 0 by decide, show ¬ (2 : Int32) = 1 by decide]
      have := h2 j h hj rfl (by rw [w2]; decide) sm.rfl hW
      rwa [w2] at this
    by_cases w3 : w = 3
    · simp only [w3, if_true, if_false, show ¬ (3 : Int32) = 0 by decide, show ¬ (3 : Int32) = 1 by decide, show ¬ (3 : Int32) = 2 by decide]
      have := h2 j h hj rfl (by rw [w3]; decide) sm.rfl hW
      rwa [w3] at this
    by_cases w4 : w = 4
    · simp only [w4, if_true, if_false, show ¬ (4 : Int32) = 0 by decide, show ¬ (4 : Int32) = 1 by decide, show ¬ (4 : Int32) = 2 by decide, show ¬ (4 : Int32) = 3 by decide]
      have := h2 j h hj rfl (by rw [w4]; decide) sm.rfl hW
      rwa [w4] at this
    by_cases w5 : w = 5
    · simp only [w5, if_true, if_false, show ¬ (5 : Int32) = 0 by decide, show ¬ (5 : Int32) = 1 by decide, show ¬ (5 : Int32) = 2 by decide, show ¬ (5 : Int32) = 3 by decide, show ¬ (5 : Int32) = 4 by decide]
      refine c_turnNow hW hj (fun h' s' hW' => ?_)
      simp only [s_114_0, s_114_1, s_114_4, s_114_5, s_114_8, s_114_11, s_114_21, s_114_22, s_114_60, s_114_61, s_114_64, s_114_67, s_114_68, s_114_69, s_114_70, s_114_71, s_114_74, s_114_77, s_114_78, s_114_79, s_114_80, s_114_82, s_114_83, s_114_86, s_114_89, s_114_90, s_114_91, s_114_92, s_114_93, s_114_94, s_114_97, s_114_100, s_114_101, s_114_102, s_114_103, s_114_104, s_114_107, s_114_110, s_114_111, s_114_112, s_114_113, s_114_114, s_114_115, s_114_117, s_114_118, s_114_121, s_114_122, s_114_125, s_114_126, s_114_129, s_114_130, s_114_131, x_get_i, List.getElem?_cons_succ, List.getElem?_cons_zero, x_cv_j, cs_n, cs_i, cs_r, cs_l, Nat.reduceAdd, Nat.reduceLeDiff, true_and, Option.toList_some, Option.toList_none, List.cons_append, List.nil_append, if_true, if_false, nb0, nb1, x_setJ, x_setZ0, x_setZ1, x_setA, x_setO, List.length_cons, List.length_nil, Nat.reduceLT, List.set_cons_succ, List.set_cons_zero, wrl_0, wrl_1, wrl_2, wrl_3, wrl_4, wrl_5, wrl_p0, wrl_p1, wrl_p2, wrl_p3, wrl_p4]
      have := h2 j h' hj rfl (by rw [w5]; decide) s' hW'
      rwa [w5] at this
    simp only [w0, w1, w2, w3, w4, w5, if_false]
    refine h1 hv ?_
    apply Classical.byContradiction
    intro q
    have q1 : ¬ w < 0 := fun e => q (Or.inl e)
    have q2 : w ≤ 5 := Int32.not_lt.mp (fun e => q (Or.inr e))
    obtain ⟨k, hk, ek⟩ := nI_of2 (n := 5) (by decide) q1 q2
    subst ek
    rcases (show k = 0 ∨ k = 1 ∨ k = 2 ∨ k = 3 ∨ k = 4 ∨ k = 5 by omega) with e | e | e | e | e | e <;> subst e <;> contradiction
  · simp only [hasI0 hn hv, if_true]
    exact h0 hv
theorem c_box (hW : CW sa h b tx rw (L, W, M, B, n, s, g) pa ru he mi ga) (v w : Int32) (h0 : (¬ ∃ j, j < 8 ∧ v = nI j) → Q (some (.double (UInt64.ofNat 7))) h) (h1 : (∃ j, j < 8 ∧ v = nI j) → ¬ w = 0 → ¬ w = 1 → Q (some (.double (UInt64.ofNat 73))) h) (h2 : ∀ j, j < 8 → v = nI j → w = 0 → Q (some (.int (tc_wh B (nI j) n))) h) (h3 : ∀ j, j < 8 → v = nI j → w = 1 → Q (some (.int (200 + tc_mo M (tc_wh B (nI j) n) n))) h) : tm_D (g_G sa sc xt) (d + 3) 115 [.ref b, .int v, .int w] h Q := by
  obtain ⟨w_o, w_t, w_r, w_n, w_h, w_l, w_b, w_p, w_u, w_v, w_a, w_e, w_w, w_x, w_q, w_m, w_g, w_d, w_s⟩ := id hW
  have o_0 := hW.1
  have a_0 : h.2.2 (b + 1) = .inr (8, _) := hW.2.1.1.1
  have c_0 : h.2.2 (b + 3) = .inr (5, _) := cel_0 hW.2.2.1.1
  have n_0 : h.2.2 (b + 5) = .inr (9, _) := hW.2.2.2.1.1.1
  have p_0 : h.2.2 (b + 33) = .inr (6, _) := hW.2.2.2.2.2.2.2.1.1.1
  have q_0 : h.2.2 (b + 152) = .inr (2, _) := cel_0 hW.2.2.2.2.2.2.2.2.2.2.2.2.2.2.1.1
  obtain ⟨_, mm_0⟩ := hW.2.2.2.2.2.2.2.2.2.2.2.2.2.2.2.1.1
  have m_0 : h.2.2 (b + 154) = .inr (4, _) := cel_0 mm_0
  have g_0 : h.2.2 (b + 159) = .inr (1, _) := cel_0 hW.2.2.2.2.2.2.2.2.2.2.2.2.2.2.2.2.1.1
  have hT : tc_at h (b + 5) L W M B (nI n) s g := w_n.1
  have hn : n ≤ 12 := w_n.2.1
  rw [e_115]
  simp only [s_115_0, s_115_1, s_115_4, s_115_7, s_115_17, s_115_18, s_115_44, s_115_45, s_115_48, s_115_49, s_115_52, s_115_53, s_115_56, s_115_57, s_115_60, s_115_61, s_115_64, s_115_65, s_115_68, s_115_71, s_115_72, s_115_73, x_get_i, List.getElem?_cons_succ, List.getElem?_cons_zero, x_cv_j, cs_n, cs_i, cs_r, cs_l, Nat.reduceAdd, Nat.reduceLeDiff, true_and, Option.toList_some, Option.toList_none, List.cons_append, List.nil_append, if_true, if_false, nb0, nb1, x_setJ, x_setZ0, x_setZ1, x_setA, x_setO, List.length_cons, List.length_nil, Nat.reduceLT, List.set_cons_succ, List.set_cons_zero, wrl_0, wrl_1, wrl_2, wrl_3, wrl_4, wrl_5, wrl_p0, wrl_p1, wrl_p2, wrl_p3, wrl_p4, o_0, n_0, m_isBox, tc_inBox hT hn, tc_moodsOf hT hn]
  by_cases hv : ∃ j, j < 8 ∧ v = nI j
  · simp only [boxI.mpr hv, show ¬ (1 : Int32) = 0 by decide, if_false]
    obtain ⟨j, hj, ej⟩ := id hv
    by_cases w0 : w = 0
    · simp only [w0, if_true]
      rw [ej]
      exact h2 j hj ej w0
    by_cases w1 : w = 1
    · simp only [w1, show ¬ (1 : Int32) = 0 by decide, if_true, if_false]
      rw [ej]
      exact h3 j hj ej w1
    simp only [w0, w1, if_false]
    exact h1 hv w0 w1
  · simp only [boxI0 hv, if_true]
    exact h0 hv
theorem c_row (hW : CW sa h b tx (rc, R) nw pa ru he mi ga) (v : Int32) (h0 : (¬ ∃ j, j < rc ∧ v = nI j) → Q (some (.double (UInt64.ofNat 11))) h) (h1 : ∀ j, j < rc → v = nI j → Q (some (.long (R j))) h) : tm_D (g_G sa sc xt) (d + 2) 155 [.ref b, .int v] h Q := by
  obtain ⟨w_o, w_t, w_r, w_n, w_h, w_l, w_b, w_p, w_u, w_v, w_a, w_e, w_w, w_x, w_q, w_m, w_g, w_d, w_s⟩ := id hW
  have o_0 := hW.1
  have a_0 : h.2.2 (b + 1) = .inr (8, _) := hW.2.1.1.1
  have c_0 : h.2.2 (b + 3) = .inr (5, _) := cel_0 hW.2.2.1.1
  have n_0 : h.2.2 (b + 5) = .inr (9, _) := hW.2.2.2.1.1.1
  have p_0 : h.2.2 (b + 33) = .inr (6, _) := hW.2.2.2.2.2.2.2.1.1.1
  have q_0 : h.2.2 (b + 152) = .inr (2, _) := cel_0 hW.2.2.2.2.2.2.2.2.2.2.2.2.2.2.1.1
  obtain ⟨_, mm_0⟩ := hW.2.2.2.2.2.2.2.2.2.2.2.2.2.2.2.1.1
  have m_0 : h.2.2 (b + 154) = .inr (4, _) := cel_0 mm_0
  have g_0 : h.2.2 (b + 159) = .inr (1, _) := cel_0 hW.2.2.2.2.2.2.2.2.2.2.2.2.2.2.2.2.1.1
  have hr : rc ≤ 14 := w_r.2
  have a1 : ∀ {d : Nat} {Q} {i : Int32}, tm_D (g_G sa sc xt) d 42 [.ref (b + 3), .int i] h Q ↔ Q (some (.int (if i < 0 then 0 else if nI rc ≤ i then 0 else 1))) h := fun {d Q i} => cel_ro w_r.1 (fun Q => nu_has i)
  rw [e_155]
  simp only [s_155_0, s_155_1, s_155_4, s_155_5, s_155_8, s_155_11, s_155_22, s_155_23, s_155_26, s_155_27, s_155_30, x_get_i, List.getElem?_cons_succ, List.getElem?_cons_zero, x_cv_j, cs_n, cs_i, cs_r, cs_l, Nat.reduceAdd, Nat.reduceLeDiff, true_and, Option.toList_some, Option.toList_none, List.cons_append, List.nil_append, if_true, if_false, nb0, nb1, x_setJ, x_setZ0, x_setZ1, x_setA, x_setO, List.length_cons, List.length_nil, Nat.reduceLT, List.set_cons_succ, List.set_cons_zero, wrl_0, wrl_1, wrl_2, wrl_3, wrl_4, wrl_5, wrl_p0, wrl_p1, wrl_p2, wrl_p3, wrl_p4, o_0, c_0, a1]
  by_cases hv : ∃ j, j < rc ∧ v = nI j
  · obtain ⟨j, hj, ej⟩ := id hv
    subst ej
    have a2 : ∀ {d : Nat} {Q}, tm_D (g_G sa sc xt) (d + 1) 43 [.ref (b + 3), .int (nI j)] h Q ↔ Q (some (.long (R j))) h := fun {d Q} => cel_ro w_r.1 (fun Q => nu_at hj hr)
    simp only [show ¬ nI j < 0 from nI_pos (by omega), show ¬ nI rc ≤ nI j from nI_ge hj (by omega), if_false, show ¬ (1 : Int32) = 0 by decide, a2, s_155_0, s_155_1, s_155_4, s_155_5, s_155_8, s_155_11, s_155_22, s_155_23, s_155_26, s_155_27, s_155_30, x_get_i, List.getElem?_cons_succ, List.getElem?_cons_zero, x_cv_j, cs_n, cs_i, cs_r, cs_l, Nat.reduceAdd, Nat.reduceLeDiff, true_and, Option.toList_some, Option.toList_none, List.cons_append, List.nil_append, if_true, if_false, nb0, nb1, x_setJ, x_setZ0, x_setZ1, x_setA, x_setO, List.length_cons, List.length_nil, Nat.reduceLT, List.set_cons_succ, List.set_cons_zero, wrl_0, wrl_1, wrl_2, wrl_3, wrl_4, wrl_5, wrl_p0, wrl_p1, wrl_p2, wrl_p3, wrl_p4]
    exact h1 j hj rfl
  · have e0 : (if v < 0 then (0 : Int32) else if nI rc ≤ v then 0 else 1) = 0 := by
      by_cases k1 : v < 0
      · rw [if_pos k1]
      · rw [if_neg k1]
        by_cases k2 : nI rc ≤ v
        · rw [if_pos k2]
        · exfalso
          obtain ⟨j, hj, e⟩ := nI_of k1
          apply hv
          refine ⟨j, ?_, e⟩
          apply Nat.not_le.mp
          intro q
          apply k2
          rw [e]
          exact nI_le q hj
    simp only [e0, if_true]
    exact h0 hv
theorem c_entry (k v : Int32) : tm_D (g_G sa sc xt) d 163 [.int k, .int v] h Q ↔ Q (some (.int (ent k v))) h := by
  rw [e_163]
  unfold ent
  simp only [s_163_0, s_163_1, s_163_4, s_163_5, s_163_6, s_163_9, s_163_10, s_163_11, s_163_14, s_163_15, s_163_16, s_163_19, s_163_20, x_get_i, List.getElem?_cons_succ, List.getElem?_cons_zero, x_cv_j, cs_n, cs_i, cs_r, cs_l, Nat.reduceAdd, Nat.reduceLeDiff, true_and, Option.toList_some, Option.toList_none, List.cons_append, List.nil_append, if_true, if_false, nb0, nb1, x_setJ, x_setZ0, x_setZ1, x_setA, x_setO, List.length_cons, List.length_nil, Nat.reduceLT, List.set_cons_succ, List.set_cons_zero, wrl_0, wrl_1, wrl_2, wrl_3, wrl_4, wrl_5, wrl_p0, wrl_p1, wrl_p2, wrl_p3, wrl_p4, q_ite (Q := Q)]
theorem c_sheet (hW : CW sa h b tx rw (L, W, M, B, n, s, g) pa ru he mi ga) (k nn f st : Int32) (h1 : (k < 0 ∨ 3 < k ∨ 12 < nn) → Q (some (.int (-1))) h) (h2 : ¬ (k < 0 ∨ 3 < k ∨ 12 < nn) → k = 3 → ∀ h', sm b (b + 162) h h' → CW sa h' b tx rw (L, fl W 0 12, M, B, n, s, g) pa ru he mi ga → Q (some (.int (-3))) h') (h3 : ¬ (k < 0 ∨ 3 < k ∨ 12 < nn) → ¬ k = 3 → nn < 0 → Q (some (.int (-2))) h) (h4 : ¬ (k < 0 ∨ 3 < k ∨ 12 < nn) → ¬ k = 3 → ¬ nn < 0 → ∀ h', sm b (b + 162) h h' → CW sa h' b tx rw (L, shW k nn f st W n, M, B, n, s, g) pa ru he mi ga → Q (some (.int (tc_sum (shW k nn f st W n) n))) h') : tm_D (g_G sa sc xt) (d + 2) 116 [.ref b, .int k, .int nn, .int f, .int st] h Q := by
  obtain ⟨w_o, w_t, w_r, w_n, w_h, w_l, w_b, w_p, w_u, w_v, w_a, w_e, w_w, w_x, w_q, w_m, w_g, w_d, w_s⟩ := id hW
  have o_0 := hW.1
  have a_0 : h.2.2 (b + 1) = .inr (8, _) := hW.2.1.1.1
  have c_0 : h.2.2 (b + 3) = .inr (5, _) := cel_0 hW.2.2.1.1
  have n_0 : h.2.2 (b + 5) = .inr (9, _) := hW.2.2.2.1.1.1
  have p_0 : h.2.2 (b + 33) = .inr (6, _) := hW.2.2.2.2.2.2.2.1.1.1
  have q_0 : h.2.2 (b + 152) = .inr (2, _) := cel_0 hW.2.2.2.2.2.2.2.2.2.2.2.2.2.2.1.1
  obtain ⟨_, mm_0⟩ := hW.2.2.2.2.2.2.2.2.2.2.2.2.2.2.2.1.1
  have m_0 : h.2.2 (b + 154) = .inr (4, _) := cel_0 mm_0
  have g_0 : h.2.2 (b + 159) = .inr (1, _) := cel_0 hW.2.2.2.2.2.2.2.2.2.2.2.2.2.2.2.2.1.1
  have hT : tc_at h (b + 5) L W M B (nI n) s g := w_n.1
  have hn : n ≤ 12 := w_n.2.1
  obtain ⟨a, b', e⟩ := tcp_eta hT
  have wf : ∀ W', WFT (L, W', M, B, n, s, g) := fun _ => w_n.2
  have sW : ∀ W', sm (b + 5) (b + 12) h (tcp h (b + 5) L W' M B (nI n) s g a b') := fun W' => sm_tcp (Nat.le_refl _) (Nat.le_refl _)
  have wW : ∀ W', CW sa (tcp h (b + 5) L W' M B (nI n) s g a b') b tx rw (L, W', M, B, n, s, g) pa ru he mi ga := fun W' => CW_n (nw' := (L, W', M, B, n, s, g)) hW (sW W') ⟨tcp_at, wf W'⟩
  have oW : ∀ W', (tcp h (b + 5) L W' M B (nI n) s g a b').2.2 b = cob b ru.1 ru.2.1 := fun W' => (wW W').1
  rw [e_116]
  simp only [s_116_0, s_116_1, s_116_4, s_116_5, s_116_6, s_116_9, s_116_10, s_116_12, s_116_15, s_116_16, s_116_17, s_116_18, s_116_19, s_116_22, s_116_23, s_116_26, s_116_29, s_116_30, s_116_33, s_116_35, s_116_36, s_116_37, s_116_40, s_116_42, s_116_43, s_116_44, s_116_48, s_116_49, s_116_52, s_116_55, s_116_58, s_116_60, s_116_61, s_116_64, s_116_65, s_116_66, s_116_68, s_116_70, s_116_71, s_116_72, s_116_75, s_116_78, s_116_79, s_116_81, s_116_82, s_116_85, s_116_88, s_116_90, s_116_91, s_116_93, s_116_95, s_116_98, s_116_101, s_116_102, s_116_105, s_116_108, s_116_109, s_116_112, s_116_115, x_get_i, List.getElem?_cons_succ, List.getElem?_cons_zero, x_cv_j, cs_n, cs_i, cs_r, cs_l, Nat.reduceAdd, Nat.reduceLeDiff, true_and, Option.toList_some, Option.toList_none, List.cons_append, List.nil_append, if_true, if_false, nb0, nb1, x_setJ, x_setZ0, x_setZ1, x_setA, x_setO, List.length_cons, List.length_nil, Nat.reduceLT, List.set_cons_succ, List.set_cons_zero, wrl_0, wrl_1, wrl_2, wrl_3, wrl_4, wrl_5, wrl_p0, wrl_p1, wrl_p2, wrl_p3, wrl_p4]
  by_cases k1 : k < 0
  · simp only [k1, if_true]
    exact h1 (Or.inl k1)
  by_cases k2 : 3 < k
  · simp only [k1, k2, if_true, if_false]
    exact h1 (Or.inr (Or.inl k2))
  by_cases k3 : nn ≤ 12
  · have k0 : ¬ (k < 0 ∨ 3 < k ∨ 12 < nn) := by
      rintro (q | q | q)
      · exact k1 q
      · exact k2 q
      · exact Int32.not_lt.mpr k3 q
    simp only [k1, k2, k3, if_true, if_false]
    by_cases k4 : k = 3
    · simp only [k4, if_true]
      rw [e]
      simp only [s_116_0, s_116_1, s_116_4, s_116_5, s_116_6, s_116_9, s_116_10, s_116_12, s_116_15, s_116_16, s_116_17, s_116_18, s_116_19, s_116_22, s_116_23, s_116_26, s_116_29, s_116_30, s_116_33, s_116_35, s_116_36, s_116_37, s_116_40, s_116_42, s_116_43, s_116_44, s_116_48, s_116_49, s_116_52, s_116_55, s_116_58, s_116_60, s_116_61, s_116_64, s_116_65, s_116_66, s_116_68, s_116_70, s_116_71, s_116_72, s_116_75, s_116_78, s_116_79, s_116_81, s_116_82, s_116_85, s_116_88, s_116_90, s_116_91, s_116_93, s_116_95, s_116_98, s_116_101, s_116_102, s_116_105, s_116_108, s_116_109, s_116_112, s_116_115, x_get_i, List.getElem?_cons_succ, List.getElem?_cons_zero, x_cv_j, cs_n, cs_i, cs_r, cs_l, Nat.reduceAdd, Nat.reduceLeDiff, true_and, Option.toList_some, Option.toList_none, List.cons_append, List.nil_append, if_true, if_false, nb0, nb1, x_setJ, x_setZ0, x_setZ1, x_setA, x_setO, List.length_cons, List.length_nil, Nat.reduceLT, List.set_cons_succ, List.set_cons_zero, wrl_0, wrl_1, wrl_2, wrl_3, wrl_4, wrl_5, wrl_p0, wrl_p1, wrl_p2, wrl_p3, wrl_p4, oW, tcp_0]
      rw [m_fill n12 tcp_2]
      simp only [s_116_0, s_116_1, s_116_4, s_116_5, s_116_6, s_116_9, s_116_10, s_116_12, s_116_15, s_116_16, s_116_17, s_116_18, s_116_19, s_116_22, s_116_23, s_116_26, s_116_29, s_116_30, s_116_33, s_116_35, s_116_36, s_116_37, s_116_40, s_116_42, s_116_43, s_116_44, s_116_48, s_116_49, s_116_52, s_116_55, s_116_58, s_116_60, s_116_61, s_116_64, s_116_65, s_116_66, s_116_68, s_116_70, s_116_71, s_116_72, s_116_75, s_116_78, s_116_79, s_116_81, s_116_82, s_116_85, s_116_88, s_116_90, s_116_91, s_116_93, s_116_95, s_116_98, s_116_101, s_116_102, s_116_105, s_116_108, s_116_109, s_116_112, s_116_115, x_get_i, List.getElem?_cons_succ, List.getElem?_cons_zero, x_cv_j, cs_n, cs_i, cs_r, cs_l, Nat.reduceAdd, Nat.reduceLeDiff, true_and, Option.toList_some, Option.toList_none, List.cons_append, List.nil_append, if_true, if_false, nb0, nb1, x_setJ, x_setZ0, x_setZ1, x_setA, x_setO, List.length_cons, List.length_nil, Nat.reduceLT, List.set_cons_succ, List.set_cons_zero, wrl_0, wrl_1, wrl_2, wrl_3, wrl_4, wrl_5, wrl_p0, wrl_p1, wrl_p2, wrl_p3, wrl_p4, tcp_p2]
      have := h2 k0 k4 _ ((sW (fl W 0 12)).mono (by omega) (by omega)) (wW (fl W 0 12))
      exact this
    · by_cases k5 : nn < 0
      · simp only [k4, if_false, show ¬ 0 ≤ nn from Int32.not_le.mpr k5]
        exact h3 k0 k4 k5
      · simp only [k4, if_false, show 0 ≤ nn from Int32.not_lt.mp k5, if_true]
        have loop : ∀ (j i : Nat) (x6 : Value), i + j = n → tm_X (g_G sa sc xt) (d + 2) 116 46 [.ref b, .int k, .int nn, .int f, .int st, .int (nI i), x6] [] (tcp h (b + 5) L (shW k nn f st W i) M B (nI n) s g a b') Q := by
          intro j
          induction j with
          | zero =>
            intro i x6 hi
            have hi : i = n := by omega
            subst hi
            rw [s_116_46]
            simp only [s_116_0, s_116_1, s_116_4, s_116_5, s_116_6, s_116_9, s_116_10, s_116_12, s_116_15, s_116_16, s_116_17, s_116_18, s_116_19, s_116_22, s_116_23, s_116_26, s_116_29, s_116_30, s_116_33, s_116_35, s_116_36, s_116_37, s_116_40, s_116_42, s_116_43, s_116_44, s_116_48, s_116_49, s_116_52, s_116_55, s_116_58, s_116_60, s_116_61, s_116_64, s_116_65, s_116_66, s_116_68, s_116_70, s_116_71, s_116_72, s_116_75, s_116_78, s_116_79, s_116_81, s_116_82, s_116_85, s_116_88, s_116_90, s_116_91, s_116_93, s_116_95, s_116_98, s_116_101, s_116_102, s_116_105, s_116_108, s_116_109, s_116_112, s_116_115, x_get_i, List.getElem?_cons_succ, List.getElem?_cons_zero, x_cv_j, cs_n, cs_i, cs_r, cs_l, Nat.reduceAdd, Nat.reduceLeDiff, true_and, Option.toList_some, Option.toList_none, List.cons_append, List.nil_append, if_true, if_false, nb0, nb1, x_setJ, x_setZ0, x_setZ1, x_setA, x_setO, List.length_cons, List.length_nil, Nat.reduceLT, List.set_cons_succ, List.set_cons_zero, wrl_0, wrl_1, wrl_2, wrl_3, wrl_4, wrl_5, wrl_p0, wrl_p1, wrl_p2, wrl_p3, wrl_p4, oW, tcp_0, Int32.le_refl, tc_wearOfAll tcp_at hn]
            exact h4 k0 k4 k5 _ ((sW _).mono (by omega) (by omega)) (wW _)
          | succ j ih =>
            intro i x6 hi
            have es : shW k nn f st W (i + 1) = upd (shW k nn f st W i) i (cl9 (if nn ≤ nI i then 0 else ent k (f + nI i * st))) := rfl
            have ih := fun x => ih (i + 1) x (by omega)
            rw [es] at ih
            rw [s_116_46]
            simp only [s_116_0, s_116_1, s_116_4, s_116_5, s_116_6, s_116_9, s_116_10, s_116_12, s_116_15, s_116_16, s_116_17, s_116_18, s_116_19, s_116_22, s_116_23, s_116_26, s_116_29, s_116_30, s_116_33, s_116_35, s_116_36, s_116_37, s_116_40, s_116_42, s_116_43, s_116_44, s_116_48, s_116_49, s_116_52, s_116_55, s_116_58, s_116_60, s_116_61, s_116_64, s_116_65, s_116_66, s_116_68, s_116_70, s_116_71, s_116_72, s_116_75, s_116_78, s_116_79, s_116_81, s_116_82, s_116_85, s_116_88, s_116_90, s_116_91, s_116_93, s_116_95, s_116_98, s_116_101, s_116_102, s_116_105, s_116_108, s_116_109, s_116_112, s_116_115, x_get_i, List.getElem?_cons_succ, List.getElem?_cons_zero, x_cv_j, cs_n, cs_i, cs_r, cs_l, Nat.reduceAdd, Nat.reduceLeDiff, true_and, Option.toList_some, Option.toList_none, List.cons_append, List.nil_append, if_true, if_false, nb0, nb1, x_setJ, x_setZ0, x_setZ1, x_setA, x_setO, List.length_cons, List.length_nil, Nat.reduceLT, List.set_cons_succ, List.set_cons_zero, wrl_0, wrl_1, wrl_2, wrl_3, wrl_4, wrl_5, wrl_p0, wrl_p1, wrl_p2, wrl_p3, wrl_p4, oW, tcp_0, tcp_2, show ¬ nI n ≤ nI i from nI_ge (by omega) (by omega), c_entry, x_ist_n (show i < 12 by omega) n12, tcp_p2, nI_1]
            by_cases k6 : nn ≤ nI i
            · simp only [k6, if_true] at ih ⊢
              exact ih _
            · simp only [k6, if_false] at ih ⊢
              exact ih _
        have := loop n 0 tm_z (by omega)
        rw [s_116_46] at this
        have e0 : shW k nn f st W 0 = W := rfl
        rw [e0, ← e] at this
        rw [s_116_46]
        exact this
  · simp only [k1, k2, k3, if_false]
    exact h1 (Or.inr (Or.inr (Int32.not_le.mp k3)))
end
