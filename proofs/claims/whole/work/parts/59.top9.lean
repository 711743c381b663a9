/-! calls of the class: later, settles, round, gravest, rubs -/
theorem n100 : 100 < 2 ^ 31 := by decide
/-- does a mood change in the next night -/
def nCh (cd : List Int32) (mem : Int32) (X : TN) : Bool := nC (fun E => evv E cd) X.1 X.2.1 X.2.2.1 (be (tc_dB X.2.2.2.2.2.1 X.1 X.2.1 X.2.2.2.1 X.2.2.2.2.1)) X.2.2.2.2.1 X.2.2.2.2.2.2 mem X.2.2.2.2.1
theorem ngs_s {V : (Nat → Int32) → Int32} {L W : Nat → Int32} {n : Nat} {mem : Int32} : ∀ {m : Nat} {X : NX}, ngs V L W n mem (m + 1) X = ngt V L W n mem (ngs V L W n mem m X)
  | 0, X => rfl
  | m + 1, X => by
    show ngs V L W n mem (m + 1) (ngt V L W n mem X) = _
    rw [ngs_s]
    rfl
theorem nXT_s {cd : List Int32} {mem : Int32} {m : Nat} {X : TN} : nXT cd mem 1 (nXT cd mem m X) = nXT cd mem (m + 1) X := by
  have hE : ngs (fun E => evv E cd) X.1 X.2.1 X.2.2.2.2.1 mem (m + 1) (X.2.2.1, X.2.2.2.1, X.2.2.2.2.2.1, X.2.2.2.2.2.2) = ngt (fun E => evv E cd) X.1 X.2.1 X.2.2.2.2.1 mem (ngs (fun E => evv E cd) X.1 X.2.1 X.2.2.2.2.1 mem m (X.2.2.1, X.2.2.2.1, X.2.2.2.2.2.1, X.2.2.2.2.2.2)) := ngs_s
  have h1 : nXT cd mem (m + 1) X = (X.1, X.2.1, (ngt (fun E => evv E cd) X.1 X.2.1 X.2.2.2.2.1 mem (ngs (fun E => evv E cd) X.1 X.2.1 X.2.2.2.2.1 mem m (X.2.2.1, X.2.2.2.1, X.2.2.2.2.2.1, X.2.2.2.2.2.2))).1, (ngt (fun E => evv E cd) X.1 X.2.1 X.2.2.2.2.1 mem (ngs (fun E => evv E cd) X.1 X.2.1 X.2.2.2.2.1 mem m (X.2.2.1, X.2.2.2.1, X.2.2.2.2.2.1, X.2.2.2.2.2.2))).2.1, X.2.2.2.2.1, (ngt (fun E => evv E cd) X.1 X.2.1 X.2.2.2.2.1 mem (ngs (fun E => evv E cd) X.1 X.2.1 X.2.2.2.2.1 mem m (X.2.2.1, X.2.2.2.1, X.2.2.2.2.2.1, X.2.2.2.2.2.2))).2.2.1, (ngt (fun E => evv E cd) X.1 X.2.1 X.2.2.2.2.1 mem (ngs (fun E => evv E cd) X.1 X.2.1 X.2.2.2.2.1 mem m (X.2.2.1, X.2.2.2.1, X.2.2.2.2.2.1, X.2.2.2.2.2.2))).2.2.2) := by
    unfold nXT
    rw [hE]
  rw [h1]
  rfl
def stl (ch : Nat → Bool) : Nat → Nat → Nat → Option Nat
  | 0, _, _ => none
  | j + 1, i, k => if ch i then stl ch j (i + 1) 0 else if k = 2 then some (i + 1) else stl ch j (i + 1) (k + 1)
/-- the first of night - 7, night - 14 .. with like moods -/
def rin (pk : Nat → Int64) (e i : Nat) : Nat → Nat → Option Nat
  | 0, _ => none
  | j + 1, k => if i < 7 * k + e then none else if pk (i - 7 * k) = pk i then some (i - 7 * k) else rin pk e i j (k + 1)
def rnd (pk : Nat → Int64) (e : Nat) : Nat → Nat → Option (Nat × Nat)
  | 0, _ => none
  | j + 1, i => match rin pk e i 16 1 with
    | some f => some (i, f)
    | none => rnd pk e j (i + 1)
def grv (M : Nat → Int32) : Nat → Nat := fo (fun i b => if iabs (M (i + 1)) ≤ iabs (M b) then b else i + 1) 0
theorem grv_le {M : Nat → Int32} : ∀ i, grv M i ≤ i
  | 0 => Nat.le_refl _
  | i + 1 => by
    have := grv_le (M := M) i
    have es : grv M (i + 1) = if iabs (M (i + 1)) ≤ iabs (M (grv M i)) then grv M i else i + 1 := rfl
    rw [es]
    split <;> omega
theorem lg_cmp0 {x y : Int64} : lg_cmp x y = 0 ↔ x = y := by
  unfold lg_cmp
  by_cases h2 : x = y
  · subst h2
    rw [if_neg Int64.lt_irrefl, if_pos rfl]
    exact ⟨fun _ => rfl, fun _ => rfl⟩
  · constructor
    · intro e
      split at e
      · exact absurd e (by decide)
      · exact absurd e (by decide)
    · exact fun e => absurd e h2
section
variable {sa : g_SA} {sc : Nat × Nat × (Nat → Int32)} {xt : Nat → Nat → List Value → tm_H → Option (Option Value × tm_H)} {d b : Nat} {h : tm_H} {Q : Option Value → tm_H → Prop}
variable {tx : Nat × (Nat → Int32)} {rw : Nat × (Nat → Int64)} {nw : TN} {pa : Nat × Nat × (Nat → TN) × (Nat → TN) × (Nat → Int32)} {ru : Nat × Nat × List Int32} {he : Nat × (Nat → Int32)} {mi : Nat × (Nat → Int32) × (Nat → Int32) × (Nat → Int32)} {ga : Nat}
variable {c n m : Nat} {F L W M B H Ms Bs Os : Nat → Int32} {s g : Int32} {rc hc mc : Nat} {R : Nat → Int64}
theorem c_nightH {X : TN} {mem : Int32} (hW : CW sa h b tx rw nw pa ru he mi ga) (hT : tca h (b + 12) (tcT X)) (hwf : WFT X) (hQ : ∀ h', sm b (b + 162) h h' → CW sa h' b tx rw nw pa ru he mi ga → tca h' (b + 12) (tcT (nXT ru.2.2 mem 1 X)) → (∀ q, b + 161 ≤ q → h'.2.2 q = h.2.2 q) → Q (some (.int (bI (nCh ru.2.2 mem X)))) h') : tm_D (g_G sa sc xt) (d + 2) 101 [.ref (b + 12), .ref ru.1, .int mem] h Q := by
  obtain ⟨w_o, w_t, w_r, w_n, w_h, w_l, w_b, w_p, w_u, w_v, w_a, w_e, w_w, w_x, w_q, w_m, w_g, w_d, w_s⟩ := id hW
  obtain ⟨a, b', e⟩ := tcp_eta hT
  rw [e]
  have hB := BX_dB (s := X.2.2.2.2.2.1) (W := X.2.1) hwf.2.1 hwf.2.2 X.2.2.2.2.1 (Nat.le_refl _)
  refine tc_night hwf.1 (fun i hi => BX_be hB hi) w_u evv_7 (by omega) (fun h1 a b' q1 q2 => ?_)
  have s1 := rsm_sm q1
  have hW1 := CW_u hW s1 q2
  have s2 : sm (b + 12) (b + 19) h1 (tcp h1 (b + 12) (nXT ru.2.2 mem 1 X).1 (nXT ru.2.2 mem 1 X).2.1 (nXT ru.2.2 mem 1 X).2.2.1 (nXT ru.2.2 mem 1 X).2.2.2.1 (nI X.2.2.2.2.1) (nXT ru.2.2 mem 1 X).2.2.2.2.2.1 (nXT ru.2.2 mem 1 X).2.2.2.2.2.2 a b') := sm_tcp (Nat.le_refl _) (Nat.le_refl _)
  exact hQ _ ((s1.mono (by omega) (by omega)).trans (s2.mono (by omega) (by omega))) (CW_h hW1 s2 ⟨tcT (nXT ru.2.2 mem 1 X), tcp_at⟩) tcp_at (fun q hq => (s2.2.2 q (by omega)).trans (s1.2.2 q (by omega)))
theorem c_later (hW : CW sa h b tx (rc, R) nw pa ru he mi ga) (v w : Int32) (h1 : (¬ (∃ j, j < nw.2.2.2.2.1 ∧ v = nI j) ∨ w < 0 ∨ 99 < w) → Q (some (.int (-1))) h) (h2 : ∀ j m h', j < nw.2.2.2.2.1 → v = nI j → m ≤ 99 → w = nI m → sm b (b + 162) h h' → CW sa h' b tx (rw2 R ((nXT ru.2.2 (tc_allv (nI nw.2.2.2.2.1)) m nw).2.2.2.1 j).toInt64 (200 + tc_mo (nXT ru.2.2 (tc_allv (nI nw.2.2.2.2.1)) m nw).2.2.1 (tc_allv (nI nw.2.2.2.2.1)) nw.2.2.2.2.1).toInt64) nw pa ru he mi ga → Q (some (.int (10 + (nXT ru.2.2 (tc_allv (nI nw.2.2.2.2.1)) m nw).2.2.1 j))) h') : tm_D (g_G sa sc xt) (d + 4) 130 [.ref b, .int v, .int w] h Q := by
  obtain ⟨w_o, w_t, w_r, w_n, w_h, w_l, w_b, w_p, w_u, w_v, w_a, w_e, w_w, w_x, w_q, w_m, w_g, w_d, w_s⟩ := id hW
  have o_0 := hW.1
  have a_0 : h.2.2 (b + 1) = .inr (8, _) := hW.2.1.1.1
  have c_0 : h.2.2 (b + 3) = .inr (5, _) := cel_0 hW.2.2.1.1
  have n_0 : h.2.2 (b + 5) = .inr (9, _) := hW.2.2.2.1.1.1
  have p_0 : h.2.2 (b + 33) = .inr (6, _) := hW.2.2.2.2.2.2.2.1.1.1
  have q_0 : h.2.2 (b + 152) = .inr (2, _) := cel_0 hW.2.2.2.2.2.2.2.2.2.2.2.2.2.2.1.1
  obtain ⟨_, mm_0⟩ := hW.2.2.2.2.2.2.2.2.2.2.2.2.2.2.2.1.1
  have m_0 : h.2.2 (b + 154) = .inr (4, _) := cel_0 mm_0
  have g_0 : h.2.2 (b + 159) = .inr (1, _) := cel_0 hW.2.2.2.2.2.2.2.2.2.2.2.2.2.2.2.2.1.1
  have hT : tc_at h (b + 5) nw.1 nw.2.1 nw.2.2.1 nw.2.2.2.1 (nI nw.2.2.2.2.1) nw.2.2.2.2.2.1 nw.2.2.2.2.2.2 := w_n.1
  have hn : nw.2.2.2.2.1 ≤ 12 := w_n.2.1
  obtain ⟨Th, hTh⟩ := w_h
  have x0 : h.2.2 (b + 12) = .inr (9, _) := hTh.1
  rw [e_130]
  simp only [s_130_0, s_130_1, s_130_4, s_130_5, s_130_8, s_130_11, s_130_12, s_130_15, s_130_16, s_130_18, s_130_21, s_130_22, s_130_23, s_130_24, s_130_27, s_130_28, s_130_31, s_130_34, s_130_35, s_130_38, s_130_39, s_130_42, s_130_43, s_130_44, s_130_47, s_130_50, s_130_53, s_130_54, s_130_57, s_130_58, s_130_61, s_130_64, s_130_65, s_130_66, s_130_67, s_130_70, s_130_71, s_130_74, s_130_77, s_130_78, s_130_79, s_130_82, s_130_84, s_130_85, s_130_88, s_130_91, s_130_92, s_130_93, s_130_94, x_get_i, List.getElem?_cons_succ, List.getElem?_cons_zero, x_cv_j, cs_n, cs_i, cs_r, cs_l, Nat.reduceAdd, Nat.reduceLeDiff, true_and, Option.toList_some, Option.toList_none, List.cons_append, List.nil_append, if_true, if_false, nb0, nb1, x_setJ, x_setZ0, x_setZ1, x_setA, x_setO, List.length_cons, List.length_nil, Nat.reduceLT, List.set_cons_succ, List.set_cons_zero, wrl_0, wrl_1, wrl_2, wrl_3, wrl_4, wrl_5, wrl_p0, wrl_p1, wrl_p2, wrl_p3, wrl_p4, o_0, a_0, c_0, n_0, p_0, q_0, m_0, g_0, x0, tc_has hT]
  by_cases hv : ∃ j, j < nw.2.2.2.2.1 ∧ v = nI j
  · simp only [(tc_hasI hn).mpr hv, show ¬ (1 : Int32) = 0 by decide, if_false]
    by_cases k1 : w < 0
    · simp only [k1, if_true]
      exact h1 (Or.inr (Or.inl k1))
    by_cases k2 : w ≤ 99
    · simp only [k1, k2, if_true, if_false]
      obtain ⟨j, hj, ej⟩ := hv
      obtain ⟨m, hm, em⟩ := nI_of2 (n := 99) (by decide) k1 k2
      subst ej
      subst em
      have j12 : j < 12 := by omega
      refine c_copyH hW (fun ha sA hWa tA => ?_)
      have o_a := hWa.1
      have x1 : ha.2.2 (b + 12) = .inr (9, _) := tA.1
      have hTa : tc_at ha (b + 12) nw.1 nw.2.1 nw.2.2.1 nw.2.2.2.1 (nI nw.2.2.2.2.1) nw.2.2.2.2.2.1 nw.2.2.2.2.2.2 := tA
      simp only [s_130_0, s_130_1, s_130_4, s_130_5, s_130_8, s_130_11, s_130_12, s_130_15, s_130_16, s_130_18, s_130_21, s_130_22, s_130_23, s_130_24, s_130_27, s_130_28, s_130_31, s_130_34, s_130_35, s_130_38, s_130_39, s_130_42, s_130_43, s_130_44, s_130_47, s_130_50, s_130_53, s_130_54, s_130_57, s_130_58, s_130_61, s_130_64, s_130_65, s_130_66, s_130_67, s_130_70, s_130_71, s_130_74, s_130_77, s_130_78, s_130_79, s_130_82, s_130_84, s_130_85, s_130_88, s_130_91, s_130_92, s_130_93, s_130_94, x_get_i, List.getElem?_cons_succ, List.getElem?_cons_zero, x_cv_j, cs_n, cs_i, cs_r, cs_l, Nat.reduceAdd, Nat.reduceLeDiff, true_and, Option.toList_some, Option.toList_none, List.cons_append, List.nil_append, if_true, if_false, nb0, nb1, x_setJ, x_setZ0, x_setZ1, x_setA, x_setO, List.length_cons, List.length_nil, Nat.reduceLT, List.set_cons_succ, List.set_cons_zero, wrl_0, wrl_1, wrl_2, wrl_3, wrl_4, wrl_5, wrl_p0, wrl_p1, wrl_p2, wrl_p3, wrl_p4, o_a, x1, tc_all hTa]
      refine c_nightsH (by omega) hWa tA w_n.2 (fun hb sB hWb tB => ?_)
      have o_b := hWb.1
      have a_b : hb.2.2 (b + 1) = .inr (8, _) := hWb.2.1.1.1
      have c_b : hb.2.2 (b + 3) = .inr (5, _) := cel_0 hWb.2.2.1.1
      have n_b : hb.2.2 (b + 5) = .inr (9, _) := hWb.2.2.2.1.1.1
      have p_b : hb.2.2 (b + 33) = .inr (6, _) := hWb.2.2.2.2.2.2.2.1.1.1
      have q_b : hb.2.2 (b + 152) = .inr (2, _) := cel_0 hWb.2.2.2.2.2.2.2.2.2.2.2.2.2.2.1.1
      obtain ⟨_, mm_b⟩ := hWb.2.2.2.2.2.2.2.2.2.2.2.2.2.2.2.1.1
      have m_b : hb.2.2 (b + 154) = .inr (4, _) := cel_0 mm_b
      have g_b : hb.2.2 (b + 159) = .inr (1, _) := cel_0 hWb.2.2.2.2.2.2.2.2.2.2.2.2.2.2.2.2.1.1
      have hTb : tc_at hb (b + 12) nw.1 nw.2.1 (nXT ru.2.2 (tc_allv (nI nw.2.2.2.2.1)) m nw).2.2.1 (nXT ru.2.2 (tc_allv (nI nw.2.2.2.2.1)) m nw).2.2.2.1 (nI nw.2.2.2.2.1) (nXT ru.2.2 (tc_allv (nI nw.2.2.2.2.1)) m nw).2.2.2.2.2.1 (nXT ru.2.2 (tc_allv (nI nw.2.2.2.2.1)) m nw).2.2.2.2.2.2 := tB
      obtain ⟨y0, y1, y2, y3, y4, -, -⟩ := id hTb
      simp only [s_130_0, s_130_1, s_130_4, s_130_5, s_130_8, s_130_11, s_130_12, s_130_15, s_130_16, s_130_18, s_130_21, s_130_22, s_130_23, s_130_24, s_130_27, s_130_28, s_130_31, s_130_34, s_130_35, s_130_38, s_130_39, s_130_42, s_130_43, s_130_44, s_130_47, s_130_50, s_130_53, s_130_54, s_130_57, s_130_58, s_130_61, s_130_64, s_130_65, s_130_66, s_130_67, s_130_70, s_130_71, s_130_74, s_130_77, s_130_78, s_130_79, s_130_82, s_130_84, s_130_85, s_130_88, s_130_91, s_130_92, s_130_93, s_130_94, x_get_i, List.getElem?_cons_succ, List.getElem?_cons_zero, x_cv_j, cs_n, cs_i, cs_r, cs_l, Nat.reduceAdd, Nat.reduceLeDiff, true_and, Option.toList_some, Option.toList_none, List.cons_append, List.nil_append, if_true, if_false, nb0, nb1, x_setJ, x_setZ0, x_setZ1, x_setA, x_setO, List.length_cons, List.length_nil, Nat.reduceLT, List.set_cons_succ, List.set_cons_zero, wrl_0, wrl_1, wrl_2, wrl_3, wrl_4, wrl_5, wrl_p0, wrl_p1, wrl_p2, wrl_p3, wrl_p4, o_b, a_b, c_b, n_b, p_b, q_b, m_b, g_b, y0, y3, y4, x_ild_n j12 n12, tc_moodsOfAll hTb hn]
      refine c_tell2 hWb _ _ (fun hd sD hWd => ?_)
      have o_d := hWd.1
      have hTd := tc_at_same (fun q h1 h2 => sD.2.2 q (by omega)) hTb
      obtain ⟨y0, y1, y2, y3, y4, -, -⟩ := id hTd
      simp only [s_130_0, s_130_1, s_130_4, s_130_5, s_130_8, s_130_11, s_130_12, s_130_15, s_130_16, s_130_18, s_130_21, s_130_22, s_130_23, s_130_24, s_130_27, s_130_28, s_130_31, s_130_34, s_130_35, s_130_38, s_130_39, s_130_42, s_130_43, s_130_44, s_130_47, s_130_50, s_130_53, s_130_54, s_130_57, s_130_58, s_130_61, s_130_64, s_130_65, s_130_66, s_130_67, s_130_70, s_130_71, s_130_74, s_130_77, s_130_78, s_130_79, s_130_82, s_130_84, s_130_85, s_130_88, s_130_91, s_130_92, s_130_93, s_130_94, x_get_i, List.getElem?_cons_succ, List.getElem?_cons_zero, x_cv_j, cs_n, cs_i, cs_r, cs_l, Nat.reduceAdd, Nat.reduceLeDiff, true_and, Option.toList_some, Option.toList_none, List.cons_append, List.nil_append, if_true, if_false, nb0, nb1, x_setJ, x_setZ0, x_setZ1, x_setA, x_setO, List.length_cons, List.length_nil, Nat.reduceLT, List.set_cons_succ, List.set_cons_zero, wrl_0, wrl_1, wrl_2, wrl_3, wrl_4, wrl_5, wrl_p0, wrl_p1, wrl_p2, wrl_p3, wrl_p4, o_d, y0, y3, x_ild_n j12 n12]
      exact h2 j m hd hj rfl hm rfl ((sA.mono (by omega) (by omega)).trans (sB.trans (sD.mono (by omega) (by omega)))) hWd
    · simp only [k1, k2, if_false]
      exact h1 (Or.inr (Or.inr (Int32.not_le.mp k2)))
  · simp only [hasI0 hn hv, if_true]
    exact h1 (Or.inl hv)
theorem c_settles (hW : CW sa h b tx (rc, R) nw pa ru he mi ga) (h1 : stl (fun i => nCh ru.2.2 (tc_allv (nI nw.2.2.2.2.1)) (nXT ru.2.2 (tc_allv (nI nw.2.2.2.2.1)) i nw)) 99 0 0 = none → ∀ h', sm b (b + 162) h h' → CW sa h' b tx (rc, R) nw pa ru he mi ga → Q (some (.int (-2))) h') (h2 : ∀ i h', stl (fun i => nCh ru.2.2 (tc_allv (nI nw.2.2.2.2.1)) (nXT ru.2.2 (tc_allv (nI nw.2.2.2.2.1)) i nw)) 99 0 0 = some i → sm b (b + 162) h h' → CW sa h' b tx (rw1 R (200 + tc_mo (nXT ru.2.2 (tc_allv (nI nw.2.2.2.2.1)) i nw).2.2.1 (tc_allv (nI nw.2.2.2.2.1)) nw.2.2.2.2.1).toInt64) nw pa ru he mi ga → Q (some (.int (nI i - 3))) h') : tm_D (g_G sa sc xt) (d + 4) 131 [.ref b] h Q := by
  obtain ⟨w_o, w_t, w_r, w_n, w_h, w_l, w_b, w_p, w_u, w_v, w_a, w_e, w_w, w_x, w_q, w_m, w_g, w_d, w_s⟩ := id hW
  have o_0 := hW.1
  have a_0 : h.2.2 (b + 1) = .inr (8, _) := hW.2.1.1.1
  have c_0 : h.2.2 (b + 3) = .inr (5, _) := cel_0 hW.2.2.1.1
  have n_0 : h.2.2 (b + 5) = .inr (9, _) := hW.2.2.2.1.1.1
  have p_0 : h.2.2 (b + 33) = .inr (6, _) := hW.2.2.2.2.2.2.2.1.1.1
  have q_0 : h.2.2 (b + 152) = .inr (2, _) := cel_0 hW.2.2.2.2.2.2.2.2.2.2.2.2.2.2.1.1
  obtain ⟨_, mm_0⟩ := hW.2.2.2.2.2.2.2.2.2.2.2.2.2.2.2.1.1
  have m_0 : h.2.2 (b + 154) = .inr (4, _) := cel_0 mm_0
  have g_0 : h.2.2 (b + 159) = .inr (1, _) := cel_0 hW.2.2.2.2.2.2.2.2.2.2.2.2.2.2.2.2.1.1
  have hn : nw.2.2.2.2.1 ≤ 12 := w_n.2.1
  obtain ⟨Th, hTh⟩ := w_h
  have x0 : h.2.2 (b + 12) = .inr (9, _) := hTh.1
  rw [e_131]
  simp only [s_131_0, s_131_1, s_131_4, s_131_5, s_131_8, s_131_11, s_131_12, s_131_13, s_131_14, s_131_16, s_131_18, s_131_21, s_131_22, s_131_25, s_131_26, s_131_29, s_131_30, s_131_33, s_131_36, s_131_39, s_131_42, s_131_43, s_131_46, s_131_47, s_131_48, s_131_49, s_131_50, s_131_51, s_131_52, s_131_55, s_131_56, s_131_59, s_131_62, s_131_63, s_131_66, s_131_69, s_131_70, s_131_71, s_131_74, s_131_75, s_131_76, s_131_77, s_131_78, s_131_81, s_131_84, s_131_86, x_get_i, List.getElem?_cons_succ, List.getElem?_cons_zero, x_cv_j, cs_n, cs_i, cs_r, cs_l, Nat.reduceAdd, Nat.reduceLeDiff, true_and, Option.toList_some, Option.toList_none, List.cons_append, List.nil_append, if_true, if_false, nb0, nb1, x_setJ, x_setZ0, x_setZ1, x_setA, x_setO, List.length_cons, List.length_nil, Nat.reduceLT, List.set_cons_succ, List.set_cons_zero, wrl_0, wrl_1, wrl_2, wrl_3, wrl_4, wrl_5, wrl_p0, wrl_p1, wrl_p2, wrl_p3, wrl_p4, o_0, a_0, c_0, n_0, p_0, q_0, m_0, g_0, x0]
  refine c_copyH hW (fun ha sA hWa tA => ?_)
  have loop : ∀ (j i k : Nat) (hz : tm_H), i + j = 99 → k ≤ 2 → sm b (b + 162) h hz → CW sa hz b tx (rc, R) nw pa ru he mi ga → tca hz (b + 12) (tcT (nXT ru.2.2 (tc_allv (nI nw.2.2.2.2.1)) i nw)) → (stl (fun i => nCh ru.2.2 (tc_allv (nI nw.2.2.2.2.1)) (nXT ru.2.2 (tc_allv (nI nw.2.2.2.2.1)) i nw)) j i k = stl (fun i => nCh ru.2.2 (tc_allv (nI nw.2.2.2.2.1)) (nXT ru.2.2 (tc_allv (nI nw.2.2.2.2.1)) i nw)) 99 0 0) → tm_X (g_G sa sc xt) (d + 4) 131 15 [.ref b, .int (nI k), .int (nI (i + 1))] [] hz Q := by
    intro j
    induction j with
    | zero =>
      intro i k hz hi hk sz hWz tz es
      have hi : i = 99 := by omega
      subst hi
      rw [s_131_15]
      simp only [s_131_0, s_131_1, s_131_4, s_131_5, s_131_8, s_131_11, s_131_12, s_131_13, s_131_14, s_131_16, s_131_18, s_131_21, s_131_22, s_131_25, s_131_26, s_131_29, s_131_30, s_131_33, s_131_36, s_131_39, s_131_42, s_131_43, s_131_46, s_131_47, s_131_48, s_131_49, s_131_50, s_131_51, s_131_52, s_131_55, s_131_56, s_131_59, s_131_62, s_131_63, s_131_66, s_131_69, s_131_70, s_131_71, s_131_74, s_131_75, s_131_76, s_131_77, s_131_78, s_131_81, s_131_84, s_131_86, x_get_i, List.getElem?_cons_succ, List.getElem?_cons_zero, x_cv_j, cs_n, cs_i, cs_r, cs_l, Nat.reduceAdd, Nat.reduceLeDiff, true_and, Option.toList_some, Option.toList_none, List.cons_append, List.nil_append, if_true, if_false, nb0, nb1, x_setJ, x_setZ0, x_setZ1, x_setA, x_setO, List.length_cons, List.length_nil, Nat.reduceLT, List.set_cons_succ, List.set_cons_zero, wrl_0, wrl_1, wrl_2, wrl_3, wrl_4, wrl_5, wrl_p0, wrl_p1, wrl_p2, wrl_p3, wrl_p4, show (99 : Int32) < nI (99 + 1) by decide]
      exact h1 es.symm hz sz hWz
    | succ j ih =>
      intro i k hz hi hk sz hWz tz es
      have o_z := hWz.1
      have y0 : hz.2.2 (b + 12) = .inr (9, _) := tz.1
      have hTz : tc_at hz (b + 12) nw.1 nw.2.1 (nXT ru.2.2 (tc_allv (nI nw.2.2.2.2.1)) i nw).2.2.1 (nXT ru.2.2 (tc_allv (nI nw.2.2.2.2.1)) i nw).2.2.2.1 (nI nw.2.2.2.2.1) (nXT ru.2.2 (tc_allv (nI nw.2.2.2.2.1)) i nw).2.2.2.2.2.1 (nXT ru.2.2 (tc_allv (nI nw.2.2.2.2.1)) i nw).2.2.2.2.2.2 := tz
      rw [s_131_15]
      simp only [s_131_0, s_131_1, s_131_4, s_131_5, s_131_8, s_131_11, s_131_12, s_131_13, s_131_14, s_131_16, s_131_18, s_131_21, s_131_22, s_131_25, s_131_26, s_131_29, s_131_30, s_131_33, s_131_36, s_131_39, s_131_42, s_131_43, s_131_46, s_131_47, s_131_48, s_131_49, s_131_50, s_131_51, s_131_52, s_131_55, s_131_56, s_131_59, s_131_62, s_131_63, s_131_66, s_131_69, s_131_70, s_131_71, s_131_74, s_131_75, s_131_76, s_131_77, s_131_78, s_131_81, s_131_84, s_131_86, x_get_i, List.getElem?_cons_succ, List.getElem?_cons_zero, x_cv_j, cs_n, cs_i, cs_r, cs_l, Nat.reduceAdd, Nat.reduceLeDiff, true_and, Option.toList_some, Option.toList_none, List.cons_append, List.nil_append, if_true, if_false, nb0, nb1, x_setJ, x_setZ0, x_setZ1, x_setA, x_setO, List.length_cons, List.length_nil, Nat.reduceLT, List.set_cons_succ, List.set_cons_zero, wrl_0, wrl_1, wrl_2, wrl_3, wrl_4, wrl_5, wrl_p0, wrl_p1, wrl_p2, wrl_p3, wrl_p4, show ¬ (99 : Int32) < nI (i + 1) from nI_nlt (a := 99) (by omega) (by decide), o_z, y0, tc_all hTz]
      refine c_nightH hWz tz (WFT_nXT w_n.2) (fun hy sy hWy ty _ => ?_)
      rw [nXT_s] at ty
      have o_y := hWy.1
      have a_y : hy.2.2 (b + 1) = .inr (8, _) := hWy.2.1.1.1
      have c_y : hy.2.2 (b + 3) = .inr (5, _) := cel_0 hWy.2.2.1.1
      have n_y : hy.2.2 (b + 5) = .inr (9, _) := hWy.2.2.2.1.1.1
      have p_y : hy.2.2 (b + 33) = .inr (6, _) := hWy.2.2.2.2.2.2.2.1.1.1
      have q_y : hy.2.2 (b + 152) = .inr (2, _) := cel_0 hWy.2.2.2.2.2.2.2.2.2.2.2.2.2.2.1.1
      obtain ⟨_, mm_y⟩ := hWy.2.2.2.2.2.2.2.2.2.2.2.2.2.2.2.1.1
      have m_y : hy.2.2 (b + 154) = .inr (4, _) := cel_0 mm_y
      have g_y : hy.2.2 (b + 159) = .inr (1, _) := cel_0 hWy.2.2.2.2.2.2.2.2.2.2.2.2.2.2.2.2.1.1
      have y1 : hy.2.2 (b + 12) = .inr (9, _) := ty.1
      have hTy : tc_at hy (b + 12) nw.1 nw.2.1 (nXT ru.2.2 (tc_allv (nI nw.2.2.2.2.1)) (i + 1) nw).2.2.1 (nXT ru.2.2 (tc_allv (nI nw.2.2.2.2.1)) (i + 1) nw).2.2.2.1 (nI nw.2.2.2.2.1) (nXT ru.2.2 (tc_allv (nI nw.2.2.2.2.1)) (i + 1) nw).2.2.2.2.2.1 (nXT ru.2.2 (tc_allv (nI nw.2.2.2.2.1)) (i + 1) nw).2.2.2.2.2.2 := ty
      unfold stl at es
      cases hch : nCh ru.2.2 (tc_allv (nI nw.2.2.2.2.1)) (nXT ru.2.2 (tc_allv (nI nw.2.2.2.2.1)) i nw) with
      | true =>
        rw [hch] at es
        simp only [if_true] at es
        simp only [s_131_0, s_131_1, s_131_4, s_131_5, s_131_8, s_131_11, s_131_12, s_131_13, s_131_14, s_131_16, s_131_18, s_131_21, s_131_22, s_131_25, s_131_26, s_131_29, s_131_30, s_131_33, s_131_36, s_131_39, s_131_42, s_131_43, s_131_46, s_131_47, s_131_48, s_131_49, s_131_50, s_131_51, s_131_52, s_131_55, s_131_56, s_131_59, s_131_62, s_131_63, s_131_66, s_131_69, s_131_70, s_131_71, s_131_74, s_131_75, s_131_76, s_131_77, s_131_78, s_131_81, s_131_84, s_131_86, x_get_i, List.getElem?_cons_succ, List.getElem?_cons_zero, x_cv_j, cs_n, cs_i, cs_r, cs_l, Nat.reduceAdd, Nat.reduceLeDiff, true_and, Option.toList_some, Option.toList_none, List.cons_append, List.nil_append, if_true, if_false, nb0, nb1, x_setJ, x_setZ0, x_setZ1, x_setA, x_setO, List.length_cons, List.length_nil, Nat.reduceLT, List.set_cons_succ, List.set_cons_zero, wrl_0, wrl_1, wrl_2, wrl_3, wrl_4, wrl_5, wrl_p0, wrl_p1, wrl_p2, wrl_p3, wrl_p4, show ¬ bI true = 0 by decide, show ¬ (0 : Int32) = 3 by decide, nI_1]
        exact ih (i + 1) 0 hy (by omega) (by decide) (sz.trans sy) hWy ty es
      | false =>
        rw [hch] at es
        simp only [Bool.false_eq_true, if_false] at es
        simp only [s_131_0, s_131_1, s_131_4, s_131_5, s_131_8, s_131_11, s_131_12, s_131_13, s_131_14, s_131_16, s_131_18, s_131_21, s_131_22, s_131_25, s_131_26, s_131_29, s_131_30, s_131_33, s_131_36, s_131_39, s_131_42, s_131_43, s_131_46, s_131_47, s_131_48, s_131_49, s_131_50, s_131_51, s_131_52, s_131_55, s_131_56, s_131_59, s_131_62, s_131_63, s_131_66, s_131_69, s_131_70, s_131_71, s_131_74, s_131_75, s_131_76, s_131_77, s_131_78, s_131_81, s_131_84, s_131_86, x_get_i, List.getElem?_cons_succ, List.getElem?_cons_zero, x_cv_j, cs_n, cs_i, cs_r, cs_l, Nat.reduceAdd, Nat.reduceLeDiff, true_and, Option.toList_some, Option.toList_none, List.cons_append, List.nil_append, if_true, if_false, nb0, nb1, x_setJ, x_setZ0, x_setZ1, x_setA, x_setO, List.length_cons, List.length_nil, Nat.reduceLT, List.set_cons_succ, List.set_cons_zero, wrl_0, wrl_1, wrl_2, wrl_3, wrl_4, wrl_5, wrl_p0, wrl_p1, wrl_p2, wrl_p3, wrl_p4, show bI false = 0 by decide, nI_1]
        by_cases k2 : k = 2
        · rw [if_pos k2] at es
          subst k2
          simp only [show nI (2 + 1) = 3 by decide, if_true, s_131_0, s_131_1, s_131_4, s_131_5, s_131_8, s_131_11, s_131_12, s_131_13, s_131_14, s_131_16, s_131_18, s_131_21, s_131_22, s_131_25, s_131_26, s_131_29, s_131_30, s_131_33, s_131_36, s_131_39, s_131_42, s_131_43, s_131_46, s_131_47, s_131_48, s_131_49, s_131_50, s_131_51, s_131_52, s_131_55, s_131_56, s_131_59, s_131_62, s_131_63, s_131_66, s_131_69, s_131_70, s_131_71, s_131_74, s_131_75, s_131_76, s_131_77, s_131_78, s_131_81, s_131_84, s_131_86, x_get_i, List.getElem?_cons_succ, List.getElem?_cons_zero, x_cv_j, cs_n, cs_i, cs_r, cs_l, Nat.reduceAdd, Nat.reduceLeDiff, true_and, Option.toList_some, Option.toList_none, List.cons_append, List.nil_append, if_true, if_false, nb0, nb1, x_setJ, x_setZ0, x_setZ1, x_setA, x_setO, List.length_cons, List.length_nil, Nat.reduceLT, List.set_cons_succ, List.set_cons_zero, wrl_0, wrl_1, wrl_2, wrl_3, wrl_4, wrl_5, wrl_p0, wrl_p1, wrl_p2, wrl_p3, wrl_p4, o_y, a_y, c_y, n_y, p_y, q_y, m_y, g_y, y1, tc_moodsOfAll hTy hn]
          refine c_tell1 hWy _ (fun hx sx hWx => ?_)
          simp only [s_131_0, s_131_1, s_131_4, s_131_5, s_131_8, s_131_11, s_131_12, s_131_13, s_131_14, s_131_16, s_131_18, s_131_21, s_131_22, s_131_25, s_131_26, s_131_29, s_131_30, s_131_33, s_131_36, s_131_39, s_131_42, s_131_43, s_131_46, s_131_47, s_131_48, s_131_49, s_131_50, s_131_51, s_131_52, s_131_55, s_131_56, s_131_59, s_131_62, s_131_63, s_131_66, s_131_69, s_131_70, s_131_71, s_131_74, s_131_75, s_131_76, s_131_77, s_131_78, s_131_81, s_131_84, s_131_86, x_get_i, List.getElem?_cons_succ, List.getElem?_cons_zero, x_cv_j, cs_n, cs_i, cs_r, cs_l, Nat.reduceAdd, Nat.reduceLeDiff, true_and, Option.toList_some, Option.toList_none, List.cons_append, List.nil_append, if_true, if_false, nb0, nb1, x_setJ, x_setZ0, x_setZ1, x_setA, x_setO, List.length_cons, List.length_nil, Nat.reduceLT, List.set_cons_succ, List.set_cons_zero, wrl_0, wrl_1, wrl_2, wrl_3, wrl_4, wrl_5, wrl_p0, wrl_p1, wrl_p2, wrl_p3, wrl_p4]
          exact h2 (i + 1) hx es.symm (sz.trans (sy.trans (sx.mono (by omega) (by omega)))) hWx
        · rw [if_neg k2] at es
          have k3 : ¬ nI (k + 1) = 3 := by
            rw [show (3 : Int32) = nI 3 from rfl, nI_eq (by omega) (by decide)]
            omega
          simp only [k3, if_false]
          exact ih (i + 1) (k + 1) hy (by omega) (by omega) (sz.trans sy) hWy ty es
  simp only [s_131_0, s_131_1, s_131_4, s_131_5, s_131_8, s_131_11, s_131_12, s_131_13, s_131_14, s_131_16, s_131_18, s_131_21, s_131_22, s_131_25, s_131_26, s_131_29, s_131_30, s_131_33, s_131_36, s_131_39, s_131_42, s_131_43, s_131_46, s_131_47, s_131_48, s_131_49, s_131_50, s_131_51, s_131_52, s_131_55, s_131_56, s_131_59, s_131_62, s_131_63, s_131_66, s_131_69, s_131_70, s_131_71, s_131_74, s_131_75, s_131_76, s_131_77, s_131_78, s_131_81, s_131_84, s_131_86, x_get_i, List.getElem?_cons_succ, List.getElem?_cons_zero, x_cv_j, cs_n, cs_i, cs_r, cs_l, Nat.reduceAdd, Nat.reduceLeDiff, true_and, Option.toList_some, Option.toList_none, List.cons_append, List.nil_append, if_true, if_false, nb0, nb1, x_setJ, x_setZ0, x_setZ1, x_setA, x_setO, List.length_cons, List.length_nil, Nat.reduceLT, List.set_cons_succ, List.set_cons_zero, wrl_0, wrl_1, wrl_2, wrl_3, wrl_4, wrl_5, wrl_p0, wrl_p1, wrl_p2, wrl_p3, wrl_p4]
  exact loop 99 0 0 ha (by decide) (by decide) (sA.mono (by omega) (by omega)) hWa tA rfl
theorem c_gravest (hW : CW sa h b tx (rc, R) nw pa ru he mi ga) (w : Int32) (h1 : (w < 0 ∨ 99 < w) → Q (some (.int (-1))) h) (h2 : ¬ (w < 0 ∨ 99 < w) → nw.2.2.2.2.1 = 0 → Q (some (.int (-2))) h) (h3 : ∀ m h', m ≤ 99 → w = nI m → ¬ nw.2.2.2.2.1 = 0 → sm b (b + 162) h h' → CW sa h' b tx (rw2 R (10 + (nXT ru.2.2 (tc_allv (nI nw.2.2.2.2.1)) m nw).2.2.1 (grv (nXT ru.2.2 (tc_allv (nI nw.2.2.2.2.1)) m nw).2.2.1 (nw.2.2.2.2.1 - 1))).toInt64 (10 + nw.2.2.1 (grv (nXT ru.2.2 (tc_allv (nI nw.2.2.2.2.1)) m nw).2.2.1 (nw.2.2.2.2.1 - 1))).toInt64) nw pa ru he mi ga → Q (some (.int (nI (grv (nXT ru.2.2 (tc_allv (nI nw.2.2.2.2.1)) m nw).2.2.1 (nw.2.2.2.2.1 - 1))))) h') : tm_D (g_G sa sc xt) (d + 4) 133 [.ref b, .int w] h Q := by
  obtain ⟨w_o, w_t, w_r, w_n, w_h, w_l, w_b, w_p, w_u, w_v, w_a, w_e, w_w, w_x, w_q, w_m, w_g, w_d, w_s⟩ := id hW
  have o_0 := hW.1
  have a_0 : h.2.2 (b + 1) = .inr (8, _) := hW.2.1.1.1
  have c_0 : h.2.2 (b + 3) = .inr (5, _) := cel_0 hW.2.2.1.1
  have n_0 : h.2.2 (b + 5) = .inr (9, _) := hW.2.2.2.1.1.1
  have p_0 : h.2.2 (b + 33) = .inr (6, _) := hW.2.2.2.2.2.2.2.1.1.1
  have q_0 : h.2.2 (b + 152) = .inr (2, _) := cel_0 hW.2.2.2.2.2.2.2.2.2.2.2.2.2.2.1.1
  obtain ⟨_, mm_0⟩ := hW.2.2.2.2.2.2.2.2.2.2.2.2.2.2.2.1.1
  have m_0 : h.2.2 (b + 154) = .inr (4, _) := cel_0 mm_0
  have g_0 : h.2.2 (b + 159) = .inr (1, _) := cel_0 hW.2.2.2.2.2.2.2.2.2.2.2.2.2.2.2.2.1.1
  have hT : tc_at h (b + 5) nw.1 nw.2.1 nw.2.2.1 nw.2.2.2.1 (nI nw.2.2.2.2.1) nw.2.2.2.2.2.1 nw.2.2.2.2.2.2 := w_n.1
  have hn : nw.2.2.2.2.1 ≤ 12 := w_n.2.1
  obtain ⟨t0, t1, t2, t3, t4, -, -⟩ := id hT
  obtain ⟨Th, hTh⟩ := w_h
  have x0 : h.2.2 (b + 12) = .inr (9, _) := hTh.1
  rw [e_133]
  simp only [s_133_0, s_133_1, s_133_4, s_133_5, s_133_7, s_133_10, s_133_11, s_133_12, s_133_13, s_133_16, s_133_19, s_133_22, s_133_24, s_133_25, s_133_26, s_133_29, s_133_30, s_133_33, s_133_36, s_133_37, s_133_40, s_133_41, s_133_44, s_133_45, s_133_46, s_133_49, s_133_52, s_133_55, s_133_56, s_133_57, s_133_58, s_133_60, s_133_61, s_133_64, s_133_67, s_133_70, s_133_71, s_133_74, s_133_77, s_133_78, s_133_79, s_133_82, s_133_83, s_133_86, s_133_89, s_133_90, s_133_91, s_133_94, s_133_97, s_133_98, s_133_99, s_133_102, s_133_105, s_133_106, s_133_109, s_133_111, s_133_112, s_133_115, s_133_118, s_133_119, s_133_120, s_133_121, s_133_122, s_133_124, s_133_125, s_133_128, s_133_131, s_133_132, s_133_133, s_133_134, s_133_135, s_133_138, s_133_139, x_get_i, List.getElem?_cons_succ, List.getElem?_cons_zero, x_cv_j, cs_n, cs_i, cs_r, cs_l, Nat.reduceAdd, Nat.reduceLeDiff, true_and, Option.toList_some, Option.toList_none, List.cons_append, List.nil_append, if_true, if_false, nb0, nb1, x_setJ, x_setZ0, x_setZ1, x_setA, x_setO, List.length_cons, List.length_nil, Nat.reduceLT, List.set_cons_succ, List.set_cons_zero, wrl_0, wrl_1, wrl_2, wrl_3, wrl_4, wrl_5, wrl_p0, wrl_p1, wrl_p2, wrl_p3, wrl_p4, o_0, t0, x0]
  by_cases k1 : w < 0
  · simp only [k1, if_true]
    exact h1 (Or.inl k1)
  by_cases k2 : w ≤ 99
  · have k0 : ¬ (w < 0 ∨ 99 < w) := by
      rintro (q | q)
      · exact k1 q
      · exact Int32.not_lt.mpr k2 q
    by_cases k3 : nw.2.2.2.2.1 = 0
    · simp only [k1, k2, k3, if_true, if_false, nI_0]
      exact h2 k0 k3
    obtain ⟨m, hm, em⟩ := nI_of2 (n := 99) (by decide) k1 k2
    subst em
    simp only [k1, k2, if_true, if_false, show ¬ nI nw.2.2.2.2.1 = 0 from nI_ne0 (by omega) (by omega)]
    refine c_copyH hW (fun ha sA hWa tA => ?_)
    have o_a := hWa.1
    have x1 : ha.2.2 (b + 12) = .inr (9, _) := tA.1
    have hTa : tc_at ha (b + 12) nw.1 nw.2.1 nw.2.2.1 nw.2.2.2.1 (nI nw.2.2.2.2.1) nw.2.2.2.2.2.1 nw.2.2.2.2.2.2 := tA
    simp only [s_133_0, s_133_1, s_133_4, s_133_5, s_133_7, s_133_10, s_133_11, s_133_12, s_133_13, s_133_16, s_133_19, s_133_22, s_133_24, s_133_25, s_133_26, s_133_29, s_133_30, s_133_33, s_133_36, s_133_37, s_133_40, s_133_41, s_133_44, s_133_45, s_133_46, s_133_49, s_133_52, s_133_55, s_133_56, s_133_57, s_133_58, s_133_60, s_133_61, s_133_64, s_133_67, s_133_70, s_133_71, s_133_74, s_133_77, s_133_78, s_133_79, s_133_82, s_133_83, s_133_86, s_133_89, s_133_90, s_133_91, s_133_94, s_133_97, s_133_98, s_133_99, s_133_102, s_133_105, s_133_106, s_133_109, s_133_111, s_133_112, s_133_115, s_133_118, s_133_119, s_133_120, s_133_121, s_133_122, s_133_124, s_133_125, s_133_128, s_133_131, s_133_132, s_133_133, s_133_134, s_133_135, s_133_138, s_133_139, x_get_i, List.getElem?_cons_succ, List.getElem?_cons_zero, x_cv_j, cs_n, cs_i, cs_r, cs_l, Nat.reduceAdd, Nat.reduceLeDiff, true_and, Option.toList_some, Option.toList_none, List.cons_append, List.nil_append, if_true, if_false, nb0, nb1, x_setJ, x_setZ0, x_setZ1, x_setA, x_setO, List.length_cons, List.length_nil, Nat.reduceLT, List.set_cons_succ, List.set_cons_zero, wrl_0, wrl_1, wrl_2, wrl_3, wrl_4, wrl_5, wrl_p0, wrl_p1, wrl_p2, wrl_p3, wrl_p4, o_a, x1, tc_all hTa]
    refine c_nightsH (by omega) hWa tA w_n.2 (fun hb sB hWb tB => ?_)
    have o_b := hWb.1
    have a_b : hb.2.2 (b + 1) = .inr (8, _) := hWb.2.1.1.1
    have c_b : hb.2.2 (b + 3) = .inr (5, _) := cel_0 hWb.2.2.1.1
    have n_b : hb.2.2 (b + 5) = .inr (9, _) := hWb.2.2.2.1.1.1
    have p_b : hb.2.2 (b + 33) = .inr (6, _) := hWb.2.2.2.2.2.2.2.1.1.1
    have q_b : hb.2.2 (b + 152) = .inr (2, _) := cel_0 hWb.2.2.2.2.2.2.2.2.2.2.2.2.2.2.1.1
    obtain ⟨_, mm_b⟩ := hWb.2.2.2.2.2.2.2.2.2.2.2.2.2.2.2.1.1
    have m_b : hb.2.2 (b + 154) = .inr (4, _) := cel_0 mm_b
    have g_b : hb.2.2 (b + 159) = .inr (1, _) := cel_0 hWb.2.2.2.2.2.2.2.2.2.2.2.2.2.2.2.2.1.1
    have hTb : tc_at hb (b + 12) nw.1 nw.2.1 (nXT ru.2.2 (tc_allv (nI nw.2.2.2.2.1)) m nw).2.2.1 (nXT ru.2.2 (tc_allv (nI nw.2.2.2.2.1)) m nw).2.2.2.1 (nI nw.2.2.2.2.1) (nXT ru.2.2 (tc_allv (nI nw.2.2.2.2.1)) m nw).2.2.2.2.2.1 (nXT ru.2.2 (tc_allv (nI nw.2.2.2.2.1)) m nw).2.2.2.2.2.2 := tB
    have hNb : tc_at hb (b + 5) nw.1 nw.2.1 nw.2.2.1 nw.2.2.2.1 (nI nw.2.2.2.2.1) nw.2.2.2.2.2.1 nw.2.2.2.2.2.2 := hWb.2.2.2.1.1
    obtain ⟨y0, y1, y2, y3, y4, -, -⟩ := id hTb
    obtain ⟨u0, u1, u2, u3, u4, -, -⟩ := id hNb
    simp only [s_133_0, s_133_1, s_133_4, s_133_5, s_133_7, s_133_10, s_133_11, s_133_12, s_133_13, s_133_16, s_133_19, s_133_22, s_133_24, s_133_25, s_133_26, s_133_29, s_133_30, s_133_33, s_133_36, s_133_37, s_133_40, s_133_41, s_133_44, s_133_45, s_133_46, s_133_49, s_133_52, s_133_55, s_133_56, s_133_57, s_133_58, s_133_60, s_133_61, s_133_64, s_133_67, s_133_70, s_133_71, s_133_74, s_133_77, s_133_78, s_133_79, s_133_82, s_133_83, s_133_86, s_133_89, s_133_90, s_133_91, s_133_94, s_133_97, s_133_98, s_133_99, s_133_102, s_133_105, s_133_106, s_133_109, s_133_111, s_133_112, s_133_115, s_133_118, s_133_119, s_133_120, s_133_121, s_133_122, s_133_124, s_133_125, s_133_128, s_133_131, s_133_132, s_133_133, s_133_134, s_133_135, s_133_138, s_133_139, x_get_i, List.getElem?_cons_succ, List.getElem?_cons_zero, x_cv_j, cs_n, cs_i, cs_r, cs_l, Nat.reduceAdd, Nat.reduceLeDiff, true_and, Option.toList_some, Option.toList_none, List.cons_append, List.nil_append, if_true, if_false, nb0, nb1, x_setJ, x_setZ0, x_setZ1, x_setA, x_setO, List.length_cons, List.length_nil, Nat.reduceLT, List.set_cons_succ, List.set_cons_zero, wrl_0, wrl_1, wrl_2, wrl_3, wrl_4, wrl_5, wrl_p0, wrl_p1, wrl_p2, wrl_p3, wrl_p4]
    have loop : ∀ (j i : Nat), i + 1 + j = nw.2.2.2.2.1 → tm_X (g_G sa sc xt) (d + 4) 133 59 [.ref b, .int (nI m), .int (nI (grv (nXT ru.2.2 (tc_allv (nI nw.2.2.2.2.1)) m nw).2.2.1 i)), .int (nI (i + 1))] [] hb Q := by
      intro j
      induction j with
      | zero =>
        intro i hi
        have hg := grv_le (M := (nXT ru.2.2 (tc_allv (nI nw.2.2.2.2.1)) m nw).2.2.1) i
        have hi' : nw.2.2.2.2.1 - 1 = i := by omega
        rw [s_133_59]
        simp only [s_133_0, s_133_1, s_133_4, s_133_5, s_133_7, s_133_10, s_133_11, s_133_12, s_133_13, s_133_16, s_133_19, s_133_22, s_133_24, s_133_25, s_133_26, s_133_29, s_133_30, s_133_33, s_133_36, s_133_37, s_133_40, s_133_41, s_133_44, s_133_45, s_133_46, s_133_49, s_133_52, s_133_55, s_133_56, s_133_57, s_133_58, s_133_60, s_133_61, s_133_64, s_133_67, s_133_70, s_133_71, s_133_74, s_133_77, s_133_78, s_133_79, s_133_82, s_133_83, s_133_86, s_133_89, s_133_90, s_133_91, s_133_94, s_133_97, s_133_98, s_133_99, s_133_102, s_133_105, s_133_106, s_133_109, s_133_111, s_133_112, s_133_115, s_133_118, s_133_119, s_133_120, s_133_121, s_133_122, s_133_124, s_133_125, s_133_128, s_133_131, s_133_132, s_133_133, s_133_134, s_133_135, s_133_138, s_133_139, x_get_i, List.getElem?_cons_succ, List.getElem?_cons_zero, x_cv_j, cs_n, cs_i, cs_r, cs_l, Nat.reduceAdd, Nat.reduceLeDiff, true_and, Option.toList_some, Option.toList_none, List.cons_append, List.nil_append, if_true, if_false, nb0, nb1, x_setJ, x_setZ0, x_setZ1, x_setA, x_setO, List.length_cons, List.length_nil, Nat.reduceLT, List.set_cons_succ, List.set_cons_zero, wrl_0, wrl_1, wrl_2, wrl_3, wrl_4, wrl_5, wrl_p0, wrl_p1, wrl_p2, wrl_p3, wrl_p4, o_b, y0, y3, u0, u3, c_b, show nI nw.2.2.2.2.1 ≤ nI (i + 1) from nI_le (by omega) (by omega), x_ild_n (show grv (nXT ru.2.2 (tc_allv (nI nw.2.2.2.2.1)) m nw).2.2.1 i < 12 by omega) n12]
        refine c_tell2 hWb _ _ (fun hd sD hWd => ?_)
        simp only [s_133_0, s_133_1, s_133_4, s_133_5, s_133_7, s_133_10, s_133_11, s_133_12, s_133_13, s_133_16, s_133_19, s_133_22, s_133_24, s_133_25, s_133_26, s_133_29, s_133_30, s_133_33, s_133_36, s_133_37, s_133_40, s_133_41, s_133_44, s_133_45, s_133_46, s_133_49, s_133_52, s_133_55, s_133_56, s_133_57, s_133_58, s_133_60, s_133_61, s_133_64, s_133_67, s_133_70, s_133_71, s_133_74, s_133_77, s_133_78, s_133_79, s_133_82, s_133_83, s_133_86, s_133_89, s_133_90, s_133_91, s_133_94, s_133_97, s_133_98, s_133_99, s_133_102, s_133_105, s_133_106, s_133_109, s_133_111, s_133_112, s_133_115, s_133_118, s_133_119, s_133_120, s_133_121, s_133_122, s_133_124, s_133_125, s_133_128, s_133_131, s_133_132, s_133_133, s_133_134, s_133_135, s_133_138, s_133_139, x_get_i, List.getElem?_cons_succ, List.getElem?_cons_zero, x_cv_j, cs_n, cs_i, cs_r, cs_l, Nat.reduceAdd, Nat.reduceLeDiff, true_and, Option.toList_some, Option.toList_none, List.cons_append, List.nil_append, if_true, if_false, nb0, nb1, x_setJ, x_setZ0, x_setZ1, x_setA, x_setO, List.length_cons, List.length_nil, Nat.reduceLT, List.set_cons_succ, List.set_cons_zero, wrl_0, wrl_1, wrl_2, wrl_3, wrl_4, wrl_5, wrl_p0, wrl_p1, wrl_p2, wrl_p3, wrl_p4]
        have := h3 m hd hm rfl k3 ((sA.mono (by omega) (by omega)).trans (sB.trans (sD.mono (by omega) (by omega))))
        rw [hi'] at this
        exact this hWd
      | succ j ih =>
        intro i hi
        have hg := grv_le (M := (nXT ru.2.2 (tc_allv (nI nw.2.2.2.2.1)) m nw).2.2.1) i
        have es : grv (nXT ru.2.2 (tc_allv (nI nw.2.2.2.2.1)) m nw).2.2.1 (i + 1) = if iabs ((nXT ru.2.2 (tc_allv (nI nw.2.2.2.2.1)) m nw).2.2.1 (i + 1)) ≤ iabs ((nXT ru.2.2 (tc_allv (nI nw.2.2.2.2.1)) m nw).2.2.1 (grv (nXT ru.2.2 (tc_allv (nI nw.2.2.2.2.1)) m nw).2.2.1 i)) then grv (nXT ru.2.2 (tc_allv (nI nw.2.2.2.2.1)) m nw).2.2.1 i else i + 1 := rfl
        have ih := ih (i + 1) (by omega)
        rw [es] at ih
        rw [s_133_59]
        have ei : ∀ x : Int32, (if 0 ≤ x then x else 0 - x) = iabs x := fun x => rfl
        simp only [s_133_0, s_133_1, s_133_4, s_133_5, s_133_7, s_133_10, s_133_11, s_133_12, s_133_13, s_133_16, s_133_19, s_133_22, s_133_24, s_133_25, s_133_26, s_133_29, s_133_30, s_133_33, s_133_36, s_133_37, s_133_40, s_133_41, s_133_44, s_133_45, s_133_46, s_133_49, s_133_52, s_133_55, s_133_56, s_133_57, s_133_58, s_133_60, s_133_61, s_133_64, s_133_67, s_133_70, s_133_71, s_133_74, s_133_77, s_133_78, s_133_79, s_133_82, s_133_83, s_133_86, s_133_89, s_133_90, s_133_91, s_133_94, s_133_97, s_133_98, s_133_99, s_133_102, s_133_105, s_133_106, s_133_109, s_133_111, s_133_112, s_133_115, s_133_118, s_133_119, s_133_120, s_133_121, s_133_122, s_133_124, s_133_125, s_133_128, s_133_131, s_133_132, s_133_133, s_133_134, s_133_135, s_133_138, s_133_139, x_get_i, List.getElem?_cons_succ, List.getElem?_cons_zero, x_cv_j, cs_n, cs_i, cs_r, cs_l, Nat.reduceAdd, Nat.reduceLeDiff, true_and, Option.toList_some, Option.toList_none, List.cons_append, List.nil_append, if_true, if_false, nb0, nb1, x_setJ, x_setZ0, x_setZ1, x_setA, x_setO, List.length_cons, List.length_nil, Nat.reduceLT, List.set_cons_succ, List.set_cons_zero, wrl_0, wrl_1, wrl_2, wrl_3, wrl_4, wrl_5, wrl_p0, wrl_p1, wrl_p2, wrl_p3, wrl_p4, o_b, y0, y3, show ¬ nI nw.2.2.2.2.1 ≤ nI (i + 1) from nI_ge (by omega) (by omega), x_ild_n (show i + 1 < 12 by omega) n12, x_ild_n (show grv (nXT ru.2.2 (tc_allv (nI nw.2.2.2.2.1)) m nw).2.2.1 i < 12 by omega) n12, ei, nI_1]
        by_cases k : iabs ((nXT ru.2.2 (tc_allv (nI nw.2.2.2.2.1)) m nw).2.2.1 (i + 1)) ≤ iabs ((nXT ru.2.2 (tc_allv (nI nw.2.2.2.2.1)) m nw).2.2.1 (grv (nXT ru.2.2 (tc_allv (nI nw.2.2.2.2.1)) m nw).2.2.1 i))
        · simp only [k, if_true] at ih ⊢
          exact ih
        · simp only [k, if_false] at ih ⊢
          exact ih
    exact loop (nw.2.2.2.2.1 - 1) 0 (by omega)
  · simp only [k1, k2, if_false]
    exact h1 (Or.inr (Int32.not_le.mp k2))
end
