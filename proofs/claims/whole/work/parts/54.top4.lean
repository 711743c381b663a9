/-! calls of the class: moves, cleans, casts; what is heard and seen -/
theorem hasI0 {x : Int32} {n : Nat} (hn : n ≤ 12) (h : ¬ ∃ j, j < n ∧ x = nI j) : (if x < 0 then (0 : Int32) else if nI n ≤ x then 0 else 1) = 0 := by
  by_cases c : (if x < 0 then (0 : Int32) else if nI n ≤ x then 0 else 1) = 1
  · exact absurd ((tc_hasI hn).mp c) h
  · split
    · rfl
    · split
      · rfl
      · rename_i h1 h2
        exact absurd (by rw [if_neg h1, if_neg h2]) c
theorem boxI {x : Int32} : (if x < 0 then (0 : Int32) else if 8 ≤ x then 0 else 1) = 1 ↔ ∃ j, j < 8 ∧ x = nI j := tc_hasI (n := 8) (by decide)
theorem boxI0 {x : Int32} (h : ¬ ∃ j, j < 8 ∧ x = nI j) : (if x < 0 then (0 : Int32) else if 8 ≤ x then 0 else 1) = 0 := hasI0 (n := 8) (by decide) h
/-- a sort's turn now -/
def tnow (cd : List Int32) (X : TN) (j : Nat) : Int32 := pm (evv (tc_env X.1 X.2.1 X.2.2.1 (be X.2.2.2.1) (fun x => bs X.2.2.1 (be X.2.2.2.1) x X.2.2.2.2.1) (fun x => bs (fun _ => 1) (be X.2.2.2.1) x X.2.2.2.2.1) X.2.2.2.2.2.2 j) cd)
section
variable {sa : g_SA} {sc : Nat × Nat × (Nat → Int32)} {xt : Nat → Nat → List Value → tm_H → Option (Option Value × tm_H)} {d b : Nat} {h : tm_H} {Q : Option Value → tm_H → Prop}
variable {tx : Nat × (Nat → Int32)} {rw : Nat × (Nat → Int64)} {nw : TN} {pa : Nat × Nat × (Nat → TN) × (Nat → TN) × (Nat → Int32)} {ru : Nat × Nat × List Int32} {he : Nat × (Nat → Int32)} {mi : Nat × (Nat → Int32) × (Nat → Int32) × (Nat → Int32)} {ga : Nat}
variable {c n m : Nat} {F L W M B : Nat → Int32} {s g : Int32} {rc : Nat} {R : Nat → Int64}
theorem c_moves (hW : CW sa h b tx rw (L, W, M, B, n, s, g) pa ru he mi ga) (v w : Int32) (h1 : ∀ h', (¬ (∃ j, j < n ∧ v = nI j) ∨ ¬ ∃ x, x < 8 ∧ w = nI x) → sm b (b + 162) h h' → CW sa h' b tx rw (L, W, M, B, n, s, g) pa ru he mi ga → Q (some (.int (-1))) h') (h2 : ∀ j x h', j < n → v = nI j → x < 8 → w = nI x → (s >>> (nI j &&& 31)) &&& 1 = 1 → sm b (b + 162) h h' → CW sa h' b tx rw (L, W, M, B, n, s, g) pa ru he mi ga → Q (some (.int (-2))) h') (h3 : ∀ j x h', j < n → v = nI j → x < 8 → w = nI x → ¬ (s >>> (nI j &&& 31)) &&& 1 = 1 → B j = nI x → sm b (b + 162) h h' → CW sa h' b tx rw (L, W, M, B, n, s, g) pa ru he mi ga → Q (some (.int (-3))) h') (h4 : ∀ j x h', j < n → v = nI j → x < 8 → w = nI x → ¬ (s >>> (nI j &&& 31)) &&& 1 = 1 → ¬ B j = nI x → sm b (b + 162) h h' → CW sa h' b tx rw (L, W, M, upd B j (nI x), n, s, g) (pap1 pa (L, W, M, B, n, s, g)) ru he mi ga → Q (some (.int (10 + B j))) h') : tm_D (g_G sa sc xt) (d + 4) 119 [.ref b, .int v, .int w] h Q := by
  obtain ⟨w_o, w_t, w_r, w_n, w_h, w_l, w_b, w_p, w_u, w_v, w_a, w_e, w_w, w_x, w_q, w_m, w_g, w_d, w_s⟩ := id hW
  have hn : n ≤ 12 := w_n.2.1
  obtain ⟨Tb, hTb⟩ := w_b
  have bb : h.2.2 (b + 26) = .inr (9, _) := hTb.1
  rw [e_119]
  simp only [s_119_0, s_119_1, s_119_4, s_119_5, s_119_8, s_119_11, s_119_12, s_119_13, s_119_16, s_119_17, s_119_18, s_119_21, s_119_24, x_get_i, List.getElem?_cons_succ, List.getElem?_cons_zero, x_cv_j, cs_n, cs_i, cs_r, cs_l, Nat.reduceAdd, Nat.reduceLeDiff, true_and, Option.toList_some, Option.toList_none, List.cons_append, List.nil_append, if_true, if_false, nb0, nb1, x_setJ, x_setZ0, x_setZ1, x_setA, x_setO, List.length_cons, List.length_nil, Nat.reduceLT, List.set_cons_succ, List.set_cons_zero, wrl_0, wrl_1, wrl_2, wrl_3, wrl_4, wrl_5, wrl_p0, wrl_p1, wrl_p2, wrl_p3, wrl_p4, w_o, bb]
  refine c_copyB hW (fun ha sA hWa tA => ?_)
  have o_a := hWa.1
  have a_a : ha.2.2 (b + 1) = .inr (8, _) := hWa.2.1.1.1
  have c_a : ha.2.2 (b + 3) = .inr (5, _) := cel_0 hWa.2.2.1.1
  have n_a : ha.2.2 (b + 5) = .inr (9, _) := hWa.2.2.2.1.1.1
  have p_a : ha.2.2 (b + 33) = .inr (6, _) := hWa.2.2.2.2.2.2.2.1.1.1
  have q_a : ha.2.2 (b + 152) = .inr (2, _) := cel_0 hWa.2.2.2.2.2.2.2.2.2.2.2.2.2.2.1.1
  obtain ⟨_, mm_a⟩ := hWa.2.2.2.2.2.2.2.2.2.2.2.2.2.2.2.1.1
  have m_a : ha.2.2 (b + 154) = .inr (4, _) := cel_0 mm_a
  have g_a : ha.2.2 (b + 159) = .inr (1, _) := cel_0 hWa.2.2.2.2.2.2.2.2.2.2.2.2.2.2.2.2.1.1
  have wA := hWa.2.2.2.1
  have hTa : tc_at ha (b + 5) L W M B (nI n) s g := wA.1
  simp only [s_119_0, s_119_1, s_119_4, s_119_5, s_119_8, s_119_11, s_119_12, s_119_13, s_119_16, s_119_17, s_119_18, s_119_21, s_119_24, x_get_i, List.getElem?_cons_succ, List.getElem?_cons_zero, x_cv_j, cs_n, cs_i, cs_r, cs_l, Nat.reduceAdd, Nat.reduceLeDiff, true_and, Option.toList_some, Option.toList_none, List.cons_append, List.nil_append, if_true, if_false, nb0, nb1, x_setJ, x_setZ0, x_setZ1, x_setA, x_setO, List.length_cons, List.length_nil, Nat.reduceLT, List.set_cons_succ, List.set_cons_zero, wrl_0, wrl_1, wrl_2, wrl_3, wrl_4, wrl_5, wrl_p0, wrl_p1, wrl_p2, wrl_p3, wrl_p4, o_a, a_a, c_a, n_a, p_a, q_a, m_a, g_a]
  have fin : ∀ (r : Int32) (Y : TN), r < 0 → WFT Y → Y = (L, W, M, B, n, s, g) → (∀ h', sm b (b + 162) h h' → CW sa h' b tx rw (L, W, M, B, n, s, g) pa ru he mi ga → Q (some (.int r)) h') → ∀ h', sm (b + 5) (b + 12) ha h' → tca h' (b + 5) (tcT Y) → tm_X (g_G sa sc xt) (d + 4) 119 21 [.ref b, .int v, .int w] [.int r, .ref b] h' Q := by
    intro r Y hr wf eY hq hb sB tB
    subst eY
    have hWb := CW_n (nw' := (L, W, M, B, n, s, g)) hWa sB ⟨tB, wf⟩
    have o_b := hWb.1
    simp only [s_119_0, s_119_1, s_119_4, s_119_5, s_119_8, s_119_11, s_119_12, s_119_13, s_119_16, s_119_17, s_119_18, s_119_21, s_119_24, x_get_i, List.getElem?_cons_succ, List.getElem?_cons_zero, x_cv_j, cs_n, cs_i, cs_r, cs_l, Nat.reduceAdd, Nat.reduceLeDiff, true_and, Option.toList_some, Option.toList_none, List.cons_append, List.nil_append, if_true, if_false, nb0, nb1, x_setJ, x_setZ0, x_setZ1, x_setA, x_setO, List.length_cons, List.length_nil, Nat.reduceLT, List.set_cons_succ, List.set_cons_zero, wrl_0, wrl_1, wrl_2, wrl_3, wrl_4, wrl_5, wrl_p0, wrl_p1, wrl_p2, wrl_p3, wrl_p4, o_b]
    refine c_undoable hWb (tca_sm sB (by omega) tA) w_n.2 r (fun _ => ?_) (fun q => absurd hr q)
    simp only [s_119_0, s_119_1, s_119_4, s_119_5, s_119_8, s_119_11, s_119_12, s_119_13, s_119_16, s_119_17, s_119_18, s_119_21, s_119_24, x_get_i, List.getElem?_cons_succ, List.getElem?_cons_zero, x_cv_j, cs_n, cs_i, cs_r, cs_l, Nat.reduceAdd, Nat.reduceLeDiff, true_and, Option.toList_some, Option.toList_none, List.cons_append, List.nil_append, if_true, if_false, nb0, nb1, x_setJ, x_setZ0, x_setZ1, x_setA, x_setO, List.length_cons, List.length_nil, Nat.reduceLT, List.set_cons_succ, List.set_cons_zero, wrl_0, wrl_1, wrl_2, wrl_3, wrl_4, wrl_5, wrl_p0, wrl_p1, wrl_p2, wrl_p3, wrl_p4]
    exact hq hb ((sA.mono (by omega) (by omega)).trans (sB.mono (by omega) (by omega))) hWb
  have go : ∀ r : Int32, r < 0 → (∀ h', sm b (b + 162) h h' → CW sa h' b tx rw (L, W, M, B, n, s, g) pa ru he mi ga → Q (some (.int r)) h') → (∀ a b' Q, tm_D (g_G sa sc xt) (d + 3) 96 [.ref (b + 5), .int v, .int w] (tcp ha (b + 5) L W M B (nI n) s g a b') Q ↔ Q (some (.int r)) (tcp ha (b + 5) L W M B (nI n) s g a b')) → tm_D (g_G sa sc xt) (d + 3) 96 [.ref (b + 5), .int v, .int w] ha (fun r h' => tm_X (g_G sa sc xt) (d + 4) 119 21 [.ref b, .int v, .int w] (r.toList ++ [.ref b]) h' Q) := by
    intro r hr hq eq
    refine tca_call (T := tcT (L, W, M, B, n, s, g)) (T' := tcT (L, W, M, B, n, s, g)) (r := some (.int r)) hTa eq (fun hb sB tB => ?_)
    simp only [s_119_0, s_119_1, s_119_4, s_119_5, s_119_8, s_119_11, s_119_12, s_119_13, s_119_16, s_119_17, s_119_18, s_119_21, s_119_24, x_get_i, List.getElem?_cons_succ, List.getElem?_cons_zero, x_cv_j, cs_n, cs_i, cs_r, cs_l, Nat.reduceAdd, Nat.reduceLeDiff, true_and, Option.toList_some, Option.toList_none, List.cons_append, List.nil_append, if_true, if_false, nb0, nb1, x_setJ, x_setZ0, x_setZ1, x_setA, x_setO, List.length_cons, List.length_nil, Nat.reduceLT, List.set_cons_succ, List.set_cons_zero, wrl_0, wrl_1, wrl_2, wrl_3, wrl_4, wrl_5, wrl_p0, wrl_p1, wrl_p2, wrl_p3, wrl_p4]
    have := fin r _ hr w_n.2 rfl hq hb sB tB
    simp only [s_119_0, s_119_1, s_119_4, s_119_5, s_119_8, s_119_11, s_119_12, s_119_13, s_119_16, s_119_17, s_119_18, s_119_21, s_119_24, x_get_i, List.getElem?_cons_succ, List.getElem?_cons_zero, x_cv_j, cs_n, cs_i, cs_r, cs_l, Nat.reduceAdd, Nat.reduceLeDiff, true_and, Option.toList_some, Option.toList_none, List.cons_append, List.nil_append, if_true, if_false, nb0, nb1, x_setJ, x_setZ0, x_setZ1, x_setA, x_setO, List.length_cons, List.length_nil, Nat.reduceLT, List.set_cons_succ, List.set_cons_zero, wrl_0, wrl_1, wrl_2, wrl_3, wrl_4, wrl_5, wrl_p0, wrl_p1, wrl_p2, wrl_p3, wrl_p4] at this
    exact this
  by_cases hv : ∃ j, j < n ∧ v = nI j
  · by_cases hw : ∃ x, x < 8 ∧ w = nI x
    · obtain ⟨j, hj, ej⟩ := hv
      obtain ⟨x, hx, ex⟩ := hw
      have hy := boxI.mpr ⟨x, hx, ex⟩
      by_cases k1 : (s >>> (nI j &&& 31)) &&& 1 = 1
      · refine go (-2) (by decide) (fun h' s1 w1 => h2 j x h' hj ej hx ex k1 s1 w1) (fun a b' Q => ?_)
        rw [ej, tc_move1 hn hj hy, if_pos k1]
      by_cases k2 : B j = nI x
      · refine go (-3) (by decide) (fun h' s1 w1 => h3 j x h' hj ej hx ex k1 k2 s1 w1) (fun a b' Q => ?_)
        rw [ej, tc_move1 hn hj hy, if_neg k1, if_pos (by rw [ex]; exact k2)]
      · refine tca_call (T := tcT (L, W, M, B, n, s, g)) (T' := tcT (L, W, M, upd B j (nI x), n, s, g)) (r := some (.int (10 + B j))) hTa (fun a b' Q => ?_) (fun hb sB tB => ?_)
        · have hm := tc_move1 (sa := sa) (sc := sc) (xt := xt) (d := d + 2) (h := ha) (k := b + 5) (L := L) (W := W) (M := M) (B := B) (s := s) (g := g) (a := a) (b := b') (Q := Q) hn hj hy
          rw [if_neg k1, if_neg (by rw [ex]; exact k2), ex] at hm
          rw [ej, ex]
          exact hm
        · have wf : WFT (L, W, M, upd B j (nI x), n, s, g) := ⟨hn, w_n.2.2.1, BX_upd w_n.2.2.2 hx⟩
          have hWb := CW_n (nw' := (L, W, M, upd B j (nI x), n, s, g)) hWa sB ⟨tB, wf⟩
          have o_b := hWb.1
          simp only [s_119_0, s_119_1, s_119_4, s_119_5, s_119_8, s_119_11, s_119_12, s_119_13, s_119_16, s_119_17, s_119_18, s_119_21, s_119_24, x_get_i, List.getElem?_cons_succ, List.getElem?_cons_zero, x_cv_j, cs_n, cs_i, cs_r, cs_l, Nat.reduceAdd, Nat.reduceLeDiff, true_and, Option.toList_some, Option.toList_none, List.cons_append, List.nil_append, if_true, if_false, nb0, nb1, x_setJ, x_setZ0, x_setZ1, x_setA, x_setO, List.length_cons, List.length_nil, Nat.reduceLT, List.set_cons_succ, List.set_cons_zero, wrl_0, wrl_1, wrl_2, wrl_3, wrl_4, wrl_5, wrl_p0, wrl_p1, wrl_p2, wrl_p3, wrl_p4, o_b]
          have hpos : ¬ 10 + B j < 0 := by
            obtain ⟨y, hy8, ey⟩ := w_n.2.2.2 j hj
            have ey : B j = nI y := ey
            rw [ey, show (10 : Int32) = nI 10 from rfl, nI_add]
            exact nI_pos (by omega)
          refine c_undoable hWb (tca_sm sB (by omega) tA) w_n.2 _ (fun q => absurd q hpos) (fun _ hd sD hWd => ?_)
          simp only [s_119_0, s_119_1, s_119_4, s_119_5, s_119_8, s_119_11, s_119_12, s_119_13, s_119_16, s_119_17, s_119_18, s_119_21, s_119_24, x_get_i, List.getElem?_cons_succ, List.getElem?_cons_zero, x_cv_j, cs_n, cs_i, cs_r, cs_l, Nat.reduceAdd, Nat.reduceLeDiff, true_and, Option.toList_some, Option.toList_none, List.cons_append, List.nil_append, if_true, if_false, nb0, nb1, x_setJ, x_setZ0, x_setZ1, x_setA, x_setO, List.length_cons, List.length_nil, Nat.reduceLT, List.set_cons_succ, List.set_cons_zero, wrl_0, wrl_1, wrl_2, wrl_3, wrl_4, wrl_5, wrl_p0, wrl_p1, wrl_p2, wrl_p3, wrl_p4]
          exact h4 j x hd hj ej hx ex k1 k2 ((sA.mono (by omega) (by omega)).trans ((sB.mono (by omega) (by omega)).trans (sD.mono (by omega) (by omega)))) hWd
    · exact go (-1) (by decide) (fun h' s1 w1 => h1 h' (Or.inr hw) s1 w1) (fun a b' Q => tc_move0 (Or.inr (boxI0 hw)))
  · exact go (-1) (by decide) (fun h' s1 w1 => h1 h' (Or.inl hv) s1 w1) (fun a b' Q => tc_move0 (Or.inl (hasI0 hn hv)))
theorem c_cleans (hW : CW sa h b tx rw (L, W, M, B, n, s, g) pa ru he mi ga) (v : Int32) (hpos : ∀ j, j < n → ¬ 10 + M j < 0) (h1 : ∀ h', (¬ ∃ j, j < n ∧ v = nI j) → sm b (b + 162) h h' → CW sa h' b tx rw (L, W, M, B, n, s, g) pa ru he mi ga → Q (some (.int (-1))) h') (h2 : ∀ j h', j < n → v = nI j → M j = 0 → sm b (b + 162) h h' → CW sa h' b tx rw (L, W, M, B, n, s, g) pa ru he mi ga → Q (some (.int (-2))) h') (h4 : ∀ j h', j < n → v = nI j → ¬ M j = 0 → sm b (b + 162) h h' → CW sa h' b tx rw (L, W, upd M j 0, B, n, s, g) (pap1 pa (L, W, M, B, n, s, g)) ru he mi ga → Q (some (.int (10 + M j))) h') : tm_D (g_G sa sc xt) (d + 4) 120 [.ref b, .int v] h Q := by
  obtain ⟨w_o, w_t, w_r, w_n, w_h, w_l, w_b, w_p, w_u, w_v, w_a, w_e, w_w, w_x, w_q, w_m, w_g, w_d, w_s⟩ := id hW
  have hn : n ≤ 12 := w_n.2.1
  obtain ⟨Tb, hTb⟩ := w_b
  have bb : h.2.2 (b + 26) = .inr (9, _) := hTb.1
  rw [e_120]
  simp only [s_120_0, s_120_1, s_120_4, s_120_5, s_120_8, s_120_11, s_120_12, s_120_13, s_120_16, s_120_17, s_120_20, s_120_23, x_get_i, List.getElem?_cons_succ, List.getElem?_cons_zero, x_cv_j, cs_n, cs_i, cs_r, cs_l, Nat.reduceAdd, Nat.reduceLeDiff, true_and, Option.toList_some, Option.toList_none, List.cons_append, List.nil_append, if_true, if_false, nb0, nb1, x_setJ, x_setZ0, x_setZ1, x_setA, x_setO, List.length_cons, List.length_nil, Nat.reduceLT, List.set_cons_succ, List.set_cons_zero, wrl_0, wrl_1, wrl_2, wrl_3, wrl_4, wrl_5, wrl_p0, wrl_p1, wrl_p2, wrl_p3, wrl_p4, w_o, bb]
  refine c_copyB hW (fun ha sA hWa tA => ?_)
  have o_a := hWa.1
  have a_a : ha.2.2 (b + 1) = .inr (8, _) := hWa.2.1.1.1
  have c_a : ha.2.2 (b + 3) = .inr (5, _) := cel_0 hWa.2.2.1.1
  have n_a : ha.2.2 (b + 5) = .inr (9, _) := hWa.2.2.2.1.1.1
  have p_a : ha.2.2 (b + 33) = .inr (6, _) := hWa.2.2.2.2.2.2.2.1.1.1
  have q_a : ha.2.2 (b + 152) = .inr (2, _) := cel_0 hWa.2.2.2.2.2.2.2.2.2.2.2.2.2.2.1.1
  obtain ⟨_, mm_a⟩ := hWa.2.2.2.2.2.2.2.2.2.2.2.2.2.2.2.1.1
  have m_a : ha.2.2 (b + 154) = .inr (4, _) := cel_0 mm_a
  have g_a : ha.2.2 (b + 159) = .inr (1, _) := cel_0 hWa.2.2.2.2.2.2.2.2.2.2.2.2.2.2.2.2.1.1
  have hTa : tc_at ha (b + 5) L W M B (nI n) s g := hWa.2.2.2.1.1
  simp only [s_120_0, s_120_1, s_120_4, s_120_5, s_120_8, s_120_11, s_120_12, s_120_13, s_120_16, s_120_17, s_120_20, s_120_23, x_get_i, List.getElem?_cons_succ, List.getElem?_cons_zero, x_cv_j, cs_n, cs_i, cs_r, cs_l, Nat.reduceAdd, Nat.reduceLeDiff, true_and, Option.toList_some, Option.toList_none, List.cons_append, List.nil_append, if_true, if_false, nb0, nb1, x_setJ, x_setZ0, x_setZ1, x_setA, x_setO, List.length_cons, List.length_nil, Nat.reduceLT, List.set_cons_succ, List.set_cons_zero, wrl_0, wrl_1, wrl_2, wrl_3, wrl_4, wrl_5, wrl_p0, wrl_p1, wrl_p2, wrl_p3, wrl_p4, o_a, a_a, c_a, n_a, p_a, q_a, m_a, g_a]
  have go : ∀ (r : Int32) (M' : Nat → Int32), (∀ a b' Q, tm_D (g_G sa sc xt) (d + 3) 97 [.ref (b + 5), .int v] (tcp ha (b + 5) L W M B (nI n) s g a b') Q ↔ Q (some (.int r)) (tcp ha (b + 5) L W M' B (nI n) s g a b')) → (r < 0 → ∀ h', sm b (b + 162) h h' → CW sa h' b tx rw (L, W, M', B, n, s, g) pa ru he mi ga → Q (some (.int r)) h') → (¬ r < 0 → ∀ h', sm b (b + 162) h h' → CW sa h' b tx rw (L, W, M', B, n, s, g) (pap1 pa (L, W, M, B, n, s, g)) ru he mi ga → Q (some (.int r)) h') → tm_D (g_G sa sc xt) (d + 3) 97 [.ref (b + 5), .int v] ha (fun r h' => tm_X (g_G sa sc xt) (d + 4) 120 20 [.ref b, .int v] (r.toList ++ [.ref b]) h' Q) := by
    intro r M' eq k1 k2
    refine tca_call (T := tcT (L, W, M, B, n, s, g)) (T' := tcT (L, W, M', B, n, s, g)) (r := some (.int r)) hTa eq (fun hb sB tB => ?_)
    have hWb := CW_n (nw' := (L, W, M', B, n, s, g)) hWa sB ⟨tB, w_n.2⟩
    have o_b := hWb.1
    have sAB : sm b (b + 162) h hb := (sA.mono (by omega) (by omega)).trans (sB.mono (by omega) (by omega))
    simp only [s_120_0, s_120_1, s_120_4, s_120_5, s_120_8, s_120_11, s_120_12, s_120_13, s_120_16, s_120_17, s_120_20, s_120_23, x_get_i, List.getElem?_cons_succ, List.getElem?_cons_zero, x_cv_j, cs_n, cs_i, cs_r, cs_l, Nat.reduceAdd, Nat.reduceLeDiff, true_and, Option.toList_some, Option.toList_none, List.cons_append, List.nil_append, if_true, if_false, nb0, nb1, x_setJ, x_setZ0, x_setZ1, x_setA, x_setO, List.length_cons, List.length_nil, Nat.reduceLT, List.set_cons_succ, List.set_cons_zero, wrl_0, wrl_1, wrl_2, wrl_3, wrl_4, wrl_5, wrl_p0, wrl_p1, wrl_p2, wrl_p3, wrl_p4, o_b]
    refine c_undoable hWb (tca_sm sB (by omega) tA) w_n.2 r (fun q => ?_) (fun q hd sD hWd => ?_)
    · simp only [s_120_0, s_120_1, s_120_4, s_120_5, s_120_8, s_120_11, s_120_12, s_120_13, s_120_16, s_120_17, s_120_20, s_120_23, x_get_i, List.getElem?_cons_succ, List.getElem?_cons_zero, x_cv_j, cs_n, cs_i, cs_r, cs_l, Nat.reduceAdd, Nat.reduceLeDiff, true_and, Option.toList_some, Option.toList_none, List.cons_append, List.nil_append, if_true, if_false, nb0, nb1, x_setJ, x_setZ0, x_setZ1, x_setA, x_setO, List.length_cons, List.length_nil, Nat.reduceLT, List.set_cons_succ, List.set_cons_zero, wrl_0, wrl_1, wrl_2, wrl_3, wrl_4, wrl_5, wrl_p0, wrl_p1, wrl_p2, wrl_p3, wrl_p4]
      exact k1 q hb sAB hWb
    · simp only [s_120_0, s_120_1, s_120_4, s_120_5, s_120_8, s_120_11, s_120_12, s_120_13, s_120_16, s_120_17, s_120_20, s_120_23, x_get_i, List.getElem?_cons_succ, List.getElem?_cons_zero, x_cv_j, cs_n, cs_i, cs_r, cs_l, Nat.reduceAdd, Nat.reduceLeDiff, true_and, Option.toList_some, Option.toList_none, List.cons_append, List.nil_append, if_true, if_false, nb0, nb1, x_setJ, x_setZ0, x_setZ1, x_setA, x_setO, List.length_cons, List.length_nil, Nat.reduceLT, List.set_cons_succ, List.set_cons_zero, wrl_0, wrl_1, wrl_2, wrl_3, wrl_4, wrl_5, wrl_p0, wrl_p1, wrl_p2, wrl_p3, wrl_p4]
      exact k2 q hd (sAB.trans (sD.mono (by omega) (by omega))) hWd
  by_cases hv : ∃ j, j < n ∧ v = nI j
  · obtain ⟨j, hj, ej⟩ := hv
    by_cases k1 : M j = 0
    · refine go (-2) M (fun a b' Q => ?_) (fun _ h' s1 w1 => h2 j h' hj ej k1 s1 w1) (fun q => absurd (by decide) q)
      rw [ej, tc_clean1 hn hj, if_pos k1, upd_same k1]
    · refine go (10 + M j) (upd M j 0) (fun a b' Q => ?_) (fun q => absurd q (hpos j hj)) (fun _ h' s1 w1 => h4 j h' hj ej k1 s1 w1)
      rw [ej, tc_clean1 hn hj, if_neg k1]
  · exact go (-1) M (fun a b' Q => tc_clean0 (hasI0 hn hv)) (fun _ h' s1 w1 => h1 h' hv s1 w1) (fun q => absurd (by decide) q)
theorem c_casts (hW : CW sa h b tx rw (L, W, M, B, n, s, g) pa ru he mi ga) (v : Int32) (hpos : ∀ j, j < n → ¬ W j < 0) (h1 : ∀ h', (¬ ∃ j, j < n ∧ v = nI j) → sm b (b + 162) h h' → CW sa h' b tx rw (L, W, M, B, n, s, g) pa ru he mi ga → Q (some (.int (-1))) h') (h2 : ∀ j h', j < n → v = nI j → W j = 0 → sm b (b + 162) h h' → CW sa h' b tx rw (L, W, M, B, n, s, g) pa ru he mi ga → Q (some (.int (-2))) h') (h4 : ∀ j h', j < n → v = nI j → ¬ W j = 0 → sm b (b + 162) h h' → CW sa h' b tx rw (L, upd W j 0, M, B, n, s, g) (pap1 pa (L, W, M, B, n, s, g)) ru he mi ga → Q (some (.int (W j))) h') : tm_D (g_G sa sc xt) (d + 4) 121 [.ref b, .int v] h Q := by
  obtain ⟨w_o, w_t, w_r, w_n, w_h, w_l, w_b, w_p, w_u, w_v, w_a, w_e, w_w, w_x, w_q, w_m, w_g, w_d, w_s⟩ := id hW
  have hn : n ≤ 12 := w_n.2.1
  obtain ⟨Tb, hTb⟩ := w_b
  have bb : h.2.2 (b + 26) = .inr (9, _) := hTb.1
  rw [e_121]
  simp only [s_121_0, s_121_1, s_121_4, s_121_5, s_121_8, s_121_11, s_121_12, s_121_13, s_121_16, s_121_17, s_121_20, s_121_23, x_get_i, List.getElem?_cons_succ, List.getElem?_cons_zero, x_cv_j, cs_n, cs_i, cs_r, cs_l, Nat.reduceAdd, Nat.reduceLeDiff, true_and, Option.toList_some, Option.toList_none, List.cons_append, List.nil_append, if_true, if_false, nb0, nb1, x_setJ, x_setZ0, x_setZ1, x_setA, x_setO, List.length_cons, List.length_nil, Nat.reduceLT, List.set_cons_succ, List.set_cons_zero, wrl_0, wrl_1, wrl_2, wrl_3, wrl_4, wrl_5, wrl_p0, wrl_p1, wrl_p2, wrl_p3, wrl_p4, w_o, bb]
  refine c_copyB hW (fun ha sA hWa tA => ?_)
  have o_a := hWa.1
  have a_a : ha.2.2 (b + 1) = .inr (8, _) := hWa.2.1.1.1
  have c_a : ha.2.2 (b + 3) = .inr (5, _) := cel_0 hWa.2.2.1.1
  have n_a : ha.2.2 (b + 5) = .inr (9, _) := hWa.2.2.2.1.1.1
  have p_a : ha.2.2 (b + 33) = .inr (6, _) := hWa.2.2.2.2.2.2.2.1.1.1
  have q_a : ha.2.2 (b + 152) = .inr (2, _) := cel_0 hWa.2.2.2.2.2.2.2.2.2.2.2.2.2.2.1.1
  obtain ⟨_, mm_a⟩ := hWa.2.2.2.2.2.2.2.2.2.2.2.2.2.2.2.1.1
  have m_a : ha.2.2 (b + 154) = .inr (4, _) := cel_0 mm_a
  have g_a : ha.2.2 (b + 159) = .inr (1, _) := cel_0 hWa.2.2.2.2.2.2.2.2.2.2.2.2.2.2.2.2.1.1
  have hTa : tc_at ha (b + 5) L W M B (nI n) s g := hWa.2.2.2.1.1
  simp only [s_121_0, s_121_1, s_121_4, s_121_5, s_121_8, s_121_11, s_121_12, s_121_13, s_121_16, s_121_17, s_121_20, s_121_23, x_get_i, List.getElem?_cons_succ, List.getElem?_cons_zero, x_cv_j, cs_n, cs_i, cs_r, cs_l, Nat.reduceAdd, Nat.reduceLeDiff, true_and, Option.toList_some, Option.toList_none, List.cons_append, List.nil_append, if_true, if_false, nb0, nb1, x_setJ, x_setZ0, x_setZ1, x_setA, x_setO, List.length_cons, List.length_nil, Nat.reduceLT, List.set_cons_succ, List.set_cons_zero, wrl_0, wrl_1, wrl_2, wrl_3, wrl_4, wrl_5, wrl_p0, wrl_p1, wrl_p2, wrl_p3, wrl_p4, o_a, a_a, c_a, n_a, p_a, q_a, m_a, g_a]
  have go : ∀ (r : Int32) (W' : Nat → Int32), (∀ a b' Q, tm_D (g_G sa sc xt) (d + 3) 98 [.ref (b + 5), .int v] (tcp ha (b + 5) L W M B (nI n) s g a b') Q ↔ Q (some (.int r)) (tcp ha (b + 5) L W' M B (nI n) s g a b')) → (r < 0 → ∀ h', sm b (b + 162) h h' → CW sa h' b tx rw (L, W', M, B, n, s, g) pa ru he mi ga → Q (some (.int r)) h') → (¬ r < 0 → ∀ h', sm b (b + 162) h h' → CW sa h' b tx rw (L, W', M, B, n, s, g) (pap1 pa (L, W, M, B, n, s, g)) ru he mi ga → Q (some (.int r)) h') → tm_D (g_G sa sc xt) (d + 3) 98 [.ref (b + 5), .int v] ha (fun r h' => tm_X (g_G sa sc xt) (d + 4) 121 20 [.ref b, .int v] (r.toList ++ [.ref b]) h' Q) := by
    intro r W' eq k1 k2
    refine tca_call (T := tcT (L, W, M, B, n, s, g)) (T' := tcT (L, W', M, B, n, s, g)) (r := some (.int r)) hTa eq (fun hb sB tB => ?_)
    have hWb := CW_n (nw' := (L, W', M, B, n, s, g)) hWa sB ⟨tB, w_n.2⟩
    have o_b := hWb.1
    have sAB : sm b (b + 162) h hb := (sA.mono (by omega) (by omega)).trans (sB.mono (by omega) (by omega))
    simp only [s_121_0, s_121_1, s_121_4, s_121_5, s_121_8, s_121_11, s_121_12, s_121_13, s_121_16, s_121_17, s_121_20, s_121_23, x_get_i, List.getElem?_cons_succ, List.getElem?_cons_zero, x_cv_j, cs_n, cs_i, cs_r, cs_l, Nat.reduceAdd, Nat.reduceLeDiff, true_and, Option.toList_some, Option.toList_none, List.cons_append, List.nil_append, if_true, if_false, nb0, nb1, x_setJ, x_setZ0, x_setZ1, x_setA, x_setO, List.length_cons, List.length_nil, Nat.reduceLT, List.set_cons_succ, List.set_cons_zero, wrl_0, wrl_1, wrl_2, wrl_3, wrl_4, wrl_5, wrl_p0, wrl_p1, wrl_p2, wrl_p3, wrl_p4, o_b]
    refine c_undoable hWb (tca_sm sB (by omega) tA) w_n.2 r (fun q => ?_) (fun q hd sD hWd => ?_)
    · simp only [s_121_0, s_121_1, s_121_4, s_121_5, s_121_8, s_121_11, s_121_12, s_121_13, s_121_16, s_121_17, s_121_20, s_121_23, x_get_i, List.getElem?_cons_succ, List.getElem?_cons_zero, x_cv_j, cs_n, cs_i, cs_r, cs_l, Nat.reduceAdd, Nat.reduceLeDiff, true_and, Option.toList_some, Option.toList_none, List.cons_append, List.nil_append, if_true, if_false, nb0, nb1, x_setJ, x_setZ0, x_setZ1, x_setA, x_setO, List.length_cons, List.length_nil, Nat.reduceLT, List.set_cons_succ, List.set_cons_zero, wrl_0, wrl_1, wrl_2, wrl_3, wrl_4, wrl_5, wrl_p0, wrl_p1, wrl_p2, wrl_p3, wrl_p4]
      exact k1 q hb sAB hWb
    · simp only [s_121_0, s_121_1, s_121_4, s_121_5, s_121_8, s_121_11, s_121_12, s_121_13, s_121_16, s_121_17, s_121_20, s_121_23, x_get_i, List.getElem?_cons_succ, List.getElem?_cons_zero, x_cv_j, cs_n, cs_i, cs_r, cs_l, Nat.reduceAdd, Nat.reduceLeDiff, true_and, Option.toList_some, Option.toList_none, List.cons_append, List.nil_append, if_true, if_false, nb0, nb1, x_setJ, x_setZ0, x_setZ1, x_setA, x_setO, List.length_cons, List.length_nil, Nat.reduceLT, List.set_cons_succ, List.set_cons_zero, wrl_0, wrl_1, wrl_2, wrl_3, wrl_4, wrl_5, wrl_p0, wrl_p1, wrl_p2, wrl_p3, wrl_p4]
      exact k2 q hd (sAB.trans (sD.mono (by omega) (by omega))) hWd
  by_cases hv : ∃ j, j < n ∧ v = nI j
  · obtain ⟨j, hj, ej⟩ := hv
    by_cases k1 : W j = 0
    · refine go (-2) W (fun a b' Q => ?_) (fun _ h' s1 w1 => h2 j h' hj ej k1 s1 w1) (fun q => absurd (by decide) q)
      rw [ej, tc_cast1 hn hj, if_pos k1, upd_same k1]
    · refine go (W j) (upd W j 0) (fun a b' Q => ?_) (fun q => absurd q (hpos j hj)) (fun _ h' s1 w1 => h4 j h' hj ej k1 s1 w1)
      rw [ej, tc_cast1 hn hj, if_neg k1]
  · exact go (-1) W (fun a b' Q => tc_cast0 (hasI0 hn hv)) (fun _ h' s1 w1 => h1 h' hv s1 w1) (fun q => absurd (by decide) q)
end
