/-! calls of the class: texts, sets, nights, moves -/
theorem and255 (x : Int32) : ∃ y, y < 256 ∧ x &&& 255 = nI y := by
  refine ⟨x.toBitVec.toNat % 256, Nat.mod_lt _ (by decide), ?_⟩
  apply Int32.toBitVec_inj.mp
  apply BitVec.eq_of_toNat_eq
  rw [Int32.toBitVec_and, BitVec.toNat_and]
  show x.toBitVec.toNat &&& 255 = (BitVec.ofNat 32 (x.toBitVec.toNat % 256)).toNat
  rw [BitVec.toNat_ofNat, Nat.and_two_pow_sub_one_eq_mod x.toBitVec.toNat 8]
  have := Nat.mod_lt x.toBitVec.toNat (show 0 < 2 ^ 8 by decide)
  exact (Nat.mod_eq_of_lt (by omega)).symm
theorem tx_sg_b (v k : Int32) : ∃ y, y < 256 ∧ tx_sg v k = nI y ∧ (v.toUInt32 >>> (k.toUInt32 &&& Int32.toUInt32 31)).toInt32 &&& 255 = nI y := by
  obtain ⟨y, hy, e⟩ := and255 (v.toUInt32 >>> (k.toUInt32 &&& Int32.toUInt32 31)).toInt32
  refine ⟨y, hy, ?_, e⟩
  unfold tx_sg
  rw [e]
  have : ∀ y : Fin 256, vp_nar .char ((nI y.1).toUInt32 % 65536).toInt32 = nI y.1 := by decide +kernel
  exact this ⟨y, hy⟩
theorem TB_upd {F : Nat → Int32} {i : Nat} {v k : Int32} (h : TB F) : TB (upd F i (tx_sg v k)) := by
  intro j hj
  unfold upd
  split
  · obtain ⟨y, hy, e, -⟩ := tx_sg_b v k
    exact ⟨y, hy, e⟩
  · exact h j hj
theorem TB_ap {F : Nat → Int32} {c : Nat} {v : Int32} (h : TB F) : TB (tx_ap F c v) := TB_upd (TB_upd (TB_upd (TB_upd h)))
/-- the row's numbers -/
abbrev rw1 (R : Nat → Int64) (a : Int64) : Nat × (Nat → Int64) := (1, vp_updL R 0 a)
abbrev rw2 (R : Nat → Int64) (a b : Int64) : Nat × (Nat → Int64) := (2, vp_updL (vp_updL R 0 a) 1 b)
abbrev rw3 (R : Nat → Int64) (a b c : Int64) : Nat × (Nat → Int64) := (3, vp_updL (vp_updL (vp_updL R 0 a) 1 b) 2 c)
/-- one more that can be undone -/
abbrev pap1 (pa : Nat × Nat × (Nat → TN) × (Nat → TN) × (Nat → Int32)) (T : TN) : Nat × Nat × (Nat → TN) × (Nat → TN) × (Nat → Int32) := (min 12 (pa.1 + 1), (pa.2.1 + 1) % 12, (fun i => if i = pa.2.1 then T else pa.2.2.1 i), pa.2.2.2.1, pa.2.2.2.2)
/-- does it take them: letters of a text of c signs -/
abbrev tkn (L W : Nat → Int32) (n : Nat) (s : Int32) (F : Nat → Int32) (c : Nat) : Option Int32 := tc_t2 L W n s (lcn F 0 c) 8 0 0
section
variable {sa : g_SA} {sc : Nat × Nat × (Nat → Int32)} {xt : Nat → Nat → List Value → tm_H → Option (Option Value × tm_H)} {d b : Nat} {h : tm_H} {Q : Option Value → tm_H → Prop}
variable {tx : Nat × (Nat → Int32)} {rw : Nat × (Nat → Int64)} {nw : TN} {pa : Nat × Nat × (Nat → TN) × (Nat → TN) × (Nat → Int32)} {ru : Nat × Nat × List Int32} {he : Nat × (Nat → Int32)} {mi : Nat × (Nat → Int32) × (Nat → Int32) × (Nat → Int32)} {ga : Nat}
variable {c n : Nat} {F L W M B : Nat → Int32} {s g : Int32} {rc : Nat} {R : Nat → Int64}
theorem c_sign (hW : CW sa h b (c, F) rw nw pa ru he mi ga) (v : Int32) (h1 : c ≤ 76 → ∀ h', sm b (b + 162) h h' → CW sa h' b (c + 4, tx_ap F c v) rw nw pa ru he mi ga → Q (some (.int (nI (c + 4)))) h') (h2 : ¬ c ≤ 76 → Q (some (.int (-1))) h) : tm_D (g_G sa sc xt) (d + 1) 110 [.ref b, .int v] h Q := by
  obtain ⟨w_o, w_t, w_r, w_n, w_h, w_l, w_b, w_p, w_u, w_v, w_a, w_e, w_w, w_x, w_q, w_m, w_g, w_d, w_s⟩ := id hW
  obtain ⟨t1, t2, t3⟩ := w_t
  have t0 := t1.1
  rw [e_110]
  simp only [s_110_0, s_110_1, s_110_4, s_110_5, s_110_8, x_get_i, List.getElem?_cons_succ, List.getElem?_cons_zero, x_cv_j, cs_n, cs_i, cs_r, cs_l, Nat.reduceAdd, Nat.reduceLeDiff, true_and, Option.toList_some, Option.toList_none, List.cons_append, List.nil_append, if_true, if_false, nb0, nb1, x_setJ, x_setZ0, x_setZ1, x_setA, x_setO, List.length_cons, List.length_nil, Nat.reduceLT, List.set_cons_succ, List.set_cons_zero, wrl_0, wrl_1, wrl_2, wrl_3, wrl_4, wrl_5, wrl_p0, wrl_p1, wrl_p2, wrl_p3, wrl_p4, w_o, t0]
  rw [← tx_eta t1, tx_append t2]
  by_cases c7 : c ≤ 76
  · rw [if_pos c7]
    simp only [s_110_0, s_110_1, s_110_4, s_110_5, s_110_8, x_get_i, List.getElem?_cons_succ, List.getElem?_cons_zero, x_cv_j, cs_n, cs_i, cs_r, cs_l, Nat.reduceAdd, Nat.reduceLeDiff, true_and, Option.toList_some, Option.toList_none, List.cons_append, List.nil_append, if_true, if_false, nb0, nb1, x_setJ, x_setZ0, x_setZ1, x_setA, x_setO, List.length_cons, List.length_nil, Nat.reduceLT, List.set_cons_succ, List.set_cons_zero, wrl_0, wrl_1, wrl_2, wrl_3, wrl_4, wrl_5, wrl_p0, wrl_p1, wrl_p2, wrl_p3, wrl_p4]
    have s1 : sm (b + 1) (b + 3) h (wrl h (b + 1) (txc (b + 1) (nI (c + 4)) (tx_ap F c v))) := sm_wrl (Nat.le_refl _) (Nat.le_refl _)
    exact h1 c7 _ (s1.mono (by omega) (by omega)) (CW_t (tx' := (c + 4, tx_ap F c v)) hW s1 ⟨⟨wrl_0, wrl_1⟩, by show c + 4 ≤ 80; omega, TB_ap t3⟩)
  · rw [if_neg c7, tx_eta t1]
    simp only [s_110_0, s_110_1, s_110_4, s_110_5, s_110_8, x_get_i, List.getElem?_cons_succ, List.getElem?_cons_zero, x_cv_j, cs_n, cs_i, cs_r, cs_l, Nat.reduceAdd, Nat.reduceLeDiff, true_and, Option.toList_some, Option.toList_none, List.cons_append, List.nil_append, if_true, if_false, nb0, nb1, x_setJ, x_setZ0, x_setZ1, x_setA, x_setO, List.length_cons, List.length_nil, Nat.reduceLT, List.set_cons_succ, List.set_cons_zero, wrl_0, wrl_1, wrl_2, wrl_3, wrl_4, wrl_5, wrl_p0, wrl_p1, wrl_p2, wrl_p3, wrl_p4]
    exact h2 c7
theorem c_end (hW : CW sa h b (c, F) rw nw pa ru he mi ga) (v : Int32) (h1 : ∀ j h', j ≤ c → v = nI j → sm b (b + 162) h h' → CW sa h' b (j, F) rw nw pa ru he mi ga → Q (some (.int 1)) h') (h2 : (v < 0 ∨ nI c < v) → Q (some (.int 0)) h) : tm_D (g_G sa sc xt) (d + 1) 111 [.ref b, .int v] h Q := by
  obtain ⟨w_o, w_t, w_r, w_n, w_h, w_l, w_b, w_p, w_u, w_v, w_a, w_e, w_w, w_x, w_q, w_m, w_g, w_d, w_s⟩ := id hW
  obtain ⟨t1, t2, t3⟩ := w_t
  have t0 := t1.1
  rw [e_111]
  simp only [s_111_0, s_111_1, s_111_4, s_111_5, s_111_8, x_get_i, List.getElem?_cons_succ, List.getElem?_cons_zero, x_cv_j, cs_n, cs_i, cs_r, cs_l, Nat.reduceAdd, Nat.reduceLeDiff, true_and, Option.toList_some, Option.toList_none, List.cons_append, List.nil_append, if_true, if_false, nb0, nb1, x_setJ, x_setZ0, x_setZ1, x_setA, x_setO, List.length_cons, List.length_nil, Nat.reduceLT, List.set_cons_succ, List.set_cons_zero, wrl_0, wrl_1, wrl_2, wrl_3, wrl_4, wrl_5, wrl_p0, wrl_p1, wrl_p2, wrl_p3, wrl_p4, w_o, t0]
  rw [tx_cut' t1 t2]
  by_cases c1 : v < 0
  · rw [if_pos c1]
    simp only [s_111_0, s_111_1, s_111_4, s_111_5, s_111_8, x_get_i, List.getElem?_cons_succ, List.getElem?_cons_zero, x_cv_j, cs_n, cs_i, cs_r, cs_l, Nat.reduceAdd, Nat.reduceLeDiff, true_and, Option.toList_some, Option.toList_none, List.cons_append, List.nil_append, if_true, if_false, nb0, nb1, x_setJ, x_setZ0, x_setZ1, x_setA, x_setO, List.length_cons, List.length_nil, Nat.reduceLT, List.set_cons_succ, List.set_cons_zero, wrl_0, wrl_1, wrl_2, wrl_3, wrl_4, wrl_5, wrl_p0, wrl_p1, wrl_p2, wrl_p3, wrl_p4]
    exact h2 (Or.inl c1)
  rw [if_neg c1]
  by_cases c2 : nI c < v
  · rw [if_pos c2]
    simp only [s_111_0, s_111_1, s_111_4, s_111_5, s_111_8, x_get_i, List.getElem?_cons_succ, List.getElem?_cons_zero, x_cv_j, cs_n, cs_i, cs_r, cs_l, Nat.reduceAdd, Nat.reduceLeDiff, true_and, Option.toList_some, Option.toList_none, List.cons_append, List.nil_append, if_true, if_false, nb0, nb1, x_setJ, x_setZ0, x_setZ1, x_setA, x_setO, List.length_cons, List.length_nil, Nat.reduceLT, List.set_cons_succ, List.set_cons_zero, wrl_0, wrl_1, wrl_2, wrl_3, wrl_4, wrl_5, wrl_p0, wrl_p1, wrl_p2, wrl_p3, wrl_p4]
    exact h2 (Or.inr c2)
  rw [if_neg c2]
  simp only [s_111_0, s_111_1, s_111_4, s_111_5, s_111_8, x_get_i, List.getElem?_cons_succ, List.getElem?_cons_zero, x_cv_j, cs_n, cs_i, cs_r, cs_l, Nat.reduceAdd, Nat.reduceLeDiff, true_and, Option.toList_some, Option.toList_none, List.cons_append, List.nil_append, if_true, if_false, nb0, nb1, x_setJ, x_setZ0, x_setZ1, x_setA, x_setO, List.length_cons, List.length_nil, Nat.reduceLT, List.set_cons_succ, List.set_cons_zero, wrl_0, wrl_1, wrl_2, wrl_3, wrl_4, wrl_5, wrl_p0, wrl_p1, wrl_p2, wrl_p3, wrl_p4]
  obtain ⟨j, hj, e⟩ := nI_of c1
  have hjc : j ≤ c := by
    apply Nat.not_lt.mp
    intro q
    apply c2
    rw [e]
    exact nI_lt q hj
  have s1 : sm (b + 1) (b + 3) h (wrl h (b + 1) (txc (b + 1) v F)) := sm_wrl (Nat.le_refl _) (Nat.le_refl _)
  exact h1 j _ hjc e (s1.mono (by omega) (by omega)) (CW_t (tx' := (j, F)) hW s1 ⟨⟨by rw [e]; exact wrl_0, wrl_1⟩, by show j ≤ 80; exact Nat.le_trans hjc t2, t3⟩)
/-- the text is emptied -/
theorem c_tclear (hW : CW sa h b (c, F) rw nw pa ru he mi ga) (hQ : ∀ h', sm (b + 1) (b + 3) h h' → CW sa h' b (0, F) rw nw pa ru he mi ga → Q none h') : tm_D (g_G sa sc xt) d 66 [.ref (b + 1)] h Q := by
  obtain ⟨w_o, w_t, w_r, w_n, w_h, w_l, w_b, w_p, w_u, w_v, w_a, w_e, w_w, w_x, w_q, w_m, w_g, w_d, w_s⟩ := id hW
  obtain ⟨t1, t2, t3⟩ := w_t
  rw [tx_clear' t1]
  have s1 : sm (b + 1) (b + 3) h (wrl h (b + 1) (txc (b + 1) 0 F)) := sm_wrl (Nat.le_refl _) (Nat.le_refl _)
  exact hQ _ s1 (CW_t (tx' := (0, F)) hW s1 ⟨⟨wrl_0, wrl_1⟩, Nat.zero_le _, t3⟩)
theorem c_tell1 (hW : CW sa h b tx (rc, R) nw pa ru he mi ga) (x : Int64) (hQ : ∀ h', sm (b + 3) (b + 5) h h' → CW sa h' b tx (rw1 R x) nw pa ru he mi ga → Q none h') : tm_D (g_G sa sc xt) (d + 1) 38 [.ref (b + 3), .long x] h Q := by
  obtain ⟨w_o, w_t, w_r, w_n, w_h, w_l, w_b, w_p, w_u, w_v, w_a, w_e, w_w, w_x, w_q, w_m, w_g, w_d, w_s⟩ := id hW
  refine cel_call (n := 2) w_r.1 rfl (fun Q => nu_tell1 x) (fun h1 s1 c1 => ?_)
  exact hQ _ s1 (CW_r (rw' := rw1 R x) hW s1 ⟨c1, Nat.le_of_ble_eq_true rfl⟩)
theorem c_tell2 (hW : CW sa h b tx (rc, R) nw pa ru he mi ga) (x y : Int64) (hQ : ∀ h', sm (b + 3) (b + 5) h h' → CW sa h' b tx (rw2 R x y) nw pa ru he mi ga → Q none h') : tm_D (g_G sa sc xt) (d + 2) 39 [.ref (b + 3), .long x, .long y] h Q := by
  obtain ⟨w_o, w_t, w_r, w_n, w_h, w_l, w_b, w_p, w_u, w_v, w_a, w_e, w_w, w_x, w_q, w_m, w_g, w_d, w_s⟩ := id hW
  refine cel_call (n := 2) w_r.1 rfl (fun Q => nu_tell2 x y) (fun h1 s1 c1 => ?_)
  exact hQ _ s1 (CW_r (rw' := rw2 R x y) hW s1 ⟨c1, Nat.le_of_ble_eq_true rfl⟩)
theorem c_tell3 (hW : CW sa h b tx (rc, R) nw pa ru he mi ga) (x y z : Int64) (hQ : ∀ h', sm (b + 3) (b + 5) h h' → CW sa h' b tx (rw3 R x y z) nw pa ru he mi ga → Q none h') : tm_D (g_G sa sc xt) (d + 3) 40 [.ref (b + 3), .long x, .long y, .long z] h Q := by
  obtain ⟨w_o, w_t, w_r, w_n, w_h, w_l, w_b, w_p, w_u, w_v, w_a, w_e, w_w, w_x, w_q, w_m, w_g, w_d, w_s⟩ := id hW
  refine cel_call (n := 2) w_r.1 rfl (fun Q => nu_tell3 x y z) (fun h1 s1 c1 => ?_)
  exact hQ _ s1 (CW_r (rw' := rw3 R x y z) hW s1 ⟨c1, Nat.le_of_ble_eq_true rfl⟩)
theorem c_rclear (hW : CW sa h b tx (rc, R) nw pa ru he mi ga) (hQ : ∀ h', sm (b + 3) (b + 5) h h' → CW sa h' b tx (0, R) nw pa ru he mi ga → Q none h') : tm_D (g_G sa sc xt) d 36 [.ref (b + 3)] h Q := by
  obtain ⟨w_o, w_t, w_r, w_n, w_h, w_l, w_b, w_p, w_u, w_v, w_a, w_e, w_w, w_x, w_q, w_m, w_g, w_d, w_s⟩ := id hW
  refine cel_call (n := 2) w_r.1 rfl (fun Q => nu_clear) (fun h1 s1 c1 => ?_)
  exact hQ _ s1 (CW_r (rw' := (0, R)) hW s1 ⟨c1, Nat.le_of_ble_eq_true rfl⟩)
theorem c_radd (hW : CW sa h b tx (rc, R) nw pa ru he mi ga) (hr : rc < 14) (x : Int64) (hQ : ∀ h', sm (b + 3) (b + 5) h h' → CW sa h' b tx (rc + 1, vp_updL R rc x) nw pa ru he mi ga → Q none h') : tm_D (g_G sa sc xt) d 37 [.ref (b + 3), .long x] h Q := by
  obtain ⟨w_o, w_t, w_r, w_n, w_h, w_l, w_b, w_p, w_u, w_v, w_a, w_e, w_w, w_x, w_q, w_m, w_g, w_d, w_s⟩ := id hW
  refine cel_call (n := 2) w_r.1 rfl (fun Q => nu_add hr x) (fun h1 s1 c1 => ?_)
  exact hQ _ s1 (CW_r (rw' := (rc + 1, vp_updL R rc x)) hW s1 ⟨c1, hr⟩)
theorem c_push {k : Nat} {T : TN} (hW : CW sa h b tx rw nw pa ru he mi ga) (hT : tca h k (tcT T)) (hk : k = b + 5 ∨ k = b + 26) (hwf : WFT T) (hQ : ∀ h', sm (b + 33) (b + 135) h h' → CW sa h' b tx rw nw (pap1 pa T) ru he mi ga → Q none h') : tm_D (g_G sa sc xt) (d + 2) 47 [.ref (b + 33), .ref k] h Q := by
  obtain ⟨w_o, w_t, w_r, w_n, w_h, w_l, w_b, w_p, w_u, w_v, w_a, w_e, w_w, w_x, w_q, w_m, w_g, w_d, w_s⟩ := id hW
  obtain ⟨p1, p2, p3, p4, p5⟩ := w_p
  refine pa_push p1 p2 p3 hT (by omega) (fun h1 s1 q1 => ?_)
  refine hQ _ s1 (CW_p (pa' := pap1 pa T) hW s1 ⟨?_, Nat.min_le_left _ _, Nat.mod_lt _ (by decide), fun i => ?_, p5⟩)
  · have e : (fun i => if i = pa.2.1 then tcT T else tcT (pa.2.2.1 i)) = fun i => tcT (if i = pa.2.1 then T else pa.2.2.1 i) := by
      funext i
      split <;> rfl
    rw [e] at q1
    exact q1
  · dsimp only
    split
    · exact hwf
    · exact p4 i
theorem c_isMood (v : Int32) : tm_D (g_G sa sc xt) d 156 [.int v] h Q ↔ Q (some (.int (if v < -9 then 0 else if 9 < v then 0 else 1))) h := by
  rw [e_156]
  simp only [s_156_0, s_156_1, s_156_3, s_156_6, s_156_7, s_156_9, s_156_12, s_156_13, s_156_16, s_156_17, x_get_i, List.getElem?_cons_succ, List.getElem?_cons_zero, x_cv_j, cs_n, cs_i, cs_r, cs_l, Nat.reduceAdd, Nat.reduceLeDiff, true_and, Option.toList_some, Option.toList_none, List.cons_append, List.nil_append, if_true, if_false, nb0, nb1, x_setJ, x_setZ0, x_setZ1, x_setA, x_setO, List.length_cons, List.length_nil, Nat.reduceLT, List.set_cons_succ, List.set_cons_zero, wrl_0, wrl_1, wrl_2, wrl_3, wrl_4, wrl_5, wrl_p0, wrl_p1, wrl_p2, wrl_p3, wrl_p4]
  simp only [q_ite (Q := Q)]
theorem c_readLetters (hW : CW sa h b (c, F) rw nw pa ru he mi ga) (hQ : ∀ h' N P p, sm b (b + 162) h h' → CW sa h' b (0, F) rw nw pa ru he mi ga → cel h' (b + 143) (lec (b + 143) (LN N F 0 ((lrd F 0 c 0).getD c)) P (nI ((lrd F 0 c 0).getD c)) p) → Q (some (.int (oI (lrd F 0 c 0)))) h') : tm_D (g_G sa sc xt) (d + 3) 159 [.ref b] h Q := by
  obtain ⟨w_o, w_t, w_r, w_n, w_h, w_l, w_b, w_p, w_u, w_v, w_a, w_e, w_w, w_x, w_q, w_m, w_g, w_d, w_s⟩ := id hW
  obtain ⟨t1, t2, t3⟩ := w_t
  obtain ⟨N, P, z, p, q⟩ := w_e
  have t0 := t1.1
  have q0 := cel_0 q
  rw [e_159]
  simp only [s_159_0, s_159_1, s_159_4, s_159_5, s_159_8, s_159_9, s_159_10, s_159_13, s_159_16, s_159_19, s_159_20, s_159_21, s_159_24, s_159_27, s_159_28, x_get_i, List.getElem?_cons_succ, List.getElem?_cons_zero, x_cv_j, cs_n, cs_i, cs_r, cs_l, Nat.reduceAdd, Nat.reduceLeDiff, true_and, Option.toList_some, Option.toList_none, List.cons_append, List.nil_append, if_true, if_false, nb0, nb1, x_setJ, x_setZ0, x_setZ1, x_setA, x_setO, List.length_cons, List.length_nil, Nat.reduceLT, List.set_cons_succ, List.set_cons_zero, wrl_0, wrl_1, wrl_2, wrl_3, wrl_4, wrl_5, wrl_p0, wrl_p1, wrl_p2, wrl_p3, wrl_p4, w_o, t0, tx_size' t1, q0]
  refine cel_call (n := 3) (cs' := lec (b + 143) (LN N F 0 ((lrd F 0 c 0).getD c)) P (nI ((lrd F 0 c 0).getD c)) p) (r := some (.int (oI (lrd F 0 c 0)))) q rfl (fun Q => ?_) (fun h1 s1 c1 => ?_)
  · have er := le_read (sa := sa) (sc := sc) (xt := xt) (d := d) (h := h) (Q := Q) (N := N) (P := P) (z := z) (p := p) (q := b + 143) (f := 0) t1 t2 (by omega) (Nat.zero_le c) (Nat.le_refl c)
    rw [Nat.sub_zero, Nat.sub_zero] at er
    exact er
  have hW1 := CW_e hW s1 ⟨_, _, _, _, c1⟩
  have o1 := hW1.1
  have t01 := hW1.2.1.1.1
  simp only [s_159_0, s_159_1, s_159_4, s_159_5, s_159_8, s_159_9, s_159_10, s_159_13, s_159_16, s_159_19, s_159_20, s_159_21, s_159_24, s_159_27, s_159_28, x_get_i, List.getElem?_cons_succ, List.getElem?_cons_zero, x_cv_j, cs_n, cs_i, cs_r, cs_l, Nat.reduceAdd, Nat.reduceLeDiff, true_and, Option.toList_some, Option.toList_none, List.cons_append, List.nil_append, if_true, if_false, nb0, nb1, x_setJ, x_setZ0, x_setZ1, x_setA, x_setO, List.length_cons, List.length_nil, Nat.reduceLT, List.set_cons_succ, List.set_cons_zero, wrl_0, wrl_1, wrl_2, wrl_3, wrl_4, wrl_5, wrl_p0, wrl_p1, wrl_p2, wrl_p3, wrl_p4, o1, t01]
  refine c_tclear hW1 (fun h2 s2 hW2 => ?_)
  simp only [s_159_0, s_159_1, s_159_4, s_159_5, s_159_8, s_159_9, s_159_10, s_159_13, s_159_16, s_159_19, s_159_20, s_159_21, s_159_24, s_159_27, s_159_28, x_get_i, List.getElem?_cons_succ, List.getElem?_cons_zero, x_cv_j, cs_n, cs_i, cs_r, cs_l, Nat.reduceAdd, Nat.reduceLeDiff, true_and, Option.toList_some, Option.toList_none, List.cons_append, List.nil_append, if_true, if_false, nb0, nb1, x_setJ, x_setZ0, x_setZ1, x_setA, x_setO, List.length_cons, List.length_nil, Nat.reduceLT, List.set_cons_succ, List.set_cons_zero, wrl_0, wrl_1, wrl_2, wrl_3, wrl_4, wrl_5, wrl_p0, wrl_p1, wrl_p2, wrl_p3, wrl_p4]
  exact hQ h2 N P p ((s1.mono (by omega) (by omega)).trans (s2.mono (by omega) (by omega))) hW2 (cel_sm s2 (by omega) c1)
theorem lcn_100 {m x : Nat} (hm : m ≤ 80) : lcn F 0 m x < 100 := by
  have := lcn_le (F := F) (f := 0) (x := x) (m := m)
  omega
theorem c_take {m : Nat} {N P : Nat → Int32} {p : Int32} (hW : CW sa h b tx rw (L, W, M, B, n, s, g) pa ru he mi ga) (hc : cel h (b + 143) (lec (b + 143) (LN N F 0 m) P (nI m) p)) (hm : m ≤ 80) : tm_D (g_G sa sc xt) (d + 2) 93 [.ref (b + 5), .ref (b + 143)] h Q ↔ Q (some (.int (o2 (tkn L W n s F m)))) h := by
  have hT : tc_at h (b + 5) L W M B (nI n) s g := hW.2.2.2.1.1
  have hn : n ≤ 12 := hW.2.2.2.1.2.1
  exact tc_wouldTake hT hn (cel_0 hc) (cel_1 hc) (fun i hi => ⟨if_pos hi, lcn_100 hm⟩)
/-- bits that are taken are below 12 -/
theorem t1_b {own W : Nat → Int32} {n : Nat} {s x : Int32} (hn : n ≤ 12) : ∀ {m : Nat} {t t' : Int32}, (∀ i, 12 ≤ i → i < 32 → bt t i = false) → tc_t1 own W n s x m t = some t' → ∀ i, 12 ≤ i → i < 32 → bt t' i = false
  | 0, t, t', h, e => by cases e; exact h
  | m + 1, t, t', h, e => by
    unfold tc_t1 at e
    split at e
    · cases e
    · rename_i j hj
      refine t1_b hn (fun i h1 h2 => ?_) e
      have hj := tc_lw_lt hj
      rw [bt_or, h i h1 h2, bt_one (by omega) h2, decide_eq_false (by omega)]; rfl
theorem t2_b {L W : Nat → Int32} {n : Nat} {s : Int32} {c : Nat → Nat} (hn : n ≤ 12) : ∀ {m l : Nat} {t t' : Int32}, (∀ i, 12 ≤ i → i < 32 → bt t i = false) → tc_t2 L W n s c m l t = some t' → ∀ i, 12 ≤ i → i < 32 → bt t' i = false
  | 0, l, t, t', h, e => by cases e; exact h
  | m + 1, l, t, t', h, e => by
    unfold tc_t2 at e
    split at e
    · cases e
    · rename_i t1 ht
      exact t2_b hn (t1_b hn h ht) e
theorem tkn_ne {L W : Nat → Int32} {n : Nat} {s : Int32} {F : Nat → Int32} {c : Nat} (hn : n ≤ 12) {t : Int32} (h : tkn L W n s F c = some t) : ¬ t = -1 := by
  intro e
  have := t2_b hn (fun i _ _ => bt_0) h 31 (by decide) (by decide)
  rw [e, bt_m1 (by decide)] at this
  cases this
end
