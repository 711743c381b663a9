/-! calls of the class: rule, galley, rests, parts, reads -/
section
variable {sa : g_SA} {h h' : tm_H} {b r1 r2 : Nat} {cd0 cd : List Int32} {tx : Nat × (Nat → Int32)} {rw : Nat × (Nat → Int64)} {nw : TN} {pa : Nat × Nat × (Nat → TN) × (Nat → TN) × (Nat → Int32)} {he : Nat × (Nat → Int32)} {mi : Nat × (Nat → Int32) × (Nat → Int32) × (Nat → Int32)} {ga : Nat}
theorem CW_swap (hW : CW sa h b tx rw nw pa (r1, r2, cd0) he mi ga) (hs : sm b (b + 1) h h') (hO : h'.2.2 b = cob b r2 r1) (hR : RUc h r2 cd) : CW sa h' b tx rw nw pa (r2, r1, cd) he mi ga := by
  obtain ⟨w_o, w_t, w_r, w_n, w_h, w_l, w_b, w_p, w_u, w_v, w_a, w_e, w_w, w_x, w_q, w_m, w_g, w_d, w_s⟩ := hW
  have w_a1 : (r1 = b + 135 ∧ r2 = b + 139) ∨ (r1 = b + 139 ∧ r2 = b + 135) := w_a
  have w_a2 : (r2 = b + 135 ∧ r1 = b + 139) ∨ (r2 = b + 139 ∧ r1 = b + 135) := by omega
  exact ⟨hO, ⟨tx_sm hs (by omega) w_t.1, w_t.2⟩, ⟨cel_sm hs (by simp only [List.length_cons, List.length_nil]; omega) w_r.1, w_r.2⟩, ⟨tca_sm hs (by omega) w_n.1, w_n.2⟩, (let ⟨T, q⟩ := w_h; ⟨T, tca_sm hs (by omega) q⟩), (let ⟨T, q⟩ := w_l; ⟨T, tca_sm hs (by omega) q⟩), (let ⟨T, q⟩ := w_b; ⟨T, tca_sm hs (by omega) q⟩), ⟨pa_in_sm hs (by omega) w_p.1, w_p.2⟩, RUc_sm hs (by show r2 + 4 ≤ b ∨ b + 1 ≤ r2; omega) hR, RUs_sm hs (by show r1 + 4 ≤ b ∨ b + 1 ≤ r1; omega) (RUc_s w_u), w_a2, (let ⟨N, P, z, p, q⟩ := w_e; ⟨N, P, z, p, cel_sm hs (by simp only [List.length_cons, List.length_nil]; omega) q⟩), (let ⟨N, T, z, q⟩ := w_w; ⟨N, T, z, cel_sm hs (by simp only [List.length_cons, List.length_nil]; omega) q⟩), (let ⟨P, A, q⟩ := w_x; ⟨P, A, cel_sm hs (by simp only [List.length_cons, List.length_nil]; omega) q⟩), ⟨cel_sm hs (by simp only [List.length_cons, List.length_nil]; omega) w_q.1, w_q.2⟩, ⟨(let ⟨A, q⟩ := w_m.1; ⟨A, cel_sm hs (by simp only [List.length_cons, List.length_nil]; omega) q⟩), w_m.2⟩, ⟨cel_sm hs (by simp only [List.length_cons, List.length_nil]; omega) w_g.1, w_g.2⟩, (let ⟨f, q⟩ := w_d; ⟨f, (hs.2.2 _ (by omega)).trans q⟩), ⟨SH_sm w_s.2 (by omega) hs w_s.1, w_s.2⟩⟩
end
def gtl (n : Nat) (R : Nat → Int64) : Nat × (Nat → Int64) := if gwl n = -1 then (0, R) else rw1 R (gwl n).toInt64
def sel (v o t : Int32) : Int32 := (if o ≤ t then (if t ≤ o then 2 * v / 3 else v / 2) else v) - o - (if o + t < 10 then 0 else 1)
def ict (v o t : Int32) : Nat → Nat → Bool
  | 0, _ => true
  | j + 1, k => if sel v (nI k) t ≤ sel v o t then ict v o t j (k + 1) else false
def rsi (v : Int32) (x : Nat) : Nat → Nat → Nat × Nat × (Nat → Int64) → Nat × Nat × (Nat → Int64)
  | 0, _, a => a
  | j + 1, y, a => rsi v x j (y + 1) (if ict v (nI x) (nI y) 10 0 && ict v (nI y) (nI x) 10 0 then (a.1 + 1, if a.1 = 0 then rw2 a.2.2 (nI x).toInt64 (nI y).toInt64 else a.2) else a)
def rso (v : Int32) : Nat → Nat → Nat × Nat × (Nat → Int64) → Nat × Nat × (Nat → Int64)
  | 0, _, a => a
  | j + 1, x, a => rso v j (x + 1) (rsi v x 10 0 a)
theorem rsi_le {v : Int32} {x : Nat} : ∀ {j y : Nat} {a : Nat × Nat × (Nat → Int64)}, (rsi v x j y a).1 ≤ a.1 + j
  | 0, y, a => Nat.le_refl _
  | j + 1, y, a => by
    unfold rsi
    have := rsi_le (v := v) (x := x) (j := j) (y := y + 1) (a := if ict v (nI x) (nI y) 10 0 && ict v (nI y) (nI x) 10 0 then (a.1 + 1, if a.1 = 0 then rw2 a.2.2 (nI x).toInt64 (nI y).toInt64 else a.2) else a)
    refine Nat.le_trans this ?_
    split
    · show a.1 + 1 + j ≤ _; omega
    · omega
/-- the greatest common divisor, by at most j steps -/
def cdv : Nat → Int64 → Int64 → Int64
  | 0, a, _ => a
  | j + 1, a, b => if b = 0 then a else cdv j b (a - a / b * b)
def rdo (p : Int32) : Nat → Int64 := fo (fun _ x => x * (10 - p).toInt64) 1
def rda : Nat → Int64 := fo (fun _ x => x * 10) 10
def rdr (p : Int32) (c : Nat) : Int64 := rdo p (c - 1) * (10 - p).toInt64 + (nI c * p).toInt64 * rdo p (c - 1)
def rdc (p : Int32) (c : Nat) : Int64 := cdv 200 (rda (c - 1)) (rdr p c)
def lN8 (Pl : Nat → Int32) (R : Nat → Int64) : Nat → Nat × (Nat → Int64) := fo (fun i a => (a.1 + 1, vp_updL a.2 a.1 (Pl i).toInt64)) (0, R)
theorem lN8_1 {Pl : Nat → Int32} {R : Nat → Int64} : ∀ i, (lN8 Pl R i).1 = i
  | 0 => rfl
  | i + 1 => by
    show (lN8 Pl R i).1 + 1 = i + 1
    rw [lN8_1 i]
section
variable {sa : g_SA} {sc : Nat × Nat × (Nat → Int32)} {xt : Nat → Nat → List Value → tm_H → Option (Option Value × tm_H)} {d b : Nat} {h : tm_H} {Q : Option Value → tm_H → Prop}
variable {tx : Nat × (Nat → Int32)} {rw : Nat × (Nat → Int64)} {nw : TN} {pa : Nat × Nat × (Nat → TN) × (Nat → TN) × (Nat → Int32)} {ru : Nat × Nat × List Int32} {he : Nat × (Nat → Int32)} {mi : Nat × (Nat → Int32) × (Nat → Int32) × (Nat → Int32)} {ga : Nat}
variable {c n m : Nat} {F L W M B H Ms Bs Os : Nat → Int32} {s g : Int32} {rc hc mc : Nat} {R : Nat → Int64} {r1 r2 : Nat} {cd0 : List Int32}
theorem c_galley (hW : CW sa h b tx (rc, R) nw pa ru he mi ga) (v : Int32) (h1 : (v < 0 ∨ 60 < v) → Q (some (.int (-1))) h) (h2 : ∀ k h', k ≤ 60 → v = nI k → sm b (b + 162) h h' → CW sa h' b tx (gtl k R) nw pa ru he mi (max k ga) → Q (some (.int (if gwl k = -1 then 0 else 1))) h') : tm_D (g_G sa sc xt) (d + 4) 148 [.ref b, .int v] h Q := by
  obtain ⟨w_o, w_t, w_r, w_n, w_h, w_l, w_b, w_p, w_u, w_v, w_a, w_e, w_w, w_x, w_q, w_m, w_g, w_d, w_s⟩ := id hW
  have o_0 := hW.1
  have a_0 : h.2.2 (b + 1) = .inr (8, _) := hW.2.1.1.1
  have c_0 : h.2.2 (b + 3) = .inr (5, _) := cel_0 hW.2.2.1.1
  have n_0 : h.2.2 (b + 5) = .inr (9, _) := hW.2.2.2.1.1.1
  have p_0 : h.2.2 (b + 33) = .inr (6, _) := hW.2.2.2.2.2.2.2.1.1.1
  have q_0 : h.2.2 (b + 152) = .inr (2, _) := cel_0 hW.2.2.2.2.2.2.2.2.2.2.2.2.2.2.1.1
  obtain ⟨_, mm_0⟩ := hW.2.2.2.2.2.2.2.2.2.2.2.2.2.2.2.1.1
  have m_0 : h.2.2 (b + 154) = .inr (4, _) := cel_0 mm_0
  have g_0 : h.2.2 (b + 159) = .inr (1, _) := cel_0 hW.2.2.2.2.2.2.2.2.2.2.2.2.2.2.2.2.1.1
  rw [e_148]
  simp only [s_148_0, s_148_1, s_148_4, s_148_5, s_148_7, s_148_10, s_148_11, s_148_12, s_148_13, s_148_16, s_148_17, s_148_20, s_148_21, s_148_22, s_148_25, s_148_28, s_148_29, s_148_30, s_148_33, s_148_34, s_148_37, s_148_38, s_148_39, s_148_42, s_148_43, s_148_44, s_148_47, s_148_48, s_148_51, s_148_52, x_get_i, List.getElem?_cons_succ, List.getElem?_cons_zero, x_cv_j, cs_n, cs_i, cs_r, cs_l, Nat.reduceAdd, Nat.reduceLeDiff, true_and, Option.toList_some, Option.toList_none, List.cons_append, List.nil_append, if_true, if_false, nb0, nb1, x_setJ, x_setZ0, x_setZ1, x_setA, x_setO, List.length_cons, List.length_nil, Nat.reduceLT, List.set_cons_succ, List.set_cons_zero, wrl_0, wrl_1, wrl_2, wrl_3, wrl_4, wrl_5, wrl_p0, wrl_p1, wrl_p2, wrl_p3, wrl_p4]
  by_cases k1 : v < 0
  · simp only [k1, if_true]
    exact h1 (Or.inl k1)
  by_cases k2 : v ≤ 60
  · obtain ⟨k, hk, ek⟩ := nI_of2 (n := 60) (by decide) k1 k2
    subst ek
    simp only [k1, k2, if_true, if_false, s_148_0, s_148_1, s_148_4, s_148_5, s_148_7, s_148_10, s_148_11, s_148_12, s_148_13, s_148_16, s_148_17, s_148_20, s_148_21, s_148_22, s_148_25, s_148_28, s_148_29, s_148_30, s_148_33, s_148_34, s_148_37, s_148_38, s_148_39, s_148_42, s_148_43, s_148_44, s_148_47, s_148_48, s_148_51, s_148_52, x_get_i, List.getElem?_cons_succ, List.getElem?_cons_zero, x_cv_j, cs_n, cs_i, cs_r, cs_l, Nat.reduceAdd, Nat.reduceLeDiff, true_and, Option.toList_some, Option.toList_none, List.cons_append, List.nil_append, if_true, if_false, nb0, nb1, x_setJ, x_setZ0, x_setZ1, x_setA, x_setO, List.length_cons, List.length_nil, Nat.reduceLT, List.set_cons_succ, List.set_cons_zero, wrl_0, wrl_1, wrl_2, wrl_3, wrl_4, wrl_5, wrl_p0, wrl_p1, wrl_p2, wrl_p3, wrl_p4, o_0, a_0, c_0, n_0, p_0, q_0, m_0, g_0]
    refine cel_call (n := 2) w_g.1 rfl (fun Q => ga_left hk w_g.2) (fun ha sA cA => ?_)
    have hWa := CW_g (ga' := max k ga) hW sA ⟨cA, by have := w_g.2; omega⟩
    have o_a := hWa.1
    have a_a : ha.2.2 (b + 1) = .inr (8, _) := hWa.2.1.1.1
    have c_a : ha.2.2 (b + 3) = .inr (5, _) := cel_0 hWa.2.2.1.1
    have n_a : ha.2.2 (b + 5) = .inr (9, _) := hWa.2.2.2.1.1.1
    have p_a : ha.2.2 (b + 33) = .inr (6, _) := hWa.2.2.2.2.2.2.2.1.1.1
    have q_a : ha.2.2 (b + 152) = .inr (2, _) := cel_0 hWa.2.2.2.2.2.2.2.2.2.2.2.2.2.2.1.1
    obtain ⟨_, mm_a⟩ := hWa.2.2.2.2.2.2.2.2.2.2.2.2.2.2.2.1.1
    have m_a : ha.2.2 (b + 154) = .inr (4, _) := cel_0 mm_a
    have g_a : ha.2.2 (b + 159) = .inr (1, _) := cel_0 hWa.2.2.2.2.2.2.2.2.2.2.2.2.2.2.2.2.1.1
    simp only [s_148_0, s_148_1, s_148_4, s_148_5, s_148_7, s_148_10, s_148_11, s_148_12, s_148_13, s_148_16, s_148_17, s_148_20, s_148_21, s_148_22, s_148_25, s_148_28, s_148_29, s_148_30, s_148_33, s_148_34, s_148_37, s_148_38, s_148_39, s_148_42, s_148_43, s_148_44, s_148_47, s_148_48, s_148_51, s_148_52, x_get_i, List.getElem?_cons_succ, List.getElem?_cons_zero, x_cv_j, cs_n, cs_i, cs_r, cs_l, Nat.reduceAdd, Nat.reduceLeDiff, true_and, Option.toList_some, Option.toList_none, List.cons_append, List.nil_append, if_true, if_false, nb0, nb1, x_setJ, x_setZ0, x_setZ1, x_setA, x_setO, List.length_cons, List.length_nil, Nat.reduceLT, List.set_cons_succ, List.set_cons_zero, wrl_0, wrl_1, wrl_2, wrl_3, wrl_4, wrl_5, wrl_p0, wrl_p1, wrl_p2, wrl_p3, wrl_p4, o_a, a_a, c_a, n_a, p_a, q_a, m_a, g_a]
    refine c_rclear hWa (fun hb sB hWb => ?_)
    have o_b := hWb.1
    have a_b : hb.2.2 (b + 1) = .inr (8, _) := hWb.2.1.1.1
    have c_b : hb.2.2 (b + 3) = .inr (5, _) := cel_0 hWb.2.2.1.1
    have n_b : hb.2.2 (b + 5) = .inr (9, _) := hWb.2.2.2.1.1.1
    have p_b : hb.2.2 (b + 33) = .inr (6, _) := hWb.2.2.2.2.2.2.2.1.1.1
    have q_b : hb.2.2 (b + 152) = .inr (2, _) := cel_0 hWb.2.2.2.2.2.2.2.2.2.2.2.2.2.2.1.1
    obtain ⟨_, mm_b⟩ := hWb.2.2.2.2.2.2.2.2.2.2.2.2.2.2.2.1.1
    have m_b : hb.2.2 (b + 154) = .inr (4, _) := cel_0 mm_b
    have g_b : hb.2.2 (b + 159) = .inr (1, _) := cel_0 hWb.2.2.2.2.2.2.2.2.2.2.2.2.2.2.2.2.1.1
    have sAB := (sA.mono (lo' := b) (hi' := b + 162) (by omega) (by omega)).trans (sB.mono (lo' := b) (hi' := b + 162) (by omega) (by omega))
    have h2 := h2 k
    unfold gtl at h2
    by_cases k3 : gwl k = -1
    · rw [if_pos k3, if_pos k3] at h2
      simp only [s_148_0, s_148_1, s_148_4, s_148_5, s_148_7, s_148_10, s_148_11, s_148_12, s_148_13, s_148_16, s_148_17, s_148_20, s_148_21, s_148_22, s_148_25, s_148_28, s_148_29, s_148_30, s_148_33, s_148_34, s_148_37, s_148_38, s_148_39, s_148_42, s_148_43, s_148_44, s_148_47, s_148_48, s_148_51, s_148_52, x_get_i, List.getElem?_cons_succ, List.getElem?_cons_zero, x_cv_j, cs_n, cs_i, cs_r, cs_l, Nat.reduceAdd, Nat.reduceLeDiff, true_and, Option.toList_some, Option.toList_none, List.cons_append, List.nil_append, if_true, if_false, nb0, nb1, x_setJ, x_setZ0, x_setZ1, x_setA, x_setO, List.length_cons, List.length_nil, Nat.reduceLT, List.set_cons_succ, List.set_cons_zero, wrl_0, wrl_1, wrl_2, wrl_3, wrl_4, wrl_5, wrl_p0, wrl_p1, wrl_p2, wrl_p3, wrl_p4, k3]
      exact h2 hb hk rfl sAB hWb
    · rw [if_neg k3, if_neg k3] at h2
      simp only [s_148_0, s_148_1, s_148_4, s_148_5, s_148_7, s_148_10, s_148_11, s_148_12, s_148_13, s_148_16, s_148_17, s_148_20, s_148_21, s_148_22, s_148_25, s_148_28, s_148_29, s_148_30, s_148_33, s_148_34, s_148_37, s_148_38, s_148_39, s_148_42, s_148_43, s_148_44, s_148_47, s_148_48, s_148_51, s_148_52, x_get_i, List.getElem?_cons_succ, List.getElem?_cons_zero, x_cv_j, cs_n, cs_i, cs_r, cs_l, Nat.reduceAdd, Nat.reduceLeDiff, true_and, Option.toList_some, Option.toList_none, List.cons_append, List.nil_append, if_true, if_false, nb0, nb1, x_setJ, x_setZ0, x_setZ1, x_setA, x_setO, List.length_cons, List.length_nil, Nat.reduceLT, List.set_cons_succ, List.set_cons_zero, wrl_0, wrl_1, wrl_2, wrl_3, wrl_4, wrl_5, wrl_p0, wrl_p1, wrl_p2, wrl_p3, wrl_p4, k3, o_b, a_b, c_b, n_b, p_b, q_b, m_b, g_b]
      refine c_tell1 hWb _ (fun hd sD hWd => ?_)
      simp only [s_148_0, s_148_1, s_148_4, s_148_5, s_148_7, s_148_10, s_148_11, s_148_12, s_148_13, s_148_16, s_148_17, s_148_20, s_148_21, s_148_22, s_148_25, s_148_28, s_148_29, s_148_30, s_148_33, s_148_34, s_148_37, s_148_38, s_148_39, s_148_42, s_148_43, s_148_44, s_148_47, s_148_48, s_148_51, s_148_52, x_get_i, List.getElem?_cons_succ, List.getElem?_cons_zero, x_cv_j, cs_n, cs_i, cs_r, cs_l, Nat.reduceAdd, Nat.reduceLeDiff, true_and, Option.toList_some, Option.toList_none, List.cons_append, List.nil_append, if_true, if_false, nb0, nb1, x_setJ, x_setZ0, x_setZ1, x_setA, x_setO, List.length_cons, List.length_nil, Nat.reduceLT, List.set_cons_succ, List.set_cons_zero, wrl_0, wrl_1, wrl_2, wrl_3, wrl_4, wrl_5, wrl_p0, wrl_p1, wrl_p2, wrl_p3, wrl_p4, k3]
      exact h2 hd hk rfl (sAB.trans (sD.mono (by omega) (by omega))) hWd
  · simp only [k1, k2, if_false]
    exact h1 (Or.inr (Int32.not_le.mp k2))
theorem c_sells (v o t : Int32) : tm_D (g_G sa sc xt) d 172 [.int v, .int o, .int t] h Q ↔ Q (some (.int (sel v o t))) h := by
  rw [e_172]
  simp only [s_172_0, s_172_1, s_172_2, s_172_5, s_172_6, s_172_9, s_172_10, s_172_11, s_172_14, s_172_15, s_172_16, s_172_17, s_172_20, s_172_21, s_172_22, s_172_23, s_172_24, s_172_25, s_172_26, s_172_27, s_172_28, s_172_29, s_172_30, s_172_31, s_172_32, s_172_34, s_172_37, s_172_38, s_172_41, s_172_42, s_172_43, x_get_i, List.getElem?_cons_succ, List.getElem?_cons_zero, x_cv_j, cs_n, cs_i, cs_r, cs_l, Nat.reduceAdd, Nat.reduceLeDiff, true_and, Option.toList_some, Option.toList_none, List.cons_append, List.nil_append, if_true, if_false, nb0, nb1, x_setJ, x_setZ0, x_setZ1, x_setA, x_setO, List.length_cons, List.length_nil, Nat.reduceLT, List.set_cons_succ, List.set_cons_zero, wrl_0, wrl_1, wrl_2, wrl_3, wrl_4, wrl_5, wrl_p0, wrl_p1, wrl_p2, wrl_p3, wrl_p4, show ¬ (2 : Int32) = 0 by decide, show ¬ (3 : Int32) = 0 by decide]
  unfold sel
  by_cases k1 : o ≤ t
  · by_cases k2 : t ≤ o
    · by_cases k3 : o + t < 10
      · simp only [k1, k2, k3, if_true]
      · simp only [k1, k2, k3, if_true, if_false]
    · by_cases k3 : o + t < 10
      · simp only [k1, k2, k3, if_true, if_false]
      · simp only [k1, k2, k3, if_true, if_false]
  · by_cases k3 : o + t < 10
    · simp only [k1, k3, if_true, if_false]
    · simp only [k1, k3, if_false]
theorem c_content (v o t : Int32) : tm_D (g_G sa sc xt) (d + 1) 173 [.int v, .int o, .int t] h Q ↔ Q (some (.int (bI (ict v o t 10 0)))) h := by
  have loop : ∀ (j k : Nat), k + j = 10 → (tm_X (g_G sa sc xt) (d + 1) 173 2 [.int v, .int o, .int t, .int (nI k)] [] h Q ↔ Q (some (.int (bI (ict v o t j k)))) h) := by
    intro j
    induction j with
    | zero =>
      intro k hk
      have hk : k = 10 := by omega
      subst hk
      rw [s_173_2]
      simp only [s_173_0, s_173_1, s_173_3, s_173_5, s_173_8, s_173_9, s_173_10, s_173_11, s_173_14, s_173_15, s_173_16, s_173_17, s_173_20, s_173_23, s_173_24, s_173_25, s_173_28, s_173_31, s_173_32, x_get_i, List.getElem?_cons_succ, List.getElem?_cons_zero, x_cv_j, cs_n, cs_i, cs_r, cs_l, Nat.reduceAdd, Nat.reduceLeDiff, true_and, Option.toList_some, Option.toList_none, List.cons_append, List.nil_append, if_true, if_false, nb0, nb1, x_setJ, x_setZ0, x_setZ1, x_setA, x_setO, List.length_cons, List.length_nil, Nat.reduceLT, List.set_cons_succ, List.set_cons_zero, wrl_0, wrl_1, wrl_2, wrl_3, wrl_4, wrl_5, wrl_p0, wrl_p1, wrl_p2, wrl_p3, wrl_p4, show (9 : Int32) < nI 10 by decide]
      exact Iff.rfl
    | succ j ih =>
      intro k hk
      rw [s_173_2]
      simp only [s_173_0, s_173_1, s_173_3, s_173_5, s_173_8, s_173_9, s_173_10, s_173_11, s_173_14, s_173_15, s_173_16, s_173_17, s_173_20, s_173_23, s_173_24, s_173_25, s_173_28, s_173_31, s_173_32, x_get_i, List.getElem?_cons_succ, List.getElem?_cons_zero, x_cv_j, cs_n, cs_i, cs_r, cs_l, Nat.reduceAdd, Nat.reduceLeDiff, true_and, Option.toList_some, Option.toList_none, List.cons_append, List.nil_append, if_true, if_false, nb0, nb1, x_setJ, x_setZ0, x_setZ1, x_setA, x_setO, List.length_cons, List.length_nil, Nat.reduceLT, List.set_cons_succ, List.set_cons_zero, wrl_0, wrl_1, wrl_2, wrl_3, wrl_4, wrl_5, wrl_p0, wrl_p1, wrl_p2, wrl_p3, wrl_p4, show ¬ (9 : Int32) < nI k from nI_nlt (a := 9) (by omega) (by decide), c_sells, nI_1]
      unfold ict
      by_cases k1 : sel v (nI k) t ≤ sel v o t
      · simp only [k1, if_true]
        exact ih (k + 1) (by omega)
      · simp only [k1, if_false]
        exact Iff.rfl
  rw [e_173]
  simp only [s_173_0, s_173_1, s_173_3, s_173_5, s_173_8, s_173_9, s_173_10, s_173_11, s_173_14, s_173_15, s_173_16, s_173_17, s_173_20, s_173_23, s_173_24, s_173_25, s_173_28, s_173_31, s_173_32]
  exact loop 10 0 (by decide)
theorem c_rests (hW : CW sa h b tx (rc, R) nw pa ru he mi ga) (v : Int32) (h1 : (v < 0 ∨ 20 < v) → Q (some (.int (-1))) h) (h2 : ¬ (v < 0 ∨ 20 < v) → ∀ h', sm b (b + 162) h h' → CW sa h' b tx (rso v 10 0 (0, 0, R)).2 nw pa ru he mi ga → Q (some (.int (nI (rso v 10 0 (0, 0, R)).1))) h') : tm_D (g_G sa sc xt) (d + 4) 149 [.ref b, .int v] h Q := by
  obtain ⟨w_o, w_t, w_r, w_n, w_h, w_l, w_b, w_p, w_u, w_v, w_a, w_e, w_w, w_x, w_q, w_m, w_g, w_d, w_s⟩ := id hW
  have o_0 := hW.1
  have a_0 : h.2.2 (b + 1) = .inr (8, _) := hW.2.1.1.1
  have c_0 : h.2.2 (b + 3) = .inr (5, _) := cel_0 hW.2.2.1.1
  have n_0 : h.2.2 (b + 5) = .inr (9, _) := hW.2.2.2.1.1.1
  have p_0 : h.2.2 (b + 33) = .inr (6, _) := hW.2.2.2.2.2.2.2.1.1.1
  have q_0 : h.2.2 (b + 152) = .inr (2, _) := cel_0 hW.2.2.2.2.2.2.2.2.2.2.2.2.2.2.1.1
  obtain ⟨_, mm_0⟩ := hW.2.2.2.2.2.2.2.2.2.2.2.2.2.2.2.1.1
  have m_0 : h.2.2 (b + 154) = .inr (4, _) := cel_0 mm_0
  have g_0 : h.2.2 (b + 159) = .inr (1, _) := cel_0 hW.2.2.2.2.2.2.2.2.2.2.2.2.2.2.2.2.1.1
  rw [e_149]
  simp only [s_149_0, s_149_1, s_149_4, s_149_5, s_149_7, s_149_10, s_149_11, s_149_12, s_149_13, s_149_14, s_149_15, s_149_18, s_149_21, s_149_22, s_149_24, s_149_26, s_149_29, s_149_30, s_149_34, s_149_36, s_149_39, s_149_40, s_149_41, s_149_43, s_149_46, s_149_49, s_149_50, s_149_52, s_149_53, s_149_56, s_149_59, s_149_62, s_149_63, s_149_64, s_149_67, s_149_68, s_149_71, s_149_72, s_149_73, s_149_75, s_149_76, s_149_79, s_149_82, s_149_85, s_149_88, s_149_91, s_149_92, x_get_i, List.getElem?_cons_succ, List.getElem?_cons_zero, x_cv_j, cs_n, cs_i, cs_r, cs_l, Nat.reduceAdd, Nat.reduceLeDiff, true_and, Option.toList_some, Option.toList_none, List.cons_append, List.nil_append, if_true, if_false, nb0, nb1, x_setJ, x_setZ0, x_setZ1, x_setA, x_setO, List.length_cons, List.length_nil, Nat.reduceLT, List.set_cons_succ, List.set_cons_zero, wrl_0, wrl_1, wrl_2, wrl_3, wrl_4, wrl_5, wrl_p0, wrl_p1, wrl_p2, wrl_p3, wrl_p4]
  by_cases k1 : v < 0
  · simp only [k1, if_true]
    exact h1 (Or.inl k1)
  by_cases k2 : v ≤ 20
  · have k0 : ¬ (v < 0 ∨ 20 < v) := by
      rintro (q | q)
      · exact k1 q
      · exact Int32.not_lt.mpr k2 q
    simp only [k1, k2, if_true, if_false, s_149_0, s_149_1, s_149_4, s_149_5, s_149_7, s_149_10, s_149_11, s_149_12, s_149_13, s_149_14, s_149_15, s_149_18, s_149_21, s_149_22, s_149_24, s_149_26, s_149_29, s_149_30, s_149_34, s_149_36, s_149_39, s_149_40, s_149_41, s_149_43, s_149_46, s_149_49, s_149_50, s_149_52, s_149_53, s_149_56, s_149_59, s_149_62, s_149_63, s_149_64, s_149_67, s_149_68, s_149_71, s_149_72, s_149_73, s_149_75, s_149_76, s_149_79, s_149_82, s_149_85, s_149_88, s_149_91, s_149_92, x_get_i, List.getElem?_cons_succ, List.getElem?_cons_zero, x_cv_j, cs_n, cs_i, cs_r, cs_l, Nat.reduceAdd, Nat.reduceLeDiff, true_and, Option.toList_some, Option.toList_none, List.cons_append, List.nil_append, if_true, if_false, nb0, nb1, x_setJ, x_setZ0, x_setZ1, x_setA, x_setO, List.length_cons, List.length_nil, Nat.reduceLT, List.set_cons_succ, List.set_cons_zero, wrl_0, wrl_1, wrl_2, wrl_3, wrl_4, wrl_5, wrl_p0, wrl_p1, wrl_p2, wrl_p3, wrl_p4, o_0, a_0, c_0, n_0, p_0, q_0, m_0, g_0]
    refine c_rclear hW (fun ha sA hWa => ?_)
    have h2 := h2 k0
    have outer : ∀ (j x : Nat) (a : Nat × Nat × (Nat → Int64)) (x4 : Value) (hz : tm_H), x + j = 10 → a.1 ≤ 10 * x → sm b (b + 162) h hz → CW sa hz b tx a.2 nw pa ru he mi ga → rso v j x a = rso v 10 0 (0, 0, R) → tm_X (g_G sa sc xt) (d + 4) 149 23 [.ref b, .int v, .int (nI a.1), .int (nI x), x4] [] hz Q := by
      intro j
      induction j with
      | zero =>
        intro x a x4 hz hx ha10 sz hWz er
        have er2 : a = rso v 10 0 (0, 0, R) := er
        have hx : x = 10 := by omega
        subst hx
        rw [s_149_23]
        simp only [s_149_0, s_149_1, s_149_4, s_149_5, s_149_7, s_149_10, s_149_11, s_149_12, s_149_13, s_149_14, s_149_15, s_149_18, s_149_21, s_149_22, s_149_24, s_149_26, s_149_29, s_149_30, s_149_34, s_149_36, s_149_39, s_149_40, s_149_41, s_149_43, s_149_46, s_149_49, s_149_50, s_149_52, s_149_53, s_149_56, s_149_59, s_149_62, s_149_63, s_149_64, s_149_67, s_149_68, s_149_71, s_149_72, s_149_73, s_149_75, s_149_76, s_149_79, s_149_82, s_149_85, s_149_88, s_149_91, s_149_92, x_get_i, List.getElem?_cons_succ, List.getElem?_cons_zero, x_cv_j, cs_n, cs_i, cs_r, cs_l, Nat.reduceAdd, Nat.reduceLeDiff, true_and, Option.toList_some, Option.toList_none, List.cons_append, List.nil_append, if_true, if_false, nb0, nb1, x_setJ, x_setZ0, x_setZ1, x_setA, x_setO, List.length_cons, List.length_nil, Nat.reduceLT, List.set_cons_succ, List.set_cons_zero, wrl_0, wrl_1, wrl_2, wrl_3, wrl_4, wrl_5, wrl_p0, wrl_p1, wrl_p2, wrl_p3, wrl_p4, show (9 : Int32) < nI 10 by decide]
        rw [er2] at hWz ⊢
        exact h2 hz sz hWz
      | succ j ih =>
        intro x a x4 hz hx ha10 sz hWz er
        have inner : ∀ (r y : Nat) (a : Nat × Nat × (Nat → Int64)) (hz : tm_H), y + r = 10 → a.1 ≤ 10 * x + y → sm b (b + 162) h hz → CW sa hz b tx a.2 nw pa ru he mi ga → rso v j (x + 1) (rsi v x r y a) = rso v 10 0 (0, 0, R) → tm_X (g_G sa sc xt) (d + 4) 149 32 [.ref b, .int v, .int (nI a.1), .int (nI x), .int (nI y)] [] hz Q := by
          intro r
          induction r with
          | zero =>
            intro y a hz hy ha sz hWz er
            have hy : y = 10 := by omega
            subst hy
            rw [s_149_32]
            simp only [s_149_0, s_149_1, s_149_4, s_149_5, s_149_7, s_149_10, s_149_11, s_149_12, s_149_13, s_149_14, s_149_15, s_149_18, s_149_21, s_149_22, s_149_24, s_149_26, s_149_29, s_149_30, s_149_34, s_149_36, s_149_39, s_149_40, s_149_41, s_149_43, s_149_46, s_149_49, s_149_50, s_149_52, s_149_53, s_149_56, s_149_59, s_149_62, s_149_63, s_149_64, s_149_67, s_149_68, s_149_71, s_149_72, s_149_73, s_149_75, s_149_76, s_149_79, s_149_82, s_149_85, s_149_88, s_149_91, s_149_92, x_get_i, List.getElem?_cons_succ, List.getElem?_cons_zero, x_cv_j, cs_n, cs_i, cs_r, cs_l, Nat.reduceAdd, Nat.reduceLeDiff, true_and, Option.toList_some, Option.toList_none, List.cons_append, List.nil_append, if_true, if_false, nb0, nb1, x_setJ, x_setZ0, x_setZ1, x_setA, x_setO, List.length_cons, List.length_nil, Nat.reduceLT, List.set_cons_succ, List.set_cons_zero, wrl_0, wrl_1, wrl_2, wrl_3, wrl_4, wrl_5, wrl_p0, wrl_p1, wrl_p2, wrl_p3, wrl_p4, show (9 : Int32) < nI 10 by decide, nI_1]
            exact ih (x + 1) a _ hz (by omega) (by omega) sz hWz er
          | succ r ihr =>
            intro y a hz hy ha sz hWz er
            have o_z := hWz.1
            have a_z : hz.2.2 (b + 1) = .inr (8, _) := hWz.2.1.1.1
            have c_z : hz.2.2 (b + 3) = .inr (5, _) := cel_0 hWz.2.2.1.1
            have n_z : hz.2.2 (b + 5) = .inr (9, _) := hWz.2.2.2.1.1.1
            have p_z : hz.2.2 (b + 33) = .inr (6, _) := hWz.2.2.2.2.2.2.2.1.1.1
            have q_z : hz.2.2 (b + 152) = .inr (2, _) := cel_0 hWz.2.2.2.2.2.2.2.2.2.2.2.2.2.2.1.1
            obtain ⟨_, mm_z⟩ := hWz.2.2.2.2.2.2.2.2.2.2.2.2.2.2.2.1.1
            have m_z : hz.2.2 (b + 154) = .inr (4, _) := cel_0 mm_z
            have g_z : hz.2.2 (b + 159) = .inr (1, _) := cel_0 hWz.2.2.2.2.2.2.2.2.2.2.2.2.2.2.2.2.1.1
            have er : rso v j (x + 1) (rsi v x r (y + 1) (if ict v (nI x) (nI y) 10 0 && ict v (nI y) (nI x) 10 0 then (a.1 + 1, if a.1 = 0 then rw2 a.2.2 (nI x).toInt64 (nI y).toInt64 else a.2) else a)) = rso v 10 0 (0, 0, R) := er
            rw [s_149_32]
            simp only [s_149_0, s_149_1, s_149_4, s_149_5, s_149_7, s_149_10, s_149_11, s_149_12, s_149_13, s_149_14, s_149_15, s_149_18, s_149_21, s_149_22, s_149_24, s_149_26, s_149_29, s_149_30, s_149_34, s_149_36, s_149_39, s_149_40, s_149_41, s_149_43, s_149_46, s_149_49, s_149_50, s_149_52, s_149_53, s_149_56, s_149_59, s_149_62, s_149_63, s_149_64, s_149_67, s_149_68, s_149_71, s_149_72, s_149_73, s_149_75, s_149_76, s_149_79, s_149_82, s_149_85, s_149_88, s_149_91, s_149_92, x_get_i, List.getElem?_cons_succ, List.getElem?_cons_zero, x_cv_j, cs_n, cs_i, cs_r, cs_l, Nat.reduceAdd, Nat.reduceLeDiff, true_and, Option.toList_some, Option.toList_none, List.cons_append, List.nil_append, if_true, if_false, nb0, nb1, x_setJ, x_setZ0, x_setZ1, x_setA, x_setO, List.length_cons, List.length_nil, Nat.reduceLT, List.set_cons_succ, List.set_cons_zero, wrl_0, wrl_1, wrl_2, wrl_3, wrl_4, wrl_5, wrl_p0, wrl_p1, wrl_p2, wrl_p3, wrl_p4, show ¬ (9 : Int32) < nI y from nI_nlt (a := 9) (by omega) (by decide), c_content, nI_1]
            cases hc1 : ict v (nI x) (nI y) 10 0 with
            | false =>
              rw [hc1] at er
              simp only [show bI false = 0 by decide, if_true]
              exact ihr (y + 1) a hz (by omega) (by omega) sz hWz er
            | true =>
              rw [hc1] at er
              simp only [show ¬ bI true = 0 by decide, if_false, s_149_0, s_149_1, s_149_4, s_149_5, s_149_7, s_149_10, s_149_11, s_149_12, s_149_13, s_149_14, s_149_15, s_149_18, s_149_21, s_149_22, s_149_24, s_149_26, s_149_29, s_149_30, s_149_34, s_149_36, s_149_39, s_149_40, s_149_41, s_149_43, s_149_46, s_149_49, s_149_50, s_149_52, s_149_53, s_149_56, s_149_59, s_149_62, s_149_63, s_149_64, s_149_67, s_149_68, s_149_71, s_149_72, s_149_73, s_149_75, s_149_76, s_149_79, s_149_82, s_149_85, s_149_88, s_149_91, s_149_92, x_get_i, List.getElem?_cons_succ, List.getElem?_cons_zero, x_cv_j, cs_n, cs_i, cs_r, cs_l, Nat.reduceAdd, Nat.reduceLeDiff, true_and, Option.toList_some, Option.toList_none, List.cons_append, List.nil_append, if_true, if_false, nb0, nb1, x_setJ, x_setZ0, x_setZ1, x_setA, x_setO, List.length_cons, List.length_nil, Nat.reduceLT, List.set_cons_succ, List.set_cons_zero, wrl_0, wrl_1, wrl_2, wrl_3, wrl_4, wrl_5, wrl_p0, wrl_p1, wrl_p2, wrl_p3, wrl_p4, c_content, nI_1]
              cases hc2 : ict v (nI y) (nI x) 10 0 with
              | false =>
                rw [hc2] at er
                simp only [show bI false = 0 by decide, if_true]
                exact ihr (y + 1) a hz (by omega) (by omega) sz hWz er
              | true =>
                rw [hc2] at er
                simp only [Bool.and_self, if_true] at er
                simp only [show ¬ bI true = 0 by decide, if_false]
                by_cases k4 : a.1 = 0
                · rw [k4] at er ⊢
                  simp only [show nI (0 + 1) = 1 by decide, if_true, s_149_0, s_149_1, s_149_4, s_149_5, s_149_7, s_149_10, s_149_11, s_149_12, s_149_13, s_149_14, s_149_15, s_149_18, s_149_21, s_149_22, s_149_24, s_149_26, s_149_29, s_149_30, s_149_34, s_149_36, s_149_39, s_149_40, s_149_41, s_149_43, s_149_46, s_149_49, s_149_50, s_149_52, s_149_53, s_149_56, s_149_59, s_149_62, s_149_63, s_149_64, s_149_67, s_149_68, s_149_71, s_149_72, s_149_73, s_149_75, s_149_76, s_149_79, s_149_82, s_149_85, s_149_88, s_149_91, s_149_92, x_get_i, List.getElem?_cons_succ, List.getElem?_cons_zero, x_cv_j, cs_n, cs_i, cs_r, cs_l, Nat.reduceAdd, Nat.reduceLeDiff, true_and, Option.toList_some, Option.toList_none, List.cons_append, List.nil_append, if_true, if_false, nb0, nb1, x_setJ, x_setZ0, x_setZ1, x_setA, x_setO, List.length_cons, List.length_nil, Nat.reduceLT, List.set_cons_succ, List.set_cons_zero, wrl_0, wrl_1, wrl_2, wrl_3, wrl_4, wrl_5, wrl_p0, wrl_p1, wrl_p2, wrl_p3, wrl_p4, o_z, a_z, c_z, n_z, p_z, q_z, m_z, g_z]
                  simp only [if_true] at er
                  have hWz' : CW sa hz b tx (a.2.1, a.2.2) nw pa ru he mi ga := hWz
                  refine c_tell2 hWz' _ _ (fun hy2 sy hWy => ?_)
                  simp only [s_149_0, s_149_1, s_149_4, s_149_5, s_149_7, s_149_10, s_149_11, s_149_12, s_149_13, s_149_14, s_149_15, s_149_18, s_149_21, s_149_22, s_149_24, s_149_26, s_149_29, s_149_30, s_149_34, s_149_36, s_149_39, s_149_40, s_149_41, s_149_43, s_149_46, s_149_49, s_149_50, s_149_52, s_149_53, s_149_56, s_149_59, s_149_62, s_149_63, s_149_64, s_149_67, s_149_68, s_149_71, s_149_72, s_149_73, s_149_75, s_149_76, s_149_79, s_149_82, s_149_85, s_149_88, s_149_91, s_149_92, x_get_i, List.getElem?_cons_succ, List.getElem?_cons_zero, x_cv_j, cs_n, cs_i, cs_r, cs_l, Nat.reduceAdd, Nat.reduceLeDiff, true_and, Option.toList_some, Option.toList_none, List.cons_append, List.nil_append, if_true, if_false, nb0, nb1, x_setJ, x_setZ0, x_setZ1, x_setA, x_setO, List.length_cons, List.length_nil, Nat.reduceLT, List.set_cons_succ, List.set_cons_zero, wrl_0, wrl_1, wrl_2, wrl_3, wrl_4, wrl_5, wrl_p0, wrl_p1, wrl_p2, wrl_p3, wrl_p4, nI_1]
                  exact ihr (y + 1) (0 + 1, rw2 a.2.2 (nI x).toInt64 (nI y).toInt64) hy2 (by omega) (by show 0 + 1 ≤ _; omega) (sz.trans (sy.mono (by omega) (by omega))) hWy er
                · have k5 : ¬ nI (a.1 + 1) = 1 := by
                    rw [show (1 : Int32) = nI 1 from rfl, nI_eq (by omega) (by decide)]
                    omega
                  simp only [k4, if_false] at er
                  simp only [k5, if_false]
                  exact ihr (y + 1) (a.1 + 1, a.2) hz (by omega) (by show a.1 + 1 ≤ _; omega) sz hWz er
        rw [s_149_23]
        simp only [s_149_0, s_149_1, s_149_4, s_149_5, s_149_7, s_149_10, s_149_11, s_149_12, s_149_13, s_149_14, s_149_15, s_149_18, s_149_21, s_149_22, s_149_24, s_149_26, s_149_29, s_149_30, s_149_34, s_149_36, s_149_39, s_149_40, s_149_41, s_149_43, s_149_46, s_149_49, s_149_50, s_149_52, s_149_53, s_149_56, s_149_59, s_149_62, s_149_63, s_149_64, s_149_67, s_149_68, s_149_71, s_149_72, s_149_73, s_149_75, s_149_76, s_149_79, s_149_82, s_149_85, s_149_88, s_149_91, s_149_92, x_get_i, List.getElem?_cons_succ, List.getElem?_cons_zero, x_cv_j, cs_n, cs_i, cs_r, cs_l, Nat.reduceAdd, Nat.reduceLeDiff, true_and, Option.toList_some, Option.toList_none, List.cons_append, List.nil_append, if_true, if_false, nb0, nb1, x_setJ, x_setZ0, x_setZ1, x_setA, x_setO, List.length_cons, List.length_nil, Nat.reduceLT, List.set_cons_succ, List.set_cons_zero, wrl_0, wrl_1, wrl_2, wrl_3, wrl_4, wrl_5, wrl_p0, wrl_p1, wrl_p2, wrl_p3, wrl_p4, show ¬ (9 : Int32) < nI x from nI_nlt (a := 9) (by omega) (by decide)]
        exact inner 10 0 a hz (by decide) (by omega) sz hWz er
    simp only [s_149_0, s_149_1, s_149_4, s_149_5, s_149_7, s_149_10, s_149_11, s_149_12, s_149_13, s_149_14, s_149_15, s_149_18, s_149_21, s_149_22, s_149_24, s_149_26, s_149_29, s_149_30, s_149_34, s_149_36, s_149_39, s_149_40, s_149_41, s_149_43, s_149_46, s_149_49, s_149_50, s_149_52, s_149_53, s_149_56, s_149_59, s_149_62, s_149_63, s_149_64, s_149_67, s_149_68, s_149_71, s_149_72, s_149_73, s_149_75, s_149_76, s_149_79, s_149_82, s_149_85, s_149_88, s_149_91, s_149_92, x_get_i, List.getElem?_cons_succ, List.getElem?_cons_zero, x_cv_j, cs_n, cs_i, cs_r, cs_l, Nat.reduceAdd, Nat.reduceLeDiff, true_and, Option.toList_some, Option.toList_none, List.cons_append, List.nil_append, if_true, if_false, nb0, nb1, x_setJ, x_setZ0, x_setZ1, x_setA, x_setO, List.length_cons, List.length_nil, Nat.reduceLT, List.set_cons_succ, List.set_cons_zero, wrl_0, wrl_1, wrl_2, wrl_3, wrl_4, wrl_5, wrl_p0, wrl_p1, wrl_p2, wrl_p3, wrl_p4]
    exact outer 10 0 (0, 0, R) _ ha (by decide) (Nat.zero_le _) (sA.mono (by omega) (by omega)) hWa rfl
  · simp only [k1, k2, if_false]
    exact h1 (Or.inr (Int32.not_le.mp k2))
theorem c_rread (hW : CW sa h b (c, F) rw nw pa ru he mi ga) (hok : ∀ cd h', rrd F c = .inr cd → sm ru.2.1 (ru.2.1 + 4) h h' → CW sa h' b (c, F) rw nw pa ru he mi ga → RUc h' ru.2.1 cd → Q (some (.int (-1))) h') (hbad : ∀ q h', rrd F c = .inl q → q ≤ 80 → sm ru.2.1 (ru.2.1 + 4) h h' → CW sa h' b (c, F) rw nw pa ru he mi ga → Q (some (.int (nI q))) h') : tm_D (g_G sa sc xt) (d + 51) 53 [.ref ru.2.1, .ref (b + 1)] h Q := by
  obtain ⟨w_o, w_t, w_r, w_n, w_h, w_l, w_b, w_p, w_u, w_v, w_a, w_e, w_w, w_x, w_q, w_m, w_g, w_d, w_s⟩ := id hW
  refine ru_readR w_v w_t.1 w_t.2.2 w_t.2.1 w_s.1 (SHo_mono w_s.2 (by omega)) (by omega) (fun cd h' q1 s1 q2 => ?_) (fun q h' q1 q2 s1 q3 => ?_)
  · exact hok cd h' q1 s1 (CW_v hW s1 (RUc_s q2)) q2
  · exact hbad q h' q1 q2 s1 (CW_v hW s1 q3)
theorem c_rule (hW : CW sa h b (c, F) rw nw pa (r1, r2, cd0) he mi ga) (h1 : ∀ q h', rrd F c = .inl q → sm b (b + 162) h h' → CW sa h' b (0, F) rw nw pa (r1, r2, cd0) he mi ga → Q (some (.int (-1 - nI q))) h') (h2 : ∀ cd h', rrd F c = .inr cd → sm b (b + 162) h h' → CW sa h' b (0, F) rw nw pa (r2, r1, cd) he mi ga → Q (some (.int 0)) h') : tm_D (g_G sa sc xt) (d + 52) 113 [.ref b] h Q := by
  obtain ⟨w_o, w_t, w_r, w_n, w_h, w_l, w_b, w_p, w_u, w_v, w_a, w_e, w_w, w_x, w_q, w_m, w_g, w_d, w_s⟩ := id hW
  have o_0 := hW.1
  have a_0 : h.2.2 (b + 1) = .inr (8, _) := hW.2.1.1.1
  have c_0 : h.2.2 (b + 3) = .inr (5, _) := cel_0 hW.2.2.1.1
  have n_0 : h.2.2 (b + 5) = .inr (9, _) := hW.2.2.2.1.1.1
  have p_0 : h.2.2 (b + 33) = .inr (6, _) := hW.2.2.2.2.2.2.2.1.1.1
  have q_0 : h.2.2 (b + 152) = .inr (2, _) := cel_0 hW.2.2.2.2.2.2.2.2.2.2.2.2.2.2.1.1
  obtain ⟨_, mm_0⟩ := hW.2.2.2.2.2.2.2.2.2.2.2.2.2.2.2.1.1
  have m_0 : h.2.2 (b + 154) = .inr (4, _) := cel_0 mm_0
  have g_0 : h.2.2 (b + 159) = .inr (1, _) := cel_0 hW.2.2.2.2.2.2.2.2.2.2.2.2.2.2.2.2.1.1
  have wa : (r1 = b + 135 ∧ r2 = b + 139) ∨ (r1 = b + 139 ∧ r2 = b + 135) := w_a
  obtain ⟨E0, P0, K0, z0, hb0, a0, e0, cv⟩ := w_v
  have v0 : h.2.2 r2 = .inr (7, _) := cv 0 _ rfl
  rw [e_113]
  simp only [s_113_0, s_113_1, s_113_4, s_113_5, s_113_8, s_113_11, s_113_12, s_113_13, s_113_16, s_113_19, s_113_20, s_113_21, s_113_24, s_113_25, s_113_26, s_113_27, s_113_28, s_113_29, s_113_32, s_113_33, s_113_34, s_113_35, s_113_38, s_113_41, s_113_42, s_113_43, s_113_46, s_113_47, x_get_i, List.getElem?_cons_succ, List.getElem?_cons_zero, x_cv_j, cs_n, cs_i, cs_r, cs_l, Nat.reduceAdd, Nat.reduceLeDiff, true_and, Option.toList_some, Option.toList_none, List.cons_append, List.nil_append, if_true, if_false, nb0, nb1, x_setJ, x_setZ0, x_setZ1, x_setA, x_setO, List.length_cons, List.length_nil, Nat.reduceLT, List.set_cons_succ, List.set_cons_zero, wrl_0, wrl_1, wrl_2, wrl_3, wrl_4, wrl_5, wrl_p0, wrl_p1, wrl_p2, wrl_p3, wrl_p4, o_0, a_0, v0]
  refine c_rread (ru := (r1, r2, cd0)) hW (fun cd ha er sA hWa rA => ?_) (fun q ha er hq sA hWa => ?_)
  · have o_a := hWa.1
    have a_a : ha.2.2 (b + 1) = .inr (8, _) := hWa.2.1.1.1
    have sA : sm r2 (r2 + 4) h ha := sA
    have rA : RUc ha r2 cd := rA
    simp only [s_113_0, s_113_1, s_113_4, s_113_5, s_113_8, s_113_11, s_113_12, s_113_13, s_113_16, s_113_19, s_113_20, s_113_21, s_113_24, s_113_25, s_113_26, s_113_27, s_113_28, s_113_29, s_113_32, s_113_33, s_113_34, s_113_35, s_113_38, s_113_41, s_113_42, s_113_43, s_113_46, s_113_47, x_get_i, List.getElem?_cons_succ, List.getElem?_cons_zero, x_cv_j, cs_n, cs_i, cs_r, cs_l, Nat.reduceAdd, Nat.reduceLeDiff, true_and, Option.toList_some, Option.toList_none, List.cons_append, List.nil_append, if_true, if_false, nb0, nb1, x_setJ, x_setZ0, x_setZ1, x_setA, x_setO, List.length_cons, List.length_nil, Nat.reduceLT, List.set_cons_succ, List.set_cons_zero, wrl_0, wrl_1, wrl_2, wrl_3, wrl_4, wrl_5, wrl_p0, wrl_p1, wrl_p2, wrl_p3, wrl_p4, o_a, a_a]
    refine c_tclear hWa (fun hb sB hWb => ?_)
    have o_b : hb.2.2 b = cob b r1 r2 := hWb.1
    have rB : RUc hb r2 cd := RUc_sm sB (by omega) rA
    simp only [s_113_0, s_113_1, s_113_4, s_113_5, s_113_8, s_113_11, s_113_12, s_113_13, s_113_16, s_113_19, s_113_20, s_113_21, s_113_24, s_113_25, s_113_26, s_113_27, s_113_28, s_113_29, s_113_32, s_113_33, s_113_34, s_113_35, s_113_38, s_113_41, s_113_42, s_113_43, s_113_46, s_113_47, x_get_i, List.getElem?_cons_succ, List.getElem?_cons_zero, x_cv_j, cs_n, cs_i, cs_r, cs_l, Nat.reduceAdd, Nat.reduceLeDiff, true_and, Option.toList_some, Option.toList_none, List.cons_append, List.nil_append, if_true, if_false, nb0, nb1, x_setJ, x_setZ0, x_setZ1, x_setA, x_setO, List.length_cons, List.length_nil, Nat.reduceLT, List.set_cons_succ, List.set_cons_zero, wrl_0, wrl_1, wrl_2, wrl_3, wrl_4, wrl_5, wrl_p0, wrl_p1, wrl_p2, wrl_p3, wrl_p4, o_b, pa_s, put_put]
    have sD : sm b (b + 1) hb (tm_put hb b (cob b r2 r1)) := sm_put (Nat.le_refl _) (by omega)
    exact h2 cd _ er ((sA.mono (by omega) (by omega)).trans ((sB.mono (by omega) (by omega)).trans (sD.mono (by omega) (by omega)))) (CW_swap hWb sD pa_s rB)
  · have o_a := hWa.1
    have a_a : ha.2.2 (b + 1) = .inr (8, _) := hWa.2.1.1.1
    have sA : sm r2 (r2 + 4) h ha := sA
    simp only [s_113_0, s_113_1, s_113_4, s_113_5, s_113_8, s_113_11, s_113_12, s_113_13, s_113_16, s_113_19, s_113_20, s_113_21, s_113_24, s_113_25, s_113_26, s_113_27, s_113_28, s_113_29, s_113_32, s_113_33, s_113_34, s_113_35, s_113_38, s_113_41, s_113_42, s_113_43, s_113_46, s_113_47, x_get_i, List.getElem?_cons_succ, List.getElem?_cons_zero, x_cv_j, cs_n, cs_i, cs_r, cs_l, Nat.reduceAdd, Nat.reduceLeDiff, true_and, Option.toList_some, Option.toList_none, List.cons_append, List.nil_append, if_true, if_false, nb0, nb1, x_setJ, x_setZ0, x_setZ1, x_setA, x_setO, List.length_cons, List.length_nil, Nat.reduceLT, List.set_cons_succ, List.set_cons_zero, wrl_0, wrl_1, wrl_2, wrl_3, wrl_4, wrl_5, wrl_p0, wrl_p1, wrl_p2, wrl_p3, wrl_p4, o_a, a_a]
    refine c_tclear hWa (fun hb sB hWb => ?_)
    simp only [s_113_0, s_113_1, s_113_4, s_113_5, s_113_8, s_113_11, s_113_12, s_113_13, s_113_16, s_113_19, s_113_20, s_113_21, s_113_24, s_113_25, s_113_26, s_113_27, s_113_28, s_113_29, s_113_32, s_113_33, s_113_34, s_113_35, s_113_38, s_113_41, s_113_42, s_113_43, s_113_46, s_113_47, x_get_i, List.getElem?_cons_succ, List.getElem?_cons_zero, x_cv_j, cs_n, cs_i, cs_r, cs_l, Nat.reduceAdd, Nat.reduceLeDiff, true_and, Option.toList_some, Option.toList_none, List.cons_append, List.nil_append, if_true, if_false, nb0, nb1, x_setJ, x_setZ0, x_setZ1, x_setA, x_setO, List.length_cons, List.length_nil, Nat.reduceLT, List.set_cons_succ, List.set_cons_zero, wrl_0, wrl_1, wrl_2, wrl_3, wrl_4, wrl_5, wrl_p0, wrl_p1, wrl_p2, wrl_p3, wrl_p4, oI_ne (show q < 2 ^ 31 by omega)]
    exact h1 q hb er ((sA.mono (by omega) (by omega)).trans (sB.mono (by omega) (by omega))) hWb
theorem c_parts (hW : CW sa h b (c, F) (rc, R) nw pa ru he mi ga) (h1 : ∀ h' A, ¬ (pread F c A).1 = -1 → sm b (b + 162) h h' → CW sa h' b (0, F) (rc, R) nw pa ru he mi ga → Q (some (.int (-1 - (pread F c A).1))) h') (h2 : ∀ h' A Pl, (pread F c A).1 = -1 → sm b (b + 162) h h' → CW sa h' b (0, F) (lN8 (pfw (pread F c A).2 7 1 Pl).2 R 8) nw pa ru he mi ga → Q (some (.int (nI (pfw (pread F c A).2 7 1 Pl).1))) h') : tm_D (g_G sa sc xt) (d + 11) 135 [.ref b] h Q := by
  obtain ⟨w_o, w_t, w_r, w_n, w_h, w_l, w_b, w_p, w_u, w_v, w_a, w_e, w_w, w_x, w_q, w_m, w_g, w_d, w_s⟩ := id hW
  have o_0 := hW.1
  have a_0 : h.2.2 (b + 1) = .inr (8, _) := hW.2.1.1.1
  have c_0 : h.2.2 (b + 3) = .inr (5, _) := cel_0 hW.2.2.1.1
  have n_0 : h.2.2 (b + 5) = .inr (9, _) := hW.2.2.2.1.1.1
  have p_0 : h.2.2 (b + 33) = .inr (6, _) := hW.2.2.2.2.2.2.2.1.1.1
  have q_0 : h.2.2 (b + 152) = .inr (2, _) := cel_0 hW.2.2.2.2.2.2.2.2.2.2.2.2.2.2.1.1
  obtain ⟨_, mm_0⟩ := hW.2.2.2.2.2.2.2.2.2.2.2.2.2.2.2.1.1
  have m_0 : h.2.2 (b + 154) = .inr (4, _) := cel_0 mm_0
  have g_0 : h.2.2 (b + 159) = .inr (1, _) := cel_0 hW.2.2.2.2.2.2.2.2.2.2.2.2.2.2.2.2.1.1
  obtain ⟨Pl, Ap, cx⟩ := w_x
  have v0 := cel_0 cx
  have hSq : ∀ A, SH sa (wrl h (b + 149) (boc (b + 149) Pl A)) := fun A => SH_same w_s.2 (fun q hq => wrl_o (by omega)) w_s.1
  rw [e_135]
  simp only [s_135_0, s_135_1, s_135_4, s_135_5, s_135_8, s_135_11, s_135_12, s_135_13, s_135_16, s_135_19, s_135_20, s_135_21, s_135_24, s_135_25, s_135_26, s_135_27, s_135_28, s_135_29, s_135_32, s_135_35, s_135_36, s_135_37, s_135_40, s_135_43, s_135_44, s_135_46, s_135_48, s_135_51, s_135_52, s_135_55, s_135_56, s_135_59, s_135_62, s_135_63, s_135_64, s_135_65, s_135_68, s_135_71, s_135_74, s_135_75, x_get_i, List.getElem?_cons_succ, List.getElem?_cons_zero, x_cv_j, cs_n, cs_i, cs_r, cs_l, Nat.reduceAdd, Nat.reduceLeDiff, true_and, Option.toList_some, Option.toList_none, List.cons_append, List.nil_append, if_true, if_false, nb0, nb1, x_setJ, x_setZ0, x_setZ1, x_setA, x_setO, List.length_cons, List.length_nil, Nat.reduceLT, List.set_cons_succ, List.set_cons_zero, wrl_0, wrl_1, wrl_2, wrl_3, wrl_4, wrl_5, wrl_p0, wrl_p1, wrl_p2, wrl_p3, wrl_p4, o_0, a_0, c_0, n_0, p_0, q_0, m_0, g_0, v0]
  refine cel_call (n := 3) (r := some (.int (pread F c Ap).1)) (cs' := boc (b + 149) Pl (pread F c Ap).2) cx rfl (fun Q => bo_read w_t.1 w_t.2.1 w_s.1 hSq (by omega)) (fun ha sA ca => ?_)
  have hWa := CW_x hW sA ⟨_, _, ca⟩
  have o_a := hWa.1
  have a_a : ha.2.2 (b + 1) = .inr (8, _) := hWa.2.1.1.1
  have c_a : ha.2.2 (b + 3) = .inr (5, _) := cel_0 hWa.2.2.1.1
  have n_a : ha.2.2 (b + 5) = .inr (9, _) := hWa.2.2.2.1.1.1
  have p_a : ha.2.2 (b + 33) = .inr (6, _) := hWa.2.2.2.2.2.2.2.1.1.1
  have q_a : ha.2.2 (b + 152) = .inr (2, _) := cel_0 hWa.2.2.2.2.2.2.2.2.2.2.2.2.2.2.1.1
  obtain ⟨_, mm_a⟩ := hWa.2.2.2.2.2.2.2.2.2.2.2.2.2.2.2.1.1
  have m_a : ha.2.2 (b + 154) = .inr (4, _) := cel_0 mm_a
  have g_a : ha.2.2 (b + 159) = .inr (1, _) := cel_0 hWa.2.2.2.2.2.2.2.2.2.2.2.2.2.2.2.2.1.1
  simp only [s_135_0, s_135_1, s_135_4, s_135_5, s_135_8, s_135_11, s_135_12, s_135_13, s_135_16, s_135_19, s_135_20, s_135_21, s_135_24, s_135_25, s_135_26, s_135_27, s_135_28, s_135_29, s_135_32, s_135_35, s_135_36, s_135_37, s_135_40, s_135_43, s_135_44, s_135_46, s_135_48, s_135_51, s_135_52, s_135_55, s_135_56, s_135_59, s_135_62, s_135_63, s_135_64, s_135_65, s_135_68, s_135_71, s_135_74, s_135_75, x_get_i, List.getElem?_cons_succ, List.getElem?_cons_zero, x_cv_j, cs_n, cs_i, cs_r, cs_l, Nat.reduceAdd, Nat.reduceLeDiff, true_and, Option.toList_some, Option.toList_none, List.cons_append, List.nil_append, if_true, if_false, nb0, nb1, x_setJ, x_setZ0, x_setZ1, x_setA, x_setO, List.length_cons, List.length_nil, Nat.reduceLT, List.set_cons_succ, List.set_cons_zero, wrl_0, wrl_1, wrl_2, wrl_3, wrl_4, wrl_5, wrl_p0, wrl_p1, wrl_p2, wrl_p3, wrl_p4, o_a, a_a, c_a, n_a, p_a, q_a, m_a, g_a]
  refine c_tclear hWa (fun hb sB hWb => ?_)
  have o_b := hWb.1
  have a_b : hb.2.2 (b + 1) = .inr (8, _) := hWb.2.1.1.1
  have c_b : hb.2.2 (b + 3) = .inr (5, _) := cel_0 hWb.2.2.1.1
  have n_b : hb.2.2 (b + 5) = .inr (9, _) := hWb.2.2.2.1.1.1
  have p_b : hb.2.2 (b + 33) = .inr (6, _) := hWb.2.2.2.2.2.2.2.1.1.1
  have q_b : hb.2.2 (b + 152) = .inr (2, _) := cel_0 hWb.2.2.2.2.2.2.2.2.2.2.2.2.2.2.1.1
  obtain ⟨_, mm_b⟩ := hWb.2.2.2.2.2.2.2.2.2.2.2.2.2.2.2.1.1
  have m_b : hb.2.2 (b + 154) = .inr (4, _) := cel_0 mm_b
  have g_b : hb.2.2 (b + 159) = .inr (1, _) := cel_0 hWb.2.2.2.2.2.2.2.2.2.2.2.2.2.2.2.2.1.1
  have cb := cel_sm sB (by simp only [List.length_cons, List.length_nil]; omega) ca
  have v1 := cel_0 cb
  have sAB := (sA.mono (lo' := b) (hi' := b + 162) (by omega) (by omega)).trans (sB.mono (lo' := b) (hi' := b + 162) (by omega) (by omega))
  by_cases k1 : (pread F c Ap).1 = -1
  · simp only [s_135_0, s_135_1, s_135_4, s_135_5, s_135_8, s_135_11, s_135_12, s_135_13, s_135_16, s_135_19, s_135_20, s_135_21, s_135_24, s_135_25, s_135_26, s_135_27, s_135_28, s_135_29, s_135_32, s_135_35, s_135_36, s_135_37, s_135_40, s_135_43, s_135_44, s_135_46, s_135_48, s_135_51, s_135_52, s_135_55, s_135_56, s_135_59, s_135_62, s_135_63, s_135_64, s_135_65, s_135_68, s_135_71, s_135_74, s_135_75, x_get_i, List.getElem?_cons_succ, List.getElem?_cons_zero, x_cv_j, cs_n, cs_i, cs_r, cs_l, Nat.reduceAdd, Nat.reduceLeDiff, true_and, Option.toList_some, Option.toList_none, List.cons_append, List.nil_append, if_true, if_false, nb0, nb1, x_setJ, x_setZ0, x_setZ1, x_setA, x_setO, List.length_cons, List.length_nil, Nat.reduceLT, List.set_cons_succ, List.set_cons_zero, wrl_0, wrl_1, wrl_2, wrl_3, wrl_4, wrl_5, wrl_p0, wrl_p1, wrl_p2, wrl_p3, wrl_p4, k1, o_b, a_b, c_b, n_b, p_b, q_b, m_b, g_b, v1]
    refine cel_call (n := 3) (r := some (.int (nI (pfw (pread F c Ap).2 7 1 Pl).1))) (cs' := boc (b + 149) (pfw (pread F c Ap).2 7 1 Pl).2 (pread F c Ap).2) cb rfl (fun Q => bo_fewest) (fun hd sD cd => ?_)
    have hWd := CW_x hWb sD ⟨_, _, cd⟩
    have o_d := hWd.1
    have a_d : hd.2.2 (b + 1) = .inr (8, _) := hWd.2.1.1.1
    have c_d : hd.2.2 (b + 3) = .inr (5, _) := cel_0 hWd.2.2.1.1
    have n_d : hd.2.2 (b + 5) = .inr (9, _) := hWd.2.2.2.1.1.1
    have p_d : hd.2.2 (b + 33) = .inr (6, _) := hWd.2.2.2.2.2.2.2.1.1.1
    have q_d : hd.2.2 (b + 152) = .inr (2, _) := cel_0 hWd.2.2.2.2.2.2.2.2.2.2.2.2.2.2.1.1
    obtain ⟨_, mm_d⟩ := hWd.2.2.2.2.2.2.2.2.2.2.2.2.2.2.2.1.1
    have m_d : hd.2.2 (b + 154) = .inr (4, _) := cel_0 mm_d
    have g_d : hd.2.2 (b + 159) = .inr (1, _) := cel_0 hWd.2.2.2.2.2.2.2.2.2.2.2.2.2.2.2.2.1.1
    simp only [s_135_0, s_135_1, s_135_4, s_135_5, s_135_8, s_135_11, s_135_12, s_135_13, s_135_16, s_135_19, s_135_20, s_135_21, s_135_24, s_135_25, s_135_26, s_135_27, s_135_28, s_135_29, s_135_32, s_135_35, s_135_36, s_135_37, s_135_40, s_135_43, s_135_44, s_135_46, s_135_48, s_135_51, s_135_52, s_135_55, s_135_56, s_135_59, s_135_62, s_135_63, s_135_64, s_135_65, s_135_68, s_135_71, s_135_74, s_135_75, x_get_i, List.getElem?_cons_succ, List.getElem?_cons_zero, x_cv_j, cs_n, cs_i, cs_r, cs_l, Nat.reduceAdd, Nat.reduceLeDiff, true_and, Option.toList_some, Option.toList_none, List.cons_append, List.nil_append, if_true, if_false, nb0, nb1, x_setJ, x_setZ0, x_setZ1, x_setA, x_setO, List.length_cons, List.length_nil, Nat.reduceLT, List.set_cons_succ, List.set_cons_zero, wrl_0, wrl_1, wrl_2, wrl_3, wrl_4, wrl_5, wrl_p0, wrl_p1, wrl_p2, wrl_p3, wrl_p4, o_d, a_d, c_d, n_d, p_d, q_d, m_d, g_d]
    refine c_rclear hWd (fun he2 sE hWe => ?_)
    have ce := cel_sm sE (by simp only [List.length_cons, List.length_nil]; omega) cd
    have loop : ∀ (j i : Nat) (hz : tm_H), i + j = 8 → sm b (b + 162) h hz → CW sa hz b (0, F) (lN8 (pfw (pread F c Ap).2 7 1 Pl).2 R i) nw pa ru he mi ga → cel hz (b + 149) (boc (b + 149) (pfw (pread F c Ap).2 7 1 Pl).2 (pread F c Ap).2) → tm_X (g_G sa sc xt) (d + 11) 135 45 [.ref b, .int (-1), .int (nI (pfw (pread F c Ap).2 7 1 Pl).1), .int (nI i)] [] hz Q := by
      intro j
      induction j with
      | zero =>
        intro i hz hi sz hWz cz
        have hi : i = 8 := by omega
        subst hi
        rw [s_135_45]
        simp only [s_135_0, s_135_1, s_135_4, s_135_5, s_135_8, s_135_11, s_135_12, s_135_13, s_135_16, s_135_19, s_135_20, s_135_21, s_135_24, s_135_25, s_135_26, s_135_27, s_135_28, s_135_29, s_135_32, s_135_35, s_135_36, s_135_37, s_135_40, s_135_43, s_135_44, s_135_46, s_135_48, s_135_51, s_135_52, s_135_55, s_135_56, s_135_59, s_135_62, s_135_63, s_135_64, s_135_65, s_135_68, s_135_71, s_135_74, s_135_75, x_get_i, List.getElem?_cons_succ, List.getElem?_cons_zero, x_cv_j, cs_n, cs_i, cs_r, cs_l, Nat.reduceAdd, Nat.reduceLeDiff, true_and, Option.toList_some, Option.toList_none, List.cons_append, List.nil_append, if_true, if_false, nb0, nb1, x_setJ, x_setZ0, x_setZ1, x_setA, x_setO, List.length_cons, List.length_nil, Nat.reduceLT, List.set_cons_succ, List.set_cons_zero, wrl_0, wrl_1, wrl_2, wrl_3, wrl_4, wrl_5, wrl_p0, wrl_p1, wrl_p2, wrl_p3, wrl_p4, show (8 : Int32) ≤ nI 8 by decide]
        exact h2 hz Ap Pl k1 sz hWz
      | succ j ih =>
        intro i hz hi sz hWz cz
        have o_z := hWz.1
        have a_z : hz.2.2 (b + 1) = .inr (8, _) := hWz.2.1.1.1
        have c_z : hz.2.2 (b + 3) = .inr (5, _) := cel_0 hWz.2.2.1.1
        have n_z : hz.2.2 (b + 5) = .inr (9, _) := hWz.2.2.2.1.1.1
        have p_z : hz.2.2 (b + 33) = .inr (6, _) := hWz.2.2.2.2.2.2.2.1.1.1
        have q_z : hz.2.2 (b + 152) = .inr (2, _) := cel_0 hWz.2.2.2.2.2.2.2.2.2.2.2.2.2.2.1.1
        obtain ⟨_, mm_z⟩ := hWz.2.2.2.2.2.2.2.2.2.2.2.2.2.2.2.1.1
        have m_z : hz.2.2 (b + 154) = .inr (4, _) := cel_0 mm_z
        have g_z : hz.2.2 (b + 159) = .inr (1, _) := cel_0 hWz.2.2.2.2.2.2.2.2.2.2.2.2.2.2.2.2.1.1
        have z0 := cel_0 cz
        have z1 := cel_1 cz
        have i8 : i < 8 := by omega
        rw [s_135_45]
        simp only [s_135_0, s_135_1, s_135_4, s_135_5, s_135_8, s_135_11, s_135_12, s_135_13, s_135_16, s_135_19, s_135_20, s_135_21, s_135_24, s_135_25, s_135_26, s_135_27, s_135_28, s_135_29, s_135_32, s_135_35, s_135_36, s_135_37, s_135_40, s_135_43, s_135_44, s_135_46, s_135_48, s_135_51, s_135_52, s_135_55, s_135_56, s_135_59, s_135_62, s_135_63, s_135_64, s_135_65, s_135_68, s_135_71, s_135_74, s_135_75, x_get_i, List.getElem?_cons_succ, List.getElem?_cons_zero, x_cv_j, cs_n, cs_i, cs_r, cs_l, Nat.reduceAdd, Nat.reduceLeDiff, true_and, Option.toList_some, Option.toList_none, List.cons_append, List.nil_append, if_true, if_false, nb0, nb1, x_setJ, x_setZ0, x_setZ1, x_setA, x_setO, List.length_cons, List.length_nil, Nat.reduceLT, List.set_cons_succ, List.set_cons_zero, wrl_0, wrl_1, wrl_2, wrl_3, wrl_4, wrl_5, wrl_p0, wrl_p1, wrl_p2, wrl_p3, wrl_p4, show ¬ (8 : Int32) ≤ nI i from nI_ge (b := 8) i8 (by decide), o_z, a_z, c_z, n_z, p_z, q_z, m_z, g_z, z0, z1, x_ild_n i8 n8]
        have hWz' : CW sa hz b (0, F) ((lN8 (pfw (pread F c Ap).2 7 1 Pl).2 R i).1, (lN8 (pfw (pread F c Ap).2 7 1 Pl).2 R i).2) nw pa ru he mi ga := hWz
        refine c_radd hWz' (by rw [lN8_1]; omega) _ (fun hy sy hWy => ?_)
        simp only [s_135_0, s_135_1, s_135_4, s_135_5, s_135_8, s_135_11, s_135_12, s_135_13, s_135_16, s_135_19, s_135_20, s_135_21, s_135_24, s_135_25, s_135_26, s_135_27, s_135_28, s_135_29, s_135_32, s_135_35, s_135_36, s_135_37, s_135_40, s_135_43, s_135_44, s_135_46, s_135_48, s_135_51, s_135_52, s_135_55, s_135_56, s_135_59, s_135_62, s_135_63, s_135_64, s_135_65, s_135_68, s_135_71, s_135_74, s_135_75, x_get_i, List.getElem?_cons_succ, List.getElem?_cons_zero, x_cv_j, cs_n, cs_i, cs_r, cs_l, Nat.reduceAdd, Nat.reduceLeDiff, true_and, Option.toList_some, Option.toList_none, List.cons_append, List.nil_append, if_true, if_false, nb0, nb1, x_setJ, x_setZ0, x_setZ1, x_setA, x_setO, List.length_cons, List.length_nil, Nat.reduceLT, List.set_cons_succ, List.set_cons_zero, wrl_0, wrl_1, wrl_2, wrl_3, wrl_4, wrl_5, wrl_p0, wrl_p1, wrl_p2, wrl_p3, wrl_p4, nI_1]
        exact ih (i + 1) hy (by omega) (sz.trans (sy.mono (by omega) (by omega))) hWy (cel_sm sy (by simp only [List.length_cons, List.length_nil]; omega) cz)
    simp only [s_135_0, s_135_1, s_135_4, s_135_5, s_135_8, s_135_11, s_135_12, s_135_13, s_135_16, s_135_19, s_135_20, s_135_21, s_135_24, s_135_25, s_135_26, s_135_27, s_135_28, s_135_29, s_135_32, s_135_35, s_135_36, s_135_37, s_135_40, s_135_43, s_135_44, s_135_46, s_135_48, s_135_51, s_135_52, s_135_55, s_135_56, s_135_59, s_135_62, s_135_63, s_135_64, s_135_65, s_135_68, s_135_71, s_135_74, s_135_75, x_get_i, List.getElem?_cons_succ, List.getElem?_cons_zero, x_cv_j, cs_n, cs_i, cs_r, cs_l, Nat.reduceAdd, Nat.reduceLeDiff, true_and, Option.toList_some, Option.toList_none, List.cons_append, List.nil_append, if_true, if_false, nb0, nb1, x_setJ, x_setZ0, x_setZ1, x_setA, x_setO, List.length_cons, List.length_nil, Nat.reduceLT, List.set_cons_succ, List.set_cons_zero, wrl_0, wrl_1, wrl_2, wrl_3, wrl_4, wrl_5, wrl_p0, wrl_p1, wrl_p2, wrl_p3, wrl_p4]
    exact loop 8 0 he2 (by decide) (sAB.trans ((sD.mono (by omega) (by omega)).trans (sE.mono (by omega) (by omega)))) hWe ce
  · simp only [s_135_0, s_135_1, s_135_4, s_135_5, s_135_8, s_135_11, s_135_12, s_135_13, s_135_16, s_135_19, s_135_20, s_135_21, s_135_24, s_135_25, s_135_26, s_135_27, s_135_28, s_135_29, s_135_32, s_135_35, s_135_36, s_135_37, s_135_40, s_135_43, s_135_44, s_135_46, s_135_48, s_135_51, s_135_52, s_135_55, s_135_56, s_135_59, s_135_62, s_135_63, s_135_64, s_135_65, s_135_68, s_135_71, s_135_74, s_135_75, x_get_i, List.getElem?_cons_succ, List.getElem?_cons_zero, x_cv_j, cs_n, cs_i, cs_r, cs_l, Nat.reduceAdd, Nat.reduceLeDiff, true_and, Option.toList_some, Option.toList_none, List.cons_append, List.nil_append, if_true, if_false, nb0, nb1, x_setJ, x_setZ0, x_setZ1, x_setA, x_setO, List.length_cons, List.length_nil, Nat.reduceLT, List.set_cons_succ, List.set_cons_zero, wrl_0, wrl_1, wrl_2, wrl_3, wrl_4, wrl_5, wrl_p0, wrl_p1, wrl_p2, wrl_p3, wrl_p4, k1]
    exact h1 hb Ap k1 sAB hWb
theorem c_cdv {a e : Int64} : tm_D (g_G sa sc xt) d 171 [.long a, .long e] h Q ↔ Q (some (.long (cdv 200 a e))) h := by
  have loop : ∀ (j i : Nat) (x y : Int64) (x9 xa : Value), i + j = 200 → (tm_X (g_G sa sc xt) d 171 9 [.long a, tm_z, .long e, tm_z, .long x, tm_z, .long y, tm_z, .int (nI i), x9, xa] [] h Q ↔ Q (some (.long (cdv j x y))) h) := by
    intro j
    induction j with
    | zero =>
      intro i x y x9 xa hi
      have hi : i = 200 := by omega
      subst hi
      rw [s_171_9]
      simp only [s_171_0, s_171_1, s_171_3, s_171_4, s_171_6, s_171_7, s_171_11, s_171_14, s_171_17, s_171_19, s_171_20, s_171_21, s_171_24, s_171_26, s_171_28, s_171_29, s_171_31, s_171_33, s_171_35, s_171_37, s_171_39, s_171_42, s_171_45, s_171_47, x_get_i, List.getElem?_cons_succ, List.getElem?_cons_zero, x_cv_j, cs_n, cs_i, cs_r, cs_l, Nat.reduceAdd, Nat.reduceLeDiff, true_and, Option.toList_some, Option.toList_none, List.cons_append, List.nil_append, if_true, if_false, nb0, nb1, x_setJ, x_setZ0, x_setZ1, x_setA, x_setO, List.length_cons, List.length_nil, Nat.reduceLT, List.set_cons_succ, List.set_cons_zero, wrl_0, wrl_1, wrl_2, wrl_3, wrl_4, wrl_5, wrl_p0, wrl_p1, wrl_p2, wrl_p3, wrl_p4, show (200 : Int32) ≤ nI 200 by decide]
      exact Iff.rfl
    | succ j ih =>
      intro i x y x9 xa hi
      rw [s_171_9]
      simp only [s_171_0, s_171_1, s_171_3, s_171_4, s_171_6, s_171_7, s_171_11, s_171_14, s_171_17, s_171_19, s_171_20, s_171_21, s_171_24, s_171_26, s_171_28, s_171_29, s_171_31, s_171_33, s_171_35, s_171_37, s_171_39, s_171_42, s_171_45, s_171_47, x_get_i, List.getElem?_cons_succ, List.getElem?_cons_zero, x_cv_j, cs_n, cs_i, cs_r, cs_l, Nat.reduceAdd, Nat.reduceLeDiff, true_and, Option.toList_some, Option.toList_none, List.cons_append, List.nil_append, if_true, if_false, nb0, nb1, x_setJ, x_setZ0, x_setZ1, x_setA, x_setO, List.length_cons, List.length_nil, Nat.reduceLT, List.set_cons_succ, List.set_cons_zero, wrl_0, wrl_1, wrl_2, wrl_3, wrl_4, wrl_5, wrl_p0, wrl_p1, wrl_p2, wrl_p3, wrl_p4, show ¬ (200 : Int32) ≤ nI i from nI_ge (b := 200) (by omega) (by decide), lg_cmp0, nI_1]
      unfold cdv
      by_cases k : y = 0
      · simp only [k, if_true]
      · simp only [k, if_false]
        exact ih (i + 1) _ _ _ _ (by omega)
  rw [e_171]
  simp only [s_171_0, s_171_1, s_171_3, s_171_4, s_171_6, s_171_7, s_171_11, s_171_14, s_171_17, s_171_19, s_171_20, s_171_21, s_171_24, s_171_26, s_171_28, s_171_29, s_171_31, s_171_33, s_171_35, s_171_37, s_171_39, s_171_42, s_171_45, s_171_47]
  exact loop 200 0 a e _ _ (by decide)
end
