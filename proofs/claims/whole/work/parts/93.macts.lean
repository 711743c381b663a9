/-! the reference's calls: moves, cleans, casts, undo, heard, forget, saw, denies, keep, again, count, row -/
theorem LK_m {L W M B W' M' B' : Nat → Int32} {n : Nat} {s g s' g' : Int32} : LK (L, W, M, B, n, s, g) (L, W', M', B', n, s', g') := ⟨rfl, fun _ _ => rfl⟩
theorem WFX_B {L W M B : Nat → Int32} {n j x : Nat} {s g : Int32} (h : WFX (L, W, M, B, n, s, g)) (hx : x < 8) : WFX (L, W, M, upd B j (nI x), n, s, g) := ⟨⟨h.1.1, h.1.2.1, BX_upd h.1.2.2 hx⟩, h.2⟩
theorem WFX_M {L W M B : Nat → Int32} {n j y : Nat} {s g v : Int32} (h : WFX (L, W, M, B, n, s, g)) (hy : y < 19) (hv : v = nI y - 9) : WFX (L, W, upd M j v, B, n, s, g) := by
  refine ⟨h.1, fun i hi => ?_, h.2.2⟩
  show ∃ y, y < 19 ∧ upd M j v i = nI y - 9
  unfold upd
  split
  · exact ⟨y, hy, hv⟩
  · exact h.2.1 i hi
theorem WFX_W {L W M B : Nat → Int32} {n j y : Nat} {s g v : Int32} (h : WFX (L, W, M, B, n, s, g)) (hy : y < 10) (hv : v = nI y) : WFX (L, upd W j v, M, B, n, s, g) := by
  refine ⟨h.1, h.2.1, fun i hi => ?_⟩
  show ∃ y, y < 10 ∧ upd W j v i = nI y
  unfold upd
  split
  · exact ⟨y, hy, hv⟩
  · exact h.2.2 i hi
section
variable {sa : g_SA} {sc : Nat × Nat × (Nat → Int32)} {xt : Nat → Nat → List Value → tm_H → Option (Option Value × tm_H)} {d m : Nat} {h : tm_H} {Q : Option Value → tm_H → Prop} {I : Nat → Int32} {rd : Value} {ru : Nat} {C : Nat → tm_E}
variable {c n u : Nat} {F L W M B N Lm H Ms Bs Os : Nat → Int32} {s g : Int32} {rc hc mc : Nat} {R : Nat → Int64} {tx : Nat × (Nat → Int32)} {rw : Nat × (Nat → Int64)} {nw : TN} {pa : PA} {cd : List Int32} {he : Nat × (Nat → Int32)} {mi : Nat × (Nat → Int32) × (Nat → Int32) × (Nat → Int32)}
/-- one act that can be undone is done -/
theorem MV_done {X' : TN} {U N N' : Nat → Int32} (hM : MV I C tx rw nw pa cd he mi) (hl : LK nw X') (hwf : WFX X') (hz : WZ X') (hU : C 9 = .inl (0, 456, .inl U)) (hN : C 1 = .inl (0, 38, .inl N)) (hr : RW N nw) (hN' : RW N' X') : MV (iu (iu I 7 0) 20 (nI (rec_ pa.1))) (cup (cup C 9 (.inl (0, 456, .inl (rem U pa.1 N)))) 1 (.inl (0, 38, .inl N'))) tx rw X' (pap1 pa nw) cd he mi := by
  obtain ⟨u1, u2, u3, U0, u4, u5⟩ := hM.2.2.2.1
  have e : U0 = U := by
    rw [u4] at hU
    cases hU; rfl
  subst e
  have hz0 := hM.2.2.1.2.2.1
  have hp := MVu_push (Y := nw) u2 u3 (fun k hk => ⟨(u5 k hk).1, hl.symm.trans (u5 k hk).2.1, (u5 k hk).2.2⟩) hr hl.symm hM.2.2.1.2.1 hz0
  refine hM.act (nw' := X') (N' := N') hl hwf hz (fun k hk k20 => ?_) (fun j hj j1 j9 => ?_) (if_pos rfl) hN' ⟨(if_pos rfl).trans (by rw [hp.1]), Nat.min_le_left _ _, Nat.mod_lt _ (by decide), _, (if_neg (by decide)).trans (if_pos rfl), hp.2⟩ rfl (hM.1.same rfl rfl) (hM.2.1.same rfl rfl) ((hM.mx.cn rfl).cn rfl)
  · exact (if_neg k20).trans (if_neg (fun q => by subst q; cases hk))
  · exact (if_neg j1).trans (if_neg j9)
theorem m_moves (hM : MV I C tx rw (L, W, M, B, n, s, g) pa cd he mi) (v w : Int32) (h1 : ∀ I', (¬ (∃ j, j < n ∧ v = nI j) ∨ ¬ ∃ x, x < 8 ∧ w = nI x) → MV I' C tx rw (L, W, M, B, n, s, g) pa cd he mi → Q (some (.int (-1))) (mh h m I' rd (m + 6) C)) (h2 : ∀ j x I', j < n → v = nI j → x < 8 → w = nI x → (s >>> (nI j &&& 31)) &&& 1 = 1 → MV I' C tx rw (L, W, M, B, n, s, g) pa cd he mi → Q (some (.int (-2))) (mh h m I' rd (m + 6) C)) (h3 : ∀ j x I', j < n → v = nI j → x < 8 → w = nI x → ¬ (s >>> (nI j &&& 31)) &&& 1 = 1 → B j = nI x → MV I' C tx rw (L, W, M, B, n, s, g) pa cd he mi → Q (some (.int (-3))) (mh h m I' rd (m + 6) C)) (h4 : ∀ j x I' C', j < n → v = nI j → x < 8 → w = nI x → ¬ (s >>> (nI j &&& 31)) &&& 1 = 1 → ¬ B j = nI x → MV I' C' tx rw (L, W, M, upd B j (nI x), n, s, g) (pap1 pa (L, W, M, B, n, s, g)) cd he mi → Q (some (.int (10 + B j))) (mh h m I' rd (m + 6) C')) : tm_D (g_G sa sc xt) (d + 3) 226 [.ref m, .int v, .int w] (mh h m I rd (m + 6) C) Q := by
  obtain ⟨N, Lm, f, hG, hN, hL, h11, hr, hLe, hwf, i1, hn⟩ := hM.ngt (m := m)
  have hz := hM.2.2.1.2.2.1
  obtain ⟨u1, u2, u3, U, u4, u5⟩ := hM.2.2.2.1
  have hn : n ≤ 12 := hn
  by_cases b : ¬ (∃ j, j < n ∧ v = nI j) ∨ ¬ ∃ x, x < 8 ∧ w = nI x
  · rw [r_moves0 (n := n) i1 hn b]
    exact h1 _ b hM.i7
  · obtain ⟨j, hj, ej⟩ : ∃ j, j < n ∧ v = nI j := Classical.not_not.mp (fun q => b (Or.inl q))
    obtain ⟨x, hx, ex⟩ : ∃ x, x < 8 ∧ w = nI x := Classical.not_not.mp (fun q => b (Or.inr q))
    subst ej
    subst ex
    have e36 : N 36 = s := hr.2.2.2.1
    have eB : N (24 + j) = B j := hr.2.2.1 j (by omega)
    rw [r_moves (n := n) (u := pa.1) i1 hn hj hx hN u1 u2 u4, e36, eB]
    by_cases c1 : (s >>> (nI j &&& 31)) &&& 1 = 1
    · rw [if_pos c1]
      exact h2 j x _ hj rfl hx rfl c1 hM.i7
    · rw [if_neg c1]
      by_cases c2 : B j = nI x
      · rw [if_pos c2]
        exact h3 j x _ hj rfl hx rfl c1 c2 hM.i7
      · rw [if_neg c2]
        exact h4 j x _ _ hj rfl hx rfl c1 c2 (MV_done hM LK_m (WFX_B hwf hx) hz u4 hN hr (RW_B (by omega) hr))
theorem m_cleans (hM : MV I C tx rw (L, W, M, B, n, s, g) pa cd he mi) (v : Int32) (h1 : ∀ I', (¬ ∃ j, j < n ∧ v = nI j) → MV I' C tx rw (L, W, M, B, n, s, g) pa cd he mi → Q (some (.int (-1))) (mh h m I' rd (m + 6) C)) (h2 : ∀ j I', j < n → v = nI j → M j = 0 → MV I' C tx rw (L, W, M, B, n, s, g) pa cd he mi → Q (some (.int (-2))) (mh h m I' rd (m + 6) C)) (h4 : ∀ j I' C', j < n → v = nI j → ¬ M j = 0 → MV I' C' tx rw (L, W, upd M j 0, B, n, s, g) (pap1 pa (L, W, M, B, n, s, g)) cd he mi → Q (some (.int (10 + M j))) (mh h m I' rd (m + 6) C')) : tm_D (g_G sa sc xt) (d + 3) 228 [.ref m, .int v] (mh h m I rd (m + 6) C) Q := by
  obtain ⟨N, Lm, f, hG, hN, hL, h11, hr, hLe, hwf, i1, hn⟩ := hM.ngt (m := m)
  have hz := hM.2.2.1.2.2.1
  obtain ⟨u1, u2, u3, U, u4, u5⟩ := hM.2.2.2.1
  have hn : n ≤ 12 := hn
  by_cases b : ∃ j, j < n ∧ v = nI j
  · obtain ⟨j, hj, ej⟩ := b
    subst ej
    have eM : N (12 + j) = M j := hr.2.1 j (by omega)
    rw [r_cleans (n := n) (u := pa.1) i1 hn hj hN u1 u2 u4, eM]
    by_cases c1 : M j = 0
    · rw [if_pos c1]
      exact h2 j _ hj rfl c1 hM.i7
    · rw [if_neg c1]
      exact h4 j _ _ hj rfl c1 (MV_done hM LK_m (WFX_M (y := 9) hwf (by decide) (by decide)) hz u4 hN hr (RW_M (by omega) hr))
  · rw [r_cleans0 (n := n) i1 hn b]
    exact h1 _ b hM.i7
theorem WZ_W {j : Nat} {v : Int32} (hz : WZ (L, W, M, B, n, s, g)) (hj : j < n) : WZ (L, upd W j v, M, B, n, s, g) := by
  intro i h1 h2
  show upd W j v i = 0
  have h1 : n ≤ i := h1
  exact (if_neg (by omega)).trans (hz i h1 h2)
theorem m_casts (hM : MV I C tx rw (L, W, M, B, n, s, g) pa cd he mi) (v : Int32) (h1 : ∀ I', (¬ ∃ j, j < n ∧ v = nI j) → MV I' C tx rw (L, W, M, B, n, s, g) pa cd he mi → Q (some (.int (-1))) (mh h m I' rd (m + 6) C)) (h2 : ∀ j I', j < n → v = nI j → W j = 0 → MV I' C tx rw (L, W, M, B, n, s, g) pa cd he mi → Q (some (.int (-2))) (mh h m I' rd (m + 6) C)) (h4 : ∀ j I' C', j < n → v = nI j → ¬ W j = 0 → MV I' C' tx rw (L, upd W j 0, M, B, n, s, g) (pap1 pa (L, W, M, B, n, s, g)) cd he mi → Q (some (.int (W j))) (mh h m I' rd (m + 6) C')) : tm_D (g_G sa sc xt) (d + 3) 230 [.ref m, .int v] (mh h m I rd (m + 6) C) Q := by
  obtain ⟨N, Lm, f, hG, hN, hL, h11, hr, hLe, hwf, i1, hn⟩ := hM.ngt (m := m)
  have hz := hM.2.2.1.2.2.1
  obtain ⟨u1, u2, u3, U, u4, u5⟩ := hM.2.2.2.1
  have hn : n ≤ 12 := hn
  by_cases b : ∃ j, j < n ∧ v = nI j
  · obtain ⟨j, hj, ej⟩ := b
    subst ej
    have eW : N j = W j := hr.1 j (by omega)
    rw [r_casts (n := n) (u := pa.1) i1 hn hj hN u1 u2 u4, eW]
    by_cases c1 : W j = 0
    · rw [if_pos c1]
      exact h2 j _ hj rfl c1 hM.i7
    · rw [if_neg c1]
      exact h4 j _ _ hj rfl c1 (MV_done hM LK_m (WFX_W (y := 0) hwf (by decide) rfl) (WZ_W hz hj) u4 hN hr (RW_W (by omega) hr))
  · rw [r_casts0 (n := n) i1 hn b]
    exact h1 _ b hM.i7
theorem m_undo0 (hM : MV I C tx rw nw pa cd he mi) (hz : pa.1 = 0) (hQ : ∀ I', MV I' C tx rw nw pa cd he mi → Q (some (.int (-1))) (mh h m I' rd (m + 6) C)) : tm_D (g_G sa sc xt) d 234 [.ref m] (mh h m I rd (m + 6) C) Q := by
  have h20 := hM.2.2.2.1.1
  rw [hz] at h20
  rw [r_undo0 h20]
  exact hQ _ hM.i7
theorem m_undo {pq : Nat × (Nat → TN) × (Nat → TN) × (Nat → Int32)} (hM : MV I C tx rw nw (u + 1, pq) cd he mi) (hQ : ∀ I' C', MV I' C' tx rw (pq.2.1 ((pq.1 + 11) % 12)) (u, (pq.1 + 11) % 12, pq.2) cd he mi → Q (some (.int (nI u))) (mh h m I' rd (m + 6) C')) : tm_D (g_G sa sc xt) d 234 [.ref m] (mh h m I rd (m + 6) C) Q := by
  obtain ⟨N, Lm, f, hG, hN, hL, h11, hr, hLe, hwf, i1, hn⟩ := hM.ngt (m := m)
  obtain ⟨u1, u2, u3, U, u4, u5⟩ := hM.2.2.2.1
  have u2 : u + 1 ≤ 12 := u2
  have u3 : pq.1 < 12 := u3
  rw [r_undo (u := u) u1 (by omega) hN u4]
  have hq := u5 u (Nat.lt_succ_self u)
  have ei : (pq.1 + 12 - (u + 1) + u) % 12 = (pq.1 + 11) % 12 := by omega
  have ei' : ((u + 1, pq).2.1 + 12 - (u + 1, pq).1 + u) % 12 = (pq.1 + 11) % 12 := ei
  rw [ei'] at hq
  have hq1 : RW (fun j => U (38 * u + j)) (pq.2.1 ((pq.1 + 11) % 12)) := hq.1
  refine hQ _ _ (hM.act (nw' := pq.2.1 ((pq.1 + 11) % 12)) hq.2.1 hq.2.2.1 hq.2.2.2 (fun k hk k20 => ?_) (fun j hj j1 j9 => if_neg j1) (if_pos rfl) (RW_lyt hq1) ⟨if_pos rfl, by show u ≤ 12; omega, Nat.mod_lt _ (by decide), U, (if_neg (by decide)).trans u4, fun k hk => ?_⟩ rfl (hM.1.same rfl rfl) (hM.2.1.same rfl rfl) (hM.mx.cn rfl))
  · exact (if_neg k20).trans (if_neg (fun q => by subst q; cases hk))
  · have hk : k < u := hk
    have hk' := u5 k (Nat.lt_succ_of_lt hk)
    have e2 : ((u + 1, pq).2.1 + 12 - (u + 1, pq).1 + k) % 12 = ((pq.1 + 11) % 12 + 12 - u + k) % 12 := by
      show (pq.1 + 12 - (u + 1) + k) % 12 = _
      omega
    rw [e2] at hk'
    exact ⟨hk'.1, hq.2.1.symm.trans hk'.2.1, hk'.2.2⟩
theorem m_forget (hM : MV I C tx rw nw pa cd (hc, H) mi) (hQ : ∀ I', MV I' C tx rw nw pa cd (0, H) mi → Q (some (.int (nI hc))) (mh h m I' rd (m + 6) C)) : tm_D (g_G sa sc xt) d 261 [.ref m] (mh h m I rd (m + 6) C) Q := by
  obtain ⟨a1, a2, a3, a4, a5, a6, a7, a8, a9⟩ := hM
  obtain ⟨b1, b2, A, B', b3, b4, b5⟩ := a7
  rw [r_forget, b1]
  exact hQ _ ⟨a1, a2, a3, a4, a5, a6, ⟨rfl, Nat.zero_le _, A, B', b3, b4, fun k hk => absurd hk (Nat.not_lt_zero k)⟩, a8, a9⟩
theorem hm_high {w : Int32} (hw : ∃ j, j ≤ 4 ∧ w = nI j) : (if w = 0 then (7 : Int32) else if w = 3 then 7 else if w = 2 then 1 else 9) = hm w := by
  obtain ⟨j, hj, e⟩ := hw
  subst e
  have : ∀ j : Fin 5, (if nI j.1 = 0 then (7 : Int32) else if nI j.1 = 3 then 7 else if nI j.1 = 2 then 1 else 9) = hm (nI j.1) := by decide +kernel
  exact this ⟨j, by omega⟩
theorem hm_none {w : Int32} (hw : ¬ ∃ j, j ≤ 4 ∧ w = nI j) : hm w = -1 := by
  unfold hm
  rw [if_neg (show ¬ w = 0 from fun e => hw ⟨0, by decide, e⟩), if_neg (show ¬ w = 1 from fun e => hw ⟨1, by decide, e⟩), if_neg (show ¬ w = 2 from fun e => hw ⟨2, by decide, e⟩), if_neg (show ¬ w = 3 from fun e => hw ⟨3, by decide, e⟩), if_neg (show ¬ w = 4 from fun e => hw ⟨4, by decide, e⟩)]
theorem r_highOf (w : Int32) : tm_D (g_G sa sc xt) d 259 [.int w] h Q ↔ Q (some (.int (if w = 0 then (7 : Int32) else if w = 3 then 7 else if w = 2 then 1 else 9))) h := by
  rw [e_259]
  simp only [s_259_0, s_259_1, s_259_4, s_259_5, s_259_6, s_259_9, s_259_11, s_259_14, s_259_15, s_259_16, s_259_19, s_259_20, s_259_23, s_259_25, x_get_i, List.getElem?_cons_succ, List.getElem?_cons_zero, x_cv_j, cs_n, cs_i, cs_r, cs_l, Nat.reduceAdd, Nat.reduceLeDiff, true_and, Option.toList_some, Option.toList_none, List.cons_append, List.nil_append, if_true, if_false, nb0, nb1, x_setJ, x_setZ0, x_setZ1, x_setA, x_setO, List.length_cons, List.length_nil, Nat.reduceLT, List.set_cons_succ, List.set_cons_zero, wrl_0, wrl_1, wrl_2, wrl_3, wrl_4, wrl_5, wrl_p0, wrl_p1, wrl_p2, wrl_p3, wrl_p4]
  by_cases c0 : w = 0
  · simp only [c0, if_true, s_259_0, s_259_1, s_259_4, s_259_5, s_259_6, s_259_9, s_259_11, s_259_14, s_259_15, s_259_16, s_259_19, s_259_20, s_259_23, s_259_25, x_get_i, List.getElem?_cons_succ, List.getElem?_cons_zero, x_cv_j, cs_n, cs_i, cs_r, cs_l, Nat.reduceAdd, Nat.reduceLeDiff, true_and, Option.toList_some, Option.toList_none, List.cons_append, List.nil_append, if_true, if_false, nb0, nb1, x_setJ, x_setZ0, x_setZ1, x_setA, x_setO, List.length_cons, List.length_nil, Nat.reduceLT, List.set_cons_succ, List.set_cons_zero, wrl_0, wrl_1, wrl_2, wrl_3, wrl_4, wrl_5, wrl_p0, wrl_p1, wrl_p2, wrl_p3, wrl_p4]
  · by_cases c3 : w = 3
    · simp only [c0, c3, if_true, if_false, s_259_0, s_259_1, s_259_4, s_259_5, s_259_6, s_259_9, s_259_11, s_259_14, s_259_15, s_259_16, s_259_19, s_259_20, s_259_23, s_259_25, x_get_i, List.getElem?_cons_succ, List.getElem?_cons_zero, x_cv_j, cs_n, cs_i, cs_r, cs_l, Nat.reduceAdd, Nat.reduceLeDiff, true_and, Option.toList_some, Option.toList_none, List.cons_append, List.nil_append, if_true, if_false, nb0, nb1, x_setJ, x_setZ0, x_setZ1, x_setA, x_setO, List.length_cons, List.length_nil, Nat.reduceLT, List.set_cons_succ, List.set_cons_zero, wrl_0, wrl_1, wrl_2, wrl_3, wrl_4, wrl_5, wrl_p0, wrl_p1, wrl_p2, wrl_p3, wrl_p4, show ¬ (3 : Int32) = 0 by decide]
    · by_cases c2 : w = 2
      · simp only [c0, c3, c2, if_true, if_false, s_259_0, s_259_1, s_259_4, s_259_5, s_259_6, s_259_9, s_259_11, s_259_14, s_259_15, s_259_16, s_259_19, s_259_20, s_259_23, s_259_25, x_get_i, List.getElem?_cons_succ, List.getElem?_cons_zero, x_cv_j, cs_n, cs_i, cs_r, cs_l, Nat.reduceAdd, Nat.reduceLeDiff, true_and, Option.toList_some, Option.toList_none, List.cons_append, List.nil_append, if_true, if_false, nb0, nb1, x_setJ, x_setZ0, x_setZ1, x_setA, x_setO, List.length_cons, List.length_nil, Nat.reduceLT, List.set_cons_succ, List.set_cons_zero, wrl_0, wrl_1, wrl_2, wrl_3, wrl_4, wrl_5, wrl_p0, wrl_p1, wrl_p2, wrl_p3, wrl_p4, show ¬ (2 : Int32) = 0 by decide, show ¬ (2 : Int32) = 3 by decide]
      · simp only [c0, c3, c2, if_true, if_false, s_259_0, s_259_1, s_259_4, s_259_5, s_259_6, s_259_9, s_259_11, s_259_14, s_259_15, s_259_16, s_259_19, s_259_20, s_259_23, s_259_25, x_get_i, List.getElem?_cons_succ, List.getElem?_cons_zero, x_cv_j, cs_n, cs_i, cs_r, cs_l, Nat.reduceAdd, Nat.reduceLeDiff, true_and, Option.toList_some, Option.toList_none, List.cons_append, List.nil_append, if_true, if_false, nb0, nb1, x_setJ, x_setZ0, x_setZ1, x_setA, x_setO, List.length_cons, List.length_nil, Nat.reduceLT, List.set_cons_succ, List.set_cons_zero, wrl_0, wrl_1, wrl_2, wrl_3, wrl_4, wrl_5, wrl_p0, wrl_p1, wrl_p2, wrl_p3, wrl_p4]
theorem m_heard (hM : MV I C tx rw nw pa cd (hc, H) mi) (w v : Int32) (h1 : (v < 0 ∨ hm w < v ∨ hc = 12) → ∀ I', MV I' C tx rw nw pa cd (hc, H) mi → Q (some (.int (-1))) (mh h m I' rd (m + 6) C)) (h2 : ¬ (v < 0 ∨ hm w < v ∨ hc = 12) → ∀ I' C', MV I' C' tx rw nw pa cd (hc + 1, upd H hc (10 * w + v)) mi → Q (some (.int (nI (hc + 1)))) (mh h m I' rd (m + 6) C')) : tm_D (g_G sa sc xt) (d + 1) 260 [.ref m, .int w, .int v] (mh h m I rd (m + 6) C) Q := by
  have hM0 := hM
  obtain ⟨a1, a2, a3, a4, a5, a6, a7, a8, a9⟩ := hM
  obtain ⟨b1, b2, A, B', b3, b4, b5⟩ := a7
  have b1 : I 35 = nI hc := b1
  have b2 : hc ≤ 12 := b2
  have e4 : (if w < 0 then (0 : Int32) else if 4 < w then 0 else 1) = if ∃ j : Nat, j ≤ 4 ∧ w = nI j then 1 else 0 := in0 (v := w) (k := 4) (by decide)
  rw [e_260]
  simp only [s_260_0, s_260_1, s_260_2, s_260_5, s_260_6, s_260_7, s_260_8, s_260_11, s_260_14, s_260_15, s_260_16, s_260_17, s_260_20, s_260_23, s_260_26, s_260_27, s_260_30, s_260_32, s_260_35, s_260_36, s_260_37, s_260_38, s_260_41, s_260_42, s_260_45, s_260_46, s_260_47, s_260_48, s_260_51, s_260_52, s_260_55, s_260_56, s_260_57, s_260_58, s_260_59, s_260_62, s_260_63, s_260_64, s_260_67, s_260_68, s_260_71, x_get_i, List.getElem?_cons_succ, List.getElem?_cons_zero, x_cv_j, cs_n, cs_i, cs_r, cs_l, Nat.reduceAdd, Nat.reduceLeDiff, true_and, Option.toList_some, Option.toList_none, List.cons_append, List.nil_append, if_true, if_false, nb0, nb1, x_setJ, x_setZ0, x_setZ1, x_setA, x_setO, List.length_cons, List.length_nil, Nat.reduceLT, List.set_cons_succ, List.set_cons_zero, wrl_0, wrl_1, wrl_2, wrl_3, wrl_4, wrl_5, wrl_p0, wrl_p1, wrl_p2, wrl_p3, wrl_p4, mh_o, mh_po, mcv, mg_0, mg_1, mg_2, mg_3, mg_4, mg_5, mg_6, mg_7, mg_8, mg_9, mg_10, mg_11, mg_12, mg_13, mg_14, mg_15, mg_16, mg_17, mg_18, mg_19, mg_20, mg_21, mg_22, mg_23, mg_24, mg_25, mg_26, mg_27, mg_28, mg_29, mg_30, mg_31, mg_32, mg_33, mg_34, mg_35, mg_36, mg_37, mg_38, mg_39, mg_40, mg_41, mg_42, mg_43, mg_44, mg_45, mg_46, ms_1, ms_4, ms_6, ms_7, ms_9, ms_10, ms_11, ms_12, ms_16, ms_20, ms_24, ms_28, ms_35, ms_39, ms_42, ms_43, ms_17t, ms_17f, ms_8, ms_14, mc_1, mp_1, mc_2, mp_2, mc_3, mp_3, mc_4, mp_4, mc_5, mp_5, mc_6, mp_6, mc_7, mp_7, mc_8, mp_8, mc_9, mp_9, mc_10, mp_10, mc_11, mp_11, mc_12, mp_12, mc_13, mp_13, mc_14, mp_14, mc_15, mp_15, mc_16, mp_16, mc_17, mp_17, mc_18, mp_18, mc_19, mp_19, mc_20, mp_20, mc_21, mp_21, mc_22, mp_22, mc_23, mp_23, mc_24, mp_24, mc_25, mp_25, mc_26, mp_26, mc_27, mp_27, mc_28, mp_28, mc_29, mp_29, iu, cup, Nat.reduceEqDiff, r_in, e4]
  by_cases hw : ∃ j, j ≤ 4 ∧ w = nI j
  · simp only [hw, if_true, show ¬ (1 : Int32) = 0 by decide, if_false, s_260_0, s_260_1, s_260_2, s_260_5, s_260_6, s_260_7, s_260_8, s_260_11, s_260_14, s_260_15, s_260_16, s_260_17, s_260_20, s_260_23, s_260_26, s_260_27, s_260_30, s_260_32, s_260_35, s_260_36, s_260_37, s_260_38, s_260_41, s_260_42, s_260_45, s_260_46, s_260_47, s_260_48, s_260_51, s_260_52, s_260_55, s_260_56, s_260_57, s_260_58, s_260_59, s_260_62, s_260_63, s_260_64, s_260_67, s_260_68, s_260_71, x_get_i, List.getElem?_cons_succ, List.getElem?_cons_zero, x_cv_j, cs_n, cs_i, cs_r, cs_l, Nat.reduceAdd, Nat.reduceLeDiff, true_and, Option.toList_some, Option.toList_none, List.cons_append, List.nil_append, if_true, if_false, nb0, nb1, x_setJ, x_setZ0, x_setZ1, x_setA, x_setO, List.length_cons, List.length_nil, Nat.reduceLT, List.set_cons_succ, List.set_cons_zero, wrl_0, wrl_1, wrl_2, wrl_3, wrl_4, wrl_5, wrl_p0, wrl_p1, wrl_p2, wrl_p3, wrl_p4, mh_o, mh_po, mcv, mg_0, mg_1, mg_2, mg_3, mg_4, mg_5, mg_6, mg_7, mg_8, mg_9, mg_10, mg_11, mg_12, mg_13, mg_14, mg_15, mg_16, mg_17, mg_18, mg_19, mg_20, mg_21, mg_22, mg_23, mg_24, mg_25, mg_26, mg_27, mg_28, mg_29, mg_30, mg_31, mg_32, mg_33, mg_34, mg_35, mg_36, mg_37, mg_38, mg_39, mg_40, mg_41, mg_42, mg_43, mg_44, mg_45, mg_46, ms_1, ms_4, ms_6, ms_7, ms_9, ms_10, ms_11, ms_12, ms_16, ms_20, ms_24, ms_28, ms_35, ms_39, ms_42, ms_43, ms_17t, ms_17f, ms_8, ms_14, mc_1, mp_1, mc_2, mp_2, mc_3, mp_3, mc_4, mp_4, mc_5, mp_5, mc_6, mp_6, mc_7, mp_7, mc_8, mp_8, mc_9, mp_9, mc_10, mp_10, mc_11, mp_11, mc_12, mp_12, mc_13, mp_13, mc_14, mp_14, mc_15, mp_15, mc_16, mp_16, mc_17, mp_17, mc_18, mp_18, mc_19, mp_19, mc_20, mp_20, mc_21, mp_21, mc_22, mp_22, mc_23, mp_23, mc_24, mp_24, mc_25, mp_25, mc_26, mp_26, mc_27, mp_27, mc_28, mp_28, mc_29, mp_29, iu, cup, Nat.reduceEqDiff, r_in, r_highOf, hm_high hw]
    by_cases k1 : v < 0
    · simp only [k1, if_true]
      exact h1 (Or.inl k1) _ hM0.i7
    · by_cases k2 : hm w < v
      · simp only [k1, k2, if_true, if_false]
        exact h1 (Or.inr (Or.inl k2)) _ hM0.i7
      · simp only [k1, k2, if_false, show ¬ (1 : Int32) = 0 by decide, s_260_0, s_260_1, s_260_2, s_260_5, s_260_6, s_260_7, s_260_8, s_260_11, s_260_14, s_260_15, s_260_16, s_260_17, s_260_20, s_260_23, s_260_26, s_260_27, s_260_30, s_260_32, s_260_35, s_260_36, s_260_37, s_260_38, s_260_41, s_260_42, s_260_45, s_260_46, s_260_47, s_260_48, s_260_51, s_260_52, s_260_55, s_260_56, s_260_57, s_260_58, s_260_59, s_260_62, s_260_63, s_260_64, s_260_67, s_260_68, s_260_71, x_get_i, List.getElem?_cons_succ, List.getElem?_cons_zero, x_cv_j, cs_n, cs_i, cs_r, cs_l, Nat.reduceAdd, Nat.reduceLeDiff, true_and, Option.toList_some, Option.toList_none, List.cons_append, List.nil_append, if_true, if_false, nb0, nb1, x_setJ, x_setZ0, x_setZ1, x_setA, x_setO, List.length_cons, List.length_nil, Nat.reduceLT, List.set_cons_succ, List.set_cons_zero, wrl_0, wrl_1, wrl_2, wrl_3, wrl_4, wrl_5, wrl_p0, wrl_p1, wrl_p2, wrl_p3, wrl_p4, mh_o, mh_po, mcv, mg_0, mg_1, mg_2, mg_3, mg_4, mg_5, mg_6, mg_7, mg_8, mg_9, mg_10, mg_11, mg_12, mg_13, mg_14, mg_15, mg_16, mg_17, mg_18, mg_19, mg_20, mg_21, mg_22, mg_23, mg_24, mg_25, mg_26, mg_27, mg_28, mg_29, mg_30, mg_31, mg_32, mg_33, mg_34, mg_35, mg_36, mg_37, mg_38, mg_39, mg_40, mg_41, mg_42, mg_43, mg_44, mg_45, mg_46, ms_1, ms_4, ms_6, ms_7, ms_9, ms_10, ms_11, ms_12, ms_16, ms_20, ms_24, ms_28, ms_35, ms_39, ms_42, ms_43, ms_17t, ms_17f, ms_8, ms_14, mc_1, mp_1, mc_2, mp_2, mc_3, mp_3, mc_4, mp_4, mc_5, mp_5, mc_6, mp_6, mc_7, mp_7, mc_8, mp_8, mc_9, mp_9, mc_10, mp_10, mc_11, mp_11, mc_12, mp_12, mc_13, mp_13, mc_14, mp_14, mc_15, mp_15, mc_16, mp_16, mc_17, mp_17, mc_18, mp_18, mc_19, mp_19, mc_20, mp_20, mc_21, mp_21, mc_22, mp_22, mc_23, mp_23, mc_24, mp_24, mc_25, mp_25, mc_26, mp_26, mc_27, mp_27, mc_28, mp_28, mc_29, mp_29, iu, cup, Nat.reduceEqDiff, b1]
        by_cases k3 : hc = 12
        · subst k3
          simp only [show nI 12 = 12 from rfl, if_true]
          exact h1 (Or.inr (Or.inr rfl)) _ hM0.i7
        · have k3' : ¬ nI hc = 12 := fun q => k3 ((nI_eq (b := 12) (by omega) (by decide)).mp q)
          have hno : ¬ (v < 0 ∨ hm w < v ∨ hc = 12) := by
            rintro (q | q | q)
            · exact k1 q
            · exact k2 q
            · exact k3 q
          simp only [k3', if_false, if_true, not_false_eq_true, s_260_0, s_260_1, s_260_2, s_260_5, s_260_6, s_260_7, s_260_8, s_260_11, s_260_14, s_260_15, s_260_16, s_260_17, s_260_20, s_260_23, s_260_26, s_260_27, s_260_30, s_260_32, s_260_35, s_260_36, s_260_37, s_260_38, s_260_41, s_260_42, s_260_45, s_260_46, s_260_47, s_260_48, s_260_51, s_260_52, s_260_55, s_260_56, s_260_57, s_260_58, s_260_59, s_260_62, s_260_63, s_260_64, s_260_67, s_260_68, s_260_71, x_get_i, List.getElem?_cons_succ, List.getElem?_cons_zero, x_cv_j, cs_n, cs_i, cs_r, cs_l, Nat.reduceAdd, Nat.reduceLeDiff, true_and, Option.toList_some, Option.toList_none, List.cons_append, List.nil_append, if_true, if_false, nb0, nb1, x_setJ, x_setZ0, x_setZ1, x_setA, x_setO, List.length_cons, List.length_nil, Nat.reduceLT, List.set_cons_succ, List.set_cons_zero, wrl_0, wrl_1, wrl_2, wrl_3, wrl_4, wrl_5, wrl_p0, wrl_p1, wrl_p2, wrl_p3, wrl_p4, mh_o, mh_po, mcv, mg_0, mg_1, mg_2, mg_3, mg_4, mg_5, mg_6, mg_7, mg_8, mg_9, mg_10, mg_11, mg_12, mg_13, mg_14, mg_15, mg_16, mg_17, mg_18, mg_19, mg_20, mg_21, mg_22, mg_23, mg_24, mg_25, mg_26, mg_27, mg_28, mg_29, mg_30, mg_31, mg_32, mg_33, mg_34, mg_35, mg_36, mg_37, mg_38, mg_39, mg_40, mg_41, mg_42, mg_43, mg_44, mg_45, mg_46, ms_1, ms_4, ms_6, ms_7, ms_9, ms_10, ms_11, ms_12, ms_16, ms_20, ms_24, ms_28, ms_35, ms_39, ms_42, ms_43, ms_17t, ms_17f, ms_8, ms_14, mc_1, mp_1, mc_2, mp_2, mc_3, mp_3, mc_4, mp_4, mc_5, mp_5, mc_6, mp_6, mc_7, mp_7, mc_8, mp_8, mc_9, mp_9, mc_10, mp_10, mc_11, mp_11, mc_12, mp_12, mc_13, mp_13, mc_14, mp_14, mc_15, mp_15, mc_16, mp_16, mc_17, mp_17, mc_18, mp_18, mc_19, mp_19, mc_20, mp_20, mc_21, mp_21, mc_22, mp_22, mc_23, mp_23, mc_24, mp_24, mc_25, mp_25, mc_26, mp_26, mc_27, mp_27, mc_28, mp_28, mc_29, mp_29, iu, cup, Nat.reduceEqDiff, b1, b3, b4, x_ist_n (show hc < 12 by omega) n12, nI_1, iu_iu]
          obtain ⟨j, hj, ej⟩ := hw
          obtain ⟨y, hy, ey⟩ := nI_of k1
          have hy9 : y ≤ 9 := by
            apply Nat.not_lt.mp
            intro q
            apply k2
            rw [ej, ey]
            have : ∀ j : Fin 5, hm (nI j.1) ≤ 9 := by decide +kernel
            exact Int32.lt_of_le_of_lt (this ⟨j, by omega⟩) (nI_lt (a := 9) q hy)
          refine h2 hno _ _ ⟨a1.same rfl rfl, a2.same rfl rfl, ?_, ?_, ?_, ?_, ⟨if_pos rfl, by show hc + 1 ≤ 12; omega, _, _, (if_neg (by decide)).trans (if_pos rfl), if_pos rfl, fun k hk => ?_⟩, ?_, ((a9.cn rfl).cn rfl)⟩
          · exact a3
          · exact a4
          · exact a5
          · exact a6
          · have hk : k < hc + 1 := hk
            by_cases c : k = hc
            · subst c
              refine ⟨j, y, by omega, by omega, fun e2 => ?_, (if_pos rfl).trans ej, (if_pos rfl).trans ey, (if_pos rfl).trans ?_⟩
              · subst e2
                rw [ej, ey] at k2
                apply Nat.not_lt.mp
                intro q
                exact k2 (nI_lt (a := 1) q hy)
              rw [ej, ey, show (10 : Int32) = nI 10 from rfl, nI_mul, nI_add]
            · obtain ⟨w', v', q1, q2, q6, q3, q4, q5⟩ := b5 k (by show k < hc; omega)
              exact ⟨w', v', q1, q2, q6, (if_neg c).trans q3, (if_neg c).trans q4, (if_neg c).trans q5⟩
          · exact a8
  · simp only [hw, if_false, if_true]
    refine h1 ?_ _ hM0.i7
    rw [hm_none hw]
    by_cases k1 : v < 0
    · exact Or.inl k1
    · refine Or.inr (Or.inl ?_)
      rw [Int32.lt_iff_toInt_lt] at k1 ⊢
      have : (0 : Int32).toInt = 0 := by decide
      have : (-1 : Int32).toInt = -1 := by decide
      omega
theorem m_denies (hM : MV I C tx rw nw pa cd he (mc, Ms, Bs, Os)) (hQ : ∀ I', MV I' C tx rw nw pa cd he (0, Ms, Bs, Os) → Q (some (.int (nI mc))) (mh h m I' rd (m + 6) C)) : tm_D (g_G sa sc xt) d 268 [.ref m] (mh h m I rd (m + 6) C) Q := by
  obtain ⟨a1, a2, a3, a4, a5, a6, a7, a8, a9⟩ := hM
  obtain ⟨b1, b2, A, B', D, b3, b4, b5, b6⟩ := a8
  have b1 : I 39 = nI mc := b1
  rw [e_268]
  simp only [s_268_0, s_268_1, s_268_2, s_268_5, s_268_6, s_268_9, s_268_10, s_268_11, s_268_12, s_268_15, s_268_16, x_get_i, List.getElem?_cons_succ, List.getElem?_cons_zero, x_cv_j, cs_n, cs_i, cs_r, cs_l, Nat.reduceAdd, Nat.reduceLeDiff, true_and, Option.toList_some, Option.toList_none, List.cons_append, List.nil_append, if_true, if_false, nb0, nb1, x_setJ, x_setZ0, x_setZ1, x_setA, x_setO, List.length_cons, List.length_nil, Nat.reduceLT, List.set_cons_succ, List.set_cons_zero, wrl_0, wrl_1, wrl_2, wrl_3, wrl_4, wrl_5, wrl_p0, wrl_p1, wrl_p2, wrl_p3, wrl_p4, mh_o, mh_po, mcv, mg_0, mg_1, mg_2, mg_3, mg_4, mg_5, mg_6, mg_7, mg_8, mg_9, mg_10, mg_11, mg_12, mg_13, mg_14, mg_15, mg_16, mg_17, mg_18, mg_19, mg_20, mg_21, mg_22, mg_23, mg_24, mg_25, mg_26, mg_27, mg_28, mg_29, mg_30, mg_31, mg_32, mg_33, mg_34, mg_35, mg_36, mg_37, mg_38, mg_39, mg_40, mg_41, mg_42, mg_43, mg_44, mg_45, mg_46, ms_1, ms_4, ms_6, ms_7, ms_9, ms_10, ms_11, ms_12, ms_16, ms_20, ms_24, ms_28, ms_35, ms_39, ms_42, ms_43, ms_17t, ms_17f, ms_8, ms_14, mc_1, mp_1, mc_2, mp_2, mc_3, mp_3, mc_4, mp_4, mc_5, mp_5, mc_6, mp_6, mc_7, mp_7, mc_8, mp_8, mc_9, mp_9, mc_10, mp_10, mc_11, mp_11, mc_12, mp_12, mc_13, mp_13, mc_14, mp_14, mc_15, mp_15, mc_16, mp_16, mc_17, mp_17, mc_18, mp_18, mc_19, mp_19, mc_20, mp_20, mc_21, mp_21, mc_22, mp_22, mc_23, mp_23, mc_24, mp_24, mc_25, mp_25, mc_26, mp_26, mc_27, mp_27, mc_28, mp_28, mc_29, mp_29, iu, cup, Nat.reduceEqDiff, b1]
  exact hQ _ ⟨a1, a2, a3, a4, a5, a6, a7, ⟨rfl, Nat.zero_le _, A, B', D, b3, b4, b5, fun k hk => absurd hk (Nat.not_lt_zero k)⟩, a9⟩
theorem m_saw (hM : MV I C tx rw nw pa cd he (mc, Ms, Bs, Os)) (x y z : Int32) (h1 : ¬ (isM x ∧ isM y ∧ isM z ∧ mc < 10) → ∀ I', MV I' C tx rw nw pa cd he (mc, Ms, Bs, Os) → Q (some (.int (-1))) (mh h m I' rd (m + 6) C)) (h2 : (isM x ∧ isM y ∧ isM z ∧ mc < 10) → ∀ I' C', MV I' C' tx rw nw pa cd he (mc + 1, upd Ms mc x, upd Bs mc y, upd Os mc z) → Q (some (.int (nI (mc + 1)))) (mh h m I' rd (m + 6) C')) : tm_D (g_G sa sc xt) (d + 2) 267 [.ref m, .int x, .int y, .int z] (mh h m I rd (m + 6) C) Q := by
  have hM0 := hM
  obtain ⟨a1, a2, a3, a4, a5, a6, a7, a8, a9⟩ := hM
  obtain ⟨b1, b2, A, B', D, b3, b4, b5, b6⟩ := a8
  have b1 : I 39 = nI mc := b1
  have b2 : mc ≤ 10 := b2
  rw [e_267]
  simp only [s_267_0, s_267_1, s_267_2, s_267_5, s_267_6, s_267_9, s_267_12, s_267_13, s_267_16, s_267_19, s_267_20, s_267_23, s_267_26, s_267_27, s_267_30, s_267_32, s_267_35, s_267_36, s_267_37, s_267_38, s_267_41, s_267_42, s_267_45, s_267_46, s_267_47, s_267_48, s_267_51, s_267_52, s_267_55, s_267_56, s_267_57, s_267_58, s_267_61, s_267_62, s_267_65, s_267_66, s_267_67, s_267_68, s_267_69, s_267_72, s_267_73, s_267_74, s_267_77, s_267_78, s_267_81, x_get_i, List.getElem?_cons_succ, List.getElem?_cons_zero, x_cv_j, cs_n, cs_i, cs_r, cs_l, Nat.reduceAdd, Nat.reduceLeDiff, true_and, Option.toList_some, Option.toList_none, List.cons_append, List.nil_append, if_true, if_false, nb0, nb1, x_setJ, x_setZ0, x_setZ1, x_setA, x_setO, List.length_cons, List.length_nil, Nat.reduceLT, List.set_cons_succ, List.set_cons_zero, wrl_0, wrl_1, wrl_2, wrl_3, wrl_4, wrl_5, wrl_p0, wrl_p1, wrl_p2, wrl_p3, wrl_p4, mh_o, mh_po, mcv, mg_0, mg_1, mg_2, mg_3, mg_4, mg_5, mg_6, mg_7, mg_8, mg_9, mg_10, mg_11, mg_12, mg_13, mg_14, mg_15, mg_16, mg_17, mg_18, mg_19, mg_20, mg_21, mg_22, mg_23, mg_24, mg_25, mg_26, mg_27, mg_28, mg_29, mg_30, mg_31, mg_32, mg_33, mg_34, mg_35, mg_36, mg_37, mg_38, mg_39, mg_40, mg_41, mg_42, mg_43, mg_44, mg_45, mg_46, ms_1, ms_4, ms_6, ms_7, ms_9, ms_10, ms_11, ms_12, ms_16, ms_20, ms_24, ms_28, ms_35, ms_39, ms_42, ms_43, ms_17t, ms_17f, ms_8, ms_14, mc_1, mp_1, mc_2, mp_2, mc_3, mp_3, mc_4, mp_4, mc_5, mp_5, mc_6, mp_6, mc_7, mp_7, mc_8, mp_8, mc_9, mp_9, mc_10, mp_10, mc_11, mp_11, mc_12, mp_12, mc_13, mp_13, mc_14, mp_14, mc_15, mp_15, mc_16, mp_16, mc_17, mp_17, mc_18, mp_18, mc_19, mp_19, mc_20, mp_20, mc_21, mp_21, mc_22, mp_22, mc_23, mp_23, mc_24, mp_24, mc_25, mp_25, mc_26, mp_26, mc_27, mp_27, mc_28, mp_28, mc_29, mp_29, iu, cup, Nat.reduceEqDiff, r_isMood, isM_i]
  by_cases k1 : x < -9 ∨ 9 < x
  · simp only [k1, if_true]
    exact h1 (fun q => q.1 k1) _ hM0.i7
  by_cases k2 : y < -9 ∨ 9 < y
  · simp only [k1, k2, if_true, if_false, show ¬ (1 : Int32) = 0 by decide]
    exact h1 (fun q => q.2.1 k2) _ hM0.i7
  by_cases k3 : z < -9 ∨ 9 < z
  · simp only [k1, k2, k3, if_true, if_false, show ¬ (1 : Int32) = 0 by decide]
    exact h1 (fun q => q.2.2.1 k3) _ hM0.i7
  simp only [k1, k2, k3, if_false, show ¬ (1 : Int32) = 0 by decide, s_267_0, s_267_1, s_267_2, s_267_5, s_267_6, s_267_9, s_267_12, s_267_13, s_267_16, s_267_19, s_267_20, s_267_23, s_267_26, s_267_27, s_267_30, s_267_32, s_267_35, s_267_36, s_267_37, s_267_38, s_267_41, s_267_42, s_267_45, s_267_46, s_267_47, s_267_48, s_267_51, s_267_52, s_267_55, s_267_56, s_267_57, s_267_58, s_267_61, s_267_62, s_267_65, s_267_66, s_267_67, s_267_68, s_267_69, s_267_72, s_267_73, s_267_74, s_267_77, s_267_78, s_267_81, x_get_i, List.getElem?_cons_succ, List.getElem?_cons_zero, x_cv_j, cs_n, cs_i, cs_r, cs_l, Nat.reduceAdd, Nat.reduceLeDiff, true_and, Option.toList_some, Option.toList_none, List.cons_append, List.nil_append, if_true, if_false, nb0, nb1, x_setJ, x_setZ0, x_setZ1, x_setA, x_setO, List.length_cons, List.length_nil, Nat.reduceLT, List.set_cons_succ, List.set_cons_zero, wrl_0, wrl_1, wrl_2, wrl_3, wrl_4, wrl_5, wrl_p0, wrl_p1, wrl_p2, wrl_p3, wrl_p4, mh_o, mh_po, mcv, mg_0, mg_1, mg_2, mg_3, mg_4, mg_5, mg_6, mg_7, mg_8, mg_9, mg_10, mg_11, mg_12, mg_13, mg_14, mg_15, mg_16, mg_17, mg_18, mg_19, mg_20, mg_21, mg_22, mg_23, mg_24, mg_25, mg_26, mg_27, mg_28, mg_29, mg_30, mg_31, mg_32, mg_33, mg_34, mg_35, mg_36, mg_37, mg_38, mg_39, mg_40, mg_41, mg_42, mg_43, mg_44, mg_45, mg_46, ms_1, ms_4, ms_6, ms_7, ms_9, ms_10, ms_11, ms_12, ms_16, ms_20, ms_24, ms_28, ms_35, ms_39, ms_42, ms_43, ms_17t, ms_17f, ms_8, ms_14, mc_1, mp_1, mc_2, mp_2, mc_3, mp_3, mc_4, mp_4, mc_5, mp_5, mc_6, mp_6, mc_7, mp_7, mc_8, mp_8, mc_9, mp_9, mc_10, mp_10, mc_11, mp_11, mc_12, mp_12, mc_13, mp_13, mc_14, mp_14, mc_15, mp_15, mc_16, mp_16, mc_17, mp_17, mc_18, mp_18, mc_19, mp_19, mc_20, mp_20, mc_21, mp_21, mc_22, mp_22, mc_23, mp_23, mc_24, mp_24, mc_25, mp_25, mc_26, mp_26, mc_27, mp_27, mc_28, mp_28, mc_29, mp_29, iu, cup, Nat.reduceEqDiff, b1]
  by_cases k4 : mc = 10
  · subst k4
    simp only [show nI 10 = 10 from rfl, if_true]
    exact h1 (fun q => absurd q.2.2.2 (by decide)) _ hM0.i7
  · have k4' : ¬ nI mc = 10 := fun q => k4 ((nI_eq (b := 10) (by omega) (by decide)).mp q)
    simp only [k4', if_false, if_true, not_false_eq_true, s_267_0, s_267_1, s_267_2, s_267_5, s_267_6, s_267_9, s_267_12, s_267_13, s_267_16, s_267_19, s_267_20, s_267_23, s_267_26, s_267_27, s_267_30, s_267_32, s_267_35, s_267_36, s_267_37, s_267_38, s_267_41, s_267_42, s_267_45, s_267_46, s_267_47, s_267_48, s_267_51, s_267_52, s_267_55, s_267_56, s_267_57, s_267_58, s_267_61, s_267_62, s_267_65, s_267_66, s_267_67, s_267_68, s_267_69, s_267_72, s_267_73, s_267_74, s_267_77, s_267_78, s_267_81, x_get_i, List.getElem?_cons_succ, List.getElem?_cons_zero, x_cv_j, cs_n, cs_i, cs_r, cs_l, Nat.reduceAdd, Nat.reduceLeDiff, true_and, Option.toList_some, Option.toList_none, List.cons_append, List.nil_append, if_true, if_false, nb0, nb1, x_setJ, x_setZ0, x_setZ1, x_setA, x_setO, List.length_cons, List.length_nil, Nat.reduceLT, List.set_cons_succ, List.set_cons_zero, wrl_0, wrl_1, wrl_2, wrl_3, wrl_4, wrl_5, wrl_p0, wrl_p1, wrl_p2, wrl_p3, wrl_p4, mh_o, mh_po, mcv, mg_0, mg_1, mg_2, mg_3, mg_4, mg_5, mg_6, mg_7, mg_8, mg_9, mg_10, mg_11, mg_12, mg_13, mg_14, mg_15, mg_16, mg_17, mg_18, mg_19, mg_20, mg_21, mg_22, mg_23, mg_24, mg_25, mg_26, mg_27, mg_28, mg_29, mg_30, mg_31, mg_32, mg_33, mg_34, mg_35, mg_36, mg_37, mg_38, mg_39, mg_40, mg_41, mg_42, mg_43, mg_44, mg_45, mg_46, ms_1, ms_4, ms_6, ms_7, ms_9, ms_10, ms_11, ms_12, ms_16, ms_20, ms_24, ms_28, ms_35, ms_39, ms_42, ms_43, ms_17t, ms_17f, ms_8, ms_14, mc_1, mp_1, mc_2, mp_2, mc_3, mp_3, mc_4, mp_4, mc_5, mp_5, mc_6, mp_6, mc_7, mp_7, mc_8, mp_8, mc_9, mp_9, mc_10, mp_10, mc_11, mp_11, mc_12, mp_12, mc_13, mp_13, mc_14, mp_14, mc_15, mp_15, mc_16, mp_16, mc_17, mp_17, mc_18, mp_18, mc_19, mp_19, mc_20, mp_20, mc_21, mp_21, mc_22, mp_22, mc_23, mp_23, mc_24, mp_24, mc_25, mp_25, mc_26, mp_26, mc_27, mp_27, mc_28, mp_28, mc_29, mp_29, iu, cup, Nat.reduceEqDiff, b1, b3, b4, b5, x_ist_n (show mc < 10 by omega) n10, nI_1, iu_iu]
    refine h2 ⟨k1, k2, k3, by omega⟩ _ _ ⟨a1.same rfl rfl, a2.same rfl rfl, ?_, ?_, ?_, ?_, ?_, ⟨if_pos rfl, by show mc + 1 ≤ 10; omega, _, _, _, (if_neg (by decide)).trans ((if_neg (by decide)).trans (if_pos rfl)), (if_neg (by decide)).trans (if_pos rfl), if_pos rfl, fun k hk => ?_⟩, (((a9.cn rfl).cn rfl).cn rfl)⟩
    · exact a3
    · exact a4
    · exact a5
    · exact a6
    · exact a7
    · have hk : k < mc + 1 := hk
      by_cases c : k = mc
      · subst c
        exact ⟨(if_pos rfl).trans (if_pos rfl).symm, (if_pos rfl).trans (if_pos rfl).symm, (if_pos rfl).trans (if_pos rfl).symm⟩
      · obtain ⟨q1, q2, q3⟩ := b6 k (by show k < mc; omega)
        exact ⟨(if_neg c).trans (q1.trans (if_neg c).symm), (if_neg c).trans (q2.trans (if_neg c).symm), (if_neg c).trans (q3.trans (if_neg c).symm)⟩
theorem m_row (hM : MV I C tx (rc, R) nw pa cd he mi) (v : Int32) (h0 : (¬ ∃ j, j < rc ∧ v = nI j) → ∀ I', I' 7 = 1 → MV I' C tx (rc, R) nw pa cd he mi → Q (some (.long (0 : Int32).toInt64)) (mh h m I' rd (m + 6) C)) (h1 : ∀ j I', j < rc → v = nI j → I' 7 = 0 → MV I' C tx (rc, R) nw pa cd he mi → Q (some (.long (R j))) (mh h m I' rd (m + 6) C)) : tm_D (g_G sa sc xt) (d + 1) 287 [.ref m, .int v] (mh h m I rd (m + 6) C) Q := by
  obtain ⟨r1, r2, R', r3, r4⟩ := hM.2.1
  have r1 : I 6 = nI rc := r1
  have r2 : rc ≤ 14 := r2
  have hcond : (if v < 0 then (0 : Int32) else if nI rc - 1 < v then 0 else 1) = if ∃ j : Nat, j < rc ∧ v = nI j then 1 else 0 := by
    have e : (nI rc - 1 < v) = (nI rc ≤ v) := by
      apply propext
      rw [Int32.lt_iff_toInt_lt, Int32.le_iff_toInt_le, Int32.toInt_sub, nI_toInt (by omega)]
      show ((rc : Int) - 1).bmod (2 ^ 32) < _ ↔ _
      rw [Int.bmod_eq_of_le (by omega) (by omega)]
      omega
    simp only [e]
    by_cases c1 : v < 0
    · rw [if_pos c1, if_neg]
      rintro ⟨j, hj, e⟩
      subst e
      exact nI_pos (by omega) c1
    · rw [if_neg c1]
      obtain ⟨j, hj, e⟩ := nI_of c1
      subst e
      by_cases c2 : nI rc ≤ nI j
      · rw [if_pos c2, if_neg]
        rintro ⟨i, hi, e⟩
        rw [(nI_eq hj (by omega)).mp e] at c2
        exact nI_ge hi (by omega) c2
      · rw [if_neg c2, if_pos]
        refine ⟨j, Nat.not_le.mp (fun q => c2 (nI_le q hj)), rfl⟩
  rw [e_287]
  simp only [s_287_0, s_287_1, s_287_2, s_287_5, s_287_6, s_287_7, s_287_8, s_287_11, s_287_12, s_287_13, s_287_16, s_287_19, s_287_20, s_287_23, s_287_24, s_287_25, s_287_28, s_287_29, s_287_32, s_287_33, x_get_i, List.getElem?_cons_succ, List.getElem?_cons_zero, x_cv_j, cs_n, cs_i, cs_r, cs_l, Nat.reduceAdd, Nat.reduceLeDiff, true_and, Option.toList_some, Option.toList_none, List.cons_append, List.nil_append, if_true, if_false, nb0, nb1, x_setJ, x_setZ0, x_setZ1, x_setA, x_setO, List.length_cons, List.length_nil, Nat.reduceLT, List.set_cons_succ, List.set_cons_zero, wrl_0, wrl_1, wrl_2, wrl_3, wrl_4, wrl_5, wrl_p0, wrl_p1, wrl_p2, wrl_p3, wrl_p4, mh_o, mh_po, mcv, mg_0, mg_1, mg_2, mg_3, mg_4, mg_5, mg_6, mg_7, mg_8, mg_9, mg_10, mg_11, mg_12, mg_13, mg_14, mg_15, mg_16, mg_17, mg_18, mg_19, mg_20, mg_21, mg_22, mg_23, mg_24, mg_25, mg_26, mg_27, mg_28, mg_29, mg_30, mg_31, mg_32, mg_33, mg_34, mg_35, mg_36, mg_37, mg_38, mg_39, mg_40, mg_41, mg_42, mg_43, mg_44, mg_45, mg_46, ms_1, ms_4, ms_6, ms_7, ms_9, ms_10, ms_11, ms_12, ms_16, ms_20, ms_24, ms_28, ms_35, ms_39, ms_42, ms_43, ms_17t, ms_17f, ms_8, ms_14, mc_1, mp_1, mc_2, mp_2, mc_3, mp_3, mc_4, mp_4, mc_5, mp_5, mc_6, mp_6, mc_7, mp_7, mc_8, mp_8, mc_9, mp_9, mc_10, mp_10, mc_11, mp_11, mc_12, mp_12, mc_13, mp_13, mc_14, mp_14, mc_15, mp_15, mc_16, mp_16, mc_17, mp_17, mc_18, mp_18, mc_19, mp_19, mc_20, mp_20, mc_21, mp_21, mc_22, mp_22, mc_23, mp_23, mc_24, mp_24, mc_25, mp_25, mc_26, mp_26, mc_27, mp_27, mc_28, mp_28, mc_29, mp_29, iu, cup, Nat.reduceEqDiff, r_in, r1, hcond]
  by_cases hv : ∃ j, j < rc ∧ v = nI j
  · obtain ⟨j, hj, ej⟩ := hv
    have hv : ∃ j, j < rc ∧ v = nI j := ⟨j, hj, ej⟩
    subst ej
    simp only [hv, if_true, show ¬ (1 : Int32) = 0 by decide, if_false, s_287_0, s_287_1, s_287_2, s_287_5, s_287_6, s_287_7, s_287_8, s_287_11, s_287_12, s_287_13, s_287_16, s_287_19, s_287_20, s_287_23, s_287_24, s_287_25, s_287_28, s_287_29, s_287_32, s_287_33, x_get_i, List.getElem?_cons_succ, List.getElem?_cons_zero, x_cv_j, cs_n, cs_i, cs_r, cs_l, Nat.reduceAdd, Nat.reduceLeDiff, true_and, Option.toList_some, Option.toList_none, List.cons_append, List.nil_append, if_true, if_false, nb0, nb1, x_setJ, x_setZ0, x_setZ1, x_setA, x_setO, List.length_cons, List.length_nil, Nat.reduceLT, List.set_cons_succ, List.set_cons_zero, wrl_0, wrl_1, wrl_2, wrl_3, wrl_4, wrl_5, wrl_p0, wrl_p1, wrl_p2, wrl_p3, wrl_p4, mh_o, mh_po, mcv, mg_0, mg_1, mg_2, mg_3, mg_4, mg_5, mg_6, mg_7, mg_8, mg_9, mg_10, mg_11, mg_12, mg_13, mg_14, mg_15, mg_16, mg_17, mg_18, mg_19, mg_20, mg_21, mg_22, mg_23, mg_24, mg_25, mg_26, mg_27, mg_28, mg_29, mg_30, mg_31, mg_32, mg_33, mg_34, mg_35, mg_36, mg_37, mg_38, mg_39, mg_40, mg_41, mg_42, mg_43, mg_44, mg_45, mg_46, ms_1, ms_4, ms_6, ms_7, ms_9, ms_10, ms_11, ms_12, ms_16, ms_20, ms_24, ms_28, ms_35, ms_39, ms_42, ms_43, ms_17t, ms_17f, ms_8, ms_14, mc_1, mp_1, mc_2, mp_2, mc_3, mp_3, mc_4, mp_4, mc_5, mp_5, mc_6, mp_6, mc_7, mp_7, mc_8, mp_8, mc_9, mp_9, mc_10, mp_10, mc_11, mp_11, mc_12, mp_12, mc_13, mp_13, mc_14, mp_14, mc_15, mp_15, mc_16, mp_16, mc_17, mp_17, mc_18, mp_18, mc_19, mp_19, mc_20, mp_20, mc_21, mp_21, mc_22, mp_22, mc_23, mp_23, mc_24, mp_24, mc_25, mp_25, mc_26, mp_26, mc_27, mp_27, mc_28, mp_28, mc_29, mp_29, iu, cup, Nat.reduceEqDiff, r3, x_lld_n (show j < 16 by omega) n16]
    rw [r4 j hj]
    exact h1 j _ hj rfl rfl hM.i7
  · simp only [hv, if_false, if_true, s_287_0, s_287_1, s_287_2, s_287_5, s_287_6, s_287_7, s_287_8, s_287_11, s_287_12, s_287_13, s_287_16, s_287_19, s_287_20, s_287_23, s_287_24, s_287_25, s_287_28, s_287_29, s_287_32, s_287_33, x_get_i, List.getElem?_cons_succ, List.getElem?_cons_zero, x_cv_j, cs_n, cs_i, cs_r, cs_l, Nat.reduceAdd, Nat.reduceLeDiff, true_and, Option.toList_some, Option.toList_none, List.cons_append, List.nil_append, if_true, if_false, nb0, nb1, x_setJ, x_setZ0, x_setZ1, x_setA, x_setO, List.length_cons, List.length_nil, Nat.reduceLT, List.set_cons_succ, List.set_cons_zero, wrl_0, wrl_1, wrl_2, wrl_3, wrl_4, wrl_5, wrl_p0, wrl_p1, wrl_p2, wrl_p3, wrl_p4, mh_o, mh_po, mcv, mg_0, mg_1, mg_2, mg_3, mg_4, mg_5, mg_6, mg_7, mg_8, mg_9, mg_10, mg_11, mg_12, mg_13, mg_14, mg_15, mg_16, mg_17, mg_18, mg_19, mg_20, mg_21, mg_22, mg_23, mg_24, mg_25, mg_26, mg_27, mg_28, mg_29, mg_30, mg_31, mg_32, mg_33, mg_34, mg_35, mg_36, mg_37, mg_38, mg_39, mg_40, mg_41, mg_42, mg_43, mg_44, mg_45, mg_46, ms_1, ms_4, ms_6, ms_7, ms_9, ms_10, ms_11, ms_12, ms_16, ms_20, ms_24, ms_28, ms_35, ms_39, ms_42, ms_43, ms_17t, ms_17f, ms_8, ms_14, mc_1, mp_1, mc_2, mp_2, mc_3, mp_3, mc_4, mp_4, mc_5, mp_5, mc_6, mp_6, mc_7, mp_7, mc_8, mp_8, mc_9, mp_9, mc_10, mp_10, mc_11, mp_11, mc_12, mp_12, mc_13, mp_13, mc_14, mp_14, mc_15, mp_15, mc_16, mp_16, mc_17, mp_17, mc_18, mp_18, mc_19, mp_19, mc_20, mp_20, mc_21, mp_21, mc_22, mp_22, mc_23, mp_23, mc_24, mp_24, mc_25, mp_25, mc_26, mp_26, mc_27, mp_27, mc_28, mp_28, mc_29, mp_29, iu, cup, Nat.reduceEqDiff, r_lost]
    exact h0 hv _ rfl hM.i7.i7
theorem m_count (hM : MV I C (c, F) (rc, R) nw pa cd (hc, H) (mc, Ms, Bs, Os)) (w : Int32) (hQ : ∀ I', MV I' C (c, F) (rc, R) nw pa cd (hc, H) (mc, Ms, Bs, Os) → Q (some (.int (cnt c rc nw pa.1 hc mc w))) (mh h m I' rd (m + 6) C)) : tm_D (g_G sa sc xt) (d + 2) 286 [.ref m, .int w] (mh h m I rd (m + 6) C) Q := by
  obtain ⟨N, Lm, f, hG, hN, hL, h11, hr, hLe, hwf, i1, hn⟩ := hM.ngt (m := m)
  have hq := hQ (iu I 7 0) hM.i7
  have i4 : I 4 = nI c := hM.1.1
  have i6 : I 6 = nI rc := hM.2.1.1
  have i20 : I 20 = nI pa.1 := hM.2.2.2.1.1
  have i35 : I 35 = nI hc := hM.2.2.2.2.2.2.1.1
  have i39 : I 39 = nI mc := hM.2.2.2.2.2.2.2.1.1
  unfold cnt at hq
  rw [e_286]
  simp only [s_286_0, s_286_1, s_286_2, s_286_5, s_286_6, s_286_64, s_286_65, s_286_68, s_286_69, s_286_70, s_286_73, s_286_75, s_286_76, s_286_77, s_286_78, s_286_81, s_286_83, s_286_84, s_286_85, s_286_86, s_286_89, s_286_90, s_286_93, s_286_94, s_286_95, s_286_98, s_286_99, s_286_102, s_286_105, s_286_106, s_286_107, s_286_108, s_286_109, s_286_112, s_286_115, s_286_116, s_286_117, s_286_120, s_286_121, s_286_122, s_286_125, s_286_126, s_286_127, s_286_130, s_286_131, s_286_132, s_286_135, s_286_136, s_286_137, s_286_140, s_286_141, s_286_142, x_get_i, List.getElem?_cons_succ, List.getElem?_cons_zero, x_cv_j, cs_n, cs_i, cs_r, cs_l, Nat.reduceAdd, Nat.reduceLeDiff, true_and, Option.toList_some, Option.toList_none, List.cons_append, List.nil_append, if_true, if_false, nb0, nb1, x_setJ, x_setZ0, x_setZ1, x_setA, x_setO, List.length_cons, List.length_nil, Nat.reduceLT, List.set_cons_succ, List.set_cons_zero, wrl_0, wrl_1, wrl_2, wrl_3, wrl_4, wrl_5, wrl_p0, wrl_p1, wrl_p2, wrl_p3, wrl_p4, mh_o, mh_po, mcv, mg_0, mg_1, mg_2, mg_3, mg_4, mg_5, mg_6, mg_7, mg_8, mg_9, mg_10, mg_11, mg_12, mg_13, mg_14, mg_15, mg_16, mg_17, mg_18, mg_19, mg_20, mg_21, mg_22, mg_23, mg_24, mg_25, mg_26, mg_27, mg_28, mg_29, mg_30, mg_31, mg_32, mg_33, mg_34, mg_35, mg_36, mg_37, mg_38, mg_39, mg_40, mg_41, mg_42, mg_43, mg_44, mg_45, mg_46, ms_1, ms_4, ms_6, ms_7, ms_9, ms_10, ms_11, ms_12, ms_16, ms_20, ms_24, ms_28, ms_35, ms_39, ms_42, ms_43, ms_17t, ms_17f, ms_8, ms_14, mc_1, mp_1, mc_2, mp_2, mc_3, mp_3, mc_4, mp_4, mc_5, mp_5, mc_6, mp_6, mc_7, mp_7, mc_8, mp_8, mc_9, mp_9, mc_10, mp_10, mc_11, mp_11, mc_12, mp_12, mc_13, mp_13, mc_14, mp_14, mc_15, mp_15, mc_16, mp_16, mc_17, mp_17, mc_18, mp_18, mc_19, mp_19, mc_20, mp_20, mc_21, mp_21, mc_22, mp_22, mc_23, mp_23, mc_24, mp_24, mc_25, mp_25, mc_26, mp_26, mc_27, mp_27, mc_28, mp_28, mc_29, mp_29, iu, cup, Nat.reduceEqDiff]
  by_cases w0 : w = 0
  · simp only [w0, if_true, s_286_0, s_286_1, s_286_2, s_286_5, s_286_6, s_286_64, s_286_65, s_286_68, s_286_69, s_286_70, s_286_73, s_286_75, s_286_76, s_286_77, s_286_78, s_286_81, s_286_83, s_286_84, s_286_85, s_286_86, s_286_89, s_286_90, s_286_93, s_286_94, s_286_95, s_286_98, s_286_99, s_286_102, s_286_105, s_286_106, s_286_107, s_286_108, s_286_109, s_286_112, s_286_115, s_286_116, s_286_117, s_286_120, s_286_121, s_286_122, s_286_125, s_286_126, s_286_127, s_286_130, s_286_131, s_286_132, s_286_135, s_286_136, s_286_137, s_286_140, s_286_141, s_286_142, x_get_i, List.getElem?_cons_succ, List.getElem?_cons_zero, x_cv_j, cs_n, cs_i, cs_r, cs_l, Nat.reduceAdd, Nat.reduceLeDiff, true_and, Option.toList_some, Option.toList_none, List.cons_append, List.nil_append, if_true, if_false, nb0, nb1, x_setJ, x_setZ0, x_setZ1, x_setA, x_setO, List.length_cons, List.length_nil, Nat.reduceLT, List.set_cons_succ, List.set_cons_zero, wrl_0, wrl_1, wrl_2, wrl_3, wrl_4, wrl_5, wrl_p0, wrl_p1, wrl_p2, wrl_p3, wrl_p4, mh_o, mh_po, mcv, mg_0, mg_1, mg_2, mg_3, mg_4, mg_5, mg_6, mg_7, mg_8, mg_9, mg_10, mg_11, mg_12, mg_13, mg_14, mg_15, mg_16, mg_17, mg_18, mg_19, mg_20, mg_21, mg_22, mg_23, mg_24, mg_25, mg_26, mg_27, mg_28, mg_29, mg_30, mg_31, mg_32, mg_33, mg_34, mg_35, mg_36, mg_37, mg_38, mg_39, mg_40, mg_41, mg_42, mg_43, mg_44, mg_45, mg_46, ms_1, ms_4, ms_6, ms_7, ms_9, ms_10, ms_11, ms_12, ms_16, ms_20, ms_24, ms_28, ms_35, ms_39, ms_42, ms_43, ms_17t, ms_17f, ms_8, ms_14, mc_1, mp_1, mc_2, mp_2, mc_3, mp_3, mc_4, mp_4, mc_5, mp_5, mc_6, mp_6, mc_7, mp_7, mc_8, mp_8, mc_9, mp_9, mc_10, mp_10, mc_11, mp_11, mc_12, mp_12, mc_13, mp_13, mc_14, mp_14, mc_15, mp_15, mc_16, mp_16, mc_17, mp_17, mc_18, mp_18, mc_19, mp_19, mc_20, mp_20, mc_21, mp_21, mc_22, mp_22, mc_23, mp_23, mc_24, mp_24, mc_25, mp_25, mc_26, mp_26, mc_27, mp_27, mc_28, mp_28, mc_29, mp_29, iu, cup, Nat.reduceEqDiff, i1] at hq ⊢
    exact hq
  by_cases w1 : w = 1
  · simp only [w1, show ¬ (1 : Int32) = 0 by decide, if_true, if_false, s_286_0, s_286_1, s_286_2, s_286_5, s_286_6, s_286_64, s_286_65, s_286_68, s_286_69, s_286_70, s_286_73, s_286_75, s_286_76, s_286_77, s_286_78, s_286_81, s_286_83, s_286_84, s_286_85, s_286_86, s_286_89, s_286_90, s_286_93, s_286_94, s_286_95, s_286_98, s_286_99, s_286_102, s_286_105, s_286_106, s_286_107, s_286_108, s_286_109, s_286_112, s_286_115, s_286_116, s_286_117, s_286_120, s_286_121, s_286_122, s_286_125, s_286_126, s_286_127, s_286_130, s_286_131, s_286_132, s_286_135, s_286_136, s_286_137, s_286_140, s_286_141, s_286_142, x_get_i, List.getElem?_cons_succ, List.getElem?_cons_zero, x_cv_j, cs_n, cs_i, cs_r, cs_l, Nat.reduceAdd, Nat.reduceLeDiff, true_and, Option.toList_some, Option.toList_none, List.cons_append, List.nil_append, if_true, if_false, nb0, nb1, x_setJ, x_setZ0, x_setZ1, x_setA, x_setO, List.length_cons, List.length_nil, Nat.reduceLT, List.set_cons_succ, List.set_cons_zero, wrl_0, wrl_1, wrl_2, wrl_3, wrl_4, wrl_5, wrl_p0, wrl_p1, wrl_p2, wrl_p3, wrl_p4, mh_o, mh_po, mcv, mg_0, mg_1, mg_2, mg_3, mg_4, mg_5, mg_6, mg_7, mg_8, mg_9, mg_10, mg_11, mg_12, mg_13, mg_14, mg_15, mg_16, mg_17, mg_18, mg_19, mg_20, mg_21, mg_22, mg_23, mg_24, mg_25, mg_26, mg_27, mg_28, mg_29, mg_30, mg_31, mg_32, mg_33, mg_34, mg_35, mg_36, mg_37, mg_38, mg_39, mg_40, mg_41, mg_42, mg_43, mg_44, mg_45, mg_46, ms_1, ms_4, ms_6, ms_7, ms_9, ms_10, ms_11, ms_12, ms_16, ms_20, ms_24, ms_28, ms_35, ms_39, ms_42, ms_43, ms_17t, ms_17f, ms_8, ms_14, mc_1, mp_1, mc_2, mp_2, mc_3, mp_3, mc_4, mp_4, mc_5, mp_5, mc_6, mp_6, mc_7, mp_7, mc_8, mp_8, mc_9, mp_9, mc_10, mp_10, mc_11, mp_11, mc_12, mp_12, mc_13, mp_13, mc_14, mp_14, mc_15, mp_15, mc_16, mp_16, mc_17, mp_17, mc_18, mp_18, mc_19, mp_19, mc_20, mp_20, mc_21, mp_21, mc_22, mp_22, mc_23, mp_23, mc_24, mp_24, mc_25, mp_25, mc_26, mp_26, mc_27, mp_27, mc_28, mp_28, mc_29, mp_29, iu, cup, Nat.reduceEqDiff, hN, i37, x_ild_n (show 37 < 38 by decide) n38, hr.2.2.2.2] at hq ⊢
    exact hq
  by_cases w2 : w = 2
  · simp only [w2, show ¬ (2 : Int32) = 0 by decide, show ¬ (2 : Int32) = 1 by decide, if_true, if_false, s_286_0, s_286_1, s_286_2, s_286_5, s_286_6, s_286_64, s_286_65, s_286_68, s_286_69, s_286_70, s_286_73, s_286_75, s_286_76, s_286_77, s_286_78, s_286_81, s_286_83, s_286_84, s_286_85, s_286_86, s_286_89, s_286_90, s_286_93, s_286_94, s_286_95, s_286_98, s_286_99, s_286_102, s_286_105, s_286_106, s_286_107, s_286_108, s_286_109, s_286_112, s_286_115, s_286_116, s_286_117, s_286_120, s_286_121, s_286_122, s_286_125, s_286_126, s_286_127, s_286_130, s_286_131, s_286_132, s_286_135, s_286_136, s_286_137, s_286_140, s_286_141, s_286_142, x_get_i, List.getElem?_cons_succ, List.getElem?_cons_zero, x_cv_j, cs_n, cs_i, cs_r, cs_l, Nat.reduceAdd, Nat.reduceLeDiff, true_and, Option.toList_some, Option.toList_none, List.cons_append, List.nil_append, if_true, if_false, nb0, nb1, x_setJ, x_setZ0, x_setZ1, x_setA, x_setO, List.length_cons, List.length_nil, Nat.reduceLT, List.set_cons_succ, List.set_cons_zero, wrl_0, wrl_1, wrl_2, wrl_3, wrl_4, wrl_5, wrl_p0, wrl_p1, wrl_p2, wrl_p3, wrl_p4, mh_o, mh_po, mcv, mg_0, mg_1, mg_2, mg_3, mg_4, mg_5, mg_6, mg_7, mg_8, mg_9, mg_10, mg_11, mg_12, mg_13, mg_14, mg_15, mg_16, mg_17, mg_18, mg_19, mg_20, mg_21, mg_22, mg_23, mg_24, mg_25, mg_26, mg_27, mg_28, mg_29, mg_30, mg_31, mg_32, mg_33, mg_34, mg_35, mg_36, mg_37, mg_38, mg_39, mg_40, mg_41, mg_42, mg_43, mg_44, mg_45, mg_46, ms_1, ms_4, ms_6, ms_7, ms_9, ms_10, ms_11, ms_12, ms_16, ms_20, ms_24, ms_28, ms_35, ms_39, ms_42, ms_43, ms_17t, ms_17f, ms_8, ms_14, mc_1, mp_1, mc_2, mp_2, mc_3, mp_3, mc_4, mp_4, mc_5, mp_5, mc_6, mp_6, mc_7, mp_7, mc_8, mp_8, mc_9, mp_9, mc_10, mp_10, mc_11, mp_11, mc_12, mp_12, mc_13, mp_13, mc_14, mp_14, mc_15, mp_15, mc_16, mp_16, mc_17, mp_17, mc_18, mp_18, mc_19, mp_19, mc_20, mp_20, mc_21, mp_21, mc_22, mp_22, mc_23, mp_23, mc_24, mp_24, mc_25, mp_25, mc_26, mp_26, mc_27, mp_27, mc_28, mp_28, mc_29, mp_29, iu, cup, Nat.reduceEqDiff, hN, i36, x_ild_n (show 36 < 38 by decide) n38, hr.2.2.2.1] at hq ⊢
    exact hq
  by_cases w3 : w = 3
  · simp only [w3, show ¬ (3 : Int32) = 0 by decide, show ¬ (3 : Int32) = 1 by decide, show ¬ (3 : Int32) = 2 by decide, if_true, if_false] at hq ⊢
    refine Iff.mpr (r_wears (n := nw.2.2.2.2.1) (N := N) ?_ hn hN) ?_
    · exact i1
    simp only [s_286_0, s_286_1, s_286_2, s_286_5, s_286_6, s_286_64, s_286_65, s_286_68, s_286_69, s_286_70, s_286_73, s_286_75, s_286_76, s_286_77, s_286_78, s_286_81, s_286_83, s_286_84, s_286_85, s_286_86, s_286_89, s_286_90, s_286_93, s_286_94, s_286_95, s_286_98, s_286_99, s_286_102, s_286_105, s_286_106, s_286_107, s_286_108, s_286_109, s_286_112, s_286_115, s_286_116, s_286_117, s_286_120, s_286_121, s_286_122, s_286_125, s_286_126, s_286_127, s_286_130, s_286_131, s_286_132, s_286_135, s_286_136, s_286_137, s_286_140, s_286_141, s_286_142, x_get_i, List.getElem?_cons_succ, List.getElem?_cons_zero, x_cv_j, cs_n, cs_i, cs_r, cs_l, Nat.reduceAdd, Nat.reduceLeDiff, true_and, Option.toList_some, Option.toList_none, List.cons_append, List.nil_append, if_true, if_false, nb0, nb1, x_setJ, x_setZ0, x_setZ1, x_setA, x_setO, List.length_cons, List.length_nil, Nat.reduceLT, List.set_cons_succ, List.set_cons_zero, wrl_0, wrl_1, wrl_2, wrl_3, wrl_4, wrl_5, wrl_p0, wrl_p1, wrl_p2, wrl_p3, wrl_p4, mh_o, mh_po, mcv, mg_0, mg_1, mg_2, mg_3, mg_4, mg_5, mg_6, mg_7, mg_8, mg_9, mg_10, mg_11, mg_12, mg_13, mg_14, mg_15, mg_16, mg_17, mg_18, mg_19, mg_20, mg_21, mg_22, mg_23, mg_24, mg_25, mg_26, mg_27, mg_28, mg_29, mg_30, mg_31, mg_32, mg_33, mg_34, mg_35, mg_36, mg_37, mg_38, mg_39, mg_40, mg_41, mg_42, mg_43, mg_44, mg_45, mg_46, ms_1, ms_4, ms_6, ms_7, ms_9, ms_10, ms_11, ms_12, ms_16, ms_20, ms_24, ms_28, ms_35, ms_39, ms_42, ms_43, ms_17t, ms_17f, ms_8, ms_14, mc_1, mp_1, mc_2, mp_2, mc_3, mp_3, mc_4, mp_4, mc_5, mp_5, mc_6, mp_6, mc_7, mp_7, mc_8, mp_8, mc_9, mp_9, mc_10, mp_10, mc_11, mp_11, mc_12, mp_12, mc_13, mp_13, mc_14, mp_14, mc_15, mp_15, mc_16, mp_16, mc_17, mp_17, mc_18, mp_18, mc_19, mp_19, mc_20, mp_20, mc_21, mp_21, mc_22, mp_22, mc_23, mp_23, mc_24, mp_24, mc_25, mp_25, mc_26, mp_26, mc_27, mp_27, mc_28, mp_28, mc_29, mp_29, iu, cup, Nat.reduceEqDiff]
    rw [RW_sum hr hn]
    exact hq
  by_cases w4 : w = 4
  · simp only [w4, show ¬ (4 : Int32) = 0 by decide, show ¬ (4 : Int32) = 1 by decide, show ¬ (4 : Int32) = 2 by decide, show ¬ (4 : Int32) = 3 by decide, if_true, if_false] at hq ⊢
    refine Iff.mpr (r_all (n := nw.2.2.2.2.1) ?_) ?_
    · exact i1
    simp only [s_286_0, s_286_1, s_286_2, s_286_5, s_286_6, s_286_64, s_286_65, s_286_68, s_286_69, s_286_70, s_286_73, s_286_75, s_286_76, s_286_77, s_286_78, s_286_81, s_286_83, s_286_84, s_286_85, s_286_86, s_286_89, s_286_90, s_286_93, s_286_94, s_286_95, s_286_98, s_286_99, s_286_102, s_286_105, s_286_106, s_286_107, s_286_108, s_286_109, s_286_112, s_286_115, s_286_116, s_286_117, s_286_120, s_286_121, s_286_122, s_286_125, s_286_126, s_286_127, s_286_130, s_286_131, s_286_132, s_286_135, s_286_136, s_286_137, s_286_140, s_286_141, s_286_142, x_get_i, List.getElem?_cons_succ, List.getElem?_cons_zero, x_cv_j, cs_n, cs_i, cs_r, cs_l, Nat.reduceAdd, Nat.reduceLeDiff, true_and, Option.toList_some, Option.toList_none, List.cons_append, List.nil_append, if_true, if_false, nb0, nb1, x_setJ, x_setZ0, x_setZ1, x_setA, x_setO, List.length_cons, List.length_nil, Nat.reduceLT, List.set_cons_succ, List.set_cons_zero, wrl_0, wrl_1, wrl_2, wrl_3, wrl_4, wrl_5, wrl_p0, wrl_p1, wrl_p2, wrl_p3, wrl_p4, mh_o, mh_po, mcv, mg_0, mg_1, mg_2, mg_3, mg_4, mg_5, mg_6, mg_7, mg_8, mg_9, mg_10, mg_11, mg_12, mg_13, mg_14, mg_15, mg_16, mg_17, mg_18, mg_19, mg_20, mg_21, mg_22, mg_23, mg_24, mg_25, mg_26, mg_27, mg_28, mg_29, mg_30, mg_31, mg_32, mg_33, mg_34, mg_35, mg_36, mg_37, mg_38, mg_39, mg_40, mg_41, mg_42, mg_43, mg_44, mg_45, mg_46, ms_1, ms_4, ms_6, ms_7, ms_9, ms_10, ms_11, ms_12, ms_16, ms_20, ms_24, ms_28, ms_35, ms_39, ms_42, ms_43, ms_17t, ms_17f, ms_8, ms_14, mc_1, mp_1, mc_2, mp_2, mc_3, mp_3, mc_4, mp_4, mc_5, mp_5, mc_6, mp_6, mc_7, mp_7, mc_8, mp_8, mc_9, mp_9, mc_10, mp_10, mc_11, mp_11, mc_12, mp_12, mc_13, mp_13, mc_14, mp_14, mc_15, mp_15, mc_16, mp_16, mc_17, mp_17, mc_18, mp_18, mc_19, mp_19, mc_20, mp_20, mc_21, mp_21, mc_22, mp_22, mc_23, mp_23, mc_24, mp_24, mc_25, mp_25, mc_26, mp_26, mc_27, mp_27, mc_28, mp_28, mc_29, mp_29, iu, cup, Nat.reduceEqDiff]
    refine Iff.mpr (r_moodsOf (n := nw.2.2.2.2.1) (x := m + 1) (N := N) ?_ hn ?_ _) ?_
    · exact i1
    · exact (mh_c (by decide) (by decide)).trans hN
    simp only [s_286_0, s_286_1, s_286_2, s_286_5, s_286_6, s_286_64, s_286_65, s_286_68, s_286_69, s_286_70, s_286_73, s_286_75, s_286_76, s_286_77, s_286_78, s_286_81, s_286_83, s_286_84, s_286_85, s_286_86, s_286_89, s_286_90, s_286_93, s_286_94, s_286_95, s_286_98, s_286_99, s_286_102, s_286_105, s_286_106, s_286_107, s_286_108, s_286_109, s_286_112, s_286_115, s_286_116, s_286_117, s_286_120, s_286_121, s_286_122, s_286_125, s_286_126, s_286_127, s_286_130, s_286_131, s_286_132, s_286_135, s_286_136, s_286_137, s_286_140, s_286_141, s_286_142, x_get_i, List.getElem?_cons_succ, List.getElem?_cons_zero, x_cv_j, cs_n, cs_i, cs_r, cs_l, Nat.reduceAdd, Nat.reduceLeDiff, true_and, Option.toList_some, Option.toList_none, List.cons_append, List.nil_append, if_true, if_false, nb0, nb1, x_setJ, x_setZ0, x_setZ1, x_setA, x_setO, List.length_cons, List.length_nil, Nat.reduceLT, List.set_cons_succ, List.set_cons_zero, wrl_0, wrl_1, wrl_2, wrl_3, wrl_4, wrl_5, wrl_p0, wrl_p1, wrl_p2, wrl_p3, wrl_p4, mh_o, mh_po, mcv, mg_0, mg_1, mg_2, mg_3, mg_4, mg_5, mg_6, mg_7, mg_8, mg_9, mg_10, mg_11, mg_12, mg_13, mg_14, mg_15, mg_16, mg_17, mg_18, mg_19, mg_20, mg_21, mg_22, mg_23, mg_24, mg_25, mg_26, mg_27, mg_28, mg_29, mg_30, mg_31, mg_32, mg_33, mg_34, mg_35, mg_36, mg_37, mg_38, mg_39, mg_40, mg_41, mg_42, mg_43, mg_44, mg_45, mg_46, ms_1, ms_4, ms_6, ms_7, ms_9, ms_10, ms_11, ms_12, ms_16, ms_20, ms_24, ms_28, ms_35, ms_39, ms_42, ms_43, ms_17t, ms_17f, ms_8, ms_14, mc_1, mp_1, mc_2, mp_2, mc_3, mp_3, mc_4, mp_4, mc_5, mp_5, mc_6, mp_6, mc_7, mp_7, mc_8, mp_8, mc_9, mp_9, mc_10, mp_10, mc_11, mp_11, mc_12, mp_12, mc_13, mp_13, mc_14, mp_14, mc_15, mp_15, mc_16, mp_16, mc_17, mp_17, mc_18, mp_18, mc_19, mp_19, mc_20, mp_20, mc_21, mp_21, mc_22, mp_22, mc_23, mp_23, mc_24, mp_24, mc_25, mp_25, mc_26, mp_26, mc_27, mp_27, mc_28, mp_28, mc_29, mp_29, iu, cup, Nat.reduceEqDiff]
    rw [RW_mo hr hn]
    exact hq
  by_cases w5 : w = 5
  · simp only [w5, show ¬ (5 : Int32) = 0 by decide, show ¬ (5 : Int32) = 1 by decide, show ¬ (5 : Int32) = 2 by decide, show ¬ (5 : Int32) = 3 by decide, show ¬ (5 : Int32) = 4 by decide, if_true, if_false] at hq ⊢
    refine Iff.mpr (r_atHome (n := nw.2.2.2.2.1) (x := m + 1) (N := N) (L := Lm) ?_ hn ?_ hL) ?_
    · exact i1
    · exact (mh_c (by decide) (by decide)).trans hN
    simp only [s_286_0, s_286_1, s_286_2, s_286_5, s_286_6, s_286_64, s_286_65, s_286_68, s_286_69, s_286_70, s_286_73, s_286_75, s_286_76, s_286_77, s_286_78, s_286_81, s_286_83, s_286_84, s_286_85, s_286_86, s_286_89, s_286_90, s_286_93, s_286_94, s_286_95, s_286_98, s_286_99, s_286_102, s_286_105, s_286_106, s_286_107, s_286_108, s_286_109, s_286_112, s_286_115, s_286_116, s_286_117, s_286_120, s_286_121, s_286_122, s_286_125, s_286_126, s_286_127, s_286_130, s_286_131, s_286_132, s_286_135, s_286_136, s_286_137, s_286_140, s_286_141, s_286_142, x_get_i, List.getElem?_cons_succ, List.getElem?_cons_zero, x_cv_j, cs_n, cs_i, cs_r, cs_l, Nat.reduceAdd, Nat.reduceLeDiff, true_and, Option.toList_some, Option.toList_none, List.cons_append, List.nil_append, if_true, if_false, nb0, nb1, x_setJ, x_setZ0, x_setZ1, x_setA, x_setO, List.length_cons, List.length_nil, Nat.reduceLT, List.set_cons_succ, List.set_cons_zero, wrl_0, wrl_1, wrl_2, wrl_3, wrl_4, wrl_5, wrl_p0, wrl_p1, wrl_p2, wrl_p3, wrl_p4, mh_o, mh_po, mcv, mg_0, mg_1, mg_2, mg_3, mg_4, mg_5, mg_6, mg_7, mg_8, mg_9, mg_10, mg_11, mg_12, mg_13, mg_14, mg_15, mg_16, mg_17, mg_18, mg_19, mg_20, mg_21, mg_22, mg_23, mg_24, mg_25, mg_26, mg_27, mg_28, mg_29, mg_30, mg_31, mg_32, mg_33, mg_34, mg_35, mg_36, mg_37, mg_38, mg_39, mg_40, mg_41, mg_42, mg_43, mg_44, mg_45, mg_46, ms_1, ms_4, ms_6, ms_7, ms_9, ms_10, ms_11, ms_12, ms_16, ms_20, ms_24, ms_28, ms_35, ms_39, ms_42, ms_43, ms_17t, ms_17f, ms_8, ms_14, mc_1, mp_1, mc_2, mp_2, mc_3, mp_3, mc_4, mp_4, mc_5, mp_5, mc_6, mp_6, mc_7, mp_7, mc_8, mp_8, mc_9, mp_9, mc_10, mp_10, mc_11, mp_11, mc_12, mp_12, mc_13, mp_13, mc_14, mp_14, mc_15, mp_15, mc_16, mp_16, mc_17, mp_17, mc_18, mp_18, mc_19, mp_19, mc_20, mp_20, mc_21, mp_21, mc_22, mp_22, mc_23, mp_23, mc_24, mp_24, mc_25, mp_25, mc_26, mp_26, mc_27, mp_27, mc_28, mp_28, mc_29, mp_29, iu, cup, Nat.reduceEqDiff]
    rw [RW_home hr hn hLe]
    exact hq
  simp only [w0, w1, w2, w3, w4, w5, if_false] at hq ⊢
  by_cases w6 : w = 6
  · simp only [w6, if_true, s_286_0, s_286_1, s_286_2, s_286_5, s_286_6, s_286_64, s_286_65, s_286_68, s_286_69, s_286_70, s_286_73, s_286_75, s_286_76, s_286_77, s_286_78, s_286_81, s_286_83, s_286_84, s_286_85, s_286_86, s_286_89, s_286_90, s_286_93, s_286_94, s_286_95, s_286_98, s_286_99, s_286_102, s_286_105, s_286_106, s_286_107, s_286_108, s_286_109, s_286_112, s_286_115, s_286_116, s_286_117, s_286_120, s_286_121, s_286_122, s_286_125, s_286_126, s_286_127, s_286_130, s_286_131, s_286_132, s_286_135, s_286_136, s_286_137, s_286_140, s_286_141, s_286_142, x_get_i, List.getElem?_cons_succ, List.getElem?_cons_zero, x_cv_j, cs_n, cs_i, cs_r, cs_l, Nat.reduceAdd, Nat.reduceLeDiff, true_and, Option.toList_some, Option.toList_none, List.cons_append, List.nil_append, if_true, if_false, nb0, nb1, x_setJ, x_setZ0, x_setZ1, x_setA, x_setO, List.length_cons, List.length_nil, Nat.reduceLT, List.set_cons_succ, List.set_cons_zero, wrl_0, wrl_1, wrl_2, wrl_3, wrl_4, wrl_5, wrl_p0, wrl_p1, wrl_p2, wrl_p3, wrl_p4, mh_o, mh_po, mcv, mg_0, mg_1, mg_2, mg_3, mg_4, mg_5, mg_6, mg_7, mg_8, mg_9, mg_10, mg_11, mg_12, mg_13, mg_14, mg_15, mg_16, mg_17, mg_18, mg_19, mg_20, mg_21, mg_22, mg_23, mg_24, mg_25, mg_26, mg_27, mg_28, mg_29, mg_30, mg_31, mg_32, mg_33, mg_34, mg_35, mg_36, mg_37, mg_38, mg_39, mg_40, mg_41, mg_42, mg_43, mg_44, mg_45, mg_46, ms_1, ms_4, ms_6, ms_7, ms_9, ms_10, ms_11, ms_12, ms_16, ms_20, ms_24, ms_28, ms_35, ms_39, ms_42, ms_43, ms_17t, ms_17f, ms_8, ms_14, mc_1, mp_1, mc_2, mp_2, mc_3, mp_3, mc_4, mp_4, mc_5, mp_5, mc_6, mp_6, mc_7, mp_7, mc_8, mp_8, mc_9, mp_9, mc_10, mp_10, mc_11, mp_11, mc_12, mp_12, mc_13, mp_13, mc_14, mp_14, mc_15, mp_15, mc_16, mp_16, mc_17, mp_17, mc_18, mp_18, mc_19, mp_19, mc_20, mp_20, mc_21, mp_21, mc_22, mp_22, mc_23, mp_23, mc_24, mp_24, mc_25, mp_25, mc_26, mp_26, mc_27, mp_27, mc_28, mp_28, mc_29, mp_29, iu, cup, Nat.reduceEqDiff, i35] at hq ⊢
    exact hq
  by_cases w7 : w = 7
  · simp only [w6, w7, show ¬ (7 : Int32) = 6 by decide, if_true, if_false, s_286_0, s_286_1, s_286_2, s_286_5, s_286_6, s_286_64, s_286_65, s_286_68, s_286_69, s_286_70, s_286_73, s_286_75, s_286_76, s_286_77, s_286_78, s_286_81, s_286_83, s_286_84, s_286_85, s_286_86, s_286_89, s_286_90, s_286_93, s_286_94, s_286_95, s_286_98, s_286_99, s_286_102, s_286_105, s_286_106, s_286_107, s_286_108, s_286_109, s_286_112, s_286_115, s_286_116, s_286_117, s_286_120, s_286_121, s_286_122, s_286_125, s_286_126, s_286_127, s_286_130, s_286_131, s_286_132, s_286_135, s_286_136, s_286_137, s_286_140, s_286_141, s_286_142, x_get_i, List.getElem?_cons_succ, List.getElem?_cons_zero, x_cv_j, cs_n, cs_i, cs_r, cs_l, Nat.reduceAdd, Nat.reduceLeDiff, true_and, Option.toList_some, Option.toList_none, List.cons_append, List.nil_append, if_true, if_false, nb0, nb1, x_setJ, x_setZ0, x_setZ1, x_setA, x_setO, List.length_cons, List.length_nil, Nat.reduceLT, List.set_cons_succ, List.set_cons_zero, wrl_0, wrl_1, wrl_2, wrl_3, wrl_4, wrl_5, wrl_p0, wrl_p1, wrl_p2, wrl_p3, wrl_p4, mh_o, mh_po, mcv, mg_0, mg_1, mg_2, mg_3, mg_4, mg_5, mg_6, mg_7, mg_8, mg_9, mg_10, mg_11, mg_12, mg_13, mg_14, mg_15, mg_16, mg_17, mg_18, mg_19, mg_20, mg_21, mg_22, mg_23, mg_24, mg_25, mg_26, mg_27, mg_28, mg_29, mg_30, mg_31, mg_32, mg_33, mg_34, mg_35, mg_36, mg_37, mg_38, mg_39, mg_40, mg_41, mg_42, mg_43, mg_44, mg_45, mg_46, ms_1, ms_4, ms_6, ms_7, ms_9, ms_10, ms_11, ms_12, ms_16, ms_20, ms_24, ms_28, ms_35, ms_39, ms_42, ms_43, ms_17t, ms_17f, ms_8, ms_14, mc_1, mp_1, mc_2, mp_2, mc_3, mp_3, mc_4, mp_4, mc_5, mp_5, mc_6, mp_6, mc_7, mp_7, mc_8, mp_8, mc_9, mp_9, mc_10, mp_10, mc_11, mp_11, mc_12, mp_12, mc_13, mp_13, mc_14, mp_14, mc_15, mp_15, mc_16, mp_16, mc_17, mp_17, mc_18, mp_18, mc_19, mp_19, mc_20, mp_20, mc_21, mp_21, mc_22, mp_22, mc_23, mp_23, mc_24, mp_24, mc_25, mp_25, mc_26, mp_26, mc_27, mp_27, mc_28, mp_28, mc_29, mp_29, iu, cup, Nat.reduceEqDiff, i39] at hq ⊢
    exact hq
  by_cases w8 : w = 8
  · simp only [w6, w7, w8, show ¬ (8 : Int32) = 6 by decide, show ¬ (8 : Int32) = 7 by decide, if_true, if_false, s_286_0, s_286_1, s_286_2, s_286_5, s_286_6, s_286_64, s_286_65, s_286_68, s_286_69, s_286_70, s_286_73, s_286_75, s_286_76, s_286_77, s_286_78, s_286_81, s_286_83, s_286_84, s_286_85, s_286_86, s_286_89, s_286_90, s_286_93, s_286_94, s_286_95, s_286_98, s_286_99, s_286_102, s_286_105, s_286_106, s_286_107, s_286_108, s_286_109, s_286_112, s_286_115, s_286_116, s_286_117, s_286_120, s_286_121, s_286_122, s_286_125, s_286_126, s_286_127, s_286_130, s_286_131, s_286_132, s_286_135, s_286_136, s_286_137, s_286_140, s_286_141, s_286_142, x_get_i, List.getElem?_cons_succ, List.getElem?_cons_zero, x_cv_j, cs_n, cs_i, cs_r, cs_l, Nat.reduceAdd, Nat.reduceLeDiff, true_and, Option.toList_some, Option.toList_none, List.cons_append, List.nil_append, if_true, if_false, nb0, nb1, x_setJ, x_setZ0, x_setZ1, x_setA, x_setO, List.length_cons, List.length_nil, Nat.reduceLT, List.set_cons_succ, List.set_cons_zero, wrl_0, wrl_1, wrl_2, wrl_3, wrl_4, wrl_5, wrl_p0, wrl_p1, wrl_p2, wrl_p3, wrl_p4, mh_o, mh_po, mcv, mg_0, mg_1, mg_2, mg_3, mg_4, mg_5, mg_6, mg_7, mg_8, mg_9, mg_10, mg_11, mg_12, mg_13, mg_14, mg_15, mg_16, mg_17, mg_18, mg_19, mg_20, mg_21, mg_22, mg_23, mg_24, mg_25, mg_26, mg_27, mg_28, mg_29, mg_30, mg_31, mg_32, mg_33, mg_34, mg_35, mg_36, mg_37, mg_38, mg_39, mg_40, mg_41, mg_42, mg_43, mg_44, mg_45, mg_46, ms_1, ms_4, ms_6, ms_7, ms_9, ms_10, ms_11, ms_12, ms_16, ms_20, ms_24, ms_28, ms_35, ms_39, ms_42, ms_43, ms_17t, ms_17f, ms_8, ms_14, mc_1, mp_1, mc_2, mp_2, mc_3, mp_3, mc_4, mp_4, mc_5, mp_5, mc_6, mp_6, mc_7, mp_7, mc_8, mp_8, mc_9, mp_9, mc_10, mp_10, mc_11, mp_11, mc_12, mp_12, mc_13, mp_13, mc_14, mp_14, mc_15, mp_15, mc_16, mp_16, mc_17, mp_17, mc_18, mp_18, mc_19, mp_19, mc_20, mp_20, mc_21, mp_21, mc_22, mp_22, mc_23, mp_23, mc_24, mp_24, mc_25, mp_25, mc_26, mp_26, mc_27, mp_27, mc_28, mp_28, mc_29, mp_29, iu, cup, Nat.reduceEqDiff, i20] at hq ⊢
    exact hq
  by_cases w9 : w = 9
  · simp only [w6, w7, w8, w9, show ¬ (9 : Int32) = 6 by decide, show ¬ (9 : Int32) = 7 by decide, show ¬ (9 : Int32) = 8 by decide, if_true, if_false, s_286_0, s_286_1, s_286_2, s_286_5, s_286_6, s_286_64, s_286_65, s_286_68, s_286_69, s_286_70, s_286_73, s_286_75, s_286_76, s_286_77, s_286_78, s_286_81, s_286_83, s_286_84, s_286_85, s_286_86, s_286_89, s_286_90, s_286_93, s_286_94, s_286_95, s_286_98, s_286_99, s_286_102, s_286_105, s_286_106, s_286_107, s_286_108, s_286_109, s_286_112, s_286_115, s_286_116, s_286_117, s_286_120, s_286_121, s_286_122, s_286_125, s_286_126, s_286_127, s_286_130, s_286_131, s_286_132, s_286_135, s_286_136, s_286_137, s_286_140, s_286_141, s_286_142, x_get_i, List.getElem?_cons_succ, List.getElem?_cons_zero, x_cv_j, cs_n, cs_i, cs_r, cs_l, Nat.reduceAdd, Nat.reduceLeDiff, true_and, Option.toList_some, Option.toList_none, List.cons_append, List.nil_append, if_true, if_false, nb0, nb1, x_setJ, x_setZ0, x_setZ1, x_setA, x_setO, List.length_cons, List.length_nil, Nat.reduceLT, List.set_cons_succ, List.set_cons_zero, wrl_0, wrl_1, wrl_2, wrl_3, wrl_4, wrl_5, wrl_p0, wrl_p1, wrl_p2, wrl_p3, wrl_p4, mh_o, mh_po, mcv, mg_0, mg_1, mg_2, mg_3, mg_4, mg_5, mg_6, mg_7, mg_8, mg_9, mg_10, mg_11, mg_12, mg_13, mg_14, mg_15, mg_16, mg_17, mg_18, mg_19, mg_20, mg_21, mg_22, mg_23, mg_24, mg_25, mg_26, mg_27, mg_28, mg_29, mg_30, mg_31, mg_32, mg_33, mg_34, mg_35, mg_36, mg_37, mg_38, mg_39, mg_40, mg_41, mg_42, mg_43, mg_44, mg_45, mg_46, ms_1, ms_4, ms_6, ms_7, ms_9, ms_10, ms_11, ms_12, ms_16, ms_20, ms_24, ms_28, ms_35, ms_39, ms_42, ms_43, ms_17t, ms_17f, ms_8, ms_14, mc_1, mp_1, mc_2, mp_2, mc_3, mp_3, mc_4, mp_4, mc_5, mp_5, mc_6, mp_6, mc_7, mp_7, mc_8, mp_8, mc_9, mp_9, mc_10, mp_10, mc_11, mp_11, mc_12, mp_12, mc_13, mp_13, mc_14, mp_14, mc_15, mp_15, mc_16, mp_16, mc_17, mp_17, mc_18, mp_18, mc_19, mp_19, mc_20, mp_20, mc_21, mp_21, mc_22, mp_22, mc_23, mp_23, mc_24, mp_24, mc_25, mp_25, mc_26, mp_26, mc_27, mp_27, mc_28, mp_28, mc_29, mp_29, iu, cup, Nat.reduceEqDiff, i6] at hq ⊢
    exact hq
  by_cases w10 : w = 10
  · simp only [w6, w7, w8, w9, w10, show ¬ (10 : Int32) = 6 by decide, show ¬ (10 : Int32) = 7 by decide, show ¬ (10 : Int32) = 8 by decide, show ¬ (10 : Int32) = 9 by decide, if_true, if_false, s_286_0, s_286_1, s_286_2, s_286_5, s_286_6, s_286_64, s_286_65, s_286_68, s_286_69, s_286_70, s_286_73, s_286_75, s_286_76, s_286_77, s_286_78, s_286_81, s_286_83, s_286_84, s_286_85, s_286_86, s_286_89, s_286_90, s_286_93, s_286_94, s_286_95, s_286_98, s_286_99, s_286_102, s_286_105, s_286_106, s_286_107, s_286_108, s_286_109, s_286_112, s_286_115, s_286_116, s_286_117, s_286_120, s_286_121, s_286_122, s_286_125, s_286_126, s_286_127, s_286_130, s_286_131, s_286_132, s_286_135, s_286_136, s_286_137, s_286_140, s_286_141, s_286_142, x_get_i, List.getElem?_cons_succ, List.getElem?_cons_zero, x_cv_j, cs_n, cs_i, cs_r, cs_l, Nat.reduceAdd, Nat.reduceLeDiff, true_and, Option.toList_some, Option.toList_none, List.cons_append, List.nil_append, if_true, if_false, nb0, nb1, x_setJ, x_setZ0, x_setZ1, x_setA, x_setO, List.length_cons, List.length_nil, Nat.reduceLT, List.set_cons_succ, List.set_cons_zero, wrl_0, wrl_1, wrl_2, wrl_3, wrl_4, wrl_5, wrl_p0, wrl_p1, wrl_p2, wrl_p3, wrl_p4, mh_o, mh_po, mcv, mg_0, mg_1, mg_2, mg_3, mg_4, mg_5, mg_6, mg_7, mg_8, mg_9, mg_10, mg_11, mg_12, mg_13, mg_14, mg_15, mg_16, mg_17, mg_18, mg_19, mg_20, mg_21, mg_22, mg_23, mg_24, mg_25, mg_26, mg_27, mg_28, mg_29, mg_30, mg_31, mg_32, mg_33, mg_34, mg_35, mg_36, mg_37, mg_38, mg_39, mg_40, mg_41, mg_42, mg_43, mg_44, mg_45, mg_46, ms_1, ms_4, ms_6, ms_7, ms_9, ms_10, ms_11, ms_12, ms_16, ms_20, ms_24, ms_28, ms_35, ms_39, ms_42, ms_43, ms_17t, ms_17f, ms_8, ms_14, mc_1, mp_1, mc_2, mp_2, mc_3, mp_3, mc_4, mp_4, mc_5, mp_5, mc_6, mp_6, mc_7, mp_7, mc_8, mp_8, mc_9, mp_9, mc_10, mp_10, mc_11, mp_11, mc_12, mp_12, mc_13, mp_13, mc_14, mp_14, mc_15, mp_15, mc_16, mp_16, mc_17, mp_17, mc_18, mp_18, mc_19, mp_19, mc_20, mp_20, mc_21, mp_21, mc_22, mp_22, mc_23, mp_23, mc_24, mp_24, mc_25, mp_25, mc_26, mp_26, mc_27, mp_27, mc_28, mp_28, mc_29, mp_29, iu, cup, Nat.reduceEqDiff, i4] at hq ⊢
    exact hq
  simp only [w6, w7, w8, w9, w10, if_false, s_286_0, s_286_1, s_286_2, s_286_5, s_286_6, s_286_64, s_286_65, s_286_68, s_286_69, s_286_70, s_286_73, s_286_75, s_286_76, s_286_77, s_286_78, s_286_81, s_286_83, s_286_84, s_286_85, s_286_86, s_286_89, s_286_90, s_286_93, s_286_94, s_286_95, s_286_98, s_286_99, s_286_102, s_286_105, s_286_106, s_286_107, s_286_108, s_286_109, s_286_112, s_286_115, s_286_116, s_286_117, s_286_120, s_286_121, s_286_122, s_286_125, s_286_126, s_286_127, s_286_130, s_286_131, s_286_132, s_286_135, s_286_136, s_286_137, s_286_140, s_286_141, s_286_142, x_get_i, List.getElem?_cons_succ, List.getElem?_cons_zero, x_cv_j, cs_n, cs_i, cs_r, cs_l, Nat.reduceAdd, Nat.reduceLeDiff, true_and, Option.toList_some, Option.toList_none, List.cons_append, List.nil_append, if_true, if_false, nb0, nb1, x_setJ, x_setZ0, x_setZ1, x_setA, x_setO, List.length_cons, List.length_nil, Nat.reduceLT, List.set_cons_succ, List.set_cons_zero, wrl_0, wrl_1, wrl_2, wrl_3, wrl_4, wrl_5, wrl_p0, wrl_p1, wrl_p2, wrl_p3, wrl_p4, mh_o, mh_po, mcv, mg_0, mg_1, mg_2, mg_3, mg_4, mg_5, mg_6, mg_7, mg_8, mg_9, mg_10, mg_11, mg_12, mg_13, mg_14, mg_15, mg_16, mg_17, mg_18, mg_19, mg_20, mg_21, mg_22, mg_23, mg_24, mg_25, mg_26, mg_27, mg_28, mg_29, mg_30, mg_31, mg_32, mg_33, mg_34, mg_35, mg_36, mg_37, mg_38, mg_39, mg_40, mg_41, mg_42, mg_43, mg_44, mg_45, mg_46, ms_1, ms_4, ms_6, ms_7, ms_9, ms_10, ms_11, ms_12, ms_16, ms_20, ms_24, ms_28, ms_35, ms_39, ms_42, ms_43, ms_17t, ms_17f, ms_8, ms_14, mc_1, mp_1, mc_2, mp_2, mc_3, mp_3, mc_4, mp_4, mc_5, mp_5, mc_6, mp_6, mc_7, mp_7, mc_8, mp_8, mc_9, mp_9, mc_10, mp_10, mc_11, mp_11, mc_12, mp_12, mc_13, mp_13, mc_14, mp_14, mc_15, mp_15, mc_16, mp_16, mc_17, mp_17, mc_18, mp_18, mc_19, mp_19, mc_20, mp_20, mc_21, mp_21, mc_22, mp_22, mc_23, mp_23, mc_24, mp_24, mc_25, mp_25, mc_26, mp_26, mc_27, mp_27, mc_28, mp_28, mc_29, mp_29, iu, cup, Nat.reduceEqDiff] at hq ⊢
  exact hq
end
