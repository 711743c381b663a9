/-! nights -/
abbrev NX : Type := (Nat → Int32) × (Nat → Int32) × Int32 × Int32
/-- a night: moods, boxes, who stands, the night -/
def ngt (V : (Nat → Int32) → Int32) (L W : Nat → Int32) (n : Nat) (mem : Int32) (X : NX) : NX := (nM V L W X.1 (be (tc_dB X.2.2.1 L W X.2.1 n)) n X.2.2.2 mem n, tc_dB X.2.2.1 L W X.2.1 n, 0, X.2.2.2 + 1)
def ngs (V : (Nat → Int32) → Int32) (L W : Nat → Int32) (n : Nat) (mem : Int32) : Nat → NX → NX
  | 0, X => X
  | j + 1, X => ngs V L W n mem j (ngt V L W n mem X)
def V6 (V : (Nat → Int32) → Int32) : Prop := ∀ E F, (∀ i, i < 6 → E i = F i) → V E = V F
theorem upd_same {f : Nat → Int32} {i : Nat} {v : Int32} (h : f i = v) : upd f i v = f := by
  funext j
  unfold upd
  split
  · rename_i e; rw [e, h]
  · rfl
theorem nM_same {V : (Nat → Int32) → Int32} {L W M : Nat → Int32} {β : Nat → Nat} {n : Nat} {g mem : Int32} : ∀ {i : Nat}, nC V L W M β n g mem i = false → nM V L W M β n g mem i = M
  | 0, _ => rfl
  | i + 1, hc => by
    have es : nM V L W M β n g mem (i + 1) = if (mem >>> (nI i &&& 31)) &&& 1 = 1 then upd (nM V L W M β n g mem i) i (nE V L W M β n g i) else nM V L W M β n g mem i := rfl
    have ec : nC V L W M β n g mem (i + 1) = if (mem >>> (nI i &&& 31)) &&& 1 = 1 then (nC V L W M β n g mem i || !decide (nE V L W M β n g i = M i)) else nC V L W M β n g mem i := rfl
    rw [ec] at hc
    rw [es]
    split at hc
    · rename_i hb
      rw [if_pos hb]
      have h1 : nC V L W M β n g mem i = false := by cases hq : nC V L W M β n g mem i <;> simp [hq] at hc ⊢
      have h2 : nE V L W M β n g i = M i := by
        rw [h1] at hc
        simpa using hc
      rw [nM_same h1]
      exact upd_same h2.symm
    · rename_i hb
      rw [if_neg hb]
      exact nM_same hc
theorem nE_g {V : (Nat → Int32) → Int32} (hV : V6 V) {L W M : Nat → Int32} {β : Nat → Nat} {n : Nat} {g g' : Int32} {i : Nat} : nE V L W M β n g i = nE V L W M β n g' i := by
  unfold nE
  rw [hV (tc_env L W M β (fun x => bs M β x n) (fun x => bs (fun _ => 1) β x n) g i) (tc_env L W M β (fun x => bs M β x n) (fun x => bs (fun _ => 1) β x n) g' i) (fun j hj => by
    unfold tc_env e7
    rcases (show j = 0 ∨ j = 1 ∨ j = 2 ∨ j = 3 ∨ j = 4 ∨ j = 5 by omega) with e | e | e | e | e | e <;> subst e <;> rfl)]
theorem nM_g {V : (Nat → Int32) → Int32} (hV : V6 V) {L W M : Nat → Int32} {β : Nat → Nat} {n : Nat} {g g' mem : Int32} {i : Nat} : nM V L W M β n g mem i = nM V L W M β n g' mem i := by
  unfold nM
  have : (fun i => nE V L W M β n g i) = fun i => nE V L W M β n g' i := funext fun i => nE_g hV
  have h2 : nE V L W M β n g = nE V L W M β n g' := this
  rw [h2]
theorem ngs_rest {V : (Nat → Int32) → Int32} (hV : V6 V) {L W M B : Nat → Int32} {n : Nat} {g mem : Int32} (hn : n ≤ 12) (hM : nM V L W M (be B) n g mem n = M) : ∀ j, ngs V L W n mem j (M, B, 0, g) = (M, B, 0, g + nI j) := by
  intro j
  induction j generalizing g with
  | zero => show (M, B, (0 : Int32), g) = (M, B, 0, g + nI 0); rw [nI_0, Int32.add_zero]
  | succ j ih =>
    show ngs V L W n mem j (nM V L W M (be (tc_dB 0 L W B n)) n g mem n, tc_dB 0 L W B n, 0, g + 1) = _
    rw [dB_0 n hn, hM, ih (by rw [nM_g hV (g' := g)]; exact hM), Int32.add_assoc, Int32.add_comm 1, nI_1]
section
variable {sa : g_SA} {sc : Nat × Nat × (Nat → Int32)} {xt : Nat → Nat → List Value → tm_H → Option (Option Value × tm_H)} {d : Nat} {h : tm_H} {Q : Option Value → tm_H → Prop}
variable {k r n : Nat} {L W M B : Nat → Int32} {s g : Int32} {a b : Nat → Int32} {V : (Nat → Int32) → Int32} {hn : Bool}
theorem ru_looks (hR : RU h r V (bI hn)) : tm_D (g_G sa sc xt) d 52 [.ref r] h Q ↔ Q (some (.int (bI hn))) h := by
  obtain ⟨E, P, K, z, a0, e0, h1, h2, h3⟩ := hR
  have h0 := h1 0 _ rfl
  rw [Nat.add_zero] at h0
  rw [e_52]
  simp only [s_52_0, s_52_1, s_52_4, x_get_i, List.getElem?_cons_succ, List.getElem?_cons_zero, x_cv_j, cs_n, cs_i, cs_r, cs_l, Nat.reduceAdd, Nat.reduceLeDiff, true_and, Option.toList_some, Option.toList_none, List.cons_append, List.nil_append, if_true, if_false, nb0, nb1, x_setJ, x_setZ0, x_setZ1, x_setA, x_setO, List.length_cons, List.length_nil, Nat.reduceLT, List.set_cons_succ, List.set_cons_zero, wrl_0, wrl_1, wrl_2, wrl_3, wrl_4, wrl_5, wrl_p0, wrl_p1, wrl_p2, wrl_p3, wrl_p4, h0, bI_n]
theorem tc_nights {m : Nat} {mem : Int32} (hm : m < 2 ^ 30) (hN : n ≤ 12) (hL : BX n L) (hB : BX n B) (hR : RU h r V (bI hn)) (hV : V7 V) (hV6 : hn = false → V6 V) (hd : r + 4 ≤ k ∨ k + 7 ≤ r) (hQ : ∀ h1 a b, rsm r h h1 → RU h1 r V (bI hn) → Q none (tcp h1 k L W (ngs V L W n mem m (M, B, s, g)).1 (ngs V L W n mem m (M, B, s, g)).2.1 (nI n) (ngs V L W n mem m (M, B, s, g)).2.2.1 (ngs V L W n mem m (M, B, s, g)).2.2.2 a b)) : tm_D (g_G sa sc xt) (d + 3) 100 [.ref k, .ref r, .int (nI m), .int mem] (tcp h k L W M B (nI n) s g a b) Q := by
  have loop : ∀ (j gone : Nat) (h1 : tm_H) (X : NX) (a b : Nat → Int32) (x5 : Value), gone + j = m → rsm r h h1 → RU h1 r V (bI hn) → BX n X.2.1 → ngs V L W n mem j X = ngs V L W n mem m (M, B, s, g) → tm_X (g_G sa sc xt) (d + 3) 100 3 [.ref k, .ref r, .int (nI m), .int mem, .int (nI (gone + 1)), x5] [] (tcp h1 k L W X.1 X.2.1 (nI n) X.2.2.1 X.2.2.2 a b) Q := by
    intro j
    induction j with
    | zero =>
      intro gone h1 X a b x5 hj q1 q2 q3 q4
      have c1 : nI m < nI (gone + 1) := nI_lt (by omega) (by omega)
      rw [s_100_3]
      simp only [s_100_0, s_100_1, s_100_5, s_100_6, s_100_9, s_100_10, s_100_11, s_100_12, s_100_15, s_100_17, s_100_19, s_100_22, s_100_23, s_100_26, s_100_29, s_100_30, s_100_31, s_100_34, s_100_35, s_100_37, s_100_38, s_100_39, s_100_42, s_100_43, s_100_46, s_100_49, x_get_i, List.getElem?_cons_succ, List.getElem?_cons_zero, x_cv_j, cs_n, cs_i, cs_r, cs_l, Nat.reduceAdd, Nat.reduceLeDiff, true_and, Option.toList_some, Option.toList_none, List.cons_append, List.nil_append, if_true, if_false, nb0, nb1, x_setJ, x_setZ0, x_setZ1, x_setA, x_setO, List.length_cons, List.length_nil, Nat.reduceLT, List.set_cons_succ, List.set_cons_zero, wrl_0, wrl_1, wrl_2, wrl_3, wrl_4, wrl_5, wrl_p0, wrl_p1, wrl_p2, wrl_p3, wrl_p4, c1]
      have hQ := hQ h1 a b q1 q2
      rw [← q4] at hQ
      exact hQ
    | succ j ih =>
      intro gone h1 X a b x5 hj q1 q2 q3 q4
      have c1 : ¬ nI m < nI (gone + 1) := Int32.not_lt.mpr (nI_le (by omega) (by omega))
      have q3' := BX_dB (s := X.2.2.1) (W := W) hL q3 n (Nat.le_refl _)
      rw [s_100_3]
      simp only [s_100_0, s_100_1, s_100_5, s_100_6, s_100_9, s_100_10, s_100_11, s_100_12, s_100_15, s_100_17, s_100_19, s_100_22, s_100_23, s_100_26, s_100_29, s_100_30, s_100_31, s_100_34, s_100_35, s_100_37, s_100_38, s_100_39, s_100_42, s_100_43, s_100_46, s_100_49, x_get_i, List.getElem?_cons_succ, List.getElem?_cons_zero, x_cv_j, cs_n, cs_i, cs_r, cs_l, Nat.reduceAdd, Nat.reduceLeDiff, true_and, Option.toList_some, Option.toList_none, List.cons_append, List.nil_append, if_true, if_false, nb0, nb1, x_setJ, x_setZ0, x_setZ1, x_setA, x_setO, List.length_cons, List.length_nil, Nat.reduceLT, List.set_cons_succ, List.set_cons_zero, wrl_0, wrl_1, wrl_2, wrl_3, wrl_4, wrl_5, wrl_p0, wrl_p1, wrl_p2, wrl_p3, wrl_p4, tcp_0, c1]
      refine tc_night hN (fun i hi => BX_be q3' hi) q2 hV hd (fun h2 a' b' q5 q6 => ?_)
      simp only [s_100_0, s_100_1, s_100_5, s_100_6, s_100_9, s_100_10, s_100_11, s_100_12, s_100_15, s_100_17, s_100_19, s_100_22, s_100_23, s_100_26, s_100_29, s_100_30, s_100_31, s_100_34, s_100_35, s_100_37, s_100_38, s_100_39, s_100_42, s_100_43, s_100_46, s_100_49, x_get_i, List.getElem?_cons_succ, List.getElem?_cons_zero, x_cv_j, cs_n, cs_i, cs_r, cs_l, Nat.reduceAdd, Nat.reduceLeDiff, true_and, Option.toList_some, Option.toList_none, List.cons_append, List.nil_append, if_true, if_false, nb0, nb1, x_setJ, x_setZ0, x_setZ1, x_setA, x_setO, List.length_cons, List.length_nil, Nat.reduceLT, List.set_cons_succ, List.set_cons_zero, wrl_0, wrl_1, wrl_2, wrl_3, wrl_4, wrl_5, wrl_p0, wrl_p1, wrl_p2, wrl_p3, wrl_p4, tcp_0]
      have q7 : RU (tcp h2 k L W (ngt V L W n mem X).1 (ngt V L W n mem X).2.1 (nI n) 0 (X.2.2.2 + 1) a' b') r V (bI hn) := (RU_tcp hd).mpr q6
      have r0 : ∀ z : Int32, (tcp h2 k L W (ngt V L W n mem X).1 (ngt V L W n mem X).2.1 (nI n) 0 z a' b').2.2 r = h2.2.2 r := fun z => tcp_o (by omega)
      have r1 : ∃ fs, h2.2.2 r = .inr (7, fs) := by
        obtain ⟨E, P, K, z, a0, e0, u1, u2, u3⟩ := q6
        have h0 := u1 0 _ rfl
        rw [Nat.add_zero] at h0
        exact ⟨_, h0⟩
      obtain ⟨fs, r1⟩ := r1
      have step := ih (gone + 1) h2 (ngt V L W n mem X) a' b'
      cases hc : nC V L W X.1 (be (tc_dB X.2.2.1 L W X.2.1 n)) n X.2.2.2 mem n with
      | true =>
        simp only [show ¬ bI true = 0 by decide, if_false, nI_1]
        exact step _ (by omega) (q1.trans q5) q6 q3' q4
      | false =>
        simp only [show bI false = 0 by decide, if_true]
        have e1 : (ngt V L W n mem X).1 = nM V L W X.1 (be (tc_dB X.2.2.1 L W X.2.1 n)) n X.2.2.2 mem n := rfl
        have e2 : (ngt V L W n mem X).2.1 = tc_dB X.2.2.1 L W X.2.1 n := rfl
        rw [← e1, ← e2, r0, r1]
        simp only [x_get_i, List.getElem?_cons_succ, List.getElem?_cons_zero, x_cv_j, cs_n, cs_i, cs_r, cs_l, Nat.reduceAdd, Nat.reduceLeDiff, true_and, Option.toList_some, Option.toList_none, List.cons_append, List.nil_append, if_true, if_false, nb0, nb1, x_setJ, x_setZ0, x_setZ1, x_setA, x_setO, List.length_cons, List.length_nil, Nat.reduceLT, List.set_cons_succ, List.set_cons_zero, wrl_0, wrl_1, wrl_2, wrl_3, wrl_4, wrl_5, wrl_p0, wrl_p1, wrl_p2, wrl_p3, wrl_p4]
        rw [ru_looks q7]
        simp only [s_100_0, s_100_1, s_100_5, s_100_6, s_100_9, s_100_10, s_100_11, s_100_12, s_100_15, s_100_17, s_100_19, s_100_22, s_100_23, s_100_26, s_100_29, s_100_30, s_100_31, s_100_34, s_100_35, s_100_37, s_100_38, s_100_39, s_100_42, s_100_43, s_100_46, s_100_49, x_get_i, List.getElem?_cons_succ, List.getElem?_cons_zero, x_cv_j, cs_n, cs_i, cs_r, cs_l, Nat.reduceAdd, Nat.reduceLeDiff, true_and, Option.toList_some, Option.toList_none, List.cons_append, List.nil_append, if_true, if_false, nb0, nb1, x_setJ, x_setZ0, x_setZ1, x_setA, x_setO, List.length_cons, List.length_nil, Nat.reduceLT, List.set_cons_succ, List.set_cons_zero, wrl_0, wrl_1, wrl_2, wrl_3, wrl_4, wrl_5, wrl_p0, wrl_p1, wrl_p2, wrl_p3, wrl_p4]
        cases hh : hn with
        | true =>
          subst hh
          simp only [show ¬ bI true = 0 by decide, if_false, nI_1]
          exact step _ (by omega) (q1.trans q5) q6 q3' q4
        | false =>
          simp only [show bI false = 0 by decide, if_true, s_100_0, s_100_1, s_100_5, s_100_6, s_100_9, s_100_10, s_100_11, s_100_12, s_100_15, s_100_17, s_100_19, s_100_22, s_100_23, s_100_26, s_100_29, s_100_30, s_100_31, s_100_34, s_100_35, s_100_37, s_100_38, s_100_39, s_100_42, s_100_43, s_100_46, s_100_49, tcp_0, x_get_i, List.getElem?_cons_succ, List.getElem?_cons_zero, x_cv_j, cs_n, cs_i, cs_r, cs_l, Nat.reduceAdd, Nat.reduceLeDiff, true_and, Option.toList_some, Option.toList_none, List.cons_append, List.nil_append, if_true, if_false, nb0, nb1, x_setJ, x_setZ0, x_setZ1, x_setA, x_setO, List.length_cons, List.length_nil, Nat.reduceLT, List.set_cons_succ, List.set_cons_zero, wrl_0, wrl_1, wrl_2, wrl_3, wrl_4, wrl_5, wrl_p0, wrl_p1, wrl_p2, wrl_p3, wrl_p4, tcp_p0]
          have hx := nM_same hc
          have hM : nM V L W X.1 (be (tc_dB X.2.2.1 L W X.2.1 n)) n (X.2.2.2 + 1) mem n = X.1 := by rw [nM_g (hV6 hh) (g' := X.2.2.2)]; exact hx
          have hr := ngs_rest (hV6 hh) hN hM j
          have ex : ngt V L W n mem X = (X.1, tc_dB X.2.2.1 L W X.2.1 n, 0, X.2.2.2 + 1) := by
            unfold ngt
            rw [hx]
          have e5 : ngs V L W n mem m (M, B, s, g) = (X.1, tc_dB X.2.2.1 L W X.2.1 n, 0, X.2.2.2 + 1 + nI j) := by
            rw [← q4]
            show ngs V L W n mem j (ngt V L W n mem X) = _
            rw [ex, hr]
          have hQ := hQ h2 a' b' (q1.trans q5) q6
          rw [e5] at hQ
          rw [e1, e2, hx]
          have e6 : nI m - nI (gone + 1) = nI j := by
            rw [show m = j + (gone + 1) by omega, ← nI_add, Int32.add_sub_cancel]
          rw [e6]
          exact hQ
  rw [e_100]
  simp only [s_100_0, s_100_1, s_100_5, s_100_6, s_100_9, s_100_10, s_100_11, s_100_12, s_100_15, s_100_17, s_100_19, s_100_22, s_100_23, s_100_26, s_100_29, s_100_30, s_100_31, s_100_34, s_100_35, s_100_37, s_100_38, s_100_39, s_100_42, s_100_43, s_100_46, s_100_49]
  have := loop m 0 h (M, B, s, g) a b tm_z (by omega) rsm.rfl hR hB rfl
  exact this
theorem tc_turnNow {j : Nat} (hN : n ≤ 12) (hj : j < n) (hB : BX n B) (hR : RU h r V (bI hn)) (hV : V7 V) (hd : r + 4 ≤ k ∨ k + 7 ≤ r) (hQ : ∀ h1 a b, rsm r h h1 → RU h1 r V (bI hn) → Q (some (.int (pm (V (tc_env L W M (be B) (fun x => bs M (be B) x n) (fun x => bs (fun _ => 1) (be B) x n) g j))))) (tcp h1 k L W M B (nI n) s g a b)) : tm_D (g_G sa sc xt) (d + 2) 102 [.ref k, .ref r, .int (nI j)] (tcp h k L W M B (nI n) s g a b) Q := by
  have hB' := fun i hi => BX_be hB (i := i) hi
  have c0 : (if nI j < 0 then (0 : Int32) else if nI n ≤ nI j then 0 else 1) = 1 := (tc_hasI hN).mpr ⟨j, hj, rfl⟩
  rw [e_102]
  simp only [s_102_0, s_102_1, s_102_4, s_102_5, s_102_6, s_102_9, s_102_12, s_102_13, s_102_14, s_102_15, s_102_18, s_102_21, s_102_22, x_get_i, List.getElem?_cons_succ, List.getElem?_cons_zero, x_cv_j, cs_n, cs_i, cs_r, cs_l, Nat.reduceAdd, Nat.reduceLeDiff, true_and, Option.toList_some, Option.toList_none, List.cons_append, List.nil_append, if_true, if_false, nb0, nb1, x_setJ, x_setZ0, x_setZ1, x_setA, x_setO, List.length_cons, List.length_nil, Nat.reduceLT, List.set_cons_succ, List.set_cons_zero, wrl_0, wrl_1, wrl_2, wrl_3, wrl_4, wrl_5, wrl_p0, wrl_p1, wrl_p2, wrl_p3, wrl_p4, tcp_0]
  rw [tc_weigh hN hB']
  simp only [s_102_0, s_102_1, s_102_4, s_102_5, s_102_6, s_102_9, s_102_12, s_102_13, s_102_14, s_102_15, s_102_18, s_102_21, s_102_22, x_get_i, List.getElem?_cons_succ, List.getElem?_cons_zero, x_cv_j, cs_n, cs_i, cs_r, cs_l, Nat.reduceAdd, Nat.reduceLeDiff, true_and, Option.toList_some, Option.toList_none, List.cons_append, List.nil_append, if_true, if_false, nb0, nb1, x_setJ, x_setZ0, x_setZ1, x_setA, x_setO, List.length_cons, List.length_nil, Nat.reduceLT, List.set_cons_succ, List.set_cons_zero, wrl_0, wrl_1, wrl_2, wrl_3, wrl_4, wrl_5, wrl_p0, wrl_p1, wrl_p2, wrl_p3, wrl_p4, tcp_0, tc_has tcp_at, c0, show ¬ (1 : Int32) = 0 by decide]
  refine tc_turn hN hj (hB' j hj) ((RU_tcp hd).mpr hR) hV hd (fun h2 q3 q4 => ?_)
  have hv : tc_env L W M (be B) (wA a M (be B) n) (wA b (fun _ => 1) (be B) n) g j = tc_env L W M (be B) (fun x => bs M (be B) x n) (fun x => bs (fun _ => 1) (be B) x n) g j := by
    unfold tc_env wA
    rw [if_pos (hB' j hj).2, if_pos (hB' j hj).2]
  rw [hv]
  simp only [s_102_0, s_102_1, s_102_4, s_102_5, s_102_6, s_102_9, s_102_12, s_102_13, s_102_14, s_102_15, s_102_18, s_102_21, s_102_22, x_get_i, List.getElem?_cons_succ, List.getElem?_cons_zero, x_cv_j, cs_n, cs_i, cs_r, cs_l, Nat.reduceAdd, Nat.reduceLeDiff, true_and, Option.toList_some, Option.toList_none, List.cons_append, List.nil_append, if_true, if_false, nb0, nb1, x_setJ, x_setZ0, x_setZ1, x_setA, x_setO, List.length_cons, List.length_nil, Nat.reduceLT, List.set_cons_succ, List.set_cons_zero, wrl_0, wrl_1, wrl_2, wrl_3, wrl_4, wrl_5, wrl_p0, wrl_p1, wrl_p2, wrl_p3, wrl_p4]
  exact hQ h2 _ _ q3 ((RU_tcp hd).mp q4)
end
