/-! a night, nights -/
def bI (b : Bool) : Int32 := if b then 1 else 0
theorem bI_or {x : Bool} {y : Bool} : bI x ||| bI y = bI (x || y) := by cases x <;> cases y <;> decide
theorem bI_n {x : Bool} : narrow .boolean (.int (bI x)) = .int (bI x) := by cases x <;> decide
theorem bI_0 {x : Bool} : bI x = 0 ↔ x = false := by cases x <;> decide
section
variable {h : tm_H} {k r : Nat} {L W M B : Nat → Int32} {z s g : Int32} {a b : Nat → Int32} {V : (Nat → Int32) → Int32} {hn : Int32}
theorem RU_same {h h' : tm_H} (hh : ∀ q, r ≤ q → q < r + 4 → h'.2.2 q = h.2.2 q) (hR : RU h r V hn) : RU h' r V hn := by
  obtain ⟨E, P, K, z, a0, e0, h1, h2, h3⟩ := hR
  refine ⟨E, P, K, z, a0, e0, fun i x hx => ?_, h2, h3⟩
  have hl : i < 4 := (List.getElem?_eq_some_iff.mp hx).1
  rw [hh _ (by omega) (by omega)]
  exact h1 i x hx
theorem RU_tcp (hd : r + 4 ≤ k ∨ k + 7 ≤ r) : RU (tcp h k L W M B z s g a b) r V hn ↔ RU h r V hn :=
  ⟨RU_same (fun q h1 h2 => (tcp_o (by omega)).symm), RU_same (fun q h1 h2 => tcp_o (by omega))⟩
end
/-- places below n hold numbers of boxes -/
def BX (n : Nat) (B : Nat → Int32) : Prop := ∀ i, i < n → ∃ x, x < 8 ∧ B i = nI x
def be (B : Nat → Int32) (i : Nat) : Nat := (B i).toNatClampNeg
theorem BX_be {n : Nat} {B : Nat → Int32} (hB : BX n B) {i : Nat} (hi : i < n) : B i = nI (be B i) ∧ be B i < 8 := by
  obtain ⟨x, hx, e⟩ := hB i hi
  have : be B i = x := by unfold be; rw [e, nI_clamp (by omega)]
  rw [this]
  exact ⟨e, hx⟩
theorem BX_next {x : Nat} (hx : x < 8) : ∃ y, y < 8 ∧ (nI x + 1) - (nI x + 1) / 8 * 8 = nI y := by
  have : ∀ x : Fin 8, ∃ y : Fin 8, (nI x.1 + 1) - (nI x.1 + 1) / 8 * 8 = nI y.1 := by decide +kernel
  obtain ⟨y, hy⟩ := this ⟨x, hx⟩
  exact ⟨y.1, y.2, hy⟩
theorem BX_upd {n i x : Nat} {B : Nat → Int32} (hB : BX n B) (hx : x < 8) : BX n (upd B i (nI x)) := by
  intro j hj
  unfold upd
  split
  · exact ⟨x, hx, rfl⟩
  · exact hB j hj
theorem BX_dB {n : Nat} {s : Int32} {L W B : Nat → Int32} (hL : BX n L) (hB : BX n B) : ∀ i, i ≤ n → BX n (tc_dB s L W B i)
  | 0, _ => hB
  | i + 1, hi => by
    have ih := BX_dB (s := s) (W := W) hL hB i (by omega)
    have es : tc_dB s L W B (i + 1) = if (s >>> (nI i &&& 31)) &&& 1 = 1 then upd (tc_dB s L W B i) i (if W i = 9 then (L i + 1) - (L i + 1) / 8 * 8 else L i) else tc_dB s L W B i := rfl
    rw [es]
    split
    · obtain ⟨x, hx, e⟩ := hL i (by omega)
      rw [e]
      split
      · obtain ⟨y, hy, e2⟩ := BX_next hx
        rw [e2]
        exact BX_upd ih hy
      · exact BX_upd ih hx
    · exact ih
theorem dB_0 {L W B : Nat → Int32} : ∀ i, i ≤ 12 → tc_dB 0 L W B i = B
  | 0, _ => rfl
  | i + 1, hi => by
    have es : tc_dB 0 L W B (i + 1) = if ((0 : Int32) >>> (nI i &&& 31)) &&& 1 = 1 then upd (tc_dB 0 L W B i) i (if W i = 9 then (L i + 1) - (L i + 1) / 8 * 8 else L i) else tc_dB 0 L W B i := rfl
    rw [es, if_neg, dB_0 i (by omega)]
    rw [bt_sr (by omega), bt_0]
    decide
/-- the mood of sort i behind a night -/
def nE (V : (Nat → Int32) → Int32) (L W M : Nat → Int32) (β : Nat → Nat) (n : Nat) (g : Int32) (i : Nat) : Int32 := pm (M i + pm (V (tc_env L W M β (fun x => bs M β x n) (fun x => bs (fun _ => 1) β x n) g i)))
/-- moods, of the members, behind a night -/
def nM (V : (Nat → Int32) → Int32) (L W M : Nat → Int32) (β : Nat → Nat) (n : Nat) (g mem : Int32) : Nat → Nat → Int32 := fo (fun i X => if (mem >>> (nI i &&& 31)) &&& 1 = 1 then upd X i (nE V L W M β n g i) else X) M
def nC (V : (Nat → Int32) → Int32) (L W M : Nat → Int32) (β : Nat → Nat) (n : Nat) (g mem : Int32) : Nat → Bool := fo (fun i c => if (mem >>> (nI i &&& 31)) &&& 1 = 1 then (c || !decide (nE V L W M β n g i = M i)) else c) false
theorem nM_ge {V : (Nat → Int32) → Int32} {L W M : Nat → Int32} {β : Nat → Nat} {n : Nat} {g mem : Int32} : ∀ {i j : Nat}, i ≤ j → nM V L W M β n g mem i j = M j
  | 0, j, _ => rfl
  | i + 1, j, hj => by
    have es : nM V L W M β n g mem (i + 1) = if (mem >>> (nI i &&& 31)) &&& 1 = 1 then upd (nM V L W M β n g mem i) i (nE V L W M β n g i) else nM V L W M β n g mem i := rfl
    rw [es]
    split
    · unfold upd
      rw [if_neg (by omega)]
      exact nM_ge (by omega)
    · exact nM_ge (by omega)
section
variable {sa : g_SA} {sc : Nat × Nat × (Nat → Int32)} {xt : Nat → Nat → List Value → tm_H → Option (Option Value × tm_H)} {d : Nat} {h : tm_H} {Q : Option Value → tm_H → Prop}
variable {k r n : Nat} {L W M B : Nat → Int32} {s g : Int32} {a b : Nat → Int32} {V : (Nat → Int32) → Int32} {hn : Int32}
theorem tc_distr (hN : n ≤ 12) : tm_D (g_G sa sc xt) d 99 [.ref k] (tcp h k L W M B (nI n) s g a b) Q ↔ Q none (tcp h k L W M (tc_dB s L W B n) (nI n) 0 g a b) := by
  by_cases hs : s = 0
  · subst hs
    rw [tc_distribute0 hN, dB_0 n hN]
  · exact tc_distribute hN hs
theorem tc_night {β : Nat → Nat} {mem : Int32} (hN : n ≤ 12) (hB : ∀ i, i < n → tc_dB s L W B n i = nI (β i) ∧ β i < 8) (hR : RU h r V hn) (hV : V7 V) (hd : r + 4 ≤ k ∨ k + 7 ≤ r) (hQ : ∀ h1 a b, rsm r h h1 → RU h1 r V hn → Q (some (.int (bI (nC V L W M β n g mem n)))) (tcp h1 k L W (nM V L W M β n g mem n) (tc_dB s L W B n) (nI n) 0 (g + 1) a b)) : tm_D (g_G sa sc xt) (d + 2) 101 [.ref k, .ref r, .int mem] (tcp h k L W M B (nI n) s g a b) Q := by
  rw [e_101]
  simp only [s_101_0, s_101_1, s_101_4, s_101_5, s_101_8, s_101_9, s_101_10, s_101_11, s_101_15, s_101_16, s_101_19, s_101_22, s_101_23, s_101_25, s_101_26, s_101_27, s_101_28, s_101_29, s_101_32, s_101_33, s_101_36, s_101_38, s_101_39, s_101_41, s_101_42, s_101_45, s_101_47, s_101_49, s_101_50, s_101_51, s_101_53, s_101_56, s_101_57, s_101_60, s_101_61, s_101_62, s_101_63, s_101_66, s_101_68, s_101_69, s_101_71, s_101_74, s_101_75, s_101_78, s_101_79, s_101_80, s_101_81, s_101_84, s_101_87, s_101_88, s_101_89, s_101_92, s_101_93, s_101_94, s_101_97, s_101_98, x_get_i, List.getElem?_cons_succ, List.getElem?_cons_zero, x_cv_j, cs_n, cs_i, cs_r, cs_l, Nat.reduceAdd, Nat.reduceLeDiff, true_and, Option.toList_some, Option.toList_none, List.cons_append, List.nil_append, if_true, if_false, nb0, nb1, x_setJ, x_setZ0, x_setZ1, x_setA, x_setO, List.length_cons, List.length_nil, Nat.reduceLT, List.set_cons_succ, List.set_cons_zero, wrl_0, wrl_1, wrl_2, wrl_3, wrl_4, wrl_5, wrl_p0, wrl_p1, wrl_p2, wrl_p3, wrl_p4, tcp_0]
  rw [tc_distr hN]
  simp only [s_101_0, s_101_1, s_101_4, s_101_5, s_101_8, s_101_9, s_101_10, s_101_11, s_101_15, s_101_16, s_101_19, s_101_22, s_101_23, s_101_25, s_101_26, s_101_27, s_101_28, s_101_29, s_101_32, s_101_33, s_101_36, s_101_38, s_101_39, s_101_41, s_101_42, s_101_45, s_101_47, s_101_49, s_101_50, s_101_51, s_101_53, s_101_56, s_101_57, s_101_60, s_101_61, s_101_62, s_101_63, s_101_66, s_101_68, s_101_69, s_101_71, s_101_74, s_101_75, s_101_78, s_101_79, s_101_80, s_101_81, s_101_84, s_101_87, s_101_88, s_101_89, s_101_92, s_101_93, s_101_94, s_101_97, s_101_98, x_get_i, List.getElem?_cons_succ, List.getElem?_cons_zero, x_cv_j, cs_n, cs_i, cs_r, cs_l, Nat.reduceAdd, Nat.reduceLeDiff, true_and, Option.toList_some, Option.toList_none, List.cons_append, List.nil_append, if_true, if_false, nb0, nb1, x_setJ, x_setZ0, x_setZ1, x_setA, x_setO, List.length_cons, List.length_nil, Nat.reduceLT, List.set_cons_succ, List.set_cons_zero, wrl_0, wrl_1, wrl_2, wrl_3, wrl_4, wrl_5, wrl_p0, wrl_p1, wrl_p2, wrl_p3, wrl_p4, tcp_0]
  rw [tc_weigh hN hB]
  simp only [s_101_0, s_101_1, s_101_4, s_101_5, s_101_8, s_101_9, s_101_10, s_101_11, s_101_15, s_101_16, s_101_19, s_101_22, s_101_23, s_101_25, s_101_26, s_101_27, s_101_28, s_101_29, s_101_32, s_101_33, s_101_36, s_101_38, s_101_39, s_101_41, s_101_42, s_101_45, s_101_47, s_101_49, s_101_50, s_101_51, s_101_53, s_101_56, s_101_57, s_101_60, s_101_61, s_101_62, s_101_63, s_101_66, s_101_68, s_101_69, s_101_71, s_101_74, s_101_75, s_101_78, s_101_79, s_101_80, s_101_81, s_101_84, s_101_87, s_101_88, s_101_89, s_101_92, s_101_93, s_101_94, s_101_97, s_101_98, x_get_i, List.getElem?_cons_succ, List.getElem?_cons_zero, x_cv_j, cs_n, cs_i, cs_r, cs_l, Nat.reduceAdd, Nat.reduceLeDiff, true_and, Option.toList_some, Option.toList_none, List.cons_append, List.nil_append, if_true, if_false, nb0, nb1, x_setJ, x_setZ0, x_setZ1, x_setA, x_setO, List.length_cons, List.length_nil, Nat.reduceLT, List.set_cons_succ, List.set_cons_zero, wrl_0, wrl_1, wrl_2, wrl_3, wrl_4, wrl_5, wrl_p0, wrl_p1, wrl_p2, wrl_p3, wrl_p4, tcp_0]
  have loop : ∀ j i h1 (x5 : Value), i + j = n → rsm r h h1 → RU h1 r V hn → tm_X (g_G sa sc xt) (d + 2) 101 13 [.ref k, .ref r, .int mem, .int (bI (nC V L W M β n g mem i)), .int (nI i), x5] [] (tcp h1 k L W (nM V L W M β n g mem i) (tc_dB s L W B n) (nI n) 0 g (wA a M β n) (wA b (fun _ => 1) β n)) Q := by
    intro j
    induction j with
    | zero =>
      intro i h1 x5 hi q1 q2
      have hi : i = n := by omega
      subst hi
      rw [s_101_13]
      simp only [s_101_0, s_101_1, s_101_4, s_101_5, s_101_8, s_101_9, s_101_10, s_101_11, s_101_15, s_101_16, s_101_19, s_101_22, s_101_23, s_101_25, s_101_26, s_101_27, s_101_28, s_101_29, s_101_32, s_101_33, s_101_36, s_101_38, s_101_39, s_101_41, s_101_42, s_101_45, s_101_47, s_101_49, s_101_50, s_101_51, s_101_53, s_101_56, s_101_57, s_101_60, s_101_61, s_101_62, s_101_63, s_101_66, s_101_68, s_101_69, s_101_71, s_101_74, s_101_75, s_101_78, s_101_79, s_101_80, s_101_81, s_101_84, s_101_87, s_101_88, s_101_89, s_101_92, s_101_93, s_101_94, s_101_97, s_101_98, x_get_i, List.getElem?_cons_succ, List.getElem?_cons_zero, x_cv_j, cs_n, cs_i, cs_r, cs_l, Nat.reduceAdd, Nat.reduceLeDiff, true_and, Option.toList_some, Option.toList_none, List.cons_append, List.nil_append, if_true, if_false, nb0, nb1, x_setJ, x_setZ0, x_setZ1, x_setA, x_setO, List.length_cons, List.length_nil, Nat.reduceLT, List.set_cons_succ, List.set_cons_zero, wrl_0, wrl_1, wrl_2, wrl_3, wrl_4, wrl_5, wrl_p0, wrl_p1, wrl_p2, wrl_p3, wrl_p4, tcp_0, Int32.le_refl, tcp_p0, bI_n]
      exact hQ h1 _ _ q1 q2
    | succ j ih =>
      intro i h1 x5 hi q1 q2
      have hin : i < n := by omega
      have c1 : ¬ nI n ≤ nI i := nI_ge hin (by omega)
      have c2 : i < 12 := by omega
      have es : nM V L W M β n g mem (i + 1) = if (mem >>> (nI i &&& 31)) &&& 1 = 1 then upd (nM V L W M β n g mem i) i (nE V L W M β n g i) else nM V L W M β n g mem i := rfl
      have ec : nC V L W M β n g mem (i + 1) = if (mem >>> (nI i &&& 31)) &&& 1 = 1 then (nC V L W M β n g mem i || !decide (nE V L W M β n g i = M i)) else nC V L W M β n g mem i := rfl
      have hm : nM V L W M β n g mem i i = M i := nM_ge (Nat.le_refl _)
      rw [s_101_13]
      simp only [s_101_0, s_101_1, s_101_4, s_101_5, s_101_8, s_101_9, s_101_10, s_101_11, s_101_15, s_101_16, s_101_19, s_101_22, s_101_23, s_101_25, s_101_26, s_101_27, s_101_28, s_101_29, s_101_32, s_101_33, s_101_36, s_101_38, s_101_39, s_101_41, s_101_42, s_101_45, s_101_47, s_101_49, s_101_50, s_101_51, s_101_53, s_101_56, s_101_57, s_101_60, s_101_61, s_101_62, s_101_63, s_101_66, s_101_68, s_101_69, s_101_71, s_101_74, s_101_75, s_101_78, s_101_79, s_101_80, s_101_81, s_101_84, s_101_87, s_101_88, s_101_89, s_101_92, s_101_93, s_101_94, s_101_97, s_101_98, x_get_i, List.getElem?_cons_succ, List.getElem?_cons_zero, x_cv_j, cs_n, cs_i, cs_r, cs_l, Nat.reduceAdd, Nat.reduceLeDiff, true_and, Option.toList_some, Option.toList_none, List.cons_append, List.nil_append, if_true, if_false, nb0, nb1, x_setJ, x_setZ0, x_setZ1, x_setA, x_setO, List.length_cons, List.length_nil, Nat.reduceLT, List.set_cons_succ, List.set_cons_zero, wrl_0, wrl_1, wrl_2, wrl_3, wrl_4, wrl_5, wrl_p0, wrl_p1, wrl_p2, wrl_p3, wrl_p4, tcp_0, tcp_3, c1, x_ild_n c2 n12]
      by_cases hb : (mem >>> (nI i &&& 31)) &&& 1 = 1
      · simp only [hb, if_true]
        rw [hb] at es ec
        simp only [if_true] at es ec
        refine tc_turn hN hin (hB i hin) ((RU_tcp hd).mpr q2) hV hd (fun h2 q3 q4 => ?_)
        have q4 : RU h2 r V hn := (RU_tcp hd).mp q4
        have hv : tc_env L W (nM V L W M β n g mem i) β (wA a M β n) (wA b (fun _ => 1) β n) g i = tc_env L W M β (fun x => bs M β x n) (fun x => bs (fun _ => 1) β x n) g i := by
          unfold tc_env
          rw [hm]
          unfold wA
          rw [if_pos (hB i hin).2, if_pos (hB i hin).2]
        rw [hv]
        simp only [s_101_0, s_101_1, s_101_4, s_101_5, s_101_8, s_101_9, s_101_10, s_101_11, s_101_15, s_101_16, s_101_19, s_101_22, s_101_23, s_101_25, s_101_26, s_101_27, s_101_28, s_101_29, s_101_32, s_101_33, s_101_36, s_101_38, s_101_39, s_101_41, s_101_42, s_101_45, s_101_47, s_101_49, s_101_50, s_101_51, s_101_53, s_101_56, s_101_57, s_101_60, s_101_61, s_101_62, s_101_63, s_101_66, s_101_68, s_101_69, s_101_71, s_101_74, s_101_75, s_101_78, s_101_79, s_101_80, s_101_81, s_101_84, s_101_87, s_101_88, s_101_89, s_101_92, s_101_93, s_101_94, s_101_97, s_101_98, x_get_i, List.getElem?_cons_succ, List.getElem?_cons_zero, x_cv_j, cs_n, cs_i, cs_r, cs_l, Nat.reduceAdd, Nat.reduceLeDiff, true_and, Option.toList_some, Option.toList_none, List.cons_append, List.nil_append, if_true, if_false, nb0, nb1, x_setJ, x_setZ0, x_setZ1, x_setA, x_setO, List.length_cons, List.length_nil, Nat.reduceLT, List.set_cons_succ, List.set_cons_zero, wrl_0, wrl_1, wrl_2, wrl_3, wrl_4, wrl_5, wrl_p0, wrl_p1, wrl_p2, wrl_p3, wrl_p4, tcp_0, tcp_3, tcp_p3, m_putToMood, hm, x_ist_n c2 n12, x_ild_n c2 n12]
        have hu : upd (nM V L W M β n g mem i) i (pm (M i + pm (V (tc_env L W M β (fun x => bs M β x n) (fun x => bs (fun _ => 1) β x n) g i)))) = nM V L W M β n g mem (i + 1) := es.symm
        rw [hu]
        have hm2 : nM V L W M β n g mem (i + 1) i = nE V L W M β n g i := by rw [es]; unfold upd; rw [if_pos rfl]
        rw [hm2]
        have ih' := ih (i + 1) h2 (.int (M i)) (by omega) (q1.trans q3) q4
        rw [ec] at ih'
        by_cases he : nE V L W M β n g i = M i
        · simp only [he, if_true, nI_1]
          rw [show bI (nC V L W M β n g mem i) ||| 0 = bI (nC V L W M β n g mem i || !decide (nE V L W M β n g i = M i)) by
            rw [← bI_or, decide_eq_true he]; rfl]
          exact ih'
        · simp only [he, if_false, nI_1]
          rw [show bI (nC V L W M β n g mem i) ||| 1 = bI (nC V L W M β n g mem i || !decide (nE V L W M β n g i = M i)) by
            rw [← bI_or, decide_eq_false he]; rfl]
          exact ih'
      · simp only [hb, if_false, nI_1]
        simp only [hb, if_false] at es ec
        have ih' := ih (i + 1) h1 x5 (by omega) q1 q2
        rw [es, ec] at ih'
        exact ih'
  exact loop n 0 h tm_z (by omega) rsm.rfl hR
end
