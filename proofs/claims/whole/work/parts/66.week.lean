/-! calls of the class: week, its reading -/
/-- which shape an act has -/
def shp (x : Int32) : Nat := if x = 67 then 5 else if x = 70 then 5 else if x = 77 then 4 else if x = 78 then 2 else if x = 83 then 3 else 6
theorem shp_7 {x : Int32} : shp x < 7 := by
  unfold shp
  repeat' split
  all_goals omega
/-- letters of an act at a, from p on -/
def bhl (F : Nat → Int32) (a e : Nat) : Nat → Nat → Nat ⊕ Nat
  | 0, p => .inr p
  | j + 1, p => if e ≤ p then .inr p else if txs 108 (F p) = 0 then .inr p else if p = a + 15 then .inl p else bhl F a e j (p + 1)
/-- an act at a: the place of the fault, or the place behind -/
def bha (F : Nat → Int32) (e a : Nat) : Nat ⊕ Nat := if shp (F a) = 6 then .inl a else match mfn F e (g_sb (shp (F a))) (a + 1) with
  | some q => .inl q
  | none => if F a = 83 then bhl F a e (e - (a + 4) + 1) (a + 4) else .inr (a + 1 + (g_sb (shp (F a))).length)
def sI : Nat ⊕ Nat → Int32
  | .inl p => -1 - nI p
  | .inr q => nI q
def fwk (F : Nat → Int32) (c e : Nat) : Nat → Nat → Option Nat
  | 0, _ => if e < c then some e else none
  | j + 1, a => if e ≤ a then (if e < c then some e else none) else match bha F e a with
    | .inl p => some p
    | .inr q => fwk F c e j q
theorem bhl_le {F : Nat → Int32} {a e : Nat} : ∀ {j p : Nat}, p ≤ e → (∀ q, bhl F a e j p = .inl q → q ≤ e) ∧ ∀ q, bhl F a e j p = .inr q → p ≤ q ∧ q ≤ e
  | 0, p, h => ⟨fun q e => (by cases e), fun q e => (by cases e; exact ⟨Nat.le_refl _, h⟩)⟩
  | j + 1, p, h => by
    unfold bhl
    by_cases c1 : e ≤ p
    · rw [if_pos c1]
      exact ⟨fun q e => (by cases e), fun q e => (by cases e; exact ⟨Nat.le_refl _, h⟩)⟩
    rw [if_neg c1]
    by_cases c2 : txs 108 (F p) = 0
    · rw [if_pos c2]
      exact ⟨fun q e => (by cases e), fun q e => (by cases e; exact ⟨Nat.le_refl _, h⟩)⟩
    rw [if_neg c2]
    by_cases c3 : p = a + 15
    · rw [if_pos c3]
      exact ⟨fun q e => (by cases e; omega), fun q e => (by cases e)⟩
    rw [if_neg c3]
    obtain ⟨h1, h2⟩ := bhl_le (F := F) (a := a) (e := e) (j := j) (p := p + 1) (by omega)
    exact ⟨h1, fun q e => by have := h2 q e; omega⟩
theorem mfn_none {F : Nat → Int32} {e : Nat} : ∀ {l : List Int32} {p : Nat}, mfn F e l p = none → p ≤ e → p + l.length ≤ e
  | [], p, _, h => h
  | k :: r, p, h, hp => by
    unfold mfn at h
    split at h
    · cases h
    · split at h
      · cases h
      · have := mfn_none h (by omega)
        simp only [List.length_cons]
        omega
theorem gsb_4 {j : Nat} (hj : j < 7) : (g_sb j).length ≤ 7 := by
  have : ∀ j : Fin 7, (g_sb j.1).length ≤ 7 := by decide
  exact this ⟨j, hj⟩
theorem bha_le {F : Nat → Int32} {e a : Nat} (ha : a < e) : (∀ p, bha F e a = .inl p → p ≤ e + 7) ∧ ∀ q, bha F e a = .inr q → a < q ∧ q ≤ e := by
  unfold bha
  by_cases c0 : shp (F a) = 6
  · rw [if_pos c0]
    exact ⟨fun q e => (by cases e; omega), fun q e => (by cases e)⟩
  rw [if_neg c0]
  have hg := gsb_4 (shp_7 (x := F a))
  cases hm : mfn F e (g_sb (shp (F a))) (a + 1) with
  | some q0 =>
    have := mfn_lt hm
    exact ⟨fun q e => (by cases e; omega), fun q e => (by cases e)⟩
  | none =>
    have hl := mfn_none hm (by omega)
    dsimp only
    by_cases c1 : F a = 83
    · rw [if_pos c1]
      have h3 : (g_sb (shp (F a))).length = 3 := by rw [c1]; decide
      rw [h3] at hl
      obtain ⟨h1, h2⟩ := bhl_le (F := F) (a := a) (e := e) (j := e - (a + 4) + 1) (p := a + 4) (by omega)
      exact ⟨fun q e => by have := h1 q e; omega, fun q e => by have := h2 q e; omega⟩
    · rw [if_neg c1]
      exact ⟨fun q e => (by cases e), fun q e => (by cases e; omega)⟩
section
variable {sa : g_SA} {sc : Nat × Nat × (Nat → Int32)} {xt : Nat → Nat → List Value → tm_H → Option (Option Value × tm_H)} {d b : Nat} {h : tm_H} {Q : Option Value → tm_H → Prop}
variable {tx : Nat × (Nat → Int32)} {rw : Nat × (Nat → Int64)} {nw : TN} {pa : Nat × Nat × (Nat → TN) × (Nat → TN) × (Nat → Int32)} {ru : Nat × Nat × List Int32} {he : Nat × (Nat → Int32)} {mi : Nat × (Nat → Int32) × (Nat → Int32) × (Nat → Int32)} {ga : Nat}
variable {c n m : Nat} {F L W M B H Ms Bs Os : Nat → Int32} {s g : Int32} {rc hc mc : Nat} {R : Nat → Int64} {r1 r2 : Nat} {cd0 : List Int32}
theorem c_shape (x : Int32) : tm_D (g_G sa sc xt) d 166 [.int x] h Q ↔ Q (some (.ref (sa.1 (shp x)))) h := by
  rw [e_166]
  simp only [s_166_0, s_166_1, s_166_52, s_166_55, s_166_56, s_166_59, s_166_60, s_166_63, s_166_64, s_166_67, s_166_68, s_166_71, x_get_i, List.getElem?_cons_succ, List.getElem?_cons_zero, x_cv_j, cs_n, cs_i, cs_r, cs_l, Nat.reduceAdd, Nat.reduceLeDiff, true_and, Option.toList_some, Option.toList_none, List.cons_append, List.nil_append, if_true, if_false, nb0, nb1, x_setJ, x_setZ0, x_setZ1, x_setA, x_setO, List.length_cons, List.length_nil, Nat.reduceLT, List.set_cons_succ, List.set_cons_zero, wrl_0, wrl_1, wrl_2, wrl_3, wrl_4, wrl_5, wrl_p0, wrl_p1, wrl_p2, wrl_p3, wrl_p4]
  unfold shp
  by_cases a1 : x = 67
  · simp only [a1, if_true]
  by_cases a2 : x = 70
  · subst a2
    simp only [show ¬ (70 : Int32) = 67 by decide, if_true, if_false]
  by_cases a3 : x = 77
  · subst a3
    simp only [show ¬ (77 : Int32) = 67 by decide, show ¬ (77 : Int32) = 70 by decide, if_true, if_false]
  by_cases a4 : x = 78
  · subst a4
    simp only [show ¬ (78 : Int32) = 67 by decide, show ¬ (78 : Int32) = 70 by decide, show ¬ (78 : Int32) = 77 by decide, if_true, if_false]
  by_cases a5 : x = 83
  · subst a5
    simp only [show ¬ (83 : Int32) = 67 by decide, show ¬ (83 : Int32) = 70 by decide, show ¬ (83 : Int32) = 77 by decide, show ¬ (83 : Int32) = 78 by decide, if_true, if_false]
  simp only [a1, a2, a3, a4, a5, if_false]
theorem gsb_0 {j : Nat} (hj : j < 7) (h2 : 2 ≤ j) : (nI (g_sb j).length = 0 ↔ j = 6) := by
  have : ∀ j : Fin 7, 2 ≤ j.1 → (nI (g_sb j.1).length = 0 ↔ j.1 = 6) := by decide
  exact this ⟨j, hj⟩ h2
theorem shp_2 {x : Int32} : 2 ≤ shp x := by
  unfold shp
  repeat' split
  all_goals omega
theorem c_behind {e a : Nat} (hW : CW sa h b (c, F) rw nw pa ru he mi ga) (hec : e ≤ c) (hae : a < e) : tm_D (g_G sa sc xt) (d + 5) 165 [.ref b, .int (nI a), .int (nI e)] h Q ↔ Q (some (.int (sI (bha F e a)))) h := by
  obtain ⟨w_o, w_t, w_r, w_n, w_h, w_l, w_b, w_p, w_u, w_v, w_a, w_e, w_w, w_x, w_q, w_m, w_g, w_d, w_s⟩ := id hW
  have o_0 := hW.1
  have a_0 : h.2.2 (b + 1) = .inr (8, _) := hW.2.1.1.1
  have c_0 : h.2.2 (b + 3) = .inr (5, _) := cel_0 hW.2.2.1.1
  have n_0 : h.2.2 (b + 5) = .inr (9, _) := hW.2.2.2.1.1.1
  have p_0 : h.2.2 (b + 33) = .inr (6, _) := hW.2.2.2.2.2.2.2.1.1.1
  have q_0 : h.2.2 (b + 152) = .inr (2, _) := cel_0 hW.2.2.2.2.2.2.2.2.2.2.2.2.2.2.1.1
  obtain ⟨_, mm_0⟩ := hW.2.2.2.2.2.2.2.2.2.2.2.2.2.2.2.1.1
  have m_0 : h.2.2 (b + 154) = .inr (4, _) := cel_0 mm_0
  have g_0 : h.2.2 (b + 159) = .inr (1, _) := cel_0 hW.2.2.2.2.2.2.2.2.2.2.2.2.2.2.2.2.1.1
  have hc80 : c ≤ 80 := w_t.2.1
  have hx : tx_in h (b + 1) c F := w_t.1
  have s7 := shp_7 (x := F a)
  have s2 := shp_2 (x := F a)
  obtain ⟨⟨xs, hxs⟩, -⟩ := w_s.1 (shp (F a)) (by omega)
  have e1 : nI a + 1 = nI (a + 1) := nI_add a 1
  rw [e_165]
  simp only [s_165_0, s_165_1, s_165_4, s_165_5, s_165_8, s_165_11, s_165_12, s_165_13, s_165_16, s_165_19, s_165_20, s_165_21, s_165_22, s_165_23, s_165_24, s_165_27, s_165_28, s_165_29, s_165_30, s_165_31, s_165_32, s_165_35, s_165_37, s_165_39, s_165_40, s_165_43, s_165_44, s_165_46, s_165_47, s_165_48, s_165_49, s_165_50, s_165_51, s_165_52, s_165_55, s_165_56, s_165_58, s_165_59, s_165_62, s_165_63, s_165_66, s_165_68, s_165_71, s_165_73, s_165_74, s_165_75, s_165_76, s_165_77, s_165_79, s_165_80, s_165_82, s_165_84, s_165_88, s_165_89, s_165_92, s_165_94, s_165_95, s_165_98, s_165_100, s_165_103, s_165_106, s_165_109, s_165_111, s_165_113, s_165_116, s_165_117, s_165_119, s_165_120, s_165_121, s_165_123, s_165_124, s_165_125, s_165_127, s_165_130, s_165_133, s_165_135, x_get_i, List.getElem?_cons_succ, List.getElem?_cons_zero, x_cv_j, cs_n, cs_i, cs_r, cs_l, Nat.reduceAdd, Nat.reduceLeDiff, true_and, Option.toList_some, Option.toList_none, List.cons_append, List.nil_append, if_true, if_false, nb0, nb1, x_setJ, x_setZ0, x_setZ1, x_setA, x_setO, List.length_cons, List.length_nil, Nat.reduceLT, List.set_cons_succ, List.set_cons_zero, wrl_0, wrl_1, wrl_2, wrl_3, wrl_4, wrl_5, wrl_p0, wrl_p1, wrl_p2, wrl_p3, wrl_p4, o_0, a_0, c_0, n_0, p_0, q_0, m_0, g_0, tx_at' hx hc80, txa_n (show a < c by omega) hc80, c_shape, hxs, x_cs_i, and_self, show shp (F a) < 13 by omega, st_isEmpty w_s.1 (show shp (F a) < 13 by omega), gsb_0 s7 s2]
  unfold bha
  by_cases k0 : shp (F a) = 6
  · simp only [k0, if_true, show ¬ (1 : Int32) = 0 by decide, if_false, s_165_0, s_165_1, s_165_4, s_165_5, s_165_8, s_165_11, s_165_12, s_165_13, s_165_16, s_165_19, s_165_20, s_165_21, s_165_22, s_165_23, s_165_24, s_165_27, s_165_28, s_165_29, s_165_30, s_165_31, s_165_32, s_165_35, s_165_37, s_165_39, s_165_40, s_165_43, s_165_44, s_165_46, s_165_47, s_165_48, s_165_49, s_165_50, s_165_51, s_165_52, s_165_55, s_165_56, s_165_58, s_165_59, s_165_62, s_165_63, s_165_66, s_165_68, s_165_71, s_165_73, s_165_74, s_165_75, s_165_76, s_165_77, s_165_79, s_165_80, s_165_82, s_165_84, s_165_88, s_165_89, s_165_92, s_165_94, s_165_95, s_165_98, s_165_100, s_165_103, s_165_106, s_165_109, s_165_111, s_165_113, s_165_116, s_165_117, s_165_119, s_165_120, s_165_121, s_165_123, s_165_124, s_165_125, s_165_127, s_165_130, s_165_133, s_165_135, x_get_i, List.getElem?_cons_succ, List.getElem?_cons_zero, x_cv_j, cs_n, cs_i, cs_r, cs_l, Nat.reduceAdd, Nat.reduceLeDiff, true_and, Option.toList_some, Option.toList_none, List.cons_append, List.nil_append, if_true, if_false, nb0, nb1, x_setJ, x_setZ0, x_setZ1, x_setA, x_setO, List.length_cons, List.length_nil, Nat.reduceLT, List.set_cons_succ, List.set_cons_zero, wrl_0, wrl_1, wrl_2, wrl_3, wrl_4, wrl_5, wrl_p0, wrl_p1, wrl_p2, wrl_p3, wrl_p4]
    exact Iff.rfl
  · simp only [k0, if_false, if_true, s_165_0, s_165_1, s_165_4, s_165_5, s_165_8, s_165_11, s_165_12, s_165_13, s_165_16, s_165_19, s_165_20, s_165_21, s_165_22, s_165_23, s_165_24, s_165_27, s_165_28, s_165_29, s_165_30, s_165_31, s_165_32, s_165_35, s_165_37, s_165_39, s_165_40, s_165_43, s_165_44, s_165_46, s_165_47, s_165_48, s_165_49, s_165_50, s_165_51, s_165_52, s_165_55, s_165_56, s_165_58, s_165_59, s_165_62, s_165_63, s_165_66, s_165_68, s_165_71, s_165_73, s_165_74, s_165_75, s_165_76, s_165_77, s_165_79, s_165_80, s_165_82, s_165_84, s_165_88, s_165_89, s_165_92, s_165_94, s_165_95, s_165_98, s_165_100, s_165_103, s_165_106, s_165_109, s_165_111, s_165_113, s_165_116, s_165_117, s_165_119, s_165_120, s_165_121, s_165_123, s_165_124, s_165_125, s_165_127, s_165_130, s_165_133, s_165_135, x_get_i, List.getElem?_cons_succ, List.getElem?_cons_zero, x_cv_j, cs_n, cs_i, cs_r, cs_l, Nat.reduceAdd, Nat.reduceLeDiff, true_and, Option.toList_some, Option.toList_none, List.cons_append, List.nil_append, if_true, if_false, nb0, nb1, x_setJ, x_setZ0, x_setZ1, x_setA, x_setO, List.length_cons, List.length_nil, Nat.reduceLT, List.set_cons_succ, List.set_cons_zero, wrl_0, wrl_1, wrl_2, wrl_3, wrl_4, wrl_5, wrl_p0, wrl_p1, wrl_p2, wrl_p3, wrl_p4, o_0, a_0, c_0, n_0, p_0, q_0, m_0, g_0, e1]
    rw [tx_misfit hx hc80 w_s.1 (by omega), mfit_n hc80 hec (by have := gsb_4 s7; omega)]
    cases hm : mfn F e (g_sb (shp (F a))) (a + 1) with
    | some q =>
      have hq := mfn_lt hm
      have hg := gsb_4 s7
      simp only [s_165_0, s_165_1, s_165_4, s_165_5, s_165_8, s_165_11, s_165_12, s_165_13, s_165_16, s_165_19, s_165_20, s_165_21, s_165_22, s_165_23, s_165_24, s_165_27, s_165_28, s_165_29, s_165_30, s_165_31, s_165_32, s_165_35, s_165_37, s_165_39, s_165_40, s_165_43, s_165_44, s_165_46, s_165_47, s_165_48, s_165_49, s_165_50, s_165_51, s_165_52, s_165_55, s_165_56, s_165_58, s_165_59, s_165_62, s_165_63, s_165_66, s_165_68, s_165_71, s_165_73, s_165_74, s_165_75, s_165_76, s_165_77, s_165_79, s_165_80, s_165_82, s_165_84, s_165_88, s_165_89, s_165_92, s_165_94, s_165_95, s_165_98, s_165_100, s_165_103, s_165_106, s_165_109, s_165_111, s_165_113, s_165_116, s_165_117, s_165_119, s_165_120, s_165_121, s_165_123, s_165_124, s_165_125, s_165_127, s_165_130, s_165_133, s_165_135, x_get_i, List.getElem?_cons_succ, List.getElem?_cons_zero, x_cv_j, cs_n, cs_i, cs_r, cs_l, Nat.reduceAdd, Nat.reduceLeDiff, true_and, Option.toList_some, Option.toList_none, List.cons_append, List.nil_append, if_true, if_false, nb0, nb1, x_setJ, x_setZ0, x_setZ1, x_setA, x_setO, List.length_cons, List.length_nil, Nat.reduceLT, List.set_cons_succ, List.set_cons_zero, wrl_0, wrl_1, wrl_2, wrl_3, wrl_4, wrl_5, wrl_p0, wrl_p1, wrl_p2, wrl_p3, wrl_p4, oI, oI_ne (show q < 2 ^ 31 by omega)]
      exact Iff.rfl
    | none =>
      simp only [s_165_0, s_165_1, s_165_4, s_165_5, s_165_8, s_165_11, s_165_12, s_165_13, s_165_16, s_165_19, s_165_20, s_165_21, s_165_22, s_165_23, s_165_24, s_165_27, s_165_28, s_165_29, s_165_30, s_165_31, s_165_32, s_165_35, s_165_37, s_165_39, s_165_40, s_165_43, s_165_44, s_165_46, s_165_47, s_165_48, s_165_49, s_165_50, s_165_51, s_165_52, s_165_55, s_165_56, s_165_58, s_165_59, s_165_62, s_165_63, s_165_66, s_165_68, s_165_71, s_165_73, s_165_74, s_165_75, s_165_76, s_165_77, s_165_79, s_165_80, s_165_82, s_165_84, s_165_88, s_165_89, s_165_92, s_165_94, s_165_95, s_165_98, s_165_100, s_165_103, s_165_106, s_165_109, s_165_111, s_165_113, s_165_116, s_165_117, s_165_119, s_165_120, s_165_121, s_165_123, s_165_124, s_165_125, s_165_127, s_165_130, s_165_133, s_165_135, x_get_i, List.getElem?_cons_succ, List.getElem?_cons_zero, x_cv_j, cs_n, cs_i, cs_r, cs_l, Nat.reduceAdd, Nat.reduceLeDiff, true_and, Option.toList_some, Option.toList_none, List.cons_append, List.nil_append, if_true, if_false, nb0, nb1, x_setJ, x_setZ0, x_setZ1, x_setA, x_setO, List.length_cons, List.length_nil, Nat.reduceLT, List.set_cons_succ, List.set_cons_zero, wrl_0, wrl_1, wrl_2, wrl_3, wrl_4, wrl_5, wrl_p0, wrl_p1, wrl_p2, wrl_p3, wrl_p4, oI, o_0, a_0, c_0, n_0, p_0, q_0, m_0, g_0, hxs, x_cs_i, and_self, show shp (F a) < 13 by omega, st_length w_s.1 (show shp (F a) < 13 by omega), tx_at' hx hc80, txa_n (show a < c by omega) hc80, e1, nI_add]
      by_cases k1 : F a = 83
      · have h3 : (g_sb (shp (F a))).length = 3 := by rw [k1]; decide
        have hl := mfn_none hm (by omega)
        rw [h3] at hl
        have e15 : nI a + 3 + 12 = nI (a + 15) := by rw [show (3 : Int32) = nI 3 from rfl, show (12 : Int32) = nI 12 from rfl, nI_add, nI_add]
        simp only [k1, if_true, e15]
        have loop : ∀ (j p : Nat) (x4 : Int32), e < p + j → p ≤ e → (tm_X (g_G sa sc xt) (d + 5) 165 86 [.ref b, .int (nI a), .int (nI e), .ref (sa.1 (shp 83)), .int x4, .int (nI p), .int (nI (a + 15)), .int (nI p)] [] h Q ↔ Q (some (.int (sI (bhl F a e j p)))) h) := by
          intro j
          induction j with
          | zero => intro p x4 h1 h2; omega
          | succ j ih =>
            intro p x4 h1 h2
            rw [s_165_86]
            unfold bhl
            by_cases j1 : e ≤ p
            · simp only [s_165_0, s_165_1, s_165_4, s_165_5, s_165_8, s_165_11, s_165_12, s_165_13, s_165_16, s_165_19, s_165_20, s_165_21, s_165_22, s_165_23, s_165_24, s_165_27, s_165_28, s_165_29, s_165_30, s_165_31, s_165_32, s_165_35, s_165_37, s_165_39, s_165_40, s_165_43, s_165_44, s_165_46, s_165_47, s_165_48, s_165_49, s_165_50, s_165_51, s_165_52, s_165_55, s_165_56, s_165_58, s_165_59, s_165_62, s_165_63, s_165_66, s_165_68, s_165_71, s_165_73, s_165_74, s_165_75, s_165_76, s_165_77, s_165_79, s_165_80, s_165_82, s_165_84, s_165_88, s_165_89, s_165_92, s_165_94, s_165_95, s_165_98, s_165_100, s_165_103, s_165_106, s_165_109, s_165_111, s_165_113, s_165_116, s_165_117, s_165_119, s_165_120, s_165_121, s_165_123, s_165_124, s_165_125, s_165_127, s_165_130, s_165_133, s_165_135, x_get_i, List.getElem?_cons_succ, List.getElem?_cons_zero, x_cv_j, cs_n, cs_i, cs_r, cs_l, Nat.reduceAdd, Nat.reduceLeDiff, true_and, Option.toList_some, Option.toList_none, List.cons_append, List.nil_append, if_true, if_false, nb0, nb1, x_setJ, x_setZ0, x_setZ1, x_setA, x_setO, List.length_cons, List.length_nil, Nat.reduceLT, List.set_cons_succ, List.set_cons_zero, wrl_0, wrl_1, wrl_2, wrl_3, wrl_4, wrl_5, wrl_p0, wrl_p1, wrl_p2, wrl_p3, wrl_p4, show nI e ≤ nI p from nI_le j1 (by omega), j1]
              exact Iff.rfl
            · simp only [s_165_0, s_165_1, s_165_4, s_165_5, s_165_8, s_165_11, s_165_12, s_165_13, s_165_16, s_165_19, s_165_20, s_165_21, s_165_22, s_165_23, s_165_24, s_165_27, s_165_28, s_165_29, s_165_30, s_165_31, s_165_32, s_165_35, s_165_37, s_165_39, s_165_40, s_165_43, s_165_44, s_165_46, s_165_47, s_165_48, s_165_49, s_165_50, s_165_51, s_165_52, s_165_55, s_165_56, s_165_58, s_165_59, s_165_62, s_165_63, s_165_66, s_165_68, s_165_71, s_165_73, s_165_74, s_165_75, s_165_76, s_165_77, s_165_79, s_165_80, s_165_82, s_165_84, s_165_88, s_165_89, s_165_92, s_165_94, s_165_95, s_165_98, s_165_100, s_165_103, s_165_106, s_165_109, s_165_111, s_165_113, s_165_116, s_165_117, s_165_119, s_165_120, s_165_121, s_165_123, s_165_124, s_165_125, s_165_127, s_165_130, s_165_133, s_165_135, x_get_i, List.getElem?_cons_succ, List.getElem?_cons_zero, x_cv_j, cs_n, cs_i, cs_r, cs_l, Nat.reduceAdd, Nat.reduceLeDiff, true_and, Option.toList_some, Option.toList_none, List.cons_append, List.nil_append, if_true, if_false, nb0, nb1, x_setJ, x_setZ0, x_setZ1, x_setA, x_setO, List.length_cons, List.length_nil, Nat.reduceLT, List.set_cons_succ, List.set_cons_zero, wrl_0, wrl_1, wrl_2, wrl_3, wrl_4, wrl_5, wrl_p0, wrl_p1, wrl_p2, wrl_p3, wrl_p4, show ¬ nI e ≤ nI p from nI_ge (by omega) (by omega), j1, o_0, a_0, c_0, n_0, p_0, q_0, m_0, g_0, tx_at' hx hc80, txa_n (show p < c by omega) hc80, m_stands, nI_1]
              by_cases j2 : txs 108 (F p) = 0
              · simp only [j2, if_true]
                exact Iff.rfl
              · simp only [j2, if_false]
                by_cases j3 : p = a + 15
                · simp only [j3, if_true]
                  exact Iff.rfl
                · simp only [show ¬ nI p = nI (a + 15) from fun q => j3 ((nI_eq (by omega) (by omega)).mp q), j3, if_false]
                  exact ih (p + 1) _ (by omega) (by omega)
        have hz := loop (e - (a + 4) + 1) (a + 4) (-1) (by omega) (by omega)
        rw [show (g_sb (shp 83)).length = 3 by decide]
        exact hz
      · simp only [k1, if_false]
        exact Iff.rfl
theorem c_faultW (hW : CW sa h b (c, F) rw nw pa ru he mi ga) : tm_D (g_G sa sc xt) (d + 6) 164 [.ref b] h Q ↔ Q (some (.int (oI (fwk F c (min c 60) 60 0)))) h := by
  obtain ⟨w_o, w_t, w_r, w_n, w_h, w_l, w_b, w_p, w_u, w_v, w_a, w_e, w_w, w_x, w_q, w_m, w_g, w_d, w_s⟩ := id hW
  have o_0 := hW.1
  have a_0 : h.2.2 (b + 1) = .inr (8, _) := hW.2.1.1.1
  have c_0 : h.2.2 (b + 3) = .inr (5, _) := cel_0 hW.2.2.1.1
  have n_0 : h.2.2 (b + 5) = .inr (9, _) := hW.2.2.2.1.1.1
  have p_0 : h.2.2 (b + 33) = .inr (6, _) := hW.2.2.2.2.2.2.2.1.1.1
  have q_0 : h.2.2 (b + 152) = .inr (2, _) := cel_0 hW.2.2.2.2.2.2.2.2.2.2.2.2.2.2.1.1
  obtain ⟨_, mm_0⟩ := hW.2.2.2.2.2.2.2.2.2.2.2.2.2.2.2.1.1
  have m_0 : h.2.2 (b + 154) = .inr (4, _) := cel_0 mm_0
  have g_0 : h.2.2 (b + 159) = .inr (1, _) := cel_0 hW.2.2.2.2.2.2.2.2.2.2.2.2.2.2.2.2.1.1
  have hc80 : c ≤ 80 := w_t.2.1
  have hx : tx_in h (b + 1) c F := w_t.1
  have em : (if (60 : Int32) < nI c then (60 : Int32) else nI c) = nI (min c 60) := by
    by_cases h1 : 60 < c
    · rw [if_pos (show (60 : Int32) < nI c from nI_lt (a := 60) h1 (by omega)), show min c 60 = 60 by omega]; rfl
    · rw [if_neg (show ¬ (60 : Int32) < nI c from nI_nlt (a := 60) (by omega) (by decide)), show min c 60 = c by omega]
  have hec : min c 60 ≤ c := by omega
  have he60 : min c 60 ≤ 60 := by omega
  have loop : ∀ (j a : Nat) (x4 : Value), j ≤ 60 → a ≤ min c 60 → (tm_X (g_G sa sc xt) (d + 6) 164 17 [.ref b, .int (nI (min c 60)), .int (nI a), .int (nI (60 - j)), x4] [] h Q ↔ Q (some (.int (oI (fwk F c (min c 60) j a)))) h) := by
    generalize min c 60 = e at hec he60
    have fin : Q (some (.int (oI (if e < c then some e else none)))) h ↔ if nI c ≤ nI e then Q (some (.int (-1))) h else Q (some (.int (nI e))) h := by
      by_cases k2 : e < c
      · simp only [k2, show ¬ nI c ≤ nI e from nI_ge k2 (by omega), if_true, if_false, oI]
      · simp only [k2, show nI c ≤ nI e from nI_le (by omega) (by omega), if_true, if_false, oI]
    intro j
    induction j with
    | zero =>
      intro a x4 hj hae
      rw [s_164_17]
      simp only [s_164_0, s_164_1, s_164_4, s_164_7, s_164_9, s_164_12, s_164_13, s_164_14, s_164_15, s_164_16, s_164_18, s_164_20, s_164_23, s_164_24, s_164_25, s_164_28, s_164_29, s_164_30, s_164_31, s_164_34, s_164_36, s_164_38, s_164_41, s_164_42, s_164_44, s_164_45, s_164_46, s_164_48, s_164_49, s_164_52, s_164_55, s_164_56, s_164_59, s_164_62, s_164_63, s_164_66, s_164_67, s_164_70, s_164_71, x_get_i, List.getElem?_cons_succ, List.getElem?_cons_zero, x_cv_j, cs_n, cs_i, cs_r, cs_l, Nat.reduceAdd, Nat.reduceLeDiff, true_and, Option.toList_some, Option.toList_none, List.cons_append, List.nil_append, if_true, if_false, nb0, nb1, x_setJ, x_setZ0, x_setZ1, x_setA, x_setO, List.length_cons, List.length_nil, Nat.reduceLT, List.set_cons_succ, List.set_cons_zero, wrl_0, wrl_1, wrl_2, wrl_3, wrl_4, wrl_5, wrl_p0, wrl_p1, wrl_p2, wrl_p3, wrl_p4, show (60 : Int32) ≤ nI (60 - 0) by decide, o_0, a_0, c_0, n_0, p_0, q_0, m_0, g_0, tx_size' hx]
      exact fin.symm
    | succ j ih =>
      intro a x4 hj hae
      have e6 : nI (60 - (j + 1)) + 1 = nI (60 - j) := by rw [nI_1]; congr 1; omega
      rw [s_164_17]
      simp only [s_164_0, s_164_1, s_164_4, s_164_7, s_164_9, s_164_12, s_164_13, s_164_14, s_164_15, s_164_16, s_164_18, s_164_20, s_164_23, s_164_24, s_164_25, s_164_28, s_164_29, s_164_30, s_164_31, s_164_34, s_164_36, s_164_38, s_164_41, s_164_42, s_164_44, s_164_45, s_164_46, s_164_48, s_164_49, s_164_52, s_164_55, s_164_56, s_164_59, s_164_62, s_164_63, s_164_66, s_164_67, s_164_70, s_164_71, x_get_i, List.getElem?_cons_succ, List.getElem?_cons_zero, x_cv_j, cs_n, cs_i, cs_r, cs_l, Nat.reduceAdd, Nat.reduceLeDiff, true_and, Option.toList_some, Option.toList_none, List.cons_append, List.nil_append, if_true, if_false, nb0, nb1, x_setJ, x_setZ0, x_setZ1, x_setA, x_setO, List.length_cons, List.length_nil, Nat.reduceLT, List.set_cons_succ, List.set_cons_zero, wrl_0, wrl_1, wrl_2, wrl_3, wrl_4, wrl_5, wrl_p0, wrl_p1, wrl_p2, wrl_p3, wrl_p4, show ¬ (60 : Int32) ≤ nI (60 - (j + 1)) from nI_ge (b := 60) (by omega) (by decide), o_0, a_0, c_0, n_0, p_0, q_0, m_0, g_0, tx_size' hx, e6]
      unfold fwk
      by_cases k1 : e ≤ a
      · simp only [k1, show nI e ≤ nI a from nI_le k1 (by omega), if_true]
        exact fin.symm
      · simp only [k1, show ¬ nI e ≤ nI a from nI_ge (by omega) (by omega), if_false]
        rw [c_behind hW hec (by omega)]
        have hb := bha_le (F := F) (show a < e by omega)
        simp only [s_164_0, s_164_1, s_164_4, s_164_7, s_164_9, s_164_12, s_164_13, s_164_14, s_164_15, s_164_16, s_164_18, s_164_20, s_164_23, s_164_24, s_164_25, s_164_28, s_164_29, s_164_30, s_164_31, s_164_34, s_164_36, s_164_38, s_164_41, s_164_42, s_164_44, s_164_45, s_164_46, s_164_48, s_164_49, s_164_52, s_164_55, s_164_56, s_164_59, s_164_62, s_164_63, s_164_66, s_164_67, s_164_70, s_164_71, x_get_i, List.getElem?_cons_succ, List.getElem?_cons_zero, x_cv_j, cs_n, cs_i, cs_r, cs_l, Nat.reduceAdd, Nat.reduceLeDiff, true_and, Option.toList_some, Option.toList_none, List.cons_append, List.nil_append, if_true, if_false, nb0, nb1, x_setJ, x_setZ0, x_setZ1, x_setA, x_setO, List.length_cons, List.length_nil, Nat.reduceLT, List.set_cons_succ, List.set_cons_zero, wrl_0, wrl_1, wrl_2, wrl_3, wrl_4, wrl_5, wrl_p0, wrl_p1, wrl_p2, wrl_p3, wrl_p4, e6]
        cases hr : bha F e a with
        | inl p =>
          have hp := hb.1 p hr
          have hneg : ¬ 0 ≤ -1 - nI p := by
            rw [Int32.not_le, Int32.lt_iff_toInt_lt, Int32.toInt_sub, nI_toInt (by omega)]
            show ((-1 : Int) - p).bmod (2 ^ 32) < 0
            rw [Int.bmod_eq_of_le (by omega) (by omega)]
            omega
          have hdd : (-1 : Int32) - (-1 - nI p) = nI p := by
            rw [Int32.sub_eq_add_neg, Int32.sub_eq_add_neg, Int32.neg_add, Int32.neg_neg, Int32.sub_eq_add_neg, Int32.neg_neg, ← Int32.add_assoc, show (-1 : Int32) + 1 = 0 by decide, Int32.zero_add]
          simp only [sI, hneg, if_false, hdd]
          exact Iff.rfl
        | inr q =>
          have hq := hb.2 q hr
          simp only [sI, show 0 ≤ nI q from nI_pos' (by omega), if_true]
          exact ih q _ (by omega) (by omega)
  rw [e_164]
  simp only [s_164_0, s_164_1, s_164_4, s_164_7, s_164_9, s_164_12, s_164_13, s_164_14, s_164_15, s_164_16, s_164_18, s_164_20, s_164_23, s_164_24, s_164_25, s_164_28, s_164_29, s_164_30, s_164_31, s_164_34, s_164_36, s_164_38, s_164_41, s_164_42, s_164_44, s_164_45, s_164_46, s_164_48, s_164_49, s_164_52, s_164_55, s_164_56, s_164_59, s_164_62, s_164_63, s_164_66, s_164_67, s_164_70, s_164_71, x_get_i, List.getElem?_cons_succ, List.getElem?_cons_zero, x_cv_j, cs_n, cs_i, cs_r, cs_l, Nat.reduceAdd, Nat.reduceLeDiff, true_and, Option.toList_some, Option.toList_none, List.cons_append, List.nil_append, if_true, if_false, nb0, nb1, x_setJ, x_setZ0, x_setZ1, x_setA, x_setO, List.length_cons, List.length_nil, Nat.reduceLT, List.set_cons_succ, List.set_cons_zero, wrl_0, wrl_1, wrl_2, wrl_3, wrl_4, wrl_5, wrl_p0, wrl_p1, wrl_p2, wrl_p3, wrl_p4, o_0, a_0, c_0, n_0, p_0, q_0, m_0, g_0, tx_size' hx, em]
  have := loop 60 0 tm_z (by decide) (by omega)
  exact this
end
