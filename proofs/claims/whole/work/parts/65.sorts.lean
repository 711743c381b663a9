/-! calls of the class: sorts -/
/-- the first place that leaves a shape -/
def mfn (F : Nat → Int32) (e : Nat) : List Int32 → Nat → Option Nat
  | [], _ => none
  | k :: r, p => if e ≤ p then some p else if txs k (F p) = 0 then some p else mfn F e r (p + 1)
theorem mfit_n {F : Nat → Int32} {c e : Nat} (hc : c ≤ 80) (he : e ≤ c) : ∀ {l : List Int32} {p : Nat}, p + l.length < 2 ^ 31 → mfit F c (nI e) l (nI p) = oI (mfn F e l p)
  | [], p, _ => rfl
  | k :: r, p, hp => by
    simp only [List.length_cons] at hp
    show (if nI e ≤ nI p then nI p else if txs k (txa F c (nI p)) = 0 then nI p else mfit F c (nI e) r (nI p + 1)) = oI (if e ≤ p then some p else if txs k (F p) = 0 then some p else mfn F e r (p + 1))
    by_cases c1 : e ≤ p
    · rw [if_pos (nI_le c1 (by omega)), if_pos c1]; rfl
    · rw [if_neg (nI_ge (by omega) (by omega)), if_neg c1, txa_n (by omega) hc]
      by_cases c2 : txs k (F p) = 0
      · rw [if_pos c2, if_pos c2]; rfl
      · rw [if_neg c2, if_neg c2, nI_1]
        exact mfit_n hc he (by omega)
theorem mfn_lt {F : Nat → Int32} {e : Nat} : ∀ {l : List Int32} {p q : Nat}, mfn F e l p = some q → p ≤ q ∧ q < p + l.length
  | [], p, q, h => by cases h
  | k :: r, p, q, h => by
    unfold mfn at h
    simp only [List.length_cons]
    split at h
    · cases h; omega
    · split at h
      · cases h; omega
      · have := mfn_lt h; omega
/-- a line fits at p -/
def lnk (F : Nat → Int32) (p : Nat) : Prop := ¬ txs 108 (F p) = 0 ∧ ¬ txs 100 (F (p + 1)) = 0 ∧ ¬ txs 115 (F (p + 2)) = 0 ∧ ¬ txs 100 (F (p + 3)) = 0
theorem mfn_4 {F : Nat → Int32} {e p : Nat} (h : mfn F e (g_sb 0) p = none) : p + 4 ≤ e ∧ lnk F p := by
  have h : mfn F e [108, 100, 115, 100] p = none := h
  unfold mfn at h
  split at h
  · cases h
  split at h
  · cases h
  unfold mfn at h
  split at h
  · cases h
  split at h
  · cases h
  unfold mfn at h
  split at h
  · cases h
  split at h
  · cases h
  unfold mfn at h
  split at h
  · cases h
  split at h
  · cases h
  rename_i a1 a2 a3 a4 a5 a6 a7 a8
  exact ⟨by omega, a2, a4, a6, a8⟩
/-- lines from p on, with room for j more -/
def lfl (F : Nat → Int32) (c e : Nat) : Nat → Nat → Option Nat
  | 0, p => some p
  | j + 1, p => match mfn F e (g_sb 0) p with
    | some q => some q
    | none => if e ≤ p + 4 then (if e < c then some e else none) else if F (p + 4) = 59 then lfl F c e j (p + 5) else some (p + 4)
def lfv (F : Nat → Int32) (c n : Nat) : Option Nat := if c = 0 then none else lfl F c (min c 59) (12 - n) 0
theorem lfl_none {F : Nat → Int32} {c e : Nat} (he : e ≤ c) : ∀ {j p : Nat}, lfl F c e j p = none → c = e ∧ ∃ k, 1 ≤ k ∧ k ≤ j ∧ c + 1 = p + 5 * k ∧ ∀ i, i < k → lnk F (p + 5 * i)
  | 0, p, h => by cases h
  | j + 1, p, h => by
    unfold lfl at h
    split at h
    · cases h
    · rename_i hm
      obtain ⟨h1, h2⟩ := mfn_4 hm
      split at h
      · split at h
        · cases h
        · refine ⟨by omega, 1, by omega, by omega, by omega, fun i hi => ?_⟩
          have : i = 0 := by omega
          subst this
          exact h2
      · split at h
        · obtain ⟨h3, k, k1, k2, k3, k4⟩ := lfl_none he h
          refine ⟨h3, k + 1, by omega, by omega, by omega, fun i hi => ?_⟩
          cases i with
          | zero => exact h2
          | succ i =>
            have := k4 i (by omega)
            rw [show p + 5 * (i + 1) = p + 5 + 5 * i by omega]
            exact this
        · cases h
/-- a sign and a digit -/
def sgd (F : Nat → Int32) (p : Nat) : Int32 := if F p = 45 then -(F (p + 1) - 48) else F (p + 1) - 48
def adX (F : Nat → Int32) (X : TN) : Nat → TN := fo (fun i Y => (upd Y.1 Y.2.2.2.2.1 (F (5 * i) - 97), upd Y.2.1 Y.2.2.2.2.1 (F (5 * i + 1) - 48), upd Y.2.2.1 Y.2.2.2.2.1 (sgd F (5 * i + 2)), upd Y.2.2.2.1 Y.2.2.2.2.1 (F (5 * i) - 97), Y.2.2.2.2.1 + 1, Y.2.2.2.2.2)) X
theorem adX_n {F : Nat → Int32} {X : TN} : ∀ i, (adX F X i).2.2.2.2.1 = X.2.2.2.2.1 + i
  | 0 => rfl
  | i + 1 => by
    show (adX F X i).2.2.2.2.1 + 1 = _
    rw [adX_n i]; rfl
theorem BX_push {n y : Nat} {B : Nat → Int32} (h : BX n B) (hy : y < 8) : BX (n + 1) (upd B n (nI y)) := by
  intro i hi
  unfold upd
  split
  · exact ⟨y, hy, rfl⟩
  · exact h i (by omega)
theorem adX_wf {F : Nat → Int32} {X : TN} (h : WFT X) {k : Nat} (hk : X.2.2.2.2.1 + k ≤ 12) (hl : ∀ i, i < k → lnk F (5 * i)) : ∀ i, i ≤ k → WFT (adX F X i)
  | 0, _ => h
  | i + 1, hi => by
    obtain ⟨h1, h2, h3⟩ := adX_wf h hk hl i (by omega)
    obtain ⟨y, hy, ey⟩ := txs_l0 (hl i (by omega)).1
    have en := adX_n (F := F) (X := X) i
    refine ⟨?_, ?_, ?_⟩
    · show (adX F X i).2.2.2.2.1 + 1 ≤ 12; omega
    · show BX ((adX F X i).2.2.2.2.1 + 1) (upd (adX F X i).1 (adX F X i).2.2.2.2.1 (F (5 * i) - 97))
      rw [ey, nI_97]
      exact BX_push h2 hy
    · show BX ((adX F X i).2.2.2.2.1 + 1) (upd (adX F X i).2.2.2.1 (adX F X i).2.2.2.2.1 (F (5 * i) - 97))
      rw [ey, nI_97]
      exact BX_push h3 hy
section
variable {sa : g_SA} {sc : Nat × Nat × (Nat → Int32)} {xt : Nat → Nat → List Value → tm_H → Option (Option Value × tm_H)} {d b : Nat} {h : tm_H} {Q : Option Value → tm_H → Prop}
variable {tx : Nat × (Nat → Int32)} {rw : Nat × (Nat → Int64)} {nw : TN} {pa : Nat × Nat × (Nat → TN) × (Nat → TN) × (Nat → Int32)} {ru : Nat × Nat × List Int32} {he : Nat × (Nat → Int32)} {mi : Nat × (Nat → Int32) × (Nat → Int32) × (Nat → Int32)} {ga : Nat}
variable {c n m : Nat} {F L W M B H Ms Bs Os : Nat → Int32} {s g : Int32} {rc hc mc : Nat} {R : Nat → Int64} {r1 r2 : Nat} {cd0 : List Int32}
theorem c_fault (hW : CW sa h b (c, F) rw nw pa ru he mi ga) : tm_D (g_G sa sc xt) (d + 5) 161 [.ref b] h Q ↔ Q (some (.int (oI (lfv F c nw.2.2.2.2.1)))) h := by
  obtain ⟨w_o, w_t, w_r, w_n, w_h, w_l, w_b, w_p, w_u, w_v, w_a, w_e, w_w, w_x, w_q, w_m, w_g, w_d, w_s⟩ := id hW
  have o_0 := hW.1
  have a_0 : h.2.2 (b + 1) = .inr (8, _) := hW.2.1.1.1
  have c_0 : h.2.2 (b + 3) = .inr (5, _) := cel_0 hW.2.2.1.1
  have n_0 : h.2.2 (b + 5) = .inr (9, _) := hW.2.2.2.1.1.1
  have p_0 : h.2.2 (b + 33) = .inr (6, _) := hW.2.2.2.2.2.2.2.1.1.1
  have q_0 : h.2.2 (b + 152) = .inr (2, _) := cel_0 hW.2.2.2.2.2.2.2.2.2.2.2.2.2.2.1.1
  obtain ⟨_, mm_0⟩ := hW.2.2.2.2.2.2.2.2.2.2.2.2.2.2.2.1.1
  have m_0 : h.2.2 (b + 154) = .inr (4, _) := cel_0 mm_0
  have g_0 : h.2.2 (b + 159) = .inr (1, _) := cel_0 hW.2.2.2.2.2.2.2.2.2.2.2.2.2.2.2.2.1.1
  have hT : tc_at h (b + 5) nw.1 nw.2.1 nw.2.2.1 nw.2.2.2.1 (nI nw.2.2.2.2.1) nw.2.2.2.2.2.1 nw.2.2.2.2.2.2 := w_n.1
  have t0 := hT.1
  have hn : nw.2.2.2.2.1 ≤ 12 := w_n.2.1
  have hc80 : c ≤ 80 := w_t.2.1
  have hx : tx_in h (b + 1) c F := w_t.1
  have em : (if (59 : Int32) < nI c then (59 : Int32) else nI c) = nI (min c 59) := by
    by_cases h1 : 59 < c
    · rw [if_pos (show (59 : Int32) < nI c from nI_lt (a := 59) h1 (by omega)), show min c 59 = 59 by omega]; rfl
    · rw [if_neg (show ¬ (59 : Int32) < nI c from nI_nlt (a := 59) (by omega) (by decide)), show min c 59 = c by omega]
  have hec : min c 59 ≤ c := by omega
  have he59 : min c 59 ≤ 59 := by omega
  have loop : ∀ (j p : Nat) (x4 : Value), j ≤ 12 → p ≤ 60 → (tm_X (g_G sa sc xt) (d + 5) 161 35 [.ref b, .int (nI (min c 59)), .int (nI p), .int (nI (12 - j)), x4] [] h Q ↔ Q (some (.int (oI (lfl F c (min c 59) j p)))) h) := by
    generalize min c 59 = e at hec he59
    intro j
    induction j with
    | zero =>
      intro p x4 hj hp
      rw [s_161_35]
      simp only [s_161_0, s_161_1, s_161_4, s_161_7, s_161_10, s_161_11, s_161_12, s_161_13, s_161_16, s_161_19, s_161_21, s_161_24, s_161_25, s_161_26, s_161_27, s_161_28, s_161_31, s_161_34, s_161_36, s_161_38, s_161_41, s_161_42, s_161_45, s_161_48, s_161_49, s_161_50, s_161_53, s_161_55, s_161_57, s_161_58, s_161_61, s_161_63, s_161_64, s_161_67, s_161_68, s_161_69, s_161_72, s_161_73, s_161_76, s_161_79, s_161_80, s_161_83, s_161_84, s_161_87, s_161_88, s_161_89, s_161_90, s_161_93, s_161_94, s_161_97, s_161_99, s_161_102, s_161_103, s_161_104, s_161_107, s_161_110, s_161_113, s_161_114, x_get_i, List.getElem?_cons_succ, List.getElem?_cons_zero, x_cv_j, cs_n, cs_i, cs_r, cs_l, Nat.reduceAdd, Nat.reduceLeDiff, true_and, Option.toList_some, Option.toList_none, List.cons_append, List.nil_append, if_true, if_false, nb0, nb1, x_setJ, x_setZ0, x_setZ1, x_setA, x_setO, List.length_cons, List.length_nil, Nat.reduceLT, List.set_cons_succ, List.set_cons_zero, wrl_0, wrl_1, wrl_2, wrl_3, wrl_4, wrl_5, wrl_p0, wrl_p1, wrl_p2, wrl_p3, wrl_p4, show (12 : Int32) ≤ nI (12 - 0) by decide]
      exact Iff.rfl
    | succ j ih =>
      intro p x4 hj hp
      have e4 : nI p + 4 = nI (p + 4) := nI_add p 4
      have e5 : nI (p + 4) + 1 = nI (p + 5) := nI_add (p + 4) 1
      have e6 : nI (12 - (j + 1)) + 1 = nI (12 - j) := by rw [nI_1]; congr 1; omega
      rw [s_161_35]
      simp only [s_161_0, s_161_1, s_161_4, s_161_7, s_161_10, s_161_11, s_161_12, s_161_13, s_161_16, s_161_19, s_161_21, s_161_24, s_161_25, s_161_26, s_161_27, s_161_28, s_161_31, s_161_34, s_161_36, s_161_38, s_161_41, s_161_42, s_161_45, s_161_48, s_161_49, s_161_50, s_161_53, s_161_55, s_161_57, s_161_58, s_161_61, s_161_63, s_161_64, s_161_67, s_161_68, s_161_69, s_161_72, s_161_73, s_161_76, s_161_79, s_161_80, s_161_83, s_161_84, s_161_87, s_161_88, s_161_89, s_161_90, s_161_93, s_161_94, s_161_97, s_161_99, s_161_102, s_161_103, s_161_104, s_161_107, s_161_110, s_161_113, s_161_114, x_get_i, List.getElem?_cons_succ, List.getElem?_cons_zero, x_cv_j, cs_n, cs_i, cs_r, cs_l, Nat.reduceAdd, Nat.reduceLeDiff, true_and, Option.toList_some, Option.toList_none, List.cons_append, List.nil_append, if_true, if_false, nb0, nb1, x_setJ, x_setZ0, x_setZ1, x_setA, x_setO, List.length_cons, List.length_nil, Nat.reduceLT, List.set_cons_succ, List.set_cons_zero, wrl_0, wrl_1, wrl_2, wrl_3, wrl_4, wrl_5, wrl_p0, wrl_p1, wrl_p2, wrl_p3, wrl_p4, show ¬ (12 : Int32) ≤ nI (12 - (j + 1)) from nI_ge (b := 12) (by omega) (by decide), o_0, a_0, c_0, n_0, p_0, q_0, m_0, g_0, tx_misfit hx hc80 w_s.1 (show 0 < 8 by decide), mfit_n (l := g_sb 0) (p := p) hc80 hec (by show p + 4 < _; omega), tx_size' hx, e4, e5, e6, tx_at' hx hc80]
      unfold lfl
      cases hm : mfn F e (g_sb 0) p with
      | some q =>
        have hq := mfn_lt hm
        have hq2 : q < p + 4 := hq.2
        simp only [oI, oI_ne (show q < 2 ^ 31 by omega), if_false]
      | none =>
        obtain ⟨q1, q2⟩ := mfn_4 hm
        simp only [oI, if_true]
        by_cases k1 : e ≤ p + 4
        · simp only [k1, show ¬ nI (p + 4) < nI e from nI_nlt k1 (by omega), if_true, if_false]
          by_cases k2 : e < c
          · simp only [k2, show ¬ nI c ≤ nI e from nI_ge k2 (by omega), if_true, if_false]
          · simp only [k2, show nI c ≤ nI e from nI_le (by omega) (by omega), if_true, if_false]
        · simp only [k1, show nI (p + 4) < nI e from nI_lt (by omega) (by omega), if_true, if_false, txa_n (show p + 4 < c by omega) hc80]
          by_cases k3 : F (p + 4) = 59
          · simp only [k3, if_true]
            exact ih (p + 5) _ (by omega) (by omega)
          · simp only [k3, if_false]
  rw [e_161]
  simp only [s_161_0, s_161_1, s_161_4, s_161_7, s_161_10, s_161_11, s_161_12, s_161_13, s_161_16, s_161_19, s_161_21, s_161_24, s_161_25, s_161_26, s_161_27, s_161_28, s_161_31, s_161_34, s_161_36, s_161_38, s_161_41, s_161_42, s_161_45, s_161_48, s_161_49, s_161_50, s_161_53, s_161_55, s_161_57, s_161_58, s_161_61, s_161_63, s_161_64, s_161_67, s_161_68, s_161_69, s_161_72, s_161_73, s_161_76, s_161_79, s_161_80, s_161_83, s_161_84, s_161_87, s_161_88, s_161_89, s_161_90, s_161_93, s_161_94, s_161_97, s_161_99, s_161_102, s_161_103, s_161_104, s_161_107, s_161_110, s_161_113, s_161_114, x_get_i, List.getElem?_cons_succ, List.getElem?_cons_zero, x_cv_j, cs_n, cs_i, cs_r, cs_l, Nat.reduceAdd, Nat.reduceLeDiff, true_and, Option.toList_some, Option.toList_none, List.cons_append, List.nil_append, if_true, if_false, nb0, nb1, x_setJ, x_setZ0, x_setZ1, x_setA, x_setO, List.length_cons, List.length_nil, Nat.reduceLT, List.set_cons_succ, List.set_cons_zero, wrl_0, wrl_1, wrl_2, wrl_3, wrl_4, wrl_5, wrl_p0, wrl_p1, wrl_p2, wrl_p3, wrl_p4, o_0, a_0, c_0, n_0, p_0, q_0, m_0, g_0, t0, tx_size' hx, em]
  unfold lfv
  by_cases k0 : c = 0
  · subst k0
    simp only [nI_0, if_true]
    exact Iff.rfl
  · simp only [show ¬ nI c = 0 from nI_ne0 (by omega) (by omega), k0, if_false]
    have := loop (12 - nw.2.2.2.2.1) 0 tm_z (by omega) (by omega)
    rw [show 12 - (12 - nw.2.2.2.2.1) = nw.2.2.2.2.1 by omega, nI_0] at this
    exact this
theorem c_sorts (hW : CW sa h b (c, F) rw nw pa ru he mi ga) (h1 : ∀ p h', lfv F c nw.2.2.2.2.1 = some p → sm b (b + 162) h h' → CW sa h' b (0, F) rw nw pa ru he mi ga → Q (some (.int (-1 - nI p))) h') (h2 : ∀ k h', lfv F c nw.2.2.2.2.1 = none → (k = 0 ∧ c = 0 ∨ 1 ≤ k ∧ c + 1 = 5 * k) → nw.2.2.2.2.1 + k ≤ 12 → (∀ i, i < k → lnk F (5 * i)) → sm b (b + 162) h h' → CW sa h' b (0, F) rw (adX F nw k) (if k = 0 then pa else (0, pa.2)) ru he mi ga → Q (some (.int (nI k))) h') (hp : ∀ p, lfv F c nw.2.2.2.2.1 = some p → p < 2 ^ 31) : tm_D (g_G sa sc xt) (d + 6) 112 [.ref b] h Q := by
  obtain ⟨w_o, w_t, w_r, w_n, w_h, w_l, w_b, w_p, w_u, w_v, w_a, w_e, w_w, w_x, w_q, w_m, w_g, w_d, w_s⟩ := id hW
  have o_0 := hW.1
  have a_0 : h.2.2 (b + 1) = .inr (8, _) := hW.2.1.1.1
  have c_0 : h.2.2 (b + 3) = .inr (5, _) := cel_0 hW.2.2.1.1
  have n_0 : h.2.2 (b + 5) = .inr (9, _) := hW.2.2.2.1.1.1
  have p_0 : h.2.2 (b + 33) = .inr (6, _) := hW.2.2.2.2.2.2.2.1.1.1
  have q_0 : h.2.2 (b + 152) = .inr (2, _) := cel_0 hW.2.2.2.2.2.2.2.2.2.2.2.2.2.2.1.1
  obtain ⟨_, mm_0⟩ := hW.2.2.2.2.2.2.2.2.2.2.2.2.2.2.2.1.1
  have m_0 : h.2.2 (b + 154) = .inr (4, _) := cel_0 mm_0
  have g_0 : h.2.2 (b + 159) = .inr (1, _) := cel_0 hW.2.2.2.2.2.2.2.2.2.2.2.2.2.2.2.2.1.1
  have hc80 : c ≤ 80 := w_t.2.1
  have hn : nw.2.2.2.2.1 ≤ 12 := w_n.2.1
  rw [e_112]
  simp only [s_112_0, s_112_1, s_112_4, s_112_5, s_112_6, s_112_7, s_112_8, s_112_9, s_112_12, s_112_13, s_112_16, s_112_17, s_112_18, s_112_21, s_112_24, s_112_25, s_112_26, s_112_29, s_112_30, s_112_33, s_112_34, s_112_35, s_112_36, x_get_i, List.getElem?_cons_succ, List.getElem?_cons_zero, x_cv_j, cs_n, cs_i, cs_r, cs_l, Nat.reduceAdd, Nat.reduceLeDiff, true_and, Option.toList_some, Option.toList_none, List.cons_append, List.nil_append, if_true, if_false, nb0, nb1, x_setJ, x_setZ0, x_setZ1, x_setA, x_setO, List.length_cons, List.length_nil, Nat.reduceLT, List.set_cons_succ, List.set_cons_zero, wrl_0, wrl_1, wrl_2, wrl_3, wrl_4, wrl_5, wrl_p0, wrl_p1, wrl_p2, wrl_p3, wrl_p4, o_0, a_0, c_0, n_0, p_0, q_0, m_0, g_0, c_fault hW]
  cases hf : lfv F c nw.2.2.2.2.1 with
  | some p =>
    simp only [oI, oI_ne (hp p hf), if_false, s_112_0, s_112_1, s_112_4, s_112_5, s_112_6, s_112_7, s_112_8, s_112_9, s_112_12, s_112_13, s_112_16, s_112_17, s_112_18, s_112_21, s_112_24, s_112_25, s_112_26, s_112_29, s_112_30, s_112_33, s_112_34, s_112_35, s_112_36, x_get_i, List.getElem?_cons_succ, List.getElem?_cons_zero, x_cv_j, cs_n, cs_i, cs_r, cs_l, Nat.reduceAdd, Nat.reduceLeDiff, true_and, Option.toList_some, Option.toList_none, List.cons_append, List.nil_append, if_true, if_false, nb0, nb1, x_setJ, x_setZ0, x_setZ1, x_setA, x_setO, List.length_cons, List.length_nil, Nat.reduceLT, List.set_cons_succ, List.set_cons_zero, wrl_0, wrl_1, wrl_2, wrl_3, wrl_4, wrl_5, wrl_p0, wrl_p1, wrl_p2, wrl_p3, wrl_p4, o_0, a_0, c_0, n_0, p_0, q_0, m_0, g_0]
    refine c_tclear hW (fun ha sA hWa => ?_)
    simp only [s_112_0, s_112_1, s_112_4, s_112_5, s_112_6, s_112_7, s_112_8, s_112_9, s_112_12, s_112_13, s_112_16, s_112_17, s_112_18, s_112_21, s_112_24, s_112_25, s_112_26, s_112_29, s_112_30, s_112_33, s_112_34, s_112_35, s_112_36, x_get_i, List.getElem?_cons_succ, List.getElem?_cons_zero, x_cv_j, cs_n, cs_i, cs_r, cs_l, Nat.reduceAdd, Nat.reduceLeDiff, true_and, Option.toList_some, Option.toList_none, List.cons_append, List.nil_append, if_true, if_false, nb0, nb1, x_setJ, x_setZ0, x_setZ1, x_setA, x_setO, List.length_cons, List.length_nil, Nat.reduceLT, List.set_cons_succ, List.set_cons_zero, wrl_0, wrl_1, wrl_2, wrl_3, wrl_4, wrl_5, wrl_p0, wrl_p1, wrl_p2, wrl_p3, wrl_p4, oI_ne (hp p hf)]
    exact h1 p ha hf (sA.mono (by omega) (by omega)) hWa
  | none =>
    have hk : ∃ k, (k = 0 ∧ c = 0 ∨ 1 ≤ k ∧ c + 1 = 5 * k) ∧ nw.2.2.2.2.1 + k ≤ 12 ∧ ∀ i, i < k → lnk F (5 * i) := by
      unfold lfv at hf
      by_cases k0 : c = 0
      · exact ⟨0, Or.inl ⟨rfl, k0⟩, by omega, fun i hi => by omega⟩
      · rw [if_neg k0] at hf
        obtain ⟨a1, k, a2, a3, a4, a5⟩ := lfl_none (by omega) hf
        refine ⟨k, Or.inr ⟨a2, by omega⟩, by omega, fun i hi => ?_⟩
        have := a5 i hi
        rw [Nat.zero_add] at this
        exact this
    obtain ⟨k, k1, k2, k3⟩ := hk
    simp only [oI, if_true, s_112_0, s_112_1, s_112_4, s_112_5, s_112_6, s_112_7, s_112_8, s_112_9, s_112_12, s_112_13, s_112_16, s_112_17, s_112_18, s_112_21, s_112_24, s_112_25, s_112_26, s_112_29, s_112_30, s_112_33, s_112_34, s_112_35, s_112_36, x_get_i, List.getElem?_cons_succ, List.getElem?_cons_zero, x_cv_j, cs_n, cs_i, cs_r, cs_l, Nat.reduceAdd, Nat.reduceLeDiff, true_and, Option.toList_some, Option.toList_none, List.cons_append, List.nil_append, if_true, if_false, nb0, nb1, x_setJ, x_setZ0, x_setZ1, x_setA, x_setO, List.length_cons, List.length_nil, Nat.reduceLT, List.set_cons_succ, List.set_cons_zero, wrl_0, wrl_1, wrl_2, wrl_3, wrl_4, wrl_5, wrl_p0, wrl_p1, wrl_p2, wrl_p3, wrl_p4, o_0, a_0, c_0, n_0, p_0, q_0, m_0, g_0]
    rw [e_162]
    have loop : ∀ (j i : Nat) (hz : tm_H), i + j = k → sm b (b + 162) h hz → CW sa hz b (c, F) rw (adX F nw i) pa ru he mi ga → tm_X (g_G sa sc xt) (d + 5) 162 4 [.ref b, .int (nI i), .int (nI (5 * i))] [] hz (fun r h' => tm_X (g_G sa sc xt) (d + 5 + 1) 112 16 [.ref b, .int (-1), .int 0] (r.toList ++ []) h' Q) := by
      intro j
      induction j with
      | zero =>
        intro i hz hi sz hWz
        have hi : i = k := by omega
        subst hi
        have o_z := hWz.1
        have a_z : hz.2.2 (b + 1) = .inr (8, _) := hWz.2.1.1.1
        have c_z : hz.2.2 (b + 3) = .inr (5, _) := cel_0 hWz.2.2.1.1
        have n_z : hz.2.2 (b + 5) = .inr (9, _) := hWz.2.2.2.1.1.1
        have p_z : hz.2.2 (b + 33) = .inr (6, _) := hWz.2.2.2.2.2.2.2.1.1.1
        have q_z : hz.2.2 (b + 152) = .inr (2, _) := cel_0 hWz.2.2.2.2.2.2.2.2.2.2.2.2.2.2.1.1
        obtain ⟨_, mm_z⟩ := hWz.2.2.2.2.2.2.2.2.2.2.2.2.2.2.2.1.1
        have m_z : hz.2.2 (b + 154) = .inr (4, _) := cel_0 mm_z
        have g_z : hz.2.2 (b + 159) = .inr (1, _) := cel_0 hWz.2.2.2.2.2.2.2.2.2.2.2.2.2.2.2.2.1.1
        have e4 : nI (5 * i) + 4 = nI (5 * i + 4) := nI_add _ 4
        have htz : tx_in hz (b + 1) c F := hWz.2.1.1
        rw [s_162_4]
        simp only [s_162_0, s_162_1, s_162_2, s_162_3, s_162_5, s_162_6, s_162_7, s_162_8, s_162_11, s_162_14, s_162_17, s_162_18, s_162_21, s_162_22, s_162_25, s_162_26, s_162_29, s_162_30, s_162_33, s_162_34, s_162_35, s_162_36, s_162_39, s_162_40, s_162_43, s_162_44, s_162_45, s_162_46, s_162_49, s_162_52, s_162_55, s_162_58, s_162_61, s_162_62, s_162_65, s_162_66, s_162_69, s_162_72, s_162_73, x_get_i, List.getElem?_cons_succ, List.getElem?_cons_zero, x_cv_j, cs_n, cs_i, cs_r, cs_l, Nat.reduceAdd, Nat.reduceLeDiff, true_and, Option.toList_some, Option.toList_none, List.cons_append, List.nil_append, if_true, if_false, nb0, nb1, x_setJ, x_setZ0, x_setZ1, x_setA, x_setO, List.length_cons, List.length_nil, Nat.reduceLT, List.set_cons_succ, List.set_cons_zero, wrl_0, wrl_1, wrl_2, wrl_3, wrl_4, wrl_5, wrl_p0, wrl_p1, wrl_p2, wrl_p3, wrl_p4, o_z, a_z, c_z, n_z, p_z, q_z, m_z, g_z, tx_size' htz, e4, show nI c < nI (5 * i + 4) from nI_lt (by omega) (by omega)]
        by_cases z0 : i = 0
        · subst z0
          simp only [show nI 0 ≤ 0 by decide, if_true, s_112_0, s_112_1, s_112_4, s_112_5, s_112_6, s_112_7, s_112_8, s_112_9, s_112_12, s_112_13, s_112_16, s_112_17, s_112_18, s_112_21, s_112_24, s_112_25, s_112_26, s_112_29, s_112_30, s_112_33, s_112_34, s_112_35, s_112_36, o_z, a_z, c_z, n_z, p_z, q_z, m_z, g_z, x_get_i, List.getElem?_cons_succ, List.getElem?_cons_zero, x_cv_j, cs_n, cs_i, cs_r, cs_l, Nat.reduceAdd, Nat.reduceLeDiff, true_and, Option.toList_some, Option.toList_none, List.cons_append, List.nil_append, if_true, if_false, nb0, nb1, x_setJ, x_setZ0, x_setZ1, x_setA, x_setO, List.length_cons, List.length_nil, Nat.reduceLT, List.set_cons_succ, List.set_cons_zero, wrl_0, wrl_1, wrl_2, wrl_3, wrl_4, wrl_5, wrl_p0, wrl_p1, wrl_p2, wrl_p3, wrl_p4]
          refine c_tclear hWz (fun ha sA hWa => ?_)
          simp only [s_112_0, s_112_1, s_112_4, s_112_5, s_112_6, s_112_7, s_112_8, s_112_9, s_112_12, s_112_13, s_112_16, s_112_17, s_112_18, s_112_21, s_112_24, s_112_25, s_112_26, s_112_29, s_112_30, s_112_33, s_112_34, s_112_35, s_112_36, x_get_i, List.getElem?_cons_succ, List.getElem?_cons_zero, x_cv_j, cs_n, cs_i, cs_r, cs_l, Nat.reduceAdd, Nat.reduceLeDiff, true_and, Option.toList_some, Option.toList_none, List.cons_append, List.nil_append, if_true, if_false, nb0, nb1, x_setJ, x_setZ0, x_setZ1, x_setA, x_setO, List.length_cons, List.length_nil, Nat.reduceLT, List.set_cons_succ, List.set_cons_zero, wrl_0, wrl_1, wrl_2, wrl_3, wrl_4, wrl_5, wrl_p0, wrl_p1, wrl_p2, wrl_p3, wrl_p4]
          have h2 := h2 0 ha hf k1 k2 k3 (sz.trans (sA.mono (by omega) (by omega)))
          rw [if_pos rfl] at h2
          exact h2 hWa
        · simp only [show ¬ nI i ≤ 0 from nI_nle (by omega) (by omega), if_false]
          obtain ⟨p1, p2, p3, p4, p5⟩ := hWz.2.2.2.2.2.2.2.1
          refine pa_clear p1 (fun hy sy q1 => ?_)
          have hWy := CW_p (pa' := (0, pa.2)) hWz sy ⟨q1, Nat.zero_le _, p3, p4, p5⟩
          have o_y := hWy.1
          have a_y : hy.2.2 (b + 1) = .inr (8, _) := hWy.2.1.1.1
          have c_y : hy.2.2 (b + 3) = .inr (5, _) := cel_0 hWy.2.2.1.1
          have n_y : hy.2.2 (b + 5) = .inr (9, _) := hWy.2.2.2.1.1.1
          have p_y : hy.2.2 (b + 33) = .inr (6, _) := hWy.2.2.2.2.2.2.2.1.1.1
          have q_y : hy.2.2 (b + 152) = .inr (2, _) := cel_0 hWy.2.2.2.2.2.2.2.2.2.2.2.2.2.2.1.1
          obtain ⟨_, mm_y⟩ := hWy.2.2.2.2.2.2.2.2.2.2.2.2.2.2.2.1.1
          have m_y : hy.2.2 (b + 154) = .inr (4, _) := cel_0 mm_y
          have g_y : hy.2.2 (b + 159) = .inr (1, _) := cel_0 hWy.2.2.2.2.2.2.2.2.2.2.2.2.2.2.2.2.1.1
          simp only [s_162_0, s_162_1, s_162_2, s_162_3, s_162_5, s_162_6, s_162_7, s_162_8, s_162_11, s_162_14, s_162_17, s_162_18, s_162_21, s_162_22, s_162_25, s_162_26, s_162_29, s_162_30, s_162_33, s_162_34, s_162_35, s_162_36, s_162_39, s_162_40, s_162_43, s_162_44, s_162_45, s_162_46, s_162_49, s_162_52, s_162_55, s_162_58, s_162_61, s_162_62, s_162_65, s_162_66, s_162_69, s_162_72, s_162_73, s_112_0, s_112_1, s_112_4, s_112_5, s_112_6, s_112_7, s_112_8, s_112_9, s_112_12, s_112_13, s_112_16, s_112_17, s_112_18, s_112_21, s_112_24, s_112_25, s_112_26, s_112_29, s_112_30, s_112_33, s_112_34, s_112_35, s_112_36, x_get_i, List.getElem?_cons_succ, List.getElem?_cons_zero, x_cv_j, cs_n, cs_i, cs_r, cs_l, Nat.reduceAdd, Nat.reduceLeDiff, true_and, Option.toList_some, Option.toList_none, List.cons_append, List.nil_append, if_true, if_false, nb0, nb1, x_setJ, x_setZ0, x_setZ1, x_setA, x_setO, List.length_cons, List.length_nil, Nat.reduceLT, List.set_cons_succ, List.set_cons_zero, wrl_0, wrl_1, wrl_2, wrl_3, wrl_4, wrl_5, wrl_p0, wrl_p1, wrl_p2, wrl_p3, wrl_p4, o_y, a_y, c_y, n_y, p_y, q_y, m_y, g_y]
          refine c_tclear hWy (fun ha sA hWa => ?_)
          simp only [s_112_0, s_112_1, s_112_4, s_112_5, s_112_6, s_112_7, s_112_8, s_112_9, s_112_12, s_112_13, s_112_16, s_112_17, s_112_18, s_112_21, s_112_24, s_112_25, s_112_26, s_112_29, s_112_30, s_112_33, s_112_34, s_112_35, s_112_36, x_get_i, List.getElem?_cons_succ, List.getElem?_cons_zero, x_cv_j, cs_n, cs_i, cs_r, cs_l, Nat.reduceAdd, Nat.reduceLeDiff, true_and, Option.toList_some, Option.toList_none, List.cons_append, List.nil_append, if_true, if_false, nb0, nb1, x_setJ, x_setZ0, x_setZ1, x_setA, x_setO, List.length_cons, List.length_nil, Nat.reduceLT, List.set_cons_succ, List.set_cons_zero, wrl_0, wrl_1, wrl_2, wrl_3, wrl_4, wrl_5, wrl_p0, wrl_p1, wrl_p2, wrl_p3, wrl_p4]
          have h2 := h2 i ha hf k1 k2 k3 (sz.trans ((sy.mono (by omega) (by omega)).trans (sA.mono (by omega) (by omega))))
          rw [if_neg z0] at h2
          exact h2 hWa
      | succ j ih =>
        intro i hz hi sz hWz
        have o_z := hWz.1
        have a_z : hz.2.2 (b + 1) = .inr (8, _) := hWz.2.1.1.1
        have c_z : hz.2.2 (b + 3) = .inr (5, _) := cel_0 hWz.2.2.1.1
        have n_z : hz.2.2 (b + 5) = .inr (9, _) := hWz.2.2.2.1.1.1
        have p_z : hz.2.2 (b + 33) = .inr (6, _) := hWz.2.2.2.2.2.2.2.1.1.1
        have q_z : hz.2.2 (b + 152) = .inr (2, _) := cel_0 hWz.2.2.2.2.2.2.2.2.2.2.2.2.2.2.1.1
        obtain ⟨_, mm_z⟩ := hWz.2.2.2.2.2.2.2.2.2.2.2.2.2.2.2.1.1
        have m_z : hz.2.2 (b + 154) = .inr (4, _) := cel_0 mm_z
        have g_z : hz.2.2 (b + 159) = .inr (1, _) := cel_0 hWz.2.2.2.2.2.2.2.2.2.2.2.2.2.2.2.2.1.1
        have e4 : nI (5 * i) + 4 = nI (5 * i + 4) := nI_add _ 4
        have e1 : nI (5 * i) + 1 = nI (5 * i + 1) := nI_add _ 1
        have e2 : nI (5 * i) + 2 = nI (5 * i + 2) := nI_add _ 2
        have e3 : nI (5 * i + 2) + 1 = nI (5 * i + 3) := nI_add _ 1
        have e5 : nI (5 * i) + 5 = nI (5 * (i + 1)) := nI_add _ 5
        have htz : tx_in hz (b + 1) c F := hWz.2.1.1
        have en := adX_n (F := F) (X := nw) i
        rw [s_162_4]
        simp only [s_162_0, s_162_1, s_162_2, s_162_3, s_162_5, s_162_6, s_162_7, s_162_8, s_162_11, s_162_14, s_162_17, s_162_18, s_162_21, s_162_22, s_162_25, s_162_26, s_162_29, s_162_30, s_162_33, s_162_34, s_162_35, s_162_36, s_162_39, s_162_40, s_162_43, s_162_44, s_162_45, s_162_46, s_162_49, s_162_52, s_162_55, s_162_58, s_162_61, s_162_62, s_162_65, s_162_66, s_162_69, s_162_72, s_162_73, x_get_i, List.getElem?_cons_succ, List.getElem?_cons_zero, x_cv_j, cs_n, cs_i, cs_r, cs_l, Nat.reduceAdd, Nat.reduceLeDiff, true_and, Option.toList_some, Option.toList_none, List.cons_append, List.nil_append, if_true, if_false, nb0, nb1, x_setJ, x_setZ0, x_setZ1, x_setA, x_setO, List.length_cons, List.length_nil, Nat.reduceLT, List.set_cons_succ, List.set_cons_zero, wrl_0, wrl_1, wrl_2, wrl_3, wrl_4, wrl_5, wrl_p0, wrl_p1, wrl_p2, wrl_p3, wrl_p4, o_z, a_z, c_z, n_z, p_z, q_z, m_z, g_z, tx_size' htz, e4, e1, e2, e5, show ¬ nI c < nI (5 * i + 4) from nI_nlt (by omega) (by omega), tx_letterAt' htz hc80, tx_digitAt' htz hc80, tx_signedDigitAt' htz hc80, e3, txa_n (show 5 * i < c by omega) hc80, txa_n (show 5 * i + 1 < c by omega) hc80, txa_n (show 5 * i + 2 < c by omega) hc80, txa_n (show 5 * i + 3 < c by omega) hc80, nI_1]
        refine tca_call (T := tcT (adX F nw i)) (T' := tcT (adX F nw (i + 1))) (r := none) hWz.2.2.2.1.1 (fun a b' Q => ?_) (fun hy sy ty => ?_)
        · have := tc_add (sa := sa) (sc := sc) (xt := xt) (d := d + 4) (h := hz) (k := b + 5) (L := (adX F nw i).1) (W := (adX F nw i).2.1) (M := (adX F nw i).2.2.1) (B := (adX F nw i).2.2.2.1) (s := (adX F nw i).2.2.2.2.2.1) (g := (adX F nw i).2.2.2.2.2.2) (a := a) (b := b') (n := (adX F nw i).2.2.2.2.1) (Q := Q) (by omega) (F (5 * i) - 97) (F (5 * i + 1) - 48) (sgd F (5 * i + 2))
          exact this
        · simp only [s_162_0, s_162_1, s_162_2, s_162_3, s_162_5, s_162_6, s_162_7, s_162_8, s_162_11, s_162_14, s_162_17, s_162_18, s_162_21, s_162_22, s_162_25, s_162_26, s_162_29, s_162_30, s_162_33, s_162_34, s_162_35, s_162_36, s_162_39, s_162_40, s_162_43, s_162_44, s_162_45, s_162_46, s_162_49, s_162_52, s_162_55, s_162_58, s_162_61, s_162_62, s_162_65, s_162_66, s_162_69, s_162_72, s_162_73, x_get_i, List.getElem?_cons_succ, List.getElem?_cons_zero, x_cv_j, cs_n, cs_i, cs_r, cs_l, Nat.reduceAdd, Nat.reduceLeDiff, true_and, Option.toList_some, Option.toList_none, List.cons_append, List.nil_append, if_true, if_false, nb0, nb1, x_setJ, x_setZ0, x_setZ1, x_setA, x_setO, List.length_cons, List.length_nil, Nat.reduceLT, List.set_cons_succ, List.set_cons_zero, wrl_0, wrl_1, wrl_2, wrl_3, wrl_4, wrl_5, wrl_p0, wrl_p1, wrl_p2, wrl_p3, wrl_p4]
          exact ih (i + 1) hy (by omega) (sz.trans (sy.mono (by omega) (by omega))) (CW_n (nw' := adX F nw (i + 1)) hWz sy ⟨ty, adX_wf w_n.2 k2 k3 (i + 1) (by omega)⟩)
    simp only [s_162_0, s_162_1, s_162_2, s_162_3, s_162_5, s_162_6, s_162_7, s_162_8, s_162_11, s_162_14, s_162_17, s_162_18, s_162_21, s_162_22, s_162_25, s_162_26, s_162_29, s_162_30, s_162_33, s_162_34, s_162_35, s_162_36, s_162_39, s_162_40, s_162_43, s_162_44, s_162_45, s_162_46, s_162_49, s_162_52, s_162_55, s_162_58, s_162_61, s_162_62, s_162_65, s_162_66, s_162_69, s_162_72, s_162_73]
    exact loop k 0 h (by omega) sm.rfl hW
end
