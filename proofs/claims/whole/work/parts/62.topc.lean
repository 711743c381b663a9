/-! calls of the class: reads, law, years -/
theorem lg_cmpp {x : Int64} : lg_cmp x 0 ≤ 0 ↔ ¬ 0 < x := by
  unfold lg_cmp
  by_cases h1 : x > 0
  · rw [if_pos h1]
    constructor
    · intro e; exact absurd e (by decide)
    · intro e; exact absurd h1 e
  · rw [if_neg h1]
    constructor
    · intro _; exact h1
    · intro _; split <;> decide
/-- moods of sorts told behind two numbers -/
def lwN (M : Nat → Int32) (R : Nat → Int64) (a e : Int64) : Nat → Nat × (Nat → Int64) := fo (fun i x => (x.1 + 1, vp_updL x.2 x.1 (10 + M i).toInt64)) (rw2 R a e)
theorem lwN_1 {M : Nat → Int32} {R : Nat → Int64} {a e : Int64} : ∀ i, (lwN M R a e i).1 = i + 2
  | 0 => rfl
  | i + 1 => by
    show (lwN M R a e i).1 + 1 = i + 1 + 2
    rw [lwN_1 i]
def drw (x : Int32) : Int32 := x * 1103515245 + 12345
def dof (x n : Int32) : Int32 := if n ≤ 0 then 0 else ush x 16 - ush x 16 / n * n
theorem ush_16 (x : Int32) : ∃ y, y < 65536 ∧ ush x 16 = nI y := by
  refine ⟨x.toBitVec.toNat / 65536, ?_, ?_⟩
  · have := x.toBitVec.isLt
    omega
  · unfold ush
    apply Int32.toBitVec_inj.mp
    apply BitVec.eq_of_toNat_eq
    show (x.toBitVec >>> (16 : Nat)).toNat = (BitVec.ofNat 32 (x.toBitVec.toNat / 65536)).toNat
    rw [BitVec.toNat_ofNat, BitVec.toNat_ushiftRight, Nat.shiftRight_eq_div_pow]
    have := x.toBitVec.isLt
    exact (Nat.mod_eq_of_lt (by omega)).symm
theorem nI_div {a b : Nat} (ha : a < 2 ^ 31) (hb : b < 2 ^ 31) : nI a / nI b = nI (a / b) := by
  apply Int32.toInt_inj.mp
  have hle : a / b ≤ a := Nat.div_le_self _ _
  rw [Int32.toInt_div, nI_toInt ha, nI_toInt hb, nI_toInt (by omega)]
  have : ((a : Int).tdiv (b : Int)) = ((a / b : Nat) : Int) := (Int.ofNat_tdiv a b).symm
  rw [this]
  generalize a / b = q at hle
  rw [Int.bmod_eq_of_le (by omega) (by omega)]
theorem dof_n {x : Int32} {n : Nat} (h0 : 0 < n) (hn : n < 2 ^ 31) : ∃ y, y < n ∧ dof x (nI n) = nI y := by
  obtain ⟨y, hy, e⟩ := ush_16 x
  refine ⟨y % n, Nat.mod_lt _ h0, ?_⟩
  unfold dof
  rw [if_neg (nI_nle h0 hn), e, nI_div (by omega) hn, nI_mul]
  have h1 : y / n * n ≤ y := Nat.div_mul_le_self y n
  rw [nI_s h1]
  congr 1
  have := Nat.div_add_mod y n
  rw [Nat.mul_comm] at this
  omega
/-- one time of years(): sorts, what is drawn -/
def yst (cd : List Int32) (a : TN × Int32) : TN × Int32 :=
  if dof (drw a.2) 4 < 2 then (nXT cd (tc_allv (nI a.1.2.2.2.2.1)) 1 a.1, drw a.2)
  else if a.1.2.2.2.2.1 = 0 then (a.1, drw a.2)
  else if dof (drw a.2) 4 = 2 then ((a.1.1, a.1.2.1, upd a.1.2.2.1 (dof (drw (drw a.2)) (nI a.1.2.2.2.2.1)).toNatClampNeg (dof (drw (drw (drw a.2))) 19 - 9), a.1.2.2.2), drw (drw (drw a.2)))
  else if (a.1.2.2.2.2.2.1 >>> (dof (drw (drw a.2)) (nI a.1.2.2.2.2.1) &&& 31)) &&& 1 = 1 then (a.1, drw (drw (drw a.2)))
  else ((a.1.1, a.1.2.1, a.1.2.2.1, upd a.1.2.2.2.1 (dof (drw (drw a.2)) (nI a.1.2.2.2.2.1)).toNatClampNeg (dof (drw (drw (drw a.2))) 8), a.1.2.2.2.2), drw (drw (drw a.2)))
def itf {α : Type} (f : α → α) : Nat → α → α
  | 0, a => a
  | j + 1, a => itf f j (f a)
theorem itf_0 {α : Type} {f : α → α} {a : α} : itf f 0 a = a := rfl
theorem itf_s {α : Type} {f : α → α} {j : Nat} {a : α} : itf f (j + 1) a = itf f j (f a) := rfl
section
variable {sa : g_SA} {sc : Nat × Nat × (Nat → Int32)} {xt : Nat → Nat → List Value → tm_H → Option (Option Value × tm_H)} {d b : Nat} {h : tm_H} {Q : Option Value → tm_H → Prop}
variable {tx : Nat × (Nat → Int32)} {rw : Nat × (Nat → Int64)} {nw : TN} {pa : Nat × Nat × (Nat → TN) × (Nat → TN) × (Nat → Int32)} {ru : Nat × Nat × List Int32} {he : Nat × (Nat → Int32)} {mi : Nat × (Nat → Int32) × (Nat → Int32) × (Nat → Int32)} {ga : Nat}
variable {c n m : Nat} {F L W M B H Ms Bs Os : Nat → Int32} {s g : Int32} {rc hc mc : Nat} {R : Nat → Int64} {r1 r2 : Nat} {cd0 : List Int32}
theorem c_reads (hW : CW sa h b (c, F) (rc, R) (L, W, M, B, n, s, g) pa ru he mi ga) (p : Int32) (h1 : ∀ q h', lrd F 0 c 0 = some q → sm b (b + 162) h h' → CW sa h' b (0, F) (rc, R) (L, W, M, B, n, s, g) pa ru he mi ga → Q (some (.int (-1 - nI q))) h') (h2 : ∀ h', lrd F 0 c 0 = none → (p < 0 ∨ 10 < p) → sm b (b + 162) h h' → CW sa h' b (0, F) (rc, R) (L, W, M, B, n, s, g) pa ru he mi ga → Q (some (.int (-100))) h') (h3 : ∀ h', lrd F 0 c 0 = none → ¬ (p < 0 ∨ 10 < p) → tkn L W n s F c = none → sm b (b + 162) h h' → CW sa h' b (0, F) (rc, R) (L, W, M, B, n, s, g) pa ru he mi ga → Q (some (.int (-101))) h') (h4 : ∀ t h', lrd F 0 c 0 = none → ¬ (p < 0 ∨ 10 < p) → tkn L W n s F c = some t → sm b (b + 162) h h' → CW sa h' b (0, F) (if 0 < rdc p c then rw2 R (rdr p c / rdc p c) (rda (c - 1) / rdc p c) else (rc, R)) (L, W, M, B, n, s, g) pa ru he mi ga → Q (some (.int 0)) h') : tm_D (g_G sa sc xt) (d + 4) 147 [.ref b, .int p] h Q := by
  obtain ⟨w_o, w_t, w_r, w_n, w_h, w_l, w_b, w_p, w_u, w_v, w_a, w_e, w_w, w_x, w_q, w_m, w_g, w_d, w_s⟩ := id hW
  have hc80 : c ≤ 80 := w_t.2.1
  have hn : n ≤ 12 := w_n.2.1
  rw [e_147]
  simp only [s_147_0, s_147_1, s_147_4, s_147_5, s_147_6, s_147_7, s_147_10, s_147_11, s_147_12, s_147_13, s_147_14, s_147_15, s_147_18, s_147_19, s_147_21, s_147_24, s_147_26, s_147_27, s_147_28, s_147_31, s_147_32, s_147_35, s_147_38, s_147_39, s_147_42, s_147_44, s_147_45, s_147_46, s_147_47, s_147_50, s_147_52, s_147_53, s_147_57, s_147_58, s_147_61, s_147_64, s_147_67, s_147_68, s_147_70, s_147_71, s_147_72, s_147_73, s_147_74, s_147_75, s_147_77, s_147_80, s_147_81, s_147_83, s_147_86, s_147_89, s_147_90, s_147_92, s_147_93, s_147_94, s_147_95, s_147_96, s_147_97, s_147_100, s_147_103, s_147_104, s_147_105, s_147_106, s_147_107, s_147_108, s_147_109, s_147_111, s_147_113, s_147_115, s_147_118, s_147_120, s_147_122, s_147_123, s_147_124, s_147_127, s_147_128, s_147_131, s_147_133, s_147_135, s_147_136, s_147_138, s_147_140, s_147_141, s_147_144, s_147_145, x_get_i, List.getElem?_cons_succ, List.getElem?_cons_zero, x_cv_j, cs_n, cs_i, cs_r, cs_l, Nat.reduceAdd, Nat.reduceLeDiff, true_and, Option.toList_some, Option.toList_none, List.cons_append, List.nil_append, if_true, if_false, nb0, nb1, x_setJ, x_setZ0, x_setZ1, x_setA, x_setO, List.length_cons, List.length_nil, Nat.reduceLT, List.set_cons_succ, List.set_cons_zero, wrl_0, wrl_1, wrl_2, wrl_3, wrl_4, wrl_5, wrl_p0, wrl_p1, wrl_p2, wrl_p3, wrl_p4, w_o]
  refine c_readLetters hW (fun ha N P p1 sA hWa ca => ?_)
  have o_a := hWa.1
  have a_a : ha.2.2 (b + 1) = .inr (8, _) := hWa.2.1.1.1
  have c_a : ha.2.2 (b + 3) = .inr (5, _) := cel_0 hWa.2.2.1.1
  have n_a : ha.2.2 (b + 5) = .inr (9, _) := hWa.2.2.2.1.1.1
  have p_a : ha.2.2 (b + 33) = .inr (6, _) := hWa.2.2.2.2.2.2.2.1.1.1
  have q_a : ha.2.2 (b + 152) = .inr (2, _) := cel_0 hWa.2.2.2.2.2.2.2.2.2.2.2.2.2.2.1.1
  obtain ⟨_, mm_a⟩ := hWa.2.2.2.2.2.2.2.2.2.2.2.2.2.2.2.1.1
  have m_a : ha.2.2 (b + 154) = .inr (4, _) := cel_0 mm_a
  have g_a : ha.2.2 (b + 159) = .inr (1, _) := cel_0 hWa.2.2.2.2.2.2.2.2.2.2.2.2.2.2.2.2.1.1
  cases hf : lrd F 0 c 0 with
  | some p0 =>
    have hp := lrd_lt (Nat.le_refl 0) hf
    simp only [s_147_0, s_147_1, s_147_4, s_147_5, s_147_6, s_147_7, s_147_10, s_147_11, s_147_12, s_147_13, s_147_14, s_147_15, s_147_18, s_147_19, s_147_21, s_147_24, s_147_26, s_147_27, s_147_28, s_147_31, s_147_32, s_147_35, s_147_38, s_147_39, s_147_42, s_147_44, s_147_45, s_147_46, s_147_47, s_147_50, s_147_52, s_147_53, s_147_57, s_147_58, s_147_61, s_147_64, s_147_67, s_147_68, s_147_70, s_147_71, s_147_72, s_147_73, s_147_74, s_147_75, s_147_77, s_147_80, s_147_81, s_147_83, s_147_86, s_147_89, s_147_90, s_147_92, s_147_93, s_147_94, s_147_95, s_147_96, s_147_97, s_147_100, s_147_103, s_147_104, s_147_105, s_147_106, s_147_107, s_147_108, s_147_109, s_147_111, s_147_113, s_147_115, s_147_118, s_147_120, s_147_122, s_147_123, s_147_124, s_147_127, s_147_128, s_147_131, s_147_133, s_147_135, s_147_136, s_147_138, s_147_140, s_147_141, s_147_144, s_147_145, x_get_i, List.getElem?_cons_succ, List.getElem?_cons_zero, x_cv_j, cs_n, cs_i, cs_r, cs_l, Nat.reduceAdd, Nat.reduceLeDiff, true_and, Option.toList_some, Option.toList_none, List.cons_append, List.nil_append, if_true, if_false, nb0, nb1, x_setJ, x_setZ0, x_setZ1, x_setA, x_setO, List.length_cons, List.length_nil, Nat.reduceLT, List.set_cons_succ, List.set_cons_zero, wrl_0, wrl_1, wrl_2, wrl_3, wrl_4, wrl_5, wrl_p0, wrl_p1, wrl_p2, wrl_p3, wrl_p4, oI, oI_ne (show p0 < 2 ^ 31 by omega)]
    exact h1 p0 ha hf sA hWa
  | none =>
    rw [hf, Option.getD_none] at ca
    simp only [s_147_0, s_147_1, s_147_4, s_147_5, s_147_6, s_147_7, s_147_10, s_147_11, s_147_12, s_147_13, s_147_14, s_147_15, s_147_18, s_147_19, s_147_21, s_147_24, s_147_26, s_147_27, s_147_28, s_147_31, s_147_32, s_147_35, s_147_38, s_147_39, s_147_42, s_147_44, s_147_45, s_147_46, s_147_47, s_147_50, s_147_52, s_147_53, s_147_57, s_147_58, s_147_61, s_147_64, s_147_67, s_147_68, s_147_70, s_147_71, s_147_72, s_147_73, s_147_74, s_147_75, s_147_77, s_147_80, s_147_81, s_147_83, s_147_86, s_147_89, s_147_90, s_147_92, s_147_93, s_147_94, s_147_95, s_147_96, s_147_97, s_147_100, s_147_103, s_147_104, s_147_105, s_147_106, s_147_107, s_147_108, s_147_109, s_147_111, s_147_113, s_147_115, s_147_118, s_147_120, s_147_122, s_147_123, s_147_124, s_147_127, s_147_128, s_147_131, s_147_133, s_147_135, s_147_136, s_147_138, s_147_140, s_147_141, s_147_144, s_147_145, x_get_i, List.getElem?_cons_succ, List.getElem?_cons_zero, x_cv_j, cs_n, cs_i, cs_r, cs_l, Nat.reduceAdd, Nat.reduceLeDiff, true_and, Option.toList_some, Option.toList_none, List.cons_append, List.nil_append, if_true, if_false, nb0, nb1, x_setJ, x_setZ0, x_setZ1, x_setA, x_setO, List.length_cons, List.length_nil, Nat.reduceLT, List.set_cons_succ, List.set_cons_zero, wrl_0, wrl_1, wrl_2, wrl_3, wrl_4, wrl_5, wrl_p0, wrl_p1, wrl_p2, wrl_p3, wrl_p4, oI]
    by_cases k1 : p < 0
    · simp only [k1, if_true]
      exact h2 ha hf (Or.inl k1) sA hWa
    by_cases k2 : p ≤ 10
    · have k0 : ¬ (p < 0 ∨ 10 < p) := by
        rintro (q | q)
        · exact k1 q
        · exact Int32.not_lt.mpr k2 q
      simp only [k1, k2, if_true, if_false, s_147_0, s_147_1, s_147_4, s_147_5, s_147_6, s_147_7, s_147_10, s_147_11, s_147_12, s_147_13, s_147_14, s_147_15, s_147_18, s_147_19, s_147_21, s_147_24, s_147_26, s_147_27, s_147_28, s_147_31, s_147_32, s_147_35, s_147_38, s_147_39, s_147_42, s_147_44, s_147_45, s_147_46, s_147_47, s_147_50, s_147_52, s_147_53, s_147_57, s_147_58, s_147_61, s_147_64, s_147_67, s_147_68, s_147_70, s_147_71, s_147_72, s_147_73, s_147_74, s_147_75, s_147_77, s_147_80, s_147_81, s_147_83, s_147_86, s_147_89, s_147_90, s_147_92, s_147_93, s_147_94, s_147_95, s_147_96, s_147_97, s_147_100, s_147_103, s_147_104, s_147_105, s_147_106, s_147_107, s_147_108, s_147_109, s_147_111, s_147_113, s_147_115, s_147_118, s_147_120, s_147_122, s_147_123, s_147_124, s_147_127, s_147_128, s_147_131, s_147_133, s_147_135, s_147_136, s_147_138, s_147_140, s_147_141, s_147_144, s_147_145, x_get_i, List.getElem?_cons_succ, List.getElem?_cons_zero, x_cv_j, cs_n, cs_i, cs_r, cs_l, Nat.reduceAdd, Nat.reduceLeDiff, true_and, Option.toList_some, Option.toList_none, List.cons_append, List.nil_append, if_true, if_false, nb0, nb1, x_setJ, x_setZ0, x_setZ1, x_setA, x_setO, List.length_cons, List.length_nil, Nat.reduceLT, List.set_cons_succ, List.set_cons_zero, wrl_0, wrl_1, wrl_2, wrl_3, wrl_4, wrl_5, wrl_p0, wrl_p1, wrl_p2, wrl_p3, wrl_p4, o_a, a_a, c_a, n_a, p_a, q_a, m_a, g_a]
      rw [c_take hWa ca hc80]
      cases ht : tkn L W n s F c with
      | none =>
        simp only [s_147_0, s_147_1, s_147_4, s_147_5, s_147_6, s_147_7, s_147_10, s_147_11, s_147_12, s_147_13, s_147_14, s_147_15, s_147_18, s_147_19, s_147_21, s_147_24, s_147_26, s_147_27, s_147_28, s_147_31, s_147_32, s_147_35, s_147_38, s_147_39, s_147_42, s_147_44, s_147_45, s_147_46, s_147_47, s_147_50, s_147_52, s_147_53, s_147_57, s_147_58, s_147_61, s_147_64, s_147_67, s_147_68, s_147_70, s_147_71, s_147_72, s_147_73, s_147_74, s_147_75, s_147_77, s_147_80, s_147_81, s_147_83, s_147_86, s_147_89, s_147_90, s_147_92, s_147_93, s_147_94, s_147_95, s_147_96, s_147_97, s_147_100, s_147_103, s_147_104, s_147_105, s_147_106, s_147_107, s_147_108, s_147_109, s_147_111, s_147_113, s_147_115, s_147_118, s_147_120, s_147_122, s_147_123, s_147_124, s_147_127, s_147_128, s_147_131, s_147_133, s_147_135, s_147_136, s_147_138, s_147_140, s_147_141, s_147_144, s_147_145, x_get_i, List.getElem?_cons_succ, List.getElem?_cons_zero, x_cv_j, cs_n, cs_i, cs_r, cs_l, Nat.reduceAdd, Nat.reduceLeDiff, true_and, Option.toList_some, Option.toList_none, List.cons_append, List.nil_append, if_true, if_false, nb0, nb1, x_setJ, x_setZ0, x_setZ1, x_setA, x_setO, List.length_cons, List.length_nil, Nat.reduceLT, List.set_cons_succ, List.set_cons_zero, wrl_0, wrl_1, wrl_2, wrl_3, wrl_4, wrl_5, wrl_p0, wrl_p1, wrl_p2, wrl_p3, wrl_p4, o2]
        exact h3 ha hf k0 ht sA hWa
      | some t =>
        simp only [s_147_0, s_147_1, s_147_4, s_147_5, s_147_6, s_147_7, s_147_10, s_147_11, s_147_12, s_147_13, s_147_14, s_147_15, s_147_18, s_147_19, s_147_21, s_147_24, s_147_26, s_147_27, s_147_28, s_147_31, s_147_32, s_147_35, s_147_38, s_147_39, s_147_42, s_147_44, s_147_45, s_147_46, s_147_47, s_147_50, s_147_52, s_147_53, s_147_57, s_147_58, s_147_61, s_147_64, s_147_67, s_147_68, s_147_70, s_147_71, s_147_72, s_147_73, s_147_74, s_147_75, s_147_77, s_147_80, s_147_81, s_147_83, s_147_86, s_147_89, s_147_90, s_147_92, s_147_93, s_147_94, s_147_95, s_147_96, s_147_97, s_147_100, s_147_103, s_147_104, s_147_105, s_147_106, s_147_107, s_147_108, s_147_109, s_147_111, s_147_113, s_147_115, s_147_118, s_147_120, s_147_122, s_147_123, s_147_124, s_147_127, s_147_128, s_147_131, s_147_133, s_147_135, s_147_136, s_147_138, s_147_140, s_147_141, s_147_144, s_147_145, x_get_i, List.getElem?_cons_succ, List.getElem?_cons_zero, x_cv_j, cs_n, cs_i, cs_r, cs_l, Nat.reduceAdd, Nat.reduceLeDiff, true_and, Option.toList_some, Option.toList_none, List.cons_append, List.nil_append, if_true, if_false, nb0, nb1, x_setJ, x_setZ0, x_setZ1, x_setA, x_setO, List.length_cons, List.length_nil, Nat.reduceLT, List.set_cons_succ, List.set_cons_zero, wrl_0, wrl_1, wrl_2, wrl_3, wrl_4, wrl_5, wrl_p0, wrl_p1, wrl_p2, wrl_p3, wrl_p4, o2, tkn_ne hn ht]
        have hc1 : 1 ≤ c := by
          apply Classical.byContradiction
          intro q
          have : c = 0 := by omega
          subst this
          cases hf
        have z0 := cel_0 ca
        have loop : ∀ (j i : Nat) (x8 x9 xa : Value), i + 1 + j = c → tm_X (g_G sa sc xt) (d + 4) 147 55 [.ref b, .int p, .int (-1), .long (rdo p i), tm_z, .long (rda i), tm_z, .int (nI (i + 1)), x8, x9, xa] [] ha Q := by
          intro j
          induction j with
          | zero =>
            intro i x8 x9 xa hi
            have hi' : c - 1 = i := by omega
            rw [s_147_55]
            simp only [s_147_0, s_147_1, s_147_4, s_147_5, s_147_6, s_147_7, s_147_10, s_147_11, s_147_12, s_147_13, s_147_14, s_147_15, s_147_18, s_147_19, s_147_21, s_147_24, s_147_26, s_147_27, s_147_28, s_147_31, s_147_32, s_147_35, s_147_38, s_147_39, s_147_42, s_147_44, s_147_45, s_147_46, s_147_47, s_147_50, s_147_52, s_147_53, s_147_57, s_147_58, s_147_61, s_147_64, s_147_67, s_147_68, s_147_70, s_147_71, s_147_72, s_147_73, s_147_74, s_147_75, s_147_77, s_147_80, s_147_81, s_147_83, s_147_86, s_147_89, s_147_90, s_147_92, s_147_93, s_147_94, s_147_95, s_147_96, s_147_97, s_147_100, s_147_103, s_147_104, s_147_105, s_147_106, s_147_107, s_147_108, s_147_109, s_147_111, s_147_113, s_147_115, s_147_118, s_147_120, s_147_122, s_147_123, s_147_124, s_147_127, s_147_128, s_147_131, s_147_133, s_147_135, s_147_136, s_147_138, s_147_140, s_147_141, s_147_144, s_147_145, x_get_i, List.getElem?_cons_succ, List.getElem?_cons_zero, x_cv_j, cs_n, cs_i, cs_r, cs_l, Nat.reduceAdd, Nat.reduceLeDiff, true_and, Option.toList_some, Option.toList_none, List.cons_append, List.nil_append, if_true, if_false, nb0, nb1, x_setJ, x_setZ0, x_setZ1, x_setA, x_setO, List.length_cons, List.length_nil, Nat.reduceLT, List.set_cons_succ, List.set_cons_zero, wrl_0, wrl_1, wrl_2, wrl_3, wrl_4, wrl_5, wrl_p0, wrl_p1, wrl_p2, wrl_p3, wrl_p4, o_a, z0, show nI c ≤ nI (i + 1) from nI_le (by omega) (by omega), c_cdv]
            have er : rdo p i * (10 - p).toInt64 + (nI c * p).toInt64 * rdo p i = rdr p c := by unfold rdr; rw [hi']
            have ec : cdv 200 (rda i) (rdr p c) = rdc p c := by unfold rdc; rw [hi']
            rw [er, ec]
            simp only [lg_cmpp]
            have h4 := h4 t
            rw [hi'] at h4
            by_cases k3 : 0 < rdc p c
            · rw [if_pos k3] at h4
              have k4 : ¬ rdc p c = 0 := fun e => by rw [e] at k3; exact Int64.lt_irrefl k3
              simp only [k3, k4, not_true_eq_false, if_false, s_147_0, s_147_1, s_147_4, s_147_5, s_147_6, s_147_7, s_147_10, s_147_11, s_147_12, s_147_13, s_147_14, s_147_15, s_147_18, s_147_19, s_147_21, s_147_24, s_147_26, s_147_27, s_147_28, s_147_31, s_147_32, s_147_35, s_147_38, s_147_39, s_147_42, s_147_44, s_147_45, s_147_46, s_147_47, s_147_50, s_147_52, s_147_53, s_147_57, s_147_58, s_147_61, s_147_64, s_147_67, s_147_68, s_147_70, s_147_71, s_147_72, s_147_73, s_147_74, s_147_75, s_147_77, s_147_80, s_147_81, s_147_83, s_147_86, s_147_89, s_147_90, s_147_92, s_147_93, s_147_94, s_147_95, s_147_96, s_147_97, s_147_100, s_147_103, s_147_104, s_147_105, s_147_106, s_147_107, s_147_108, s_147_109, s_147_111, s_147_113, s_147_115, s_147_118, s_147_120, s_147_122, s_147_123, s_147_124, s_147_127, s_147_128, s_147_131, s_147_133, s_147_135, s_147_136, s_147_138, s_147_140, s_147_141, s_147_144, s_147_145, x_get_i, List.getElem?_cons_succ, List.getElem?_cons_zero, x_cv_j, cs_n, cs_i, cs_r, cs_l, Nat.reduceAdd, Nat.reduceLeDiff, true_and, Option.toList_some, Option.toList_none, List.cons_append, List.nil_append, if_true, if_false, nb0, nb1, x_setJ, x_setZ0, x_setZ1, x_setA, x_setO, List.length_cons, List.length_nil, Nat.reduceLT, List.set_cons_succ, List.set_cons_zero, wrl_0, wrl_1, wrl_2, wrl_3, wrl_4, wrl_5, wrl_p0, wrl_p1, wrl_p2, wrl_p3, wrl_p4, o_a, c_a]
              refine c_tell2 hWa _ _ (fun hb sB hWb => ?_)
              simp only [s_147_0, s_147_1, s_147_4, s_147_5, s_147_6, s_147_7, s_147_10, s_147_11, s_147_12, s_147_13, s_147_14, s_147_15, s_147_18, s_147_19, s_147_21, s_147_24, s_147_26, s_147_27, s_147_28, s_147_31, s_147_32, s_147_35, s_147_38, s_147_39, s_147_42, s_147_44, s_147_45, s_147_46, s_147_47, s_147_50, s_147_52, s_147_53, s_147_57, s_147_58, s_147_61, s_147_64, s_147_67, s_147_68, s_147_70, s_147_71, s_147_72, s_147_73, s_147_74, s_147_75, s_147_77, s_147_80, s_147_81, s_147_83, s_147_86, s_147_89, s_147_90, s_147_92, s_147_93, s_147_94, s_147_95, s_147_96, s_147_97, s_147_100, s_147_103, s_147_104, s_147_105, s_147_106, s_147_107, s_147_108, s_147_109, s_147_111, s_147_113, s_147_115, s_147_118, s_147_120, s_147_122, s_147_123, s_147_124, s_147_127, s_147_128, s_147_131, s_147_133, s_147_135, s_147_136, s_147_138, s_147_140, s_147_141, s_147_144, s_147_145, x_get_i, List.getElem?_cons_succ, List.getElem?_cons_zero, x_cv_j, cs_n, cs_i, cs_r, cs_l, Nat.reduceAdd, Nat.reduceLeDiff, true_and, Option.toList_some, Option.toList_none, List.cons_append, List.nil_append, if_true, if_false, nb0, nb1, x_setJ, x_setZ0, x_setZ1, x_setA, x_setO, List.length_cons, List.length_nil, Nat.reduceLT, List.set_cons_succ, List.set_cons_zero, wrl_0, wrl_1, wrl_2, wrl_3, wrl_4, wrl_5, wrl_p0, wrl_p1, wrl_p2, wrl_p3, wrl_p4]
              exact h4 hb hf k0 ht (sA.trans (sB.mono (by omega) (by omega))) hWb
            · rw [if_neg k3] at h4
              simp only [k3, not_false_eq_true, if_true]
              exact h4 ha hf k0 ht sA hWa
          | succ j ih =>
            intro i x8 x9 xa hi
            rw [s_147_55]
            simp only [s_147_0, s_147_1, s_147_4, s_147_5, s_147_6, s_147_7, s_147_10, s_147_11, s_147_12, s_147_13, s_147_14, s_147_15, s_147_18, s_147_19, s_147_21, s_147_24, s_147_26, s_147_27, s_147_28, s_147_31, s_147_32, s_147_35, s_147_38, s_147_39, s_147_42, s_147_44, s_147_45, s_147_46, s_147_47, s_147_50, s_147_52, s_147_53, s_147_57, s_147_58, s_147_61, s_147_64, s_147_67, s_147_68, s_147_70, s_147_71, s_147_72, s_147_73, s_147_74, s_147_75, s_147_77, s_147_80, s_147_81, s_147_83, s_147_86, s_147_89, s_147_90, s_147_92, s_147_93, s_147_94, s_147_95, s_147_96, s_147_97, s_147_100, s_147_103, s_147_104, s_147_105, s_147_106, s_147_107, s_147_108, s_147_109, s_147_111, s_147_113, s_147_115, s_147_118, s_147_120, s_147_122, s_147_123, s_147_124, s_147_127, s_147_128, s_147_131, s_147_133, s_147_135, s_147_136, s_147_138, s_147_140, s_147_141, s_147_144, s_147_145, x_get_i, List.getElem?_cons_succ, List.getElem?_cons_zero, x_cv_j, cs_n, cs_i, cs_r, cs_l, Nat.reduceAdd, Nat.reduceLeDiff, true_and, Option.toList_some, Option.toList_none, List.cons_append, List.nil_append, if_true, if_false, nb0, nb1, x_setJ, x_setZ0, x_setZ1, x_setA, x_setO, List.length_cons, List.length_nil, Nat.reduceLT, List.set_cons_succ, List.set_cons_zero, wrl_0, wrl_1, wrl_2, wrl_3, wrl_4, wrl_5, wrl_p0, wrl_p1, wrl_p2, wrl_p3, wrl_p4, o_a, z0, show ¬ nI c ≤ nI (i + 1) from nI_ge (by omega) (by omega), nI_1]
            exact ih (i + 1) _ _ _ (by omega)
        exact loop (c - 1) 0 _ _ _ (by omega)
    · simp only [k1, k2, if_false]
      exact h2 ha hf (Or.inr (Int32.not_le.mp k2)) sA hWa
theorem c_law (hW : CW sa h b (c, F) (rc, R) nw pa (r1, r2, cd0) he mi ga) (h1 : ∀ q h', rrd F c = .inl q → sm b (b + 162) h h' → CW sa h' b (0, F) (rc, R) nw pa (r1, r2, cd0) he mi ga → Q (some (.int (-10000 - nI q))) h') (h2 : ∀ cd h', rrd F c = .inr cd → sm b (b + 162) h h' → CW sa h' b (0, F) (lwN (nXT cd (tc_allv (nI nw.2.2.2.2.1)) 5 nw).2.2.1 R (tc_far (nXT cd (tc_allv (nI nw.2.2.2.2.1)) 5 nw).2.2.1 nw.2.2.2.2.1).toInt64 (tc_far (nXT cd0 (tc_allv (nI nw.2.2.2.2.1)) 5 nw).2.2.1 nw.2.2.2.2.1).toInt64 nw.2.2.2.2.1) nw pa (r1, r2, cd0) he mi ga → Q (some (.int (tc_far (nXT cd (tc_allv (nI nw.2.2.2.2.1)) 5 nw).2.2.1 nw.2.2.2.2.1 - tc_far (nXT cd0 (tc_allv (nI nw.2.2.2.2.1)) 5 nw).2.2.1 nw.2.2.2.2.1))) h') : tm_D (g_G sa sc xt) (d + 52) 150 [.ref b] h Q := by
  obtain ⟨w_o, w_t, w_r, w_n, w_h, w_l, w_b, w_p, w_u, w_v, w_a, w_e, w_w, w_x, w_q, w_m, w_g, w_d, w_s⟩ := id hW
  have o_0 := hW.1
  have a_0 : h.2.2 (b + 1) = .inr (8, _) := hW.2.1.1.1
  have c_0 : h.2.2 (b + 3) = .inr (5, _) := cel_0 hW.2.2.1.1
  have n_0 : h.2.2 (b + 5) = .inr (9, _) := hW.2.2.2.1.1.1
  have p_0 : h.2.2 (b + 33) = .inr (6, _) := hW.2.2.2.2.2.2.2.1.1.1
  have q_0 : h.2.2 (b + 152) = .inr (2, _) := cel_0 hW.2.2.2.2.2.2.2.2.2.2.2.2.2.2.1.1
  obtain ⟨_, mm_0⟩ := hW.2.2.2.2.2.2.2.2.2.2.2.2.2.2.2.1.1
  have m_0 : h.2.2 (b + 154) = .inr (4, _) := cel_0 mm_0
  have g_0 : h.2.2 (b + 159) = .inr (1, _) := cel_0 hW.2.2.2.2.2.2.2.2.2.2.2.2.2.2.2.2.1.1
  have wa : (r1 = b + 135 ∧ r2 = b + 139) ∨ (r1 = b + 139 ∧ r2 = b + 135) := w_a
  have hn : nw.2.2.2.2.1 ≤ 12 := w_n.2.1
  obtain ⟨E0, P0, K0, z0, hb0, a0, e0, cv⟩ := w_v
  have v0 : h.2.2 r2 = .inr (7, _) := cv 0 _ rfl
  rw [e_150]
  simp only [s_150_0, s_150_1, s_150_4, s_150_5, s_150_8, s_150_11, s_150_12, s_150_13, s_150_16, s_150_19, s_150_20, s_150_21, s_150_24, s_150_27, s_150_28, s_150_29, s_150_30, s_150_31, s_150_34, s_150_35, s_150_38, s_150_41, s_150_42, s_150_45, s_150_46, s_150_49, s_150_50, s_150_51, s_150_54, s_150_57, s_150_60, s_150_61, s_150_64, s_150_67, s_150_68, s_150_69, s_150_72, s_150_73, s_150_76, s_150_79, s_150_80, s_150_83, s_150_84, s_150_87, s_150_88, s_150_89, s_150_92, s_150_95, s_150_98, s_150_99, s_150_102, s_150_105, s_150_106, s_150_107, s_150_110, s_150_111, s_150_112, s_150_113, s_150_114, s_150_117, s_150_118, s_150_122, s_150_123, s_150_126, s_150_129, s_150_132, s_150_133, s_150_136, s_150_138, s_150_139, s_150_142, s_150_145, s_150_147, s_150_148, s_150_149, s_150_150, s_150_153, s_150_156, s_150_159, s_150_160, s_150_161, s_150_162, x_get_i, List.getElem?_cons_succ, List.getElem?_cons_zero, x_cv_j, cs_n, cs_i, cs_r, cs_l, Nat.reduceAdd, Nat.reduceLeDiff, true_and, Option.toList_some, Option.toList_none, List.cons_append, List.nil_append, if_true, if_false, nb0, nb1, x_setJ, x_setZ0, x_setZ1, x_setA, x_setO, List.length_cons, List.length_nil, Nat.reduceLT, List.set_cons_succ, List.set_cons_zero, wrl_0, wrl_1, wrl_2, wrl_3, wrl_4, wrl_5, wrl_p0, wrl_p1, wrl_p2, wrl_p3, wrl_p4, o_0, a_0, v0]
  refine c_rread (ru := (r1, r2, cd0)) hW (fun cd ha er sA hWa rA => ?_) (fun q ha er hq sA hWa => ?_)
  · have o_a := hWa.1
    have a_a : ha.2.2 (b + 1) = .inr (8, _) := hWa.2.1.1.1
    have sA : sm r2 (r2 + 4) h ha := sA
    have rA : RUc ha r2 cd := rA
    simp only [s_150_0, s_150_1, s_150_4, s_150_5, s_150_8, s_150_11, s_150_12, s_150_13, s_150_16, s_150_19, s_150_20, s_150_21, s_150_24, s_150_27, s_150_28, s_150_29, s_150_30, s_150_31, s_150_34, s_150_35, s_150_38, s_150_41, s_150_42, s_150_45, s_150_46, s_150_49, s_150_50, s_150_51, s_150_54, s_150_57, s_150_60, s_150_61, s_150_64, s_150_67, s_150_68, s_150_69, s_150_72, s_150_73, s_150_76, s_150_79, s_150_80, s_150_83, s_150_84, s_150_87, s_150_88, s_150_89, s_150_92, s_150_95, s_150_98, s_150_99, s_150_102, s_150_105, s_150_106, s_150_107, s_150_110, s_150_111, s_150_112, s_150_113, s_150_114, s_150_117, s_150_118, s_150_122, s_150_123, s_150_126, s_150_129, s_150_132, s_150_133, s_150_136, s_150_138, s_150_139, s_150_142, s_150_145, s_150_147, s_150_148, s_150_149, s_150_150, s_150_153, s_150_156, s_150_159, s_150_160, s_150_161, s_150_162, x_get_i, List.getElem?_cons_succ, List.getElem?_cons_zero, x_cv_j, cs_n, cs_i, cs_r, cs_l, Nat.reduceAdd, Nat.reduceLeDiff, true_and, Option.toList_some, Option.toList_none, List.cons_append, List.nil_append, if_true, if_false, nb0, nb1, x_setJ, x_setZ0, x_setZ1, x_setA, x_setO, List.length_cons, List.length_nil, Nat.reduceLT, List.set_cons_succ, List.set_cons_zero, wrl_0, wrl_1, wrl_2, wrl_3, wrl_4, wrl_5, wrl_p0, wrl_p1, wrl_p2, wrl_p3, wrl_p4, o_a, a_a]
    refine c_tclear hWa (fun hb sB hWb => ?_)
    have rB : RUc hb r2 cd := RUc_sm sB (by omega) rA
    have o_b := hWb.1
    have n_b : hb.2.2 (b + 5) = .inr (9, _) := hWb.2.2.2.1.1.1
    obtain ⟨Tb, hTb⟩ := hWb.2.2.2.2.1
    have x_b : hb.2.2 (b + 12) = .inr (9, _) := hTb.1
    have sAB := (sA.mono (lo' := b) (hi' := b + 162) (by omega) (by omega)).trans (sB.mono (lo' := b) (hi' := b + 162) (by omega) (by omega))
    simp only [s_150_0, s_150_1, s_150_4, s_150_5, s_150_8, s_150_11, s_150_12, s_150_13, s_150_16, s_150_19, s_150_20, s_150_21, s_150_24, s_150_27, s_150_28, s_150_29, s_150_30, s_150_31, s_150_34, s_150_35, s_150_38, s_150_41, s_150_42, s_150_45, s_150_46, s_150_49, s_150_50, s_150_51, s_150_54, s_150_57, s_150_60, s_150_61, s_150_64, s_150_67, s_150_68, s_150_69, s_150_72, s_150_73, s_150_76, s_150_79, s_150_80, s_150_83, s_150_84, s_150_87, s_150_88, s_150_89, s_150_92, s_150_95, s_150_98, s_150_99, s_150_102, s_150_105, s_150_106, s_150_107, s_150_110, s_150_111, s_150_112, s_150_113, s_150_114, s_150_117, s_150_118, s_150_122, s_150_123, s_150_126, s_150_129, s_150_132, s_150_133, s_150_136, s_150_138, s_150_139, s_150_142, s_150_145, s_150_147, s_150_148, s_150_149, s_150_150, s_150_153, s_150_156, s_150_159, s_150_160, s_150_161, s_150_162, x_get_i, List.getElem?_cons_succ, List.getElem?_cons_zero, x_cv_j, cs_n, cs_i, cs_r, cs_l, Nat.reduceAdd, Nat.reduceLeDiff, true_and, Option.toList_some, Option.toList_none, List.cons_append, List.nil_append, if_true, if_false, nb0, nb1, x_setJ, x_setZ0, x_setZ1, x_setA, x_setO, List.length_cons, List.length_nil, Nat.reduceLT, List.set_cons_succ, List.set_cons_zero, wrl_0, wrl_1, wrl_2, wrl_3, wrl_4, wrl_5, wrl_p0, wrl_p1, wrl_p2, wrl_p3, wrl_p4, o_b, n_b, x_b]
    refine c_copyH hWb (fun hd sD hWd tD => ?_)
    have rD : RUc hd r2 cd := RUc_sm sD (by omega) rB
    have o_d := hWd.1
    have x_d : hd.2.2 (b + 12) = .inr (9, _) := tD.1
    have hTd : tc_at hd (b + 12) nw.1 nw.2.1 nw.2.2.1 nw.2.2.2.1 (nI nw.2.2.2.2.1) nw.2.2.2.2.2.1 nw.2.2.2.2.2.2 := tD
    simp only [s_150_0, s_150_1, s_150_4, s_150_5, s_150_8, s_150_11, s_150_12, s_150_13, s_150_16, s_150_19, s_150_20, s_150_21, s_150_24, s_150_27, s_150_28, s_150_29, s_150_30, s_150_31, s_150_34, s_150_35, s_150_38, s_150_41, s_150_42, s_150_45, s_150_46, s_150_49, s_150_50, s_150_51, s_150_54, s_150_57, s_150_60, s_150_61, s_150_64, s_150_67, s_150_68, s_150_69, s_150_72, s_150_73, s_150_76, s_150_79, s_150_80, s_150_83, s_150_84, s_150_87, s_150_88, s_150_89, s_150_92, s_150_95, s_150_98, s_150_99, s_150_102, s_150_105, s_150_106, s_150_107, s_150_110, s_150_111, s_150_112, s_150_113, s_150_114, s_150_117, s_150_118, s_150_122, s_150_123, s_150_126, s_150_129, s_150_132, s_150_133, s_150_136, s_150_138, s_150_139, s_150_142, s_150_145, s_150_147, s_150_148, s_150_149, s_150_150, s_150_153, s_150_156, s_150_159, s_150_160, s_150_161, s_150_162, x_get_i, List.getElem?_cons_succ, List.getElem?_cons_zero, x_cv_j, cs_n, cs_i, cs_r, cs_l, Nat.reduceAdd, Nat.reduceLeDiff, true_and, Option.toList_some, Option.toList_none, List.cons_append, List.nil_append, if_true, if_false, nb0, nb1, x_setJ, x_setZ0, x_setZ1, x_setA, x_setO, List.length_cons, List.length_nil, Nat.reduceLT, List.set_cons_succ, List.set_cons_zero, wrl_0, wrl_1, wrl_2, wrl_3, wrl_4, wrl_5, wrl_p0, wrl_p1, wrl_p2, wrl_p3, wrl_p4, o_d, x_d, tc_all hTd]
    refine tc_nightsR (m := 5) (by decide) tD w_n.2 hWd.2.2.2.2.2.2.2.2.1 (by show r1 + 4 ≤ b + 12 ∨ b + 12 + 7 ≤ r1; omega) (fun he1 hf1 sE sF uF tF => ?_)
    have sE : sm r1 (r1 + 4) hd he1 := sE
    have uE : RUc he1 r1 cd0 := RUc_sm ⟨sF.1.symm, sF.2.1.symm, fun x hx => (sF.2.2 x hx).symm⟩ (by omega) uF
    have hWf := CW_h (CW_u hWd sE uE) sF ⟨_, tF⟩
    have rF : RUc hf1 r2 cd := RUc_sm sF (by omega) (RUc_sm sE (by omega) rD)
    have o_f := hWf.1
    have n_f : hf1.2.2 (b + 5) = .inr (9, _) := hWf.2.2.2.1.1.1
    have x_f : hf1.2.2 (b + 12) = .inr (9, _) := tF.1
    have hTf : tc_at hf1 (b + 12) nw.1 nw.2.1 (nXT cd0 (tc_allv (nI nw.2.2.2.2.1)) 5 nw).2.2.1 (nXT cd0 (tc_allv (nI nw.2.2.2.2.1)) 5 nw).2.2.2.1 (nI nw.2.2.2.2.1) (nXT cd0 (tc_allv (nI nw.2.2.2.2.1)) 5 nw).2.2.2.2.2.1 (nXT cd0 (tc_allv (nI nw.2.2.2.2.1)) 5 nw).2.2.2.2.2.2 := tF
    simp only [s_150_0, s_150_1, s_150_4, s_150_5, s_150_8, s_150_11, s_150_12, s_150_13, s_150_16, s_150_19, s_150_20, s_150_21, s_150_24, s_150_27, s_150_28, s_150_29, s_150_30, s_150_31, s_150_34, s_150_35, s_150_38, s_150_41, s_150_42, s_150_45, s_150_46, s_150_49, s_150_50, s_150_51, s_150_54, s_150_57, s_150_60, s_150_61, s_150_64, s_150_67, s_150_68, s_150_69, s_150_72, s_150_73, s_150_76, s_150_79, s_150_80, s_150_83, s_150_84, s_150_87, s_150_88, s_150_89, s_150_92, s_150_95, s_150_98, s_150_99, s_150_102, s_150_105, s_150_106, s_150_107, s_150_110, s_150_111, s_150_112, s_150_113, s_150_114, s_150_117, s_150_118, s_150_122, s_150_123, s_150_126, s_150_129, s_150_132, s_150_133, s_150_136, s_150_138, s_150_139, s_150_142, s_150_145, s_150_147, s_150_148, s_150_149, s_150_150, s_150_153, s_150_156, s_150_159, s_150_160, s_150_161, s_150_162, x_get_i, List.getElem?_cons_succ, List.getElem?_cons_zero, x_cv_j, cs_n, cs_i, cs_r, cs_l, Nat.reduceAdd, Nat.reduceLeDiff, true_and, Option.toList_some, Option.toList_none, List.cons_append, List.nil_append, if_true, if_false, nb0, nb1, x_setJ, x_setZ0, x_setZ1, x_setA, x_setO, List.length_cons, List.length_nil, Nat.reduceLT, List.set_cons_succ, List.set_cons_zero, wrl_0, wrl_1, wrl_2, wrl_3, wrl_4, wrl_5, wrl_p0, wrl_p1, wrl_p2, wrl_p3, wrl_p4, o_f, n_f, x_f, tc_farFromRest hTf hn]
    refine c_copyH hWf (fun hg sG hWg tG => ?_)
    have rG : RUc hg r2 cd := RUc_sm sG (by omega) rF
    have o_g := hWg.1
    have x_g : hg.2.2 (b + 12) = .inr (9, _) := tG.1
    have hTg : tc_at hg (b + 12) nw.1 nw.2.1 nw.2.2.1 nw.2.2.2.1 (nI nw.2.2.2.2.1) nw.2.2.2.2.2.1 nw.2.2.2.2.2.2 := tG
    simp only [s_150_0, s_150_1, s_150_4, s_150_5, s_150_8, s_150_11, s_150_12, s_150_13, s_150_16, s_150_19, s_150_20, s_150_21, s_150_24, s_150_27, s_150_28, s_150_29, s_150_30, s_150_31, s_150_34, s_150_35, s_150_38, s_150_41, s_150_42, s_150_45, s_150_46, s_150_49, s_150_50, s_150_51, s_150_54, s_150_57, s_150_60, s_150_61, s_150_64, s_150_67, s_150_68, s_150_69, s_150_72, s_150_73, s_150_76, s_150_79, s_150_80, s_150_83, s_150_84, s_150_87, s_150_88, s_150_89, s_150_92, s_150_95, s_150_98, s_150_99, s_150_102, s_150_105, s_150_106, s_150_107, s_150_110, s_150_111, s_150_112, s_150_113, s_150_114, s_150_117, s_150_118, s_150_122, s_150_123, s_150_126, s_150_129, s_150_132, s_150_133, s_150_136, s_150_138, s_150_139, s_150_142, s_150_145, s_150_147, s_150_148, s_150_149, s_150_150, s_150_153, s_150_156, s_150_159, s_150_160, s_150_161, s_150_162, x_get_i, List.getElem?_cons_succ, List.getElem?_cons_zero, x_cv_j, cs_n, cs_i, cs_r, cs_l, Nat.reduceAdd, Nat.reduceLeDiff, true_and, Option.toList_some, Option.toList_none, List.cons_append, List.nil_append, if_true, if_false, nb0, nb1, x_setJ, x_setZ0, x_setZ1, x_setA, x_setO, List.length_cons, List.length_nil, Nat.reduceLT, List.set_cons_succ, List.set_cons_zero, wrl_0, wrl_1, wrl_2, wrl_3, wrl_4, wrl_5, wrl_p0, wrl_p1, wrl_p2, wrl_p3, wrl_p4, o_g, x_g, tc_all hTg]
    refine tc_nightsR (m := 5) (by decide) tG w_n.2 rG (by omega) (fun hi1 hj1 sI sJ uJ tJ => ?_)
    have uI : RUc hi1 r2 cd := RUc_sm ⟨sJ.1.symm, sJ.2.1.symm, fun x hx => (sJ.2.2 x hx).symm⟩ (by omega) uJ
    have hWj := CW_h (CW_v hWg sI (RUc_s uI)) sJ ⟨_, tJ⟩
    have o_j := hWj.1
    have c_j : hj1.2.2 (b + 3) = .inr (5, _) := cel_0 hWj.2.2.1.1
    have x_j : hj1.2.2 (b + 12) = .inr (9, _) := tJ.1
    have hTj : tc_at hj1 (b + 12) nw.1 nw.2.1 (nXT cd (tc_allv (nI nw.2.2.2.2.1)) 5 nw).2.2.1 (nXT cd (tc_allv (nI nw.2.2.2.2.1)) 5 nw).2.2.2.1 (nI nw.2.2.2.2.1) (nXT cd (tc_allv (nI nw.2.2.2.2.1)) 5 nw).2.2.2.2.2.1 (nXT cd (tc_allv (nI nw.2.2.2.2.1)) 5 nw).2.2.2.2.2.2 := tJ
    simp only [s_150_0, s_150_1, s_150_4, s_150_5, s_150_8, s_150_11, s_150_12, s_150_13, s_150_16, s_150_19, s_150_20, s_150_21, s_150_24, s_150_27, s_150_28, s_150_29, s_150_30, s_150_31, s_150_34, s_150_35, s_150_38, s_150_41, s_150_42, s_150_45, s_150_46, s_150_49, s_150_50, s_150_51, s_150_54, s_150_57, s_150_60, s_150_61, s_150_64, s_150_67, s_150_68, s_150_69, s_150_72, s_150_73, s_150_76, s_150_79, s_150_80, s_150_83, s_150_84, s_150_87, s_150_88, s_150_89, s_150_92, s_150_95, s_150_98, s_150_99, s_150_102, s_150_105, s_150_106, s_150_107, s_150_110, s_150_111, s_150_112, s_150_113, s_150_114, s_150_117, s_150_118, s_150_122, s_150_123, s_150_126, s_150_129, s_150_132, s_150_133, s_150_136, s_150_138, s_150_139, s_150_142, s_150_145, s_150_147, s_150_148, s_150_149, s_150_150, s_150_153, s_150_156, s_150_159, s_150_160, s_150_161, s_150_162, x_get_i, List.getElem?_cons_succ, List.getElem?_cons_zero, x_cv_j, cs_n, cs_i, cs_r, cs_l, Nat.reduceAdd, Nat.reduceLeDiff, true_and, Option.toList_some, Option.toList_none, List.cons_append, List.nil_append, if_true, if_false, nb0, nb1, x_setJ, x_setZ0, x_setZ1, x_setA, x_setO, List.length_cons, List.length_nil, Nat.reduceLT, List.set_cons_succ, List.set_cons_zero, wrl_0, wrl_1, wrl_2, wrl_3, wrl_4, wrl_5, wrl_p0, wrl_p1, wrl_p2, wrl_p3, wrl_p4, o_j, c_j, x_j, tc_farFromRest hTj hn]
    have sAJ : sm b (b + 162) h hj1 := sAB.trans ((sD.mono (by omega) (by omega)).trans ((sE.mono (by omega) (by omega)).trans ((sF.mono (by omega) (by omega)).trans ((sG.mono (by omega) (by omega)).trans ((sI.mono (by omega) (by omega)).trans (sJ.mono (by omega) (by omega)))))))
    refine c_tell2 hWj _ _ (fun hk sK hWk => ?_)
    have tK := tca_sm sK (by omega) tJ
    have loop : ∀ (j i : Nat) (hz : tm_H), i + j = nw.2.2.2.2.1 → sm b (b + 162) h hz → CW sa hz b (0, F) (lwN (nXT cd (tc_allv (nI nw.2.2.2.2.1)) 5 nw).2.2.1 R (tc_far (nXT cd (tc_allv (nI nw.2.2.2.2.1)) 5 nw).2.2.1 nw.2.2.2.2.1).toInt64 (tc_far (nXT cd0 (tc_allv (nI nw.2.2.2.2.1)) 5 nw).2.2.1 nw.2.2.2.2.1).toInt64 i) nw pa (r1, r2, cd0) he mi ga → tca hz (b + 12) (tcT (nXT cd (tc_allv (nI nw.2.2.2.2.1)) 5 nw)) → tm_X (g_G sa sc xt) (d + 52) 150 120 [.ref b, .int (-1), .int (tc_far (nXT cd0 (tc_allv (nI nw.2.2.2.2.1)) 5 nw).2.2.1 nw.2.2.2.2.1), .int (tc_far (nXT cd (tc_allv (nI nw.2.2.2.2.1)) 5 nw).2.2.1 nw.2.2.2.2.1), .int (nI i)] [] hz Q := by
      intro j
      induction j with
      | zero =>
        intro i hz hi sz hWz tz
        have o_z := hWz.1
        have hTz : tc_at hz (b + 12) nw.1 nw.2.1 (nXT cd (tc_allv (nI nw.2.2.2.2.1)) 5 nw).2.2.1 (nXT cd (tc_allv (nI nw.2.2.2.2.1)) 5 nw).2.2.2.1 (nI nw.2.2.2.2.1) (nXT cd (tc_allv (nI nw.2.2.2.2.1)) 5 nw).2.2.2.2.2.1 (nXT cd (tc_allv (nI nw.2.2.2.2.1)) 5 nw).2.2.2.2.2.2 := tz
        have y0 := hTz.1
        have hi : i = nw.2.2.2.2.1 := by omega
        subst hi
        rw [s_150_120]
        simp only [s_150_0, s_150_1, s_150_4, s_150_5, s_150_8, s_150_11, s_150_12, s_150_13, s_150_16, s_150_19, s_150_20, s_150_21, s_150_24, s_150_27, s_150_28, s_150_29, s_150_30, s_150_31, s_150_34, s_150_35, s_150_38, s_150_41, s_150_42, s_150_45, s_150_46, s_150_49, s_150_50, s_150_51, s_150_54, s_150_57, s_150_60, s_150_61, s_150_64, s_150_67, s_150_68, s_150_69, s_150_72, s_150_73, s_150_76, s_150_79, s_150_80, s_150_83, s_150_84, s_150_87, s_150_88, s_150_89, s_150_92, s_150_95, s_150_98, s_150_99, s_150_102, s_150_105, s_150_106, s_150_107, s_150_110, s_150_111, s_150_112, s_150_113, s_150_114, s_150_117, s_150_118, s_150_122, s_150_123, s_150_126, s_150_129, s_150_132, s_150_133, s_150_136, s_150_138, s_150_139, s_150_142, s_150_145, s_150_147, s_150_148, s_150_149, s_150_150, s_150_153, s_150_156, s_150_159, s_150_160, s_150_161, s_150_162, x_get_i, List.getElem?_cons_succ, List.getElem?_cons_zero, x_cv_j, cs_n, cs_i, cs_r, cs_l, Nat.reduceAdd, Nat.reduceLeDiff, true_and, Option.toList_some, Option.toList_none, List.cons_append, List.nil_append, if_true, if_false, nb0, nb1, x_setJ, x_setZ0, x_setZ1, x_setA, x_setO, List.length_cons, List.length_nil, Nat.reduceLT, List.set_cons_succ, List.set_cons_zero, wrl_0, wrl_1, wrl_2, wrl_3, wrl_4, wrl_5, wrl_p0, wrl_p1, wrl_p2, wrl_p3, wrl_p4, o_z, y0, Int32.le_refl]
        exact h2 cd hz er sz hWz
      | succ j ih =>
        intro i hz hi sz hWz tz
        have o_z := hWz.1
        have c_z : hz.2.2 (b + 3) = .inr (5, _) := cel_0 hWz.2.2.1.1
        have hTz : tc_at hz (b + 12) nw.1 nw.2.1 (nXT cd (tc_allv (nI nw.2.2.2.2.1)) 5 nw).2.2.1 (nXT cd (tc_allv (nI nw.2.2.2.2.1)) 5 nw).2.2.2.1 (nI nw.2.2.2.2.1) (nXT cd (tc_allv (nI nw.2.2.2.2.1)) 5 nw).2.2.2.2.2.1 (nXT cd (tc_allv (nI nw.2.2.2.2.1)) 5 nw).2.2.2.2.2.2 := tz
        obtain ⟨y0, y1, y2, y3, y4, -, -⟩ := id hTz
        rw [s_150_120]
        simp only [s_150_0, s_150_1, s_150_4, s_150_5, s_150_8, s_150_11, s_150_12, s_150_13, s_150_16, s_150_19, s_150_20, s_150_21, s_150_24, s_150_27, s_150_28, s_150_29, s_150_30, s_150_31, s_150_34, s_150_35, s_150_38, s_150_41, s_150_42, s_150_45, s_150_46, s_150_49, s_150_50, s_150_51, s_150_54, s_150_57, s_150_60, s_150_61, s_150_64, s_150_67, s_150_68, s_150_69, s_150_72, s_150_73, s_150_76, s_150_79, s_150_80, s_150_83, s_150_84, s_150_87, s_150_88, s_150_89, s_150_92, s_150_95, s_150_98, s_150_99, s_150_102, s_150_105, s_150_106, s_150_107, s_150_110, s_150_111, s_150_112, s_150_113, s_150_114, s_150_117, s_150_118, s_150_122, s_150_123, s_150_126, s_150_129, s_150_132, s_150_133, s_150_136, s_150_138, s_150_139, s_150_142, s_150_145, s_150_147, s_150_148, s_150_149, s_150_150, s_150_153, s_150_156, s_150_159, s_150_160, s_150_161, s_150_162, x_get_i, List.getElem?_cons_succ, List.getElem?_cons_zero, x_cv_j, cs_n, cs_i, cs_r, cs_l, Nat.reduceAdd, Nat.reduceLeDiff, true_and, Option.toList_some, Option.toList_none, List.cons_append, List.nil_append, if_true, if_false, nb0, nb1, x_setJ, x_setZ0, x_setZ1, x_setA, x_setO, List.length_cons, List.length_nil, Nat.reduceLT, List.set_cons_succ, List.set_cons_zero, wrl_0, wrl_1, wrl_2, wrl_3, wrl_4, wrl_5, wrl_p0, wrl_p1, wrl_p2, wrl_p3, wrl_p4, o_z, c_z, y0, y3, show ¬ nI nw.2.2.2.2.1 ≤ nI i from nI_ge (by omega) (by omega), x_ild_n (show i < 12 by omega) n12]
        have hWz' : CW sa hz b (0, F) ((lwN (nXT cd (tc_allv (nI nw.2.2.2.2.1)) 5 nw).2.2.1 R (tc_far (nXT cd (tc_allv (nI nw.2.2.2.2.1)) 5 nw).2.2.1 nw.2.2.2.2.1).toInt64 (tc_far (nXT cd0 (tc_allv (nI nw.2.2.2.2.1)) 5 nw).2.2.1 nw.2.2.2.2.1).toInt64 i).1, (lwN (nXT cd (tc_allv (nI nw.2.2.2.2.1)) 5 nw).2.2.1 R (tc_far (nXT cd (tc_allv (nI nw.2.2.2.2.1)) 5 nw).2.2.1 nw.2.2.2.2.1).toInt64 (tc_far (nXT cd0 (tc_allv (nI nw.2.2.2.2.1)) 5 nw).2.2.1 nw.2.2.2.2.1).toInt64 i).2) nw pa (r1, r2, cd0) he mi ga := hWz
        refine c_radd hWz' (by rw [lwN_1]; omega) _ (fun hy sy hWy => ?_)
        simp only [s_150_0, s_150_1, s_150_4, s_150_5, s_150_8, s_150_11, s_150_12, s_150_13, s_150_16, s_150_19, s_150_20, s_150_21, s_150_24, s_150_27, s_150_28, s_150_29, s_150_30, s_150_31, s_150_34, s_150_35, s_150_38, s_150_41, s_150_42, s_150_45, s_150_46, s_150_49, s_150_50, s_150_51, s_150_54, s_150_57, s_150_60, s_150_61, s_150_64, s_150_67, s_150_68, s_150_69, s_150_72, s_150_73, s_150_76, s_150_79, s_150_80, s_150_83, s_150_84, s_150_87, s_150_88, s_150_89, s_150_92, s_150_95, s_150_98, s_150_99, s_150_102, s_150_105, s_150_106, s_150_107, s_150_110, s_150_111, s_150_112, s_150_113, s_150_114, s_150_117, s_150_118, s_150_122, s_150_123, s_150_126, s_150_129, s_150_132, s_150_133, s_150_136, s_150_138, s_150_139, s_150_142, s_150_145, s_150_147, s_150_148, s_150_149, s_150_150, s_150_153, s_150_156, s_150_159, s_150_160, s_150_161, s_150_162, x_get_i, List.getElem?_cons_succ, List.getElem?_cons_zero, x_cv_j, cs_n, cs_i, cs_r, cs_l, Nat.reduceAdd, Nat.reduceLeDiff, true_and, Option.toList_some, Option.toList_none, List.cons_append, List.nil_append, if_true, if_false, nb0, nb1, x_setJ, x_setZ0, x_setZ1, x_setA, x_setO, List.length_cons, List.length_nil, Nat.reduceLT, List.set_cons_succ, List.set_cons_zero, wrl_0, wrl_1, wrl_2, wrl_3, wrl_4, wrl_5, wrl_p0, wrl_p1, wrl_p2, wrl_p3, wrl_p4, nI_1]
        exact ih (i + 1) hy (by omega) (sz.trans (sy.mono (by omega) (by omega))) hWy (tca_sm sy (by omega) tz)
    simp only [s_150_0, s_150_1, s_150_4, s_150_5, s_150_8, s_150_11, s_150_12, s_150_13, s_150_16, s_150_19, s_150_20, s_150_21, s_150_24, s_150_27, s_150_28, s_150_29, s_150_30, s_150_31, s_150_34, s_150_35, s_150_38, s_150_41, s_150_42, s_150_45, s_150_46, s_150_49, s_150_50, s_150_51, s_150_54, s_150_57, s_150_60, s_150_61, s_150_64, s_150_67, s_150_68, s_150_69, s_150_72, s_150_73, s_150_76, s_150_79, s_150_80, s_150_83, s_150_84, s_150_87, s_150_88, s_150_89, s_150_92, s_150_95, s_150_98, s_150_99, s_150_102, s_150_105, s_150_106, s_150_107, s_150_110, s_150_111, s_150_112, s_150_113, s_150_114, s_150_117, s_150_118, s_150_122, s_150_123, s_150_126, s_150_129, s_150_132, s_150_133, s_150_136, s_150_138, s_150_139, s_150_142, s_150_145, s_150_147, s_150_148, s_150_149, s_150_150, s_150_153, s_150_156, s_150_159, s_150_160, s_150_161, s_150_162, x_get_i, List.getElem?_cons_succ, List.getElem?_cons_zero, x_cv_j, cs_n, cs_i, cs_r, cs_l, Nat.reduceAdd, Nat.reduceLeDiff, true_and, Option.toList_some, Option.toList_none, List.cons_append, List.nil_append, if_true, if_false, nb0, nb1, x_setJ, x_setZ0, x_setZ1, x_setA, x_setO, List.length_cons, List.length_nil, Nat.reduceLT, List.set_cons_succ, List.set_cons_zero, wrl_0, wrl_1, wrl_2, wrl_3, wrl_4, wrl_5, wrl_p0, wrl_p1, wrl_p2, wrl_p3, wrl_p4]
    exact loop nw.2.2.2.2.1 0 hk (by omega) (sAJ.trans (sK.mono (by omega) (by omega))) hWk tK
  · have o_a := hWa.1
    have a_a : ha.2.2 (b + 1) = .inr (8, _) := hWa.2.1.1.1
    have sA : sm r2 (r2 + 4) h ha := sA
    simp only [s_150_0, s_150_1, s_150_4, s_150_5, s_150_8, s_150_11, s_150_12, s_150_13, s_150_16, s_150_19, s_150_20, s_150_21, s_150_24, s_150_27, s_150_28, s_150_29, s_150_30, s_150_31, s_150_34, s_150_35, s_150_38, s_150_41, s_150_42, s_150_45, s_150_46, s_150_49, s_150_50, s_150_51, s_150_54, s_150_57, s_150_60, s_150_61, s_150_64, s_150_67, s_150_68, s_150_69, s_150_72, s_150_73, s_150_76, s_150_79, s_150_80, s_150_83, s_150_84, s_150_87, s_150_88, s_150_89, s_150_92, s_150_95, s_150_98, s_150_99, s_150_102, s_150_105, s_150_106, s_150_107, s_150_110, s_150_111, s_150_112, s_150_113, s_150_114, s_150_117, s_150_118, s_150_122, s_150_123, s_150_126, s_150_129, s_150_132, s_150_133, s_150_136, s_150_138, s_150_139, s_150_142, s_150_145, s_150_147, s_150_148, s_150_149, s_150_150, s_150_153, s_150_156, s_150_159, s_150_160, s_150_161, s_150_162, x_get_i, List.getElem?_cons_succ, List.getElem?_cons_zero, x_cv_j, cs_n, cs_i, cs_r, cs_l, Nat.reduceAdd, Nat.reduceLeDiff, true_and, Option.toList_some, Option.toList_none, List.cons_append, List.nil_append, if_true, if_false, nb0, nb1, x_setJ, x_setZ0, x_setZ1, x_setA, x_setO, List.length_cons, List.length_nil, Nat.reduceLT, List.set_cons_succ, List.set_cons_zero, wrl_0, wrl_1, wrl_2, wrl_3, wrl_4, wrl_5, wrl_p0, wrl_p1, wrl_p2, wrl_p3, wrl_p4, o_a, a_a]
    refine c_tclear hWa (fun hb sB hWb => ?_)
    simp only [s_150_0, s_150_1, s_150_4, s_150_5, s_150_8, s_150_11, s_150_12, s_150_13, s_150_16, s_150_19, s_150_20, s_150_21, s_150_24, s_150_27, s_150_28, s_150_29, s_150_30, s_150_31, s_150_34, s_150_35, s_150_38, s_150_41, s_150_42, s_150_45, s_150_46, s_150_49, s_150_50, s_150_51, s_150_54, s_150_57, s_150_60, s_150_61, s_150_64, s_150_67, s_150_68, s_150_69, s_150_72, s_150_73, s_150_76, s_150_79, s_150_80, s_150_83, s_150_84, s_150_87, s_150_88, s_150_89, s_150_92, s_150_95, s_150_98, s_150_99, s_150_102, s_150_105, s_150_106, s_150_107, s_150_110, s_150_111, s_150_112, s_150_113, s_150_114, s_150_117, s_150_118, s_150_122, s_150_123, s_150_126, s_150_129, s_150_132, s_150_133, s_150_136, s_150_138, s_150_139, s_150_142, s_150_145, s_150_147, s_150_148, s_150_149, s_150_150, s_150_153, s_150_156, s_150_159, s_150_160, s_150_161, s_150_162, x_get_i, List.getElem?_cons_succ, List.getElem?_cons_zero, x_cv_j, cs_n, cs_i, cs_r, cs_l, Nat.reduceAdd, Nat.reduceLeDiff, true_and, Option.toList_some, Option.toList_none, List.cons_append, List.nil_append, if_true, if_false, nb0, nb1, x_setJ, x_setZ0, x_setZ1, x_setA, x_setO, List.length_cons, List.length_nil, Nat.reduceLT, List.set_cons_succ, List.set_cons_zero, wrl_0, wrl_1, wrl_2, wrl_3, wrl_4, wrl_5, wrl_p0, wrl_p1, wrl_p2, wrl_p3, wrl_p4, oI_ne (show q < 2 ^ 31 by omega)]
    exact h1 q hb er ((sA.mono (by omega) (by omega)).trans (sB.mono (by omega) (by omega))) hWb
theorem c_draw (x : Int32) : tm_D (g_G sa sc xt) d 174 [.int x] h Q ↔ Q (some (.int (drw x))) h := by
  rw [e_174]
  simp only [s_174_0, s_174_1, s_174_4, s_174_5, s_174_8, s_174_9, x_get_i, List.getElem?_cons_succ, List.getElem?_cons_zero, x_cv_j, cs_n, cs_i, cs_r, cs_l, Nat.reduceAdd, Nat.reduceLeDiff, true_and, Option.toList_some, Option.toList_none, List.cons_append, List.nil_append, if_true, if_false, nb0, nb1, x_setJ, x_setZ0, x_setZ1, x_setA, x_setO, List.length_cons, List.length_nil, Nat.reduceLT, List.set_cons_succ, List.set_cons_zero, wrl_0, wrl_1, wrl_2, wrl_3, wrl_4, wrl_5, wrl_p0, wrl_p1, wrl_p2, wrl_p3, wrl_p4]
  exact Iff.rfl
theorem c_dof (x n : Int32) : tm_D (g_G sa sc xt) d 175 [.int x, .int n] h Q ↔ Q (some (.int (dof x n))) h := by
  rw [e_175]
  unfold dof
  simp only [s_175_0, s_175_1, s_175_4, s_175_5, s_175_7, s_175_8, s_175_9, s_175_10, s_175_13, s_175_14, x_get_i, List.getElem?_cons_succ, List.getElem?_cons_zero, x_cv_j, cs_n, cs_i, cs_r, cs_l, Nat.reduceAdd, Nat.reduceLeDiff, true_and, Option.toList_some, Option.toList_none, List.cons_append, List.nil_append, if_true, if_false, nb0, nb1, x_setJ, x_setZ0, x_setZ1, x_setA, x_setO, List.length_cons, List.length_nil, Nat.reduceLT, List.set_cons_succ, List.set_cons_zero, wrl_0, wrl_1, wrl_2, wrl_3, wrl_4, wrl_5, wrl_p0, wrl_p1, wrl_p2, wrl_p3, wrl_p4, q_ite (Q := Q)]
  by_cases k : n ≤ 0
  · simp only [k, if_true]
  · have k0 : ¬ n = 0 := fun e => k (by rw [e]; exact Int32.le_refl _)
    simp only [k, k0, if_false]
    exact Iff.rfl
end
