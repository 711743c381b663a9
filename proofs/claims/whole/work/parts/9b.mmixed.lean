/-! the reference's calls: mixed, rubs, rests, galley -/
def rmi (L B : Nat → Int32) (p : Nat) (a : Int32) : Nat → Int32 := fo (fun q a => if B p = B q then (if L p = L q then a else a ||| (1 <<< (B p &&& 31))) else a) a
def rmo (L B : Nat → Int32) : Nat → Int32 := fo (fun p a => rmi L B p a p) 0
theorem rmi_b {L B : Nat → Int32} {p x y : Nat} {a : Int32} (hx : x < 32) (hy : y < 8) (eB : B p = nI y) : ∀ k, bt (rmi L B p a k) x = true ↔ bt a x = true ∨ (x = y ∧ ∃ q, q < k ∧ B p = B q ∧ ¬ L p = L q)
  | 0 => ⟨fun h => Or.inl h, fun h => by
      rcases h with q | ⟨-, q, h, -⟩
      · exact q
      · exact absurd h (Nat.not_lt_zero q)⟩
  | k + 1 => by
    have ih := rmi_b (L := L) (a := a) hx hy eB k
    have es : rmi L B p a (k + 1) = if B p = B k then (if L p = L k then rmi L B p a k else rmi L B p a k ||| (1 <<< (B p &&& 31))) else rmi L B p a k := rfl
    have up : (bt a x = true ∨ (x = y ∧ ∃ q, q < k ∧ B p = B q ∧ ¬ L p = L q)) → bt a x = true ∨ (x = y ∧ ∃ q, q < k + 1 ∧ B p = B q ∧ ¬ L p = L q) := by
      rintro (h | ⟨h1, q, h2, h3⟩)
      · exact Or.inl h
      · exact Or.inr ⟨h1, q, by omega, h3⟩
    have dn : ¬ (B p = B k ∧ ¬ L p = L k) → (bt a x = true ∨ (x = y ∧ ∃ q, q < k + 1 ∧ B p = B q ∧ ¬ L p = L q)) → bt a x = true ∨ (x = y ∧ ∃ q, q < k ∧ B p = B q ∧ ¬ L p = L q) := by
      rintro hno (h | ⟨h1, q, h2, h3⟩)
      · exact Or.inl h
      · by_cases e : q = k
        · subst e; exact absurd h3 hno
        · exact Or.inr ⟨h1, q, by omega, h3⟩
    rw [es]
    by_cases c1 : B p = B k
    · rw [if_pos c1]
      by_cases c2 : L p = L k
      · rw [if_pos c2, ih]
        exact ⟨up, dn (fun q => q.2 c2)⟩
      · rw [if_neg c2, bt_or, Bool.or_eq_true, ih, eB, bt_bit hy hx, decide_eq_true_eq]
        rw [eB] at up dn
        constructor
        · rintro (h | h)
          · exact up h
          · exact Or.inr ⟨h, k, by omega, by rw [← eB]; exact c1, c2⟩
        · intro h
          rcases h with q | ⟨q, -⟩
          · exact Or.inl (Or.inl q)
          · exact Or.inr q
    · rw [if_neg c1, ih]
      exact ⟨up, dn (fun q => c1 q.1)⟩
theorem rmo_b {L B : Nat → Int32} {n x : Nat} (hx : x < 32) (hB : BX n B) : ∀ k, k ≤ n → (bt (rmo L B k) x = true ↔ ∃ p q, q < p ∧ p < k ∧ B p = nI x ∧ B q = nI x ∧ ¬ L p = L q)
  | 0, _ => by
    have e : rmo L B 0 = 0 := rfl
    rw [e, bt_0]
    exact ⟨fun q => (by cases q), fun ⟨p, q, _, h, _⟩ => absurd h (Nat.not_lt_zero p)⟩
  | k + 1, hk => by
    have ih := rmo_b (L := L) hx hB k (by omega)
    have es : rmo L B (k + 1) = rmi L B k (rmo L B k) k := rfl
    obtain ⟨y, hy, ey⟩ := hB k (by omega)
    rw [es, rmi_b hx hy ey, ih]
    constructor
    · rintro (⟨p, q, h1, h2, h3⟩ | ⟨h1, q, h2, h3, h4⟩)
      · exact ⟨p, q, h1, by omega, h3⟩
      · subst h1
        exact ⟨k, q, h2, by omega, ey, h3.symm.trans ey, h4⟩
    · rintro ⟨p, q, h1, h2, h3, h4, h5⟩
      by_cases e : p = k
      · subst e
        rw [ey] at h3
        exact Or.inr ⟨((nI_eq (by omega) (by omega)).mp h3).symm, q, h1, by rw [h4, ey, h3], h5⟩
      · exact Or.inl ⟨p, q, h1, by omega, h3, h4, h5⟩
theorem mxd_b {L B : Nat → Int32} {n x : Nat} (hx : x < 32) : ∀ k, k ≤ 8 → (bt (mxd L B n k) x = true ↔ x < k ∧ ¬ ibc (tc_let L (tc_wh B (nI x) n) n) ≤ 1)
  | 0, _ => by
    have e : mxd L B n 0 = 0 := rfl
    rw [e, bt_0]
    exact ⟨fun q => (by cases q), fun q => absurd q.1 (Nat.not_lt_zero x)⟩
  | k + 1, hk => by
    have ih := mxd_b (L := L) (B := B) (n := n) hx k (by omega)
    have es : mxd L B n (k + 1) = if ibc (tc_let L (tc_wh B (nI k) n) n) ≤ 1 then mxd L B n k else mxd L B n k ||| (1 <<< (nI k &&& 31)) := rfl
    rw [es]
    by_cases c : ibc (tc_let L (tc_wh B (nI k) n) n) ≤ 1
    · rw [if_pos c, ih]
      constructor
      · rintro ⟨h1, h2⟩
        exact ⟨by omega, h2⟩
      · rintro ⟨h1, h2⟩
        refine ⟨?_, h2⟩
        have : x ≠ k := fun e => h2 (by rw [e]; exact c)
        omega
    · rw [if_neg c, bt_or, Bool.or_eq_true, ih, bt_one (by omega) hx, decide_eq_true_eq]
      constructor
      · rintro (⟨h1, h2⟩ | h)
        · exact ⟨by omega, h2⟩
        · subst h; exact ⟨by omega, c⟩
      · rintro ⟨h1, h2⟩
        by_cases e : x = k
        · exact Or.inr e
        · exact Or.inl ⟨by omega, h2⟩
theorem mxd_rmo {L B : Nat → Int32} {n : Nat} (hn : n ≤ 12) (hL : BX n L) (hB : BX n B) : rmo L B n = mxd L B n 8 := by
  apply bt_ext
  intro x hx
  rw [Bool.eq_iff_iff, rmo_b hx hB n (Nat.le_refl _), mxd_b hx 8 (Nat.le_refl _), ibc_let hn hL]
  have hle : ∀ c : Nat, c ≤ 8 → (¬ nI c ≤ 1 ↔ 1 < c) := by
    intro c hc
    rw [show (1 : Int32) = nI 1 from rfl, nI_leI (by omega) (by decide)]
    omega
  rw [hle _ cn_le, cn_two]
  constructor
  · rintro ⟨p, q, h1, h2, h3, h4, h5⟩
    obtain ⟨y, hy, ey⟩ := hB p h2
    obtain ⟨a, ha, ea⟩ := hL p h2
    obtain ⟨b, hb, eb⟩ := hL q (by omega)
    have hxy : x = y := by rw [ey] at h3; exact ((nI_eq (by omega) (by omega)).mp h3).symm
    have hpos : ∀ (i l : Nat), i < n → B i = nI x → L i = nI l → l < 8 → decide (0 < cn (fun i => bt (tc_wh B (nI x) n) i && decide (L i = nI l)) n) = true := by
      intro i l i1 i2 i3 i4
      apply decide_eq_true
      apply Nat.pos_of_ne_zero
      intro q
      have := cn_0.mp q i i1
      rw [wh_b hn (by omega), decide_eq_true i1, decide_eq_true i2, decide_eq_true i3] at this
      cases this
    have hab : a ≠ b := fun e => h5 (by rw [ea, eb, e])
    have pa := hpos p a h2 h3 ea ha
    have pb := hpos q b (by omega) h4 eb hb
    refine ⟨by omega, ?_⟩
    by_cases c : a < b
    · exact ⟨a, b, c, hb, pa, pb⟩
    · exact ⟨b, a, by omega, ha, pb, pa⟩
  · rintro ⟨h0, a, b, h1, h2, h3, h4⟩
    have hget : ∀ l, decide (0 < cn (fun i => bt (tc_wh B (nI x) n) i && decide (L i = nI l)) n) = true → ∃ i, i < n ∧ B i = nI x ∧ L i = nI l := by
      intro l hl
      have hl := of_decide_eq_true hl
      apply Classical.byContradiction
      intro q
      have : cn (fun i => bt (tc_wh B (nI x) n) i && decide (L i = nI l)) n = 0 := by
        rw [cn_0]
        intro i hi
        by_cases c1 : B i = nI x
        · by_cases c2 : L i = nI l
          · exact absurd ⟨i, hi, c1, c2⟩ q
          · rw [decide_eq_false c2, Bool.and_false]
        · rw [wh_b hn (by omega), decide_eq_false c1, Bool.and_false, Bool.false_and]
      omega
    obtain ⟨i, i1, i2, i3⟩ := hget a h3
    obtain ⟨j, j1, j2, j3⟩ := hget b h4
    have hne : ¬ L i = L j := fun e => by
      rw [i3, j3] at e
      have := (nI_eq (by omega) (by omega)).mp e
      omega
    have hij : i ≠ j := fun e => hne (by rw [e])
    by_cases c : i < j
    · exact ⟨j, i, c, j1, j2, i2, fun e => hne e.symm⟩
    · exact ⟨i, j, by omega, i1, i2, j2, hne⟩
theorem rmo_cg {L L' B B' : Nat → Int32} {n : Nat} (hL : ∀ i, i < n → L i = L' i) (hB : ∀ i, i < n → B i = B' i) : rmo L B n = rmo L' B' n := by
  unfold rmo
  refine fo_congr (fun p hp a => ?_)
  unfold rmi
  refine fo_congr (fun q hq a => ?_)
  rw [hL p hp, hL q (by omega), hB p hp, hB q (by omega)]
section
variable {sa : g_SA} {sc : Nat × Nat × (Nat → Int32)} {xt : Nat → Nat → List Value → tm_H → Option (Option Value × tm_H)} {d m : Nat} {h : tm_H} {Q : Option Value → tm_H → Prop} {I : Nat → Int32} {rd : Value} {ru : Nat} {C : Nat → tm_E}
variable {c n u : Nat} {F L W M B N Lm H Ms Bs Os : Nat → Int32} {s g : Int32} {rc hc mc : Nat} {R : Nat → Int64} {tx : Nat × (Nat → Int32)} {rw : Nat × (Nat → Int64)} {nw : TN} {pa : PA} {cd : List Int32} {he : Nat × (Nat → Int32)} {mi : Nat × (Nat → Int32) × (Nat → Int32) × (Nat → Int32)}
theorem m_mixed (hM : MV I C tx (rc, R) (L, W, M, B, n, s, g) pa cd he mi) (hQ : ∀ I' C', MV I' C' tx (rw1 R (mxd L B n 8).toInt64) (L, W, M, B, n, s, g) pa cd he mi → Q (some (.int (nI n - tc_home L B n))) (mh h m I' rd (m + 6) C')) : tm_D (g_G sa sc xt) (d + 1) 255 [.ref m] (mh h m I rd (m + 6) C) Q := by
  have hM7 : MV (iu I 7 0) C tx (rc, R) (L, W, M, B, n, s, g) pa cd he mi := hM.i7
  obtain ⟨N, Lm, f11, hG, hN, hL, h11, hr, hLe, hwf, i1, hn⟩ := hM7.ngt (m := m)
  have i1 : (iu I 7 0) 1 = nI n := i1
  have hn : n ≤ 12 := hn
  obtain ⟨I0, hI0⟩ : ∃ I0, I0 = iu I 7 0 := ⟨_, rfl⟩
  rw [← hI0] at i1 hM7
  obtain ⟨R', hR'⟩ : ∃ R', C 4 = .inl (3, 16, .inr (.inl R')) := by obtain ⟨-, -, R', hR, -⟩ := hM.2.1; exact ⟨R', hR⟩
  have eB : ∀ i, i < n → rB N i = B i := fun i hi => hr.2.2.1 i (by omega)
  have er : rmo Lm (rB N) n = mxd L B n 8 := (rmo_cg hLe eB).trans (mxd_rmo hn hwf.1.2.1 hwf.1.2.2)
  have outer : ∀ (j p : Nat) (x3 : Value), p + j = n → tm_X (g_G sa sc xt) (d + 1) 255 9 [.ref m, .int (rmo Lm (rB N) p), .int (nI p), x3] [] (mh h m I0 rd (m + 6) C) Q := by
    intro j
    induction j with
    | zero =>
      intro p x3 hp
      have hp : p = n := by omega
      subst hp
      rw [s_255_9]
      simp only [s_255_0, s_255_1, s_255_2, s_255_5, s_255_6, s_255_7, s_255_8, s_255_10, s_255_11, s_255_14, s_255_17, s_255_18, s_255_20, s_255_21, s_255_24, s_255_25, s_255_28, s_255_30, s_255_31, s_255_32, s_255_33, s_255_34, s_255_37, s_255_39, s_255_40, s_255_41, s_255_42, s_255_45, s_255_46, s_255_49, s_255_50, s_255_51, s_255_52, s_255_55, s_255_56, s_255_57, s_255_60, s_255_61, s_255_62, s_255_63, s_255_66, s_255_68, s_255_69, s_255_70, s_255_71, s_255_72, s_255_73, s_255_74, s_255_77, s_255_80, s_255_83, s_255_86, s_255_87, s_255_88, s_255_91, s_255_92, s_255_93, s_255_94, s_255_97, s_255_98, s_255_101, s_255_102, s_255_103, s_255_106, s_255_109, s_255_110, x_get_i, List.getElem?_cons_succ, List.getElem?_cons_zero, x_cv_j, cs_n, cs_i, cs_r, cs_l, Nat.reduceAdd, Nat.reduceLeDiff, true_and, Option.toList_some, Option.toList_none, List.cons_append, List.nil_append, if_true, if_false, nb0, nb1, x_setJ, x_setZ0, x_setZ1, x_setA, x_setO, List.length_cons, List.length_nil, Nat.reduceLT, List.set_cons_succ, List.set_cons_zero, wrl_0, wrl_1, wrl_2, wrl_3, wrl_4, wrl_5, wrl_p0, wrl_p1, wrl_p2, wrl_p3, wrl_p4, mh_o, mh_po, mcv, mg_0, mg_1, mg_2, mg_3, mg_4, mg_5, mg_6, mg_7, mg_8, mg_9, mg_10, mg_11, mg_12, mg_13, mg_14, mg_15, mg_16, mg_17, mg_18, mg_19, mg_20, mg_21, mg_22, mg_23, mg_24, mg_25, mg_26, mg_27, mg_28, mg_29, mg_30, mg_31, mg_32, mg_33, mg_34, mg_35, mg_36, mg_37, mg_38, mg_39, mg_40, mg_41, mg_42, mg_43, mg_44, mg_45, mg_46, ms_1, ms_4, ms_6, ms_7, ms_9, ms_10, ms_11, ms_12, ms_16, ms_20, ms_24, ms_28, ms_35, ms_39, ms_42, ms_43, ms_17t, ms_17f, ms_8, ms_14, mc_1, mp_1, mc_2, mp_2, mc_3, mp_3, mc_4, mp_4, mc_5, mp_5, mc_6, mp_6, mc_7, mp_7, mc_8, mp_8, mc_9, mp_9, mc_10, mp_10, mc_11, mp_11, mc_12, mp_12, mc_13, mp_13, mc_14, mp_14, mc_15, mp_15, mc_16, mp_16, mc_17, mp_17, mc_18, mp_18, mc_19, mp_19, mc_20, mp_20, mc_21, mp_21, mc_22, mp_22, mc_23, mp_23, mc_24, mp_24, mc_25, mp_25, mc_26, mp_26, mc_27, mp_27, mc_28, mp_28, mc_29, mp_29, iu, cup, Nat.reduceEqDiff, i1, Int32.le_refl]
      refine Iff.mpr (r_tell (k := 0) (R := R') (by decide) ?_ ?_ _) ?_
      · exact if_pos rfl
      · exact hR'
      simp only [s_255_0, s_255_1, s_255_2, s_255_5, s_255_6, s_255_7, s_255_8, s_255_10, s_255_11, s_255_14, s_255_17, s_255_18, s_255_20, s_255_21, s_255_24, s_255_25, s_255_28, s_255_30, s_255_31, s_255_32, s_255_33, s_255_34, s_255_37, s_255_39, s_255_40, s_255_41, s_255_42, s_255_45, s_255_46, s_255_49, s_255_50, s_255_51, s_255_52, s_255_55, s_255_56, s_255_57, s_255_60, s_255_61, s_255_62, s_255_63, s_255_66, s_255_68, s_255_69, s_255_70, s_255_71, s_255_72, s_255_73, s_255_74, s_255_77, s_255_80, s_255_83, s_255_86, s_255_87, s_255_88, s_255_91, s_255_92, s_255_93, s_255_94, s_255_97, s_255_98, s_255_101, s_255_102, s_255_103, s_255_106, s_255_109, s_255_110, x_get_i, List.getElem?_cons_succ, List.getElem?_cons_zero, x_cv_j, cs_n, cs_i, cs_r, cs_l, Nat.reduceAdd, Nat.reduceLeDiff, true_and, Option.toList_some, Option.toList_none, List.cons_append, List.nil_append, if_true, if_false, nb0, nb1, x_setJ, x_setZ0, x_setZ1, x_setA, x_setO, List.length_cons, List.length_nil, Nat.reduceLT, List.set_cons_succ, List.set_cons_zero, wrl_0, wrl_1, wrl_2, wrl_3, wrl_4, wrl_5, wrl_p0, wrl_p1, wrl_p2, wrl_p3, wrl_p4, mh_o, mh_po, mcv, mg_0, mg_1, mg_2, mg_3, mg_4, mg_5, mg_6, mg_7, mg_8, mg_9, mg_10, mg_11, mg_12, mg_13, mg_14, mg_15, mg_16, mg_17, mg_18, mg_19, mg_20, mg_21, mg_22, mg_23, mg_24, mg_25, mg_26, mg_27, mg_28, mg_29, mg_30, mg_31, mg_32, mg_33, mg_34, mg_35, mg_36, mg_37, mg_38, mg_39, mg_40, mg_41, mg_42, mg_43, mg_44, mg_45, mg_46, ms_1, ms_4, ms_6, ms_7, ms_9, ms_10, ms_11, ms_12, ms_16, ms_20, ms_24, ms_28, ms_35, ms_39, ms_42, ms_43, ms_17t, ms_17f, ms_8, ms_14, mc_1, mp_1, mc_2, mp_2, mc_3, mp_3, mc_4, mp_4, mc_5, mp_5, mc_6, mp_6, mc_7, mp_7, mc_8, mp_8, mc_9, mp_9, mc_10, mp_10, mc_11, mp_11, mc_12, mp_12, mc_13, mp_13, mc_14, mp_14, mc_15, mp_15, mc_16, mp_16, mc_17, mp_17, mc_18, mp_18, mc_19, mp_19, mc_20, mp_20, mc_21, mp_21, mc_22, mp_22, mc_23, mp_23, mc_24, mp_24, mc_25, mp_25, mc_26, mp_26, mc_27, mp_27, mc_28, mp_28, mc_29, mp_29, iu, cup, Nat.reduceEqDiff, iu_iu, i1]
      refine Iff.mpr (r_atHome (n := p) (x := m + 1) (N := N) (L := Lm) ?_ hn ?_ ?_) ?_
      · exact i1
      · exact (mh_c (by decide) (by decide)).trans hN
      · exact hL
      simp only [s_255_0, s_255_1, s_255_2, s_255_5, s_255_6, s_255_7, s_255_8, s_255_10, s_255_11, s_255_14, s_255_17, s_255_18, s_255_20, s_255_21, s_255_24, s_255_25, s_255_28, s_255_30, s_255_31, s_255_32, s_255_33, s_255_34, s_255_37, s_255_39, s_255_40, s_255_41, s_255_42, s_255_45, s_255_46, s_255_49, s_255_50, s_255_51, s_255_52, s_255_55, s_255_56, s_255_57, s_255_60, s_255_61, s_255_62, s_255_63, s_255_66, s_255_68, s_255_69, s_255_70, s_255_71, s_255_72, s_255_73, s_255_74, s_255_77, s_255_80, s_255_83, s_255_86, s_255_87, s_255_88, s_255_91, s_255_92, s_255_93, s_255_94, s_255_97, s_255_98, s_255_101, s_255_102, s_255_103, s_255_106, s_255_109, s_255_110, x_get_i, List.getElem?_cons_succ, List.getElem?_cons_zero, x_cv_j, cs_n, cs_i, cs_r, cs_l, Nat.reduceAdd, Nat.reduceLeDiff, true_and, Option.toList_some, Option.toList_none, List.cons_append, List.nil_append, if_true, if_false, nb0, nb1, x_setJ, x_setZ0, x_setZ1, x_setA, x_setO, List.length_cons, List.length_nil, Nat.reduceLT, List.set_cons_succ, List.set_cons_zero, wrl_0, wrl_1, wrl_2, wrl_3, wrl_4, wrl_5, wrl_p0, wrl_p1, wrl_p2, wrl_p3, wrl_p4, mh_o, mh_po, mcv, mg_0, mg_1, mg_2, mg_3, mg_4, mg_5, mg_6, mg_7, mg_8, mg_9, mg_10, mg_11, mg_12, mg_13, mg_14, mg_15, mg_16, mg_17, mg_18, mg_19, mg_20, mg_21, mg_22, mg_23, mg_24, mg_25, mg_26, mg_27, mg_28, mg_29, mg_30, mg_31, mg_32, mg_33, mg_34, mg_35, mg_36, mg_37, mg_38, mg_39, mg_40, mg_41, mg_42, mg_43, mg_44, mg_45, mg_46, ms_1, ms_4, ms_6, ms_7, ms_9, ms_10, ms_11, ms_12, ms_16, ms_20, ms_24, ms_28, ms_35, ms_39, ms_42, ms_43, ms_17t, ms_17f, ms_8, ms_14, mc_1, mp_1, mc_2, mp_2, mc_3, mp_3, mc_4, mp_4, mc_5, mp_5, mc_6, mp_6, mc_7, mp_7, mc_8, mp_8, mc_9, mp_9, mc_10, mp_10, mc_11, mp_11, mc_12, mp_12, mc_13, mp_13, mc_14, mp_14, mc_15, mp_15, mc_16, mp_16, mc_17, mp_17, mc_18, mp_18, mc_19, mp_19, mc_20, mp_20, mc_21, mp_21, mc_22, mp_22, mc_23, mp_23, mc_24, mp_24, mc_25, mp_25, mc_26, mp_26, mc_27, mp_27, mc_28, mp_28, mc_29, mp_29, iu, cup, Nat.reduceEqDiff]
      have e2 : tc_home Lm (rB N) p = tc_home L B p := RW_home hr hn hLe
      rw [er, e2]
      exact hQ _ _ (hM7.tell1 (KP.refl hM7.mx) rfl rfl)
    | succ j ih =>
      intro p x3 hp
      have hpn : p < n := by omega
      have inner : ∀ (r q : Nat), q + r = p → tm_X (g_G sa sc xt) (d + 1) 255 19 [.ref m, .int (rmi Lm (rB N) p (rmo Lm (rB N) p) q), .int (nI p), .int (nI q)] [] (mh h m I0 rd (m + 6) C) Q := by
        intro r
        induction r with
        | zero =>
          intro q hq
          have hq : q = p := by omega
          subst hq
          rw [s_255_19]
          simp only [s_255_0, s_255_1, s_255_2, s_255_5, s_255_6, s_255_7, s_255_8, s_255_10, s_255_11, s_255_14, s_255_17, s_255_18, s_255_20, s_255_21, s_255_24, s_255_25, s_255_28, s_255_30, s_255_31, s_255_32, s_255_33, s_255_34, s_255_37, s_255_39, s_255_40, s_255_41, s_255_42, s_255_45, s_255_46, s_255_49, s_255_50, s_255_51, s_255_52, s_255_55, s_255_56, s_255_57, s_255_60, s_255_61, s_255_62, s_255_63, s_255_66, s_255_68, s_255_69, s_255_70, s_255_71, s_255_72, s_255_73, s_255_74, s_255_77, s_255_80, s_255_83, s_255_86, s_255_87, s_255_88, s_255_91, s_255_92, s_255_93, s_255_94, s_255_97, s_255_98, s_255_101, s_255_102, s_255_103, s_255_106, s_255_109, s_255_110, x_get_i, List.getElem?_cons_succ, List.getElem?_cons_zero, x_cv_j, cs_n, cs_i, cs_r, cs_l, Nat.reduceAdd, Nat.reduceLeDiff, true_and, Option.toList_some, Option.toList_none, List.cons_append, List.nil_append, if_true, if_false, nb0, nb1, x_setJ, x_setZ0, x_setZ1, x_setA, x_setO, List.length_cons, List.length_nil, Nat.reduceLT, List.set_cons_succ, List.set_cons_zero, wrl_0, wrl_1, wrl_2, wrl_3, wrl_4, wrl_5, wrl_p0, wrl_p1, wrl_p2, wrl_p3, wrl_p4, mh_o, mh_po, mcv, mg_0, mg_1, mg_2, mg_3, mg_4, mg_5, mg_6, mg_7, mg_8, mg_9, mg_10, mg_11, mg_12, mg_13, mg_14, mg_15, mg_16, mg_17, mg_18, mg_19, mg_20, mg_21, mg_22, mg_23, mg_24, mg_25, mg_26, mg_27, mg_28, mg_29, mg_30, mg_31, mg_32, mg_33, mg_34, mg_35, mg_36, mg_37, mg_38, mg_39, mg_40, mg_41, mg_42, mg_43, mg_44, mg_45, mg_46, ms_1, ms_4, ms_6, ms_7, ms_9, ms_10, ms_11, ms_12, ms_16, ms_20, ms_24, ms_28, ms_35, ms_39, ms_42, ms_43, ms_17t, ms_17f, ms_8, ms_14, mc_1, mp_1, mc_2, mp_2, mc_3, mp_3, mc_4, mp_4, mc_5, mp_5, mc_6, mp_6, mc_7, mp_7, mc_8, mp_8, mc_9, mp_9, mc_10, mp_10, mc_11, mp_11, mc_12, mp_12, mc_13, mp_13, mc_14, mp_14, mc_15, mp_15, mc_16, mp_16, mc_17, mp_17, mc_18, mp_18, mc_19, mp_19, mc_20, mp_20, mc_21, mp_21, mc_22, mp_22, mc_23, mp_23, mc_24, mp_24, mc_25, mp_25, mc_26, mp_26, mc_27, mp_27, mc_28, mp_28, mc_29, mp_29, iu, cup, Nat.reduceEqDiff, Int32.le_refl, nI_1]
          exact ih (q + 1) _ (by omega)
        | succ r ihr =>
          intro q hq
          have es : rmi Lm (rB N) p (rmo Lm (rB N) p) (q + 1) = if N (24 + p) = N (24 + q) then (if Lm p = Lm q then rmi Lm (rB N) p (rmo Lm (rB N) p) q else rmi Lm (rB N) p (rmo Lm (rB N) p) q ||| (1 <<< (N (24 + p) &&& 31))) else rmi Lm (rB N) p (rmo Lm (rB N) p) q := rfl
          have ihr := ihr (q + 1) (by omega)
          rw [es] at ihr
          rw [s_255_19]
          simp only [s_255_0, s_255_1, s_255_2, s_255_5, s_255_6, s_255_7, s_255_8, s_255_10, s_255_11, s_255_14, s_255_17, s_255_18, s_255_20, s_255_21, s_255_24, s_255_25, s_255_28, s_255_30, s_255_31, s_255_32, s_255_33, s_255_34, s_255_37, s_255_39, s_255_40, s_255_41, s_255_42, s_255_45, s_255_46, s_255_49, s_255_50, s_255_51, s_255_52, s_255_55, s_255_56, s_255_57, s_255_60, s_255_61, s_255_62, s_255_63, s_255_66, s_255_68, s_255_69, s_255_70, s_255_71, s_255_72, s_255_73, s_255_74, s_255_77, s_255_80, s_255_83, s_255_86, s_255_87, s_255_88, s_255_91, s_255_92, s_255_93, s_255_94, s_255_97, s_255_98, s_255_101, s_255_102, s_255_103, s_255_106, s_255_109, s_255_110, x_get_i, List.getElem?_cons_succ, List.getElem?_cons_zero, x_cv_j, cs_n, cs_i, cs_r, cs_l, Nat.reduceAdd, Nat.reduceLeDiff, true_and, Option.toList_some, Option.toList_none, List.cons_append, List.nil_append, if_true, if_false, nb0, nb1, x_setJ, x_setZ0, x_setZ1, x_setA, x_setO, List.length_cons, List.length_nil, Nat.reduceLT, List.set_cons_succ, List.set_cons_zero, wrl_0, wrl_1, wrl_2, wrl_3, wrl_4, wrl_5, wrl_p0, wrl_p1, wrl_p2, wrl_p3, wrl_p4, mh_o, mh_po, mcv, mg_0, mg_1, mg_2, mg_3, mg_4, mg_5, mg_6, mg_7, mg_8, mg_9, mg_10, mg_11, mg_12, mg_13, mg_14, mg_15, mg_16, mg_17, mg_18, mg_19, mg_20, mg_21, mg_22, mg_23, mg_24, mg_25, mg_26, mg_27, mg_28, mg_29, mg_30, mg_31, mg_32, mg_33, mg_34, mg_35, mg_36, mg_37, mg_38, mg_39, mg_40, mg_41, mg_42, mg_43, mg_44, mg_45, mg_46, ms_1, ms_4, ms_6, ms_7, ms_9, ms_10, ms_11, ms_12, ms_16, ms_20, ms_24, ms_28, ms_35, ms_39, ms_42, ms_43, ms_17t, ms_17f, ms_8, ms_14, mc_1, mp_1, mc_2, mp_2, mc_3, mp_3, mc_4, mp_4, mc_5, mp_5, mc_6, mp_6, mc_7, mp_7, mc_8, mp_8, mc_9, mp_9, mc_10, mp_10, mc_11, mp_11, mc_12, mp_12, mc_13, mp_13, mc_14, mp_14, mc_15, mp_15, mc_16, mp_16, mc_17, mp_17, mc_18, mp_18, mc_19, mp_19, mc_20, mp_20, mc_21, mp_21, mc_22, mp_22, mc_23, mp_23, mc_24, mp_24, mc_25, mp_25, mc_26, mp_26, mc_27, mp_27, mc_28, mp_28, mc_29, mp_29, iu, cup, Nat.reduceEqDiff, show ¬ nI p ≤ nI q from nI_ge (by omega) (by omega), hN, hL, e24, x_ild_n (show 24 + p < 38 by omega) n38, x_ild_n (show 24 + q < 38 by omega) n38, x_ild_n (show p < 12 by omega) n12, x_ild_n (show q < 12 by omega) n12, nI_1]
          by_cases c1 : N (24 + p) = N (24 + q)
          · by_cases c2 : Lm p = Lm q
            · simp only [c1, c2, if_true] at ihr ⊢
              exact ihr
            · rw [if_pos c1, if_neg c2] at ihr
              rw [if_pos c1, if_neg c2]
              exact ihr
          · simp only [c1, if_false] at ihr ⊢
            exact ihr
      rw [s_255_9]
      simp only [s_255_0, s_255_1, s_255_2, s_255_5, s_255_6, s_255_7, s_255_8, s_255_10, s_255_11, s_255_14, s_255_17, s_255_18, s_255_20, s_255_21, s_255_24, s_255_25, s_255_28, s_255_30, s_255_31, s_255_32, s_255_33, s_255_34, s_255_37, s_255_39, s_255_40, s_255_41, s_255_42, s_255_45, s_255_46, s_255_49, s_255_50, s_255_51, s_255_52, s_255_55, s_255_56, s_255_57, s_255_60, s_255_61, s_255_62, s_255_63, s_255_66, s_255_68, s_255_69, s_255_70, s_255_71, s_255_72, s_255_73, s_255_74, s_255_77, s_255_80, s_255_83, s_255_86, s_255_87, s_255_88, s_255_91, s_255_92, s_255_93, s_255_94, s_255_97, s_255_98, s_255_101, s_255_102, s_255_103, s_255_106, s_255_109, s_255_110, x_get_i, List.getElem?_cons_succ, List.getElem?_cons_zero, x_cv_j, cs_n, cs_i, cs_r, cs_l, Nat.reduceAdd, Nat.reduceLeDiff, true_and, Option.toList_some, Option.toList_none, List.cons_append, List.nil_append, if_true, if_false, nb0, nb1, x_setJ, x_setZ0, x_setZ1, x_setA, x_setO, List.length_cons, List.length_nil, Nat.reduceLT, List.set_cons_succ, List.set_cons_zero, wrl_0, wrl_1, wrl_2, wrl_3, wrl_4, wrl_5, wrl_p0, wrl_p1, wrl_p2, wrl_p3, wrl_p4, mh_o, mh_po, mcv, mg_0, mg_1, mg_2, mg_3, mg_4, mg_5, mg_6, mg_7, mg_8, mg_9, mg_10, mg_11, mg_12, mg_13, mg_14, mg_15, mg_16, mg_17, mg_18, mg_19, mg_20, mg_21, mg_22, mg_23, mg_24, mg_25, mg_26, mg_27, mg_28, mg_29, mg_30, mg_31, mg_32, mg_33, mg_34, mg_35, mg_36, mg_37, mg_38, mg_39, mg_40, mg_41, mg_42, mg_43, mg_44, mg_45, mg_46, ms_1, ms_4, ms_6, ms_7, ms_9, ms_10, ms_11, ms_12, ms_16, ms_20, ms_24, ms_28, ms_35, ms_39, ms_42, ms_43, ms_17t, ms_17f, ms_8, ms_14, mc_1, mp_1, mc_2, mp_2, mc_3, mp_3, mc_4, mp_4, mc_5, mp_5, mc_6, mp_6, mc_7, mp_7, mc_8, mp_8, mc_9, mp_9, mc_10, mp_10, mc_11, mp_11, mc_12, mp_12, mc_13, mp_13, mc_14, mp_14, mc_15, mp_15, mc_16, mp_16, mc_17, mp_17, mc_18, mp_18, mc_19, mp_19, mc_20, mp_20, mc_21, mp_21, mc_22, mp_22, mc_23, mp_23, mc_24, mp_24, mc_25, mp_25, mc_26, mp_26, mc_27, mp_27, mc_28, mp_28, mc_29, mp_29, iu, cup, Nat.reduceEqDiff, i1, show ¬ nI n ≤ nI p from nI_ge (by omega) (by omega)]
      exact inner p 0 (by omega)
  rw [e_255]
  simp only [s_255_0, s_255_1, s_255_2, s_255_5, s_255_6, s_255_7, s_255_8, s_255_10, s_255_11, s_255_14, s_255_17, s_255_18, s_255_20, s_255_21, s_255_24, s_255_25, s_255_28, s_255_30, s_255_31, s_255_32, s_255_33, s_255_34, s_255_37, s_255_39, s_255_40, s_255_41, s_255_42, s_255_45, s_255_46, s_255_49, s_255_50, s_255_51, s_255_52, s_255_55, s_255_56, s_255_57, s_255_60, s_255_61, s_255_62, s_255_63, s_255_66, s_255_68, s_255_69, s_255_70, s_255_71, s_255_72, s_255_73, s_255_74, s_255_77, s_255_80, s_255_83, s_255_86, s_255_87, s_255_88, s_255_91, s_255_92, s_255_93, s_255_94, s_255_97, s_255_98, s_255_101, s_255_102, s_255_103, s_255_106, s_255_109, s_255_110, x_get_i, List.getElem?_cons_succ, List.getElem?_cons_zero, x_cv_j, cs_n, cs_i, cs_r, cs_l, Nat.reduceAdd, Nat.reduceLeDiff, true_and, Option.toList_some, Option.toList_none, List.cons_append, List.nil_append, if_true, if_false, nb0, nb1, x_setJ, x_setZ0, x_setZ1, x_setA, x_setO, List.length_cons, List.length_nil, Nat.reduceLT, List.set_cons_succ, List.set_cons_zero, wrl_0, wrl_1, wrl_2, wrl_3, wrl_4, wrl_5, wrl_p0, wrl_p1, wrl_p2, wrl_p3, wrl_p4, mh_o, mh_po, mcv, mg_0, mg_1, mg_2, mg_3, mg_4, mg_5, mg_6, mg_7, mg_8, mg_9, mg_10, mg_11, mg_12, mg_13, mg_14, mg_15, mg_16, mg_17, mg_18, mg_19, mg_20, mg_21, mg_22, mg_23, mg_24, mg_25, mg_26, mg_27, mg_28, mg_29, mg_30, mg_31, mg_32, mg_33, mg_34, mg_35, mg_36, mg_37, mg_38, mg_39, mg_40, mg_41, mg_42, mg_43, mg_44, mg_45, mg_46, ms_1, ms_4, ms_6, ms_7, ms_9, ms_10, ms_11, ms_12, ms_16, ms_20, ms_24, ms_28, ms_35, ms_39, ms_42, ms_43, ms_17t, ms_17f, ms_8, ms_14, mc_1, mp_1, mc_2, mp_2, mc_3, mp_3, mc_4, mp_4, mc_5, mp_5, mc_6, mp_6, mc_7, mp_7, mc_8, mp_8, mc_9, mp_9, mc_10, mp_10, mc_11, mp_11, mc_12, mp_12, mc_13, mp_13, mc_14, mp_14, mc_15, mp_15, mc_16, mp_16, mc_17, mp_17, mc_18, mp_18, mc_19, mp_19, mc_20, mp_20, mc_21, mp_21, mc_22, mp_22, mc_23, mp_23, mc_24, mp_24, mc_25, mp_25, mc_26, mp_26, mc_27, mp_27, mc_28, mp_28, mc_29, mp_29, iu, cup, Nat.reduceEqDiff]
  rw [← hI0]
  exact outer n 0 _ (by omega)
/-- what the two loops know of each other -/
def RBR (rc : Nat) (R : Nat → Int64) (a : Int32 × Nat × (Nat → Int64)) (o t : Int32) : Prop := -1 ≤ a.1 ∧ ((o = -1 ∧ a = (-1, rc, R)) ∨ ∃ p q R', p < 12 ∧ o = nI p ∧ t = nI q ∧ a.2 = rw2 R' (nI p).toInt64 (nI q).toInt64 ∧ ¬ a.1 = -1)
theorem m_rubs (hM : MV I C tx (rc, R) (L, W, M, B, n, s, g) pa cd he mi) (hQ : ∀ I' C', MV I' C' tx (rbo M B n n 0 (-1, rc, R)).2 (L, W, M, B, n, s, g) pa cd he mi → Q (some (.int (if (rbo M B n n 0 (-1, rc, R)).1 = -1 then -2 else (rbo M B n n 0 (-1, rc, R)).1))) (mh h m I' rd (m + 6) C')) : tm_D (g_G sa sc xt) (d + 1) 256 [.ref m] (mh h m I rd (m + 6) C) Q := by
  have hM7 : MV (iu I 7 0) C tx (rc, R) (L, W, M, B, n, s, g) pa cd he mi := hM.i7
  obtain ⟨N, Lm, f11, hG, hN, hL, h11, hr, hLe, hwf, i1, hn⟩ := hM7.ngt (m := m)
  have i1 : (iu I 7 0) 1 = nI n := i1
  have hn : n ≤ 12 := hn
  obtain ⟨I0, hI0⟩ : ∃ I0, I0 = iu I 7 0 := ⟨_, rfl⟩
  rw [← hI0] at i1 hM7
  obtain ⟨R', hR'⟩ : ∃ R', C 4 = .inl (3, 16, .inr (.inl R')) := by obtain ⟨-, -, R', hR, -⟩ := hM.2.1; exact ⟨R', hR⟩
  have eB : ∀ i, i < n → N (24 + i) = B i := fun i hi => hr.2.2.1 i (by omega)
  have eM : ∀ i, i < n → N (12 + i) = M i := fun i hi => hr.2.1 i (by omega)
  have ei : ∀ x : Int32, (if 0 ≤ x then x else 0 - x) = iabs x := fun x => rfl
  have outer : ∀ (j p : Nat) (a : Int32 × Nat × (Nat → Int64)) (o t : Int32) (x5 : Value), p + j = n → RBR rc R a o t → rbo M B n j p a = rbo M B n n 0 (-1, rc, R) → tm_X (g_G sa sc xt) (d + 1) 256 14 [.ref m, .int a.1, .int o, .int t, .int (nI p), x5] [] (mh h m I0 rd (m + 6) C) Q := by
    intro j
    induction j with
    | zero =>
      intro p a o t x5 hp hR er
      have hp : p = n := by omega
      subst hp
      have er : a = rbo M B p p 0 (-1, rc, R) := er
      rw [← er] at hQ
      rw [s_256_14]
      simp only [s_256_0, s_256_1, s_256_2, s_256_5, s_256_6, s_256_7, s_256_8, s_256_9, s_256_10, s_256_11, s_256_12, s_256_16, s_256_17, s_256_20, s_256_23, s_256_25, s_256_26, s_256_27, s_256_31, s_256_32, s_256_35, s_256_38, s_256_39, s_256_42, s_256_44, s_256_46, s_256_47, s_256_48, s_256_49, s_256_52, s_256_54, s_256_56, s_256_57, s_256_58, s_256_61, s_256_62, s_256_65, s_256_67, s_256_69, s_256_70, s_256_71, s_256_72, s_256_75, s_256_77, s_256_79, s_256_80, s_256_81, s_256_82, s_256_85, s_256_86, s_256_89, s_256_92, s_256_93, s_256_96, s_256_98, s_256_100, s_256_101, s_256_102, s_256_103, s_256_106, s_256_108, s_256_110, s_256_111, s_256_112, s_256_113, s_256_116, s_256_117, s_256_119, s_256_120, s_256_122, s_256_123, s_256_126, s_256_129, s_256_132, s_256_135, s_256_136, s_256_137, s_256_140, s_256_142, s_256_143, s_256_144, s_256_145, s_256_148, s_256_149, s_256_150, s_256_151, s_256_154, s_256_155, s_256_156, s_256_157, s_256_160, s_256_161, x_get_i, List.getElem?_cons_succ, List.getElem?_cons_zero, x_cv_j, cs_n, cs_i, cs_r, cs_l, Nat.reduceAdd, Nat.reduceLeDiff, true_and, Option.toList_some, Option.toList_none, List.cons_append, List.nil_append, if_true, if_false, nb0, nb1, x_setJ, x_setZ0, x_setZ1, x_setA, x_setO, List.length_cons, List.length_nil, Nat.reduceLT, List.set_cons_succ, List.set_cons_zero, wrl_0, wrl_1, wrl_2, wrl_3, wrl_4, wrl_5, wrl_p0, wrl_p1, wrl_p2, wrl_p3, wrl_p4, mh_o, mh_po, mcv, mg_0, mg_1, mg_2, mg_3, mg_4, mg_5, mg_6, mg_7, mg_8, mg_9, mg_10, mg_11, mg_12, mg_13, mg_14, mg_15, mg_16, mg_17, mg_18, mg_19, mg_20, mg_21, mg_22, mg_23, mg_24, mg_25, mg_26, mg_27, mg_28, mg_29, mg_30, mg_31, mg_32, mg_33, mg_34, mg_35, mg_36, mg_37, mg_38, mg_39, mg_40, mg_41, mg_42, mg_43, mg_44, mg_45, mg_46, ms_1, ms_4, ms_6, ms_7, ms_9, ms_10, ms_11, ms_12, ms_16, ms_20, ms_24, ms_28, ms_35, ms_39, ms_42, ms_43, ms_17t, ms_17f, ms_8, ms_14, mc_1, mp_1, mc_2, mp_2, mc_3, mp_3, mc_4, mp_4, mc_5, mp_5, mc_6, mp_6, mc_7, mp_7, mc_8, mp_8, mc_9, mp_9, mc_10, mp_10, mc_11, mp_11, mc_12, mp_12, mc_13, mp_13, mc_14, mp_14, mc_15, mp_15, mc_16, mp_16, mc_17, mp_17, mc_18, mp_18, mc_19, mp_19, mc_20, mp_20, mc_21, mp_21, mc_22, mp_22, mc_23, mp_23, mc_24, mp_24, mc_25, mp_25, mc_26, mp_26, mc_27, mp_27, mc_28, mp_28, mc_29, mp_29, iu, cup, Nat.reduceEqDiff, i1, Int32.le_refl]
      obtain ⟨h1, h2⟩ := hR
      rcases h2 with ⟨e1, e2⟩ | ⟨p', q', R2, e0, e1, e2, e3, e4⟩
      · simp only [e1, if_true, not_true_eq_false, if_false]
        rw [e2] at hQ
        have := hQ I0 C hM7
        rw [if_pos rfl] at this
        exact this
      · simp only [e1, show ¬ nI p' = -1 from oI_ne (by omega), if_false, not_false_eq_true, if_true]
        refine Iff.mpr (r_tell (k := 0) (R := R') (by decide) ?_ ?_ _) ?_
        · exact if_pos rfl
        · exact hR'
        simp only [s_256_0, s_256_1, s_256_2, s_256_5, s_256_6, s_256_7, s_256_8, s_256_9, s_256_10, s_256_11, s_256_12, s_256_16, s_256_17, s_256_20, s_256_23, s_256_25, s_256_26, s_256_27, s_256_31, s_256_32, s_256_35, s_256_38, s_256_39, s_256_42, s_256_44, s_256_46, s_256_47, s_256_48, s_256_49, s_256_52, s_256_54, s_256_56, s_256_57, s_256_58, s_256_61, s_256_62, s_256_65, s_256_67, s_256_69, s_256_70, s_256_71, s_256_72, s_256_75, s_256_77, s_256_79, s_256_80, s_256_81, s_256_82, s_256_85, s_256_86, s_256_89, s_256_92, s_256_93, s_256_96, s_256_98, s_256_100, s_256_101, s_256_102, s_256_103, s_256_106, s_256_108, s_256_110, s_256_111, s_256_112, s_256_113, s_256_116, s_256_117, s_256_119, s_256_120, s_256_122, s_256_123, s_256_126, s_256_129, s_256_132, s_256_135, s_256_136, s_256_137, s_256_140, s_256_142, s_256_143, s_256_144, s_256_145, s_256_148, s_256_149, s_256_150, s_256_151, s_256_154, s_256_155, s_256_156, s_256_157, s_256_160, s_256_161, x_get_i, List.getElem?_cons_succ, List.getElem?_cons_zero, x_cv_j, cs_n, cs_i, cs_r, cs_l, Nat.reduceAdd, Nat.reduceLeDiff, true_and, Option.toList_some, Option.toList_none, List.cons_append, List.nil_append, if_true, if_false, nb0, nb1, x_setJ, x_setZ0, x_setZ1, x_setA, x_setO, List.length_cons, List.length_nil, Nat.reduceLT, List.set_cons_succ, List.set_cons_zero, wrl_0, wrl_1, wrl_2, wrl_3, wrl_4, wrl_5, wrl_p0, wrl_p1, wrl_p2, wrl_p3, wrl_p4, mh_o, mh_po, mcv, mg_0, mg_1, mg_2, mg_3, mg_4, mg_5, mg_6, mg_7, mg_8, mg_9, mg_10, mg_11, mg_12, mg_13, mg_14, mg_15, mg_16, mg_17, mg_18, mg_19, mg_20, mg_21, mg_22, mg_23, mg_24, mg_25, mg_26, mg_27, mg_28, mg_29, mg_30, mg_31, mg_32, mg_33, mg_34, mg_35, mg_36, mg_37, mg_38, mg_39, mg_40, mg_41, mg_42, mg_43, mg_44, mg_45, mg_46, ms_1, ms_4, ms_6, ms_7, ms_9, ms_10, ms_11, ms_12, ms_16, ms_20, ms_24, ms_28, ms_35, ms_39, ms_42, ms_43, ms_17t, ms_17f, ms_8, ms_14, mc_1, mp_1, mc_2, mp_2, mc_3, mp_3, mc_4, mp_4, mc_5, mp_5, mc_6, mp_6, mc_7, mp_7, mc_8, mp_8, mc_9, mp_9, mc_10, mp_10, mc_11, mp_11, mc_12, mp_12, mc_13, mp_13, mc_14, mp_14, mc_15, mp_15, mc_16, mp_16, mc_17, mp_17, mc_18, mp_18, mc_19, mp_19, mc_20, mp_20, mc_21, mp_21, mc_22, mp_22, mc_23, mp_23, mc_24, mp_24, mc_25, mp_25, mc_26, mp_26, mc_27, mp_27, mc_28, mp_28, mc_29, mp_29, iu, cup, Nat.reduceEqDiff, iu_iu]
        refine Iff.mpr (r_tell (k := 1) (R := vp_updL R' 0 (nI p').toInt64) (by decide) ?_ ?_ _) ?_
        · exact if_pos rfl
        · exact if_pos rfl
        simp only [s_256_0, s_256_1, s_256_2, s_256_5, s_256_6, s_256_7, s_256_8, s_256_9, s_256_10, s_256_11, s_256_12, s_256_16, s_256_17, s_256_20, s_256_23, s_256_25, s_256_26, s_256_27, s_256_31, s_256_32, s_256_35, s_256_38, s_256_39, s_256_42, s_256_44, s_256_46, s_256_47, s_256_48, s_256_49, s_256_52, s_256_54, s_256_56, s_256_57, s_256_58, s_256_61, s_256_62, s_256_65, s_256_67, s_256_69, s_256_70, s_256_71, s_256_72, s_256_75, s_256_77, s_256_79, s_256_80, s_256_81, s_256_82, s_256_85, s_256_86, s_256_89, s_256_92, s_256_93, s_256_96, s_256_98, s_256_100, s_256_101, s_256_102, s_256_103, s_256_106, s_256_108, s_256_110, s_256_111, s_256_112, s_256_113, s_256_116, s_256_117, s_256_119, s_256_120, s_256_122, s_256_123, s_256_126, s_256_129, s_256_132, s_256_135, s_256_136, s_256_137, s_256_140, s_256_142, s_256_143, s_256_144, s_256_145, s_256_148, s_256_149, s_256_150, s_256_151, s_256_154, s_256_155, s_256_156, s_256_157, s_256_160, s_256_161, x_get_i, List.getElem?_cons_succ, List.getElem?_cons_zero, x_cv_j, cs_n, cs_i, cs_r, cs_l, Nat.reduceAdd, Nat.reduceLeDiff, true_and, Option.toList_some, Option.toList_none, List.cons_append, List.nil_append, if_true, if_false, nb0, nb1, x_setJ, x_setZ0, x_setZ1, x_setA, x_setO, List.length_cons, List.length_nil, Nat.reduceLT, List.set_cons_succ, List.set_cons_zero, wrl_0, wrl_1, wrl_2, wrl_3, wrl_4, wrl_5, wrl_p0, wrl_p1, wrl_p2, wrl_p3, wrl_p4, mh_o, mh_po, mcv, mg_0, mg_1, mg_2, mg_3, mg_4, mg_5, mg_6, mg_7, mg_8, mg_9, mg_10, mg_11, mg_12, mg_13, mg_14, mg_15, mg_16, mg_17, mg_18, mg_19, mg_20, mg_21, mg_22, mg_23, mg_24, mg_25, mg_26, mg_27, mg_28, mg_29, mg_30, mg_31, mg_32, mg_33, mg_34, mg_35, mg_36, mg_37, mg_38, mg_39, mg_40, mg_41, mg_42, mg_43, mg_44, mg_45, mg_46, ms_1, ms_4, ms_6, ms_7, ms_9, ms_10, ms_11, ms_12, ms_16, ms_20, ms_24, ms_28, ms_35, ms_39, ms_42, ms_43, ms_17t, ms_17f, ms_8, ms_14, mc_1, mp_1, mc_2, mp_2, mc_3, mp_3, mc_4, mp_4, mc_5, mp_5, mc_6, mp_6, mc_7, mp_7, mc_8, mp_8, mc_9, mp_9, mc_10, mp_10, mc_11, mp_11, mc_12, mp_12, mc_13, mp_13, mc_14, mp_14, mc_15, mp_15, mc_16, mp_16, mc_17, mp_17, mc_18, mp_18, mc_19, mp_19, mc_20, mp_20, mc_21, mp_21, mc_22, mp_22, mc_23, mp_23, mc_24, mp_24, mc_25, mp_25, mc_26, mp_26, mc_27, mp_27, mc_28, mp_28, mc_29, mp_29, iu, cup, Nat.reduceEqDiff, iu_iu, cup_cup]
        rw [e3, if_neg e4] at hQ
        rw [e2]
        exact hQ _ _ (hM7.tell2 (KP.refl hM7.mx) rfl rfl)
    | succ j ih =>
      intro p a o t x5 hp hR er
      have hpn : p < n := by omega
      have inner : ∀ (r q : Nat) (a : Int32 × Nat × (Nat → Int64)) (o t : Int32), q + r = n → p < q → RBR rc R a o t → rbo M B n j (p + 1) (rbi M B p r q a) = rbo M B n n 0 (-1, rc, R) → tm_X (g_G sa sc xt) (d + 1) 256 29 [.ref m, .int a.1, .int o, .int t, .int (nI p), .int (nI q)] [] (mh h m I0 rd (m + 6) C) Q := by
        intro r
        induction r with
        | zero =>
          intro q a o t hq hpq hR er
          have hq : q = n := by omega
          subst hq
          rw [s_256_29]
          simp only [s_256_0, s_256_1, s_256_2, s_256_5, s_256_6, s_256_7, s_256_8, s_256_9, s_256_10, s_256_11, s_256_12, s_256_16, s_256_17, s_256_20, s_256_23, s_256_25, s_256_26, s_256_27, s_256_31, s_256_32, s_256_35, s_256_38, s_256_39, s_256_42, s_256_44, s_256_46, s_256_47, s_256_48, s_256_49, s_256_52, s_256_54, s_256_56, s_256_57, s_256_58, s_256_61, s_256_62, s_256_65, s_256_67, s_256_69, s_256_70, s_256_71, s_256_72, s_256_75, s_256_77, s_256_79, s_256_80, s_256_81, s_256_82, s_256_85, s_256_86, s_256_89, s_256_92, s_256_93, s_256_96, s_256_98, s_256_100, s_256_101, s_256_102, s_256_103, s_256_106, s_256_108, s_256_110, s_256_111, s_256_112, s_256_113, s_256_116, s_256_117, s_256_119, s_256_120, s_256_122, s_256_123, s_256_126, s_256_129, s_256_132, s_256_135, s_256_136, s_256_137, s_256_140, s_256_142, s_256_143, s_256_144, s_256_145, s_256_148, s_256_149, s_256_150, s_256_151, s_256_154, s_256_155, s_256_156, s_256_157, s_256_160, s_256_161, x_get_i, List.getElem?_cons_succ, List.getElem?_cons_zero, x_cv_j, cs_n, cs_i, cs_r, cs_l, Nat.reduceAdd, Nat.reduceLeDiff, true_and, Option.toList_some, Option.toList_none, List.cons_append, List.nil_append, if_true, if_false, nb0, nb1, x_setJ, x_setZ0, x_setZ1, x_setA, x_setO, List.length_cons, List.length_nil, Nat.reduceLT, List.set_cons_succ, List.set_cons_zero, wrl_0, wrl_1, wrl_2, wrl_3, wrl_4, wrl_5, wrl_p0, wrl_p1, wrl_p2, wrl_p3, wrl_p4, mh_o, mh_po, mcv, mg_0, mg_1, mg_2, mg_3, mg_4, mg_5, mg_6, mg_7, mg_8, mg_9, mg_10, mg_11, mg_12, mg_13, mg_14, mg_15, mg_16, mg_17, mg_18, mg_19, mg_20, mg_21, mg_22, mg_23, mg_24, mg_25, mg_26, mg_27, mg_28, mg_29, mg_30, mg_31, mg_32, mg_33, mg_34, mg_35, mg_36, mg_37, mg_38, mg_39, mg_40, mg_41, mg_42, mg_43, mg_44, mg_45, mg_46, ms_1, ms_4, ms_6, ms_7, ms_9, ms_10, ms_11, ms_12, ms_16, ms_20, ms_24, ms_28, ms_35, ms_39, ms_42, ms_43, ms_17t, ms_17f, ms_8, ms_14, mc_1, mp_1, mc_2, mp_2, mc_3, mp_3, mc_4, mp_4, mc_5, mp_5, mc_6, mp_6, mc_7, mp_7, mc_8, mp_8, mc_9, mp_9, mc_10, mp_10, mc_11, mp_11, mc_12, mp_12, mc_13, mp_13, mc_14, mp_14, mc_15, mp_15, mc_16, mp_16, mc_17, mp_17, mc_18, mp_18, mc_19, mp_19, mc_20, mp_20, mc_21, mp_21, mc_22, mp_22, mc_23, mp_23, mc_24, mp_24, mc_25, mp_25, mc_26, mp_26, mc_27, mp_27, mc_28, mp_28, mc_29, mp_29, iu, cup, Nat.reduceEqDiff, i1, Int32.le_refl, nI_1]
          exact ih (p + 1) a o t _ (by omega) hR er
        | succ r ihr =>
          intro q a o t hq hpq hR er
          have er : rbo M B n j (p + 1) (rbi M B p r (q + 1) (if B p = B q then (if iabs (M p - M q) ≤ a.1 then a else (iabs (M p - M q), rw2 a.2.2 (nI p).toInt64 (nI q).toInt64)) else a)) = rbo M B n n 0 (-1, rc, R) := er
          rw [s_256_29]
          simp only [s_256_0, s_256_1, s_256_2, s_256_5, s_256_6, s_256_7, s_256_8, s_256_9, s_256_10, s_256_11, s_256_12, s_256_16, s_256_17, s_256_20, s_256_23, s_256_25, s_256_26, s_256_27, s_256_31, s_256_32, s_256_35, s_256_38, s_256_39, s_256_42, s_256_44, s_256_46, s_256_47, s_256_48, s_256_49, s_256_52, s_256_54, s_256_56, s_256_57, s_256_58, s_256_61, s_256_62, s_256_65, s_256_67, s_256_69, s_256_70, s_256_71, s_256_72, s_256_75, s_256_77, s_256_79, s_256_80, s_256_81, s_256_82, s_256_85, s_256_86, s_256_89, s_256_92, s_256_93, s_256_96, s_256_98, s_256_100, s_256_101, s_256_102, s_256_103, s_256_106, s_256_108, s_256_110, s_256_111, s_256_112, s_256_113, s_256_116, s_256_117, s_256_119, s_256_120, s_256_122, s_256_123, s_256_126, s_256_129, s_256_132, s_256_135, s_256_136, s_256_137, s_256_140, s_256_142, s_256_143, s_256_144, s_256_145, s_256_148, s_256_149, s_256_150, s_256_151, s_256_154, s_256_155, s_256_156, s_256_157, s_256_160, s_256_161, x_get_i, List.getElem?_cons_succ, List.getElem?_cons_zero, x_cv_j, cs_n, cs_i, cs_r, cs_l, Nat.reduceAdd, Nat.reduceLeDiff, true_and, Option.toList_some, Option.toList_none, List.cons_append, List.nil_append, if_true, if_false, nb0, nb1, x_setJ, x_setZ0, x_setZ1, x_setA, x_setO, List.length_cons, List.length_nil, Nat.reduceLT, List.set_cons_succ, List.set_cons_zero, wrl_0, wrl_1, wrl_2, wrl_3, wrl_4, wrl_5, wrl_p0, wrl_p1, wrl_p2, wrl_p3, wrl_p4, mh_o, mh_po, mcv, mg_0, mg_1, mg_2, mg_3, mg_4, mg_5, mg_6, mg_7, mg_8, mg_9, mg_10, mg_11, mg_12, mg_13, mg_14, mg_15, mg_16, mg_17, mg_18, mg_19, mg_20, mg_21, mg_22, mg_23, mg_24, mg_25, mg_26, mg_27, mg_28, mg_29, mg_30, mg_31, mg_32, mg_33, mg_34, mg_35, mg_36, mg_37, mg_38, mg_39, mg_40, mg_41, mg_42, mg_43, mg_44, mg_45, mg_46, ms_1, ms_4, ms_6, ms_7, ms_9, ms_10, ms_11, ms_12, ms_16, ms_20, ms_24, ms_28, ms_35, ms_39, ms_42, ms_43, ms_17t, ms_17f, ms_8, ms_14, mc_1, mp_1, mc_2, mp_2, mc_3, mp_3, mc_4, mp_4, mc_5, mp_5, mc_6, mp_6, mc_7, mp_7, mc_8, mp_8, mc_9, mp_9, mc_10, mp_10, mc_11, mp_11, mc_12, mp_12, mc_13, mp_13, mc_14, mp_14, mc_15, mp_15, mc_16, mp_16, mc_17, mp_17, mc_18, mp_18, mc_19, mp_19, mc_20, mp_20, mc_21, mp_21, mc_22, mp_22, mc_23, mp_23, mc_24, mp_24, mc_25, mp_25, mc_26, mp_26, mc_27, mp_27, mc_28, mp_28, mc_29, mp_29, iu, cup, Nat.reduceEqDiff, i1, show ¬ nI n ≤ nI q from nI_ge (by omega) (by omega), hN, e24, e12, x_ild_n (show 24 + p < 38 by omega) n38, x_ild_n (show 24 + q < 38 by omega) n38, x_ild_n (show 12 + p < 38 by omega) n38, x_ild_n (show 12 + q < 38 by omega) n38, eB p hpn, eB q (by omega), eM p hpn, eM q (by omega), ei, nI_1]
          by_cases c1 : B p = B q
          · rw [if_pos c1] at er
            simp only [c1, if_true]
            by_cases c2 : iabs (M p - M q) ≤ a.1
            · rw [if_pos c2] at er
              simp only [Int32.not_lt.mpr c2, if_false]
              exact ihr (q + 1) a o t (by omega) (by omega) hR er
            · rw [if_neg c2] at er
              have c3 : a.1 < iabs (M p - M q) := Int32.not_le.mp c2
              simp only [c3, if_true]
              refine ihr (q + 1) _ (nI p) (nI q) (by omega) (by omega) ⟨?_, Or.inr ⟨p, q, a.2.2, by omega, rfl, rfl, rfl, ?_⟩⟩ er
              · exact Int32.le_of_lt (Int32.lt_of_le_of_lt hR.1 c3)
              · intro e
                have := Int32.lt_of_le_of_lt hR.1 c3
                have e : iabs (M p - M q) = -1 := e
                rw [e] at this
                exact Int32.lt_irrefl this
          · rw [if_neg c1] at er
            simp only [c1, if_false]
            exact ihr (q + 1) a o t (by omega) (by omega) hR er
      rw [s_256_14]
      simp only [s_256_0, s_256_1, s_256_2, s_256_5, s_256_6, s_256_7, s_256_8, s_256_9, s_256_10, s_256_11, s_256_12, s_256_16, s_256_17, s_256_20, s_256_23, s_256_25, s_256_26, s_256_27, s_256_31, s_256_32, s_256_35, s_256_38, s_256_39, s_256_42, s_256_44, s_256_46, s_256_47, s_256_48, s_256_49, s_256_52, s_256_54, s_256_56, s_256_57, s_256_58, s_256_61, s_256_62, s_256_65, s_256_67, s_256_69, s_256_70, s_256_71, s_256_72, s_256_75, s_256_77, s_256_79, s_256_80, s_256_81, s_256_82, s_256_85, s_256_86, s_256_89, s_256_92, s_256_93, s_256_96, s_256_98, s_256_100, s_256_101, s_256_102, s_256_103, s_256_106, s_256_108, s_256_110, s_256_111, s_256_112, s_256_113, s_256_116, s_256_117, s_256_119, s_256_120, s_256_122, s_256_123, s_256_126, s_256_129, s_256_132, s_256_135, s_256_136, s_256_137, s_256_140, s_256_142, s_256_143, s_256_144, s_256_145, s_256_148, s_256_149, s_256_150, s_256_151, s_256_154, s_256_155, s_256_156, s_256_157, s_256_160, s_256_161, x_get_i, List.getElem?_cons_succ, List.getElem?_cons_zero, x_cv_j, cs_n, cs_i, cs_r, cs_l, Nat.reduceAdd, Nat.reduceLeDiff, true_and, Option.toList_some, Option.toList_none, List.cons_append, List.nil_append, if_true, if_false, nb0, nb1, x_setJ, x_setZ0, x_setZ1, x_setA, x_setO, List.length_cons, List.length_nil, Nat.reduceLT, List.set_cons_succ, List.set_cons_zero, wrl_0, wrl_1, wrl_2, wrl_3, wrl_4, wrl_5, wrl_p0, wrl_p1, wrl_p2, wrl_p3, wrl_p4, mh_o, mh_po, mcv, mg_0, mg_1, mg_2, mg_3, mg_4, mg_5, mg_6, mg_7, mg_8, mg_9, mg_10, mg_11, mg_12, mg_13, mg_14, mg_15, mg_16, mg_17, mg_18, mg_19, mg_20, mg_21, mg_22, mg_23, mg_24, mg_25, mg_26, mg_27, mg_28, mg_29, mg_30, mg_31, mg_32, mg_33, mg_34, mg_35, mg_36, mg_37, mg_38, mg_39, mg_40, mg_41, mg_42, mg_43, mg_44, mg_45, mg_46, ms_1, ms_4, ms_6, ms_7, ms_9, ms_10, ms_11, ms_12, ms_16, ms_20, ms_24, ms_28, ms_35, ms_39, ms_42, ms_43, ms_17t, ms_17f, ms_8, ms_14, mc_1, mp_1, mc_2, mp_2, mc_3, mp_3, mc_4, mp_4, mc_5, mp_5, mc_6, mp_6, mc_7, mp_7, mc_8, mp_8, mc_9, mp_9, mc_10, mp_10, mc_11, mp_11, mc_12, mp_12, mc_13, mp_13, mc_14, mp_14, mc_15, mp_15, mc_16, mp_16, mc_17, mp_17, mc_18, mp_18, mc_19, mp_19, mc_20, mp_20, mc_21, mp_21, mc_22, mp_22, mc_23, mp_23, mc_24, mp_24, mc_25, mp_25, mc_26, mp_26, mc_27, mp_27, mc_28, mp_28, mc_29, mp_29, iu, cup, Nat.reduceEqDiff, i1, show ¬ nI n ≤ nI p from nI_ge (by omega) (by omega), nI_1]
      exact inner (n - (p + 1)) (p + 1) a o t (by omega) (by omega) hR er
  rw [e_256]
  simp only [s_256_0, s_256_1, s_256_2, s_256_5, s_256_6, s_256_7, s_256_8, s_256_9, s_256_10, s_256_11, s_256_12, s_256_16, s_256_17, s_256_20, s_256_23, s_256_25, s_256_26, s_256_27, s_256_31, s_256_32, s_256_35, s_256_38, s_256_39, s_256_42, s_256_44, s_256_46, s_256_47, s_256_48, s_256_49, s_256_52, s_256_54, s_256_56, s_256_57, s_256_58, s_256_61, s_256_62, s_256_65, s_256_67, s_256_69, s_256_70, s_256_71, s_256_72, s_256_75, s_256_77, s_256_79, s_256_80, s_256_81, s_256_82, s_256_85, s_256_86, s_256_89, s_256_92, s_256_93, s_256_96, s_256_98, s_256_100, s_256_101, s_256_102, s_256_103, s_256_106, s_256_108, s_256_110, s_256_111, s_256_112, s_256_113, s_256_116, s_256_117, s_256_119, s_256_120, s_256_122, s_256_123, s_256_126, s_256_129, s_256_132, s_256_135, s_256_136, s_256_137, s_256_140, s_256_142, s_256_143, s_256_144, s_256_145, s_256_148, s_256_149, s_256_150, s_256_151, s_256_154, s_256_155, s_256_156, s_256_157, s_256_160, s_256_161, x_get_i, List.getElem?_cons_succ, List.getElem?_cons_zero, x_cv_j, cs_n, cs_i, cs_r, cs_l, Nat.reduceAdd, Nat.reduceLeDiff, true_and, Option.toList_some, Option.toList_none, List.cons_append, List.nil_append, if_true, if_false, nb0, nb1, x_setJ, x_setZ0, x_setZ1, x_setA, x_setO, List.length_cons, List.length_nil, Nat.reduceLT, List.set_cons_succ, List.set_cons_zero, wrl_0, wrl_1, wrl_2, wrl_3, wrl_4, wrl_5, wrl_p0, wrl_p1, wrl_p2, wrl_p3, wrl_p4, mh_o, mh_po, mcv, mg_0, mg_1, mg_2, mg_3, mg_4, mg_5, mg_6, mg_7, mg_8, mg_9, mg_10, mg_11, mg_12, mg_13, mg_14, mg_15, mg_16, mg_17, mg_18, mg_19, mg_20, mg_21, mg_22, mg_23, mg_24, mg_25, mg_26, mg_27, mg_28, mg_29, mg_30, mg_31, mg_32, mg_33, mg_34, mg_35, mg_36, mg_37, mg_38, mg_39, mg_40, mg_41, mg_42, mg_43, mg_44, mg_45, mg_46, ms_1, ms_4, ms_6, ms_7, ms_9, ms_10, ms_11, ms_12, ms_16, ms_20, ms_24, ms_28, ms_35, ms_39, ms_42, ms_43, ms_17t, ms_17f, ms_8, ms_14, mc_1, mp_1, mc_2, mp_2, mc_3, mp_3, mc_4, mp_4, mc_5, mp_5, mc_6, mp_6, mc_7, mp_7, mc_8, mp_8, mc_9, mp_9, mc_10, mp_10, mc_11, mp_11, mc_12, mp_12, mc_13, mp_13, mc_14, mp_14, mc_15, mp_15, mc_16, mp_16, mc_17, mp_17, mc_18, mp_18, mc_19, mp_19, mc_20, mp_20, mc_21, mp_21, mc_22, mp_22, mc_23, mp_23, mc_24, mp_24, mc_25, mp_25, mc_26, mp_26, mc_27, mp_27, mc_28, mp_28, mc_29, mp_29, iu, cup, Nat.reduceEqDiff]
  rw [← hI0]
  exact outer n 0 (-1, rc, R) (-1) (-1) _ (by omega) ⟨Int32.le_refl _, Or.inl ⟨rfl, rfl⟩⟩ rfl
theorem r_gets (x y v : Int32) : tm_D (g_G sa sc xt) d 277 [.int x, .int y, .int v] h Q ↔ Q (some (.int (sel v x y))) h := by
  rw [e_277]
  simp only [s_277_0, s_277_1, s_277_2, s_277_5, s_277_6, s_277_9, s_277_10, s_277_11, s_277_14, s_277_15, s_277_16, s_277_17, s_277_20, s_277_21, s_277_22, s_277_23, s_277_24, s_277_25, s_277_26, s_277_27, s_277_28, s_277_29, s_277_30, s_277_31, s_277_32, s_277_34, s_277_37, s_277_38, s_277_41, s_277_42, s_277_43, x_get_i, List.getElem?_cons_succ, List.getElem?_cons_zero, x_cv_j, cs_n, cs_i, cs_r, cs_l, Nat.reduceAdd, Nat.reduceLeDiff, true_and, Option.toList_some, Option.toList_none, List.cons_append, List.nil_append, if_true, if_false, nb0, nb1, x_setJ, x_setZ0, x_setZ1, x_setA, x_setO, List.length_cons, List.length_nil, Nat.reduceLT, List.set_cons_succ, List.set_cons_zero, wrl_0, wrl_1, wrl_2, wrl_3, wrl_4, wrl_5, wrl_p0, wrl_p1, wrl_p2, wrl_p3, wrl_p4, show ¬ (2 : Int32) = 0 by decide, show ¬ (3 : Int32) = 0 by decide]
  unfold sel
  by_cases c1 : x ≤ y
  · by_cases c2 : y ≤ x
    · by_cases c3 : x + y < 10
      · simp only [c1, c2, c3, if_true, if_false, not_false_eq_true, true_and]
      · simp only [c1, c2, c3, if_true, if_false, not_false_eq_true, true_and]
    · by_cases c3 : x + y < 10
      · simp only [c1, c2, c3, if_true, if_false, not_false_eq_true, true_and]
      · simp only [c1, c2, c3, if_true, if_false, not_false_eq_true, true_and]
  · by_cases c3 : x + y < 10
    · simp only [c1, c3, if_true, if_false]
    · simp only [c1, c3, if_true, if_false]
theorem r_isBest (x y v : Int32) : tm_D (g_G sa sc xt) (d + 1) 278 [.int x, .int y, .int v] h Q ↔ Q (some (.int (bI (ict v x y 10 0)))) h := by
  have loop : ∀ j k, k + j = 10 → (tm_X (g_G sa sc xt) (d + 1) 278 2 [.int x, .int y, .int v, .int (nI k)] [] h Q ↔ Q (some (.int (bI (ict v x y j k)))) h) := by
    intro j
    induction j with
    | zero =>
      intro k hk
      have hk : k = 10 := by omega
      subst hk
      rw [s_278_2]
      simp only [s_278_0, s_278_1, s_278_3, s_278_5, s_278_8, s_278_9, s_278_10, s_278_11, s_278_14, s_278_15, s_278_16, s_278_17, s_278_20, s_278_23, s_278_24, s_278_25, s_278_28, s_278_31, s_278_32, x_get_i, List.getElem?_cons_succ, List.getElem?_cons_zero, x_cv_j, cs_n, cs_i, cs_r, cs_l, Nat.reduceAdd, Nat.reduceLeDiff, true_and, Option.toList_some, Option.toList_none, List.cons_append, List.nil_append, if_true, if_false, nb0, nb1, x_setJ, x_setZ0, x_setZ1, x_setA, x_setO, List.length_cons, List.length_nil, Nat.reduceLT, List.set_cons_succ, List.set_cons_zero, wrl_0, wrl_1, wrl_2, wrl_3, wrl_4, wrl_5, wrl_p0, wrl_p1, wrl_p2, wrl_p3, wrl_p4, show (9 : Int32) < nI 10 by decide]
      exact Iff.rfl
    | succ j ih =>
      intro k hk
      rw [s_278_2]
      simp only [s_278_0, s_278_1, s_278_3, s_278_5, s_278_8, s_278_9, s_278_10, s_278_11, s_278_14, s_278_15, s_278_16, s_278_17, s_278_20, s_278_23, s_278_24, s_278_25, s_278_28, s_278_31, s_278_32, x_get_i, List.getElem?_cons_succ, List.getElem?_cons_zero, x_cv_j, cs_n, cs_i, cs_r, cs_l, Nat.reduceAdd, Nat.reduceLeDiff, true_and, Option.toList_some, Option.toList_none, List.cons_append, List.nil_append, if_true, if_false, nb0, nb1, x_setJ, x_setZ0, x_setZ1, x_setA, x_setO, List.length_cons, List.length_nil, Nat.reduceLT, List.set_cons_succ, List.set_cons_zero, wrl_0, wrl_1, wrl_2, wrl_3, wrl_4, wrl_5, wrl_p0, wrl_p1, wrl_p2, wrl_p3, wrl_p4, show ¬ (9 : Int32) < nI k from nI_nlt (a := 9) (by omega) (by decide), r_gets, nI_1]
      unfold ict
      by_cases c : sel v (nI k) y ≤ sel v x y
      · simp only [c, if_true]
        exact ih (k + 1) (by omega)
      · simp only [c, if_false]
        exact Iff.rfl
  rw [e_278]
  simp only [s_278_0, s_278_1, s_278_3, s_278_5, s_278_8, s_278_9, s_278_10, s_278_11, s_278_14, s_278_15, s_278_16, s_278_17, s_278_20, s_278_23, s_278_24, s_278_25, s_278_28, s_278_31, s_278_32]
  exact loop 10 0 (by decide)
theorem m_rests (hM : MV I C tx (rc, R) nw pa cd he mi) (v : Int32) (h1 : ∀ I', (v < 0 ∨ 20 < v) → MV I' C tx (rc, R) nw pa cd he mi → Q (some (.int (-1))) (mh h m I' rd (m + 6) C)) (h2 : ∀ I' C', ¬ (v < 0 ∨ 20 < v) → MV I' C' tx (rso v 10 0 (0, 0, R)).2 nw pa cd he mi → Q (some (.int (nI (rso v 10 0 (0, 0, R)).1))) (mh h m I' rd (m + 6) C')) : tm_D (g_G sa sc xt) (d + 2) 279 [.ref m, .int v] (mh h m I rd (m + 6) C) Q := by
  have hM7 : MV (iu I 7 0) C tx (rc, R) nw pa cd he mi := hM.i7
  rw [e_279]
  simp only [s_279_0, s_279_1, s_279_2, s_279_5, s_279_6, s_279_7, s_279_9, s_279_12, s_279_15, s_279_16, s_279_17, s_279_18, s_279_19, s_279_20, s_279_21, s_279_24, s_279_25, s_279_27, s_279_29, s_279_32, s_279_33, s_279_37, s_279_39, s_279_42, s_279_43, s_279_45, s_279_46, s_279_49, s_279_52, s_279_54, s_279_55, s_279_56, s_279_59, s_279_62, s_279_65, s_279_66, s_279_69, s_279_70, s_279_71, s_279_72, s_279_75, s_279_76, s_279_78, s_279_79, s_279_82, s_279_85, s_279_88, s_279_91, s_279_94, s_279_97, s_279_98, x_get_i, List.getElem?_cons_succ, List.getElem?_cons_zero, x_cv_j, cs_n, cs_i, cs_r, cs_l, Nat.reduceAdd, Nat.reduceLeDiff, true_and, Option.toList_some, Option.toList_none, List.cons_append, List.nil_append, if_true, if_false, nb0, nb1, x_setJ, x_setZ0, x_setZ1, x_setA, x_setO, List.length_cons, List.length_nil, Nat.reduceLT, List.set_cons_succ, List.set_cons_zero, wrl_0, wrl_1, wrl_2, wrl_3, wrl_4, wrl_5, wrl_p0, wrl_p1, wrl_p2, wrl_p3, wrl_p4, mh_o, mh_po, mcv, mg_0, mg_1, mg_2, mg_3, mg_4, mg_5, mg_6, mg_7, mg_8, mg_9, mg_10, mg_11, mg_12, mg_13, mg_14, mg_15, mg_16, mg_17, mg_18, mg_19, mg_20, mg_21, mg_22, mg_23, mg_24, mg_25, mg_26, mg_27, mg_28, mg_29, mg_30, mg_31, mg_32, mg_33, mg_34, mg_35, mg_36, mg_37, mg_38, mg_39, mg_40, mg_41, mg_42, mg_43, mg_44, mg_45, mg_46, ms_1, ms_4, ms_6, ms_7, ms_9, ms_10, ms_11, ms_12, ms_16, ms_20, ms_24, ms_28, ms_35, ms_39, ms_42, ms_43, ms_17t, ms_17f, ms_8, ms_14, mc_1, mp_1, mc_2, mp_2, mc_3, mp_3, mc_4, mp_4, mc_5, mp_5, mc_6, mp_6, mc_7, mp_7, mc_8, mp_8, mc_9, mp_9, mc_10, mp_10, mc_11, mp_11, mc_12, mp_12, mc_13, mp_13, mc_14, mp_14, mc_15, mp_15, mc_16, mp_16, mc_17, mp_17, mc_18, mp_18, mc_19, mp_19, mc_20, mp_20, mc_21, mp_21, mc_22, mp_22, mc_23, mp_23, mc_24, mp_24, mc_25, mp_25, mc_26, mp_26, mc_27, mp_27, mc_28, mp_28, mc_29, mp_29, iu, cup, Nat.reduceEqDiff, r_in]
  by_cases b : v < 0 ∨ 20 < v
  · simp only [in_no b, not_true_eq_false, if_false, if_true, s_279_0, s_279_1, s_279_2, s_279_5, s_279_6, s_279_7, s_279_9, s_279_12, s_279_15, s_279_16, s_279_17, s_279_18, s_279_19, s_279_20, s_279_21, s_279_24, s_279_25, s_279_27, s_279_29, s_279_32, s_279_33, s_279_37, s_279_39, s_279_42, s_279_43, s_279_45, s_279_46, s_279_49, s_279_52, s_279_54, s_279_55, s_279_56, s_279_59, s_279_62, s_279_65, s_279_66, s_279_69, s_279_70, s_279_71, s_279_72, s_279_75, s_279_76, s_279_78, s_279_79, s_279_82, s_279_85, s_279_88, s_279_91, s_279_94, s_279_97, s_279_98, x_get_i, List.getElem?_cons_succ, List.getElem?_cons_zero, x_cv_j, cs_n, cs_i, cs_r, cs_l, Nat.reduceAdd, Nat.reduceLeDiff, true_and, Option.toList_some, Option.toList_none, List.cons_append, List.nil_append, if_true, if_false, nb0, nb1, x_setJ, x_setZ0, x_setZ1, x_setA, x_setO, List.length_cons, List.length_nil, Nat.reduceLT, List.set_cons_succ, List.set_cons_zero, wrl_0, wrl_1, wrl_2, wrl_3, wrl_4, wrl_5, wrl_p0, wrl_p1, wrl_p2, wrl_p3, wrl_p4, mh_o, mh_po, mcv, mg_0, mg_1, mg_2, mg_3, mg_4, mg_5, mg_6, mg_7, mg_8, mg_9, mg_10, mg_11, mg_12, mg_13, mg_14, mg_15, mg_16, mg_17, mg_18, mg_19, mg_20, mg_21, mg_22, mg_23, mg_24, mg_25, mg_26, mg_27, mg_28, mg_29, mg_30, mg_31, mg_32, mg_33, mg_34, mg_35, mg_36, mg_37, mg_38, mg_39, mg_40, mg_41, mg_42, mg_43, mg_44, mg_45, mg_46, ms_1, ms_4, ms_6, ms_7, ms_9, ms_10, ms_11, ms_12, ms_16, ms_20, ms_24, ms_28, ms_35, ms_39, ms_42, ms_43, ms_17t, ms_17f, ms_8, ms_14, mc_1, mp_1, mc_2, mp_2, mc_3, mp_3, mc_4, mp_4, mc_5, mp_5, mc_6, mp_6, mc_7, mp_7, mc_8, mp_8, mc_9, mp_9, mc_10, mp_10, mc_11, mp_11, mc_12, mp_12, mc_13, mp_13, mc_14, mp_14, mc_15, mp_15, mc_16, mp_16, mc_17, mp_17, mc_18, mp_18, mc_19, mp_19, mc_20, mp_20, mc_21, mp_21, mc_22, mp_22, mc_23, mp_23, mc_24, mp_24, mc_25, mp_25, mc_26, mp_26, mc_27, mp_27, mc_28, mp_28, mc_29, mp_29, iu, cup, Nat.reduceEqDiff]
    exact h1 _ b hM7
  simp only [in_yes b, show ¬ (1 : Int32) = 0 by decide, not_false_eq_true, if_true, if_false, s_279_0, s_279_1, s_279_2, s_279_5, s_279_6, s_279_7, s_279_9, s_279_12, s_279_15, s_279_16, s_279_17, s_279_18, s_279_19, s_279_20, s_279_21, s_279_24, s_279_25, s_279_27, s_279_29, s_279_32, s_279_33, s_279_37, s_279_39, s_279_42, s_279_43, s_279_45, s_279_46, s_279_49, s_279_52, s_279_54, s_279_55, s_279_56, s_279_59, s_279_62, s_279_65, s_279_66, s_279_69, s_279_70, s_279_71, s_279_72, s_279_75, s_279_76, s_279_78, s_279_79, s_279_82, s_279_85, s_279_88, s_279_91, s_279_94, s_279_97, s_279_98, x_get_i, List.getElem?_cons_succ, List.getElem?_cons_zero, x_cv_j, cs_n, cs_i, cs_r, cs_l, Nat.reduceAdd, Nat.reduceLeDiff, true_and, Option.toList_some, Option.toList_none, List.cons_append, List.nil_append, if_true, if_false, nb0, nb1, x_setJ, x_setZ0, x_setZ1, x_setA, x_setO, List.length_cons, List.length_nil, Nat.reduceLT, List.set_cons_succ, List.set_cons_zero, wrl_0, wrl_1, wrl_2, wrl_3, wrl_4, wrl_5, wrl_p0, wrl_p1, wrl_p2, wrl_p3, wrl_p4, mh_o, mh_po, mcv, mg_0, mg_1, mg_2, mg_3, mg_4, mg_5, mg_6, mg_7, mg_8, mg_9, mg_10, mg_11, mg_12, mg_13, mg_14, mg_15, mg_16, mg_17, mg_18, mg_19, mg_20, mg_21, mg_22, mg_23, mg_24, mg_25, mg_26, mg_27, mg_28, mg_29, mg_30, mg_31, mg_32, mg_33, mg_34, mg_35, mg_36, mg_37, mg_38, mg_39, mg_40, mg_41, mg_42, mg_43, mg_44, mg_45, mg_46, ms_1, ms_4, ms_6, ms_7, ms_9, ms_10, ms_11, ms_12, ms_16, ms_20, ms_24, ms_28, ms_35, ms_39, ms_42, ms_43, ms_17t, ms_17f, ms_8, ms_14, mc_1, mp_1, mc_2, mp_2, mc_3, mp_3, mc_4, mp_4, mc_5, mp_5, mc_6, mp_6, mc_7, mp_7, mc_8, mp_8, mc_9, mp_9, mc_10, mp_10, mc_11, mp_11, mc_12, mp_12, mc_13, mp_13, mc_14, mp_14, mc_15, mp_15, mc_16, mp_16, mc_17, mp_17, mc_18, mp_18, mc_19, mp_19, mc_20, mp_20, mc_21, mp_21, mc_22, mp_22, mc_23, mp_23, mc_24, mp_24, mc_25, mp_25, mc_26, mp_26, mc_27, mp_27, mc_28, mp_28, mc_29, mp_29, iu, cup, Nat.reduceEqDiff]
  have hM8 : MV (iu (iu I 7 0) 6 0) C tx (0, R) nw pa cd he mi := hM7.tell0 ((KP.refl hM7.mx).iu rfl) rfl rfl rfl rfl
  have outer : ∀ (j x : Nat) (a : Nat × Nat × (Nat → Int64)) (x4 : Value) (I0 : Nat → Int32) (C0 : Nat → tm_E), x + j = 10 → a.1 ≤ 10 * x → (a.1 = 0 → a.2 = (0, R)) → MV I0 C0 tx a.2 nw pa cd he mi → rso v j x a = rso v 10 0 (0, 0, R) → tm_X (g_G sa sc xt) (d + 2) 279 26 [.ref m, .int v, .int (nI a.1), .int (nI x), x4] [] (mh h m I0 rd (m + 6) C0) Q := by
    intro j
    induction j with
    | zero =>
      intro x a x4 I0 C0 hx ha hz hM0 er
      have er2 : a = rso v 10 0 (0, 0, R) := er
      have hx : x = 10 := by omega
      subst hx
      rw [s_279_26]
      simp only [s_279_0, s_279_1, s_279_2, s_279_5, s_279_6, s_279_7, s_279_9, s_279_12, s_279_15, s_279_16, s_279_17, s_279_18, s_279_19, s_279_20, s_279_21, s_279_24, s_279_25, s_279_27, s_279_29, s_279_32, s_279_33, s_279_37, s_279_39, s_279_42, s_279_43, s_279_45, s_279_46, s_279_49, s_279_52, s_279_54, s_279_55, s_279_56, s_279_59, s_279_62, s_279_65, s_279_66, s_279_69, s_279_70, s_279_71, s_279_72, s_279_75, s_279_76, s_279_78, s_279_79, s_279_82, s_279_85, s_279_88, s_279_91, s_279_94, s_279_97, s_279_98, x_get_i, List.getElem?_cons_succ, List.getElem?_cons_zero, x_cv_j, cs_n, cs_i, cs_r, cs_l, Nat.reduceAdd, Nat.reduceLeDiff, true_and, Option.toList_some, Option.toList_none, List.cons_append, List.nil_append, if_true, if_false, nb0, nb1, x_setJ, x_setZ0, x_setZ1, x_setA, x_setO, List.length_cons, List.length_nil, Nat.reduceLT, List.set_cons_succ, List.set_cons_zero, wrl_0, wrl_1, wrl_2, wrl_3, wrl_4, wrl_5, wrl_p0, wrl_p1, wrl_p2, wrl_p3, wrl_p4, mh_o, mh_po, mcv, mg_0, mg_1, mg_2, mg_3, mg_4, mg_5, mg_6, mg_7, mg_8, mg_9, mg_10, mg_11, mg_12, mg_13, mg_14, mg_15, mg_16, mg_17, mg_18, mg_19, mg_20, mg_21, mg_22, mg_23, mg_24, mg_25, mg_26, mg_27, mg_28, mg_29, mg_30, mg_31, mg_32, mg_33, mg_34, mg_35, mg_36, mg_37, mg_38, mg_39, mg_40, mg_41, mg_42, mg_43, mg_44, mg_45, mg_46, ms_1, ms_4, ms_6, ms_7, ms_9, ms_10, ms_11, ms_12, ms_16, ms_20, ms_24, ms_28, ms_35, ms_39, ms_42, ms_43, ms_17t, ms_17f, ms_8, ms_14, mc_1, mp_1, mc_2, mp_2, mc_3, mp_3, mc_4, mp_4, mc_5, mp_5, mc_6, mp_6, mc_7, mp_7, mc_8, mp_8, mc_9, mp_9, mc_10, mp_10, mc_11, mp_11, mc_12, mp_12, mc_13, mp_13, mc_14, mp_14, mc_15, mp_15, mc_16, mp_16, mc_17, mp_17, mc_18, mp_18, mc_19, mp_19, mc_20, mp_20, mc_21, mp_21, mc_22, mp_22, mc_23, mp_23, mc_24, mp_24, mc_25, mp_25, mc_26, mp_26, mc_27, mp_27, mc_28, mp_28, mc_29, mp_29, iu, cup, Nat.reduceEqDiff, show (9 : Int32) < nI 10 by decide]
      rw [er2] at hM0 ⊢
      exact h2 _ _ b hM0
    | succ j ih =>
      intro x a x4 I0 C0 hx ha hz hM0 er
      have inner : ∀ (r y : Nat) (a : Nat × Nat × (Nat → Int64)) (I0 : Nat → Int32) (C0 : Nat → tm_E), y + r = 10 → a.1 ≤ 10 * x + y → (a.1 = 0 → a.2 = (0, R)) → MV I0 C0 tx a.2 nw pa cd he mi → rso v j (x + 1) (rsi v x r y a) = rso v 10 0 (0, 0, R) → tm_X (g_G sa sc xt) (d + 2) 279 35 [.ref m, .int v, .int (nI a.1), .int (nI x), .int (nI y)] [] (mh h m I0 rd (m + 6) C0) Q := by
        intro r
        induction r with
        | zero =>
          intro y a I0 C0 hy ha hz hM0 er
          have hy : y = 10 := by omega
          subst hy
          rw [s_279_35]
          simp only [s_279_0, s_279_1, s_279_2, s_279_5, s_279_6, s_279_7, s_279_9, s_279_12, s_279_15, s_279_16, s_279_17, s_279_18, s_279_19, s_279_20, s_279_21, s_279_24, s_279_25, s_279_27, s_279_29, s_279_32, s_279_33, s_279_37, s_279_39, s_279_42, s_279_43, s_279_45, s_279_46, s_279_49, s_279_52, s_279_54, s_279_55, s_279_56, s_279_59, s_279_62, s_279_65, s_279_66, s_279_69, s_279_70, s_279_71, s_279_72, s_279_75, s_279_76, s_279_78, s_279_79, s_279_82, s_279_85, s_279_88, s_279_91, s_279_94, s_279_97, s_279_98, x_get_i, List.getElem?_cons_succ, List.getElem?_cons_zero, x_cv_j, cs_n, cs_i, cs_r, cs_l, Nat.reduceAdd, Nat.reduceLeDiff, true_and, Option.toList_some, Option.toList_none, List.cons_append, List.nil_append, if_true, if_false, nb0, nb1, x_setJ, x_setZ0, x_setZ1, x_setA, x_setO, List.length_cons, List.length_nil, Nat.reduceLT, List.set_cons_succ, List.set_cons_zero, wrl_0, wrl_1, wrl_2, wrl_3, wrl_4, wrl_5, wrl_p0, wrl_p1, wrl_p2, wrl_p3, wrl_p4, mh_o, mh_po, mcv, mg_0, mg_1, mg_2, mg_3, mg_4, mg_5, mg_6, mg_7, mg_8, mg_9, mg_10, mg_11, mg_12, mg_13, mg_14, mg_15, mg_16, mg_17, mg_18, mg_19, mg_20, mg_21, mg_22, mg_23, mg_24, mg_25, mg_26, mg_27, mg_28, mg_29, mg_30, mg_31, mg_32, mg_33, mg_34, mg_35, mg_36, mg_37, mg_38, mg_39, mg_40, mg_41, mg_42, mg_43, mg_44, mg_45, mg_46, ms_1, ms_4, ms_6, ms_7, ms_9, ms_10, ms_11, ms_12, ms_16, ms_20, ms_24, ms_28, ms_35, ms_39, ms_42, ms_43, ms_17t, ms_17f, ms_8, ms_14, mc_1, mp_1, mc_2, mp_2, mc_3, mp_3, mc_4, mp_4, mc_5, mp_5, mc_6, mp_6, mc_7, mp_7, mc_8, mp_8, mc_9, mp_9, mc_10, mp_10, mc_11, mp_11, mc_12, mp_12, mc_13, mp_13, mc_14, mp_14, mc_15, mp_15, mc_16, mp_16, mc_17, mp_17, mc_18, mp_18, mc_19, mp_19, mc_20, mp_20, mc_21, mp_21, mc_22, mp_22, mc_23, mp_23, mc_24, mp_24, mc_25, mp_25, mc_26, mp_26, mc_27, mp_27, mc_28, mp_28, mc_29, mp_29, iu, cup, Nat.reduceEqDiff, show (9 : Int32) < nI 10 by decide, nI_1]
          exact ih (x + 1) a _ I0 C0 (by omega) (by omega) hz hM0 er
        | succ r ihr =>
          intro y a I0 C0 hy ha hz hM0 er
          have er : rso v j (x + 1) (rsi v x r (y + 1) (if ict v (nI x) (nI y) 10 0 && ict v (nI y) (nI x) 10 0 then (a.1 + 1, if a.1 = 0 then rw2 a.2.2 (nI x).toInt64 (nI y).toInt64 else a.2) else a)) = rso v 10 0 (0, 0, R) := er
          rw [s_279_35]
          simp only [s_279_0, s_279_1, s_279_2, s_279_5, s_279_6, s_279_7, s_279_9, s_279_12, s_279_15, s_279_16, s_279_17, s_279_18, s_279_19, s_279_20, s_279_21, s_279_24, s_279_25, s_279_27, s_279_29, s_279_32, s_279_33, s_279_37, s_279_39, s_279_42, s_279_43, s_279_45, s_279_46, s_279_49, s_279_52, s_279_54, s_279_55, s_279_56, s_279_59, s_279_62, s_279_65, s_279_66, s_279_69, s_279_70, s_279_71, s_279_72, s_279_75, s_279_76, s_279_78, s_279_79, s_279_82, s_279_85, s_279_88, s_279_91, s_279_94, s_279_97, s_279_98, x_get_i, List.getElem?_cons_succ, List.getElem?_cons_zero, x_cv_j, cs_n, cs_i, cs_r, cs_l, Nat.reduceAdd, Nat.reduceLeDiff, true_and, Option.toList_some, Option.toList_none, List.cons_append, List.nil_append, if_true, if_false, nb0, nb1, x_setJ, x_setZ0, x_setZ1, x_setA, x_setO, List.length_cons, List.length_nil, Nat.reduceLT, List.set_cons_succ, List.set_cons_zero, wrl_0, wrl_1, wrl_2, wrl_3, wrl_4, wrl_5, wrl_p0, wrl_p1, wrl_p2, wrl_p3, wrl_p4, mh_o, mh_po, mcv, mg_0, mg_1, mg_2, mg_3, mg_4, mg_5, mg_6, mg_7, mg_8, mg_9, mg_10, mg_11, mg_12, mg_13, mg_14, mg_15, mg_16, mg_17, mg_18, mg_19, mg_20, mg_21, mg_22, mg_23, mg_24, mg_25, mg_26, mg_27, mg_28, mg_29, mg_30, mg_31, mg_32, mg_33, mg_34, mg_35, mg_36, mg_37, mg_38, mg_39, mg_40, mg_41, mg_42, mg_43, mg_44, mg_45, mg_46, ms_1, ms_4, ms_6, ms_7, ms_9, ms_10, ms_11, ms_12, ms_16, ms_20, ms_24, ms_28, ms_35, ms_39, ms_42, ms_43, ms_17t, ms_17f, ms_8, ms_14, mc_1, mp_1, mc_2, mp_2, mc_3, mp_3, mc_4, mp_4, mc_5, mp_5, mc_6, mp_6, mc_7, mp_7, mc_8, mp_8, mc_9, mp_9, mc_10, mp_10, mc_11, mp_11, mc_12, mp_12, mc_13, mp_13, mc_14, mp_14, mc_15, mp_15, mc_16, mp_16, mc_17, mp_17, mc_18, mp_18, mc_19, mp_19, mc_20, mp_20, mc_21, mp_21, mc_22, mp_22, mc_23, mp_23, mc_24, mp_24, mc_25, mp_25, mc_26, mp_26, mc_27, mp_27, mc_28, mp_28, mc_29, mp_29, iu, cup, Nat.reduceEqDiff, show ¬ (9 : Int32) < nI y from nI_nlt (a := 9) (by omega) (by decide), r_isBest, nI_1]
          cases hc1 : ict v (nI x) (nI y) 10 0 with
          | false =>
            rw [hc1] at er
            simp only [show bI false = 0 by decide, if_true]
            exact ihr (y + 1) a I0 C0 (by omega) (by omega) hz hM0 er
          | true =>
            rw [hc1] at er
            simp only [show ¬ bI true = 0 by decide, if_false]
            cases hc2 : ict v (nI y) (nI x) 10 0 with
            | false =>
              rw [hc2] at er
              simp only [show bI false = 0 by decide, if_true]
              exact ihr (y + 1) a I0 C0 (by omega) (by omega) hz hM0 er
            | true =>
              rw [hc2] at er
              simp only [Bool.and_self, if_true] at er
              simp only [show ¬ bI true = 0 by decide, if_false]
              by_cases k4 : a.1 = 0
              · have hz := hz k4
                obtain ⟨R0, hR0⟩ : ∃ R', C0 4 = .inl (3, 16, .inr (.inl R')) := by obtain ⟨-, -, R', hR, -⟩ := hM0.2.1; exact ⟨R', hR⟩
                have i6 : I0 6 = nI 0 := by have := hM0.2.1.1; rw [hz] at this; exact this
                rw [k4] at er ⊢
                simp only [if_true] at er
                simp only [show nI 0 = 0 from rfl, if_true]
                refine Iff.mpr (r_tell (k := 0) (R := R0) (by decide) i6 hR0 _) ?_
                simp only [s_279_0, s_279_1, s_279_2, s_279_5, s_279_6, s_279_7, s_279_9, s_279_12, s_279_15, s_279_16, s_279_17, s_279_18, s_279_19, s_279_20, s_279_21, s_279_24, s_279_25, s_279_27, s_279_29, s_279_32, s_279_33, s_279_37, s_279_39, s_279_42, s_279_43, s_279_45, s_279_46, s_279_49, s_279_52, s_279_54, s_279_55, s_279_56, s_279_59, s_279_62, s_279_65, s_279_66, s_279_69, s_279_70, s_279_71, s_279_72, s_279_75, s_279_76, s_279_78, s_279_79, s_279_82, s_279_85, s_279_88, s_279_91, s_279_94, s_279_97, s_279_98, x_get_i, List.getElem?_cons_succ, List.getElem?_cons_zero, x_cv_j, cs_n, cs_i, cs_r, cs_l, Nat.reduceAdd, Nat.reduceLeDiff, true_and, Option.toList_some, Option.toList_none, List.cons_append, List.nil_append, if_true, if_false, nb0, nb1, x_setJ, x_setZ0, x_setZ1, x_setA, x_setO, List.length_cons, List.length_nil, Nat.reduceLT, List.set_cons_succ, List.set_cons_zero, wrl_0, wrl_1, wrl_2, wrl_3, wrl_4, wrl_5, wrl_p0, wrl_p1, wrl_p2, wrl_p3, wrl_p4, mh_o, mh_po, mcv, mg_0, mg_1, mg_2, mg_3, mg_4, mg_5, mg_6, mg_7, mg_8, mg_9, mg_10, mg_11, mg_12, mg_13, mg_14, mg_15, mg_16, mg_17, mg_18, mg_19, mg_20, mg_21, mg_22, mg_23, mg_24, mg_25, mg_26, mg_27, mg_28, mg_29, mg_30, mg_31, mg_32, mg_33, mg_34, mg_35, mg_36, mg_37, mg_38, mg_39, mg_40, mg_41, mg_42, mg_43, mg_44, mg_45, mg_46, ms_1, ms_4, ms_6, ms_7, ms_9, ms_10, ms_11, ms_12, ms_16, ms_20, ms_24, ms_28, ms_35, ms_39, ms_42, ms_43, ms_17t, ms_17f, ms_8, ms_14, mc_1, mp_1, mc_2, mp_2, mc_3, mp_3, mc_4, mp_4, mc_5, mp_5, mc_6, mp_6, mc_7, mp_7, mc_8, mp_8, mc_9, mp_9, mc_10, mp_10, mc_11, mp_11, mc_12, mp_12, mc_13, mp_13, mc_14, mp_14, mc_15, mp_15, mc_16, mp_16, mc_17, mp_17, mc_18, mp_18, mc_19, mp_19, mc_20, mp_20, mc_21, mp_21, mc_22, mp_22, mc_23, mp_23, mc_24, mp_24, mc_25, mp_25, mc_26, mp_26, mc_27, mp_27, mc_28, mp_28, mc_29, mp_29, iu, cup, Nat.reduceEqDiff]
                refine Iff.mpr (r_tell (k := 1) (R := vp_updL R0 0 (nI x).toInt64) (by decide) (if_pos rfl) (if_pos rfl) _) ?_
                simp only [s_279_0, s_279_1, s_279_2, s_279_5, s_279_6, s_279_7, s_279_9, s_279_12, s_279_15, s_279_16, s_279_17, s_279_18, s_279_19, s_279_20, s_279_21, s_279_24, s_279_25, s_279_27, s_279_29, s_279_32, s_279_33, s_279_37, s_279_39, s_279_42, s_279_43, s_279_45, s_279_46, s_279_49, s_279_52, s_279_54, s_279_55, s_279_56, s_279_59, s_279_62, s_279_65, s_279_66, s_279_69, s_279_70, s_279_71, s_279_72, s_279_75, s_279_76, s_279_78, s_279_79, s_279_82, s_279_85, s_279_88, s_279_91, s_279_94, s_279_97, s_279_98, x_get_i, List.getElem?_cons_succ, List.getElem?_cons_zero, x_cv_j, cs_n, cs_i, cs_r, cs_l, Nat.reduceAdd, Nat.reduceLeDiff, true_and, Option.toList_some, Option.toList_none, List.cons_append, List.nil_append, if_true, if_false, nb0, nb1, x_setJ, x_setZ0, x_setZ1, x_setA, x_setO, List.length_cons, List.length_nil, Nat.reduceLT, List.set_cons_succ, List.set_cons_zero, wrl_0, wrl_1, wrl_2, wrl_3, wrl_4, wrl_5, wrl_p0, wrl_p1, wrl_p2, wrl_p3, wrl_p4, mh_o, mh_po, mcv, mg_0, mg_1, mg_2, mg_3, mg_4, mg_5, mg_6, mg_7, mg_8, mg_9, mg_10, mg_11, mg_12, mg_13, mg_14, mg_15, mg_16, mg_17, mg_18, mg_19, mg_20, mg_21, mg_22, mg_23, mg_24, mg_25, mg_26, mg_27, mg_28, mg_29, mg_30, mg_31, mg_32, mg_33, mg_34, mg_35, mg_36, mg_37, mg_38, mg_39, mg_40, mg_41, mg_42, mg_43, mg_44, mg_45, mg_46, ms_1, ms_4, ms_6, ms_7, ms_9, ms_10, ms_11, ms_12, ms_16, ms_20, ms_24, ms_28, ms_35, ms_39, ms_42, ms_43, ms_17t, ms_17f, ms_8, ms_14, mc_1, mp_1, mc_2, mp_2, mc_3, mp_3, mc_4, mp_4, mc_5, mp_5, mc_6, mp_6, mc_7, mp_7, mc_8, mp_8, mc_9, mp_9, mc_10, mp_10, mc_11, mp_11, mc_12, mp_12, mc_13, mp_13, mc_14, mp_14, mc_15, mp_15, mc_16, mp_16, mc_17, mp_17, mc_18, mp_18, mc_19, mp_19, mc_20, mp_20, mc_21, mp_21, mc_22, mp_22, mc_23, mp_23, mc_24, mp_24, mc_25, mp_25, mc_26, mp_26, mc_27, mp_27, mc_28, mp_28, mc_29, mp_29, iu, cup, Nat.reduceEqDiff, iu_iu, cup_cup]
                exact ihr (y + 1) (0 + 1, rw2 a.2.2 (nI x).toInt64 (nI y).toInt64) _ _ (by omega) (by show 0 + 1 ≤ _; omega) (fun q => absurd (show 0 + 1 = 0 from q) (by decide)) (hM0.tell2 (KP.refl hM0.mx) rfl rfl) er
              · simp only [k4, if_false] at er
                simp only [show ¬ nI a.1 = 0 from nI_ne0 (by omega) (by omega), if_false]
                exact ihr (y + 1) (a.1 + 1, a.2) I0 C0 (by omega) (by show a.1 + 1 ≤ _; omega) (fun q => absurd (show a.1 + 1 = 0 from q) (Nat.succ_ne_zero _)) hM0 er
      rw [s_279_26]
      simp only [s_279_0, s_279_1, s_279_2, s_279_5, s_279_6, s_279_7, s_279_9, s_279_12, s_279_15, s_279_16, s_279_17, s_279_18, s_279_19, s_279_20, s_279_21, s_279_24, s_279_25, s_279_27, s_279_29, s_279_32, s_279_33, s_279_37, s_279_39, s_279_42, s_279_43, s_279_45, s_279_46, s_279_49, s_279_52, s_279_54, s_279_55, s_279_56, s_279_59, s_279_62, s_279_65, s_279_66, s_279_69, s_279_70, s_279_71, s_279_72, s_279_75, s_279_76, s_279_78, s_279_79, s_279_82, s_279_85, s_279_88, s_279_91, s_279_94, s_279_97, s_279_98, x_get_i, List.getElem?_cons_succ, List.getElem?_cons_zero, x_cv_j, cs_n, cs_i, cs_r, cs_l, Nat.reduceAdd, Nat.reduceLeDiff, true_and, Option.toList_some, Option.toList_none, List.cons_append, List.nil_append, if_true, if_false, nb0, nb1, x_setJ, x_setZ0, x_setZ1, x_setA, x_setO, List.length_cons, List.length_nil, Nat.reduceLT, List.set_cons_succ, List.set_cons_zero, wrl_0, wrl_1, wrl_2, wrl_3, wrl_4, wrl_5, wrl_p0, wrl_p1, wrl_p2, wrl_p3, wrl_p4, mh_o, mh_po, mcv, mg_0, mg_1, mg_2, mg_3, mg_4, mg_5, mg_6, mg_7, mg_8, mg_9, mg_10, mg_11, mg_12, mg_13, mg_14, mg_15, mg_16, mg_17, mg_18, mg_19, mg_20, mg_21, mg_22, mg_23, mg_24, mg_25, mg_26, mg_27, mg_28, mg_29, mg_30, mg_31, mg_32, mg_33, mg_34, mg_35, mg_36, mg_37, mg_38, mg_39, mg_40, mg_41, mg_42, mg_43, mg_44, mg_45, mg_46, ms_1, ms_4, ms_6, ms_7, ms_9, ms_10, ms_11, ms_12, ms_16, ms_20, ms_24, ms_28, ms_35, ms_39, ms_42, ms_43, ms_17t, ms_17f, ms_8, ms_14, mc_1, mp_1, mc_2, mp_2, mc_3, mp_3, mc_4, mp_4, mc_5, mp_5, mc_6, mp_6, mc_7, mp_7, mc_8, mp_8, mc_9, mp_9, mc_10, mp_10, mc_11, mp_11, mc_12, mp_12, mc_13, mp_13, mc_14, mp_14, mc_15, mp_15, mc_16, mp_16, mc_17, mp_17, mc_18, mp_18, mc_19, mp_19, mc_20, mp_20, mc_21, mp_21, mc_22, mp_22, mc_23, mp_23, mc_24, mp_24, mc_25, mp_25, mc_26, mp_26, mc_27, mp_27, mc_28, mp_28, mc_29, mp_29, iu, cup, Nat.reduceEqDiff, show ¬ (9 : Int32) < nI x from nI_nlt (a := 9) (by omega) (by decide)]
      exact inner 10 0 a I0 C0 (by omega) (by omega) hz hM0 er
  exact outer 10 0 (0, 0, R) _ _ _ (by omega) (Nat.le_refl 0) (fun _ => rfl) hM8 rfl
end
