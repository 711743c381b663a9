/-! the reference's calls: settles, round -/
/-- rows of the trail from i on are alike -/
def alk (t : Nat → Int32) (j k : Nat) : Nat → Nat → Bool
  | 0, _ => true
  | r + 1, i => if t (38 * j + i) = t (38 * k + i) then alk t j k r (i + 1) else false
theorem alk_all {t : Nat → Int32} {j k : Nat} : ∀ {r i : Nat}, alk t j k r i = true ↔ ∀ q, i ≤ q → q < i + r → t (38 * j + q) = t (38 * k + q)
  | 0, i => ⟨fun _ q h1 h2 => by omega, fun _ => rfl⟩
  | r + 1, i => by
    have ih := alk_all (t := t) (j := j) (k := k) (r := r) (i := i + 1)
    show (if t (38 * j + i) = t (38 * k + i) then alk t j k r (i + 1) else false) = true ↔ _
    constructor
    · intro h q h1 h2
      split at h
      · rename_i c
        by_cases e : q = i
        · subst e; exact c
        · exact ih.mp h q (by omega) (by omega)
      · cases h
    · intro h
      rw [if_pos (h i (Nat.le_refl _) (by omega))]
      exact ih.mpr (fun q h1 h2 => h q (by omega) (by omega))
/-- the first place that is so -/
def fst1 (p : Nat → Bool) : Nat → Nat → Option Nat
  | 0, _ => none
  | j + 1, k => if p k then some k else fst1 p j (k + 1)
theorem fst1_skip {p : Nat → Bool} : ∀ {i j k : Nat}, (∀ q, k ≤ q → q < k + i → p q = false) → fst1 p (i + j) k = fst1 p j (k + i)
  | 0, j, k, _ => by rw [Nat.zero_add]; rfl
  | i + 1, j, k, h => by
    rw [show i + 1 + j = (i + j) + 1 by omega]
    show (if p k then some k else fst1 p (i + j) (k + 1)) = _
    rw [h k (Nat.le_refl _) (by omega), if_neg (by decide), fst1_skip (fun q h1 h2 => h q (by omega) (by omega)), show k + 1 + i = k + (i + 1) by omega]
theorem fst1_none {p : Nat → Bool} : ∀ {j k : Nat}, (∀ q, k ≤ q → q < k + j → p q = false) → fst1 p j k = none
  | 0, k, _ => rfl
  | j + 1, k, h => by
    show (if p k then some k else fst1 p j (k + 1)) = none
    rw [h k (Nat.le_refl _) (by omega), if_neg (by decide)]
    exact fst1_none (fun q h1 h2 => h q (by omega) (by omega))
theorem fst1_some {p : Nat → Bool} : ∀ {j k r : Nat}, fst1 p j k = some r → k ≤ r ∧ r < k + j ∧ p r = true ∧ ∀ q, k ≤ q → q < r → p q = false
  | 0, k, r, h => by cases h
  | j + 1, k, r, h => by
    have h : (if p k then some k else fst1 p j (k + 1)) = some r := h
    cases hp : p k with
    | true =>
      rw [hp, if_pos rfl] at h
      cases h
      exact ⟨Nat.le_refl _, by omega, hp, fun q h1 h2 => by omega⟩
    | false =>
      rw [hp, if_neg (by decide)] at h
      obtain ⟨a, b, c, d⟩ := fst1_some h
      refine ⟨by omega, by omega, c, fun q h1 h2 => ?_⟩
      by_cases e : q = k
      · subst e; exact hp
      · exact d q (by omega) h2
theorem fst1_no {p : Nat → Bool} : ∀ {j k : Nat}, fst1 p j k = none → ∀ q, k ≤ q → q < k + j → p q = false
  | 0, k, _ => fun q h1 h2 => by omega
  | j + 1, k, h => by
    have h : (if p k then some k else fst1 p j (k + 1)) = none := h
    cases hp : p k with
    | true => rw [hp, if_pos rfl] at h; cases h
    | false =>
      rw [hp, if_neg (by decide)] at h
      intro q h1 h2
      by_cases e : q = k
      · subst e; exact hp
      · exact fst1_no h q (by omega) (by omega)
def ib (al : Nat → Bool) : Nat → Nat → Bool → Bool
  | 0, _, b => b
  | r + 1, q, b => ib al r (q + 1) (b && al q)
/-- three still nights on end -/
theorem stl_f {ch : Nat → Bool} : ∀ {j i kk : Nat}, kk ≤ 2 → kk ≤ i → (∀ t, t < kk → ch (i - 1 - t) = false) → stl ch j i kk = (fst1 (fun k => !(ch k) && (!(ch (k + 1)) && !(ch (k + 2)))) (j + kk - 2) (i - kk)).map (fun k => k + 3)
  | 0, i, kk, h1, h2, h3 => by
    rw [show 0 + kk - 2 = 0 by omega]
    rfl
  | j + 1, i, kk, h1, h2, h3 => by
    have es : stl ch (j + 1) i kk = if ch i then stl ch j (i + 1) 0 else if kk = 2 then some (i + 1) else stl ch j (i + 1) (kk + 1) := rfl
    rw [es]
    cases hc : ch i with
    | true =>
      rw [if_pos rfl, stl_f (by omega) (by omega) (fun t ht => absurd ht (Nat.not_lt_zero t))]
      congr 1
      have hno : ∀ q, i - kk ≤ q → q < i - kk + (kk + 1) → (!(ch q) && (!(ch (q + 1)) && !(ch (q + 2)))) = false := by
        intro q q1 q2
        rcases (show q = i ∨ q + 1 = i ∨ q + 2 = i by omega) with e | e | e
        · rw [e, hc]; rfl
        · rw [e, hc]; simp
        · rw [e, hc]; simp
      by_cases c : kk + 1 ≤ j + 1 + kk - 2
      · have := fst1_skip (p := fun k => !(ch k) && (!(ch (k + 1)) && !(ch (k + 2)))) (i := kk + 1) (j := j - 2) (k := i - kk) hno
        rw [show j + 1 + kk - 2 = kk + 1 + (j - 2) by omega, this, show i - kk + (kk + 1) = i + 1 by omega, show j + 0 - 2 = j - 2 by omega, Nat.sub_zero]
      · rw [show j + 0 - 2 = 0 by omega]
        rw [fst1_none (fun q q1 q2 => hno q q1 (by omega))]
        rfl
    | false =>
      rw [if_neg (by decide)]
      by_cases k2 : kk = 2
      · subst k2
        rw [if_pos rfl, show j + 1 + 2 - 2 = j + 1 by omega]
        have h0 := h3 0 (by omega)
        have h1' := h3 1 (by omega)
        have e : (!(ch (i - 2)) && (!(ch (i - 2 + 1)) && !(ch (i - 2 + 2)))) = true := by
          rw [show i - 2 + 1 = i - 1 - 0 by omega, show i - 2 + 2 = i by omega, show i - 2 = i - 1 - 1 by omega, h0, h1', hc]
          rfl
        show some (i + 1) = (if (!(ch (i - 2)) && (!(ch (i - 2 + 1)) && !(ch (i - 2 + 2)))) = true then some (i - 2) else _).map (fun k => k + 3)
        rw [if_pos e]
        show some (i + 1) = some (i - 2 + 3)
        rw [show i - 2 + 3 = i + 1 by omega]
      · rw [if_neg k2, stl_f (by omega) (by omega) (fun t ht => ?_)]
        · rw [show j + (kk + 1) - 2 = j + 1 + kk - 2 by omega, show i + 1 - (kk + 1) = i - kk by omega]
        · by_cases t0 : t = 0
          · subst t0; exact hc
          · have := h3 (t - 1) (by omega)
            rw [show i - 1 - (t - 1) = i + 1 - 1 - t by omega] at this
            exact this
theorem nM_at {V : (Nat → Int32) → Int32} {L W M : Nat → Int32} {β : Nat → Nat} {n : Nat} {g mem : Int32} {i : Nat} : ∀ {k : Nat}, i < k → (mem >>> (nI i &&& 31)) &&& 1 = 1 → nM V L W M β n g mem k i = nE V L W M β n g i
  | 0, h, _ => by omega
  | k + 1, h, hb => by
    have es : nM V L W M β n g mem (k + 1) = if (mem >>> (nI k &&& 31)) &&& 1 = 1 then upd (nM V L W M β n g mem k) k (nE V L W M β n g k) else nM V L W M β n g mem k := rfl
    rw [es]
    by_cases e : i = k
    · subst e
      rw [if_pos hb]
      exact if_pos rfl
    · split
      · exact (if_neg e).trans (nM_at (by omega) hb)
      · exact nM_at (by omega) hb
theorem nC_no {V : (Nat → Int32) → Int32} {L W M : Nat → Int32} {β : Nat → Nat} {n : Nat} {g mem : Int32} : ∀ {k : Nat}, (∀ i, i < k → (mem >>> (nI i &&& 31)) &&& 1 = 1) → (nC V L W M β n g mem k = false ↔ ∀ i, i < k → nE V L W M β n g i = M i)
  | 0, _ => ⟨fun _ i hi => absurd hi (Nat.not_lt_zero i), fun _ => rfl⟩
  | k + 1, hb => by
    have ih := nC_no (V := V) (L := L) (W := W) (M := M) (β := β) (n := n) (g := g) (k := k) (fun i hi => hb i (by omega))
    have es : nC V L W M β n g mem (k + 1) = if (mem >>> (nI k &&& 31)) &&& 1 = 1 then (nC V L W M β n g mem k || !decide (nE V L W M β n g k = M k)) else nC V L W M β n g mem k := rfl
    rw [es, if_pos (hb k (by omega)), Bool.or_eq_false_iff, ih]
    simp only [Bool.not_eq_false', decide_eq_true_eq]
    constructor
    · rintro ⟨h1, h2⟩ i hi
      by_cases e : i = k
      · subst e; exact h2
      · exact h1 i (by omega)
    · intro h
      exact ⟨fun i hi => h i (by omega), h k (by omega)⟩
/-- no mood changed by night -/
theorem nCh_e {cd : List Int32} {X : TN} (hn : X.2.2.2.2.1 ≤ 12) : nCh cd (tc_allv (nI X.2.2.2.2.1)) X = false ↔ ∀ i, i < X.2.2.2.2.1 → (nXT cd (tc_allv (nI X.2.2.2.2.1)) 1 X).2.2.1 i = X.2.2.1 i := by
  unfold nCh
  rw [nC_no (fun i hi => all_bit hn hi)]
  have e : ∀ i, i < X.2.2.2.2.1 → (nXT cd (tc_allv (nI X.2.2.2.2.1)) 1 X).2.2.1 i = nE (fun E => evv E cd) X.1 X.2.1 X.2.2.1 (be (tc_dB X.2.2.2.2.2.1 X.1 X.2.1 X.2.2.2.1 X.2.2.2.2.1)) X.2.2.2.2.1 X.2.2.2.2.2.2 i := fun i hi => nM_at hi (all_bit hn hi)
  constructor
  · intro h i hi
    rw [e i hi]; exact h i hi
  · intro h i hi
    rw [← e i hi]; exact h i hi
theorem mo_sum {M : Nat → Int32} {n : Nat} (hn : n ≤ 12) : tc_mo M (tc_allv (nI n)) n = tc_sum M n := by
  unfold tc_mo tc_sum
  refine fo_congr (fun i hi x => ?_)
  rw [if_pos (all_bit hn hi)]
section
variable {sa : g_SA} {sc : Nat × Nat × (Nat → Int32)} {xt : Nat → Nat → List Value → tm_H → Option (Option Value × tm_H)} {d m : Nat} {h : tm_H} {Q : Option Value → tm_H → Prop} {I : Nat → Int32} {rd : Value} {ru : Nat} {C : Nat → tm_E}
variable {c n u : Nat} {F L W M B N Lm H Ms Bs Os : Nat → Int32} {s g : Int32} {rc hc mc : Nat} {R : Nat → Int64} {tx : Nat × (Nat → Int32)} {rw : Nat × (Nat → Int64)} {nw : TN} {pa : PA} {cd : List Int32} {he : Nat × (Nat → Int32)} {mi : Nat × (Nat → Int32) × (Nat → Int32) × (Nat → Int32)}
theorem m_trail (hM : MV I C tx rw nw pa cd he mi) (hQ : ∀ I' rd' C' t, MV I' C' tx rw nw pa cd he mi → C' 17 = .inl (0, 3800, .inl t) → (∀ k, k ≤ 99 → RW (fun j => t (38 * k + j)) (nXT cd (tc_allv (nI nw.2.2.2.2.1)) k nw)) → Q none (mh h m I' rd' (m + 6) C')) : tm_D (g_G sa sc xt) (d + 269) 246 [.ref m] (mh h m I rd (m + 6) C) Q := by
  obtain ⟨N, Lm, f11, hG, hN, hL, h11, hr, hLe, hwf, i1, hn⟩ := hM.ngt (m := m)
  obtain ⟨t0, ht0⟩ := hM.mx 17 0 3800 rfl
  have e0 : (mh h m I rd (m + 6) C).2.2 (m + 1) = .inl (0, 38, .inl N) := (mh_c (by decide) (by decide)).trans hN
  have e1 : (mh h m I rd (m + 6) C).2.2 (m + 11) = .inl (0, 38, .inl f11) := (mh_c (by decide) (by decide)).trans h11
  have loop : ∀ (j k : Nat) (I0 : Nat → Int32) (rd0 : Value) (C0 : Nat → tm_E) (N0 t : Nat → Int32), k + j = 100 → MV I0 C0 tx rw nw pa cd he mi → C0 11 = .inl (0, 38, .inl N0) → C0 17 = .inl (0, 3800, .inl t) → RW N0 (nXT cd (tc_allv (nI nw.2.2.2.2.1)) k nw) → (∀ q, q < k → RW (fun j => t (38 * q + j)) (nXT cd (tc_allv (nI nw.2.2.2.2.1)) q nw)) → tm_X (g_G sa sc xt) (d + 269) 246 14 [.ref m, .int (nI k)] [] (mh h m I0 rd0 (m + 6) C0) Q := by
    intro j
    induction j with
    | zero =>
      intro k I0 rd0 C0 N0 t hk hM0 c11 c17 hr0 ht
      have hk : k = 100 := by omega
      subst hk
      rw [s_246_14]
      simp only [s_246_0, s_246_1, s_246_4, s_246_5, s_246_8, s_246_9, s_246_12, s_246_13, s_246_15, s_246_17, s_246_20, s_246_21, s_246_24, s_246_25, s_246_28, s_246_30, s_246_31, s_246_32, s_246_35, s_246_36, s_246_37, s_246_40, s_246_43, s_246_46, s_246_49, x_get_i, List.getElem?_cons_succ, List.getElem?_cons_zero, x_cv_j, cs_n, cs_i, cs_r, cs_l, Nat.reduceAdd, Nat.reduceLeDiff, true_and, Option.toList_some, Option.toList_none, List.cons_append, List.nil_append, if_true, if_false, nb0, nb1, x_setJ, x_setZ0, x_setZ1, x_setA, x_setO, List.length_cons, List.length_nil, Nat.reduceLT, List.set_cons_succ, List.set_cons_zero, wrl_0, wrl_1, wrl_2, wrl_3, wrl_4, wrl_5, wrl_p0, wrl_p1, wrl_p2, wrl_p3, wrl_p4, mh_o, mh_po, mcv, mg_0, mg_1, mg_2, mg_3, mg_4, mg_5, mg_6, mg_7, mg_8, mg_9, mg_10, mg_11, mg_12, mg_13, mg_14, mg_15, mg_16, mg_17, mg_18, mg_19, mg_20, mg_21, mg_22, mg_23, mg_24, mg_25, mg_26, mg_27, mg_28, mg_29, mg_30, mg_31, mg_32, mg_33, mg_34, mg_35, mg_36, mg_37, mg_38, mg_39, mg_40, mg_41, mg_42, mg_43, mg_44, mg_45, mg_46, ms_1, ms_4, ms_6, ms_7, ms_9, ms_10, ms_11, ms_12, ms_16, ms_20, ms_24, ms_28, ms_35, ms_39, ms_42, ms_43, ms_17t, ms_17f, ms_8, ms_14, mc_1, mp_1, mc_2, mp_2, mc_3, mp_3, mc_4, mp_4, mc_5, mp_5, mc_6, mp_6, mc_7, mp_7, mc_8, mp_8, mc_9, mp_9, mc_10, mp_10, mc_11, mp_11, mc_12, mp_12, mc_13, mp_13, mc_14, mp_14, mc_15, mp_15, mc_16, mp_16, mc_17, mp_17, mc_18, mp_18, mc_19, mp_19, mc_20, mp_20, mc_21, mp_21, mc_22, mp_22, mc_23, mp_23, mc_24, mp_24, mc_25, mp_25, mc_26, mp_26, mc_27, mp_27, mc_28, mp_28, mc_29, mp_29, iu, cup, Nat.reduceEqDiff, show (99 : Int32) < nI 100 by decide]
      exact hQ _ _ _ t hM0 c17 (fun k hk => ht k (by omega))
    | succ j ih =>
      intro k I0 rd0 C0 N0 t hk hM0 c11 c17 hr0 ht
      obtain ⟨N1, Lm1, f1, hG1, hN1, hL1, -, -, hLe1, -, -, -⟩ := hM0.ngt (m := m)
      have e2 : (mh h m I0 rd0 (m + 6) C0).2.2 (m + 11) = .inl (0, 38, .inl N0) := (mh_c (by decide) (by decide)).trans c11
      have e3 : (mh h m I0 rd0 (m + 6) C0).2.2 (m + 17) = .inl (0, 3800, .inl t) := (mh_c (by decide) (by decide)).trans c17
      have wf := WFT_nXT (cd := cd) (mem := tc_allv (nI nw.2.2.2.2.1)) (m := k) hwf.1
      rw [s_246_14]
      simp only [s_246_0, s_246_1, s_246_4, s_246_5, s_246_8, s_246_9, s_246_12, s_246_13, s_246_15, s_246_17, s_246_20, s_246_21, s_246_24, s_246_25, s_246_28, s_246_30, s_246_31, s_246_32, s_246_35, s_246_36, s_246_37, s_246_40, s_246_43, s_246_46, s_246_49, x_get_i, List.getElem?_cons_succ, List.getElem?_cons_zero, x_cv_j, cs_n, cs_i, cs_r, cs_l, Nat.reduceAdd, Nat.reduceLeDiff, true_and, Option.toList_some, Option.toList_none, List.cons_append, List.nil_append, if_true, if_false, nb0, nb1, x_setJ, x_setZ0, x_setZ1, x_setA, x_setO, List.length_cons, List.length_nil, Nat.reduceLT, List.set_cons_succ, List.set_cons_zero, wrl_0, wrl_1, wrl_2, wrl_3, wrl_4, wrl_5, wrl_p0, wrl_p1, wrl_p2, wrl_p3, wrl_p4, mh_o, mh_po, mcv, mg_0, mg_1, mg_2, mg_3, mg_4, mg_5, mg_6, mg_7, mg_8, mg_9, mg_10, mg_11, mg_12, mg_13, mg_14, mg_15, mg_16, mg_17, mg_18, mg_19, mg_20, mg_21, mg_22, mg_23, mg_24, mg_25, mg_26, mg_27, mg_28, mg_29, mg_30, mg_31, mg_32, mg_33, mg_34, mg_35, mg_36, mg_37, mg_38, mg_39, mg_40, mg_41, mg_42, mg_43, mg_44, mg_45, mg_46, ms_1, ms_4, ms_6, ms_7, ms_9, ms_10, ms_11, ms_12, ms_16, ms_20, ms_24, ms_28, ms_35, ms_39, ms_42, ms_43, ms_17t, ms_17f, ms_8, ms_14, mc_1, mp_1, mc_2, mp_2, mc_3, mp_3, mc_4, mp_4, mc_5, mp_5, mc_6, mp_6, mc_7, mp_7, mc_8, mp_8, mc_9, mp_9, mc_10, mp_10, mc_11, mp_11, mc_12, mp_12, mc_13, mp_13, mc_14, mp_14, mc_15, mp_15, mc_16, mp_16, mc_17, mp_17, mc_18, mp_18, mc_19, mp_19, mc_20, mp_20, mc_21, mp_21, mc_22, mp_22, mc_23, mp_23, mc_24, mp_24, mc_25, mp_25, mc_26, mp_26, mc_27, mp_27, mc_28, mp_28, mc_29, mp_29, iu, cup, Nat.reduceEqDiff, show ¬ (99 : Int32) < nI k from nI_nlt (a := 99) (by omega) (by decide), show (38 : Int32) * nI k = nI (38 * k) from nI_mul (a := 38)]
      refine Iff.mpr (r_lay e2 e3 (by omega) (by omega) n3800) ?_
      rw [mh_pc (by decide) (by decide)]
      simp only [s_246_0, s_246_1, s_246_4, s_246_5, s_246_8, s_246_9, s_246_12, s_246_13, s_246_15, s_246_17, s_246_20, s_246_21, s_246_24, s_246_25, s_246_28, s_246_30, s_246_31, s_246_32, s_246_35, s_246_36, s_246_37, s_246_40, s_246_43, s_246_46, s_246_49, x_get_i, List.getElem?_cons_succ, List.getElem?_cons_zero, x_cv_j, cs_n, cs_i, cs_r, cs_l, Nat.reduceAdd, Nat.reduceLeDiff, true_and, Option.toList_some, Option.toList_none, List.cons_append, List.nil_append, if_true, if_false, nb0, nb1, x_setJ, x_setZ0, x_setZ1, x_setA, x_setO, List.length_cons, List.length_nil, Nat.reduceLT, List.set_cons_succ, List.set_cons_zero, wrl_0, wrl_1, wrl_2, wrl_3, wrl_4, wrl_5, wrl_p0, wrl_p1, wrl_p2, wrl_p3, wrl_p4, mh_o, mh_po, mcv, mg_0, mg_1, mg_2, mg_3, mg_4, mg_5, mg_6, mg_7, mg_8, mg_9, mg_10, mg_11, mg_12, mg_13, mg_14, mg_15, mg_16, mg_17, mg_18, mg_19, mg_20, mg_21, mg_22, mg_23, mg_24, mg_25, mg_26, mg_27, mg_28, mg_29, mg_30, mg_31, mg_32, mg_33, mg_34, mg_35, mg_36, mg_37, mg_38, mg_39, mg_40, mg_41, mg_42, mg_43, mg_44, mg_45, mg_46, ms_1, ms_4, ms_6, ms_7, ms_9, ms_10, ms_11, ms_12, ms_16, ms_20, ms_24, ms_28, ms_35, ms_39, ms_42, ms_43, ms_17t, ms_17f, ms_8, ms_14, mc_1, mp_1, mc_2, mp_2, mc_3, mp_3, mc_4, mp_4, mc_5, mp_5, mc_6, mp_6, mc_7, mp_7, mc_8, mp_8, mc_9, mp_9, mc_10, mp_10, mc_11, mp_11, mc_12, mp_12, mc_13, mp_13, mc_14, mp_14, mc_15, mp_15, mc_16, mp_16, mc_17, mp_17, mc_18, mp_18, mc_19, mp_19, mc_20, mp_20, mc_21, mp_21, mc_22, mp_22, mc_23, mp_23, mc_24, mp_24, mc_25, mp_25, mc_26, mp_26, mc_27, mp_27, mc_28, mp_28, mc_29, mp_29, iu, cup, Nat.reduceEqDiff]
      have hM2 : MV I0 (cup C0 17 (.inl (0, 3800, .inl (lyt N0 t (38 * k) 38)))) tx rw nw pa cd he mi := hM0.same ((KP.refl hM0.mx).cs rfl rfl) rfl rfl rfl rfl
      obtain ⟨N2, Lm2, f2, hG2, hN2, hL2, -, -, hLe2, -, -, -⟩ := hM2.ngt (m := m)
      refine r_goNight (d := d) (x := m + 11) (N := N0) (L := nw.1) (W := nw.2.1) (M := (nXT cd (tc_allv (nI nw.2.2.2.2.1)) k nw).2.2.1) (B := (nXT cd (tc_allv (nI nw.2.2.2.2.1)) k nw).2.2.2.1) (sd := (nXT cd (tc_allv (nI nw.2.2.2.2.1)) k nw).2.2.2.2.2.1) (g := (nXT cd (tc_allv (nI nw.2.2.2.2.1)) k nw).2.2.2.2.2.2) hG2 (Or.inr rfl) ?_ ?_ hLe2 hwf.1.2.1 wf.2.2 (fun I3 rd3 C3 N3 sc3 hc3 hw3 => ?_)
      · rw [Nat.add_sub_cancel_left]; exact (if_neg (by decide)).trans c11
      · exact hr0
      rw [Nat.add_sub_cancel_left] at sc3 hc3
      simp only [s_246_0, s_246_1, s_246_4, s_246_5, s_246_8, s_246_9, s_246_12, s_246_13, s_246_15, s_246_17, s_246_20, s_246_21, s_246_24, s_246_25, s_246_28, s_246_30, s_246_31, s_246_32, s_246_35, s_246_36, s_246_37, s_246_40, s_246_43, s_246_46, s_246_49, x_get_i, List.getElem?_cons_succ, List.getElem?_cons_zero, x_cv_j, cs_n, cs_i, cs_r, cs_l, Nat.reduceAdd, Nat.reduceLeDiff, true_and, Option.toList_some, Option.toList_none, List.cons_append, List.nil_append, if_true, if_false, nb0, nb1, x_setJ, x_setZ0, x_setZ1, x_setA, x_setO, List.length_cons, List.length_nil, Nat.reduceLT, List.set_cons_succ, List.set_cons_zero, wrl_0, wrl_1, wrl_2, wrl_3, wrl_4, wrl_5, wrl_p0, wrl_p1, wrl_p2, wrl_p3, wrl_p4, mh_o, mh_po, mcv, mg_0, mg_1, mg_2, mg_3, mg_4, mg_5, mg_6, mg_7, mg_8, mg_9, mg_10, mg_11, mg_12, mg_13, mg_14, mg_15, mg_16, mg_17, mg_18, mg_19, mg_20, mg_21, mg_22, mg_23, mg_24, mg_25, mg_26, mg_27, mg_28, mg_29, mg_30, mg_31, mg_32, mg_33, mg_34, mg_35, mg_36, mg_37, mg_38, mg_39, mg_40, mg_41, mg_42, mg_43, mg_44, mg_45, mg_46, ms_1, ms_4, ms_6, ms_7, ms_9, ms_10, ms_11, ms_12, ms_16, ms_20, ms_24, ms_28, ms_35, ms_39, ms_42, ms_43, ms_17t, ms_17f, ms_8, ms_14, mc_1, mp_1, mc_2, mp_2, mc_3, mp_3, mc_4, mp_4, mc_5, mp_5, mc_6, mp_6, mc_7, mp_7, mc_8, mp_8, mc_9, mp_9, mc_10, mp_10, mc_11, mp_11, mc_12, mp_12, mc_13, mp_13, mc_14, mp_14, mc_15, mp_15, mc_16, mp_16, mc_17, mp_17, mc_18, mp_18, mc_19, mp_19, mc_20, mp_20, mc_21, mp_21, mc_22, mp_22, mc_23, mp_23, mc_24, mp_24, mc_25, mp_25, mc_26, mp_26, mc_27, mp_27, mc_28, mp_28, mc_29, mp_29, iu, cup, Nat.reduceEqDiff, nI_1]
      refine ih (k + 1) I3 rd3 C3 N3 (lyt N0 t (38 * k) 38) (by omega) ?_ hc3 ?_ ?_ (fun q hq => ?_)
      · exact hM2.same (NSC_KP hM2.mx sc3 ⟨N3, hc3⟩) (sc3.1 4 (by decide) (by decide) (by decide) (by decide)) (sc3.2.1 3 (by decide) (by decide) (by decide)) (sc3.1 6 (by decide) (by decide) (by decide) (by decide)) (sc3.2.1 4 (by decide) (by decide) (by decide))
      · exact (sc3.2.1 17 (by decide) (by decide) (by decide)).trans (if_pos rfl)
      · rw [← nXT_s]
        exact hw3
      · by_cases e : q = k
        · subst e
          refine RW_cg hr0 (fun j hj => ?_)
          show (if 38 * q ≤ 38 * q + j ∧ 38 * q + j < 38 * q + 38 then N0 (38 * q + j - 38 * q) else _) = _
          rw [if_pos (by omega), show 38 * q + j - 38 * q = j by omega]
        · refine RW_cg (ht q (by omega)) (fun j hj => ?_)
          show (if 38 * k ≤ 38 * q + j ∧ 38 * q + j < 38 * k + 38 then N0 (38 * q + j - 38 * k) else t (38 * q + j)) = _
          rw [if_neg (by omega)]
  rw [e_246]
  simp only [s_246_0, s_246_1, s_246_4, s_246_5, s_246_8, s_246_9, s_246_12, s_246_13, s_246_15, s_246_17, s_246_20, s_246_21, s_246_24, s_246_25, s_246_28, s_246_30, s_246_31, s_246_32, s_246_35, s_246_36, s_246_37, s_246_40, s_246_43, s_246_46, s_246_49, x_get_i, List.getElem?_cons_succ, List.getElem?_cons_zero, x_cv_j, cs_n, cs_i, cs_r, cs_l, Nat.reduceAdd, Nat.reduceLeDiff, true_and, Option.toList_some, Option.toList_none, List.cons_append, List.nil_append, if_true, if_false, nb0, nb1, x_setJ, x_setZ0, x_setZ1, x_setA, x_setO, List.length_cons, List.length_nil, Nat.reduceLT, List.set_cons_succ, List.set_cons_zero, wrl_0, wrl_1, wrl_2, wrl_3, wrl_4, wrl_5, wrl_p0, wrl_p1, wrl_p2, wrl_p3, wrl_p4, mh_o, mh_po, mcv, mg_0, mg_1, mg_2, mg_3, mg_4, mg_5, mg_6, mg_7, mg_8, mg_9, mg_10, mg_11, mg_12, mg_13, mg_14, mg_15, mg_16, mg_17, mg_18, mg_19, mg_20, mg_21, mg_22, mg_23, mg_24, mg_25, mg_26, mg_27, mg_28, mg_29, mg_30, mg_31, mg_32, mg_33, mg_34, mg_35, mg_36, mg_37, mg_38, mg_39, mg_40, mg_41, mg_42, mg_43, mg_44, mg_45, mg_46, ms_1, ms_4, ms_6, ms_7, ms_9, ms_10, ms_11, ms_12, ms_16, ms_20, ms_24, ms_28, ms_35, ms_39, ms_42, ms_43, ms_17t, ms_17f, ms_8, ms_14, mc_1, mp_1, mc_2, mp_2, mc_3, mp_3, mc_4, mp_4, mc_5, mp_5, mc_6, mp_6, mc_7, mp_7, mc_8, mp_8, mc_9, mp_9, mc_10, mp_10, mc_11, mp_11, mc_12, mp_12, mc_13, mp_13, mc_14, mp_14, mc_15, mp_15, mc_16, mp_16, mc_17, mp_17, mc_18, mp_18, mc_19, mp_19, mc_20, mp_20, mc_21, mp_21, mc_22, mp_22, mc_23, mp_23, mc_24, mp_24, mc_25, mp_25, mc_26, mp_26, mc_27, mp_27, mc_28, mp_28, mc_29, mp_29, iu, cup, Nat.reduceEqDiff, show (0 : Int32) = nI 0 from rfl]
  refine Iff.mpr (r_lay (k := 0) e0 e1 (by omega) (by decide) n38) ?_
  rw [mh_pc (by decide) (by decide)]
  simp only [s_246_0, s_246_1, s_246_4, s_246_5, s_246_8, s_246_9, s_246_12, s_246_13, s_246_15, s_246_17, s_246_20, s_246_21, s_246_24, s_246_25, s_246_28, s_246_30, s_246_31, s_246_32, s_246_35, s_246_36, s_246_37, s_246_40, s_246_43, s_246_46, s_246_49, x_get_i, List.getElem?_cons_succ, List.getElem?_cons_zero, x_cv_j, cs_n, cs_i, cs_r, cs_l, Nat.reduceAdd, Nat.reduceLeDiff, true_and, Option.toList_some, Option.toList_none, List.cons_append, List.nil_append, if_true, if_false, nb0, nb1, x_setJ, x_setZ0, x_setZ1, x_setA, x_setO, List.length_cons, List.length_nil, Nat.reduceLT, List.set_cons_succ, List.set_cons_zero, wrl_0, wrl_1, wrl_2, wrl_3, wrl_4, wrl_5, wrl_p0, wrl_p1, wrl_p2, wrl_p3, wrl_p4, mh_o, mh_po, mcv, mg_0, mg_1, mg_2, mg_3, mg_4, mg_5, mg_6, mg_7, mg_8, mg_9, mg_10, mg_11, mg_12, mg_13, mg_14, mg_15, mg_16, mg_17, mg_18, mg_19, mg_20, mg_21, mg_22, mg_23, mg_24, mg_25, mg_26, mg_27, mg_28, mg_29, mg_30, mg_31, mg_32, mg_33, mg_34, mg_35, mg_36, mg_37, mg_38, mg_39, mg_40, mg_41, mg_42, mg_43, mg_44, mg_45, mg_46, ms_1, ms_4, ms_6, ms_7, ms_9, ms_10, ms_11, ms_12, ms_16, ms_20, ms_24, ms_28, ms_35, ms_39, ms_42, ms_43, ms_17t, ms_17f, ms_8, ms_14, mc_1, mp_1, mc_2, mp_2, mc_3, mp_3, mc_4, mp_4, mc_5, mp_5, mc_6, mp_6, mc_7, mp_7, mc_8, mp_8, mc_9, mp_9, mc_10, mp_10, mc_11, mp_11, mc_12, mp_12, mc_13, mp_13, mc_14, mp_14, mc_15, mp_15, mc_16, mp_16, mc_17, mp_17, mc_18, mp_18, mc_19, mp_19, mc_20, mp_20, mc_21, mp_21, mc_22, mp_22, mc_23, mp_23, mc_24, mp_24, mc_25, mp_25, mc_26, mp_26, mc_27, mp_27, mc_28, mp_28, mc_29, mp_29, iu, cup, Nat.reduceEqDiff]
  exact loop 100 0 _ _ _ (lyt N f11 0 38) t0 (by omega) (hM.same ((KP.refl hM.mx).cs rfl rfl) rfl rfl rfl rfl) (if_pos rfl) ((if_neg (by decide)).trans ht0) (RW_lyt hr) (fun q hq => absurd hq (Nat.not_lt_zero q))
theorem r_areLike {t : Nat → Int32} {j k a e : Nat} (h17 : C 17 = .inl (0, 3800, .inl t)) (hj : j ≤ 99) (hk : k ≤ 99) (ha : a ≤ e) (he : e ≤ 38) : tm_D (g_G sa sc xt) d 247 [.ref m, .int (nI j), .int (nI k), .int (nI a), .int (nI e)] (mh h m I rd ru C) Q ↔ Q (some (.int (bI (alk t j k (e - a) a)))) (mh h m I rd ru C) := by
  have loop : ∀ r i, i + r = e → (tm_X (g_G sa sc xt) d 247 3 [.ref m, .int (nI j), .int (nI k), .int (nI a), .int (nI e), .int (nI i)] [] (mh h m I rd ru C) Q ↔ Q (some (.int (bI (alk t j k r i)))) (mh h m I rd ru C)) := by
    intro r
    induction r with
    | zero =>
      intro i hi
      have hi : i = e := by omega
      subst hi
      rw [s_247_3]
      simp only [s_247_0, s_247_1, s_247_5, s_247_7, s_247_10, s_247_11, s_247_14, s_247_16, s_247_17, s_247_18, s_247_20, s_247_21, s_247_22, s_247_23, s_247_26, s_247_28, s_247_29, s_247_30, s_247_32, s_247_33, s_247_34, s_247_37, s_247_38, s_247_39, s_247_42, s_247_45, s_247_46, x_get_i, List.getElem?_cons_succ, List.getElem?_cons_zero, x_cv_j, cs_n, cs_i, cs_r, cs_l, Nat.reduceAdd, Nat.reduceLeDiff, true_and, Option.toList_some, Option.toList_none, List.cons_append, List.nil_append, if_true, if_false, nb0, nb1, x_setJ, x_setZ0, x_setZ1, x_setA, x_setO, List.length_cons, List.length_nil, Nat.reduceLT, List.set_cons_succ, List.set_cons_zero, wrl_0, wrl_1, wrl_2, wrl_3, wrl_4, wrl_5, wrl_p0, wrl_p1, wrl_p2, wrl_p3, wrl_p4, mh_o, mh_po, mcv, mg_0, mg_1, mg_2, mg_3, mg_4, mg_5, mg_6, mg_7, mg_8, mg_9, mg_10, mg_11, mg_12, mg_13, mg_14, mg_15, mg_16, mg_17, mg_18, mg_19, mg_20, mg_21, mg_22, mg_23, mg_24, mg_25, mg_26, mg_27, mg_28, mg_29, mg_30, mg_31, mg_32, mg_33, mg_34, mg_35, mg_36, mg_37, mg_38, mg_39, mg_40, mg_41, mg_42, mg_43, mg_44, mg_45, mg_46, ms_1, ms_4, ms_6, ms_7, ms_9, ms_10, ms_11, ms_12, ms_16, ms_20, ms_24, ms_28, ms_35, ms_39, ms_42, ms_43, ms_17t, ms_17f, ms_8, ms_14, mc_1, mp_1, mc_2, mp_2, mc_3, mp_3, mc_4, mp_4, mc_5, mp_5, mc_6, mp_6, mc_7, mp_7, mc_8, mp_8, mc_9, mp_9, mc_10, mp_10, mc_11, mp_11, mc_12, mp_12, mc_13, mp_13, mc_14, mp_14, mc_15, mp_15, mc_16, mp_16, mc_17, mp_17, mc_18, mp_18, mc_19, mp_19, mc_20, mp_20, mc_21, mp_21, mc_22, mp_22, mc_23, mp_23, mc_24, mp_24, mc_25, mp_25, mc_26, mp_26, mc_27, mp_27, mc_28, mp_28, mc_29, mp_29, iu, cup, Nat.reduceEqDiff, Int32.le_refl]
      exact Iff.rfl
    | succ r ih =>
      intro i hi
      rw [s_247_3]
      simp only [s_247_0, s_247_1, s_247_5, s_247_7, s_247_10, s_247_11, s_247_14, s_247_16, s_247_17, s_247_18, s_247_20, s_247_21, s_247_22, s_247_23, s_247_26, s_247_28, s_247_29, s_247_30, s_247_32, s_247_33, s_247_34, s_247_37, s_247_38, s_247_39, s_247_42, s_247_45, s_247_46, x_get_i, List.getElem?_cons_succ, List.getElem?_cons_zero, x_cv_j, cs_n, cs_i, cs_r, cs_l, Nat.reduceAdd, Nat.reduceLeDiff, true_and, Option.toList_some, Option.toList_none, List.cons_append, List.nil_append, if_true, if_false, nb0, nb1, x_setJ, x_setZ0, x_setZ1, x_setA, x_setO, List.length_cons, List.length_nil, Nat.reduceLT, List.set_cons_succ, List.set_cons_zero, wrl_0, wrl_1, wrl_2, wrl_3, wrl_4, wrl_5, wrl_p0, wrl_p1, wrl_p2, wrl_p3, wrl_p4, mh_o, mh_po, mcv, mg_0, mg_1, mg_2, mg_3, mg_4, mg_5, mg_6, mg_7, mg_8, mg_9, mg_10, mg_11, mg_12, mg_13, mg_14, mg_15, mg_16, mg_17, mg_18, mg_19, mg_20, mg_21, mg_22, mg_23, mg_24, mg_25, mg_26, mg_27, mg_28, mg_29, mg_30, mg_31, mg_32, mg_33, mg_34, mg_35, mg_36, mg_37, mg_38, mg_39, mg_40, mg_41, mg_42, mg_43, mg_44, mg_45, mg_46, ms_1, ms_4, ms_6, ms_7, ms_9, ms_10, ms_11, ms_12, ms_16, ms_20, ms_24, ms_28, ms_35, ms_39, ms_42, ms_43, ms_17t, ms_17f, ms_8, ms_14, mc_1, mp_1, mc_2, mp_2, mc_3, mp_3, mc_4, mp_4, mc_5, mp_5, mc_6, mp_6, mc_7, mp_7, mc_8, mp_8, mc_9, mp_9, mc_10, mp_10, mc_11, mp_11, mc_12, mp_12, mc_13, mp_13, mc_14, mp_14, mc_15, mp_15, mc_16, mp_16, mc_17, mp_17, mc_18, mp_18, mc_19, mp_19, mc_20, mp_20, mc_21, mp_21, mc_22, mp_22, mc_23, mp_23, mc_24, mp_24, mc_25, mp_25, mc_26, mp_26, mc_27, mp_27, mc_28, mp_28, mc_29, mp_29, iu, cup, Nat.reduceEqDiff, show ¬ nI e ≤ nI i from nI_ge (by omega) (by omega), h17, show ∀ x, (38 : Int32) * nI x = nI (38 * x) from fun x => nI_mul (a := 38), nI_add, x_ild_n (show 38 * j + i < 3800 by omega) n3800, x_ild_n (show 38 * k + i < 3800 by omega) n3800, nI_1]
      unfold alk
      by_cases c : t (38 * j + i) = t (38 * k + i)
      · simp only [c, if_true]
        exact ih (i + 1) (by omega)
      · simp only [c, if_false]
        exact Iff.rfl
  rw [e_247]
  simp only [s_247_0, s_247_1, s_247_5, s_247_7, s_247_10, s_247_11, s_247_14, s_247_16, s_247_17, s_247_18, s_247_20, s_247_21, s_247_22, s_247_23, s_247_26, s_247_28, s_247_29, s_247_30, s_247_32, s_247_33, s_247_34, s_247_37, s_247_38, s_247_39, s_247_42, s_247_45, s_247_46]
  exact loop (e - a) a (by omega)
theorem m_settles (hM : MV I C tx (rc, R) nw pa cd he mi) (h1 : stl (fun i => nCh cd (tc_allv (nI nw.2.2.2.2.1)) (nXT cd (tc_allv (nI nw.2.2.2.2.1)) i nw)) 99 0 0 = none → ∀ I' rd' C', MV I' C' tx (rc, R) nw pa cd he mi → Q (some (.int (-2))) (mh h m I' rd' (m + 6) C')) (h2 : ∀ i I' rd' C', stl (fun i => nCh cd (tc_allv (nI nw.2.2.2.2.1)) (nXT cd (tc_allv (nI nw.2.2.2.2.1)) i nw)) 99 0 0 = some i → MV I' C' tx (rw1 R (200 + tc_mo (nXT cd (tc_allv (nI nw.2.2.2.2.1)) i nw).2.2.1 (tc_allv (nI nw.2.2.2.2.1)) nw.2.2.2.2.1).toInt64) nw pa cd he mi → Q (some (.int (nI i - 3))) (mh h m I' rd' (m + 6) C')) : tm_D (g_G sa sc xt) (d + 270) 248 [.ref m] (mh h m I rd (m + 6) C) Q := by
  rw [e_248]
  simp only [s_248_0, s_248_1, s_248_2, s_248_5, s_248_6, s_248_9, s_248_10, s_248_12, s_248_14, s_248_17, s_248_18, s_248_19, s_248_20, s_248_22, s_248_23, s_248_26, s_248_27, s_248_30, s_248_31, s_248_32, s_248_33, s_248_34, s_248_35, s_248_37, s_248_39, s_248_40, s_248_43, s_248_44, s_248_47, s_248_50, s_248_51, s_248_54, s_248_55, s_248_56, s_248_59, s_248_62, s_248_63, s_248_66, s_248_69, s_248_70, s_248_71, s_248_72, s_248_76, s_248_77, s_248_80, s_248_83, s_248_84, s_248_85, s_248_88, s_248_90, s_248_91, s_248_92, s_248_94, s_248_95, s_248_97, s_248_98, s_248_99, s_248_100, s_248_101, s_248_104, s_248_107, s_248_108, s_248_109, s_248_112, s_248_113, s_248_116, s_248_117, s_248_118, s_248_119, s_248_122, s_248_123, s_248_124, s_248_127, s_248_130, s_248_132, x_get_i, List.getElem?_cons_succ, List.getElem?_cons_zero, x_cv_j, cs_n, cs_i, cs_r, cs_l, Nat.reduceAdd, Nat.reduceLeDiff, true_and, Option.toList_some, Option.toList_none, List.cons_append, List.nil_append, if_true, if_false, nb0, nb1, x_setJ, x_setZ0, x_setZ1, x_setA, x_setO, List.length_cons, List.length_nil, Nat.reduceLT, List.set_cons_succ, List.set_cons_zero, wrl_0, wrl_1, wrl_2, wrl_3, wrl_4, wrl_5, wrl_p0, wrl_p1, wrl_p2, wrl_p3, wrl_p4, mh_o, mh_po, mcv, mg_0, mg_1, mg_2, mg_3, mg_4, mg_5, mg_6, mg_7, mg_8, mg_9, mg_10, mg_11, mg_12, mg_13, mg_14, mg_15, mg_16, mg_17, mg_18, mg_19, mg_20, mg_21, mg_22, mg_23, mg_24, mg_25, mg_26, mg_27, mg_28, mg_29, mg_30, mg_31, mg_32, mg_33, mg_34, mg_35, mg_36, mg_37, mg_38, mg_39, mg_40, mg_41, mg_42, mg_43, mg_44, mg_45, mg_46, ms_1, ms_4, ms_6, ms_7, ms_9, ms_10, ms_11, ms_12, ms_16, ms_20, ms_24, ms_28, ms_35, ms_39, ms_42, ms_43, ms_17t, ms_17f, ms_8, ms_14, mc_1, mp_1, mc_2, mp_2, mc_3, mp_3, mc_4, mp_4, mc_5, mp_5, mc_6, mp_6, mc_7, mp_7, mc_8, mp_8, mc_9, mp_9, mc_10, mp_10, mc_11, mp_11, mc_12, mp_12, mc_13, mp_13, mc_14, mp_14, mc_15, mp_15, mc_16, mp_16, mc_17, mp_17, mc_18, mp_18, mc_19, mp_19, mc_20, mp_20, mc_21, mp_21, mc_22, mp_22, mc_23, mp_23, mc_24, mp_24, mc_25, mp_25, mc_26, mp_26, mc_27, mp_27, mc_28, mp_28, mc_29, mp_29, iu, cup, Nat.reduceEqDiff]
  refine m_trail (I := iu I 7 0) hM.i7 (fun I' rd' C' t hM1 h17 ht => ?_)
  obtain ⟨N, Lm, f11, hG, hN, hL, h11, hr, hLe, hwf, i1, hn⟩ := hM1.ngt (m := m)
  obtain ⟨R', hR'⟩ : ∃ R', C' 4 = .inl (3, 16, .inr (.inl R')) := by obtain ⟨-, -, R', hR, -⟩ := hM1.2.1; exact ⟨R', hR⟩
  obtain ⟨Mk, hMk⟩ : ∃ Mk : Nat → Nat → Int32, Mk = fun k => (nXT cd (tc_allv (nI nw.2.2.2.2.1)) k nw).2.2.1 := ⟨_, rfl⟩
  obtain ⟨n', hn'⟩ : ∃ n', n' = nw.2.2.2.2.1 := ⟨_, rfl⟩
  have tM : ∀ k i, k ≤ 99 → i < 12 → t (38 * k + (12 + i)) = Mk k i := fun k i hk hi => by rw [hMk]; exact (ht k hk).2.1 i hi
  have lk : ∀ j k, j ≤ 99 → k ≤ 99 → (alk t j k n' 12 = true ↔ ∀ i, i < n' → Mk j i = Mk k i) := by
    intro j k hj hk
    rw [alk_all]
    constructor
    · intro q i hi
      have := q (12 + i) (by omega) (by omega)
      rwa [tM j i hj (by omega), tM k i hk (by omega)] at this
    · intro q x x1 x2
      have := q (x - 12) (by omega)
      rw [← tM j (x - 12) hj (by omega), ← tM k (x - 12) hk (by omega), show 12 + (x - 12) = x by omega] at this
      exact this
  have hch : ∀ k, nCh cd (tc_allv (nI nw.2.2.2.2.1)) (nXT cd (tc_allv (nI nw.2.2.2.2.1)) k nw) = false ↔ ∀ i, i < n' → Mk (k + 1) i = Mk k i := by
    intro k
    have := nCh_e (cd := cd) (X := nXT cd (tc_allv (nI nw.2.2.2.2.1)) k nw) hn
    have e : nXT cd (tc_allv (nI (nXT cd (tc_allv (nI nw.2.2.2.2.1)) k nw).2.2.2.2.1)) 1 (nXT cd (tc_allv (nI nw.2.2.2.2.1)) k nw) = nXT cd (tc_allv (nI nw.2.2.2.2.1)) (k + 1) nw := nXT_s
    rw [e] at this
    rw [hMk, hn']
    exact this
  obtain ⟨ch, hcc⟩ : ∃ ch : Nat → Bool, ch = fun i => nCh cd (tc_allv (nI nw.2.2.2.2.1)) (nXT cd (tc_allv (nI nw.2.2.2.2.1)) i nw) := ⟨_, rfl⟩
  have hch : ∀ k, ch k = false ↔ ∀ i, i < n' → Mk (k + 1) i = Mk k i := fun k => by rw [hcc]; exact hch k
  rw [← hcc] at h1 h2
  have hst := stl_f (ch := ch) (j := 99) (i := 0) (kk := 0) (by decide) (Nat.le_refl _) (fun t ht => absurd ht (Nat.not_lt_zero t))
  have hst : stl ch 99 0 0 = (fst1 (fun k => !(ch k) && (!(ch (k + 1)) && !(ch (k + 2)))) 97 0).map (fun k => k + 3) := hst
  have hp : ∀ k, k ≤ 96 → (alk t k (k + 1) n' 12 && (alk t k (k + 2) n' 12 && alk t k (k + 3) n' 12)) = (!(ch k) && (!(ch (k + 1)) && !(ch (k + 2)))) := by
    intro k hk
    rw [Bool.eq_iff_iff]
    simp only [Bool.and_eq_true, Bool.not_eq_true', lk k (k + 1) (by omega) (by omega), lk k (k + 2) (by omega) (by omega), lk k (k + 3) (by omega) (by omega), hch]
    constructor
    · rintro ⟨a, b, c⟩
      exact ⟨fun i hi => (a i hi).symm, fun i hi => (b i hi).symm.trans (a i hi), fun i hi => (c i hi).symm.trans (b i hi)⟩
    · rintro ⟨a, b, c⟩
      exact ⟨fun i hi => (a i hi).symm, fun i hi => ((b i hi).trans (a i hi)).symm, fun i hi => ((c i hi).trans ((b i hi).trans (a i hi))).symm⟩
  simp only [s_248_0, s_248_1, s_248_2, s_248_5, s_248_6, s_248_9, s_248_10, s_248_12, s_248_14, s_248_17, s_248_18, s_248_19, s_248_20, s_248_22, s_248_23, s_248_26, s_248_27, s_248_30, s_248_31, s_248_32, s_248_33, s_248_34, s_248_35, s_248_37, s_248_39, s_248_40, s_248_43, s_248_44, s_248_47, s_248_50, s_248_51, s_248_54, s_248_55, s_248_56, s_248_59, s_248_62, s_248_63, s_248_66, s_248_69, s_248_70, s_248_71, s_248_72, s_248_76, s_248_77, s_248_80, s_248_83, s_248_84, s_248_85, s_248_88, s_248_90, s_248_91, s_248_92, s_248_94, s_248_95, s_248_97, s_248_98, s_248_99, s_248_100, s_248_101, s_248_104, s_248_107, s_248_108, s_248_109, s_248_112, s_248_113, s_248_116, s_248_117, s_248_118, s_248_119, s_248_122, s_248_123, s_248_124, s_248_127, s_248_130, s_248_132, x_get_i, List.getElem?_cons_succ, List.getElem?_cons_zero, x_cv_j, cs_n, cs_i, cs_r, cs_l, Nat.reduceAdd, Nat.reduceLeDiff, true_and, Option.toList_some, Option.toList_none, List.cons_append, List.nil_append, if_true, if_false, nb0, nb1, x_setJ, x_setZ0, x_setZ1, x_setA, x_setO, List.length_cons, List.length_nil, Nat.reduceLT, List.set_cons_succ, List.set_cons_zero, wrl_0, wrl_1, wrl_2, wrl_3, wrl_4, wrl_5, wrl_p0, wrl_p1, wrl_p2, wrl_p3, wrl_p4, mh_o, mh_po, mcv, mg_0, mg_1, mg_2, mg_3, mg_4, mg_5, mg_6, mg_7, mg_8, mg_9, mg_10, mg_11, mg_12, mg_13, mg_14, mg_15, mg_16, mg_17, mg_18, mg_19, mg_20, mg_21, mg_22, mg_23, mg_24, mg_25, mg_26, mg_27, mg_28, mg_29, mg_30, mg_31, mg_32, mg_33, mg_34, mg_35, mg_36, mg_37, mg_38, mg_39, mg_40, mg_41, mg_42, mg_43, mg_44, mg_45, mg_46, ms_1, ms_4, ms_6, ms_7, ms_9, ms_10, ms_11, ms_12, ms_16, ms_20, ms_24, ms_28, ms_35, ms_39, ms_42, ms_43, ms_17t, ms_17f, ms_8, ms_14, mc_1, mp_1, mc_2, mp_2, mc_3, mp_3, mc_4, mp_4, mc_5, mp_5, mc_6, mp_6, mc_7, mp_7, mc_8, mp_8, mc_9, mp_9, mc_10, mp_10, mc_11, mp_11, mc_12, mp_12, mc_13, mp_13, mc_14, mp_14, mc_15, mp_15, mc_16, mp_16, mc_17, mp_17, mc_18, mp_18, mc_19, mp_19, mc_20, mp_20, mc_21, mp_21, mc_22, mp_22, mc_23, mp_23, mc_24, mp_24, mc_25, mp_25, mc_26, mp_26, mc_27, mp_27, mc_28, mp_28, mc_29, mp_29, iu, cup, Nat.reduceEqDiff]
  -- what is told
  have found : ∀ (k : Nat) (x2 x3 : Int32) (x4 : Value), k ≤ 96 → fst1 (fun k => !(ch k) && (!(ch (k + 1)) && !(ch (k + 2)))) 97 0 = some k → tm_X (g_G sa sc xt) (d + 270) 248 69 [.ref m, .int (nI k), .int x2, .int x3, x4] [] (mh h m I' rd' (m + 6) C') Q := by
    intro k x2 x3 x4 hk hf
    obtain ⟨-, -, hfp, -⟩ := fst1_some hf
    simp only [Bool.and_eq_true, Bool.not_eq_true', hch] at hfp
    have loop : ∀ (r i : Nat), i + r = n' → tm_X (g_G sa sc xt) (d + 270) 248 74 [.ref m, .int (nI k), .int x2, .int (tc_sum (Mk k) i), .int (nI i)] [] (mh h m I' rd' (m + 6) C') Q := by
      intro r
      induction r with
      | zero =>
        intro i hi
        have hi : i = n' := by omega
        rw [s_248_74]
        simp only [s_248_0, s_248_1, s_248_2, s_248_5, s_248_6, s_248_9, s_248_10, s_248_12, s_248_14, s_248_17, s_248_18, s_248_19, s_248_20, s_248_22, s_248_23, s_248_26, s_248_27, s_248_30, s_248_31, s_248_32, s_248_33, s_248_34, s_248_35, s_248_37, s_248_39, s_248_40, s_248_43, s_248_44, s_248_47, s_248_50, s_248_51, s_248_54, s_248_55, s_248_56, s_248_59, s_248_62, s_248_63, s_248_66, s_248_69, s_248_70, s_248_71, s_248_72, s_248_76, s_248_77, s_248_80, s_248_83, s_248_84, s_248_85, s_248_88, s_248_90, s_248_91, s_248_92, s_248_94, s_248_95, s_248_97, s_248_98, s_248_99, s_248_100, s_248_101, s_248_104, s_248_107, s_248_108, s_248_109, s_248_112, s_248_113, s_248_116, s_248_117, s_248_118, s_248_119, s_248_122, s_248_123, s_248_124, s_248_127, s_248_130, s_248_132, x_get_i, List.getElem?_cons_succ, List.getElem?_cons_zero, x_cv_j, cs_n, cs_i, cs_r, cs_l, Nat.reduceAdd, Nat.reduceLeDiff, true_and, Option.toList_some, Option.toList_none, List.cons_append, List.nil_append, if_true, if_false, nb0, nb1, x_setJ, x_setZ0, x_setZ1, x_setA, x_setO, List.length_cons, List.length_nil, Nat.reduceLT, List.set_cons_succ, List.set_cons_zero, wrl_0, wrl_1, wrl_2, wrl_3, wrl_4, wrl_5, wrl_p0, wrl_p1, wrl_p2, wrl_p3, wrl_p4, mh_o, mh_po, mcv, mg_0, mg_1, mg_2, mg_3, mg_4, mg_5, mg_6, mg_7, mg_8, mg_9, mg_10, mg_11, mg_12, mg_13, mg_14, mg_15, mg_16, mg_17, mg_18, mg_19, mg_20, mg_21, mg_22, mg_23, mg_24, mg_25, mg_26, mg_27, mg_28, mg_29, mg_30, mg_31, mg_32, mg_33, mg_34, mg_35, mg_36, mg_37, mg_38, mg_39, mg_40, mg_41, mg_42, mg_43, mg_44, mg_45, mg_46, ms_1, ms_4, ms_6, ms_7, ms_9, ms_10, ms_11, ms_12, ms_16, ms_20, ms_24, ms_28, ms_35, ms_39, ms_42, ms_43, ms_17t, ms_17f, ms_8, ms_14, mc_1, mp_1, mc_2, mp_2, mc_3, mp_3, mc_4, mp_4, mc_5, mp_5, mc_6, mp_6, mc_7, mp_7, mc_8, mp_8, mc_9, mp_9, mc_10, mp_10, mc_11, mp_11, mc_12, mp_12, mc_13, mp_13, mc_14, mp_14, mc_15, mp_15, mc_16, mp_16, mc_17, mp_17, mc_18, mp_18, mc_19, mp_19, mc_20, mp_20, mc_21, mp_21, mc_22, mp_22, mc_23, mp_23, mc_24, mp_24, mc_25, mp_25, mc_26, mp_26, mc_27, mp_27, mc_28, mp_28, mc_29, mp_29, iu, cup, Nat.reduceEqDiff, i1, hi, hn', Int32.le_refl]
        refine Iff.mpr (r_tell (k := 0) (R := R') (by decide) ?_ ?_ _) ?_
        · exact if_pos rfl
        · exact hR'
        simp only [s_248_0, s_248_1, s_248_2, s_248_5, s_248_6, s_248_9, s_248_10, s_248_12, s_248_14, s_248_17, s_248_18, s_248_19, s_248_20, s_248_22, s_248_23, s_248_26, s_248_27, s_248_30, s_248_31, s_248_32, s_248_33, s_248_34, s_248_35, s_248_37, s_248_39, s_248_40, s_248_43, s_248_44, s_248_47, s_248_50, s_248_51, s_248_54, s_248_55, s_248_56, s_248_59, s_248_62, s_248_63, s_248_66, s_248_69, s_248_70, s_248_71, s_248_72, s_248_76, s_248_77, s_248_80, s_248_83, s_248_84, s_248_85, s_248_88, s_248_90, s_248_91, s_248_92, s_248_94, s_248_95, s_248_97, s_248_98, s_248_99, s_248_100, s_248_101, s_248_104, s_248_107, s_248_108, s_248_109, s_248_112, s_248_113, s_248_116, s_248_117, s_248_118, s_248_119, s_248_122, s_248_123, s_248_124, s_248_127, s_248_130, s_248_132, x_get_i, List.getElem?_cons_succ, List.getElem?_cons_zero, x_cv_j, cs_n, cs_i, cs_r, cs_l, Nat.reduceAdd, Nat.reduceLeDiff, true_and, Option.toList_some, Option.toList_none, List.cons_append, List.nil_append, if_true, if_false, nb0, nb1, x_setJ, x_setZ0, x_setZ1, x_setA, x_setO, List.length_cons, List.length_nil, Nat.reduceLT, List.set_cons_succ, List.set_cons_zero, wrl_0, wrl_1, wrl_2, wrl_3, wrl_4, wrl_5, wrl_p0, wrl_p1, wrl_p2, wrl_p3, wrl_p4, mh_o, mh_po, mcv, mg_0, mg_1, mg_2, mg_3, mg_4, mg_5, mg_6, mg_7, mg_8, mg_9, mg_10, mg_11, mg_12, mg_13, mg_14, mg_15, mg_16, mg_17, mg_18, mg_19, mg_20, mg_21, mg_22, mg_23, mg_24, mg_25, mg_26, mg_27, mg_28, mg_29, mg_30, mg_31, mg_32, mg_33, mg_34, mg_35, mg_36, mg_37, mg_38, mg_39, mg_40, mg_41, mg_42, mg_43, mg_44, mg_45, mg_46, ms_1, ms_4, ms_6, ms_7, ms_9, ms_10, ms_11, ms_12, ms_16, ms_20, ms_24, ms_28, ms_35, ms_39, ms_42, ms_43, ms_17t, ms_17f, ms_8, ms_14, mc_1, mp_1, mc_2, mp_2, mc_3, mp_3, mc_4, mp_4, mc_5, mp_5, mc_6, mp_6, mc_7, mp_7, mc_8, mp_8, mc_9, mp_9, mc_10, mp_10, mc_11, mp_11, mc_12, mp_12, mc_13, mp_13, mc_14, mp_14, mc_15, mp_15, mc_16, mp_16, mc_17, mp_17, mc_18, mp_18, mc_19, mp_19, mc_20, mp_20, mc_21, mp_21, mc_22, mp_22, mc_23, mp_23, mc_24, mp_24, mc_25, mp_25, mc_26, mp_26, mc_27, mp_27, mc_28, mp_28, mc_29, mp_29, iu, cup, Nat.reduceEqDiff, iu_iu]
        rw [hf] at hst
        have h2 := fun I' rd' C' => h2 (k + 3) I' rd' C' hst
        rw [mo_sum hn, ← hn'] at h2
        have es : tc_sum (nXT cd (tc_allv (nI n')) (k + 3) nw).2.2.1 n' = tc_sum (Mk k) n' := by
          refine sum_cg (fun i hi => ?_)
          have e : (nXT cd (tc_allv (nI n')) (k + 3) nw).2.2.1 = Mk (k + 3) := by rw [hMk, hn']
          rw [e]
          exact (hfp.2.2 i hi).trans ((hfp.2.1 i hi).trans (hfp.1 i hi))
        rw [es, show nI (k + 3) - 3 = nI k by rw [show (3 : Int32) = nI 3 from rfl, nI_s (by omega), Nat.add_sub_cancel]] at h2
        rw [← hn']
        exact h2 _ _ _ (hM1.tell1 (KP.refl hM1.mx) rfl rfl)
      | succ r ih =>
        intro i hi
        have es : tc_sum (Mk k) (i + 1) = tc_sum (Mk k) i + Mk k i := rfl
        have ih := ih (i + 1) (by omega)
        rw [es] at ih
        have e1 : (38 : Int32) * nI k + 12 + nI i = nI (38 * k + (12 + i)) := by
          rw [show (38 : Int32) * nI k = nI (38 * k) from nI_mul (a := 38), show (12 : Int32) = nI 12 from rfl, nI_add, nI_add, Nat.add_assoc]
        rw [s_248_74]
        simp only [s_248_0, s_248_1, s_248_2, s_248_5, s_248_6, s_248_9, s_248_10, s_248_12, s_248_14, s_248_17, s_248_18, s_248_19, s_248_20, s_248_22, s_248_23, s_248_26, s_248_27, s_248_30, s_248_31, s_248_32, s_248_33, s_248_34, s_248_35, s_248_37, s_248_39, s_248_40, s_248_43, s_248_44, s_248_47, s_248_50, s_248_51, s_248_54, s_248_55, s_248_56, s_248_59, s_248_62, s_248_63, s_248_66, s_248_69, s_248_70, s_248_71, s_248_72, s_248_76, s_248_77, s_248_80, s_248_83, s_248_84, s_248_85, s_248_88, s_248_90, s_248_91, s_248_92, s_248_94, s_248_95, s_248_97, s_248_98, s_248_99, s_248_100, s_248_101, s_248_104, s_248_107, s_248_108, s_248_109, s_248_112, s_248_113, s_248_116, s_248_117, s_248_118, s_248_119, s_248_122, s_248_123, s_248_124, s_248_127, s_248_130, s_248_132, x_get_i, List.getElem?_cons_succ, List.getElem?_cons_zero, x_cv_j, cs_n, cs_i, cs_r, cs_l, Nat.reduceAdd, Nat.reduceLeDiff, true_and, Option.toList_some, Option.toList_none, List.cons_append, List.nil_append, if_true, if_false, nb0, nb1, x_setJ, x_setZ0, x_setZ1, x_setA, x_setO, List.length_cons, List.length_nil, Nat.reduceLT, List.set_cons_succ, List.set_cons_zero, wrl_0, wrl_1, wrl_2, wrl_3, wrl_4, wrl_5, wrl_p0, wrl_p1, wrl_p2, wrl_p3, wrl_p4, mh_o, mh_po, mcv, mg_0, mg_1, mg_2, mg_3, mg_4, mg_5, mg_6, mg_7, mg_8, mg_9, mg_10, mg_11, mg_12, mg_13, mg_14, mg_15, mg_16, mg_17, mg_18, mg_19, mg_20, mg_21, mg_22, mg_23, mg_24, mg_25, mg_26, mg_27, mg_28, mg_29, mg_30, mg_31, mg_32, mg_33, mg_34, mg_35, mg_36, mg_37, mg_38, mg_39, mg_40, mg_41, mg_42, mg_43, mg_44, mg_45, mg_46, ms_1, ms_4, ms_6, ms_7, ms_9, ms_10, ms_11, ms_12, ms_16, ms_20, ms_24, ms_28, ms_35, ms_39, ms_42, ms_43, ms_17t, ms_17f, ms_8, ms_14, mc_1, mp_1, mc_2, mp_2, mc_3, mp_3, mc_4, mp_4, mc_5, mp_5, mc_6, mp_6, mc_7, mp_7, mc_8, mp_8, mc_9, mp_9, mc_10, mp_10, mc_11, mp_11, mc_12, mp_12, mc_13, mp_13, mc_14, mp_14, mc_15, mp_15, mc_16, mp_16, mc_17, mp_17, mc_18, mp_18, mc_19, mp_19, mc_20, mp_20, mc_21, mp_21, mc_22, mp_22, mc_23, mp_23, mc_24, mp_24, mc_25, mp_25, mc_26, mp_26, mc_27, mp_27, mc_28, mp_28, mc_29, mp_29, iu, cup, Nat.reduceEqDiff, i1, ← hn', show ¬ nI n' ≤ nI i from nI_ge (by omega) (by omega), h17, e1, x_ild_n (show 38 * k + (12 + i) < 3800 by omega) n3800, tM k i (by omega) (by omega), nI_1]
        exact ih
    simp only [s_248_0, s_248_1, s_248_2, s_248_5, s_248_6, s_248_9, s_248_10, s_248_12, s_248_14, s_248_17, s_248_18, s_248_19, s_248_20, s_248_22, s_248_23, s_248_26, s_248_27, s_248_30, s_248_31, s_248_32, s_248_33, s_248_34, s_248_35, s_248_37, s_248_39, s_248_40, s_248_43, s_248_44, s_248_47, s_248_50, s_248_51, s_248_54, s_248_55, s_248_56, s_248_59, s_248_62, s_248_63, s_248_66, s_248_69, s_248_70, s_248_71, s_248_72, s_248_76, s_248_77, s_248_80, s_248_83, s_248_84, s_248_85, s_248_88, s_248_90, s_248_91, s_248_92, s_248_94, s_248_95, s_248_97, s_248_98, s_248_99, s_248_100, s_248_101, s_248_104, s_248_107, s_248_108, s_248_109, s_248_112, s_248_113, s_248_116, s_248_117, s_248_118, s_248_119, s_248_122, s_248_123, s_248_124, s_248_127, s_248_130, s_248_132, x_get_i, List.getElem?_cons_succ, List.getElem?_cons_zero, x_cv_j, cs_n, cs_i, cs_r, cs_l, Nat.reduceAdd, Nat.reduceLeDiff, true_and, Option.toList_some, Option.toList_none, List.cons_append, List.nil_append, if_true, if_false, nb0, nb1, x_setJ, x_setZ0, x_setZ1, x_setA, x_setO, List.length_cons, List.length_nil, Nat.reduceLT, List.set_cons_succ, List.set_cons_zero, wrl_0, wrl_1, wrl_2, wrl_3, wrl_4, wrl_5, wrl_p0, wrl_p1, wrl_p2, wrl_p3, wrl_p4, mh_o, mh_po, mcv, mg_0, mg_1, mg_2, mg_3, mg_4, mg_5, mg_6, mg_7, mg_8, mg_9, mg_10, mg_11, mg_12, mg_13, mg_14, mg_15, mg_16, mg_17, mg_18, mg_19, mg_20, mg_21, mg_22, mg_23, mg_24, mg_25, mg_26, mg_27, mg_28, mg_29, mg_30, mg_31, mg_32, mg_33, mg_34, mg_35, mg_36, mg_37, mg_38, mg_39, mg_40, mg_41, mg_42, mg_43, mg_44, mg_45, mg_46, ms_1, ms_4, ms_6, ms_7, ms_9, ms_10, ms_11, ms_12, ms_16, ms_20, ms_24, ms_28, ms_35, ms_39, ms_42, ms_43, ms_17t, ms_17f, ms_8, ms_14, mc_1, mp_1, mc_2, mp_2, mc_3, mp_3, mc_4, mp_4, mc_5, mp_5, mc_6, mp_6, mc_7, mp_7, mc_8, mp_8, mc_9, mp_9, mc_10, mp_10, mc_11, mp_11, mc_12, mp_12, mc_13, mp_13, mc_14, mp_14, mc_15, mp_15, mc_16, mp_16, mc_17, mp_17, mc_18, mp_18, mc_19, mp_19, mc_20, mp_20, mc_21, mp_21, mc_22, mp_22, mc_23, mp_23, mc_24, mp_24, mc_25, mp_25, mc_26, mp_26, mc_27, mp_27, mc_28, mp_28, mc_29, mp_29, iu, cup, Nat.reduceEqDiff]
    exact loop n' 0 (by omega)
  have outer : ∀ (j k : Nat) (x2 x3 x4 : Value), k + j = 97 → fst1 (fun k => !(ch k) && (!(ch (k + 1)) && !(ch (k + 2)))) j k = fst1 (fun k => !(ch k) && (!(ch (k + 1)) && !(ch (k + 2)))) 97 0 → tm_X (g_G sa sc xt) (d + 270) 248 11 [.ref m, .int (nI k), x2, x3, x4] [] (mh h m I' rd' (m + 6) C') Q := by
    intro j
    induction j with
    | zero =>
      intro k x2 x3 x4 hk ef
      have hk : k = 97 := by omega
      subst hk
      rw [s_248_11]
      simp only [s_248_0, s_248_1, s_248_2, s_248_5, s_248_6, s_248_9, s_248_10, s_248_12, s_248_14, s_248_17, s_248_18, s_248_19, s_248_20, s_248_22, s_248_23, s_248_26, s_248_27, s_248_30, s_248_31, s_248_32, s_248_33, s_248_34, s_248_35, s_248_37, s_248_39, s_248_40, s_248_43, s_248_44, s_248_47, s_248_50, s_248_51, s_248_54, s_248_55, s_248_56, s_248_59, s_248_62, s_248_63, s_248_66, s_248_69, s_248_70, s_248_71, s_248_72, s_248_76, s_248_77, s_248_80, s_248_83, s_248_84, s_248_85, s_248_88, s_248_90, s_248_91, s_248_92, s_248_94, s_248_95, s_248_97, s_248_98, s_248_99, s_248_100, s_248_101, s_248_104, s_248_107, s_248_108, s_248_109, s_248_112, s_248_113, s_248_116, s_248_117, s_248_118, s_248_119, s_248_122, s_248_123, s_248_124, s_248_127, s_248_130, s_248_132, x_get_i, List.getElem?_cons_succ, List.getElem?_cons_zero, x_cv_j, cs_n, cs_i, cs_r, cs_l, Nat.reduceAdd, Nat.reduceLeDiff, true_and, Option.toList_some, Option.toList_none, List.cons_append, List.nil_append, if_true, if_false, nb0, nb1, x_setJ, x_setZ0, x_setZ1, x_setA, x_setO, List.length_cons, List.length_nil, Nat.reduceLT, List.set_cons_succ, List.set_cons_zero, wrl_0, wrl_1, wrl_2, wrl_3, wrl_4, wrl_5, wrl_p0, wrl_p1, wrl_p2, wrl_p3, wrl_p4, mh_o, mh_po, mcv, mg_0, mg_1, mg_2, mg_3, mg_4, mg_5, mg_6, mg_7, mg_8, mg_9, mg_10, mg_11, mg_12, mg_13, mg_14, mg_15, mg_16, mg_17, mg_18, mg_19, mg_20, mg_21, mg_22, mg_23, mg_24, mg_25, mg_26, mg_27, mg_28, mg_29, mg_30, mg_31, mg_32, mg_33, mg_34, mg_35, mg_36, mg_37, mg_38, mg_39, mg_40, mg_41, mg_42, mg_43, mg_44, mg_45, mg_46, ms_1, ms_4, ms_6, ms_7, ms_9, ms_10, ms_11, ms_12, ms_16, ms_20, ms_24, ms_28, ms_35, ms_39, ms_42, ms_43, ms_17t, ms_17f, ms_8, ms_14, mc_1, mp_1, mc_2, mp_2, mc_3, mp_3, mc_4, mp_4, mc_5, mp_5, mc_6, mp_6, mc_7, mp_7, mc_8, mp_8, mc_9, mp_9, mc_10, mp_10, mc_11, mp_11, mc_12, mp_12, mc_13, mp_13, mc_14, mp_14, mc_15, mp_15, mc_16, mp_16, mc_17, mp_17, mc_18, mp_18, mc_19, mp_19, mc_20, mp_20, mc_21, mp_21, mc_22, mp_22, mc_23, mp_23, mc_24, mp_24, mc_25, mp_25, mc_26, mp_26, mc_27, mp_27, mc_28, mp_28, mc_29, mp_29, iu, cup, Nat.reduceEqDiff, show (96 : Int32) < nI 97 by decide]
      rw [← ef] at hst
      exact h1 hst _ _ _ hM1
    | succ j ih =>
      intro k x2 x3 x4 hk ef
      have hk96 : k ≤ 96 := by omega
      have ef : (if (!(ch k) && (!(ch (k + 1)) && !(ch (k + 2)))) = true then some k else fst1 (fun k => !(ch k) && (!(ch (k + 1)) && !(ch (k + 2)))) j (k + 1)) = fst1 (fun k => !(ch k) && (!(ch (k + 1)) && !(ch (k + 2)))) 97 0 := ef
      rw [← hp k hk96] at ef
      have al : ∀ q, q ≤ 99 → ∀ {Q}, tm_D (g_G sa sc xt) (d + 269) 247 [.ref m, .int (nI k), .int (nI q), .int 12, .int (12 + nI n')] (mh h m I' rd' (m + 6) C') Q ↔ Q (some (.int (bI (alk t k q n' 12)))) (mh h m I' rd' (m + 6) C') := by
        intro q hq Q
        have := r_areLike (sa := sa) (sc := sc) (xt := xt) (d := d + 269) (h := h) (m := m) (I := I') (rd := rd') (ru := m + 6) (Q := Q) (t := t) (j := k) (k := q) (a := 12) (e := 12 + n') h17 (by omega) hq (by omega) (by omega)
        rw [show 12 + n' - 12 = n' by omega] at this
        rw [e12]
        exact this
      have inner : ∀ (r q : Nat) (b : Bool) (x4 : Value), q + r = 4 → 1 ≤ q → tm_X (g_G sa sc xt) (d + 270) 248 62 [.ref m, .int (nI k), .int (bI (ib (fun q => alk t k (k + q) n' 12) r q b)), .int (nI 4), x4] [] (mh h m I' rd' (m + 6) C') Q → tm_X (g_G sa sc xt) (d + 270) 248 21 [.ref m, .int (nI k), .int (bI b), .int (nI q), x4] [] (mh h m I' rd' (m + 6) C') Q := by
        intro r
        induction r with
        | zero =>
          intro q b x4 hq h1 hx
          have hq : q = 4 := by omega
          subst hq
          rw [s_248_21]
          simp only [s_248_0, s_248_1, s_248_2, s_248_5, s_248_6, s_248_9, s_248_10, s_248_12, s_248_14, s_248_17, s_248_18, s_248_19, s_248_20, s_248_22, s_248_23, s_248_26, s_248_27, s_248_30, s_248_31, s_248_32, s_248_33, s_248_34, s_248_35, s_248_37, s_248_39, s_248_40, s_248_43, s_248_44, s_248_47, s_248_50, s_248_51, s_248_54, s_248_55, s_248_56, s_248_59, s_248_63, s_248_66, s_248_69, s_248_70, s_248_71, s_248_72, s_248_76, s_248_77, s_248_80, s_248_83, s_248_84, s_248_85, s_248_88, s_248_90, s_248_91, s_248_92, s_248_94, s_248_95, s_248_97, s_248_98, s_248_99, s_248_100, s_248_101, s_248_104, s_248_107, s_248_108, s_248_109, s_248_112, s_248_113, s_248_116, s_248_117, s_248_118, s_248_119, s_248_122, s_248_123, s_248_124, s_248_127, s_248_130, s_248_132, x_get_i, List.getElem?_cons_succ, List.getElem?_cons_zero, x_cv_j, cs_n, cs_i, cs_r, cs_l, Nat.reduceAdd, Nat.reduceLeDiff, true_and, Option.toList_some, Option.toList_none, List.cons_append, List.nil_append, if_true, if_false, nb0, nb1, x_setJ, x_setZ0, x_setZ1, x_setA, x_setO, List.length_cons, List.length_nil, Nat.reduceLT, List.set_cons_succ, List.set_cons_zero, wrl_0, wrl_1, wrl_2, wrl_3, wrl_4, wrl_5, wrl_p0, wrl_p1, wrl_p2, wrl_p3, wrl_p4, mh_o, mh_po, mcv, mg_0, mg_1, mg_2, mg_3, mg_4, mg_5, mg_6, mg_7, mg_8, mg_9, mg_10, mg_11, mg_12, mg_13, mg_14, mg_15, mg_16, mg_17, mg_18, mg_19, mg_20, mg_21, mg_22, mg_23, mg_24, mg_25, mg_26, mg_27, mg_28, mg_29, mg_30, mg_31, mg_32, mg_33, mg_34, mg_35, mg_36, mg_37, mg_38, mg_39, mg_40, mg_41, mg_42, mg_43, mg_44, mg_45, mg_46, ms_1, ms_4, ms_6, ms_7, ms_9, ms_10, ms_11, ms_12, ms_16, ms_20, ms_24, ms_28, ms_35, ms_39, ms_42, ms_43, ms_17t, ms_17f, ms_8, ms_14, mc_1, mp_1, mc_2, mp_2, mc_3, mp_3, mc_4, mp_4, mc_5, mp_5, mc_6, mp_6, mc_7, mp_7, mc_8, mp_8, mc_9, mp_9, mc_10, mp_10, mc_11, mp_11, mc_12, mp_12, mc_13, mp_13, mc_14, mp_14, mc_15, mp_15, mc_16, mp_16, mc_17, mp_17, mc_18, mp_18, mc_19, mp_19, mc_20, mp_20, mc_21, mp_21, mc_22, mp_22, mc_23, mp_23, mc_24, mp_24, mc_25, mp_25, mc_26, mp_26, mc_27, mp_27, mc_28, mp_28, mc_29, mp_29, iu, cup, Nat.reduceEqDiff, show (3 : Int32) < nI 4 by decide]
          exact hx
        | succ r ihr =>
          intro q b x4 hq h1 hx
          have hx : tm_X (g_G sa sc xt) (d + 270) 248 62 [.ref m, .int (nI k), .int (bI (ib (fun q => alk t k (k + q) n' 12) r (q + 1) (b && alk t k (k + q) n' 12))), .int (nI 4), x4] [] (mh h m I' rd' (m + 6) C') Q := hx
          have ihr := ihr (q + 1) (b && alk t k (k + q) n' 12) x4 (by omega) (by omega) hx
          rw [s_248_21]
          simp only [s_248_0, s_248_1, s_248_2, s_248_5, s_248_6, s_248_9, s_248_10, s_248_12, s_248_14, s_248_17, s_248_18, s_248_19, s_248_20, s_248_22, s_248_23, s_248_26, s_248_27, s_248_30, s_248_31, s_248_32, s_248_33, s_248_34, s_248_35, s_248_37, s_248_39, s_248_40, s_248_43, s_248_44, s_248_47, s_248_50, s_248_51, s_248_54, s_248_55, s_248_56, s_248_59, s_248_63, s_248_66, s_248_69, s_248_70, s_248_71, s_248_72, s_248_76, s_248_77, s_248_80, s_248_83, s_248_84, s_248_85, s_248_88, s_248_90, s_248_91, s_248_92, s_248_94, s_248_95, s_248_97, s_248_98, s_248_99, s_248_100, s_248_101, s_248_104, s_248_107, s_248_108, s_248_109, s_248_112, s_248_113, s_248_116, s_248_117, s_248_118, s_248_119, s_248_122, s_248_123, s_248_124, s_248_127, s_248_130, s_248_132, x_get_i, List.getElem?_cons_succ, List.getElem?_cons_zero, x_cv_j, cs_n, cs_i, cs_r, cs_l, Nat.reduceAdd, Nat.reduceLeDiff, true_and, Option.toList_some, Option.toList_none, List.cons_append, List.nil_append, if_true, if_false, nb0, nb1, x_setJ, x_setZ0, x_setZ1, x_setA, x_setO, List.length_cons, List.length_nil, Nat.reduceLT, List.set_cons_succ, List.set_cons_zero, wrl_0, wrl_1, wrl_2, wrl_3, wrl_4, wrl_5, wrl_p0, wrl_p1, wrl_p2, wrl_p3, wrl_p4, mh_o, mh_po, mcv, mg_0, mg_1, mg_2, mg_3, mg_4, mg_5, mg_6, mg_7, mg_8, mg_9, mg_10, mg_11, mg_12, mg_13, mg_14, mg_15, mg_16, mg_17, mg_18, mg_19, mg_20, mg_21, mg_22, mg_23, mg_24, mg_25, mg_26, mg_27, mg_28, mg_29, mg_30, mg_31, mg_32, mg_33, mg_34, mg_35, mg_36, mg_37, mg_38, mg_39, mg_40, mg_41, mg_42, mg_43, mg_44, mg_45, mg_46, ms_1, ms_4, ms_6, ms_7, ms_9, ms_10, ms_11, ms_12, ms_16, ms_20, ms_24, ms_28, ms_35, ms_39, ms_42, ms_43, ms_17t, ms_17f, ms_8, ms_14, mc_1, mp_1, mc_2, mp_2, mc_3, mp_3, mc_4, mp_4, mc_5, mp_5, mc_6, mp_6, mc_7, mp_7, mc_8, mp_8, mc_9, mp_9, mc_10, mp_10, mc_11, mp_11, mc_12, mp_12, mc_13, mp_13, mc_14, mp_14, mc_15, mp_15, mc_16, mp_16, mc_17, mp_17, mc_18, mp_18, mc_19, mp_19, mc_20, mp_20, mc_21, mp_21, mc_22, mp_22, mc_23, mp_23, mc_24, mp_24, mc_25, mp_25, mc_26, mp_26, mc_27, mp_27, mc_28, mp_28, mc_29, mp_29, iu, cup, Nat.reduceEqDiff, show ¬ (3 : Int32) < nI q from nI_nlt (a := 3) (by omega) (by decide), i1, nI_add]
          cases b with
          | false =>
            simp only [bI, if_true, if_false, Bool.false_eq_true, nI_1]
            exact ihr
          | true =>
            simp only [bI, if_true, show ¬ (1 : Int32) = 0 by decide, if_false]
            rw [← hn']
            refine Iff.mpr (al (k + q) (by omega)) ?_
            rw [Bool.true_and] at ihr
            cases hb : alk t k (k + q) n' 12 with
            | false =>
              rw [hb] at ihr
              simp only [s_248_0, s_248_1, s_248_2, s_248_5, s_248_6, s_248_9, s_248_10, s_248_12, s_248_14, s_248_17, s_248_18, s_248_19, s_248_20, s_248_22, s_248_23, s_248_26, s_248_27, s_248_30, s_248_31, s_248_32, s_248_33, s_248_34, s_248_35, s_248_37, s_248_39, s_248_40, s_248_43, s_248_44, s_248_47, s_248_50, s_248_51, s_248_54, s_248_55, s_248_56, s_248_59, s_248_63, s_248_66, s_248_69, s_248_70, s_248_71, s_248_72, s_248_76, s_248_77, s_248_80, s_248_83, s_248_84, s_248_85, s_248_88, s_248_90, s_248_91, s_248_92, s_248_94, s_248_95, s_248_97, s_248_98, s_248_99, s_248_100, s_248_101, s_248_104, s_248_107, s_248_108, s_248_109, s_248_112, s_248_113, s_248_116, s_248_117, s_248_118, s_248_119, s_248_122, s_248_123, s_248_124, s_248_127, s_248_130, s_248_132, x_get_i, List.getElem?_cons_succ, List.getElem?_cons_zero, x_cv_j, cs_n, cs_i, cs_r, cs_l, Nat.reduceAdd, Nat.reduceLeDiff, true_and, Option.toList_some, Option.toList_none, List.cons_append, List.nil_append, if_true, if_false, nb0, nb1, x_setJ, x_setZ0, x_setZ1, x_setA, x_setO, List.length_cons, List.length_nil, Nat.reduceLT, List.set_cons_succ, List.set_cons_zero, wrl_0, wrl_1, wrl_2, wrl_3, wrl_4, wrl_5, wrl_p0, wrl_p1, wrl_p2, wrl_p3, wrl_p4, mh_o, mh_po, mcv, mg_0, mg_1, mg_2, mg_3, mg_4, mg_5, mg_6, mg_7, mg_8, mg_9, mg_10, mg_11, mg_12, mg_13, mg_14, mg_15, mg_16, mg_17, mg_18, mg_19, mg_20, mg_21, mg_22, mg_23, mg_24, mg_25, mg_26, mg_27, mg_28, mg_29, mg_30, mg_31, mg_32, mg_33, mg_34, mg_35, mg_36, mg_37, mg_38, mg_39, mg_40, mg_41, mg_42, mg_43, mg_44, mg_45, mg_46, ms_1, ms_4, ms_6, ms_7, ms_9, ms_10, ms_11, ms_12, ms_16, ms_20, ms_24, ms_28, ms_35, ms_39, ms_42, ms_43, ms_17t, ms_17f, ms_8, ms_14, mc_1, mp_1, mc_2, mp_2, mc_3, mp_3, mc_4, mp_4, mc_5, mp_5, mc_6, mp_6, mc_7, mp_7, mc_8, mp_8, mc_9, mp_9, mc_10, mp_10, mc_11, mp_11, mc_12, mp_12, mc_13, mp_13, mc_14, mp_14, mc_15, mp_15, mc_16, mp_16, mc_17, mp_17, mc_18, mp_18, mc_19, mp_19, mc_20, mp_20, mc_21, mp_21, mc_22, mp_22, mc_23, mp_23, mc_24, mp_24, mc_25, mp_25, mc_26, mp_26, mc_27, mp_27, mc_28, mp_28, mc_29, mp_29, iu, cup, Nat.reduceEqDiff, bI, if_true, if_false, Bool.false_eq_true, nI_1]
              exact ihr
            | true =>
              rw [hb] at ihr
              simp only [s_248_0, s_248_1, s_248_2, s_248_5, s_248_6, s_248_9, s_248_10, s_248_12, s_248_14, s_248_17, s_248_18, s_248_19, s_248_20, s_248_22, s_248_23, s_248_26, s_248_27, s_248_30, s_248_31, s_248_32, s_248_33, s_248_34, s_248_35, s_248_37, s_248_39, s_248_40, s_248_43, s_248_44, s_248_47, s_248_50, s_248_51, s_248_54, s_248_55, s_248_56, s_248_59, s_248_63, s_248_66, s_248_69, s_248_70, s_248_71, s_248_72, s_248_76, s_248_77, s_248_80, s_248_83, s_248_84, s_248_85, s_248_88, s_248_90, s_248_91, s_248_92, s_248_94, s_248_95, s_248_97, s_248_98, s_248_99, s_248_100, s_248_101, s_248_104, s_248_107, s_248_108, s_248_109, s_248_112, s_248_113, s_248_116, s_248_117, s_248_118, s_248_119, s_248_122, s_248_123, s_248_124, s_248_127, s_248_130, s_248_132, x_get_i, List.getElem?_cons_succ, List.getElem?_cons_zero, x_cv_j, cs_n, cs_i, cs_r, cs_l, Nat.reduceAdd, Nat.reduceLeDiff, true_and, Option.toList_some, Option.toList_none, List.cons_append, List.nil_append, if_true, if_false, nb0, nb1, x_setJ, x_setZ0, x_setZ1, x_setA, x_setO, List.length_cons, List.length_nil, Nat.reduceLT, List.set_cons_succ, List.set_cons_zero, wrl_0, wrl_1, wrl_2, wrl_3, wrl_4, wrl_5, wrl_p0, wrl_p1, wrl_p2, wrl_p3, wrl_p4, mh_o, mh_po, mcv, mg_0, mg_1, mg_2, mg_3, mg_4, mg_5, mg_6, mg_7, mg_8, mg_9, mg_10, mg_11, mg_12, mg_13, mg_14, mg_15, mg_16, mg_17, mg_18, mg_19, mg_20, mg_21, mg_22, mg_23, mg_24, mg_25, mg_26, mg_27, mg_28, mg_29, mg_30, mg_31, mg_32, mg_33, mg_34, mg_35, mg_36, mg_37, mg_38, mg_39, mg_40, mg_41, mg_42, mg_43, mg_44, mg_45, mg_46, ms_1, ms_4, ms_6, ms_7, ms_9, ms_10, ms_11, ms_12, ms_16, ms_20, ms_24, ms_28, ms_35, ms_39, ms_42, ms_43, ms_17t, ms_17f, ms_8, ms_14, mc_1, mp_1, mc_2, mp_2, mc_3, mp_3, mc_4, mp_4, mc_5, mp_5, mc_6, mp_6, mc_7, mp_7, mc_8, mp_8, mc_9, mp_9, mc_10, mp_10, mc_11, mp_11, mc_12, mp_12, mc_13, mp_13, mc_14, mp_14, mc_15, mp_15, mc_16, mp_16, mc_17, mp_17, mc_18, mp_18, mc_19, mp_19, mc_20, mp_20, mc_21, mp_21, mc_22, mp_22, mc_23, mp_23, mc_24, mp_24, mc_25, mp_25, mc_26, mp_26, mc_27, mp_27, mc_28, mp_28, mc_29, mp_29, iu, cup, Nat.reduceEqDiff, bI, if_true, show ¬ (1 : Int32) = 0 by decide, if_false, nI_1]
              exact ihr
      have eib : ib (fun q => alk t k (k + q) n' 12) 3 1 true = (alk t k (k + 1) n' 12 && (alk t k (k + 2) n' 12 && alk t k (k + 3) n' 12)) := by
        show (((true && alk t k (k + 1) n' 12) && alk t k (k + 2) n' 12) && alk t k (k + 3) n' 12) = _
        rw [Bool.true_and, Bool.and_assoc]
      rw [s_248_11]
      simp only [s_248_0, s_248_1, s_248_2, s_248_5, s_248_6, s_248_9, s_248_10, s_248_12, s_248_14, s_248_17, s_248_18, s_248_19, s_248_20, s_248_22, s_248_23, s_248_26, s_248_27, s_248_30, s_248_31, s_248_32, s_248_33, s_248_34, s_248_35, s_248_37, s_248_39, s_248_40, s_248_43, s_248_44, s_248_47, s_248_50, s_248_51, s_248_54, s_248_55, s_248_56, s_248_59, s_248_63, s_248_66, s_248_69, s_248_70, s_248_71, s_248_72, s_248_76, s_248_77, s_248_80, s_248_83, s_248_84, s_248_85, s_248_88, s_248_90, s_248_91, s_248_92, s_248_94, s_248_95, s_248_97, s_248_98, s_248_99, s_248_100, s_248_101, s_248_104, s_248_107, s_248_108, s_248_109, s_248_112, s_248_113, s_248_116, s_248_117, s_248_118, s_248_119, s_248_122, s_248_123, s_248_124, s_248_127, s_248_130, s_248_132, x_get_i, List.getElem?_cons_succ, List.getElem?_cons_zero, x_cv_j, cs_n, cs_i, cs_r, cs_l, Nat.reduceAdd, Nat.reduceLeDiff, true_and, Option.toList_some, Option.toList_none, List.cons_append, List.nil_append, if_true, if_false, nb0, nb1, x_setJ, x_setZ0, x_setZ1, x_setA, x_setO, List.length_cons, List.length_nil, Nat.reduceLT, List.set_cons_succ, List.set_cons_zero, wrl_0, wrl_1, wrl_2, wrl_3, wrl_4, wrl_5, wrl_p0, wrl_p1, wrl_p2, wrl_p3, wrl_p4, mh_o, mh_po, mcv, mg_0, mg_1, mg_2, mg_3, mg_4, mg_5, mg_6, mg_7, mg_8, mg_9, mg_10, mg_11, mg_12, mg_13, mg_14, mg_15, mg_16, mg_17, mg_18, mg_19, mg_20, mg_21, mg_22, mg_23, mg_24, mg_25, mg_26, mg_27, mg_28, mg_29, mg_30, mg_31, mg_32, mg_33, mg_34, mg_35, mg_36, mg_37, mg_38, mg_39, mg_40, mg_41, mg_42, mg_43, mg_44, mg_45, mg_46, ms_1, ms_4, ms_6, ms_7, ms_9, ms_10, ms_11, ms_12, ms_16, ms_20, ms_24, ms_28, ms_35, ms_39, ms_42, ms_43, ms_17t, ms_17f, ms_8, ms_14, mc_1, mp_1, mc_2, mp_2, mc_3, mp_3, mc_4, mp_4, mc_5, mp_5, mc_6, mp_6, mc_7, mp_7, mc_8, mp_8, mc_9, mp_9, mc_10, mp_10, mc_11, mp_11, mc_12, mp_12, mc_13, mp_13, mc_14, mp_14, mc_15, mp_15, mc_16, mp_16, mc_17, mp_17, mc_18, mp_18, mc_19, mp_19, mc_20, mp_20, mc_21, mp_21, mc_22, mp_22, mc_23, mp_23, mc_24, mp_24, mc_25, mp_25, mc_26, mp_26, mc_27, mp_27, mc_28, mp_28, mc_29, mp_29, iu, cup, Nat.reduceEqDiff, show ¬ (96 : Int32) < nI k from nI_nlt (a := 96) (by omega) (by decide)]
      refine inner 3 1 true _ (by decide) (by decide) ?_
      rw [eib]
      cases hb : (alk t k (k + 1) n' 12 && (alk t k (k + 2) n' 12 && alk t k (k + 3) n' 12)) with
      | false =>
        rw [hb, if_neg (by decide)] at ef
        simp only [s_248_0, s_248_1, s_248_2, s_248_5, s_248_6, s_248_9, s_248_10, s_248_12, s_248_14, s_248_17, s_248_18, s_248_19, s_248_20, s_248_22, s_248_23, s_248_26, s_248_27, s_248_30, s_248_31, s_248_32, s_248_33, s_248_34, s_248_35, s_248_37, s_248_39, s_248_40, s_248_43, s_248_44, s_248_47, s_248_50, s_248_51, s_248_54, s_248_55, s_248_56, s_248_59, s_248_62, s_248_63, s_248_66, s_248_70, s_248_71, s_248_72, s_248_76, s_248_77, s_248_80, s_248_83, s_248_84, s_248_85, s_248_88, s_248_90, s_248_91, s_248_92, s_248_94, s_248_95, s_248_97, s_248_98, s_248_99, s_248_100, s_248_101, s_248_104, s_248_107, s_248_108, s_248_109, s_248_112, s_248_113, s_248_116, s_248_117, s_248_118, s_248_119, s_248_122, s_248_123, s_248_124, s_248_127, s_248_130, s_248_132, x_get_i, List.getElem?_cons_succ, List.getElem?_cons_zero, x_cv_j, cs_n, cs_i, cs_r, cs_l, Nat.reduceAdd, Nat.reduceLeDiff, true_and, Option.toList_some, Option.toList_none, List.cons_append, List.nil_append, if_true, if_false, nb0, nb1, x_setJ, x_setZ0, x_setZ1, x_setA, x_setO, List.length_cons, List.length_nil, Nat.reduceLT, List.set_cons_succ, List.set_cons_zero, wrl_0, wrl_1, wrl_2, wrl_3, wrl_4, wrl_5, wrl_p0, wrl_p1, wrl_p2, wrl_p3, wrl_p4, mh_o, mh_po, mcv, mg_0, mg_1, mg_2, mg_3, mg_4, mg_5, mg_6, mg_7, mg_8, mg_9, mg_10, mg_11, mg_12, mg_13, mg_14, mg_15, mg_16, mg_17, mg_18, mg_19, mg_20, mg_21, mg_22, mg_23, mg_24, mg_25, mg_26, mg_27, mg_28, mg_29, mg_30, mg_31, mg_32, mg_33, mg_34, mg_35, mg_36, mg_37, mg_38, mg_39, mg_40, mg_41, mg_42, mg_43, mg_44, mg_45, mg_46, ms_1, ms_4, ms_6, ms_7, ms_9, ms_10, ms_11, ms_12, ms_16, ms_20, ms_24, ms_28, ms_35, ms_39, ms_42, ms_43, ms_17t, ms_17f, ms_8, ms_14, mc_1, mp_1, mc_2, mp_2, mc_3, mp_3, mc_4, mp_4, mc_5, mp_5, mc_6, mp_6, mc_7, mp_7, mc_8, mp_8, mc_9, mp_9, mc_10, mp_10, mc_11, mp_11, mc_12, mp_12, mc_13, mp_13, mc_14, mp_14, mc_15, mp_15, mc_16, mp_16, mc_17, mp_17, mc_18, mp_18, mc_19, mp_19, mc_20, mp_20, mc_21, mp_21, mc_22, mp_22, mc_23, mp_23, mc_24, mp_24, mc_25, mp_25, mc_26, mp_26, mc_27, mp_27, mc_28, mp_28, mc_29, mp_29, iu, cup, Nat.reduceEqDiff, bI, if_true, if_false, Bool.false_eq_true, nI_1]
        exact ih (k + 1) _ _ _ (by omega) ef
      | true =>
        rw [hb, if_pos rfl] at ef
        simp only [s_248_0, s_248_1, s_248_2, s_248_5, s_248_6, s_248_9, s_248_10, s_248_12, s_248_14, s_248_17, s_248_18, s_248_19, s_248_20, s_248_22, s_248_23, s_248_26, s_248_27, s_248_30, s_248_31, s_248_32, s_248_33, s_248_34, s_248_35, s_248_37, s_248_39, s_248_40, s_248_43, s_248_44, s_248_47, s_248_50, s_248_51, s_248_54, s_248_55, s_248_56, s_248_59, s_248_62, s_248_63, s_248_66, s_248_70, s_248_71, s_248_72, s_248_76, s_248_77, s_248_80, s_248_83, s_248_84, s_248_85, s_248_88, s_248_90, s_248_91, s_248_92, s_248_94, s_248_95, s_248_97, s_248_98, s_248_99, s_248_100, s_248_101, s_248_104, s_248_107, s_248_108, s_248_109, s_248_112, s_248_113, s_248_116, s_248_117, s_248_118, s_248_119, s_248_122, s_248_123, s_248_124, s_248_127, s_248_130, s_248_132, x_get_i, List.getElem?_cons_succ, List.getElem?_cons_zero, x_cv_j, cs_n, cs_i, cs_r, cs_l, Nat.reduceAdd, Nat.reduceLeDiff, true_and, Option.toList_some, Option.toList_none, List.cons_append, List.nil_append, if_true, if_false, nb0, nb1, x_setJ, x_setZ0, x_setZ1, x_setA, x_setO, List.length_cons, List.length_nil, Nat.reduceLT, List.set_cons_succ, List.set_cons_zero, wrl_0, wrl_1, wrl_2, wrl_3, wrl_4, wrl_5, wrl_p0, wrl_p1, wrl_p2, wrl_p3, wrl_p4, mh_o, mh_po, mcv, mg_0, mg_1, mg_2, mg_3, mg_4, mg_5, mg_6, mg_7, mg_8, mg_9, mg_10, mg_11, mg_12, mg_13, mg_14, mg_15, mg_16, mg_17, mg_18, mg_19, mg_20, mg_21, mg_22, mg_23, mg_24, mg_25, mg_26, mg_27, mg_28, mg_29, mg_30, mg_31, mg_32, mg_33, mg_34, mg_35, mg_36, mg_37, mg_38, mg_39, mg_40, mg_41, mg_42, mg_43, mg_44, mg_45, mg_46, ms_1, ms_4, ms_6, ms_7, ms_9, ms_10, ms_11, ms_12, ms_16, ms_20, ms_24, ms_28, ms_35, ms_39, ms_42, ms_43, ms_17t, ms_17f, ms_8, ms_14, mc_1, mp_1, mc_2, mp_2, mc_3, mp_3, mc_4, mp_4, mc_5, mp_5, mc_6, mp_6, mc_7, mp_7, mc_8, mp_8, mc_9, mp_9, mc_10, mp_10, mc_11, mp_11, mc_12, mp_12, mc_13, mp_13, mc_14, mp_14, mc_15, mp_15, mc_16, mp_16, mc_17, mp_17, mc_18, mp_18, mc_19, mp_19, mc_20, mp_20, mc_21, mp_21, mc_22, mp_22, mc_23, mp_23, mc_24, mp_24, mc_25, mp_25, mc_26, mp_26, mc_27, mp_27, mc_28, mp_28, mc_29, mp_29, iu, cup, Nat.reduceEqDiff, bI, if_true, show ¬ (1 : Int32) = 0 by decide, if_false]
        exact found k _ _ _ hk96 ef.symm
  exact outer 97 0 _ _ _ (by decide) rfl
end
