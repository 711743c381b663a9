/-! the reference's calls: round -/
/-- moods in one number -/
def pv (y : Nat → Nat) : Nat → Nat
  | 0 => 0
  | k + 1 => 32 * pv y k + y k
theorem pv_lt {y : Nat → Nat} : ∀ {k : Nat}, (∀ i, i < k → y i < 32) → pv y k < 32 ^ k
  | 0, _ => Nat.lt_succ_self 0
  | k + 1, h => by
    have := pv_lt (y := y) (k := k) (fun i hi => h i (by omega))
    have := h k (by omega)
    show 32 * pv y k + y k < 32 ^ (k + 1)
    rw [Nat.pow_succ]
    omega
theorem pv_inj {y z : Nat → Nat} : ∀ {k : Nat}, (∀ i, i < k → y i < 32) → (∀ i, i < k → z i < 32) → (pv y k = pv z k ↔ ∀ i, i < k → y i = z i)
  | 0, _, _ => ⟨fun _ i hi => absurd hi (Nat.not_lt_zero i), fun _ => rfl⟩
  | k + 1, hy, hz => by
    have ih := pv_inj (y := y) (z := z) (k := k) (fun i hi => hy i (by omega)) (fun i hi => hz i (by omega))
    have h1 := hy k (by omega)
    have h2 := hz k (by omega)
    show 32 * pv y k + y k = 32 * pv z k + z k ↔ _
    constructor
    · intro h i hi
      have e1 : pv y k = pv z k := by omega
      by_cases e : i = k
      · subst e; omega
      · exact ih.mp e1 i (by omega)
    · intro h
      rw [ih.mpr (fun i hi => h i (by omega)), h k (by omega)]
theorem shl5 {a b : Nat} (ha : a < 2 ^ 58) (hb : b < 32) : ((Int64.ofNat a) <<< ((5 : Int32).toInt64 &&& 63)) ||| (Int64.ofNat b) = Int64.ofNat (32 * a + b) := by
  apply Int64.toBitVec_inj.mp
  apply BitVec.eq_of_toNat_eq
  rw [Int64.toBitVec_or, BitVec.toNat_or, Int64.toBitVec_shiftLeft]
  have e5 : ((5 : Int32).toInt64 &&& 63).toBitVec.smod 64 = BitVec.ofNat 64 5 := by decide +kernel
  rw [e5, BitVec.shiftLeft_eq', BitVec.toNat_shiftLeft]
  have t : ∀ x, x < 2 ^ 64 → (Int64.ofNat x).toBitVec.toNat = x := fun x hx => by
    show (BitVec.ofNat 64 x).toNat = x
    rw [BitVec.toNat_ofNat]
    exact Nat.mod_eq_of_lt hx
  rw [t a (by omega), t b (by omega), t _ (by omega)]
  have e6 : (BitVec.ofNat 64 5).toNat = 5 := rfl
  rw [e6, Nat.mod_eq_of_lt (by rw [Nat.shiftLeft_eq]; omega), ← Nat.shiftLeft_add_eq_or_of_lt (by omega), Nat.shiftLeft_eq]
  omega
theorem tc_pk_v {M : Nat → Int32} {y : Nat → Nat} : ∀ {k : Nat}, k ≤ 11 + 1 → (∀ i, i < k → y i < 19 ∧ M i = nI (y i) - 9) → tc_pk M k = Int64.ofNat (pv y k)
  | 0, _, _ => rfl
  | k + 1, hk, h => by
    have ih := tc_pk_v (M := M) (y := y) (k := k) (by omega) (fun i hi => h i (by omega))
    obtain ⟨h1, h2⟩ := h k (by omega)
    have es : tc_pk M (k + 1) = ((tc_pk M k) <<< ((5 : Int32).toInt64 &&& 63)) ||| (M k + 9).toInt64 := rfl
    have e1 : (M k + 9).toInt64 = Int64.ofNat (y k) := by
      rw [h2]
      have : ∀ y : Fin 19, (nI y.1 - 9 + 9).toInt64 = Int64.ofNat y.1 := by decide +kernel
      exact this ⟨y k, h1⟩
    have hlt := pv_lt (y := y) (k := k) (fun i hi => by have := (h i (by omega)).1; omega)
    have hp : 32 ^ k ≤ 32 ^ 11 := Nat.pow_le_pow_right (by decide) (by omega)
    rw [es, ih, e1, shl5 (by have : (32 : Nat) ^ 11 = 2 ^ 55 := by decide
                             omega) (by omega)]
    rfl
theorem ofNat64_inj {a b : Nat} (ha : a < 2 ^ 63) (hb : b < 2 ^ 63) : Int64.ofNat a = Int64.ofNat b ↔ a = b := by
  constructor
  · intro h
    have h := congrArg (fun x => x.toBitVec.toNat) h
    have t : ∀ x, x < 2 ^ 64 → (Int64.ofNat x).toBitVec.toNat = x := fun x hx => by
      show (BitVec.ofNat 64 x).toNat = x
      rw [BitVec.toNat_ofNat]
      exact Nat.mod_eq_of_lt hx
    rwa [t a (by omega), t b (by omega)] at h
  · intro h; rw [h]
/-- like packs, like moods -/
theorem pk_inj {M M' : Nat → Int32} {n : Nat} (hn : n ≤ 12) (h1 : ∀ i, i < n → ∃ y, y < 19 ∧ M i = nI y - 9) (h2 : ∀ i, i < n → ∃ y, y < 19 ∧ M' i = nI y - 9) : tc_pk M n = tc_pk M' n ↔ ∀ i, i < n → M i = M' i := by
  obtain ⟨y, hy⟩ : ∃ y : Nat → Nat, ∀ i, i < n → y i < 19 ∧ M i = nI (y i) - 9 := ⟨fun i => if h : i < n then Classical.choose (h1 i h) else 0, fun i hi => by
    dsimp only
    rw [dif_pos hi]
    exact Classical.choose_spec (h1 i hi)⟩
  obtain ⟨z, hz⟩ : ∃ z : Nat → Nat, ∀ i, i < n → z i < 19 ∧ M' i = nI (z i) - 9 := ⟨fun i => if h : i < n then Classical.choose (h2 i h) else 0, fun i hi => by
    dsimp only
    rw [dif_pos hi]
    exact Classical.choose_spec (h2 i hi)⟩
  have l1 := pv_lt (y := y) (k := n) (fun i hi => by have := (hy i hi).1; omega)
  have l2 := pv_lt (y := z) (k := n) (fun i hi => by have := (hz i hi).1; omega)
  have hp : 32 ^ n ≤ 32 ^ 12 := Nat.pow_le_pow_right (by decide) (by omega)
  have hp2 : (32 : Nat) ^ 12 = 2 ^ 60 := by decide
  rw [tc_pk_v hn hy, tc_pk_v hn hz, ofNat64_inj (by omega) (by omega), pv_inj (fun i hi => by have := (hy i hi).1; omega) (fun i hi => by have := (hz i hi).1; omega)]
  have hinj : ∀ a b : Fin 19, nI a.1 - 9 = nI b.1 - 9 → a.1 = b.1 := by decide +kernel
  constructor
  · intro h i hi
    rw [(hy i hi).2, (hz i hi).2, h i hi]
  · intro h i hi
    have := h i hi
    rw [(hy i hi).2, (hz i hi).2] at this
    exact hinj ⟨y i, (hy i hi).1⟩ ⟨z i, (hz i hi).1⟩ this
theorem rin_some {pk : Nat → Int64} {e i : Nat} : ∀ {j k f : Nat}, rin pk e i j k = some f → ∃ q, k ≤ q ∧ 7 * q + e ≤ i ∧ f = i - 7 * q ∧ pk f = pk i
  | 0, k, f, h => by cases h
  | j + 1, k, f, h => by
    have h : (if i < 7 * k + e then none else if pk (i - 7 * k) = pk i then some (i - 7 * k) else rin pk e i j (k + 1)) = some f := h
    by_cases c1 : i < 7 * k + e
    · rw [if_pos c1] at h; cases h
    · rw [if_neg c1] at h
      by_cases c2 : pk (i - 7 * k) = pk i
      · rw [if_pos c2] at h
        cases h
        exact ⟨k, Nat.le_refl _, by omega, rfl, c2⟩
      · rw [if_neg c2] at h
        obtain ⟨q, q1, q2⟩ := rin_some h
        exact ⟨q, by omega, q2⟩
theorem rin_none {pk : Nat → Int64} {e i : Nat} : ∀ {j k : Nat}, rin pk e i j k = none → ∀ q, k ≤ q → q < k + j → 7 * q + e ≤ i → ¬ pk (i - 7 * q) = pk i
  | 0, k, _ => fun q h1 h2 => by omega
  | j + 1, k, h => by
    have h : (if i < 7 * k + e then none else if pk (i - 7 * k) = pk i then some (i - 7 * k) else rin pk e i j (k + 1)) = none := h
    intro q h1 h2 h3
    by_cases c1 : i < 7 * k + e
    · omega
    · rw [if_neg c1] at h
      by_cases c2 : pk (i - 7 * k) = pk i
      · rw [if_pos c2] at h; cases h
      · rw [if_neg c2] at h
        by_cases e : q = k
        · subst e; exact c2
        · exact rin_none h q (by omega) (by omega) h3
/-- nights on end that are alike: the first, and for it the first before -/
def rrn (p : Nat → Nat → Bool) : Nat → Nat → Option (Nat × Nat)
  | 0, _ => none
  | j + 1, k => match fst1 (fun q => p q k) k 0 with
    | some f => some (k, f)
    | none => rrn p j (k + 1)
theorem rnd_e {pk : Nat → Int64} {e : Nat} {p : Nat → Nat → Bool} (he : e ≤ 1) (hp : ∀ j k, j < k → k ≤ 99 → (p j k = true ↔ (k - j) % 7 = 0 ∧ e ≤ j ∧ pk j = pk k)) : ∀ {j i : Nat}, i + j = 100 → 1 ≤ i → (∀ k f, k < i → f < k → p f k = false) → rnd pk e j i = rrn p j i
  | 0, i, _, _, _ => rfl
  | j + 1, i, hi, h1, hno => by
    have es : rnd pk e (j + 1) i = match rin pk e i 16 1 with
      | some f => some (i, f)
      | none => rnd pk e j (i + 1) := rfl
    have er : rrn p (j + 1) i = match fst1 (fun q => p q i) i 0 with
      | some f => some (i, f)
      | none => rrn p j (i + 1) := rfl
    cases hr : rin pk e i 16 1 with
    | some f =>
      obtain ⟨q, q1, q2, q3, q4⟩ := rin_some hr
      have hpf : p f i = true := (hp f i (by omega) (by omega)).mpr ⟨by omega, by omega, q4⟩
      cases hf : fst1 (fun q => p q i) i 0 with
      | none =>
        have := fst1_no hf f (Nat.zero_le _) (by omega)
        rw [hpf] at this
        cases this
      | some g =>
        obtain ⟨g1, g2, g3, g4⟩ := fst1_some hf
        have hgf : g = f := by
          by_cases c : g = f
          · exact c
          · exfalso
            have hlt : g < f := by
              rcases Nat.lt_or_ge f g with z | z
              · have := g4 f (Nat.zero_le _) z
                rw [hpf] at this
                cases this
              · omega
            obtain ⟨z1, z2, z3⟩ := (hp g i (by omega) (by omega)).mp g3
            have : p g f = true := (hp g f hlt (by omega)).mpr ⟨by omega, z2, z3.trans q4.symm⟩
            rw [hno f g (by omega) hlt] at this
            cases this
        rw [es, er, hr, hf, hgf]
    | none =>
      have hno2 : ∀ f, f < i → p f i = false := by
        intro f hf
        cases hq : p f i with
        | false => rfl
        | true =>
          exfalso
          obtain ⟨z1, z2, z3⟩ := (hp f i hf (by omega)).mp hq
          have := rin_none hr ((i - f) / 7) (by omega) (by omega) (by omega)
          rw [show i - 7 * ((i - f) / 7) = f by omega] at this
          exact this z3
      have hf : fst1 (fun q => p q i) i 0 = none := fst1_none (fun q _ h2 => hno2 q (by omega))
      rw [es, er, hr, hf]
      refine rnd_e he hp (by omega) (by omega) (fun k f hk hfk => ?_)
      by_cases c : k = i
      · subst c; exact hno2 f hfk
      · exact hno k f (by omega) hfk
theorem nXT_0 {cd : List Int32} {mem : Int32} {X : TN} : nXT cd mem 0 X = X := rfl
theorem nXT_B {cd : List Int32} {mem : Int32} {X : TN} (hn : X.2.2.2.2.1 ≤ 12) : ∀ k, (nXT cd mem (k + 1) X).2.2.2.2.2.1 = 0 ∧ (nXT cd mem (k + 1) X).2.2.2.1 = tc_dB X.2.2.2.2.2.1 X.1 X.2.1 X.2.2.2.1 X.2.2.2.2.1
  | 0 => ⟨rfl, rfl⟩
  | k + 1 => by
    obtain ⟨i1, i2⟩ := nXT_B (cd := cd) (mem := mem) (X := X) hn k
    rw [← nXT_s]
    refine ⟨rfl, ?_⟩
    show tc_dB (nXT cd mem (k + 1) X).2.2.2.2.2.1 X.1 X.2.1 (nXT cd mem (k + 1) X).2.2.2.1 X.2.2.2.2.1 = _
    rw [i1, dB_0 _ hn, i2]
section
variable {sa : g_SA} {sc : Nat × Nat × (Nat → Int32)} {xt : Nat → Nat → List Value → tm_H → Option (Option Value × tm_H)} {d m : Nat} {h : tm_H} {Q : Option Value → tm_H → Prop} {I : Nat → Int32} {rd : Value} {ru : Nat} {C : Nat → tm_E}
variable {c n u : Nat} {F L W M B N Lm H Ms Bs Os : Nat → Int32} {s g : Int32} {rc hc mc : Nat} {R : Nat → Int64} {tx : Nat × (Nat → Int32)} {rw : Nat × (Nat → Int64)} {nw : TN} {pa : PA} {cd : List Int32} {he : Nat × (Nat → Int32)} {mi : Nat × (Nat → Int32) × (Nat → Int32) × (Nat → Int32)}
theorem m_round (hM : MV I C tx (rc, R) nw pa cd he mi) (h1 : rnd (pkn cd nw) (if nw.2.2.2.2.2.1 = 0 then 0 else 1) 99 1 = none → ∀ I' rd' C', MV I' C' tx (rc, R) nw pa cd he mi → Q (some (.int (-2))) (mh h m I' rd' (m + 6) C')) (h2 : ∀ i f I' rd' C', rnd (pkn cd nw) (if nw.2.2.2.2.2.1 = 0 then 0 else 1) 99 1 = some (i, f) → MV I' C' tx (rw1 R (nI f).toInt64) nw pa cd he mi → Q (some (.int (nI i))) (mh h m I' rd' (m + 6) C')) : tm_D (g_G sa sc xt) (d + 270) 249 [.ref m] (mh h m I rd (m + 6) C) Q := by
  rw [e_249]
  simp only [s_249_0, s_249_1, s_249_2, s_249_5, s_249_6, s_249_9, s_249_10, s_249_12, s_249_14, s_249_17, s_249_18, s_249_20, s_249_21, s_249_24, s_249_25, s_249_26, s_249_27, s_249_29, s_249_30, s_249_33, s_249_34, s_249_35, s_249_36, s_249_38, s_249_40, s_249_41, s_249_44, s_249_45, s_249_48, s_249_51, s_249_52, s_249_53, s_249_54, s_249_56, s_249_58, s_249_59, s_249_62, s_249_63, s_249_66, s_249_69, s_249_70, s_249_71, s_249_72, s_249_74, s_249_76, s_249_79, s_249_82, s_249_85, s_249_86, s_249_87, s_249_90, s_249_91, s_249_92, s_249_93, s_249_96, s_249_97, s_249_98, s_249_101, s_249_104, s_249_107, s_249_110, s_249_112, x_get_i, List.getElem?_cons_succ, List.getElem?_cons_zero, x_cv_j, cs_n, cs_i, cs_r, cs_l, Nat.reduceAdd, Nat.reduceLeDiff, true_and, Option.toList_some, Option.toList_none, List.cons_append, List.nil_append, if_true, if_false, nb0, nb1, x_setJ, x_setZ0, x_setZ1, x_setA, x_setO, List.length_cons, List.length_nil, Nat.reduceLT, List.set_cons_succ, List.set_cons_zero, wrl_0, wrl_1, wrl_2, wrl_3, wrl_4, wrl_5, wrl_p0, wrl_p1, wrl_p2, wrl_p3, wrl_p4, mh_o, mh_po, mcv, mg_0, mg_1, mg_2, mg_3, mg_4, mg_5, mg_6, mg_7, mg_8, mg_9, mg_10, mg_11, mg_12, mg_13, mg_14, mg_15, mg_16, mg_17, mg_18, mg_19, mg_20, mg_21, mg_22, mg_23, mg_24, mg_25, mg_26, mg_27, mg_28, mg_29, mg_30, mg_31, mg_32, mg_33, mg_34, mg_35, mg_36, mg_37, mg_38, mg_39, mg_40, mg_41, mg_42, mg_43, mg_44, mg_45, mg_46, ms_1, ms_4, ms_6, ms_7, ms_9, ms_10, ms_11, ms_12, ms_16, ms_20, ms_24, ms_28, ms_35, ms_39, ms_42, ms_43, ms_17t, ms_17f, ms_8, ms_14, mc_1, mp_1, mc_2, mp_2, mc_3, mp_3, mc_4, mp_4, mc_5, mp_5, mc_6, mp_6, mc_7, mp_7, mc_8, mp_8, mc_9, mp_9, mc_10, mp_10, mc_11, mp_11, mc_12, mp_12, mc_13, mp_13, mc_14, mp_14, mc_15, mp_15, mc_16, mp_16, mc_17, mp_17, mc_18, mp_18, mc_19, mp_19, mc_20, mp_20, mc_21, mp_21, mc_22, mp_22, mc_23, mp_23, mc_24, mp_24, mc_25, mp_25, mc_26, mp_26, mc_27, mp_27, mc_28, mp_28, mc_29, mp_29, iu, cup, Nat.reduceEqDiff]
  refine m_trail (I := iu I 7 0) hM.i7 (fun I' rd' C' t hM1 h17 ht => ?_)
  obtain ⟨N, Lm, f11, hG, hN, hL, h11, hr, hLe, hwf, i1, hn⟩ := hM1.ngt (m := m)
  obtain ⟨R', hR'⟩ : ∃ R', C' 4 = .inl (3, 16, .inr (.inl R')) := by obtain ⟨-, -, R', hR, -⟩ := hM1.2.1; exact ⟨R', hR⟩
  obtain ⟨n', hn'⟩ : ∃ n', n' = nw.2.2.2.2.1 := ⟨_, rfl⟩
  obtain ⟨Xk, hXk⟩ : ∃ Xk : Nat → TN, Xk = fun k => nXT cd (tc_allv (nI nw.2.2.2.2.1)) k nw := ⟨_, rfl⟩
  have hRk : ∀ k, k ≤ 99 → RW (fun j => t (38 * k + j)) (Xk k) := fun k hk => by rw [hXk]; exact ht k hk
  obtain ⟨p, hpd⟩ : ∃ p : Nat → Nat → Bool, p = fun j k => decide ((k - j) % 7 = 0) && (alk t j k n' 12 && (alk t j k n' 24 && alk t j k 1 36)) := ⟨_, rfl⟩
  have hbd : ∀ k i, i < n' → ∃ y, y < 19 ∧ (Xk k).2.2.1 i = nI y - 9 := fun k i hi => by
    have := (WFX_nXT (cd := cd) (mem := tc_allv (nI nw.2.2.2.2.1)) (m := k) hwf).2.1 i (by rw [hn'] at hi; exact hi)
    rw [hXk]; exact this
  have hp : ∀ j k, j < k → k ≤ 99 → (p j k = true ↔ (k - j) % 7 = 0 ∧ (if nw.2.2.2.2.2.1 = 0 then 0 else 1) ≤ j ∧ pkn cd nw j = pkn cd nw k) := by
    intro j k hjk hk
    have epk : pkn cd nw j = pkn cd nw k ↔ ∀ i, i < n' → (Xk j).2.2.1 i = (Xk k).2.2.1 i := by
      have := pk_inj (M := (Xk j).2.2.1) (M' := (Xk k).2.2.1) (n := n') (by omega) (hbd j) (hbd k)
      rw [← this]
      unfold pkn
      rw [hXk, hn']
    have eM : alk t j k n' 12 = true ↔ ∀ i, i < n' → (Xk j).2.2.1 i = (Xk k).2.2.1 i := by
      rw [alk_all]
      constructor
      · intro q i hi
        have := q (12 + i) (by omega) (by omega)
        have a1 : t (38 * j + (12 + i)) = (Xk j).2.2.1 i := (hRk j (by omega)).2.1 i (by omega)
        have a2 : t (38 * k + (12 + i)) = (Xk k).2.2.1 i := (hRk k (by omega)).2.1 i (by omega)
        rwa [a1, a2] at this
      · intro q x x1 x2
        have a1 : t (38 * j + (12 + (x - 12))) = (Xk j).2.2.1 (x - 12) := (hRk j (by omega)).2.1 (x - 12) (by omega)
        have a2 : t (38 * k + (12 + (x - 12))) = (Xk k).2.2.1 (x - 12) := (hRk k (by omega)).2.1 (x - 12) (by omega)
        rw [show 12 + (x - 12) = x by omega] at a1 a2
        rw [a1, a2]
        exact q (x - 12) (by omega)
    have eB : alk t j k n' 24 = true ↔ ∀ i, i < n' → (Xk j).2.2.2.1 i = (Xk k).2.2.2.1 i := by
      rw [alk_all]
      constructor
      · intro q i hi
        have := q (24 + i) (by omega) (by omega)
        have a1 : t (38 * j + (24 + i)) = (Xk j).2.2.2.1 i := (hRk j (by omega)).2.2.1 i (by omega)
        have a2 : t (38 * k + (24 + i)) = (Xk k).2.2.2.1 i := (hRk k (by omega)).2.2.1 i (by omega)
        rwa [a1, a2] at this
      · intro q x x1 x2
        have a1 : t (38 * j + (24 + (x - 24))) = (Xk j).2.2.2.1 (x - 24) := (hRk j (by omega)).2.2.1 (x - 24) (by omega)
        have a2 : t (38 * k + (24 + (x - 24))) = (Xk k).2.2.2.1 (x - 24) := (hRk k (by omega)).2.2.1 (x - 24) (by omega)
        rw [show 24 + (x - 24) = x by omega] at a1 a2
        rw [a1, a2]
        exact q (x - 24) (by omega)
    have eS : alk t j k 1 36 = true ↔ (Xk j).2.2.2.2.2.1 = (Xk k).2.2.2.2.2.1 := by
      have a1 : t (38 * j + 36) = (Xk j).2.2.2.2.2.1 := (hRk j (by omega)).2.2.2.1
      have a2 : t (38 * k + 36) = (Xk k).2.2.2.2.2.1 := (hRk k (by omega)).2.2.2.1
      rw [alk_all]
      constructor
      · intro q
        have := q 36 (Nat.le_refl _) (by omega)
        rwa [a1, a2] at this
      · intro q x x1 x2
        have : x = 36 := by omega
        subst this
        rw [a1, a2]; exact q
    have kpos : ∀ q, 1 ≤ q → (Xk q).2.2.2.2.2.1 = 0 ∧ (Xk q).2.2.2.1 = tc_dB nw.2.2.2.2.2.1 nw.1 nw.2.1 nw.2.2.2.1 nw.2.2.2.2.1 := by
      intro q hq
      have := nXT_B (cd := cd) (mem := tc_allv (nI nw.2.2.2.2.1)) (X := nw) hn (q - 1)
      rw [show q - 1 + 1 = q by omega] at this
      rw [hXk]; exact this
    rw [hpd]
    dsimp only
    simp only [Bool.and_eq_true, decide_eq_true_eq, eM, eB, eS, epk]
    obtain ⟨ks, kb⟩ := kpos k (by omega)
    by_cases j0 : j = 0
    · subst j0
      have x0 : Xk 0 = nw := by rw [hXk]; exact nXT_0
      rw [x0, ks]
      by_cases s0 : nw.2.2.2.2.2.1 = 0
      · rw [if_pos s0]
        have : (Xk k).2.2.2.1 = nw.2.2.2.1 := by rw [kb, s0, dB_0 _ hn]
        rw [this]
        exact ⟨fun q => ⟨q.1, Nat.le_refl _, q.2.1⟩, fun q => ⟨q.1, q.2.2, fun _ _ => rfl, s0⟩⟩
      · rw [if_neg s0]
        exact ⟨fun q => absurd q.2.2.2 s0, fun q => absurd q.2.1 (by decide)⟩
    · obtain ⟨js, jb⟩ := kpos j (by omega)
      rw [js, jb, ks, kb]
      refine ⟨fun q => ⟨q.1, ?_, q.2.1⟩, fun q => ⟨q.1, q.2.2, fun _ _ => rfl, rfl⟩⟩
      split <;> omega
  have hrn := rnd_e (pk := pkn cd nw) (e := if nw.2.2.2.2.2.1 = 0 then 0 else 1) (p := p) (by split <;> decide) hp (j := 99) (i := 1) rfl (Nat.le_refl _) (fun k f hk hf => by omega)
  rw [hrn] at h1 h2
  simp only [s_249_0, s_249_1, s_249_2, s_249_5, s_249_6, s_249_9, s_249_10, s_249_12, s_249_14, s_249_17, s_249_18, s_249_20, s_249_21, s_249_24, s_249_25, s_249_26, s_249_27, s_249_29, s_249_30, s_249_33, s_249_34, s_249_35, s_249_36, s_249_38, s_249_40, s_249_41, s_249_44, s_249_45, s_249_48, s_249_51, s_249_52, s_249_53, s_249_54, s_249_56, s_249_58, s_249_59, s_249_62, s_249_63, s_249_66, s_249_69, s_249_70, s_249_71, s_249_72, s_249_74, s_249_76, s_249_79, s_249_82, s_249_85, s_249_86, s_249_87, s_249_90, s_249_91, s_249_92, s_249_93, s_249_96, s_249_97, s_249_98, s_249_101, s_249_104, s_249_107, s_249_110, s_249_112, x_get_i, List.getElem?_cons_succ, List.getElem?_cons_zero, x_cv_j, cs_n, cs_i, cs_r, cs_l, Nat.reduceAdd, Nat.reduceLeDiff, true_and, Option.toList_some, Option.toList_none, List.cons_append, List.nil_append, if_true, if_false, nb0, nb1, x_setJ, x_setZ0, x_setZ1, x_setA, x_setO, List.length_cons, List.length_nil, Nat.reduceLT, List.set_cons_succ, List.set_cons_zero, wrl_0, wrl_1, wrl_2, wrl_3, wrl_4, wrl_5, wrl_p0, wrl_p1, wrl_p2, wrl_p3, wrl_p4, mh_o, mh_po, mcv, mg_0, mg_1, mg_2, mg_3, mg_4, mg_5, mg_6, mg_7, mg_8, mg_9, mg_10, mg_11, mg_12, mg_13, mg_14, mg_15, mg_16, mg_17, mg_18, mg_19, mg_20, mg_21, mg_22, mg_23, mg_24, mg_25, mg_26, mg_27, mg_28, mg_29, mg_30, mg_31, mg_32, mg_33, mg_34, mg_35, mg_36, mg_37, mg_38, mg_39, mg_40, mg_41, mg_42, mg_43, mg_44, mg_45, mg_46, ms_1, ms_4, ms_6, ms_7, ms_9, ms_10, ms_11, ms_12, ms_16, ms_20, ms_24, ms_28, ms_35, ms_39, ms_42, ms_43, ms_17t, ms_17f, ms_8, ms_14, mc_1, mp_1, mc_2, mp_2, mc_3, mp_3, mc_4, mp_4, mc_5, mp_5, mc_6, mp_6, mc_7, mp_7, mc_8, mp_8, mc_9, mp_9, mc_10, mp_10, mc_11, mp_11, mc_12, mp_12, mc_13, mp_13, mc_14, mp_14, mc_15, mp_15, mc_16, mp_16, mc_17, mp_17, mc_18, mp_18, mc_19, mp_19, mc_20, mp_20, mc_21, mp_21, mc_22, mp_22, mc_23, mp_23, mc_24, mp_24, mc_25, mp_25, mc_26, mp_26, mc_27, mp_27, mc_28, mp_28, mc_29, mp_29, iu, cup, Nat.reduceEqDiff]
  have al : ∀ (j q a e : Nat), j ≤ 99 → q ≤ 99 → a ≤ e → e ≤ 38 → ∀ {Q}, tm_D (g_G sa sc xt) (d + 269) 247 [.ref m, .int (nI j), .int (nI q), .int (nI a), .int (nI e)] (mh h m I' rd' (m + 6) C') Q ↔ Q (some (.int (bI (alk t j q (e - a) a)))) (mh h m I' rd' (m + 6) C') := fun j q a e hj hq ha he {Q} => r_areLike h17 hj hq ha he
  have outer : ∀ (j k : Nat) (x2 : Value), k + j = 100 → 1 ≤ k → rrn p j k = rrn p 99 1 → tm_X (g_G sa sc xt) (d + 270) 249 11 [.ref m, .int (nI k), x2] [] (mh h m I' rd' (m + 6) C') Q := by
    intro j
    induction j with
    | zero =>
      intro k x2 hk hk1 ef
      have hk : k = 100 := by omega
      subst hk
      rw [s_249_11]
      simp only [s_249_0, s_249_1, s_249_2, s_249_5, s_249_6, s_249_9, s_249_10, s_249_12, s_249_14, s_249_17, s_249_18, s_249_20, s_249_21, s_249_24, s_249_25, s_249_26, s_249_27, s_249_29, s_249_30, s_249_33, s_249_34, s_249_35, s_249_36, s_249_38, s_249_40, s_249_41, s_249_44, s_249_45, s_249_48, s_249_51, s_249_52, s_249_53, s_249_54, s_249_56, s_249_58, s_249_59, s_249_62, s_249_63, s_249_66, s_249_69, s_249_70, s_249_71, s_249_72, s_249_74, s_249_76, s_249_79, s_249_82, s_249_85, s_249_86, s_249_87, s_249_90, s_249_91, s_249_92, s_249_93, s_249_96, s_249_97, s_249_98, s_249_101, s_249_104, s_249_107, s_249_110, s_249_112, x_get_i, List.getElem?_cons_succ, List.getElem?_cons_zero, x_cv_j, cs_n, cs_i, cs_r, cs_l, Nat.reduceAdd, Nat.reduceLeDiff, true_and, Option.toList_some, Option.toList_none, List.cons_append, List.nil_append, if_true, if_false, nb0, nb1, x_setJ, x_setZ0, x_setZ1, x_setA, x_setO, List.length_cons, List.length_nil, Nat.reduceLT, List.set_cons_succ, List.set_cons_zero, wrl_0, wrl_1, wrl_2, wrl_3, wrl_4, wrl_5, wrl_p0, wrl_p1, wrl_p2, wrl_p3, wrl_p4, mh_o, mh_po, mcv, mg_0, mg_1, mg_2, mg_3, mg_4, mg_5, mg_6, mg_7, mg_8, mg_9, mg_10, mg_11, mg_12, mg_13, mg_14, mg_15, mg_16, mg_17, mg_18, mg_19, mg_20, mg_21, mg_22, mg_23, mg_24, mg_25, mg_26, mg_27, mg_28, mg_29, mg_30, mg_31, mg_32, mg_33, mg_34, mg_35, mg_36, mg_37, mg_38, mg_39, mg_40, mg_41, mg_42, mg_43, mg_44, mg_45, mg_46, ms_1, ms_4, ms_6, ms_7, ms_9, ms_10, ms_11, ms_12, ms_16, ms_20, ms_24, ms_28, ms_35, ms_39, ms_42, ms_43, ms_17t, ms_17f, ms_8, ms_14, mc_1, mp_1, mc_2, mp_2, mc_3, mp_3, mc_4, mp_4, mc_5, mp_5, mc_6, mp_6, mc_7, mp_7, mc_8, mp_8, mc_9, mp_9, mc_10, mp_10, mc_11, mp_11, mc_12, mp_12, mc_13, mp_13, mc_14, mp_14, mc_15, mp_15, mc_16, mp_16, mc_17, mp_17, mc_18, mp_18, mc_19, mp_19, mc_20, mp_20, mc_21, mp_21, mc_22, mp_22, mc_23, mp_23, mc_24, mp_24, mc_25, mp_25, mc_26, mp_26, mc_27, mp_27, mc_28, mp_28, mc_29, mp_29, iu, cup, Nat.reduceEqDiff, show (99 : Int32) < nI 100 by decide]
      exact h1 ef.symm _ _ _ hM1
    | succ j ih =>
      intro k x2 hk hk1 ef
      have hk99 : k ≤ 99 := by omega
      have ef : (match fst1 (fun q => p q k) k 0 with
        | some f => some (k, f)
        | none => rrn p j (k + 1)) = rrn p 99 1 := ef
      have inner : ∀ (r q : Nat), q + r = k → fst1 (fun q => p q k) r q = fst1 (fun q => p q k) k 0 → tm_X (g_G sa sc xt) (d + 270) 249 19 [.ref m, .int (nI k), .int (nI q)] [] (mh h m I' rd' (m + 6) C') Q := by
        intro r
        induction r with
        | zero =>
          intro q hq eq
          have hq : q = k := by omega
          subst hq
          have eq : none = fst1 (fun z => p z q) q 0 := eq
          rw [← eq] at ef
          rw [s_249_19]
          simp only [s_249_0, s_249_1, s_249_2, s_249_5, s_249_6, s_249_9, s_249_10, s_249_12, s_249_14, s_249_17, s_249_18, s_249_20, s_249_21, s_249_24, s_249_25, s_249_26, s_249_27, s_249_29, s_249_30, s_249_33, s_249_34, s_249_35, s_249_36, s_249_38, s_249_40, s_249_41, s_249_44, s_249_45, s_249_48, s_249_51, s_249_52, s_249_53, s_249_54, s_249_56, s_249_58, s_249_59, s_249_62, s_249_63, s_249_66, s_249_69, s_249_70, s_249_71, s_249_72, s_249_74, s_249_76, s_249_79, s_249_82, s_249_85, s_249_86, s_249_87, s_249_90, s_249_91, s_249_92, s_249_93, s_249_96, s_249_97, s_249_98, s_249_101, s_249_104, s_249_107, s_249_110, s_249_112, x_get_i, List.getElem?_cons_succ, List.getElem?_cons_zero, x_cv_j, cs_n, cs_i, cs_r, cs_l, Nat.reduceAdd, Nat.reduceLeDiff, true_and, Option.toList_some, Option.toList_none, List.cons_append, List.nil_append, if_true, if_false, nb0, nb1, x_setJ, x_setZ0, x_setZ1, x_setA, x_setO, List.length_cons, List.length_nil, Nat.reduceLT, List.set_cons_succ, List.set_cons_zero, wrl_0, wrl_1, wrl_2, wrl_3, wrl_4, wrl_5, wrl_p0, wrl_p1, wrl_p2, wrl_p3, wrl_p4, mh_o, mh_po, mcv, mg_0, mg_1, mg_2, mg_3, mg_4, mg_5, mg_6, mg_7, mg_8, mg_9, mg_10, mg_11, mg_12, mg_13, mg_14, mg_15, mg_16, mg_17, mg_18, mg_19, mg_20, mg_21, mg_22, mg_23, mg_24, mg_25, mg_26, mg_27, mg_28, mg_29, mg_30, mg_31, mg_32, mg_33, mg_34, mg_35, mg_36, mg_37, mg_38, mg_39, mg_40, mg_41, mg_42, mg_43, mg_44, mg_45, mg_46, ms_1, ms_4, ms_6, ms_7, ms_9, ms_10, ms_11, ms_12, ms_16, ms_20, ms_24, ms_28, ms_35, ms_39, ms_42, ms_43, ms_17t, ms_17f, ms_8, ms_14, mc_1, mp_1, mc_2, mp_2, mc_3, mp_3, mc_4, mp_4, mc_5, mp_5, mc_6, mp_6, mc_7, mp_7, mc_8, mp_8, mc_9, mp_9, mc_10, mp_10, mc_11, mp_11, mc_12, mp_12, mc_13, mp_13, mc_14, mp_14, mc_15, mp_15, mc_16, mp_16, mc_17, mp_17, mc_18, mp_18, mc_19, mp_19, mc_20, mp_20, mc_21, mp_21, mc_22, mp_22, mc_23, mp_23, mc_24, mp_24, mc_25, mp_25, mc_26, mp_26, mc_27, mp_27, mc_28, mp_28, mc_29, mp_29, iu, cup, Nat.reduceEqDiff, Int32.le_refl, nI_1]
          exact ih (q + 1) _ (by omega) (by omega) ef
        | succ r ihr =>
          intro q hq eq
          have hqk : q < k := by omega
          have eq : (if p q k = true then some q else fst1 (fun q => p q k) r (q + 1)) = fst1 (fun q => p q k) k 0 := eq
          have epq : p q k = (decide ((k - q) % 7 = 0) && (alk t q k n' 12 && (alk t q k n' 24 && alk t q k 1 36))) := by rw [hpd]
          have e7 : nI k - nI q - (nI k - nI q) / 7 * 7 = 0 ↔ (k - q) % 7 = 0 := by
            rw [nI_s (by omega)]
            have : ∀ x : Fin 100, nI x.1 - nI x.1 / 7 * 7 = 0 ↔ x.1 % 7 = 0 := by decide +kernel
            exact this ⟨k - q, by omega⟩
          have skip : p q k = false → tm_X (g_G sa sc xt) (d + 270) 249 19 [.ref m, .int (nI k), .int (nI (q + 1))] [] (mh h m I' rd' (m + 6) C') Q := by
            intro z
            rw [z, if_neg (by decide)] at eq
            exact ihr (q + 1) (by omega) eq
          rw [s_249_19]
          simp only [s_249_0, s_249_1, s_249_2, s_249_5, s_249_6, s_249_9, s_249_10, s_249_12, s_249_14, s_249_17, s_249_18, s_249_20, s_249_21, s_249_24, s_249_25, s_249_26, s_249_27, s_249_29, s_249_30, s_249_33, s_249_34, s_249_35, s_249_36, s_249_38, s_249_40, s_249_41, s_249_44, s_249_45, s_249_48, s_249_51, s_249_52, s_249_53, s_249_54, s_249_56, s_249_58, s_249_59, s_249_62, s_249_63, s_249_66, s_249_69, s_249_70, s_249_71, s_249_72, s_249_74, s_249_76, s_249_79, s_249_82, s_249_85, s_249_86, s_249_87, s_249_90, s_249_91, s_249_92, s_249_93, s_249_96, s_249_97, s_249_98, s_249_101, s_249_104, s_249_107, s_249_110, s_249_112, x_get_i, List.getElem?_cons_succ, List.getElem?_cons_zero, x_cv_j, cs_n, cs_i, cs_r, cs_l, Nat.reduceAdd, Nat.reduceLeDiff, true_and, Option.toList_some, Option.toList_none, List.cons_append, List.nil_append, if_true, if_false, nb0, nb1, x_setJ, x_setZ0, x_setZ1, x_setA, x_setO, List.length_cons, List.length_nil, Nat.reduceLT, List.set_cons_succ, List.set_cons_zero, wrl_0, wrl_1, wrl_2, wrl_3, wrl_4, wrl_5, wrl_p0, wrl_p1, wrl_p2, wrl_p3, wrl_p4, mh_o, mh_po, mcv, mg_0, mg_1, mg_2, mg_3, mg_4, mg_5, mg_6, mg_7, mg_8, mg_9, mg_10, mg_11, mg_12, mg_13, mg_14, mg_15, mg_16, mg_17, mg_18, mg_19, mg_20, mg_21, mg_22, mg_23, mg_24, mg_25, mg_26, mg_27, mg_28, mg_29, mg_30, mg_31, mg_32, mg_33, mg_34, mg_35, mg_36, mg_37, mg_38, mg_39, mg_40, mg_41, mg_42, mg_43, mg_44, mg_45, mg_46, ms_1, ms_4, ms_6, ms_7, ms_9, ms_10, ms_11, ms_12, ms_16, ms_20, ms_24, ms_28, ms_35, ms_39, ms_42, ms_43, ms_17t, ms_17f, ms_8, ms_14, mc_1, mp_1, mc_2, mp_2, mc_3, mp_3, mc_4, mp_4, mc_5, mp_5, mc_6, mp_6, mc_7, mp_7, mc_8, mp_8, mc_9, mp_9, mc_10, mp_10, mc_11, mp_11, mc_12, mp_12, mc_13, mp_13, mc_14, mp_14, mc_15, mp_15, mc_16, mp_16, mc_17, mp_17, mc_18, mp_18, mc_19, mp_19, mc_20, mp_20, mc_21, mp_21, mc_22, mp_22, mc_23, mp_23, mc_24, mp_24, mc_25, mp_25, mc_26, mp_26, mc_27, mp_27, mc_28, mp_28, mc_29, mp_29, iu, cup, Nat.reduceEqDiff, show ¬ nI k ≤ nI q from nI_ge (by omega) (by omega), show ¬ (7 : Int32) = 0 by decide, if_false, e7, i1, nI_1]
          by_cases c7 : (k - q) % 7 = 0
          · rw [decide_eq_true c7, Bool.true_and] at epq
            simp only [c7, if_true]
            rw [← hn', e12, show (12 : Int32) = nI 12 from rfl]
            refine Iff.mpr (al q k 12 (12 + n') (by omega) hk99 (by omega) (by omega)) ?_
            rw [show 12 + n' - 12 = n' by omega]
            cases b1 : alk t q k n' 12 with
            | false =>
              rw [b1, Bool.false_and] at epq
              simp only [s_249_0, s_249_1, s_249_2, s_249_5, s_249_6, s_249_9, s_249_10, s_249_12, s_249_14, s_249_17, s_249_18, s_249_20, s_249_21, s_249_24, s_249_25, s_249_26, s_249_27, s_249_29, s_249_30, s_249_33, s_249_34, s_249_35, s_249_36, s_249_38, s_249_40, s_249_41, s_249_44, s_249_45, s_249_48, s_249_51, s_249_52, s_249_53, s_249_54, s_249_56, s_249_58, s_249_59, s_249_62, s_249_63, s_249_66, s_249_69, s_249_70, s_249_71, s_249_72, s_249_74, s_249_76, s_249_79, s_249_82, s_249_85, s_249_86, s_249_87, s_249_90, s_249_91, s_249_92, s_249_93, s_249_96, s_249_97, s_249_98, s_249_101, s_249_104, s_249_107, s_249_110, s_249_112, x_get_i, List.getElem?_cons_succ, List.getElem?_cons_zero, x_cv_j, cs_n, cs_i, cs_r, cs_l, Nat.reduceAdd, Nat.reduceLeDiff, true_and, Option.toList_some, Option.toList_none, List.cons_append, List.nil_append, if_true, if_false, nb0, nb1, x_setJ, x_setZ0, x_setZ1, x_setA, x_setO, List.length_cons, List.length_nil, Nat.reduceLT, List.set_cons_succ, List.set_cons_zero, wrl_0, wrl_1, wrl_2, wrl_3, wrl_4, wrl_5, wrl_p0, wrl_p1, wrl_p2, wrl_p3, wrl_p4, mh_o, mh_po, mcv, mg_0, mg_1, mg_2, mg_3, mg_4, mg_5, mg_6, mg_7, mg_8, mg_9, mg_10, mg_11, mg_12, mg_13, mg_14, mg_15, mg_16, mg_17, mg_18, mg_19, mg_20, mg_21, mg_22, mg_23, mg_24, mg_25, mg_26, mg_27, mg_28, mg_29, mg_30, mg_31, mg_32, mg_33, mg_34, mg_35, mg_36, mg_37, mg_38, mg_39, mg_40, mg_41, mg_42, mg_43, mg_44, mg_45, mg_46, ms_1, ms_4, ms_6, ms_7, ms_9, ms_10, ms_11, ms_12, ms_16, ms_20, ms_24, ms_28, ms_35, ms_39, ms_42, ms_43, ms_17t, ms_17f, ms_8, ms_14, mc_1, mp_1, mc_2, mp_2, mc_3, mp_3, mc_4, mp_4, mc_5, mp_5, mc_6, mp_6, mc_7, mp_7, mc_8, mp_8, mc_9, mp_9, mc_10, mp_10, mc_11, mp_11, mc_12, mp_12, mc_13, mp_13, mc_14, mp_14, mc_15, mp_15, mc_16, mp_16, mc_17, mp_17, mc_18, mp_18, mc_19, mp_19, mc_20, mp_20, mc_21, mp_21, mc_22, mp_22, mc_23, mp_23, mc_24, mp_24, mc_25, mp_25, mc_26, mp_26, mc_27, mp_27, mc_28, mp_28, mc_29, mp_29, iu, cup, Nat.reduceEqDiff, bI, if_true, if_false, Bool.false_eq_true, nI_1]
              exact skip epq
            | true =>
              rw [b1, Bool.true_and] at epq
              simp only [s_249_0, s_249_1, s_249_2, s_249_5, s_249_6, s_249_9, s_249_10, s_249_12, s_249_14, s_249_17, s_249_18, s_249_20, s_249_21, s_249_24, s_249_25, s_249_26, s_249_27, s_249_29, s_249_30, s_249_33, s_249_34, s_249_35, s_249_36, s_249_38, s_249_40, s_249_41, s_249_44, s_249_45, s_249_48, s_249_51, s_249_52, s_249_53, s_249_54, s_249_56, s_249_58, s_249_59, s_249_62, s_249_63, s_249_66, s_249_69, s_249_70, s_249_71, s_249_72, s_249_74, s_249_76, s_249_79, s_249_82, s_249_85, s_249_86, s_249_87, s_249_90, s_249_91, s_249_92, s_249_93, s_249_96, s_249_97, s_249_98, s_249_101, s_249_104, s_249_107, s_249_110, s_249_112, x_get_i, List.getElem?_cons_succ, List.getElem?_cons_zero, x_cv_j, cs_n, cs_i, cs_r, cs_l, Nat.reduceAdd, Nat.reduceLeDiff, true_and, Option.toList_some, Option.toList_none, List.cons_append, List.nil_append, if_true, if_false, nb0, nb1, x_setJ, x_setZ0, x_setZ1, x_setA, x_setO, List.length_cons, List.length_nil, Nat.reduceLT, List.set_cons_succ, List.set_cons_zero, wrl_0, wrl_1, wrl_2, wrl_3, wrl_4, wrl_5, wrl_p0, wrl_p1, wrl_p2, wrl_p3, wrl_p4, mh_o, mh_po, mcv, mg_0, mg_1, mg_2, mg_3, mg_4, mg_5, mg_6, mg_7, mg_8, mg_9, mg_10, mg_11, mg_12, mg_13, mg_14, mg_15, mg_16, mg_17, mg_18, mg_19, mg_20, mg_21, mg_22, mg_23, mg_24, mg_25, mg_26, mg_27, mg_28, mg_29, mg_30, mg_31, mg_32, mg_33, mg_34, mg_35, mg_36, mg_37, mg_38, mg_39, mg_40, mg_41, mg_42, mg_43, mg_44, mg_45, mg_46, ms_1, ms_4, ms_6, ms_7, ms_9, ms_10, ms_11, ms_12, ms_16, ms_20, ms_24, ms_28, ms_35, ms_39, ms_42, ms_43, ms_17t, ms_17f, ms_8, ms_14, mc_1, mp_1, mc_2, mp_2, mc_3, mp_3, mc_4, mp_4, mc_5, mp_5, mc_6, mp_6, mc_7, mp_7, mc_8, mp_8, mc_9, mp_9, mc_10, mp_10, mc_11, mp_11, mc_12, mp_12, mc_13, mp_13, mc_14, mp_14, mc_15, mp_15, mc_16, mp_16, mc_17, mp_17, mc_18, mp_18, mc_19, mp_19, mc_20, mp_20, mc_21, mp_21, mc_22, mp_22, mc_23, mp_23, mc_24, mp_24, mc_25, mp_25, mc_26, mp_26, mc_27, mp_27, mc_28, mp_28, mc_29, mp_29, iu, cup, Nat.reduceEqDiff, bI, if_true, show ¬ (1 : Int32) = 0 by decide, if_false, i1]
              rw [← hn', e24, show (24 : Int32) = nI 24 from rfl]
              refine Iff.mpr (al q k 24 (24 + n') (by omega) hk99 (by omega) (by omega)) ?_
              rw [show 24 + n' - 24 = n' by omega]
              cases b2 : alk t q k n' 24 with
              | false =>
                rw [b2, Bool.false_and] at epq
                simp only [s_249_0, s_249_1, s_249_2, s_249_5, s_249_6, s_249_9, s_249_10, s_249_12, s_249_14, s_249_17, s_249_18, s_249_20, s_249_21, s_249_24, s_249_25, s_249_26, s_249_27, s_249_29, s_249_30, s_249_33, s_249_34, s_249_35, s_249_36, s_249_38, s_249_40, s_249_41, s_249_44, s_249_45, s_249_48, s_249_51, s_249_52, s_249_53, s_249_54, s_249_56, s_249_58, s_249_59, s_249_62, s_249_63, s_249_66, s_249_69, s_249_70, s_249_71, s_249_72, s_249_74, s_249_76, s_249_79, s_249_82, s_249_85, s_249_86, s_249_87, s_249_90, s_249_91, s_249_92, s_249_93, s_249_96, s_249_97, s_249_98, s_249_101, s_249_104, s_249_107, s_249_110, s_249_112, x_get_i, List.getElem?_cons_succ, List.getElem?_cons_zero, x_cv_j, cs_n, cs_i, cs_r, cs_l, Nat.reduceAdd, Nat.reduceLeDiff, true_and, Option.toList_some, Option.toList_none, List.cons_append, List.nil_append, if_true, if_false, nb0, nb1, x_setJ, x_setZ0, x_setZ1, x_setA, x_setO, List.length_cons, List.length_nil, Nat.reduceLT, List.set_cons_succ, List.set_cons_zero, wrl_0, wrl_1, wrl_2, wrl_3, wrl_4, wrl_5, wrl_p0, wrl_p1, wrl_p2, wrl_p3, wrl_p4, mh_o, mh_po, mcv, mg_0, mg_1, mg_2, mg_3, mg_4, mg_5, mg_6, mg_7, mg_8, mg_9, mg_10, mg_11, mg_12, mg_13, mg_14, mg_15, mg_16, mg_17, mg_18, mg_19, mg_20, mg_21, mg_22, mg_23, mg_24, mg_25, mg_26, mg_27, mg_28, mg_29, mg_30, mg_31, mg_32, mg_33, mg_34, mg_35, mg_36, mg_37, mg_38, mg_39, mg_40, mg_41, mg_42, mg_43, mg_44, mg_45, mg_46, ms_1, ms_4, ms_6, ms_7, ms_9, ms_10, ms_11, ms_12, ms_16, ms_20, ms_24, ms_28, ms_35, ms_39, ms_42, ms_43, ms_17t, ms_17f, ms_8, ms_14, mc_1, mp_1, mc_2, mp_2, mc_3, mp_3, mc_4, mp_4, mc_5, mp_5, mc_6, mp_6, mc_7, mp_7, mc_8, mp_8, mc_9, mp_9, mc_10, mp_10, mc_11, mp_11, mc_12, mp_12, mc_13, mp_13, mc_14, mp_14, mc_15, mp_15, mc_16, mp_16, mc_17, mp_17, mc_18, mp_18, mc_19, mp_19, mc_20, mp_20, mc_21, mp_21, mc_22, mp_22, mc_23, mp_23, mc_24, mp_24, mc_25, mp_25, mc_26, mp_26, mc_27, mp_27, mc_28, mp_28, mc_29, mp_29, iu, cup, Nat.reduceEqDiff, bI, if_true, if_false, Bool.false_eq_true, nI_1]
                exact skip epq
              | true =>
                rw [b2, Bool.true_and] at epq
                simp only [s_249_0, s_249_1, s_249_2, s_249_5, s_249_6, s_249_9, s_249_10, s_249_12, s_249_14, s_249_17, s_249_18, s_249_20, s_249_21, s_249_24, s_249_25, s_249_26, s_249_27, s_249_29, s_249_30, s_249_33, s_249_34, s_249_35, s_249_36, s_249_38, s_249_40, s_249_41, s_249_44, s_249_45, s_249_48, s_249_51, s_249_52, s_249_53, s_249_54, s_249_56, s_249_58, s_249_59, s_249_62, s_249_63, s_249_66, s_249_69, s_249_70, s_249_71, s_249_72, s_249_74, s_249_76, s_249_79, s_249_82, s_249_85, s_249_86, s_249_87, s_249_90, s_249_91, s_249_92, s_249_93, s_249_96, s_249_97, s_249_98, s_249_101, s_249_104, s_249_107, s_249_110, s_249_112, x_get_i, List.getElem?_cons_succ, List.getElem?_cons_zero, x_cv_j, cs_n, cs_i, cs_r, cs_l, Nat.reduceAdd, Nat.reduceLeDiff, true_and, Option.toList_some, Option.toList_none, List.cons_append, List.nil_append, if_true, if_false, nb0, nb1, x_setJ, x_setZ0, x_setZ1, x_setA, x_setO, List.length_cons, List.length_nil, Nat.reduceLT, List.set_cons_succ, List.set_cons_zero, wrl_0, wrl_1, wrl_2, wrl_3, wrl_4, wrl_5, wrl_p0, wrl_p1, wrl_p2, wrl_p3, wrl_p4, mh_o, mh_po, mcv, mg_0, mg_1, mg_2, mg_3, mg_4, mg_5, mg_6, mg_7, mg_8, mg_9, mg_10, mg_11, mg_12, mg_13, mg_14, mg_15, mg_16, mg_17, mg_18, mg_19, mg_20, mg_21, mg_22, mg_23, mg_24, mg_25, mg_26, mg_27, mg_28, mg_29, mg_30, mg_31, mg_32, mg_33, mg_34, mg_35, mg_36, mg_37, mg_38, mg_39, mg_40, mg_41, mg_42, mg_43, mg_44, mg_45, mg_46, ms_1, ms_4, ms_6, ms_7, ms_9, ms_10, ms_11, ms_12, ms_16, ms_20, ms_24, ms_28, ms_35, ms_39, ms_42, ms_43, ms_17t, ms_17f, ms_8, ms_14, mc_1, mp_1, mc_2, mp_2, mc_3, mp_3, mc_4, mp_4, mc_5, mp_5, mc_6, mp_6, mc_7, mp_7, mc_8, mp_8, mc_9, mp_9, mc_10, mp_10, mc_11, mp_11, mc_12, mp_12, mc_13, mp_13, mc_14, mp_14, mc_15, mp_15, mc_16, mp_16, mc_17, mp_17, mc_18, mp_18, mc_19, mp_19, mc_20, mp_20, mc_21, mp_21, mc_22, mp_22, mc_23, mp_23, mc_24, mp_24, mc_25, mp_25, mc_26, mp_26, mc_27, mp_27, mc_28, mp_28, mc_29, mp_29, iu, cup, Nat.reduceEqDiff, bI, if_true, show ¬ (1 : Int32) = 0 by decide, if_false]
                rw [i36, i37]
                refine Iff.mpr (al q k 36 37 (by omega) hk99 (by decide) (by decide)) ?_
                rw [show 37 - 36 = 1 from rfl]
                cases b3 : alk t q k 1 36 with
                | false =>
                  rw [b3] at epq
                  simp only [s_249_0, s_249_1, s_249_2, s_249_5, s_249_6, s_249_9, s_249_10, s_249_12, s_249_14, s_249_17, s_249_18, s_249_20, s_249_21, s_249_24, s_249_25, s_249_26, s_249_27, s_249_29, s_249_30, s_249_33, s_249_34, s_249_35, s_249_36, s_249_38, s_249_40, s_249_41, s_249_44, s_249_45, s_249_48, s_249_51, s_249_52, s_249_53, s_249_54, s_249_56, s_249_58, s_249_59, s_249_62, s_249_63, s_249_66, s_249_69, s_249_70, s_249_71, s_249_72, s_249_74, s_249_76, s_249_79, s_249_82, s_249_85, s_249_86, s_249_87, s_249_90, s_249_91, s_249_92, s_249_93, s_249_96, s_249_97, s_249_98, s_249_101, s_249_104, s_249_107, s_249_110, s_249_112, x_get_i, List.getElem?_cons_succ, List.getElem?_cons_zero, x_cv_j, cs_n, cs_i, cs_r, cs_l, Nat.reduceAdd, Nat.reduceLeDiff, true_and, Option.toList_some, Option.toList_none, List.cons_append, List.nil_append, if_true, if_false, nb0, nb1, x_setJ, x_setZ0, x_setZ1, x_setA, x_setO, List.length_cons, List.length_nil, Nat.reduceLT, List.set_cons_succ, List.set_cons_zero, wrl_0, wrl_1, wrl_2, wrl_3, wrl_4, wrl_5, wrl_p0, wrl_p1, wrl_p2, wrl_p3, wrl_p4, mh_o, mh_po, mcv, mg_0, mg_1, mg_2, mg_3, mg_4, mg_5, mg_6, mg_7, mg_8, mg_9, mg_10, mg_11, mg_12, mg_13, mg_14, mg_15, mg_16, mg_17, mg_18, mg_19, mg_20, mg_21, mg_22, mg_23, mg_24, mg_25, mg_26, mg_27, mg_28, mg_29, mg_30, mg_31, mg_32, mg_33, mg_34, mg_35, mg_36, mg_37, mg_38, mg_39, mg_40, mg_41, mg_42, mg_43, mg_44, mg_45, mg_46, ms_1, ms_4, ms_6, ms_7, ms_9, ms_10, ms_11, ms_12, ms_16, ms_20, ms_24, ms_28, ms_35, ms_39, ms_42, ms_43, ms_17t, ms_17f, ms_8, ms_14, mc_1, mp_1, mc_2, mp_2, mc_3, mp_3, mc_4, mp_4, mc_5, mp_5, mc_6, mp_6, mc_7, mp_7, mc_8, mp_8, mc_9, mp_9, mc_10, mp_10, mc_11, mp_11, mc_12, mp_12, mc_13, mp_13, mc_14, mp_14, mc_15, mp_15, mc_16, mp_16, mc_17, mp_17, mc_18, mp_18, mc_19, mp_19, mc_20, mp_20, mc_21, mp_21, mc_22, mp_22, mc_23, mp_23, mc_24, mp_24, mc_25, mp_25, mc_26, mp_26, mc_27, mp_27, mc_28, mp_28, mc_29, mp_29, iu, cup, Nat.reduceEqDiff, bI, if_true, if_false, Bool.false_eq_true, nI_1]
                  exact skip epq
                | true =>
                  rw [b3] at epq
                  rw [epq, if_pos rfl] at eq
                  rw [← eq] at ef
                  simp only [s_249_0, s_249_1, s_249_2, s_249_5, s_249_6, s_249_9, s_249_10, s_249_12, s_249_14, s_249_17, s_249_18, s_249_20, s_249_21, s_249_24, s_249_25, s_249_26, s_249_27, s_249_29, s_249_30, s_249_33, s_249_34, s_249_35, s_249_36, s_249_38, s_249_40, s_249_41, s_249_44, s_249_45, s_249_48, s_249_51, s_249_52, s_249_53, s_249_54, s_249_56, s_249_58, s_249_59, s_249_62, s_249_63, s_249_66, s_249_69, s_249_70, s_249_71, s_249_72, s_249_74, s_249_76, s_249_79, s_249_82, s_249_85, s_249_86, s_249_87, s_249_90, s_249_91, s_249_92, s_249_93, s_249_96, s_249_97, s_249_98, s_249_101, s_249_104, s_249_107, s_249_110, s_249_112, x_get_i, List.getElem?_cons_succ, List.getElem?_cons_zero, x_cv_j, cs_n, cs_i, cs_r, cs_l, Nat.reduceAdd, Nat.reduceLeDiff, true_and, Option.toList_some, Option.toList_none, List.cons_append, List.nil_append, if_true, if_false, nb0, nb1, x_setJ, x_setZ0, x_setZ1, x_setA, x_setO, List.length_cons, List.length_nil, Nat.reduceLT, List.set_cons_succ, List.set_cons_zero, wrl_0, wrl_1, wrl_2, wrl_3, wrl_4, wrl_5, wrl_p0, wrl_p1, wrl_p2, wrl_p3, wrl_p4, mh_o, mh_po, mcv, mg_0, mg_1, mg_2, mg_3, mg_4, mg_5, mg_6, mg_7, mg_8, mg_9, mg_10, mg_11, mg_12, mg_13, mg_14, mg_15, mg_16, mg_17, mg_18, mg_19, mg_20, mg_21, mg_22, mg_23, mg_24, mg_25, mg_26, mg_27, mg_28, mg_29, mg_30, mg_31, mg_32, mg_33, mg_34, mg_35, mg_36, mg_37, mg_38, mg_39, mg_40, mg_41, mg_42, mg_43, mg_44, mg_45, mg_46, ms_1, ms_4, ms_6, ms_7, ms_9, ms_10, ms_11, ms_12, ms_16, ms_20, ms_24, ms_28, ms_35, ms_39, ms_42, ms_43, ms_17t, ms_17f, ms_8, ms_14, mc_1, mp_1, mc_2, mp_2, mc_3, mp_3, mc_4, mp_4, mc_5, mp_5, mc_6, mp_6, mc_7, mp_7, mc_8, mp_8, mc_9, mp_9, mc_10, mp_10, mc_11, mp_11, mc_12, mp_12, mc_13, mp_13, mc_14, mp_14, mc_15, mp_15, mc_16, mp_16, mc_17, mp_17, mc_18, mp_18, mc_19, mp_19, mc_20, mp_20, mc_21, mp_21, mc_22, mp_22, mc_23, mp_23, mc_24, mp_24, mc_25, mp_25, mc_26, mp_26, mc_27, mp_27, mc_28, mp_28, mc_29, mp_29, iu, cup, Nat.reduceEqDiff, bI, if_true, show ¬ (1 : Int32) = 0 by decide, if_false]
                  refine Iff.mpr (r_tell (k := 0) (R := R') (by decide) ?_ ?_ _) ?_
                  · exact if_pos rfl
                  · exact hR'
                  simp only [s_249_0, s_249_1, s_249_2, s_249_5, s_249_6, s_249_9, s_249_10, s_249_12, s_249_14, s_249_17, s_249_18, s_249_20, s_249_21, s_249_24, s_249_25, s_249_26, s_249_27, s_249_29, s_249_30, s_249_33, s_249_34, s_249_35, s_249_36, s_249_38, s_249_40, s_249_41, s_249_44, s_249_45, s_249_48, s_249_51, s_249_52, s_249_53, s_249_54, s_249_56, s_249_58, s_249_59, s_249_62, s_249_63, s_249_66, s_249_69, s_249_70, s_249_71, s_249_72, s_249_74, s_249_76, s_249_79, s_249_82, s_249_85, s_249_86, s_249_87, s_249_90, s_249_91, s_249_92, s_249_93, s_249_96, s_249_97, s_249_98, s_249_101, s_249_104, s_249_107, s_249_110, s_249_112, x_get_i, List.getElem?_cons_succ, List.getElem?_cons_zero, x_cv_j, cs_n, cs_i, cs_r, cs_l, Nat.reduceAdd, Nat.reduceLeDiff, true_and, Option.toList_some, Option.toList_none, List.cons_append, List.nil_append, if_true, if_false, nb0, nb1, x_setJ, x_setZ0, x_setZ1, x_setA, x_setO, List.length_cons, List.length_nil, Nat.reduceLT, List.set_cons_succ, List.set_cons_zero, wrl_0, wrl_1, wrl_2, wrl_3, wrl_4, wrl_5, wrl_p0, wrl_p1, wrl_p2, wrl_p3, wrl_p4, mh_o, mh_po, mcv, mg_0, mg_1, mg_2, mg_3, mg_4, mg_5, mg_6, mg_7, mg_8, mg_9, mg_10, mg_11, mg_12, mg_13, mg_14, mg_15, mg_16, mg_17, mg_18, mg_19, mg_20, mg_21, mg_22, mg_23, mg_24, mg_25, mg_26, mg_27, mg_28, mg_29, mg_30, mg_31, mg_32, mg_33, mg_34, mg_35, mg_36, mg_37, mg_38, mg_39, mg_40, mg_41, mg_42, mg_43, mg_44, mg_45, mg_46, ms_1, ms_4, ms_6, ms_7, ms_9, ms_10, ms_11, ms_12, ms_16, ms_20, ms_24, ms_28, ms_35, ms_39, ms_42, ms_43, ms_17t, ms_17f, ms_8, ms_14, mc_1, mp_1, mc_2, mp_2, mc_3, mp_3, mc_4, mp_4, mc_5, mp_5, mc_6, mp_6, mc_7, mp_7, mc_8, mp_8, mc_9, mp_9, mc_10, mp_10, mc_11, mp_11, mc_12, mp_12, mc_13, mp_13, mc_14, mp_14, mc_15, mp_15, mc_16, mp_16, mc_17, mp_17, mc_18, mp_18, mc_19, mp_19, mc_20, mp_20, mc_21, mp_21, mc_22, mp_22, mc_23, mp_23, mc_24, mp_24, mc_25, mp_25, mc_26, mp_26, mc_27, mp_27, mc_28, mp_28, mc_29, mp_29, iu, cup, Nat.reduceEqDiff, iu_iu]
                  exact h2 k q _ _ _ ef.symm (hM1.tell1 (KP.refl hM1.mx) rfl rfl)
          · rw [decide_eq_false c7, Bool.false_and] at epq
            simp only [c7, if_false]
            exact skip epq
      rw [s_249_11]
      simp only [s_249_0, s_249_1, s_249_2, s_249_5, s_249_6, s_249_9, s_249_10, s_249_12, s_249_14, s_249_17, s_249_18, s_249_20, s_249_21, s_249_24, s_249_25, s_249_26, s_249_27, s_249_29, s_249_30, s_249_33, s_249_34, s_249_35, s_249_36, s_249_38, s_249_40, s_249_41, s_249_44, s_249_45, s_249_48, s_249_51, s_249_52, s_249_53, s_249_54, s_249_56, s_249_58, s_249_59, s_249_62, s_249_63, s_249_66, s_249_69, s_249_70, s_249_71, s_249_72, s_249_74, s_249_76, s_249_79, s_249_82, s_249_85, s_249_86, s_249_87, s_249_90, s_249_91, s_249_92, s_249_93, s_249_96, s_249_97, s_249_98, s_249_101, s_249_104, s_249_107, s_249_110, s_249_112, x_get_i, List.getElem?_cons_succ, List.getElem?_cons_zero, x_cv_j, cs_n, cs_i, cs_r, cs_l, Nat.reduceAdd, Nat.reduceLeDiff, true_and, Option.toList_some, Option.toList_none, List.cons_append, List.nil_append, if_true, if_false, nb0, nb1, x_setJ, x_setZ0, x_setZ1, x_setA, x_setO, List.length_cons, List.length_nil, Nat.reduceLT, List.set_cons_succ, List.set_cons_zero, wrl_0, wrl_1, wrl_2, wrl_3, wrl_4, wrl_5, wrl_p0, wrl_p1, wrl_p2, wrl_p3, wrl_p4, mh_o, mh_po, mcv, mg_0, mg_1, mg_2, mg_3, mg_4, mg_5, mg_6, mg_7, mg_8, mg_9, mg_10, mg_11, mg_12, mg_13, mg_14, mg_15, mg_16, mg_17, mg_18, mg_19, mg_20, mg_21, mg_22, mg_23, mg_24, mg_25, mg_26, mg_27, mg_28, mg_29, mg_30, mg_31, mg_32, mg_33, mg_34, mg_35, mg_36, mg_37, mg_38, mg_39, mg_40, mg_41, mg_42, mg_43, mg_44, mg_45, mg_46, ms_1, ms_4, ms_6, ms_7, ms_9, ms_10, ms_11, ms_12, ms_16, ms_20, ms_24, ms_28, ms_35, ms_39, ms_42, ms_43, ms_17t, ms_17f, ms_8, ms_14, mc_1, mp_1, mc_2, mp_2, mc_3, mp_3, mc_4, mp_4, mc_5, mp_5, mc_6, mp_6, mc_7, mp_7, mc_8, mp_8, mc_9, mp_9, mc_10, mp_10, mc_11, mp_11, mc_12, mp_12, mc_13, mp_13, mc_14, mp_14, mc_15, mp_15, mc_16, mp_16, mc_17, mp_17, mc_18, mp_18, mc_19, mp_19, mc_20, mp_20, mc_21, mp_21, mc_22, mp_22, mc_23, mp_23, mc_24, mp_24, mc_25, mp_25, mc_26, mp_26, mc_27, mp_27, mc_28, mp_28, mc_29, mp_29, iu, cup, Nat.reduceEqDiff, show ¬ (99 : Int32) < nI k from nI_nlt (a := 99) (by omega) (by decide)]
      exact inner k 0 (by omega) rfl
  exact outer 99 1 _ (by decide) (Nat.le_refl _) rfl
end
