/-! the reference's calls: chord, mixed, rubs -/
/-- a set with at most one of each -/
def ich (P : Nat → Int32) (x : Int32) : Nat → Nat → Bool
  | 0, _ => true
  | j + 1, k => if ibc (x &&& P k) ≤ 1 then ich P x j (k + 1) else false
theorem ich_all {P : Nat → Int32} {x : Int32} : ∀ {j k : Nat}, ich P x j k = true ↔ ∀ l, k ≤ l → l < k + j → ibc (x &&& P l) ≤ 1
  | 0, k => ⟨fun _ l h1 h2 => by omega, fun _ => rfl⟩
  | j + 1, k => by
    have ih := ich_all (P := P) (x := x) (j := j) (k := k + 1)
    show (if ibc (x &&& P k) ≤ 1 then ich P x j (k + 1) else false) = true ↔ _
    constructor
    · intro h l h1 h2
      split at h
      · rename_i c
        by_cases e : l = k
        · subst e; exact c
        · exact ih.mp h l (by omega) (by omega)
      · cases h
    · intro h
      rw [if_pos (h k (Nat.le_refl _) (by omega))]
      exact ih.mpr (fun l h1 h2 => h l (by omega) (by omega))
theorem bt_bit {j i : Nat} (hj : j < 8) (hi : i < 32) : bt ((1 : Int32) <<< (nI j &&& 31)) i = decide (i = j) := bt_one (by omega) hi
/-- letters of a set, as bits -/
theorem let_b {L : Nat → Int32} {x : Int32} {l : Nat} (hl : l < 32) : ∀ {n : Nat}, n ≤ 12 → BX n L → bt (tc_let L x n) l = decide (0 < cn (fun i => bt x i && decide (L i = nI l)) n)
  | 0, _, _ => by
    have e : tc_let L x 0 = 0 := rfl
    rw [e, bt_0]
    rfl
  | n + 1, hn, hB => by
    have ih := let_b (L := L) (x := x) hl (n := n) (by omega) (fun i hi => hB i (by omega))
    have es : tc_let L x (n + 1) = tc_let L x n ||| (if (x >>> (nI n &&& 31)) &&& 1 = 1 then 1 <<< (L n &&& 31) else 0) := rfl
    rw [es, bt_or, ih, cn_s]
    obtain ⟨y, hy, ey⟩ := hB n (by omega)
    by_cases c : bt x n = true
    · rw [if_pos ((bt_sr (by omega)).mpr c), ey, bt_bit hy hl, c, Bool.true_and]
      by_cases e : l = y
      · subst e
        rw [decide_eq_true rfl, decide_eq_true rfl, if_pos rfl, Bool.or_true]
        exact (decide_eq_true (by omega)).symm
      · have e2 : ¬ nI y = nI l := fun q => e ((nI_eq (by omega) (by omega)).mp q).symm
        rw [decide_eq_false e, decide_eq_false e2, if_neg (by decide), Bool.or_false]
        rfl
    · have c' : bt x n = false := by cases h : bt x n with
        | true => exact absurd h c
        | false => rfl
      rw [if_neg (fun q => c ((bt_sr (by omega)).mp q)), bt_0, c', Bool.false_and, if_neg (by decide), Bool.or_false]
      rfl
theorem lo12_let {L : Nat → Int32} {x : Int32} {n : Nat} (hn : n ≤ 12) (hB : BX n L) : lo12 (tc_let L x n) := by
  intro l h1 h2
  rw [let_b h2 hn hB]
  have : cn (fun i => bt x i && decide (L i = nI l)) n = 0 := by
    rw [cn_0]
    intro i hi
    obtain ⟨y, hy, ey⟩ := hB i hi
    have : ¬ L i = nI l := fun e => by
      rw [ey] at e
      have := (nI_eq (by omega) (by omega)).mp e
      omega
    rw [decide_eq_false this, Bool.and_false]
  rw [this]
  rfl
/-- how many letters a set has -/
theorem ibc_let {L : Nat → Int32} {x : Int32} {n : Nat} (hn : n ≤ 12) (hB : BX n L) : ibc (tc_let L x n) = nI (cn (fun l => decide (0 < cn (fun i => bt x i && decide (L i = nI l)) n)) 8) := by
  rw [ibc_cn (lo12_let hn hB)]
  congr 1
  have e : cn (bt (tc_let L x n)) 12 = cn (bt (tc_let L x n)) 8 := cn_up (k := 8) (j := 4) (fun l h1 h2 => by
    rw [let_b (by omega) hn hB]
    have : cn (fun i => bt x i && decide (L i = nI l)) n = 0 := by
      rw [cn_0]
      intro i hi
      obtain ⟨y, hy, ey⟩ := hB i hi
      have : ¬ L i = nI l := fun e => by
        rw [ey] at e
        have := (nI_eq (by omega) (by omega)).mp e
        omega
      rw [decide_eq_false this, Bool.and_false]
    rw [this]
    rfl)
  rw [e]
  exact cn_cg (fun l hl => let_b (by omega) hn hB)
/-- a set without two of one letter: both ways -/
theorem chord_e {L : Nat → Int32} {s : Int32} {n i : Nat} (hn : n ≤ 12) (hB : BX n L) (hi : i < 2 ^ n) (hs : nI i &&& s = 0) : (ibc (tc_let L (nI i) n) = ibc (nI i)) ↔ ich (fun l => tc_wh L (nI l) n &&& (s ^^^ (-1))) (nI i) 8 0 = true := by
  have h12 : i < 4096 := Nat.lt_of_lt_of_le hi (p2_12 hn).1
  have hl : lo12 (nI i) := lo12_nI h12
  obtain ⟨β, hβ⟩ : ∃ β : Nat → Nat, β = be L := ⟨_, rfl⟩
  have hβ1 : ∀ j, j < n → L j = nI (β j) ∧ β j < 8 := fun j hj => by rw [hβ]; exact BX_be hB hj
  have ea : ∀ l, l < 8 → ibc (nI i &&& (tc_wh L (nI l) n &&& (s ^^^ (-1)))) = nI (cn (fun j => bt (nI i) j && decide (L j = nI l)) n) := by
    intro l hl8
    rw [ibc_cn (lo12_and hl)]
    congr 1
    have e : cn (bt (nI i &&& (tc_wh L (nI l) n &&& (s ^^^ (-1))))) 12 = cn (bt (nI i &&& (tc_wh L (nI l) n &&& (s ^^^ (-1))))) n := by
      have := cn_up (p := bt (nI i &&& (tc_wh L (nI l) n &&& (s ^^^ (-1))))) (k := n) (j := 12 - n) (fun j h1 h2 => by rw [bt_and, set_b hn hi h1]; rfl)
      rwa [show n + (12 - n) = 12 by omega] at this
    rw [e]
    refine cn_cg (fun j hj => ?_)
    rw [bt_and, bt_and, wh_b hn (by omega), bt_not (by omega), decide_eq_true hj, Bool.true_and]
    cases hx : bt (nI i) j with
    | false => rfl
    | true =>
      rw [(and_dis.mp hs) j (by omega) hx]
      simp
  have eb : ibc (nI i) = nI (sl (fun l => cn (fun j => bt (nI i) j && decide (L j = nI l)) n) 8) := by
    rw [ibc_cn hl]
    congr 1
    have e : cn (bt (nI i)) 12 = cn (bt (nI i)) n := by
      have := cn_up (p := bt (nI i)) (k := n) (j := 12 - n) (fun j h1 h2 => set_b hn hi h1)
      rwa [show n + (12 - n) = 12 by omega] at this
    rw [e, ← cn_letters (p := bt (nI i)) (x := β) (fun j hj => (hβ1 j hj).2)]
    refine sl_cg (fun l hl8 => cn_cg (fun j hj => ?_))
    have : (L j = nI l) = (β j = l) := by
      apply propext
      rw [(hβ1 j hj).1]
      exact nI_eq (by have := (hβ1 j hj).2; omega) (by omega)
    simp only [this]
  rw [ibc_let hn hB, eb, ich_all]
  have hp := sl_pos (a := fun l => cn (fun j => bt (nI i) j && decide (L j = nI l)) n) (m := 8)
  have hb1 : cn (fun l => decide (0 < cn (fun j => bt (nI i) j && decide (L j = nI l)) n)) 8 ≤ 8 := cn_le
  have hb2 : sl (fun l => cn (fun j => bt (nI i) j && decide (L j = nI l)) n) 8 < 2 ^ 31 := by
    have e := cn_letters (p := bt (nI i)) (x := β) (k := n) (fun j hj => (hβ1 j hj).2)
    have e2 : sl (fun l => cn (fun j => bt (nI i) j && decide (L j = nI l)) n) 8 = sl (fun l => cn (fun j => bt (nI i) j && decide (β j = l)) n) 8 := sl_cg (fun l hl8 => cn_cg (fun j hj => by
      have : (L j = nI l) = (β j = l) := by
        apply propext
        rw [(hβ1 j hj).1]
        exact nI_eq (by have := (hβ1 j hj).2; omega) (by omega)
      simp only [this]))
    rw [e2, e]
    have := cn_le (p := bt (nI i)) (k := n)
    omega
  rw [nI_eq (by omega) hb2, hp.2]
  constructor
  · intro h l _ h2
    rw [ea l (by omega)]
    exact nI_le (b := 1) (h l (by omega)) (by decide)
  · intro h l hl8
    have := h l (Nat.zero_le _) (by omega)
    rw [ea l hl8] at this
    exact (nI_leI (b := 1) (by have := cn_le (p := fun j => bt (nI i) j && decide (L j = nI l)) (k := n); omega) (by decide)).mp this
/-- the best chord, as the reference has it -/
def rch (L M : Nat → Int32) (n : Nat) (s v : Int32) : Nat → Int32 := fo (fun i b => if b ≠ -1 ∧ ibc (nI i) ≤ ibc b then b else if tc_mo M (nI i) n = v then (if (decide (nI i &&& s = 0) && ich (fun l => tc_wh L (nI l) n &&& (s ^^^ (-1))) (nI i) 8 0) = true then nI i else b) else b) (-1)
theorem ibc_nn {i : Nat} (hi : i < 4096) : ¬ ibc (nI i) ≤ -1 := by
  obtain ⟨k, hk, e⟩ := ibc_13 hi
  rw [e]
  intro q
  rw [Int32.le_iff_toInt_le, nI_toInt (by omega), show (-1 : Int32).toInt = -1 by decide] at q
  omega
theorem cho_e {L M : Nat → Int32} {n : Nat} {s v : Int32} (hn : n ≤ 12) (hB : BX n L) : ∀ k, k ≤ 2 ^ n → cho L M n (tc_allv (nI n) &&& (s ^^^ (-1))) v k = (rch L M n s v k, if rch L M n s v k = -1 then -1 else ibc (rch L M n s v k)) ∧ (rch L M n s v k = -1 ∨ ∃ q, q < 4096 ∧ rch L M n s v k = nI q)
  | 0, _ => ⟨rfl, Or.inl rfl⟩
  | k + 1, hk => by
    obtain ⟨ih, ib⟩ := cho_e (L := L) (M := M) (s := s) (v := v) hn hB k (by omega)
    have h2 := (p2_12 hn).1
    have hkk : k < 2 ^ n := by omega
    have es : cho L M n (tc_allv (nI n) &&& (s ^^^ (-1))) v (k + 1) = (fun a : Int32 × Int32 => if nI k &&& ((tc_allv (nI n) &&& (s ^^^ (-1))) ^^^ (-1)) = 0 then (if ibc (nI k) ≤ a.2 then a else if tc_mo M (nI k) n = v then (if ibc (tc_let L (nI k) n) = ibc (nI k) then (nI k, ibc (nI k)) else a) else a) else a) (cho L M n (tc_allv (nI n) &&& (s ^^^ (-1))) v k) := rfl
    have er : rch L M n s v (k + 1) = (fun b : Int32 => if b ≠ -1 ∧ ibc (nI k) ≤ ibc b then b else if tc_mo M (nI k) n = v then (if (decide (nI k &&& s = 0) && ich (fun l => tc_wh L (nI l) n &&& (s ^^^ (-1))) (nI k) 8 0) = true then nI k else b) else b) (rch L M n s v k) := rfl
    obtain ⟨b, hb⟩ : ∃ b, b = rch L M n s v k := ⟨_, rfl⟩
    rw [ih] at es
    rw [← hb] at ib er es
    dsimp only at es er
    have fin : ∀ b', rch L M n s v (k + 1) = b' → cho L M n (tc_allv (nI n) &&& (s ^^^ (-1))) v (k + 1) = (b', if b' = -1 then -1 else ibc b') → (b' = -1 ∨ ∃ q, q < 4096 ∧ b' = nI q) → cho L M n (tc_allv (nI n) &&& (s ^^^ (-1))) v (k + 1) = (rch L M n s v (k + 1), if rch L M n s v (k + 1) = -1 then -1 else ibc (rch L M n s v (k + 1))) ∧ (rch L M n s v (k + 1) = -1 ∨ ∃ q, q < 4096 ∧ rch L M n s v (k + 1) = nI q) := by
      intro b' e1 e2 e3
      rw [e1]
      exact ⟨e2, e3⟩
    have hsub : nI k &&& ((tc_allv (nI n) &&& (s ^^^ (-1))) ^^^ (-1)) = 0 ↔ nI k &&& s = 0 := by
      rw [and_sub, and_dis]
      constructor
      · intro h j hj hx
        have := h j hj hx
        rw [bt_and, bt_not hj, Bool.and_eq_true] at this
        simpa using this.2
      · intro h j hj hx
        have hjn : j < n := by
          apply Nat.not_le.mp
          intro q
          rw [set_b hn hkk q] at hx
          cases hx
        rw [bt_and, bt_not hj, all_b hn hj, decide_eq_true hjn, h j hj hx]
        rfl
    have nk1 : ¬ nI k = -1 := oI_ne (by omega)
    have hcond : (ibc (nI k) ≤ (if b = -1 then -1 else ibc b)) ↔ (b ≠ -1 ∧ ibc (nI k) ≤ ibc b) := by
      by_cases c : b = -1
      · rw [if_pos c]
        exact ⟨fun q => absurd q (ibc_nn (by omega)), fun q => absurd c q.1⟩
      · rw [if_neg c]
        exact ⟨fun q => ⟨c, q⟩, fun q => q.2⟩
    by_cases c1 : nI k &&& s = 0
    · rw [if_pos (hsub.mpr c1)] at es
      rw [decide_eq_true c1, Bool.true_and] at er
      by_cases c2 : b ≠ -1 ∧ ibc (nI k) ≤ ibc b
      · rw [if_pos (hcond.mpr c2)] at es
        rw [if_pos c2] at er
        exact fin b er es ib
      · rw [if_neg (fun q => c2 (hcond.mp q))] at es
        rw [if_neg c2] at er
        by_cases c3 : tc_mo M (nI k) n = v
        · rw [if_pos c3] at es er
          by_cases c4 : ibc (tc_let L (nI k) n) = ibc (nI k)
          · rw [if_pos c4] at es
            rw [if_pos ((chord_e hn hB hkk c1).mp c4)] at er
            exact fin (nI k) er (by rw [es, if_neg nk1]) (Or.inr ⟨k, by omega, rfl⟩)
          · rw [if_neg c4] at es
            rw [if_neg (fun q => c4 ((chord_e hn hB hkk c1).mpr q))] at er
            exact fin b er es ib
        · rw [if_neg c3] at es er
          exact fin b er es ib
    · rw [if_neg (fun q => c1 (hsub.mp q))] at es
      rw [decide_eq_false c1, Bool.false_and] at er
      by_cases c2 : b ≠ -1 ∧ ibc (nI k) ≤ ibc b
      · rw [if_pos c2] at er
        exact fin b er es ib
      · rw [if_neg c2] at er
        by_cases c3 : tc_mo M (nI k) n = v
        · rw [if_pos c3, if_neg (by decide)] at er
          exact fin b er es ib
        · rw [if_neg c3] at er
          exact fin b er es ib
theorem cho_up {L M : Nat → Int32} {n q : Nat} {s v : Int32} (hn : n ≤ 12) (hq : tc_allv (nI n) &&& (s ^^^ (-1)) = nI q) (hq12 : q < 4096) : cho L M n (tc_allv (nI n) &&& (s ^^^ (-1))) v (q + 1) = cho L M n (tc_allv (nI n) &&& (s ^^^ (-1))) v (2 ^ n) := by
  have h2 := (p2_12 hn).1
  have hlt : q < 2 ^ n := by
    refine bits_lt hq12 (fun j h1 h2 => ?_)
    rw [← hq, bt_and, all_b hn h2, decide_eq_false (by omega)]
    rfl
  have := fo_ext (f := fun i (a : Int32 × Int32) => if nI i &&& ((tc_allv (nI n) &&& (s ^^^ (-1))) ^^^ (-1)) = 0 then (if ibc (nI i) ≤ a.2 then a else if tc_mo M (nI i) n = v then (if ibc (tc_let L (nI i) n) = ibc (nI i) then (nI i, ibc (nI i)) else a) else a) else a) (z := (-1, -1)) (a := q + 1) (j := 2 ^ n - (q + 1)) (fun i i1 i2 x => by
    rw [if_neg]
    intro e
    have := sub_le (show i < 4096 by omega) hq12 (by rw [← hq]; exact and_sub.mp e)
    omega)
  rw [show q + 1 + (2 ^ n - (q + 1)) = 2 ^ n by omega] at this
  exact this.symm
section
variable {sa : g_SA} {sc : Nat × Nat × (Nat → Int32)} {xt : Nat → Nat → List Value → tm_H → Option (Option Value × tm_H)} {d m : Nat} {h : tm_H} {Q : Option Value → tm_H → Prop} {I : Nat → Int32} {rd : Value} {ru : Nat} {C : Nat → tm_E}
variable {c n u : Nat} {F L W M B N Lm H Ms Bs Os : Nat → Int32} {s g : Int32} {rc hc mc : Nat} {R : Nat → Int64} {tx : Nat × (Nat → Int32)} {rw : Nat × (Nat → Int64)} {nw : TN} {pa : PA} {cd : List Int32} {he : Nat × (Nat → Int32)} {mi : Nat × (Nat → Int32) × (Nat → Int32) × (Nat → Int32)}
theorem r_isChord (h1 : I 1 = nI n) (hn : n ≤ 12) (hx : C 1 = .inl (0, 38, .inl N)) (hL : C 2 = .inl (0, 12, .inl L)) (x : Int32) : tm_D (g_G sa sc xt) (d + 2) 257 [.ref m, .int x] (mh h m I rd ru C) Q ↔ Q (some (.int (bI (decide (x &&& N 36 = 0) && ich (fun l => tc_wh L (nI l) n &&& (N 36 ^^^ (-1))) x 8 0)))) (mh h m I rd ru C) := by
  have loop : ∀ j i, i + j = 8 → (tm_X (g_G sa sc xt) (d + 2) 257 16 [.ref m, .int x, .int (nI i)] [] (mh h m I rd ru C) Q ↔ Q (some (.int (bI (ich (fun l => tc_wh L (nI l) n &&& (N 36 ^^^ (-1))) x j i)))) (mh h m I rd ru C)) := by
    intro j
    induction j with
    | zero =>
      intro i hi
      have hi : i = 8 := by omega
      subst hi
      rw [s_257_16]
      simp only [s_257_0, s_257_1, s_257_2, s_257_5, s_257_7, s_257_8, s_257_9, s_257_12, s_257_13, s_257_14, s_257_15, s_257_17, s_257_19, s_257_22, s_257_23, s_257_24, s_257_25, s_257_28, s_257_29, s_257_32, s_257_33, s_257_36, s_257_37, s_257_38, s_257_41, s_257_44, s_257_45, x_get_i, List.getElem?_cons_succ, List.getElem?_cons_zero, x_cv_j, cs_n, cs_i, cs_r, cs_l, Nat.reduceAdd, Nat.reduceLeDiff, true_and, Option.toList_some, Option.toList_none, List.cons_append, List.nil_append, if_true, if_false, nb0, nb1, x_setJ, x_setZ0, x_setZ1, x_setA, x_setO, List.length_cons, List.length_nil, Nat.reduceLT, List.set_cons_succ, List.set_cons_zero, wrl_0, wrl_1, wrl_2, wrl_3, wrl_4, wrl_5, wrl_p0, wrl_p1, wrl_p2, wrl_p3, wrl_p4, mh_o, mh_po, mcv, mg_0, mg_1, mg_2, mg_3, mg_4, mg_5, mg_6, mg_7, mg_8, mg_9, mg_10, mg_11, mg_12, mg_13, mg_14, mg_15, mg_16, mg_17, mg_18, mg_19, mg_20, mg_21, mg_22, mg_23, mg_24, mg_25, mg_26, mg_27, mg_28, mg_29, mg_30, mg_31, mg_32, mg_33, mg_34, mg_35, mg_36, mg_37, mg_38, mg_39, mg_40, mg_41, mg_42, mg_43, mg_44, mg_45, mg_46, ms_1, ms_4, ms_6, ms_7, ms_9, ms_10, ms_11, ms_12, ms_16, ms_20, ms_24, ms_28, ms_35, ms_39, ms_42, ms_43, ms_17t, ms_17f, ms_8, ms_14, mc_1, mp_1, mc_2, mp_2, mc_3, mp_3, mc_4, mp_4, mc_5, mp_5, mc_6, mp_6, mc_7, mp_7, mc_8, mp_8, mc_9, mp_9, mc_10, mp_10, mc_11, mp_11, mc_12, mp_12, mc_13, mp_13, mc_14, mp_14, mc_15, mp_15, mc_16, mp_16, mc_17, mp_17, mc_18, mp_18, mc_19, mp_19, mc_20, mp_20, mc_21, mp_21, mc_22, mp_22, mc_23, mp_23, mc_24, mp_24, mc_25, mp_25, mc_26, mp_26, mc_27, mp_27, mc_28, mp_28, mc_29, mp_29, iu, cup, Nat.reduceEqDiff, show (8 : Int32) ≤ nI 8 by decide]
      exact Iff.rfl
    | succ j ih =>
      intro i hi
      have i8 : i < 8 := by omega
      rw [s_257_16]
      simp only [s_257_0, s_257_1, s_257_2, s_257_5, s_257_7, s_257_8, s_257_9, s_257_12, s_257_13, s_257_14, s_257_15, s_257_17, s_257_19, s_257_22, s_257_23, s_257_24, s_257_25, s_257_28, s_257_29, s_257_32, s_257_33, s_257_36, s_257_37, s_257_38, s_257_41, s_257_44, s_257_45, x_get_i, List.getElem?_cons_succ, List.getElem?_cons_zero, x_cv_j, cs_n, cs_i, cs_r, cs_l, Nat.reduceAdd, Nat.reduceLeDiff, true_and, Option.toList_some, Option.toList_none, List.cons_append, List.nil_append, if_true, if_false, nb0, nb1, x_setJ, x_setZ0, x_setZ1, x_setA, x_setO, List.length_cons, List.length_nil, Nat.reduceLT, List.set_cons_succ, List.set_cons_zero, wrl_0, wrl_1, wrl_2, wrl_3, wrl_4, wrl_5, wrl_p0, wrl_p1, wrl_p2, wrl_p3, wrl_p4, mh_o, mh_po, mcv, mg_0, mg_1, mg_2, mg_3, mg_4, mg_5, mg_6, mg_7, mg_8, mg_9, mg_10, mg_11, mg_12, mg_13, mg_14, mg_15, mg_16, mg_17, mg_18, mg_19, mg_20, mg_21, mg_22, mg_23, mg_24, mg_25, mg_26, mg_27, mg_28, mg_29, mg_30, mg_31, mg_32, mg_33, mg_34, mg_35, mg_36, mg_37, mg_38, mg_39, mg_40, mg_41, mg_42, mg_43, mg_44, mg_45, mg_46, ms_1, ms_4, ms_6, ms_7, ms_9, ms_10, ms_11, ms_12, ms_16, ms_20, ms_24, ms_28, ms_35, ms_39, ms_42, ms_43, ms_17t, ms_17f, ms_8, ms_14, mc_1, mp_1, mc_2, mp_2, mc_3, mp_3, mc_4, mp_4, mc_5, mp_5, mc_6, mp_6, mc_7, mp_7, mc_8, mp_8, mc_9, mp_9, mc_10, mp_10, mc_11, mp_11, mc_12, mp_12, mc_13, mp_13, mc_14, mp_14, mc_15, mp_15, mc_16, mp_16, mc_17, mp_17, mc_18, mp_18, mc_19, mp_19, mc_20, mp_20, mc_21, mp_21, mc_22, mp_22, mc_23, mp_23, mc_24, mp_24, mc_25, mp_25, mc_26, mp_26, mc_27, mp_27, mc_28, mp_28, mc_29, mp_29, iu, cup, Nat.reduceEqDiff, show ¬ (8 : Int32) ≤ nI i from nI_ge (b := 8) i8 (by decide), r_free h1 hn hx hL, m_bitCount, nI_1, rfr_wh n hn]
      unfold ich
      by_cases c : ibc (x &&& (tc_wh L (nI i) n &&& (N 36 ^^^ (-1)))) ≤ 1
      · simp only [c, if_true]
        exact ih (i + 1) (by omega)
      · simp only [c, if_false]
        exact Iff.rfl
  rw [e_257]
  simp only [s_257_0, s_257_1, s_257_2, s_257_5, s_257_7, s_257_8, s_257_9, s_257_12, s_257_13, s_257_14, s_257_15, s_257_17, s_257_19, s_257_22, s_257_23, s_257_24, s_257_25, s_257_28, s_257_29, s_257_32, s_257_33, s_257_36, s_257_37, s_257_38, s_257_41, s_257_44, s_257_45, x_get_i, List.getElem?_cons_succ, List.getElem?_cons_zero, x_cv_j, cs_n, cs_i, cs_r, cs_l, Nat.reduceAdd, Nat.reduceLeDiff, true_and, Option.toList_some, Option.toList_none, List.cons_append, List.nil_append, if_true, if_false, nb0, nb1, x_setJ, x_setZ0, x_setZ1, x_setA, x_setO, List.length_cons, List.length_nil, Nat.reduceLT, List.set_cons_succ, List.set_cons_zero, wrl_0, wrl_1, wrl_2, wrl_3, wrl_4, wrl_5, wrl_p0, wrl_p1, wrl_p2, wrl_p3, wrl_p4, mh_o, mh_po, mcv, mg_0, mg_1, mg_2, mg_3, mg_4, mg_5, mg_6, mg_7, mg_8, mg_9, mg_10, mg_11, mg_12, mg_13, mg_14, mg_15, mg_16, mg_17, mg_18, mg_19, mg_20, mg_21, mg_22, mg_23, mg_24, mg_25, mg_26, mg_27, mg_28, mg_29, mg_30, mg_31, mg_32, mg_33, mg_34, mg_35, mg_36, mg_37, mg_38, mg_39, mg_40, mg_41, mg_42, mg_43, mg_44, mg_45, mg_46, ms_1, ms_4, ms_6, ms_7, ms_9, ms_10, ms_11, ms_12, ms_16, ms_20, ms_24, ms_28, ms_35, ms_39, ms_42, ms_43, ms_17t, ms_17f, ms_8, ms_14, mc_1, mp_1, mc_2, mp_2, mc_3, mp_3, mc_4, mp_4, mc_5, mp_5, mc_6, mp_6, mc_7, mp_7, mc_8, mp_8, mc_9, mp_9, mc_10, mp_10, mc_11, mp_11, mc_12, mp_12, mc_13, mp_13, mc_14, mp_14, mc_15, mp_15, mc_16, mp_16, mc_17, mp_17, mc_18, mp_18, mc_19, mp_19, mc_20, mp_20, mc_21, mp_21, mc_22, mp_22, mc_23, mp_23, mc_24, mp_24, mc_25, mp_25, mc_26, mp_26, mc_27, mp_27, mc_28, mp_28, mc_29, mp_29, iu, cup, Nat.reduceEqDiff, hx, i36, x_ild_n (show 36 < 38 by decide) n38]
  by_cases c : x &&& N 36 = 0
  · simp only [c, if_true, decide_true, Bool.true_and]
    exact loop 8 0 (by decide)
  · simp only [c, if_false, decide_false, Bool.false_and]
    exact Iff.rfl
theorem m_chord (hM : MV I C tx (rc, R) (L, W, M, B, n, s, g) pa cd he mi) (v : Int32) (h1 : ∀ I', (v < -72 ∨ 72 < v) → MV I' C tx (rc, R) (L, W, M, B, n, s, g) pa cd he mi → Q (some (.int (-100))) (mh h m I' rd (m + 6) C)) (h2 : ∀ I', ¬ (v < -72 ∨ 72 < v) → rch L M n s v (2 ^ n) = -1 → MV I' C tx (rc, R) (L, W, M, B, n, s, g) pa cd he mi → Q (some (.int (-2))) (mh h m I' rd (m + 6) C)) (h3 : ∀ I' C', ¬ (v < -72 ∨ 72 < v) → ¬ rch L M n s v (2 ^ n) = -1 → MV I' C' tx (rw1 R (rch L M n s v (2 ^ n)).toInt64) (L, W, M, B, n, s, g) pa cd he mi → Q (some (.int (ibc (rch L M n s v (2 ^ n))))) (mh h m I' rd (m + 6) C')) : tm_D (g_G sa sc xt) (d + 4) 258 [.ref m, .int v] (mh h m I rd (m + 6) C) Q := by
  have hM7 : MV (iu I 7 0) C tx (rc, R) (L, W, M, B, n, s, g) pa cd he mi := hM.i7
  obtain ⟨N, Lm, f11, hG, hN, hL, h11, hr, hLe, hwf, i1, hn⟩ := hM7.ngt (m := m)
  have i1 : (iu I 7 0) 1 = nI n := i1
  have hn : n ≤ 12 := hn
  have e36 : N 36 = s := hr.2.2.2.1
  have h2p := p2_12 hn
  obtain ⟨I0, hI0⟩ : ∃ I0, I0 = iu I 7 0 := ⟨_, rfl⟩
  rw [← hI0] at i1 hM7
  obtain ⟨R', hR'⟩ : ∃ R', C 4 = .inl (3, 16, .inr (.inl R')) := by obtain ⟨-, -, R', hR, -⟩ := hM.2.1; exact ⟨R', hR⟩
  have emo : ∀ x, tc_mo (rM N) x n = tc_mo M x n := fun x => RW_mo (v := x) hr hn
  have kx : (mh h m I0 rd (m + 6) C).2.2 (m + 1) = .inl (0, 38, .inl N) := (mh_c (by decide) (by decide)).trans hN
  have ewh : ∀ l, tc_wh Lm (nI l) n = tc_wh L (nI l) n := fun l => wh_cg hLe
  rw [e_258]
  simp only [s_258_0, s_258_1, s_258_2, s_258_5, s_258_6, s_258_8, s_258_10, s_258_13, s_258_16, s_258_18, s_258_19, s_258_20, s_258_21, s_258_22, s_258_24, s_258_25, s_258_28, s_258_31, s_258_32, s_258_33, s_258_36, s_258_37, s_258_40, s_258_41, s_258_44, s_258_47, s_258_48, s_258_49, s_258_52, s_258_53, s_258_56, s_258_57, s_258_60, s_258_61, s_258_62, s_258_65, s_258_68, s_258_71, s_258_72, s_258_73, s_258_76, s_258_79, s_258_80, s_258_81, s_258_84, s_258_86, s_258_87, s_258_88, s_258_89, s_258_92, s_258_93, s_258_94, s_258_95, s_258_98, s_258_99, s_258_102, x_get_i, List.getElem?_cons_succ, List.getElem?_cons_zero, x_cv_j, cs_n, cs_i, cs_r, cs_l, Nat.reduceAdd, Nat.reduceLeDiff, true_and, Option.toList_some, Option.toList_none, List.cons_append, List.nil_append, if_true, if_false, nb0, nb1, x_setJ, x_setZ0, x_setZ1, x_setA, x_setO, List.length_cons, List.length_nil, Nat.reduceLT, List.set_cons_succ, List.set_cons_zero, wrl_0, wrl_1, wrl_2, wrl_3, wrl_4, wrl_5, wrl_p0, wrl_p1, wrl_p2, wrl_p3, wrl_p4, mh_o, mh_po, mcv, mg_0, mg_1, mg_2, mg_3, mg_4, mg_5, mg_6, mg_7, mg_8, mg_9, mg_10, mg_11, mg_12, mg_13, mg_14, mg_15, mg_16, mg_17, mg_18, mg_19, mg_20, mg_21, mg_22, mg_23, mg_24, mg_25, mg_26, mg_27, mg_28, mg_29, mg_30, mg_31, mg_32, mg_33, mg_34, mg_35, mg_36, mg_37, mg_38, mg_39, mg_40, mg_41, mg_42, mg_43, mg_44, mg_45, mg_46, ms_1, ms_4, ms_6, ms_7, ms_9, ms_10, ms_11, ms_12, ms_16, ms_20, ms_24, ms_28, ms_35, ms_39, ms_42, ms_43, ms_17t, ms_17f, ms_8, ms_14, mc_1, mp_1, mc_2, mp_2, mc_3, mp_3, mc_4, mp_4, mc_5, mp_5, mc_6, mp_6, mc_7, mp_7, mc_8, mp_8, mc_9, mp_9, mc_10, mp_10, mc_11, mp_11, mc_12, mp_12, mc_13, mp_13, mc_14, mp_14, mc_15, mp_15, mc_16, mp_16, mc_17, mp_17, mc_18, mp_18, mc_19, mp_19, mc_20, mp_20, mc_21, mp_21, mc_22, mp_22, mc_23, mp_23, mc_24, mp_24, mc_25, mp_25, mc_26, mp_26, mc_27, mp_27, mc_28, mp_28, mc_29, mp_29, iu, cup, Nat.reduceEqDiff, r_in]
  rw [← hI0]
  by_cases b : v < -72 ∨ 72 < v
  · simp only [in_no b, not_true_eq_false, if_false, if_true, s_258_0, s_258_1, s_258_2, s_258_5, s_258_6, s_258_8, s_258_10, s_258_13, s_258_16, s_258_18, s_258_19, s_258_20, s_258_21, s_258_22, s_258_24, s_258_25, s_258_28, s_258_31, s_258_32, s_258_33, s_258_36, s_258_37, s_258_40, s_258_41, s_258_44, s_258_47, s_258_48, s_258_49, s_258_52, s_258_53, s_258_56, s_258_57, s_258_60, s_258_61, s_258_62, s_258_65, s_258_68, s_258_71, s_258_72, s_258_73, s_258_76, s_258_79, s_258_80, s_258_81, s_258_84, s_258_86, s_258_87, s_258_88, s_258_89, s_258_92, s_258_93, s_258_94, s_258_95, s_258_98, s_258_99, s_258_102, x_get_i, List.getElem?_cons_succ, List.getElem?_cons_zero, x_cv_j, cs_n, cs_i, cs_r, cs_l, Nat.reduceAdd, Nat.reduceLeDiff, true_and, Option.toList_some, Option.toList_none, List.cons_append, List.nil_append, if_true, if_false, nb0, nb1, x_setJ, x_setZ0, x_setZ1, x_setA, x_setO, List.length_cons, List.length_nil, Nat.reduceLT, List.set_cons_succ, List.set_cons_zero, wrl_0, wrl_1, wrl_2, wrl_3, wrl_4, wrl_5, wrl_p0, wrl_p1, wrl_p2, wrl_p3, wrl_p4, mh_o, mh_po, mcv, mg_0, mg_1, mg_2, mg_3, mg_4, mg_5, mg_6, mg_7, mg_8, mg_9, mg_10, mg_11, mg_12, mg_13, mg_14, mg_15, mg_16, mg_17, mg_18, mg_19, mg_20, mg_21, mg_22, mg_23, mg_24, mg_25, mg_26, mg_27, mg_28, mg_29, mg_30, mg_31, mg_32, mg_33, mg_34, mg_35, mg_36, mg_37, mg_38, mg_39, mg_40, mg_41, mg_42, mg_43, mg_44, mg_45, mg_46, ms_1, ms_4, ms_6, ms_7, ms_9, ms_10, ms_11, ms_12, ms_16, ms_20, ms_24, ms_28, ms_35, ms_39, ms_42, ms_43, ms_17t, ms_17f, ms_8, ms_14, mc_1, mp_1, mc_2, mp_2, mc_3, mp_3, mc_4, mp_4, mc_5, mp_5, mc_6, mp_6, mc_7, mp_7, mc_8, mp_8, mc_9, mp_9, mc_10, mp_10, mc_11, mp_11, mc_12, mp_12, mc_13, mp_13, mc_14, mp_14, mc_15, mp_15, mc_16, mp_16, mc_17, mp_17, mc_18, mp_18, mc_19, mp_19, mc_20, mp_20, mc_21, mp_21, mc_22, mp_22, mc_23, mp_23, mc_24, mp_24, mc_25, mp_25, mc_26, mp_26, mc_27, mp_27, mc_28, mp_28, mc_29, mp_29, iu, cup, Nat.reduceEqDiff]
    exact h1 _ b hM7
  simp only [in_yes b, show ¬ (1 : Int32) = 0 by decide, not_false_eq_true, if_true, if_false, s_258_0, s_258_1, s_258_2, s_258_5, s_258_6, s_258_8, s_258_10, s_258_13, s_258_16, s_258_18, s_258_19, s_258_20, s_258_21, s_258_22, s_258_24, s_258_25, s_258_28, s_258_31, s_258_32, s_258_33, s_258_36, s_258_37, s_258_40, s_258_41, s_258_44, s_258_47, s_258_48, s_258_49, s_258_52, s_258_53, s_258_56, s_258_57, s_258_60, s_258_61, s_258_62, s_258_65, s_258_68, s_258_71, s_258_72, s_258_73, s_258_76, s_258_79, s_258_80, s_258_81, s_258_84, s_258_86, s_258_87, s_258_88, s_258_89, s_258_92, s_258_93, s_258_94, s_258_95, s_258_98, s_258_99, s_258_102, x_get_i, List.getElem?_cons_succ, List.getElem?_cons_zero, x_cv_j, cs_n, cs_i, cs_r, cs_l, Nat.reduceAdd, Nat.reduceLeDiff, true_and, Option.toList_some, Option.toList_none, List.cons_append, List.nil_append, if_true, if_false, nb0, nb1, x_setJ, x_setZ0, x_setZ1, x_setA, x_setO, List.length_cons, List.length_nil, Nat.reduceLT, List.set_cons_succ, List.set_cons_zero, wrl_0, wrl_1, wrl_2, wrl_3, wrl_4, wrl_5, wrl_p0, wrl_p1, wrl_p2, wrl_p3, wrl_p4, mh_o, mh_po, mcv, mg_0, mg_1, mg_2, mg_3, mg_4, mg_5, mg_6, mg_7, mg_8, mg_9, mg_10, mg_11, mg_12, mg_13, mg_14, mg_15, mg_16, mg_17, mg_18, mg_19, mg_20, mg_21, mg_22, mg_23, mg_24, mg_25, mg_26, mg_27, mg_28, mg_29, mg_30, mg_31, mg_32, mg_33, mg_34, mg_35, mg_36, mg_37, mg_38, mg_39, mg_40, mg_41, mg_42, mg_43, mg_44, mg_45, mg_46, ms_1, ms_4, ms_6, ms_7, ms_9, ms_10, ms_11, ms_12, ms_16, ms_20, ms_24, ms_28, ms_35, ms_39, ms_42, ms_43, ms_17t, ms_17f, ms_8, ms_14, mc_1, mp_1, mc_2, mp_2, mc_3, mp_3, mc_4, mp_4, mc_5, mp_5, mc_6, mp_6, mc_7, mp_7, mc_8, mp_8, mc_9, mp_9, mc_10, mp_10, mc_11, mp_11, mc_12, mp_12, mc_13, mp_13, mc_14, mp_14, mc_15, mp_15, mc_16, mp_16, mc_17, mp_17, mc_18, mp_18, mc_19, mp_19, mc_20, mp_20, mc_21, mp_21, mc_22, mp_22, mc_23, mp_23, mc_24, mp_24, mc_25, mp_25, mc_26, mp_26, mc_27, mp_27, mc_28, mp_28, mc_29, mp_29, iu, cup, Nat.reduceEqDiff]
  have loop : ∀ (j i : Nat), i + j = 2 ^ n → tm_X (g_G sa sc xt) (d + 4) 258 23 [.ref m, .int v, .int (rch L M n s v i), .int (nI i)] [] (mh h m I0 rd (m + 6) C) Q := by
    intro j
    induction j with
    | zero =>
      intro i hi
      have hi : i = 2 ^ n := by omega
      subst hi
      rw [s_258_23]
      simp only [s_258_0, s_258_1, s_258_2, s_258_5, s_258_6, s_258_8, s_258_10, s_258_13, s_258_16, s_258_18, s_258_19, s_258_20, s_258_21, s_258_22, s_258_24, s_258_25, s_258_28, s_258_31, s_258_32, s_258_33, s_258_36, s_258_37, s_258_40, s_258_41, s_258_44, s_258_47, s_258_48, s_258_49, s_258_52, s_258_53, s_258_56, s_258_57, s_258_60, s_258_61, s_258_62, s_258_65, s_258_68, s_258_71, s_258_72, s_258_73, s_258_76, s_258_79, s_258_80, s_258_81, s_258_84, s_258_86, s_258_87, s_258_88, s_258_89, s_258_92, s_258_93, s_258_94, s_258_95, s_258_98, s_258_99, s_258_102, x_get_i, List.getElem?_cons_succ, List.getElem?_cons_zero, x_cv_j, cs_n, cs_i, cs_r, cs_l, Nat.reduceAdd, Nat.reduceLeDiff, true_and, Option.toList_some, Option.toList_none, List.cons_append, List.nil_append, if_true, if_false, nb0, nb1, x_setJ, x_setZ0, x_setZ1, x_setA, x_setO, List.length_cons, List.length_nil, Nat.reduceLT, List.set_cons_succ, List.set_cons_zero, wrl_0, wrl_1, wrl_2, wrl_3, wrl_4, wrl_5, wrl_p0, wrl_p1, wrl_p2, wrl_p3, wrl_p4, mh_o, mh_po, mcv, mg_0, mg_1, mg_2, mg_3, mg_4, mg_5, mg_6, mg_7, mg_8, mg_9, mg_10, mg_11, mg_12, mg_13, mg_14, mg_15, mg_16, mg_17, mg_18, mg_19, mg_20, mg_21, mg_22, mg_23, mg_24, mg_25, mg_26, mg_27, mg_28, mg_29, mg_30, mg_31, mg_32, mg_33, mg_34, mg_35, mg_36, mg_37, mg_38, mg_39, mg_40, mg_41, mg_42, mg_43, mg_44, mg_45, mg_46, ms_1, ms_4, ms_6, ms_7, ms_9, ms_10, ms_11, ms_12, ms_16, ms_20, ms_24, ms_28, ms_35, ms_39, ms_42, ms_43, ms_17t, ms_17f, ms_8, ms_14, mc_1, mp_1, mc_2, mp_2, mc_3, mp_3, mc_4, mp_4, mc_5, mp_5, mc_6, mp_6, mc_7, mp_7, mc_8, mp_8, mc_9, mp_9, mc_10, mp_10, mc_11, mp_11, mc_12, mp_12, mc_13, mp_13, mc_14, mp_14, mc_15, mp_15, mc_16, mp_16, mc_17, mp_17, mc_18, mp_18, mc_19, mp_19, mc_20, mp_20, mc_21, mp_21, mc_22, mp_22, mc_23, mp_23, mc_24, mp_24, mc_25, mp_25, mc_26, mp_26, mc_27, mp_27, mc_28, mp_28, mc_29, mp_29, iu, cup, Nat.reduceEqDiff, r_all i1, all_nI hn, show nI (2 ^ n - 1) < nI (2 ^ n) from nI_lt (by omega) (by omega)]
      by_cases c1 : rch L M n s v (2 ^ n) = -1
      · simp only [c1, if_true, not_true_eq_false, if_false]
        exact h2 _ b c1 hM7
      simp only [c1, if_false, not_false_eq_true, if_true]
      refine Iff.mpr (r_tell (k := 0) (R := R') (by decide) ?_ ?_ _) ?_
      · exact if_pos rfl
      · exact hR'
      simp only [s_258_0, s_258_1, s_258_2, s_258_5, s_258_6, s_258_8, s_258_10, s_258_13, s_258_16, s_258_18, s_258_19, s_258_20, s_258_21, s_258_22, s_258_24, s_258_25, s_258_28, s_258_31, s_258_32, s_258_33, s_258_36, s_258_37, s_258_40, s_258_41, s_258_44, s_258_47, s_258_48, s_258_49, s_258_52, s_258_53, s_258_56, s_258_57, s_258_60, s_258_61, s_258_62, s_258_65, s_258_68, s_258_71, s_258_72, s_258_73, s_258_76, s_258_79, s_258_80, s_258_81, s_258_84, s_258_86, s_258_87, s_258_88, s_258_89, s_258_92, s_258_93, s_258_94, s_258_95, s_258_98, s_258_99, s_258_102, x_get_i, List.getElem?_cons_succ, List.getElem?_cons_zero, x_cv_j, cs_n, cs_i, cs_r, cs_l, Nat.reduceAdd, Nat.reduceLeDiff, true_and, Option.toList_some, Option.toList_none, List.cons_append, List.nil_append, if_true, if_false, nb0, nb1, x_setJ, x_setZ0, x_setZ1, x_setA, x_setO, List.length_cons, List.length_nil, Nat.reduceLT, List.set_cons_succ, List.set_cons_zero, wrl_0, wrl_1, wrl_2, wrl_3, wrl_4, wrl_5, wrl_p0, wrl_p1, wrl_p2, wrl_p3, wrl_p4, mh_o, mh_po, mcv, mg_0, mg_1, mg_2, mg_3, mg_4, mg_5, mg_6, mg_7, mg_8, mg_9, mg_10, mg_11, mg_12, mg_13, mg_14, mg_15, mg_16, mg_17, mg_18, mg_19, mg_20, mg_21, mg_22, mg_23, mg_24, mg_25, mg_26, mg_27, mg_28, mg_29, mg_30, mg_31, mg_32, mg_33, mg_34, mg_35, mg_36, mg_37, mg_38, mg_39, mg_40, mg_41, mg_42, mg_43, mg_44, mg_45, mg_46, ms_1, ms_4, ms_6, ms_7, ms_9, ms_10, ms_11, ms_12, ms_16, ms_20, ms_24, ms_28, ms_35, ms_39, ms_42, ms_43, ms_17t, ms_17f, ms_8, ms_14, mc_1, mp_1, mc_2, mp_2, mc_3, mp_3, mc_4, mp_4, mc_5, mp_5, mc_6, mp_6, mc_7, mp_7, mc_8, mp_8, mc_9, mp_9, mc_10, mp_10, mc_11, mp_11, mc_12, mp_12, mc_13, mp_13, mc_14, mp_14, mc_15, mp_15, mc_16, mp_16, mc_17, mp_17, mc_18, mp_18, mc_19, mp_19, mc_20, mp_20, mc_21, mp_21, mc_22, mp_22, mc_23, mp_23, mc_24, mp_24, mc_25, mp_25, mc_26, mp_26, mc_27, mp_27, mc_28, mp_28, mc_29, mp_29, iu, cup, Nat.reduceEqDiff, iu_iu, m_bitCount]
      exact h3 _ _ b c1 (hM7.tell1 (KP.refl hM7.mx) rfl rfl)
    | succ j ih =>
      intro i hi
      have er : rch L M n s v (i + 1) = (if rch L M n s v i ≠ -1 ∧ ibc (nI i) ≤ ibc (rch L M n s v i) then rch L M n s v i else if tc_mo M (nI i) n = v then (if (decide (nI i &&& s = 0) && ich (fun l => tc_wh L (nI l) n &&& (s ^^^ (-1))) (nI i) 8 0) = true then nI i else rch L M n s v i) else rch L M n s v i) := rfl
      have ih := ih (i + 1) (by omega)
      rw [s_258_23]
      simp only [s_258_0, s_258_1, s_258_2, s_258_5, s_258_6, s_258_8, s_258_10, s_258_13, s_258_16, s_258_18, s_258_19, s_258_20, s_258_21, s_258_22, s_258_24, s_258_25, s_258_28, s_258_31, s_258_32, s_258_33, s_258_36, s_258_37, s_258_40, s_258_41, s_258_44, s_258_47, s_258_48, s_258_49, s_258_52, s_258_53, s_258_56, s_258_57, s_258_60, s_258_61, s_258_62, s_258_65, s_258_68, s_258_71, s_258_72, s_258_73, s_258_76, s_258_79, s_258_80, s_258_81, s_258_84, s_258_86, s_258_87, s_258_88, s_258_89, s_258_92, s_258_93, s_258_94, s_258_95, s_258_98, s_258_99, s_258_102, x_get_i, List.getElem?_cons_succ, List.getElem?_cons_zero, x_cv_j, cs_n, cs_i, cs_r, cs_l, Nat.reduceAdd, Nat.reduceLeDiff, true_and, Option.toList_some, Option.toList_none, List.cons_append, List.nil_append, if_true, if_false, nb0, nb1, x_setJ, x_setZ0, x_setZ1, x_setA, x_setO, List.length_cons, List.length_nil, Nat.reduceLT, List.set_cons_succ, List.set_cons_zero, wrl_0, wrl_1, wrl_2, wrl_3, wrl_4, wrl_5, wrl_p0, wrl_p1, wrl_p2, wrl_p3, wrl_p4, mh_o, mh_po, mcv, mg_0, mg_1, mg_2, mg_3, mg_4, mg_5, mg_6, mg_7, mg_8, mg_9, mg_10, mg_11, mg_12, mg_13, mg_14, mg_15, mg_16, mg_17, mg_18, mg_19, mg_20, mg_21, mg_22, mg_23, mg_24, mg_25, mg_26, mg_27, mg_28, mg_29, mg_30, mg_31, mg_32, mg_33, mg_34, mg_35, mg_36, mg_37, mg_38, mg_39, mg_40, mg_41, mg_42, mg_43, mg_44, mg_45, mg_46, ms_1, ms_4, ms_6, ms_7, ms_9, ms_10, ms_11, ms_12, ms_16, ms_20, ms_24, ms_28, ms_35, ms_39, ms_42, ms_43, ms_17t, ms_17f, ms_8, ms_14, mc_1, mp_1, mc_2, mp_2, mc_3, mp_3, mc_4, mp_4, mc_5, mp_5, mc_6, mp_6, mc_7, mp_7, mc_8, mp_8, mc_9, mp_9, mc_10, mp_10, mc_11, mp_11, mc_12, mp_12, mc_13, mp_13, mc_14, mp_14, mc_15, mp_15, mc_16, mp_16, mc_17, mp_17, mc_18, mp_18, mc_19, mp_19, mc_20, mp_20, mc_21, mp_21, mc_22, mp_22, mc_23, mp_23, mc_24, mp_24, mc_25, mp_25, mc_26, mp_26, mc_27, mp_27, mc_28, mp_28, mc_29, mp_29, iu, cup, Nat.reduceEqDiff, r_all i1, all_nI hn, show ¬ nI (2 ^ n - 1) < nI i from nI_nlt (by omega) (by omega), m_bitCount, r_moodsOf i1 hn kx, emo, r_isChord i1 hn hN hL, ewh, e36, nI_1]
      by_cases c1 : rch L M n s v i = -1
      · rw [if_neg (fun q => q.1 c1)] at er
        by_cases c3 : tc_mo M (nI i) n = v
        · rw [if_pos c3] at er
          cases c4 : (decide (nI i &&& s = 0) && ich (fun l => tc_wh L (nI l) n &&& (s ^^^ (-1))) (nI i) 8 0) with
          | false =>
            rw [c4, if_neg (by decide), c1] at er
            rw [er] at ih
            simp only [c1, c3, c4, bI, if_true, if_false, Bool.false_eq_true]
            exact ih
          | true =>
            rw [c4, if_pos rfl] at er
            rw [er] at ih
            simp only [c1, c3, c4, bI, if_true, show ¬ (1 : Int32) = 0 by decide, if_false]
            exact ih
        · rw [if_neg c3, c1] at er
          rw [er] at ih
          simp only [c1, c3, if_true, if_false]
          exact ih
      · by_cases c2 : ibc (nI i) ≤ ibc (rch L M n s v i)
        · rw [if_pos ⟨c1, c2⟩] at er
          rw [er] at ih
          simp only [c1, c2, if_true, if_false]
          exact ih
        · rw [if_neg (fun q => c2 q.2)] at er
          by_cases c3 : tc_mo M (nI i) n = v
          · rw [if_pos c3] at er
            cases c4 : (decide (nI i &&& s = 0) && ich (fun l => tc_wh L (nI l) n &&& (s ^^^ (-1))) (nI i) 8 0) with
            | false =>
              rw [c4, if_neg (by decide)] at er
              rw [er] at ih
              simp only [c1, c2, c3, c4, bI, if_true, if_false, Bool.false_eq_true]
              exact ih
            | true =>
              rw [c4, if_pos rfl] at er
              rw [er] at ih
              simp only [c1, c2, c3, c4, bI, if_true, show ¬ (1 : Int32) = 0 by decide, if_false]
              exact ih
          · rw [if_neg c3] at er
            rw [er] at ih
            simp only [c1, c2, c3, if_false]
            exact ih
  exact loop (2 ^ n) 0 (by omega)
end
