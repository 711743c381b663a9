/-! the reference's calls: fits, asks -/
def rfa (so : Nat → Bool) : Nat → Bool := fo (fun k b => b && so k) true
theorem rfa_all {so : Nat → Bool} : ∀ {j : Nat}, rfa so j = true ↔ ∀ k, k < j → so k = true
  | 0 => ⟨fun _ k hk => absurd hk (Nat.not_lt_zero k), fun _ => rfl⟩
  | j + 1 => by
    have ih := rfa_all (so := so) (j := j)
    show (rfa so j && so j) = true ↔ _
    rw [Bool.and_eq_true, ih]
    constructor
    · rintro ⟨h1, h2⟩ k hk
      by_cases e : k = j
      · subst e; exact h2
      · exact h1 k (by omega)
    · intro h
      exact ⟨fun k hk => h k (by omega), h j (by omega)⟩
/-- those of which all is so -/
def rft (al : Nat → Bool) : Nat → Int32 := fo (fun i a => a ||| (if al i then 1 <<< (nI i &&& 31) else 0)) 0
theorem rft_b {al : Nat → Bool} {i : Nat} (hi : i < 32) : ∀ {n : Nat}, n ≤ 12 → bt (rft al n) i = (decide (i < n) && al i)
  | 0, _ => by
    have e : rft al 0 = 0 := rfl
    rw [e, bt_0]; rfl
  | n + 1, hn => by
    have ih := rft_b (al := al) hi (n := n) (by omega)
    have es : rft al (n + 1) = rft al n ||| (if al n then 1 <<< (nI n &&& 31) else 0) := rfl
    rw [es, bt_or, ih]
    by_cases e : i = n
    · subst e
      rw [decide_eq_false (Nat.lt_irrefl i), decide_eq_true (Nat.lt_succ_self i)]
      cases h : al i with
      | true => rw [if_pos rfl, bt_one (by omega) hi, decide_eq_true rfl]; rfl
      | false => rw [if_neg (by decide), bt_0]; rfl
    · have e1 : decide (i < n + 1) = decide (i < n) := by
        by_cases c : i < n
        · rw [decide_eq_true c, decide_eq_true (by omega)]
        · rw [decide_eq_false c, decide_eq_false (by omega)]
      rw [e1]
      cases h : al n with
      | true => rw [if_pos rfl, bt_one (by omega) hi, decide_eq_false e, Bool.or_false]
      | false => rw [if_neg (by decide), bt_0, Bool.or_false]
theorem han_r {L W M B : Nat → Int32} {s x : Int32} {n : Nat} : han L W M B s x n = rft (fun i => hso L W M B s i (x / 10) (x - x / 10 * 10)) n := rfl
theorem hft_b {L W M B H : Nat → Int32} {s : Int32} {n i : Nat} (hn : n ≤ 12) (hi : i < 32) : ∀ j, bt (hft L W M B s n H j) i = (decide (i < n) && rfa (fun k => hso L W M B s i (H k / 10) (H k - H k / 10 * 10)) j)
  | 0 => by
    have e : hft L W M B s n H 0 = tc_allv (nI n) := rfl
    rw [e, all_b hn hi]
    show _ = (decide (i < n) && true)
    rw [Bool.and_true]
  | j + 1 => by
    have ih := hft_b (L := L) (W := W) (M := M) (B := B) (H := H) (s := s) hn hi j
    have es : hft L W M B s n H (j + 1) = hft L W M B s n H j &&& han L W M B s (H j) n := rfl
    have es2 : rfa (fun k => hso L W M B s i (H k / 10) (H k - H k / 10 * 10)) (j + 1) = (rfa (fun k => hso L W M B s i (H k / 10) (H k - H k / 10 * 10)) j && hso L W M B s i (H j / 10) (H j - H j / 10 * 10)) := rfl
    rw [es, bt_and, ih, han_r, rft_b hi hn, es2]
    cases decide (i < n) <;> simp
theorem d10 {w v : Nat} (hw : w < 5) (hv : v < 10) : nI (10 * w + v) / 10 = nI w ∧ nI (10 * w + v) - nI (10 * w + v) / 10 * 10 = nI v := by
  have : ∀ w : Fin 5, ∀ v : Fin 10, nI (10 * w.1 + v.1) / 10 = nI w.1 ∧ nI (10 * w.1 + v.1) - nI (10 * w.1 + v.1) / 10 * 10 = nI v.1 := by decide +kernel
  exact this ⟨w, hw⟩ ⟨v, hv⟩
theorem d10' {k : Nat} (hk : k < 50) : nI k / 10 = nI (k / 10) ∧ nI k - nI k / 10 * 10 = nI (k % 10) := by
  have := d10 (w := k / 10) (v := k % 10) (by omega) (by omega)
  rwa [show 10 * (k / 10) + k % 10 = k by omega] at this
/-- a fold over a stretch -/
def frg {α : Type} (f : Nat → α → α) : Nat → Nat → α → α
  | 0, _, a => a
  | j + 1, k, a => frg f j (k + 1) (f k a)
theorem frg_add {α : Type} {f : Nat → α → α} : ∀ {i j k : Nat} {a : α}, frg f (i + j) k a = frg f j (k + i) (frg f i k a)
  | 0, j, k, a => by rw [Nat.zero_add]; rfl
  | i + 1, j, k, a => by
    rw [show i + 1 + j = (i + j) + 1 by omega]
    show frg f (i + j) (k + 1) (f k a) = frg f j (k + (i + 1)) (frg f i (k + 1) (f k a))
    rw [frg_add, show k + 1 + i = k + (i + 1) by omega]
theorem frg_skip {α : Type} {f : Nat → α → α} : ∀ {j k : Nat} {a : α}, (∀ i a, k ≤ i → i < k + j → f i a = a) → frg f j k a = a
  | 0, k, a, _ => rfl
  | j + 1, k, a, h => by
    show frg f j (k + 1) (f k a) = a
    rw [h k a (Nat.le_refl _) (by omega)]
    exact frg_skip (fun i a h1 h2 => h i a (by omega) (by omega))
/-- one question against the best so far -/
def fA (la : Int32 → Int32) (k : Nat) (a : Int32 × Int32) : Int32 × Int32 := if hm (nI (k / 10)) < nI (k % 10) then a else if a.2 ≤ la (nI k) then a else (nI k, la (nI k))
theorem hbv_f {la : Int32 → Int32} {w : Nat} (hw : w < 5) : ∀ {j v : Nat} {a : Int32 × Int32}, v + j ≤ 10 → (∀ i, v ≤ i → i < v + j → ¬ hm (nI w) < nI i) → hbv la w j v a = frg (fA la) j (10 * w + v) a
  | 0, v, a, _, _ => rfl
  | j + 1, v, a, hv, h => by
    have e1 : hbv la w (j + 1) v a = hbv la w j (v + 1) (if a.2 ≤ la (nI (10 * w + v)) then a else (nI (10 * w + v), la (nI (10 * w + v)))) := rfl
    have e2 : frg (fA la) (j + 1) (10 * w + v) a = frg (fA la) j (10 * w + v + 1) (fA la (10 * w + v) a) := rfl
    have e3 : fA la (10 * w + v) a = if a.2 ≤ la (nI (10 * w + v)) then a else (nI (10 * w + v), la (nI (10 * w + v))) := by
      unfold fA
      rw [show (10 * w + v) / 10 = w by omega, show (10 * w + v) % 10 = v by omega, if_neg (h v (Nat.le_refl _) (by omega))]
    rw [e1, e2, e3]
    exact hbv_f hw (by omega) (fun i h1 h2 => h i (by omega) (by omega))
theorem hbw_f {la : Int32 → Int32} : ∀ {j w : Nat} {a : Int32 × Int32}, w + j = 5 → hbw la j w a = frg (fA la) (10 * j) (10 * w) a
  | 0, w, a, _ => rfl
  | j + 1, w, a, hw => by
    have hw5 : w < 5 := by omega
    have hm9 : ∀ w : Fin 5, (hm (nI w.1)).toNatClampNeg + 1 ≤ 10 ∧ ∀ i : Fin 10, (i.1 < (hm (nI w.1)).toNatClampNeg + 1 ↔ ¬ hm (nI w.1) < nI i.1) := by decide +kernel
    obtain ⟨k1, k2⟩ := hm9 ⟨w, hw5⟩
    dsimp only at k1 k2
    obtain ⟨c, hc⟩ : ∃ c, c = (hm (nI w)).toNatClampNeg + 1 := ⟨_, rfl⟩
    rw [← hc] at k1 k2
    have e1 : hbw la (j + 1) w a = hbw la j (w + 1) (hbv la w c 0 a) := by rw [hc]; rfl
    rw [e1, hbw_f (by omega), hbv_f hw5 (by omega) (fun i h1 h2 => (k2 ⟨i, by omega⟩).mp (by show i < c; omega)), Nat.add_zero]
    have e2 : frg (fA la) (10 * (j + 1)) (10 * w) a = frg (fA la) (10 * j) (10 * w + 10) (frg (fA la) 10 (10 * w) a) := by
      rw [show 10 * (j + 1) = 10 + 10 * j by omega, frg_add]
    have e3 : frg (fA la) 10 (10 * w) a = frg (fA la) c (10 * w) a := by
      have := frg_add (f := fA la) (i := c) (j := 10 - c) (k := 10 * w) (a := a)
      rw [show c + (10 - c) = 10 by omega] at this
      rw [this]
      refine frg_skip (fun i a h1 h2 => ?_)
      unfold fA
      rw [show i / 10 = w by omega]
      refine if_pos ?_
      have := k2 ⟨i % 10, by omega⟩
      dsimp only at this
      apply Classical.byContradiction
      intro q
      have := this.mpr q
      omega
    rw [e2, e3, show 10 * w + 10 = 10 * (w + 1) by omega]
    rfl
theorem fA_inv {la : Int32 → Int32} : ∀ {j k : Nat} {a : Int32 × Int32}, a.2 = la a.1 → (frg (fA la) j k a).2 = la (frg (fA la) j k a).1
  | 0, k, a, h => h
  | j + 1, k, a, h => by
    show (frg (fA la) j (k + 1) (fA la k a)).2 = la (frg (fA la) j (k + 1) (fA la k a)).1
    refine fA_inv ?_
    unfold fA
    split
    · exact h
    · split
      · exact h
      · rfl
/-- both begin with the first question -/
theorem asks_e {la : Int32 → Int32} (h0 : ∃ p, p ≤ 12 ∧ la (nI 0) = nI p) : frg (fA la) 50 0 (-1, 1000000) = hbw la 5 0 (0, 13) ∧ (hbw la 5 0 (0, 13)).2 = la (hbw la 5 0 (0, 13)).1 := by
  obtain ⟨p, hp, ep⟩ := h0
  have s : ∀ z : Int32 × Int32, (z.2 = 13 ∨ z.2 = 1000000) → fA la 0 z = (nI 0, la (nI 0)) := by
    intro z hz
    unfold fA
    rw [if_neg (by decide), if_neg]
    rw [ep]
    rcases hz with e | e
    · rw [e]; exact nI_ge (b := 13) (by omega) (by decide)
    · rw [e]; exact nI_ge (b := 1000000) (by omega) (by decide)
  have e1 : frg (fA la) 50 0 (-1, 1000000) = frg (fA la) 49 1 (nI 0, la (nI 0)) := by
    show frg (fA la) 49 1 (fA la 0 (-1, 1000000)) = _
    rw [s _ (Or.inr rfl)]
  have e2 : hbw la 5 0 (0, 13) = frg (fA la) 49 1 (nI 0, la (nI 0)) := by
    rw [hbw_f rfl]
    show frg (fA la) 49 1 (fA la 0 (0, 13)) = _
    rw [s _ (Or.inl rfl)]
  rw [e1, e2]
  exact ⟨rfl, fA_inv rfl⟩
/-- how many of a set it is so of -/
theorem yes_e {f : Int32} {so : Nat → Bool} : ∀ {n : Nat}, n ≤ 12 → fo (fun i a => a + (if (f >>> (nI i &&& 31)) &&& 1 = 1 then (if so i then (1 : Int32) else 0) else 0)) 0 n = ibc (f &&& rft so n) := by
  intro n hn
  have e1 : ∀ k, k ≤ 12 → fo (fun i a => a + (if (f >>> (nI i &&& 31)) &&& 1 = 1 then (if so i then (1 : Int32) else 0) else 0)) 0 k = nI (cn (fun i => bt f i && so i) k) := by
    intro k
    induction k with
    | zero => intro _; rfl
    | succ k ih =>
      intro hk
      show fo (fun i a => a + (if (f >>> (nI i &&& 31)) &&& 1 = 1 then (if so i then (1 : Int32) else 0) else 0)) 0 k + (if (f >>> (nI k &&& 31)) &&& 1 = 1 then (if so k then (1 : Int32) else 0) else 0) = _
      rw [ih (by omega), cn_s]
      by_cases c : bt f k = true
      · rw [if_pos ((bt_sr (by omega)).mpr c), c, Bool.true_and]
        cases so k with
        | true => rw [if_pos rfl, if_pos rfl]; exact nI_1 _
        | false => rw [if_neg (by decide), if_neg (by decide)]; exact Int32.add_zero _
      · have c' : bt f k = false := by cases hb : bt f k with
          | true => exact absurd hb c
          | false => rfl
        rw [if_neg (fun q => c ((bt_sr (by omega)).mp q)), c', Bool.false_and, if_neg (by decide)]
        exact Int32.add_zero _
  have hl : lo12 (f &&& rft so n) := by
    intro i h1 h2
    rw [bt_and, rft_b h2 hn, decide_eq_false (by omega), Bool.false_and, Bool.and_false]
  rw [e1 n hn, ibc_cn hl]
  congr 1
  have e2 : cn (bt (f &&& rft so n)) 12 = cn (bt (f &&& rft so n)) n := by
    have := cn_up (p := bt (f &&& rft so n)) (k := n) (j := 12 - n) (fun i h1 h2 => by rw [bt_and, rft_b (by omega) hn, decide_eq_false (by omega), Bool.false_and, Bool.and_false])
    rwa [show n + (12 - n) = 12 by omega] at this
  rw [e2]
  exact cn_cg (fun i hi => by rw [bt_and, rft_b (by omega) hn, decide_eq_true hi, Bool.true_and])
section
variable {sa : g_SA} {sc : Nat × Nat × (Nat → Int32)} {xt : Nat → Nat → List Value → tm_H → Option (Option Value × tm_H)} {d m : Nat} {h : tm_H} {Q : Option Value → tm_H → Prop} {I : Nat → Int32} {rd : Value} {ru : Nat} {C : Nat → tm_E}
variable {c n u : Nat} {F L W M B N Lm H Ms Bs Os : Nat → Int32} {s g : Int32} {rc hc mc : Nat} {R : Nat → Int64} {tx : Nat × (Nat → Int32)} {rw : Nat × (Nat → Int64)} {nw : TN} {pa : PA} {cd : List Int32} {he : Nat × (Nat → Int32)} {mi : Nat × (Nat → Int32) × (Nat → Int32) × (Nat → Int32)}
theorem r_isSo {i w y : Nat} (hN : C 1 = .inl (0, 38, .inl N)) (hL : C 2 = .inl (0, 12, .inl L)) (hi : i < 12) (hw : w < 5) (hy : y < 10) (h2 : w = 2 → y ≤ 1) : tm_D (g_G sa sc xt) (d + 1) 262 [.ref m, .int (nI i), .int (nI w), .int (nI y)] (mh h m I rd ru C) Q ↔ Q (some (.int (bI (hso L N (rM N) (rB N) (N 36) i (nI w) (nI y))))) (mh h m I rd ru C) := by
  rw [e_262]
  simp only [s_262_0, s_262_1, s_262_32, s_262_33, s_262_36, s_262_37, s_262_38, s_262_39, s_262_42, s_262_43, s_262_46, s_262_47, s_262_48, s_262_49, s_262_52, s_262_53, s_262_54, s_262_55, s_262_58, s_262_59, s_262_62, s_262_63, s_262_64, s_262_65, s_262_68, s_262_70, s_262_71, s_262_72, s_262_75, s_262_76, s_262_77, s_262_80, s_262_81, s_262_84, s_262_85, s_262_88, s_262_89, s_262_92, s_262_93, s_262_94, s_262_95, s_262_98, s_262_100, s_262_101, s_262_102, s_262_103, s_262_104, s_262_107, s_262_108, s_262_111, s_262_112, s_262_113, s_262_114, s_262_117, s_262_119, s_262_120, s_262_121, s_262_122, s_262_123, s_262_126, s_262_127, s_262_130, s_262_131, x_get_i, List.getElem?_cons_succ, List.getElem?_cons_zero, x_cv_j, cs_n, cs_i, cs_r, cs_l, Nat.reduceAdd, Nat.reduceLeDiff, true_and, Option.toList_some, Option.toList_none, List.cons_append, List.nil_append, if_true, if_false, nb0, nb1, x_setJ, x_setZ0, x_setZ1, x_setA, x_setO, List.length_cons, List.length_nil, Nat.reduceLT, List.set_cons_succ, List.set_cons_zero, wrl_0, wrl_1, wrl_2, wrl_3, wrl_4, wrl_5, wrl_p0, wrl_p1, wrl_p2, wrl_p3, wrl_p4, mh_o, mh_po, mcv, mg_0, mg_1, mg_2, mg_3, mg_4, mg_5, mg_6, mg_7, mg_8, mg_9, mg_10, mg_11, mg_12, mg_13, mg_14, mg_15, mg_16, mg_17, mg_18, mg_19, mg_20, mg_21, mg_22, mg_23, mg_24, mg_25, mg_26, mg_27, mg_28, mg_29, mg_30, mg_31, mg_32, mg_33, mg_34, mg_35, mg_36, mg_37, mg_38, mg_39, mg_40, mg_41, mg_42, mg_43, mg_44, mg_45, mg_46, ms_1, ms_4, ms_6, ms_7, ms_9, ms_10, ms_11, ms_12, ms_16, ms_20, ms_24, ms_28, ms_35, ms_39, ms_42, ms_43, ms_17t, ms_17f, ms_8, ms_14, mc_1, mp_1, mc_2, mp_2, mc_3, mp_3, mc_4, mp_4, mc_5, mp_5, mc_6, mp_6, mc_7, mp_7, mc_8, mp_8, mc_9, mp_9, mc_10, mp_10, mc_11, mp_11, mc_12, mp_12, mc_13, mp_13, mc_14, mp_14, mc_15, mp_15, mc_16, mp_16, mc_17, mp_17, mc_18, mp_18, mc_19, mp_19, mc_20, mp_20, mc_21, mp_21, mc_22, mp_22, mc_23, mp_23, mc_24, mp_24, mc_25, mp_25, mc_26, mp_26, mc_27, mp_27, mc_28, mp_28, mc_29, mp_29, iu, cup, Nat.reduceEqDiff, hN, hL, i36, e12, e24, x_ild_n hi n12, x_ild_n (show i < 38 by omega) n38, x_ild_n (show 36 < 38 by decide) n38, x_ild_n (show 12 + i < 38 by omega) n38, x_ild_n (show 24 + i < 38 by omega) n38, r_has]
  unfold hso
  rcases (show w = 0 ∨ w = 1 ∨ w = 2 ∨ w = 3 ∨ w = 4 by omega) with e | e | e | e | e
  · subst e
    simp only [show nI 0 = 0 from rfl, if_true]
    by_cases c : L i = nI y
    · simp only [c, if_true, decide_true, bI]
    · simp only [c, if_false, decide_false, bI, Bool.false_eq_true]
  · subst e
    simp only [show nI 1 = 1 from rfl, show ¬ (1 : Int32) = 0 by decide, if_true, if_false]
    by_cases c : nI y ≤ N i
    · simp only [c, Int32.not_lt.mpr c, if_true, if_false, decide_true, bI]
    · simp only [c, Int32.not_le.mp c, if_true, if_false, decide_false, bI, Bool.false_eq_true]
  · subst e
    have y2 : y = 0 ∨ y = 1 := by have := h2 rfl; omega
    have hbit : (N 36 >>> (nI i &&& 31)) &&& 1 = 0 ∨ (N 36 >>> (nI i &&& 31)) &&& 1 = 1 := by
      by_cases q : (N 36 >>> (nI i &&& 31)) &&& 1 = 1
      · exact Or.inr q
      · refine Or.inl ?_
        obtain ⟨z, hz⟩ : ∃ z, z = N 36 >>> (nI i &&& 31) := ⟨_, rfl⟩
        rw [← hz] at q ⊢
        apply bt_ext
        intro j hj
        rw [bt_and, bt_0]
        have hb : ∀ j : Fin 32, bt 1 j.1 = decide (j.1 = 0) := by decide +kernel
        rw [hb ⟨j, hj⟩]
        by_cases j0 : j = 0
        · subst j0
          cases hz0 : bt z 0 with
          | false => rfl
          | true =>
            exfalso
            apply q
            apply bt_ext
            intro k hk
            rw [bt_and, hb ⟨k, hk⟩]
            by_cases k0 : k = 0
            · subst k0; rw [hz0]; rfl
            · rw [decide_eq_false k0, Bool.and_false]
        · rw [decide_eq_false j0, Bool.and_false]
    simp only [show nI 2 = 2 from rfl, show ¬ (2 : Int32) = 0 by decide, show ¬ (2 : Int32) = 1 by decide, if_true, if_false]
    rcases y2 with e | e
    · subst e
      simp only [show nI 0 = 0 from rfl, show ¬ (0 : Int32) = 1 by decide, if_false]
      rcases hbit with q | q
      · simp only [q, show ¬ (0 : Int32) = 1 by decide, if_true, if_false, decide_true, bI]
      · simp only [q, show ¬ (1 : Int32) = 0 by decide, if_true, if_false, decide_false, bI, Bool.false_eq_true]
    · subst e
      simp only [show nI 1 = 1 from rfl, if_true]
      rcases hbit with q | q
      · simp only [q, show ¬ (0 : Int32) = 1 by decide, if_true, if_false, decide_false, bI, Bool.false_eq_true]
      · simp only [q, if_true, decide_true, bI]
  · subst e
    simp only [show nI 3 = 3 from rfl, show ¬ (3 : Int32) = 0 by decide, show ¬ (3 : Int32) = 1 by decide, show ¬ (3 : Int32) = 2 by decide, if_true, if_false]
    by_cases c : N (24 + i) = nI y
    · simp only [c, if_true, decide_true, bI]
    · simp only [c, if_false, decide_false, bI, Bool.false_eq_true]
  · subst e
    simp only [show nI 4 = 4 from rfl, show ¬ (4 : Int32) = 0 by decide, show ¬ (4 : Int32) = 1 by decide, show ¬ (4 : Int32) = 2 by decide, show ¬ (4 : Int32) = 3 by decide, if_true, if_false]
    by_cases c : nI y ≤ N (12 + i)
    · simp only [c, Int32.not_lt.mpr c, if_true, if_false, decide_true, bI]
    · simp only [c, Int32.not_le.mp c, if_true, if_false, decide_false, bI, Bool.false_eq_true]
theorem hso_RW {Lm : Nat → Int32} {i : Nat} {w y : Int32} (hr : RW N (L, W, M, B, n, s, g)) (hLe : ∀ i, i < n → Lm i = L i) (hi : i < n) (hn : n ≤ 12) : hso Lm N (rM N) (rB N) (N 36) i w y = hso L W M B s i w y := by
  have e1 : N i = W i := hr.1 i (by omega)
  have e2 : rM N i = M i := hr.2.1 i (by omega)
  have e3 : rB N i = B i := hr.2.2.1 i (by omega)
  have e4 : N 36 = s := hr.2.2.2.1
  unfold hso
  rw [e1, e2, e3, e4, hLe i hi]
theorem m_fitting (hM : MV I C tx rw (L, W, M, B, n, s, g) pa cd (hc, H) mi) : tm_D (g_G sa sc xt) (d + 2) 263 [.ref m] (mh h m I rd (m + 6) C) Q ↔ Q (some (.int (hft L W M B s n H hc))) (mh h m I rd (m + 6) C) := by
  obtain ⟨N, Lm, f11, hG, hN, hL, h11, hr, hLe, hwf, i1, hn⟩ := hM.ngt (m := m)
  have i1 : I 1 = nI n := i1
  have hn : n ≤ 12 := hn
  obtain ⟨b1, b2, A, B', b3, b4, b5⟩ := hM.2.2.2.2.2.2.1
  have b1 : I 35 = nI hc := b1
  have b2 : hc ≤ 12 := b2
  have e : hft L W M B s n H hc = rft (fun i => rfa (fun k => hso Lm N (rM N) (rB N) (N 36) i (A k) (B' k)) hc) n := by
    apply bt_ext
    intro i hi
    rw [hft_b hn hi, rft_b hi hn]
    by_cases c : i < n
    · rw [decide_eq_true c, Bool.true_and, Bool.true_and]
      unfold rfa
      refine fo_congr (fun k hk x => ?_)
      obtain ⟨w, v, w1, v1, -, e1, e2, e3⟩ := b5 k hk
      have e3 : H k = nI (10 * w + v) := e3
      dsimp only
      rw [hso_RW hr hLe c hn, e3, (d10 w1 v1).2, (d10 w1 v1).1, e1, e2]
    · rw [decide_eq_false c, Bool.false_and, Bool.false_and]
  rw [e]
  have outer : ∀ (j i : Nat) (x3 x4 : Value), i + j = n → (tm_X (g_G sa sc xt) (d + 2) 263 4 [.ref m, .int (rft (fun i => rfa (fun k => hso Lm N (rM N) (rB N) (N 36) i (A k) (B' k)) hc) i), .int (nI i), x3, x4] [] (mh h m I rd (m + 6) C) Q ↔ Q (some (.int (rft (fun i => rfa (fun k => hso Lm N (rM N) (rB N) (N 36) i (A k) (B' k)) hc) n))) (mh h m I rd (m + 6) C)) := by
    intro j
    induction j with
    | zero =>
      intro i x3 x4 hi
      have hi : i = n := by omega
      subst hi
      rw [s_263_4]
      simp only [s_263_0, s_263_1, s_263_2, s_263_3, s_263_5, s_263_6, s_263_9, s_263_12, s_263_13, s_263_14, s_263_15, s_263_19, s_263_20, s_263_23, s_263_26, s_263_27, s_263_30, s_263_31, s_263_32, s_263_33, s_263_36, s_263_38, s_263_39, s_263_40, s_263_43, s_263_45, s_263_46, s_263_49, s_263_52, s_263_53, s_263_56, s_263_57, s_263_58, s_263_61, s_263_64, s_263_65, s_263_66, s_263_69, s_263_70, s_263_71, s_263_72, s_263_75, s_263_76, s_263_77, s_263_78, s_263_81, s_263_84, s_263_85, x_get_i, List.getElem?_cons_succ, List.getElem?_cons_zero, x_cv_j, cs_n, cs_i, cs_r, cs_l, Nat.reduceAdd, Nat.reduceLeDiff, true_and, Option.toList_some, Option.toList_none, List.cons_append, List.nil_append, if_true, if_false, nb0, nb1, x_setJ, x_setZ0, x_setZ1, x_setA, x_setO, List.length_cons, List.length_nil, Nat.reduceLT, List.set_cons_succ, List.set_cons_zero, wrl_0, wrl_1, wrl_2, wrl_3, wrl_4, wrl_5, wrl_p0, wrl_p1, wrl_p2, wrl_p3, wrl_p4, mh_o, mh_po, mcv, mg_0, mg_1, mg_2, mg_3, mg_4, mg_5, mg_6, mg_7, mg_8, mg_9, mg_10, mg_11, mg_12, mg_13, mg_14, mg_15, mg_16, mg_17, mg_18, mg_19, mg_20, mg_21, mg_22, mg_23, mg_24, mg_25, mg_26, mg_27, mg_28, mg_29, mg_30, mg_31, mg_32, mg_33, mg_34, mg_35, mg_36, mg_37, mg_38, mg_39, mg_40, mg_41, mg_42, mg_43, mg_44, mg_45, mg_46, ms_1, ms_4, ms_6, ms_7, ms_9, ms_10, ms_11, ms_12, ms_16, ms_20, ms_24, ms_28, ms_35, ms_39, ms_42, ms_43, ms_17t, ms_17f, ms_8, ms_14, mc_1, mp_1, mc_2, mp_2, mc_3, mp_3, mc_4, mp_4, mc_5, mp_5, mc_6, mp_6, mc_7, mp_7, mc_8, mp_8, mc_9, mp_9, mc_10, mp_10, mc_11, mp_11, mc_12, mp_12, mc_13, mp_13, mc_14, mp_14, mc_15, mp_15, mc_16, mp_16, mc_17, mp_17, mc_18, mp_18, mc_19, mp_19, mc_20, mp_20, mc_21, mp_21, mc_22, mp_22, mc_23, mp_23, mc_24, mp_24, mc_25, mp_25, mc_26, mp_26, mc_27, mp_27, mc_28, mp_28, mc_29, mp_29, iu, cup, Nat.reduceEqDiff, i1, Int32.le_refl]
    | succ j ih =>
      intro i x3 x4 hi
      have hin : i < n := by omega
      have inner : ∀ (r k : Nat), k + r = hc → (tm_X (g_G sa sc xt) (d + 2) 263 17 [.ref m, .int (rft (fun i => rfa (fun k => hso Lm N (rM N) (rB N) (N 36) i (A k) (B' k)) hc) i), .int (nI i), .int (bI (rfa (fun k => hso Lm N (rM N) (rB N) (N 36) i (A k) (B' k)) k)), .int (nI k)] [] (mh h m I rd (m + 6) C) Q ↔ Q (some (.int (rft (fun i => rfa (fun k => hso Lm N (rM N) (rB N) (N 36) i (A k) (B' k)) hc) n))) (mh h m I rd (m + 6) C)) := by
        intro r
        induction r with
        | zero =>
          intro k hk
          have hk : k = hc := by omega
          subst hk
          have es : rft (fun i => rfa (fun k => hso Lm N (rM N) (rB N) (N 36) i (A k) (B' k)) k) (i + 1) = rft (fun i => rfa (fun k => hso Lm N (rM N) (rB N) (N 36) i (A k) (B' k)) k) i ||| (if rfa (fun k => hso Lm N (rM N) (rB N) (N 36) i (A k) (B' k)) k then 1 <<< (nI i &&& 31) else 0) := rfl
          rw [s_263_17]
          simp only [s_263_0, s_263_1, s_263_2, s_263_3, s_263_5, s_263_6, s_263_9, s_263_12, s_263_13, s_263_14, s_263_15, s_263_19, s_263_20, s_263_23, s_263_26, s_263_27, s_263_30, s_263_31, s_263_32, s_263_33, s_263_36, s_263_38, s_263_39, s_263_40, s_263_43, s_263_45, s_263_46, s_263_49, s_263_52, s_263_53, s_263_56, s_263_57, s_263_58, s_263_61, s_263_64, s_263_65, s_263_66, s_263_69, s_263_70, s_263_71, s_263_72, s_263_75, s_263_76, s_263_77, s_263_78, s_263_81, s_263_84, s_263_85, x_get_i, List.getElem?_cons_succ, List.getElem?_cons_zero, x_cv_j, cs_n, cs_i, cs_r, cs_l, Nat.reduceAdd, Nat.reduceLeDiff, true_and, Option.toList_some, Option.toList_none, List.cons_append, List.nil_append, if_true, if_false, nb0, nb1, x_setJ, x_setZ0, x_setZ1, x_setA, x_setO, List.length_cons, List.length_nil, Nat.reduceLT, List.set_cons_succ, List.set_cons_zero, wrl_0, wrl_1, wrl_2, wrl_3, wrl_4, wrl_5, wrl_p0, wrl_p1, wrl_p2, wrl_p3, wrl_p4, mh_o, mh_po, mcv, mg_0, mg_1, mg_2, mg_3, mg_4, mg_5, mg_6, mg_7, mg_8, mg_9, mg_10, mg_11, mg_12, mg_13, mg_14, mg_15, mg_16, mg_17, mg_18, mg_19, mg_20, mg_21, mg_22, mg_23, mg_24, mg_25, mg_26, mg_27, mg_28, mg_29, mg_30, mg_31, mg_32, mg_33, mg_34, mg_35, mg_36, mg_37, mg_38, mg_39, mg_40, mg_41, mg_42, mg_43, mg_44, mg_45, mg_46, ms_1, ms_4, ms_6, ms_7, ms_9, ms_10, ms_11, ms_12, ms_16, ms_20, ms_24, ms_28, ms_35, ms_39, ms_42, ms_43, ms_17t, ms_17f, ms_8, ms_14, mc_1, mp_1, mc_2, mp_2, mc_3, mp_3, mc_4, mp_4, mc_5, mp_5, mc_6, mp_6, mc_7, mp_7, mc_8, mp_8, mc_9, mp_9, mc_10, mp_10, mc_11, mp_11, mc_12, mp_12, mc_13, mp_13, mc_14, mp_14, mc_15, mp_15, mc_16, mp_16, mc_17, mp_17, mc_18, mp_18, mc_19, mp_19, mc_20, mp_20, mc_21, mp_21, mc_22, mp_22, mc_23, mp_23, mc_24, mp_24, mc_25, mp_25, mc_26, mp_26, mc_27, mp_27, mc_28, mp_28, mc_29, mp_29, iu, cup, Nat.reduceEqDiff, b1, Int32.le_refl, nI_1]
          cases hq : rfa (fun k => hso Lm N (rM N) (rB N) (N 36) i (A k) (B' k)) k with
          | true =>
            rw [hq, if_pos rfl] at es
            rw [← ih (i + 1) (.int 1) (.int (nI k)) (by omega), es]
            simp only [bI, if_true, show ¬ (1 : Int32) = 0 by decide, if_false]
          | false =>
            rw [hq, if_neg (by decide)] at es
            rw [← ih (i + 1) (.int 0) (.int (nI k)) (by omega), es]
            simp only [bI, if_true, if_false, Bool.false_eq_true]
        | succ r ihr =>
          intro k hk
          have hk12 : k < 12 := by omega
          obtain ⟨w, v, w1, v1, w2, e1, e2, e3⟩ := b5 k (by show k < hc; omega)
          have es : rfa (fun k => hso Lm N (rM N) (rB N) (N 36) i (A k) (B' k)) (k + 1) = (rfa (fun k => hso Lm N (rM N) (rB N) (N 36) i (A k) (B' k)) k && hso Lm N (rM N) (rB N) (N 36) i (A k) (B' k)) := rfl
          rw [s_263_17]
          simp only [s_263_0, s_263_1, s_263_2, s_263_3, s_263_5, s_263_6, s_263_9, s_263_12, s_263_13, s_263_14, s_263_15, s_263_19, s_263_20, s_263_23, s_263_26, s_263_27, s_263_30, s_263_31, s_263_32, s_263_33, s_263_36, s_263_38, s_263_39, s_263_40, s_263_43, s_263_45, s_263_46, s_263_49, s_263_52, s_263_53, s_263_56, s_263_57, s_263_58, s_263_61, s_263_64, s_263_65, s_263_66, s_263_69, s_263_70, s_263_71, s_263_72, s_263_75, s_263_76, s_263_77, s_263_78, s_263_81, s_263_84, s_263_85, x_get_i, List.getElem?_cons_succ, List.getElem?_cons_zero, x_cv_j, cs_n, cs_i, cs_r, cs_l, Nat.reduceAdd, Nat.reduceLeDiff, true_and, Option.toList_some, Option.toList_none, List.cons_append, List.nil_append, if_true, if_false, nb0, nb1, x_setJ, x_setZ0, x_setZ1, x_setA, x_setO, List.length_cons, List.length_nil, Nat.reduceLT, List.set_cons_succ, List.set_cons_zero, wrl_0, wrl_1, wrl_2, wrl_3, wrl_4, wrl_5, wrl_p0, wrl_p1, wrl_p2, wrl_p3, wrl_p4, mh_o, mh_po, mcv, mg_0, mg_1, mg_2, mg_3, mg_4, mg_5, mg_6, mg_7, mg_8, mg_9, mg_10, mg_11, mg_12, mg_13, mg_14, mg_15, mg_16, mg_17, mg_18, mg_19, mg_20, mg_21, mg_22, mg_23, mg_24, mg_25, mg_26, mg_27, mg_28, mg_29, mg_30, mg_31, mg_32, mg_33, mg_34, mg_35, mg_36, mg_37, mg_38, mg_39, mg_40, mg_41, mg_42, mg_43, mg_44, mg_45, mg_46, ms_1, ms_4, ms_6, ms_7, ms_9, ms_10, ms_11, ms_12, ms_16, ms_20, ms_24, ms_28, ms_35, ms_39, ms_42, ms_43, ms_17t, ms_17f, ms_8, ms_14, mc_1, mp_1, mc_2, mp_2, mc_3, mp_3, mc_4, mp_4, mc_5, mp_5, mc_6, mp_6, mc_7, mp_7, mc_8, mp_8, mc_9, mp_9, mc_10, mp_10, mc_11, mp_11, mc_12, mp_12, mc_13, mp_13, mc_14, mp_14, mc_15, mp_15, mc_16, mp_16, mc_17, mp_17, mc_18, mp_18, mc_19, mp_19, mc_20, mp_20, mc_21, mp_21, mc_22, mp_22, mc_23, mp_23, mc_24, mp_24, mc_25, mp_25, mc_26, mp_26, mc_27, mp_27, mc_28, mp_28, mc_29, mp_29, iu, cup, Nat.reduceEqDiff, b1, show ¬ nI hc ≤ nI k from nI_ge (by omega) (by omega), nI_1]
          cases hq : rfa (fun k => hso Lm N (rM N) (rB N) (N 36) i (A k) (B' k)) k with
          | true =>
            rw [hq, Bool.true_and] at es
            have hso' := fun Q => r_isSo (sa := sa) (sc := sc) (xt := xt) (d := d) (Q := Q) (h := h) (m := m) (I := I) (rd := rd) (ru := m + 6) (i := i) hN hL (by omega) w1 v1 w2
            rw [← e1, ← e2] at hso'
            simp only [bI, if_true, show ¬ (1 : Int32) = 0 by decide, if_false, s_263_0, s_263_1, s_263_2, s_263_3, s_263_5, s_263_6, s_263_9, s_263_12, s_263_13, s_263_14, s_263_15, s_263_19, s_263_20, s_263_23, s_263_26, s_263_27, s_263_30, s_263_31, s_263_32, s_263_33, s_263_36, s_263_38, s_263_39, s_263_40, s_263_43, s_263_45, s_263_46, s_263_49, s_263_52, s_263_53, s_263_56, s_263_57, s_263_58, s_263_61, s_263_64, s_263_65, s_263_66, s_263_69, s_263_70, s_263_71, s_263_72, s_263_75, s_263_76, s_263_77, s_263_78, s_263_81, s_263_84, s_263_85, x_get_i, List.getElem?_cons_succ, List.getElem?_cons_zero, x_cv_j, cs_n, cs_i, cs_r, cs_l, Nat.reduceAdd, Nat.reduceLeDiff, true_and, Option.toList_some, Option.toList_none, List.cons_append, List.nil_append, if_true, if_false, nb0, nb1, x_setJ, x_setZ0, x_setZ1, x_setA, x_setO, List.length_cons, List.length_nil, Nat.reduceLT, List.set_cons_succ, List.set_cons_zero, wrl_0, wrl_1, wrl_2, wrl_3, wrl_4, wrl_5, wrl_p0, wrl_p1, wrl_p2, wrl_p3, wrl_p4, mh_o, mh_po, mcv, mg_0, mg_1, mg_2, mg_3, mg_4, mg_5, mg_6, mg_7, mg_8, mg_9, mg_10, mg_11, mg_12, mg_13, mg_14, mg_15, mg_16, mg_17, mg_18, mg_19, mg_20, mg_21, mg_22, mg_23, mg_24, mg_25, mg_26, mg_27, mg_28, mg_29, mg_30, mg_31, mg_32, mg_33, mg_34, mg_35, mg_36, mg_37, mg_38, mg_39, mg_40, mg_41, mg_42, mg_43, mg_44, mg_45, mg_46, ms_1, ms_4, ms_6, ms_7, ms_9, ms_10, ms_11, ms_12, ms_16, ms_20, ms_24, ms_28, ms_35, ms_39, ms_42, ms_43, ms_17t, ms_17f, ms_8, ms_14, mc_1, mp_1, mc_2, mp_2, mc_3, mp_3, mc_4, mp_4, mc_5, mp_5, mc_6, mp_6, mc_7, mp_7, mc_8, mp_8, mc_9, mp_9, mc_10, mp_10, mc_11, mp_11, mc_12, mp_12, mc_13, mp_13, mc_14, mp_14, mc_15, mp_15, mc_16, mp_16, mc_17, mp_17, mc_18, mp_18, mc_19, mp_19, mc_20, mp_20, mc_21, mp_21, mc_22, mp_22, mc_23, mp_23, mc_24, mp_24, mc_25, mp_25, mc_26, mp_26, mc_27, mp_27, mc_28, mp_28, mc_29, mp_29, iu, cup, Nat.reduceEqDiff, b3, b4, x_ild_n hk12 n12, hso']
            rw [← ihr (k + 1) (by omega), es]
            cases hso Lm N (rM N) (rB N) (N 36) i (A k) (B' k) with
            | true => simp only [bI, if_true, show ¬ (1 : Int32) = 0 by decide, if_false, nI_1]
            | false => simp only [bI, if_true, if_false, Bool.false_eq_true, nI_1]
          | false =>
            rw [hq, Bool.false_and] at es
            rw [← ihr (k + 1) (by omega), es]
            simp only [bI, if_true, if_false, Bool.false_eq_true]
      rw [s_263_4]
      simp only [s_263_0, s_263_1, s_263_2, s_263_3, s_263_5, s_263_6, s_263_9, s_263_12, s_263_13, s_263_14, s_263_15, s_263_19, s_263_20, s_263_23, s_263_26, s_263_27, s_263_30, s_263_31, s_263_32, s_263_33, s_263_36, s_263_38, s_263_39, s_263_40, s_263_43, s_263_45, s_263_46, s_263_49, s_263_52, s_263_53, s_263_56, s_263_57, s_263_58, s_263_61, s_263_64, s_263_65, s_263_66, s_263_69, s_263_70, s_263_71, s_263_72, s_263_75, s_263_76, s_263_77, s_263_78, s_263_81, s_263_84, s_263_85, x_get_i, List.getElem?_cons_succ, List.getElem?_cons_zero, x_cv_j, cs_n, cs_i, cs_r, cs_l, Nat.reduceAdd, Nat.reduceLeDiff, true_and, Option.toList_some, Option.toList_none, List.cons_append, List.nil_append, if_true, if_false, nb0, nb1, x_setJ, x_setZ0, x_setZ1, x_setA, x_setO, List.length_cons, List.length_nil, Nat.reduceLT, List.set_cons_succ, List.set_cons_zero, wrl_0, wrl_1, wrl_2, wrl_3, wrl_4, wrl_5, wrl_p0, wrl_p1, wrl_p2, wrl_p3, wrl_p4, mh_o, mh_po, mcv, mg_0, mg_1, mg_2, mg_3, mg_4, mg_5, mg_6, mg_7, mg_8, mg_9, mg_10, mg_11, mg_12, mg_13, mg_14, mg_15, mg_16, mg_17, mg_18, mg_19, mg_20, mg_21, mg_22, mg_23, mg_24, mg_25, mg_26, mg_27, mg_28, mg_29, mg_30, mg_31, mg_32, mg_33, mg_34, mg_35, mg_36, mg_37, mg_38, mg_39, mg_40, mg_41, mg_42, mg_43, mg_44, mg_45, mg_46, ms_1, ms_4, ms_6, ms_7, ms_9, ms_10, ms_11, ms_12, ms_16, ms_20, ms_24, ms_28, ms_35, ms_39, ms_42, ms_43, ms_17t, ms_17f, ms_8, ms_14, mc_1, mp_1, mc_2, mp_2, mc_3, mp_3, mc_4, mp_4, mc_5, mp_5, mc_6, mp_6, mc_7, mp_7, mc_8, mp_8, mc_9, mp_9, mc_10, mp_10, mc_11, mp_11, mc_12, mp_12, mc_13, mp_13, mc_14, mp_14, mc_15, mp_15, mc_16, mp_16, mc_17, mp_17, mc_18, mp_18, mc_19, mp_19, mc_20, mp_20, mc_21, mp_21, mc_22, mp_22, mc_23, mp_23, mc_24, mp_24, mc_25, mp_25, mc_26, mp_26, mc_27, mp_27, mc_28, mp_28, mc_29, mp_29, iu, cup, Nat.reduceEqDiff, i1, show ¬ nI n ≤ nI i from nI_ge (by omega) (by omega)]
      exact inner hc 0 (by omega)
  rw [e_263]
  simp only [s_263_0, s_263_1, s_263_2, s_263_3, s_263_5, s_263_6, s_263_9, s_263_12, s_263_13, s_263_14, s_263_15, s_263_19, s_263_20, s_263_23, s_263_26, s_263_27, s_263_30, s_263_31, s_263_32, s_263_33, s_263_36, s_263_38, s_263_39, s_263_40, s_263_43, s_263_45, s_263_46, s_263_49, s_263_52, s_263_53, s_263_56, s_263_57, s_263_58, s_263_61, s_263_64, s_263_65, s_263_66, s_263_69, s_263_70, s_263_71, s_263_72, s_263_75, s_263_76, s_263_77, s_263_78, s_263_81, s_263_84, s_263_85]
  exact outer n 0 _ _ (by omega)
theorem m_fits (hM : MV I C tx (rc, R) (L, W, M, B, n, s, g) pa cd (hc, H) mi) (hQ : ∀ I' C', MV I' C' tx (rw1 R (ibc (hft L W M B s n H hc)).toInt64) (L, W, M, B, n, s, g) pa cd (hc, H) mi → Q (some (.int (hft L W M B s n H hc))) (mh h m I' rd (m + 6) C')) : tm_D (g_G sa sc xt) (d + 3) 264 [.ref m] (mh h m I rd (m + 6) C) Q := by
  have hM7 : MV (iu I 7 0) C tx (rc, R) (L, W, M, B, n, s, g) pa cd (hc, H) mi := hM.i7
  obtain ⟨R', hR'⟩ : ∃ R', C 4 = .inl (3, 16, .inr (.inl R')) := by obtain ⟨-, -, R', hR, -⟩ := hM.2.1; exact ⟨R', hR⟩
  rw [e_264]
  simp only [s_264_0, s_264_1, s_264_2, s_264_5, s_264_6, s_264_9, s_264_10, s_264_11, s_264_12, s_264_15, s_264_16, s_264_17, s_264_20, s_264_21, s_264_24, s_264_25, x_get_i, List.getElem?_cons_succ, List.getElem?_cons_zero, x_cv_j, cs_n, cs_i, cs_r, cs_l, Nat.reduceAdd, Nat.reduceLeDiff, true_and, Option.toList_some, Option.toList_none, List.cons_append, List.nil_append, if_true, if_false, nb0, nb1, x_setJ, x_setZ0, x_setZ1, x_setA, x_setO, List.length_cons, List.length_nil, Nat.reduceLT, List.set_cons_succ, List.set_cons_zero, wrl_0, wrl_1, wrl_2, wrl_3, wrl_4, wrl_5, wrl_p0, wrl_p1, wrl_p2, wrl_p3, wrl_p4, mh_o, mh_po, mcv, mg_0, mg_1, mg_2, mg_3, mg_4, mg_5, mg_6, mg_7, mg_8, mg_9, mg_10, mg_11, mg_12, mg_13, mg_14, mg_15, mg_16, mg_17, mg_18, mg_19, mg_20, mg_21, mg_22, mg_23, mg_24, mg_25, mg_26, mg_27, mg_28, mg_29, mg_30, mg_31, mg_32, mg_33, mg_34, mg_35, mg_36, mg_37, mg_38, mg_39, mg_40, mg_41, mg_42, mg_43, mg_44, mg_45, mg_46, ms_1, ms_4, ms_6, ms_7, ms_9, ms_10, ms_11, ms_12, ms_16, ms_20, ms_24, ms_28, ms_35, ms_39, ms_42, ms_43, ms_17t, ms_17f, ms_8, ms_14, mc_1, mp_1, mc_2, mp_2, mc_3, mp_3, mc_4, mp_4, mc_5, mp_5, mc_6, mp_6, mc_7, mp_7, mc_8, mp_8, mc_9, mp_9, mc_10, mp_10, mc_11, mp_11, mc_12, mp_12, mc_13, mp_13, mc_14, mp_14, mc_15, mp_15, mc_16, mp_16, mc_17, mp_17, mc_18, mp_18, mc_19, mp_19, mc_20, mp_20, mc_21, mp_21, mc_22, mp_22, mc_23, mp_23, mc_24, mp_24, mc_25, mp_25, mc_26, mp_26, mc_27, mp_27, mc_28, mp_28, mc_29, mp_29, iu, cup, Nat.reduceEqDiff]
  rw [m_fitting hM7]
  simp only [s_264_0, s_264_1, s_264_2, s_264_5, s_264_6, s_264_9, s_264_10, s_264_11, s_264_12, s_264_15, s_264_16, s_264_17, s_264_20, s_264_21, s_264_24, s_264_25, x_get_i, List.getElem?_cons_succ, List.getElem?_cons_zero, x_cv_j, cs_n, cs_i, cs_r, cs_l, Nat.reduceAdd, Nat.reduceLeDiff, true_and, Option.toList_some, Option.toList_none, List.cons_append, List.nil_append, if_true, if_false, nb0, nb1, x_setJ, x_setZ0, x_setZ1, x_setA, x_setO, List.length_cons, List.length_nil, Nat.reduceLT, List.set_cons_succ, List.set_cons_zero, wrl_0, wrl_1, wrl_2, wrl_3, wrl_4, wrl_5, wrl_p0, wrl_p1, wrl_p2, wrl_p3, wrl_p4, mh_o, mh_po, mcv, mg_0, mg_1, mg_2, mg_3, mg_4, mg_5, mg_6, mg_7, mg_8, mg_9, mg_10, mg_11, mg_12, mg_13, mg_14, mg_15, mg_16, mg_17, mg_18, mg_19, mg_20, mg_21, mg_22, mg_23, mg_24, mg_25, mg_26, mg_27, mg_28, mg_29, mg_30, mg_31, mg_32, mg_33, mg_34, mg_35, mg_36, mg_37, mg_38, mg_39, mg_40, mg_41, mg_42, mg_43, mg_44, mg_45, mg_46, ms_1, ms_4, ms_6, ms_7, ms_9, ms_10, ms_11, ms_12, ms_16, ms_20, ms_24, ms_28, ms_35, ms_39, ms_42, ms_43, ms_17t, ms_17f, ms_8, ms_14, mc_1, mp_1, mc_2, mp_2, mc_3, mp_3, mc_4, mp_4, mc_5, mp_5, mc_6, mp_6, mc_7, mp_7, mc_8, mp_8, mc_9, mp_9, mc_10, mp_10, mc_11, mp_11, mc_12, mp_12, mc_13, mp_13, mc_14, mp_14, mc_15, mp_15, mc_16, mp_16, mc_17, mp_17, mc_18, mp_18, mc_19, mp_19, mc_20, mp_20, mc_21, mp_21, mc_22, mp_22, mc_23, mp_23, mc_24, mp_24, mc_25, mp_25, mc_26, mp_26, mc_27, mp_27, mc_28, mp_28, mc_29, mp_29, iu, cup, Nat.reduceEqDiff, m_bitCount]
  refine Iff.mpr (r_tell (k := 0) (R := R') (by decide) ?_ ?_ _) ?_
  · exact if_pos rfl
  · exact hR'
  simp only [s_264_0, s_264_1, s_264_2, s_264_5, s_264_6, s_264_9, s_264_10, s_264_11, s_264_12, s_264_15, s_264_16, s_264_17, s_264_20, s_264_21, s_264_24, s_264_25, x_get_i, List.getElem?_cons_succ, List.getElem?_cons_zero, x_cv_j, cs_n, cs_i, cs_r, cs_l, Nat.reduceAdd, Nat.reduceLeDiff, true_and, Option.toList_some, Option.toList_none, List.cons_append, List.nil_append, if_true, if_false, nb0, nb1, x_setJ, x_setZ0, x_setZ1, x_setA, x_setO, List.length_cons, List.length_nil, Nat.reduceLT, List.set_cons_succ, List.set_cons_zero, wrl_0, wrl_1, wrl_2, wrl_3, wrl_4, wrl_5, wrl_p0, wrl_p1, wrl_p2, wrl_p3, wrl_p4, mh_o, mh_po, mcv, mg_0, mg_1, mg_2, mg_3, mg_4, mg_5, mg_6, mg_7, mg_8, mg_9, mg_10, mg_11, mg_12, mg_13, mg_14, mg_15, mg_16, mg_17, mg_18, mg_19, mg_20, mg_21, mg_22, mg_23, mg_24, mg_25, mg_26, mg_27, mg_28, mg_29, mg_30, mg_31, mg_32, mg_33, mg_34, mg_35, mg_36, mg_37, mg_38, mg_39, mg_40, mg_41, mg_42, mg_43, mg_44, mg_45, mg_46, ms_1, ms_4, ms_6, ms_7, ms_9, ms_10, ms_11, ms_12, ms_16, ms_20, ms_24, ms_28, ms_35, ms_39, ms_42, ms_43, ms_17t, ms_17f, ms_8, ms_14, mc_1, mp_1, mc_2, mp_2, mc_3, mp_3, mc_4, mp_4, mc_5, mp_5, mc_6, mp_6, mc_7, mp_7, mc_8, mp_8, mc_9, mp_9, mc_10, mp_10, mc_11, mp_11, mc_12, mp_12, mc_13, mp_13, mc_14, mp_14, mc_15, mp_15, mc_16, mp_16, mc_17, mp_17, mc_18, mp_18, mc_19, mp_19, mc_20, mp_20, mc_21, mp_21, mc_22, mp_22, mc_23, mp_23, mc_24, mp_24, mc_25, mp_25, mc_26, mp_26, mc_27, mp_27, mc_28, mp_28, mc_29, mp_29, iu, cup, Nat.reduceEqDiff, iu_iu]
  exact hQ _ _ (hM7.tell1 (KP.refl hM7.mx) rfl rfl)
theorem m_asks (hM : MV I C tx (rc, R) (L, W, M, B, n, s, g) pa cd (hc, H) mi) (h1 : hft L W M B s n H hc = 0 → ∀ I', MV I' C tx (rc, R) (L, W, M, B, n, s, g) pa cd (hc, H) mi → Q (some (.int (-2))) (mh h m I' rd (m + 6) C)) (h2 : ¬ hft L W M B s n H hc = 0 → ∀ I' C', MV I' C' tx (rw1 R (hla L W M B s n (hft L W M B s n H hc) (hbw (hla L W M B s n (hft L W M B s n H hc)) 5 0 (0, 13)).1).toInt64) (L, W, M, B, n, s, g) pa cd (hc, H) mi → Q (some (.int (hbw (hla L W M B s n (hft L W M B s n H hc)) 5 0 (0, 13)).1)) (mh h m I' rd (m + 6) C')) : tm_D (g_G sa sc xt) (d + 3) 265 [.ref m] (mh h m I rd (m + 6) C) Q := by
  have hM7 : MV (iu I 7 0) C tx (rc, R) (L, W, M, B, n, s, g) pa cd (hc, H) mi := hM.i7
  obtain ⟨N, Lm, f11, hG, hN, hL, h11, hr, hLe, hwf, i1, hn⟩ := hM7.ngt (m := m)
  have i1 : (iu I 7 0) 1 = nI n := i1
  have hn : n ≤ 12 := hn
  obtain ⟨I0, hI0⟩ : ∃ I0, I0 = iu I 7 0 := ⟨_, rfl⟩
  rw [← hI0] at i1 hM7
  obtain ⟨R', hR'⟩ : ∃ R', C 4 = .inl (3, 16, .inr (.inl R')) := by obtain ⟨-, -, R', hR, -⟩ := hM.2.1; exact ⟨R', hR⟩
  have hlo : lo12 (hft L W M B s n H hc) := fun i q1 q2 => by rw [hft_b hn q2, decide_eq_false (by omega)]; rfl
  obtain ⟨f, hf⟩ : ∃ f, f = hft L W M B s n H hc := ⟨_, rfl⟩
  rw [← hf] at h1 h2 hlo
  have hfit : ∀ {Q}, tm_D (g_G sa sc xt) (d + 2) 263 [.ref m] (mh h m I0 rd (m + 6) C) Q ↔ Q (some (.int f)) (mh h m I0 rd (m + 6) C) := fun {Q} => by rw [hf]; exact m_fitting hM7
  obtain ⟨la, hla0⟩ : ∃ la, la = hla L W M B s n f := ⟨_, rfl⟩
  rw [← hla0] at h2
  have hbd : ∀ x, ∃ p, p ≤ 12 ∧ la x = nI p := by
    intro x
    rw [hla0]
    unfold hla
    rw [ibc_cn (lo12_and hlo), ibc_cn hlo]
    have hle : cn (bt (f &&& han L W M B s x n)) 12 ≤ cn (bt f) 12 := cn_mono (fun i hi q => by rw [bt_and, Bool.and_eq_true] at q; exact q.1)
    have h12 : cn (bt f) 12 ≤ 12 := cn_le
    rw [nI_s hle]
    split
    · exact ⟨_, by omega, rfl⟩
    · exact ⟨_, by omega, rfl⟩
  obtain ⟨as1, as2⟩ := asks_e (la := la) (hbd _)
  rw [e_265]
  simp only [s_265_0, s_265_1, s_265_2, s_265_5, s_265_6, s_265_9, s_265_10, s_265_11, s_265_14, s_265_16, s_265_17, s_265_18, s_265_19, s_265_22, s_265_23, s_265_24, s_265_28, s_265_30, s_265_33, s_265_35, s_265_37, s_265_38, s_265_40, s_265_42, s_265_43, s_265_46, s_265_49, s_265_52, s_265_53, s_265_55, s_265_56, s_265_60, s_265_61, s_265_64, s_265_67, s_265_69, s_265_70, s_265_72, s_265_75, s_265_78, s_265_79, s_265_81, s_265_83, s_265_85, s_265_86, s_265_88, s_265_90, s_265_91, s_265_94, s_265_97, s_265_98, s_265_101, s_265_102, s_265_103, s_265_105, s_265_108, s_265_111, s_265_113, s_265_114, s_265_117, s_265_119, s_265_120, s_265_123, s_265_125, s_265_127, s_265_128, s_265_131, s_265_134, s_265_136, s_265_137, s_265_139, s_265_140, s_265_143, s_265_146, s_265_147, s_265_148, s_265_151, s_265_152, s_265_153, s_265_154, s_265_157, s_265_158, x_get_i, List.getElem?_cons_succ, List.getElem?_cons_zero, x_cv_j, cs_n, cs_i, cs_r, cs_l, Nat.reduceAdd, Nat.reduceLeDiff, true_and, Option.toList_some, Option.toList_none, List.cons_append, List.nil_append, if_true, if_false, nb0, nb1, x_setJ, x_setZ0, x_setZ1, x_setA, x_setO, List.length_cons, List.length_nil, Nat.reduceLT, List.set_cons_succ, List.set_cons_zero, wrl_0, wrl_1, wrl_2, wrl_3, wrl_4, wrl_5, wrl_p0, wrl_p1, wrl_p2, wrl_p3, wrl_p4, mh_o, mh_po, mcv, mg_0, mg_1, mg_2, mg_3, mg_4, mg_5, mg_6, mg_7, mg_8, mg_9, mg_10, mg_11, mg_12, mg_13, mg_14, mg_15, mg_16, mg_17, mg_18, mg_19, mg_20, mg_21, mg_22, mg_23, mg_24, mg_25, mg_26, mg_27, mg_28, mg_29, mg_30, mg_31, mg_32, mg_33, mg_34, mg_35, mg_36, mg_37, mg_38, mg_39, mg_40, mg_41, mg_42, mg_43, mg_44, mg_45, mg_46, ms_1, ms_4, ms_6, ms_7, ms_9, ms_10, ms_11, ms_12, ms_16, ms_20, ms_24, ms_28, ms_35, ms_39, ms_42, ms_43, ms_17t, ms_17f, ms_8, ms_14, mc_1, mp_1, mc_2, mp_2, mc_3, mp_3, mc_4, mp_4, mc_5, mp_5, mc_6, mp_6, mc_7, mp_7, mc_8, mp_8, mc_9, mp_9, mc_10, mp_10, mc_11, mp_11, mc_12, mp_12, mc_13, mp_13, mc_14, mp_14, mc_15, mp_15, mc_16, mp_16, mc_17, mp_17, mc_18, mp_18, mc_19, mp_19, mc_20, mp_20, mc_21, mp_21, mc_22, mp_22, mc_23, mp_23, mc_24, mp_24, mc_25, mp_25, mc_26, mp_26, mc_27, mp_27, mc_28, mp_28, mc_29, mp_29, iu, cup, Nat.reduceEqDiff]
  rw [← hI0, hfit]
  by_cases f0 : f = 0
  · simp only [s_265_0, s_265_1, s_265_2, s_265_5, s_265_6, s_265_9, s_265_10, s_265_11, s_265_14, s_265_16, s_265_17, s_265_18, s_265_19, s_265_22, s_265_23, s_265_24, s_265_28, s_265_30, s_265_33, s_265_35, s_265_37, s_265_38, s_265_40, s_265_42, s_265_43, s_265_46, s_265_49, s_265_52, s_265_53, s_265_55, s_265_56, s_265_60, s_265_61, s_265_64, s_265_67, s_265_69, s_265_70, s_265_72, s_265_75, s_265_78, s_265_79, s_265_81, s_265_83, s_265_85, s_265_86, s_265_88, s_265_90, s_265_91, s_265_94, s_265_97, s_265_98, s_265_101, s_265_102, s_265_103, s_265_105, s_265_108, s_265_111, s_265_113, s_265_114, s_265_117, s_265_119, s_265_120, s_265_123, s_265_125, s_265_127, s_265_128, s_265_131, s_265_134, s_265_136, s_265_137, s_265_139, s_265_140, s_265_143, s_265_146, s_265_147, s_265_148, s_265_151, s_265_152, s_265_153, s_265_154, s_265_157, s_265_158, x_get_i, List.getElem?_cons_succ, List.getElem?_cons_zero, x_cv_j, cs_n, cs_i, cs_r, cs_l, Nat.reduceAdd, Nat.reduceLeDiff, true_and, Option.toList_some, Option.toList_none, List.cons_append, List.nil_append, if_true, if_false, nb0, nb1, x_setJ, x_setZ0, x_setZ1, x_setA, x_setO, List.length_cons, List.length_nil, Nat.reduceLT, List.set_cons_succ, List.set_cons_zero, wrl_0, wrl_1, wrl_2, wrl_3, wrl_4, wrl_5, wrl_p0, wrl_p1, wrl_p2, wrl_p3, wrl_p4, mh_o, mh_po, mcv, mg_0, mg_1, mg_2, mg_3, mg_4, mg_5, mg_6, mg_7, mg_8, mg_9, mg_10, mg_11, mg_12, mg_13, mg_14, mg_15, mg_16, mg_17, mg_18, mg_19, mg_20, mg_21, mg_22, mg_23, mg_24, mg_25, mg_26, mg_27, mg_28, mg_29, mg_30, mg_31, mg_32, mg_33, mg_34, mg_35, mg_36, mg_37, mg_38, mg_39, mg_40, mg_41, mg_42, mg_43, mg_44, mg_45, mg_46, ms_1, ms_4, ms_6, ms_7, ms_9, ms_10, ms_11, ms_12, ms_16, ms_20, ms_24, ms_28, ms_35, ms_39, ms_42, ms_43, ms_17t, ms_17f, ms_8, ms_14, mc_1, mp_1, mc_2, mp_2, mc_3, mp_3, mc_4, mp_4, mc_5, mp_5, mc_6, mp_6, mc_7, mp_7, mc_8, mp_8, mc_9, mp_9, mc_10, mp_10, mc_11, mp_11, mc_12, mp_12, mc_13, mp_13, mc_14, mp_14, mc_15, mp_15, mc_16, mp_16, mc_17, mp_17, mc_18, mp_18, mc_19, mp_19, mc_20, mp_20, mc_21, mp_21, mc_22, mp_22, mc_23, mp_23, mc_24, mp_24, mc_25, mp_25, mc_26, mp_26, mc_27, mp_27, mc_28, mp_28, mc_29, mp_29, iu, cup, Nat.reduceEqDiff, f0, if_true, not_true_eq_false, if_false]
    exact h1 f0 _ hM7
  simp only [s_265_0, s_265_1, s_265_2, s_265_5, s_265_6, s_265_9, s_265_10, s_265_11, s_265_14, s_265_16, s_265_17, s_265_18, s_265_19, s_265_22, s_265_23, s_265_24, s_265_28, s_265_30, s_265_33, s_265_35, s_265_37, s_265_38, s_265_40, s_265_42, s_265_43, s_265_46, s_265_49, s_265_52, s_265_53, s_265_55, s_265_56, s_265_60, s_265_61, s_265_64, s_265_67, s_265_69, s_265_70, s_265_72, s_265_75, s_265_78, s_265_79, s_265_81, s_265_83, s_265_85, s_265_86, s_265_88, s_265_90, s_265_91, s_265_94, s_265_97, s_265_98, s_265_101, s_265_102, s_265_103, s_265_105, s_265_108, s_265_111, s_265_113, s_265_114, s_265_117, s_265_119, s_265_120, s_265_123, s_265_125, s_265_127, s_265_128, s_265_131, s_265_134, s_265_136, s_265_137, s_265_139, s_265_140, s_265_143, s_265_146, s_265_147, s_265_148, s_265_151, s_265_152, s_265_153, s_265_154, s_265_157, s_265_158, x_get_i, List.getElem?_cons_succ, List.getElem?_cons_zero, x_cv_j, cs_n, cs_i, cs_r, cs_l, Nat.reduceAdd, Nat.reduceLeDiff, true_and, Option.toList_some, Option.toList_none, List.cons_append, List.nil_append, if_true, if_false, nb0, nb1, x_setJ, x_setZ0, x_setZ1, x_setA, x_setO, List.length_cons, List.length_nil, Nat.reduceLT, List.set_cons_succ, List.set_cons_zero, wrl_0, wrl_1, wrl_2, wrl_3, wrl_4, wrl_5, wrl_p0, wrl_p1, wrl_p2, wrl_p3, wrl_p4, mh_o, mh_po, mcv, mg_0, mg_1, mg_2, mg_3, mg_4, mg_5, mg_6, mg_7, mg_8, mg_9, mg_10, mg_11, mg_12, mg_13, mg_14, mg_15, mg_16, mg_17, mg_18, mg_19, mg_20, mg_21, mg_22, mg_23, mg_24, mg_25, mg_26, mg_27, mg_28, mg_29, mg_30, mg_31, mg_32, mg_33, mg_34, mg_35, mg_36, mg_37, mg_38, mg_39, mg_40, mg_41, mg_42, mg_43, mg_44, mg_45, mg_46, ms_1, ms_4, ms_6, ms_7, ms_9, ms_10, ms_11, ms_12, ms_16, ms_20, ms_24, ms_28, ms_35, ms_39, ms_42, ms_43, ms_17t, ms_17f, ms_8, ms_14, mc_1, mp_1, mc_2, mp_2, mc_3, mp_3, mc_4, mp_4, mc_5, mp_5, mc_6, mp_6, mc_7, mp_7, mc_8, mp_8, mc_9, mp_9, mc_10, mp_10, mc_11, mp_11, mc_12, mp_12, mc_13, mp_13, mc_14, mp_14, mc_15, mp_15, mc_16, mp_16, mc_17, mp_17, mc_18, mp_18, mc_19, mp_19, mc_20, mp_20, mc_21, mp_21, mc_22, mp_22, mc_23, mp_23, mc_24, mp_24, mc_25, mp_25, mc_26, mp_26, mc_27, mp_27, mc_28, mp_28, mc_29, mp_29, iu, cup, Nat.reduceEqDiff, f0, if_false, not_false_eq_true, if_true]
  have loop : ∀ (j k : Nat) (a : Int32 × Int32) (x5 x6 : Value), k + j = 50 → frg (fA la) j k a = hbw la 5 0 (0, 13) → tm_X (g_G sa sc xt) (d + 3) 265 26 [.ref m, .int f, .int a.1, .int a.2, .int (nI k), x5, x6] [] (mh h m I0 rd (m + 6) C) Q := by
    intro j
    induction j with
    | zero =>
      intro k a x5 x6 hk ea
      have hk : k = 50 := by omega
      subst hk
      have ea : a = hbw la 5 0 (0, 13) := ea
      rw [s_265_26]
      simp only [s_265_0, s_265_1, s_265_2, s_265_5, s_265_6, s_265_9, s_265_10, s_265_11, s_265_14, s_265_16, s_265_17, s_265_18, s_265_19, s_265_22, s_265_23, s_265_24, s_265_28, s_265_30, s_265_33, s_265_35, s_265_37, s_265_38, s_265_40, s_265_42, s_265_43, s_265_46, s_265_49, s_265_52, s_265_53, s_265_55, s_265_56, s_265_60, s_265_61, s_265_64, s_265_67, s_265_69, s_265_70, s_265_72, s_265_75, s_265_78, s_265_79, s_265_81, s_265_83, s_265_85, s_265_86, s_265_88, s_265_90, s_265_91, s_265_94, s_265_97, s_265_98, s_265_101, s_265_102, s_265_103, s_265_105, s_265_108, s_265_111, s_265_113, s_265_114, s_265_117, s_265_119, s_265_120, s_265_123, s_265_125, s_265_127, s_265_128, s_265_131, s_265_134, s_265_136, s_265_137, s_265_139, s_265_140, s_265_143, s_265_146, s_265_147, s_265_148, s_265_151, s_265_152, s_265_153, s_265_154, s_265_157, s_265_158, x_get_i, List.getElem?_cons_succ, List.getElem?_cons_zero, x_cv_j, cs_n, cs_i, cs_r, cs_l, Nat.reduceAdd, Nat.reduceLeDiff, true_and, Option.toList_some, Option.toList_none, List.cons_append, List.nil_append, if_true, if_false, nb0, nb1, x_setJ, x_setZ0, x_setZ1, x_setA, x_setO, List.length_cons, List.length_nil, Nat.reduceLT, List.set_cons_succ, List.set_cons_zero, wrl_0, wrl_1, wrl_2, wrl_3, wrl_4, wrl_5, wrl_p0, wrl_p1, wrl_p2, wrl_p3, wrl_p4, mh_o, mh_po, mcv, mg_0, mg_1, mg_2, mg_3, mg_4, mg_5, mg_6, mg_7, mg_8, mg_9, mg_10, mg_11, mg_12, mg_13, mg_14, mg_15, mg_16, mg_17, mg_18, mg_19, mg_20, mg_21, mg_22, mg_23, mg_24, mg_25, mg_26, mg_27, mg_28, mg_29, mg_30, mg_31, mg_32, mg_33, mg_34, mg_35, mg_36, mg_37, mg_38, mg_39, mg_40, mg_41, mg_42, mg_43, mg_44, mg_45, mg_46, ms_1, ms_4, ms_6, ms_7, ms_9, ms_10, ms_11, ms_12, ms_16, ms_20, ms_24, ms_28, ms_35, ms_39, ms_42, ms_43, ms_17t, ms_17f, ms_8, ms_14, mc_1, mp_1, mc_2, mp_2, mc_3, mp_3, mc_4, mp_4, mc_5, mp_5, mc_6, mp_6, mc_7, mp_7, mc_8, mp_8, mc_9, mp_9, mc_10, mp_10, mc_11, mp_11, mc_12, mp_12, mc_13, mp_13, mc_14, mp_14, mc_15, mp_15, mc_16, mp_16, mc_17, mp_17, mc_18, mp_18, mc_19, mp_19, mc_20, mp_20, mc_21, mp_21, mc_22, mp_22, mc_23, mp_23, mc_24, mp_24, mc_25, mp_25, mc_26, mp_26, mc_27, mp_27, mc_28, mp_28, mc_29, mp_29, iu, cup, Nat.reduceEqDiff, show (50 : Int32) ≤ nI 50 by decide]
      refine Iff.mpr (r_tell (k := 0) (R := R') (by decide) ?_ ?_ _) ?_
      · exact if_pos rfl
      · exact hR'
      simp only [s_265_0, s_265_1, s_265_2, s_265_5, s_265_6, s_265_9, s_265_10, s_265_11, s_265_14, s_265_16, s_265_17, s_265_18, s_265_19, s_265_22, s_265_23, s_265_24, s_265_28, s_265_30, s_265_33, s_265_35, s_265_37, s_265_38, s_265_40, s_265_42, s_265_43, s_265_46, s_265_49, s_265_52, s_265_53, s_265_55, s_265_56, s_265_60, s_265_61, s_265_64, s_265_67, s_265_69, s_265_70, s_265_72, s_265_75, s_265_78, s_265_79, s_265_81, s_265_83, s_265_85, s_265_86, s_265_88, s_265_90, s_265_91, s_265_94, s_265_97, s_265_98, s_265_101, s_265_102, s_265_103, s_265_105, s_265_108, s_265_111, s_265_113, s_265_114, s_265_117, s_265_119, s_265_120, s_265_123, s_265_125, s_265_127, s_265_128, s_265_131, s_265_134, s_265_136, s_265_137, s_265_139, s_265_140, s_265_143, s_265_146, s_265_147, s_265_148, s_265_151, s_265_152, s_265_153, s_265_154, s_265_157, s_265_158, x_get_i, List.getElem?_cons_succ, List.getElem?_cons_zero, x_cv_j, cs_n, cs_i, cs_r, cs_l, Nat.reduceAdd, Nat.reduceLeDiff, true_and, Option.toList_some, Option.toList_none, List.cons_append, List.nil_append, if_true, if_false, nb0, nb1, x_setJ, x_setZ0, x_setZ1, x_setA, x_setO, List.length_cons, List.length_nil, Nat.reduceLT, List.set_cons_succ, List.set_cons_zero, wrl_0, wrl_1, wrl_2, wrl_3, wrl_4, wrl_5, wrl_p0, wrl_p1, wrl_p2, wrl_p3, wrl_p4, mh_o, mh_po, mcv, mg_0, mg_1, mg_2, mg_3, mg_4, mg_5, mg_6, mg_7, mg_8, mg_9, mg_10, mg_11, mg_12, mg_13, mg_14, mg_15, mg_16, mg_17, mg_18, mg_19, mg_20, mg_21, mg_22, mg_23, mg_24, mg_25, mg_26, mg_27, mg_28, mg_29, mg_30, mg_31, mg_32, mg_33, mg_34, mg_35, mg_36, mg_37, mg_38, mg_39, mg_40, mg_41, mg_42, mg_43, mg_44, mg_45, mg_46, ms_1, ms_4, ms_6, ms_7, ms_9, ms_10, ms_11, ms_12, ms_16, ms_20, ms_24, ms_28, ms_35, ms_39, ms_42, ms_43, ms_17t, ms_17f, ms_8, ms_14, mc_1, mp_1, mc_2, mp_2, mc_3, mp_3, mc_4, mp_4, mc_5, mp_5, mc_6, mp_6, mc_7, mp_7, mc_8, mp_8, mc_9, mp_9, mc_10, mp_10, mc_11, mp_11, mc_12, mp_12, mc_13, mp_13, mc_14, mp_14, mc_15, mp_15, mc_16, mp_16, mc_17, mp_17, mc_18, mp_18, mc_19, mp_19, mc_20, mp_20, mc_21, mp_21, mc_22, mp_22, mc_23, mp_23, mc_24, mp_24, mc_25, mp_25, mc_26, mp_26, mc_27, mp_27, mc_28, mp_28, mc_29, mp_29, iu, cup, Nat.reduceEqDiff, iu_iu]
      rw [ea, as2]
      exact h2 f0 _ _ (hM7.tell1 (KP.refl hM7.mx) rfl rfl)
    | succ j ih =>
      intro k a x5 x6 hk ea
      have hk50 : k < 50 := by omega
      have ea : frg (fA la) j (k + 1) (fA la k a) = hbw la 5 0 (0, 13) := ea
      obtain ⟨d1, d2⟩ := d10' hk50
      have ehm : (if nI (k / 10) = 0 then (7 : Int32) else if nI (k / 10) = 3 then 7 else if nI (k / 10) = 2 then 1 else 9) = hm (nI (k / 10)) := hm_high ⟨k / 10, by omega, rfl⟩
      rw [s_265_26]
      simp only [s_265_0, s_265_1, s_265_2, s_265_5, s_265_6, s_265_9, s_265_10, s_265_11, s_265_14, s_265_16, s_265_17, s_265_18, s_265_19, s_265_22, s_265_23, s_265_24, s_265_28, s_265_30, s_265_33, s_265_35, s_265_37, s_265_38, s_265_40, s_265_42, s_265_43, s_265_46, s_265_49, s_265_52, s_265_53, s_265_55, s_265_56, s_265_60, s_265_61, s_265_64, s_265_67, s_265_69, s_265_70, s_265_72, s_265_75, s_265_78, s_265_79, s_265_81, s_265_83, s_265_85, s_265_86, s_265_88, s_265_90, s_265_91, s_265_94, s_265_97, s_265_98, s_265_101, s_265_102, s_265_103, s_265_105, s_265_108, s_265_111, s_265_113, s_265_114, s_265_117, s_265_119, s_265_120, s_265_123, s_265_125, s_265_127, s_265_128, s_265_131, s_265_134, s_265_136, s_265_137, s_265_139, s_265_140, s_265_143, s_265_146, s_265_147, s_265_148, s_265_151, s_265_152, s_265_153, s_265_154, s_265_157, s_265_158, x_get_i, List.getElem?_cons_succ, List.getElem?_cons_zero, x_cv_j, cs_n, cs_i, cs_r, cs_l, Nat.reduceAdd, Nat.reduceLeDiff, true_and, Option.toList_some, Option.toList_none, List.cons_append, List.nil_append, if_true, if_false, nb0, nb1, x_setJ, x_setZ0, x_setZ1, x_setA, x_setO, List.length_cons, List.length_nil, Nat.reduceLT, List.set_cons_succ, List.set_cons_zero, wrl_0, wrl_1, wrl_2, wrl_3, wrl_4, wrl_5, wrl_p0, wrl_p1, wrl_p2, wrl_p3, wrl_p4, mh_o, mh_po, mcv, mg_0, mg_1, mg_2, mg_3, mg_4, mg_5, mg_6, mg_7, mg_8, mg_9, mg_10, mg_11, mg_12, mg_13, mg_14, mg_15, mg_16, mg_17, mg_18, mg_19, mg_20, mg_21, mg_22, mg_23, mg_24, mg_25, mg_26, mg_27, mg_28, mg_29, mg_30, mg_31, mg_32, mg_33, mg_34, mg_35, mg_36, mg_37, mg_38, mg_39, mg_40, mg_41, mg_42, mg_43, mg_44, mg_45, mg_46, ms_1, ms_4, ms_6, ms_7, ms_9, ms_10, ms_11, ms_12, ms_16, ms_20, ms_24, ms_28, ms_35, ms_39, ms_42, ms_43, ms_17t, ms_17f, ms_8, ms_14, mc_1, mp_1, mc_2, mp_2, mc_3, mp_3, mc_4, mp_4, mc_5, mp_5, mc_6, mp_6, mc_7, mp_7, mc_8, mp_8, mc_9, mp_9, mc_10, mp_10, mc_11, mp_11, mc_12, mp_12, mc_13, mp_13, mc_14, mp_14, mc_15, mp_15, mc_16, mp_16, mc_17, mp_17, mc_18, mp_18, mc_19, mp_19, mc_20, mp_20, mc_21, mp_21, mc_22, mp_22, mc_23, mp_23, mc_24, mp_24, mc_25, mp_25, mc_26, mp_26, mc_27, mp_27, mc_28, mp_28, mc_29, mp_29, iu, cup, Nat.reduceEqDiff, show ¬ (50 : Int32) ≤ nI k from nI_ge (b := 50) hk50 (by decide), d1, show nI k - nI (k / 10) * 10 = nI (k % 10) by rw [← d1]; exact d2, show ¬ (10 : Int32) = 0 by decide, r_highOf, ehm, nI_1]
      by_cases c1 : nI (k % 10) ≤ hm (nI (k / 10))
      · have e1 : fA la k a = if a.2 ≤ la (nI k) then a else (nI k, la (nI k)) := if_neg (Int32.not_lt.mpr c1)
        rw [e1] at ea
        have h2k : k / 10 = 2 → k % 10 ≤ 1 := by
          intro e
          rw [e] at c1
          have : hm (nI 2) = nI 1 := by decide
          rw [this] at c1
          exact (nI_leI (by omega) (by decide)).mp c1
        simp only [c1, if_true, not_false_eq_true, true_and, s_265_0, s_265_1, s_265_2, s_265_5, s_265_6, s_265_9, s_265_10, s_265_11, s_265_14, s_265_16, s_265_17, s_265_18, s_265_19, s_265_22, s_265_23, s_265_24, s_265_28, s_265_30, s_265_33, s_265_35, s_265_37, s_265_38, s_265_40, s_265_42, s_265_43, s_265_46, s_265_49, s_265_52, s_265_53, s_265_55, s_265_56, s_265_60, s_265_61, s_265_64, s_265_67, s_265_69, s_265_70, s_265_72, s_265_75, s_265_78, s_265_79, s_265_81, s_265_83, s_265_85, s_265_86, s_265_88, s_265_90, s_265_91, s_265_94, s_265_97, s_265_98, s_265_101, s_265_102, s_265_103, s_265_105, s_265_108, s_265_111, s_265_113, s_265_114, s_265_117, s_265_119, s_265_120, s_265_123, s_265_125, s_265_127, s_265_128, s_265_131, s_265_134, s_265_136, s_265_137, s_265_139, s_265_140, s_265_143, s_265_146, s_265_147, s_265_148, s_265_151, s_265_152, s_265_153, s_265_154, s_265_157, s_265_158, x_get_i, List.getElem?_cons_succ, List.getElem?_cons_zero, x_cv_j, cs_n, cs_i, cs_r, cs_l, Nat.reduceAdd, Nat.reduceLeDiff, true_and, Option.toList_some, Option.toList_none, List.cons_append, List.nil_append, if_true, if_false, nb0, nb1, x_setJ, x_setZ0, x_setZ1, x_setA, x_setO, List.length_cons, List.length_nil, Nat.reduceLT, List.set_cons_succ, List.set_cons_zero, wrl_0, wrl_1, wrl_2, wrl_3, wrl_4, wrl_5, wrl_p0, wrl_p1, wrl_p2, wrl_p3, wrl_p4, mh_o, mh_po, mcv, mg_0, mg_1, mg_2, mg_3, mg_4, mg_5, mg_6, mg_7, mg_8, mg_9, mg_10, mg_11, mg_12, mg_13, mg_14, mg_15, mg_16, mg_17, mg_18, mg_19, mg_20, mg_21, mg_22, mg_23, mg_24, mg_25, mg_26, mg_27, mg_28, mg_29, mg_30, mg_31, mg_32, mg_33, mg_34, mg_35, mg_36, mg_37, mg_38, mg_39, mg_40, mg_41, mg_42, mg_43, mg_44, mg_45, mg_46, ms_1, ms_4, ms_6, ms_7, ms_9, ms_10, ms_11, ms_12, ms_16, ms_20, ms_24, ms_28, ms_35, ms_39, ms_42, ms_43, ms_17t, ms_17f, ms_8, ms_14, mc_1, mp_1, mc_2, mp_2, mc_3, mp_3, mc_4, mp_4, mc_5, mp_5, mc_6, mp_6, mc_7, mp_7, mc_8, mp_8, mc_9, mp_9, mc_10, mp_10, mc_11, mp_11, mc_12, mp_12, mc_13, mp_13, mc_14, mp_14, mc_15, mp_15, mc_16, mp_16, mc_17, mp_17, mc_18, mp_18, mc_19, mp_19, mc_20, mp_20, mc_21, mp_21, mc_22, mp_22, mc_23, mp_23, mc_24, mp_24, mc_25, mp_25, mc_26, mp_26, mc_27, mp_27, mc_28, mp_28, mc_29, mp_29, iu, cup, Nat.reduceEqDiff]
        have inner : ∀ (r i : Nat), i + r = n → tm_X (g_G sa sc xt) (d + 3) 265 58 [.ref m, .int f, .int a.1, .int a.2, .int (nI k), .int (fo (fun i a => a + (if (f >>> (nI i &&& 31)) &&& 1 = 1 then (if hso Lm N (rM N) (rB N) (N 36) i (nI (k / 10)) (nI (k % 10)) then (1 : Int32) else 0) else 0)) 0 i), .int (nI i)] [] (mh h m I0 rd (m + 6) C) Q := by
          intro r
          induction r with
          | zero =>
            intro i hi
            have hi : i = n := by omega
            have ela : ibc (f &&& rft (fun i => hso Lm N (rM N) (rB N) (N 36) i (nI (k / 10)) (nI (k % 10))) n) = ibc (f &&& han L W M B s (nI k) n) := by
              have : rft (fun i => hso Lm N (rM N) (rB N) (N 36) i (nI (k / 10)) (nI (k % 10))) n = han L W M B s (nI k) n := by
                rw [han_r, d1, show nI k - nI (k / 10) * 10 = nI (k % 10) by rw [← d1]; exact d2]
                unfold rft
                refine fo_congr (fun q hq x => ?_)
                simp only [hso_RW hr hLe hq hn]
              rw [this]
            rw [hi, yes_e hn, ela, s_265_58]
            have e2 : (if ibc (f &&& han L W M B s (nI k) n) < ibc f - ibc (f &&& han L W M B s (nI k) n) then ibc f - ibc (f &&& han L W M B s (nI k) n) else ibc (f &&& han L W M B s (nI k) n)) = la (nI k) := by rw [hla0]; rfl
            simp only [s_265_0, s_265_1, s_265_2, s_265_5, s_265_6, s_265_9, s_265_10, s_265_11, s_265_14, s_265_16, s_265_17, s_265_18, s_265_19, s_265_22, s_265_23, s_265_24, s_265_28, s_265_30, s_265_33, s_265_35, s_265_37, s_265_38, s_265_40, s_265_42, s_265_43, s_265_46, s_265_49, s_265_52, s_265_53, s_265_55, s_265_56, s_265_60, s_265_61, s_265_64, s_265_67, s_265_69, s_265_70, s_265_72, s_265_75, s_265_78, s_265_79, s_265_81, s_265_83, s_265_85, s_265_86, s_265_88, s_265_90, s_265_91, s_265_94, s_265_97, s_265_98, s_265_101, s_265_102, s_265_103, s_265_105, s_265_108, s_265_111, s_265_113, s_265_114, s_265_117, s_265_119, s_265_120, s_265_123, s_265_125, s_265_127, s_265_128, s_265_131, s_265_134, s_265_136, s_265_137, s_265_139, s_265_140, s_265_143, s_265_146, s_265_147, s_265_148, s_265_151, s_265_152, s_265_153, s_265_154, s_265_157, s_265_158, x_get_i, List.getElem?_cons_succ, List.getElem?_cons_zero, x_cv_j, cs_n, cs_i, cs_r, cs_l, Nat.reduceAdd, Nat.reduceLeDiff, true_and, Option.toList_some, Option.toList_none, List.cons_append, List.nil_append, if_true, if_false, nb0, nb1, x_setJ, x_setZ0, x_setZ1, x_setA, x_setO, List.length_cons, List.length_nil, Nat.reduceLT, List.set_cons_succ, List.set_cons_zero, wrl_0, wrl_1, wrl_2, wrl_3, wrl_4, wrl_5, wrl_p0, wrl_p1, wrl_p2, wrl_p3, wrl_p4, mh_o, mh_po, mcv, mg_0, mg_1, mg_2, mg_3, mg_4, mg_5, mg_6, mg_7, mg_8, mg_9, mg_10, mg_11, mg_12, mg_13, mg_14, mg_15, mg_16, mg_17, mg_18, mg_19, mg_20, mg_21, mg_22, mg_23, mg_24, mg_25, mg_26, mg_27, mg_28, mg_29, mg_30, mg_31, mg_32, mg_33, mg_34, mg_35, mg_36, mg_37, mg_38, mg_39, mg_40, mg_41, mg_42, mg_43, mg_44, mg_45, mg_46, ms_1, ms_4, ms_6, ms_7, ms_9, ms_10, ms_11, ms_12, ms_16, ms_20, ms_24, ms_28, ms_35, ms_39, ms_42, ms_43, ms_17t, ms_17f, ms_8, ms_14, mc_1, mp_1, mc_2, mp_2, mc_3, mp_3, mc_4, mp_4, mc_5, mp_5, mc_6, mp_6, mc_7, mp_7, mc_8, mp_8, mc_9, mp_9, mc_10, mp_10, mc_11, mp_11, mc_12, mp_12, mc_13, mp_13, mc_14, mp_14, mc_15, mp_15, mc_16, mp_16, mc_17, mp_17, mc_18, mp_18, mc_19, mp_19, mc_20, mp_20, mc_21, mp_21, mc_22, mp_22, mc_23, mp_23, mc_24, mp_24, mc_25, mp_25, mc_26, mp_26, mc_27, mp_27, mc_28, mp_28, mc_29, mp_29, iu, cup, Nat.reduceEqDiff, i1, Int32.le_refl, m_bitCount, e2]
            by_cases c2 : a.2 ≤ la (nI k)
            · rw [if_pos c2] at ea
              simp only [Int32.not_lt.mpr c2, if_false, nI_1]
              exact ih (k + 1) a _ _ (by omega) ea
            · rw [if_neg c2] at ea
              simp only [Int32.not_le.mp c2, if_true, nI_1]
              exact ih (k + 1) (nI k, la (nI k)) _ _ (by omega) ea
          | succ r ihr =>
            intro i hi
            have ihr := ihr (i + 1) (by omega)
            have es : fo (fun i a => a + (if (f >>> (nI i &&& 31)) &&& 1 = 1 then (if hso Lm N (rM N) (rB N) (N 36) i (nI (k / 10)) (nI (k % 10)) then (1 : Int32) else 0) else 0)) 0 (i + 1) = fo (fun i a => a + (if (f >>> (nI i &&& 31)) &&& 1 = 1 then (if hso Lm N (rM N) (rB N) (N 36) i (nI (k / 10)) (nI (k % 10)) then (1 : Int32) else 0) else 0)) 0 i + (if (f >>> (nI i &&& 31)) &&& 1 = 1 then (if hso Lm N (rM N) (rB N) (N 36) i (nI (k / 10)) (nI (k % 10)) then (1 : Int32) else 0) else 0) := rfl
            rw [es] at ihr
            have hso' := fun Q => r_isSo (sa := sa) (sc := sc) (xt := xt) (d := d + 1) (Q := Q) (h := h) (m := m) (I := I0) (rd := rd) (ru := m + 6) (i := i) (w := k / 10) (y := k % 10) hN hL (by omega) (by omega) (by omega) h2k
            rw [s_265_58]
            simp only [s_265_0, s_265_1, s_265_2, s_265_5, s_265_6, s_265_9, s_265_10, s_265_11, s_265_14, s_265_16, s_265_17, s_265_18, s_265_19, s_265_22, s_265_23, s_265_24, s_265_28, s_265_30, s_265_33, s_265_35, s_265_37, s_265_38, s_265_40, s_265_42, s_265_43, s_265_46, s_265_49, s_265_52, s_265_53, s_265_55, s_265_56, s_265_60, s_265_61, s_265_64, s_265_67, s_265_69, s_265_70, s_265_72, s_265_75, s_265_78, s_265_79, s_265_81, s_265_83, s_265_85, s_265_86, s_265_88, s_265_90, s_265_91, s_265_94, s_265_97, s_265_98, s_265_101, s_265_102, s_265_103, s_265_105, s_265_108, s_265_111, s_265_113, s_265_114, s_265_117, s_265_119, s_265_120, s_265_123, s_265_125, s_265_127, s_265_128, s_265_131, s_265_134, s_265_136, s_265_137, s_265_139, s_265_140, s_265_143, s_265_146, s_265_147, s_265_148, s_265_151, s_265_152, s_265_153, s_265_154, s_265_157, s_265_158, x_get_i, List.getElem?_cons_succ, List.getElem?_cons_zero, x_cv_j, cs_n, cs_i, cs_r, cs_l, Nat.reduceAdd, Nat.reduceLeDiff, true_and, Option.toList_some, Option.toList_none, List.cons_append, List.nil_append, if_true, if_false, nb0, nb1, x_setJ, x_setZ0, x_setZ1, x_setA, x_setO, List.length_cons, List.length_nil, Nat.reduceLT, List.set_cons_succ, List.set_cons_zero, wrl_0, wrl_1, wrl_2, wrl_3, wrl_4, wrl_5, wrl_p0, wrl_p1, wrl_p2, wrl_p3, wrl_p4, mh_o, mh_po, mcv, mg_0, mg_1, mg_2, mg_3, mg_4, mg_5, mg_6, mg_7, mg_8, mg_9, mg_10, mg_11, mg_12, mg_13, mg_14, mg_15, mg_16, mg_17, mg_18, mg_19, mg_20, mg_21, mg_22, mg_23, mg_24, mg_25, mg_26, mg_27, mg_28, mg_29, mg_30, mg_31, mg_32, mg_33, mg_34, mg_35, mg_36, mg_37, mg_38, mg_39, mg_40, mg_41, mg_42, mg_43, mg_44, mg_45, mg_46, ms_1, ms_4, ms_6, ms_7, ms_9, ms_10, ms_11, ms_12, ms_16, ms_20, ms_24, ms_28, ms_35, ms_39, ms_42, ms_43, ms_17t, ms_17f, ms_8, ms_14, mc_1, mp_1, mc_2, mp_2, mc_3, mp_3, mc_4, mp_4, mc_5, mp_5, mc_6, mp_6, mc_7, mp_7, mc_8, mp_8, mc_9, mp_9, mc_10, mp_10, mc_11, mp_11, mc_12, mp_12, mc_13, mp_13, mc_14, mp_14, mc_15, mp_15, mc_16, mp_16, mc_17, mp_17, mc_18, mp_18, mc_19, mp_19, mc_20, mp_20, mc_21, mp_21, mc_22, mp_22, mc_23, mp_23, mc_24, mp_24, mc_25, mp_25, mc_26, mp_26, mc_27, mp_27, mc_28, mp_28, mc_29, mp_29, iu, cup, Nat.reduceEqDiff, i1, show ¬ nI n ≤ nI i from nI_ge (by omega) (by omega), r_has, d1, show nI k - nI (k / 10) * 10 = nI (k % 10) by rw [← d1]; exact d2, show ¬ (10 : Int32) = 0 by decide, nI_1]
            by_cases c3 : (f >>> (nI i &&& 31)) &&& 1 = 1
            · simp only [c3, if_true] at ihr
              simp only [c3, if_true, show ¬ (1 : Int32) = 0 by decide, if_false, not_false_eq_true, true_and, s_265_0, s_265_1, s_265_2, s_265_5, s_265_6, s_265_9, s_265_10, s_265_11, s_265_14, s_265_16, s_265_17, s_265_18, s_265_19, s_265_22, s_265_23, s_265_24, s_265_28, s_265_30, s_265_33, s_265_35, s_265_37, s_265_38, s_265_40, s_265_42, s_265_43, s_265_46, s_265_49, s_265_52, s_265_53, s_265_55, s_265_56, s_265_60, s_265_61, s_265_64, s_265_67, s_265_69, s_265_70, s_265_72, s_265_75, s_265_78, s_265_79, s_265_81, s_265_83, s_265_85, s_265_86, s_265_88, s_265_90, s_265_91, s_265_94, s_265_97, s_265_98, s_265_101, s_265_102, s_265_103, s_265_105, s_265_108, s_265_111, s_265_113, s_265_114, s_265_117, s_265_119, s_265_120, s_265_123, s_265_125, s_265_127, s_265_128, s_265_131, s_265_134, s_265_136, s_265_137, s_265_139, s_265_140, s_265_143, s_265_146, s_265_147, s_265_148, s_265_151, s_265_152, s_265_153, s_265_154, s_265_157, s_265_158, x_get_i, List.getElem?_cons_succ, List.getElem?_cons_zero, x_cv_j, cs_n, cs_i, cs_r, cs_l, Nat.reduceAdd, Nat.reduceLeDiff, true_and, Option.toList_some, Option.toList_none, List.cons_append, List.nil_append, if_true, if_false, nb0, nb1, x_setJ, x_setZ0, x_setZ1, x_setA, x_setO, List.length_cons, List.length_nil, Nat.reduceLT, List.set_cons_succ, List.set_cons_zero, wrl_0, wrl_1, wrl_2, wrl_3, wrl_4, wrl_5, wrl_p0, wrl_p1, wrl_p2, wrl_p3, wrl_p4, mh_o, mh_po, mcv, mg_0, mg_1, mg_2, mg_3, mg_4, mg_5, mg_6, mg_7, mg_8, mg_9, mg_10, mg_11, mg_12, mg_13, mg_14, mg_15, mg_16, mg_17, mg_18, mg_19, mg_20, mg_21, mg_22, mg_23, mg_24, mg_25, mg_26, mg_27, mg_28, mg_29, mg_30, mg_31, mg_32, mg_33, mg_34, mg_35, mg_36, mg_37, mg_38, mg_39, mg_40, mg_41, mg_42, mg_43, mg_44, mg_45, mg_46, ms_1, ms_4, ms_6, ms_7, ms_9, ms_10, ms_11, ms_12, ms_16, ms_20, ms_24, ms_28, ms_35, ms_39, ms_42, ms_43, ms_17t, ms_17f, ms_8, ms_14, mc_1, mp_1, mc_2, mp_2, mc_3, mp_3, mc_4, mp_4, mc_5, mp_5, mc_6, mp_6, mc_7, mp_7, mc_8, mp_8, mc_9, mp_9, mc_10, mp_10, mc_11, mp_11, mc_12, mp_12, mc_13, mp_13, mc_14, mp_14, mc_15, mp_15, mc_16, mp_16, mc_17, mp_17, mc_18, mp_18, mc_19, mp_19, mc_20, mp_20, mc_21, mp_21, mc_22, mp_22, mc_23, mp_23, mc_24, mp_24, mc_25, mp_25, mc_26, mp_26, mc_27, mp_27, mc_28, mp_28, mc_29, mp_29, iu, cup, Nat.reduceEqDiff, hso', d1, show nI k - nI (k / 10) * 10 = nI (k % 10) by rw [← d1]; exact d2, show ¬ (10 : Int32) = 0 by decide, nI_1]
              cases hb : hso Lm N (rM N) (rB N) (N 36) i (nI (k / 10)) (nI (k % 10)) with
              | true =>
                rw [hb, if_pos rfl] at ihr
                simp only [bI, if_true, show ¬ (1 : Int32) = 0 by decide, if_false]
                exact ihr
              | false =>
                rw [hb, if_neg (by decide)] at ihr
                simp only [bI, if_true, if_false, Bool.false_eq_true]
                exact ihr
            · simp only [c3, if_false] at ihr
              simp only [c3, if_false, if_true]
              exact ihr
        exact inner n 0 (by omega)
      · have e1 : fA la k a = a := if_pos (Int32.not_le.mp c1)
        rw [e1] at ea
        simp only [c1, if_false, not_false_eq_true, true_and, s_265_0, s_265_1, s_265_2, s_265_5, s_265_6, s_265_9, s_265_10, s_265_11, s_265_14, s_265_16, s_265_17, s_265_18, s_265_19, s_265_22, s_265_23, s_265_24, s_265_28, s_265_30, s_265_33, s_265_35, s_265_37, s_265_38, s_265_40, s_265_42, s_265_43, s_265_46, s_265_49, s_265_52, s_265_53, s_265_55, s_265_56, s_265_60, s_265_61, s_265_64, s_265_67, s_265_69, s_265_70, s_265_72, s_265_75, s_265_78, s_265_79, s_265_81, s_265_83, s_265_85, s_265_86, s_265_88, s_265_90, s_265_91, s_265_94, s_265_97, s_265_98, s_265_101, s_265_102, s_265_103, s_265_105, s_265_108, s_265_111, s_265_113, s_265_114, s_265_117, s_265_119, s_265_120, s_265_123, s_265_125, s_265_127, s_265_128, s_265_131, s_265_134, s_265_136, s_265_137, s_265_139, s_265_140, s_265_143, s_265_146, s_265_147, s_265_148, s_265_151, s_265_152, s_265_153, s_265_154, s_265_157, s_265_158, x_get_i, List.getElem?_cons_succ, List.getElem?_cons_zero, x_cv_j, cs_n, cs_i, cs_r, cs_l, Nat.reduceAdd, Nat.reduceLeDiff, true_and, Option.toList_some, Option.toList_none, List.cons_append, List.nil_append, if_true, if_false, nb0, nb1, x_setJ, x_setZ0, x_setZ1, x_setA, x_setO, List.length_cons, List.length_nil, Nat.reduceLT, List.set_cons_succ, List.set_cons_zero, wrl_0, wrl_1, wrl_2, wrl_3, wrl_4, wrl_5, wrl_p0, wrl_p1, wrl_p2, wrl_p3, wrl_p4, mh_o, mh_po, mcv, mg_0, mg_1, mg_2, mg_3, mg_4, mg_5, mg_6, mg_7, mg_8, mg_9, mg_10, mg_11, mg_12, mg_13, mg_14, mg_15, mg_16, mg_17, mg_18, mg_19, mg_20, mg_21, mg_22, mg_23, mg_24, mg_25, mg_26, mg_27, mg_28, mg_29, mg_30, mg_31, mg_32, mg_33, mg_34, mg_35, mg_36, mg_37, mg_38, mg_39, mg_40, mg_41, mg_42, mg_43, mg_44, mg_45, mg_46, ms_1, ms_4, ms_6, ms_7, ms_9, ms_10, ms_11, ms_12, ms_16, ms_20, ms_24, ms_28, ms_35, ms_39, ms_42, ms_43, ms_17t, ms_17f, ms_8, ms_14, mc_1, mp_1, mc_2, mp_2, mc_3, mp_3, mc_4, mp_4, mc_5, mp_5, mc_6, mp_6, mc_7, mp_7, mc_8, mp_8, mc_9, mp_9, mc_10, mp_10, mc_11, mp_11, mc_12, mp_12, mc_13, mp_13, mc_14, mp_14, mc_15, mp_15, mc_16, mp_16, mc_17, mp_17, mc_18, mp_18, mc_19, mp_19, mc_20, mp_20, mc_21, mp_21, mc_22, mp_22, mc_23, mp_23, mc_24, mp_24, mc_25, mp_25, mc_26, mp_26, mc_27, mp_27, mc_28, mp_28, mc_29, mp_29, iu, cup, Nat.reduceEqDiff, nI_1]
        exact ih (k + 1) a _ _ (by omega) ea
  exact loop 50 0 (-1, 1000000) _ _ (by decide) as1
end
