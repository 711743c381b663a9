/-! the reference's calls: laws, looks -/
theorem rft_b30 {al : Nat → Bool} {i : Nat} (hi : i < 32) : ∀ {n : Nat}, n ≤ 31 → bt (rft al n) i = (decide (i < n) && al i)
  | 0, _ => by
    have e : rft al 0 = 0 := rfl
    rw [e, bt_0]; rfl
  | n + 1, hn => by
    have ih := rft_b30 (al := al) hi (n := n) (by omega)
    have es : rft al (n + 1) = rft al n ||| (if al n then 1 <<< (nI n &&& 31) else 0) := rfl
    rw [es, bt_or, ih]
    by_cases e : i = n
    · subst e
      rw [decide_eq_false (Nat.lt_irrefl i), decide_eq_true (Nat.lt_succ_self i)]
      cases h : al i with
      | true => rw [if_pos rfl, bt_one (by omega) hi, decide_eq_true rfl]; rfl
      | false => rw [if_neg (by decide), bt_0]; rfl
    · have e1 : decide (i < n + 1) = decide (i < n) := by
        by_cases c : i < n
        · rw [decide_eq_true c, decide_eq_true (by omega)]
        · rw [decide_eq_false c, decide_eq_false (by omega)]
      rw [e1]
      cases h : al n with
      | true => rw [if_pos rfl, bt_one (by omega) hi, decide_eq_false e, Bool.or_false]
      | false => rw [if_neg (by decide), bt_0, Bool.or_false]
theorem mxF_r {Ms Bs Os : Nat → Int32} {z n : Nat} : mxF Ms Bs Os z n = rft (fun l => mxf Ms Bs Os (nI l) z 0) n := rfl
theorem mxf_cg {A B D Ms Bs Os : Nat → Int32} {l : Int32} {z : Nat} (h : ∀ k, k < z → A k = Ms k ∧ B k = Bs k ∧ D k = Os k) : ∀ {j k : Nat}, k + j = z → mxf A B D l j k = mxf Ms Bs Os l j k
  | 0, k, _ => rfl
  | j + 1, k, hk => by
    obtain ⟨e1, e2, e3⟩ := h k (by omega)
    unfold mxf
    rw [e1, e2, e3, mxf_cg h (by omega)]
theorem d19 {a b : Nat} (ha : a < 19) (hb : b < 19) : nI (19 * a + b) / 19 = nI a ∧ nI (19 * a + b) - nI (19 * a + b) / 19 * 19 = nI b := by
  have : ∀ a : Fin 19, ∀ b : Fin 19, nI (19 * a.1 + b.1) / 19 = nI a.1 ∧ nI (19 * a.1 + b.1) - nI (19 * a.1 + b.1) / 19 * 19 = nI b.1 := by decide +kernel
  exact this ⟨a, ha⟩ ⟨b, hb⟩
theorem mxn_n {f lo : Int32} {x : Nat} : ∀ k, ∃ p, p ≤ k ∧ mxn f lo x k = nI p
  | 0 => ⟨0, Nat.le_refl _, rfl⟩
  | k + 1 => by
    obtain ⟨p, hp, e⟩ := mxn_n (f := f) (lo := lo) (x := x) k
    have es : mxn f lo x (k + 1) = if (f >>> (nI k &&& 31)) &&& 1 = 1 then (if mxo lo k = x then mxn f lo x k + 1 else mxn f lo x k) else mxn f lo x k := rfl
    rw [es, e]
    split
    · split
      · exact ⟨p + 1, by omega, nI_1 p⟩
      · exact ⟨p, by omega, rfl⟩
    · exact ⟨p, by omega, rfl⟩
theorem mxm_n {f lo : Int32} : ∀ k, k ≤ 30 → ∃ p, p ≤ k ∧ mxm f lo k = nI p ∧ ((∃ l, l < k ∧ (f >>> (nI l &&& 31)) &&& 1 = 1) → 1 ≤ p) ∧ ((¬ ∃ l, l < k ∧ (f >>> (nI l &&& 31)) &&& 1 = 1) → p = 0)
  | 0, _ => ⟨0, Nat.le_refl _, rfl, fun ⟨l, h, _⟩ => absurd h (Nat.not_lt_zero l), fun _ => rfl⟩
  | k + 1, hk => by
    obtain ⟨p, hp, e, h1, h0⟩ := mxm_n (f := f) (lo := lo) k (by omega)
    have es : mxm f lo (k + 1) = if (f >>> (nI k &&& 31)) &&& 1 = 1 then (if mxm f lo k < mxn f lo (mxo lo k) (k + 1) then mxn f lo (mxo lo k) (k + 1) else mxm f lo k) else mxm f lo k := rfl
    rw [es]
    by_cases c : (f >>> (nI k &&& 31)) &&& 1 = 1
    · rw [if_pos c]
      obtain ⟨q, hq, eq⟩ := mxn_n (f := f) (lo := lo) (x := mxo lo k) k
      have es2 : mxn f lo (mxo lo k) (k + 1) = if (f >>> (nI k &&& 31)) &&& 1 = 1 then (if mxo lo k = mxo lo k then mxn f lo (mxo lo k) k + 1 else mxn f lo (mxo lo k) k) else mxn f lo (mxo lo k) k := rfl
      rw [if_pos c, if_pos rfl, eq, nI_1] at es2
      rw [es2, e]
      have hno : (¬ ∃ l, l < k + 1 ∧ (f >>> (nI l &&& 31)) &&& 1 = 1) → False := fun h => h ⟨k, by omega, c⟩
      by_cases c2 : p < q + 1
      · rw [if_pos (nI_lt c2 (by omega))]
        exact ⟨q + 1, by omega, rfl, fun _ => by omega, fun h => (hno h).elim⟩
      · rw [if_neg (nI_nlt (by omega) (by omega))]
        exact ⟨p, by omega, rfl, fun _ => by omega, fun h => (hno h).elim⟩
    · rw [if_neg c]
      refine ⟨p, by omega, e, fun ⟨l, l1, l2⟩ => h1 ⟨l, ?_, l2⟩, fun h => h0 (fun ⟨l, l1, l2⟩ => h ⟨l, by omega, l2⟩)⟩
      have : l ≠ k := fun q => c (by rw [← q]; exact l2)
      omega
/-- looks from a start -/
def lks (f : Int32) (z : Int32 × Int32) : Nat → Int32 × Int32 := fo (fun lo a => if a.2 ≤ mxm f (nI lo) 30 then a else (nI lo, mxm f (nI lo) 30)) z
theorem lks_e {f : Int32} : ∀ k, lks f (-1, 1000000) (k + 1) = lks f (0, 31) (k + 1) ∧ (lks f (0, 31) (k + 1)).2 = mxm f (lks f (0, 31) (k + 1)).1 30
  | 0 => by
    obtain ⟨p, hp, e, -⟩ := mxm_n (f := f) (lo := nI 0) 30 (Nat.le_refl _)
    have s : ∀ z : Int32 × Int32, (z.2 = 31 ∨ z.2 = 1000000) → lks f z 1 = (nI 0, mxm f (nI 0) 30) := by
      intro z hz
      show (if z.2 ≤ mxm f (nI 0) 30 then z else (nI 0, mxm f (nI 0) 30)) = _
      rw [if_neg]
      rw [e]
      rcases hz with q | q
      · rw [q]; exact nI_ge (b := 31) (by omega) (by decide)
      · rw [q]; exact nI_ge (b := 1000000) (by omega) (by decide)
    rw [s _ (Or.inr rfl), s _ (Or.inl rfl)]
    exact ⟨rfl, rfl⟩
  | k + 1 => by
    obtain ⟨i1, i2⟩ := lks_e (f := f) k
    have es : ∀ z, lks f z (k + 1 + 1) = if (lks f z (k + 1)).2 ≤ mxm f (nI (k + 1)) 30 then lks f z (k + 1) else (nI (k + 1), mxm f (nI (k + 1)) 30) := fun z => rfl
    rw [es, es, i1]
    refine ⟨rfl, ?_⟩
    split
    · exact i2
    · rfl
section
variable {sa : g_SA} {sc : Nat × Nat × (Nat → Int32)} {xt : Nat → Nat → List Value → tm_H → Option (Option Value × tm_H)} {d m : Nat} {h : tm_H} {Q : Option Value → tm_H → Prop} {I : Nat → Int32} {rd : Value} {ru : Nat} {C : Nat → tm_E}
variable {c n u : Nat} {F L W M B N Lm H Ms Bs Os : Nat → Int32} {s g : Int32} {rc hc mc : Nat} {R : Nat → Int64} {tx : Nat × (Nat → Int32)} {rw : Nat × (Nat → Int64)} {nw : TN} {pa : PA} {cd : List Int32} {he : Nat × (Nat → Int32)} {mi : Nat × (Nat → Int32) × (Nat → Int32) × (Nat → Int32)}
theorem r_becomes {k : Nat} (hk : k < 30) (x y : Int32) : tm_D (g_G sa sc xt) (d + 2) 269 [.int (nI k), .int x, .int y] h Q ↔ Q (some (.int (mxb (nI k) x y))) h := by
  rw [e_269]
  simp only [s_269_0, s_269_1, s_269_2, s_269_3, s_269_4, s_269_5, s_269_6, s_269_7, s_269_8, s_269_9, s_269_10, s_269_11, s_269_12, s_269_13, s_269_14, s_269_15, s_269_18, x_get_i, List.getElem?_cons_succ, List.getElem?_cons_zero, x_cv_j, cs_n, cs_i, cs_r, cs_l, Nat.reduceAdd, Nat.reduceLeDiff, true_and, Option.toList_some, Option.toList_none, List.cons_append, List.nil_append, if_true, if_false, nb0, nb1, x_setJ, x_setZ0, x_setZ1, x_setA, x_setO, List.length_cons, List.length_nil, Nat.reduceLT, List.set_cons_succ, List.set_cons_zero, wrl_0, wrl_1, wrl_2, wrl_3, wrl_4, wrl_5, wrl_p0, wrl_p1, wrl_p2, wrl_p3, wrl_p4, show ¬ (5 : Int32) = 0 by decide, mxb_d hk, not_false_eq_true, true_and, if_false, r_put]
  exact Iff.rfl
theorem r_isLaw {A B' D : Nat → Int32} {k : Nat} (hk : k < 30) (h39 : I 39 = nI mc) (hmc : mc ≤ 10) (h22 : C 22 = .inl (0, 10, .inl A)) (h23 : C 23 = .inl (0, 10, .inl B')) (h24 : C 24 = .inl (0, 10, .inl D)) : tm_D (g_G sa sc xt) (d + 3) 270 [.ref m, .int (nI k)] (mh h m I rd ru C) Q ↔ Q (some (.int (bI (mxf A B' D (nI k) mc 0)))) (mh h m I rd ru C) := by
  have loop : ∀ j i, i + j = mc → (tm_X (g_G sa sc xt) (d + 3) 270 2 [.ref m, .int (nI k), .int (nI i)] [] (mh h m I rd ru C) Q ↔ Q (some (.int (bI (mxf A B' D (nI k) j i)))) (mh h m I rd ru C)) := by
    intro j
    induction j with
    | zero =>
      intro i hi
      have hi : i = mc := by omega
      subst hi
      rw [s_270_2]
      simp only [s_270_0, s_270_1, s_270_3, s_270_4, s_270_7, s_270_10, s_270_11, s_270_12, s_270_15, s_270_16, s_270_17, s_270_18, s_270_21, s_270_22, s_270_23, s_270_26, s_270_27, s_270_30, s_270_31, s_270_32, s_270_35, s_270_36, s_270_37, s_270_40, s_270_43, s_270_44, x_get_i, List.getElem?_cons_succ, List.getElem?_cons_zero, x_cv_j, cs_n, cs_i, cs_r, cs_l, Nat.reduceAdd, Nat.reduceLeDiff, true_and, Option.toList_some, Option.toList_none, List.cons_append, List.nil_append, if_true, if_false, nb0, nb1, x_setJ, x_setZ0, x_setZ1, x_setA, x_setO, List.length_cons, List.length_nil, Nat.reduceLT, List.set_cons_succ, List.set_cons_zero, wrl_0, wrl_1, wrl_2, wrl_3, wrl_4, wrl_5, wrl_p0, wrl_p1, wrl_p2, wrl_p3, wrl_p4, mh_o, mh_po, mcv, mg_0, mg_1, mg_2, mg_3, mg_4, mg_5, mg_6, mg_7, mg_8, mg_9, mg_10, mg_11, mg_12, mg_13, mg_14, mg_15, mg_16, mg_17, mg_18, mg_19, mg_20, mg_21, mg_22, mg_23, mg_24, mg_25, mg_26, mg_27, mg_28, mg_29, mg_30, mg_31, mg_32, mg_33, mg_34, mg_35, mg_36, mg_37, mg_38, mg_39, mg_40, mg_41, mg_42, mg_43, mg_44, mg_45, mg_46, ms_1, ms_4, ms_6, ms_7, ms_9, ms_10, ms_11, ms_12, ms_16, ms_20, ms_24, ms_28, ms_35, ms_39, ms_42, ms_43, ms_17t, ms_17f, ms_8, ms_14, mc_1, mp_1, mc_2, mp_2, mc_3, mp_3, mc_4, mp_4, mc_5, mp_5, mc_6, mp_6, mc_7, mp_7, mc_8, mp_8, mc_9, mp_9, mc_10, mp_10, mc_11, mp_11, mc_12, mp_12, mc_13, mp_13, mc_14, mp_14, mc_15, mp_15, mc_16, mp_16, mc_17, mp_17, mc_18, mp_18, mc_19, mp_19, mc_20, mp_20, mc_21, mp_21, mc_22, mp_22, mc_23, mp_23, mc_24, mp_24, mc_25, mp_25, mc_26, mp_26, mc_27, mp_27, mc_28, mp_28, mc_29, mp_29, iu, cup, Nat.reduceEqDiff, h39, Int32.le_refl]
      exact Iff.rfl
    | succ j ih =>
      intro i hi
      rw [s_270_2]
      simp only [s_270_0, s_270_1, s_270_3, s_270_4, s_270_7, s_270_10, s_270_11, s_270_12, s_270_15, s_270_16, s_270_17, s_270_18, s_270_21, s_270_22, s_270_23, s_270_26, s_270_27, s_270_30, s_270_31, s_270_32, s_270_35, s_270_36, s_270_37, s_270_40, s_270_43, s_270_44, x_get_i, List.getElem?_cons_succ, List.getElem?_cons_zero, x_cv_j, cs_n, cs_i, cs_r, cs_l, Nat.reduceAdd, Nat.reduceLeDiff, true_and, Option.toList_some, Option.toList_none, List.cons_append, List.nil_append, if_true, if_false, nb0, nb1, x_setJ, x_setZ0, x_setZ1, x_setA, x_setO, List.length_cons, List.length_nil, Nat.reduceLT, List.set_cons_succ, List.set_cons_zero, wrl_0, wrl_1, wrl_2, wrl_3, wrl_4, wrl_5, wrl_p0, wrl_p1, wrl_p2, wrl_p3, wrl_p4, mh_o, mh_po, mcv, mg_0, mg_1, mg_2, mg_3, mg_4, mg_5, mg_6, mg_7, mg_8, mg_9, mg_10, mg_11, mg_12, mg_13, mg_14, mg_15, mg_16, mg_17, mg_18, mg_19, mg_20, mg_21, mg_22, mg_23, mg_24, mg_25, mg_26, mg_27, mg_28, mg_29, mg_30, mg_31, mg_32, mg_33, mg_34, mg_35, mg_36, mg_37, mg_38, mg_39, mg_40, mg_41, mg_42, mg_43, mg_44, mg_45, mg_46, ms_1, ms_4, ms_6, ms_7, ms_9, ms_10, ms_11, ms_12, ms_16, ms_20, ms_24, ms_28, ms_35, ms_39, ms_42, ms_43, ms_17t, ms_17f, ms_8, ms_14, mc_1, mp_1, mc_2, mp_2, mc_3, mp_3, mc_4, mp_4, mc_5, mp_5, mc_6, mp_6, mc_7, mp_7, mc_8, mp_8, mc_9, mp_9, mc_10, mp_10, mc_11, mp_11, mc_12, mp_12, mc_13, mp_13, mc_14, mp_14, mc_15, mp_15, mc_16, mp_16, mc_17, mp_17, mc_18, mp_18, mc_19, mp_19, mc_20, mp_20, mc_21, mp_21, mc_22, mp_22, mc_23, mp_23, mc_24, mp_24, mc_25, mp_25, mc_26, mp_26, mc_27, mp_27, mc_28, mp_28, mc_29, mp_29, iu, cup, Nat.reduceEqDiff, h39, show ¬ nI mc ≤ nI i from nI_ge (by omega) (by omega), h22, h23, h24, x_ild_n (show i < 10 by omega) n10, r_becomes hk, nI_1]
      unfold mxf
      by_cases c : mxb (nI k) (A i) (B' i) = D i
      · simp only [c, if_true]
        exact ih (i + 1) (by omega)
      · simp only [c, if_false]
        exact Iff.rfl
  rw [e_270]
  simp only [s_270_0, s_270_1, s_270_3, s_270_4, s_270_7, s_270_10, s_270_11, s_270_12, s_270_15, s_270_16, s_270_17, s_270_18, s_270_21, s_270_22, s_270_23, s_270_26, s_270_27, s_270_30, s_270_31, s_270_32, s_270_35, s_270_36, s_270_37, s_270_40, s_270_43, s_270_44]
  exact loop mc 0 (by omega)
/-- laws are told -/
def lwt (al : Nat → Bool) (R : Nat → Int64) : Nat → Nat × Nat × (Nat → Int64) := fo (fun l a => if al l then (a.1 + 1, if a.1 = 0 then rw2 R (nI l / 5).toInt64 (nI l - nI l / 5 * 5 + 1).toInt64 else a.2) else a) (0, 0, R)
theorem lwt_1 {al : Nat → Bool} {R : Nat → Int64} : ∀ k, (lwt al R k).1 = cn al k ∧ ((lwt al R k).1 = 0 → (lwt al R k).2 = (0, R)) ∧ ∀ l, l < k → al l = true → (∀ i, i < l → al i = false) → (lwt al R k).2 = rw2 R (nI l / 5).toInt64 (nI l - nI l / 5 * 5 + 1).toInt64
  | 0 => ⟨rfl, fun _ => rfl, fun l hl => absurd hl (Nat.not_lt_zero l)⟩
  | k + 1 => by
    obtain ⟨i1, i2, i3⟩ := lwt_1 (al := al) (R := R) k
    have es : lwt al R (k + 1) = if al k then ((lwt al R k).1 + 1, if (lwt al R k).1 = 0 then rw2 R (nI k / 5).toInt64 (nI k - nI k / 5 * 5 + 1).toInt64 else (lwt al R k).2) else lwt al R k := rfl
    rw [es, cn_s]
    cases ha : al k with
    | true =>
      rw [if_pos rfl, if_pos rfl]
      refine ⟨by show (lwt al R k).1 + 1 = _; rw [i1], fun q => absurd (show (lwt al R k).1 + 1 = 0 from q) (Nat.succ_ne_zero _), fun l hl h1 h2 => ?_⟩
      show (if (lwt al R k).1 = 0 then _ else _) = _
      by_cases e : l = k
      · subst e
        rw [if_pos]
        rw [i1, cn_0]
        exact h2
      · rw [if_neg]
        · exact i3 l (by omega) h1 h2
        · rw [i1, cn_0]
          intro q
          have := q l (by omega)
          rw [h1] at this
          cases this
    | false =>
      rw [if_neg (by decide), if_neg (by decide)]
      refine ⟨i1, i2, fun l hl h1 h2 => ?_⟩
      by_cases e : l = k
      · subst e; rw [ha] at h1; cases h1
      · exact i3 l (by omega) h1 h2
theorem lwt_le {al : Nat → Bool} {R : Nat → Int64} {k : Nat} : (lwt al R k).1 ≤ k := by rw [(lwt_1 k).1]; exact cn_le
theorem ibc_rft {al : Nat → Bool} : ibc (rft al 30) = nI (cn al 30) := by
  rw [ibc_32]
  congr 1
  have e : cn (bt (rft al 30)) 32 = cn (bt (rft al 30)) 30 := cn_up (k := 30) (j := 2) (fun i h1 h2 => by rw [rft_b30 (by omega) (by decide), decide_eq_false (by omega)]; rfl)
  rw [e]
  exact cn_cg (fun i hi => by rw [rft_b30 (by omega) (by decide), decide_eq_true hi]; rfl)
theorem rft_0 {al : Nat → Bool} : rft al 30 = 0 ↔ ∀ i, i < 30 → al i = false := by
  constructor
  · intro h i hi
    have := rft_b30 (al := al) (i := i) (n := 30) (by omega) (by decide)
    rw [h, bt_0, decide_eq_true hi, Bool.true_and] at this
    exact this.symm
  · intro h
    apply bt_ext
    intro i hi
    rw [rft_b30 hi (by decide), bt_0]
    by_cases c : i < 30
    · rw [h i c, Bool.and_false]
    · rw [decide_eq_false c]; rfl
theorem low_ex {al : Nat → Bool} : ∀ {k : Nat}, (¬ ∀ i, i < k → al i = false) → ∃ l, l < k ∧ al l = true ∧ ∀ i, i < l → al i = false
  | 0, h => absurd (fun i hi => absurd hi (Nat.not_lt_zero i)) h
  | k + 1, h => by
    by_cases c : ∀ i, i < k → al i = false
    · refine ⟨k, by omega, ?_, c⟩
      cases ha : al k with
      | true => rfl
      | false =>
        exfalso
        apply h
        intro i hi
        by_cases e : i = k
        · subst e; exact ha
        · exact c i (by omega)
    · obtain ⟨l, h1, h2⟩ := low_ex c
      exact ⟨l, by omega, h2⟩
theorem m_laws (hM : MV I C tx (rc, R) nw pa cd he (mc, Ms, Bs, Os)) (h1 : mxF Ms Bs Os mc 30 = 0 → ∀ I' C', MV I' C' tx (0, R) nw pa cd he (mc, Ms, Bs, Os) → Q (some (.int (ibc (mxF Ms Bs Os mc 30)))) (mh h m I' rd (m + 6) C')) (h2 : ¬ mxF Ms Bs Os mc 30 = 0 → ∀ I' C', MV I' C' tx (rw2 R (itz (mxF Ms Bs Os mc 30) / 5).toInt64 (itz (mxF Ms Bs Os mc 30) - itz (mxF Ms Bs Os mc 30) / 5 * 5 + 1).toInt64) nw pa cd he (mc, Ms, Bs, Os) → Q (some (.int (ibc (mxF Ms Bs Os mc 30)))) (mh h m I' rd (m + 6) C')) : tm_D (g_G sa sc xt) (d + 4) 271 [.ref m] (mh h m I rd (m + 6) C) Q := by
  have hM7 : MV (iu I 7 0) C tx (rc, R) nw pa cd he (mc, Ms, Bs, Os) := hM.i7
  have hM8 : MV (iu (iu I 7 0) 6 0) C tx (0, R) nw pa cd he (mc, Ms, Bs, Os) := hM7.tell0 ((KP.refl hM7.mx).iu rfl) rfl rfl rfl rfl
  obtain ⟨b1, b2, A, B', D, b3, b4, b5, b6⟩ := hM.2.2.2.2.2.2.2.1
  have b1 : I 39 = nI mc := b1
  have b2 : mc ≤ 10 := b2
  have ecg : ∀ l, mxf A B' D l mc 0 = mxf Ms Bs Os l mc 0 := fun l => mxf_cg b6 (by show 0 + mc = mc; omega)
  obtain ⟨al, hal⟩ : ∃ al : Nat → Bool, al = fun l => mxf Ms Bs Os (nI l) mc 0 := ⟨_, rfl⟩
  have eal : ∀ l, mxf A B' D (nI l) mc 0 = al l := fun l => by rw [ecg, hal]
  rw [mxF_r, ← hal] at h1 h2
  have fin : ∀ I' C', MV I' C' tx (lwt al R 30).2 nw pa cd he (mc, Ms, Bs, Os) → Q (some (.int (nI (lwt al R 30).1))) (mh h m I' rd (m + 6) C') := by
    obtain ⟨q1, q2, q3⟩ := lwt_1 (al := al) (R := R) 30
    rw [q1, ← ibc_rft]
    intro I' C' hM'
    by_cases z : rft al 30 = 0
    · have : (lwt al R 30).2 = (0, R) := q2 (by rw [q1, cn_0]; exact rft_0.mp z)
      rw [this] at hM'
      exact h1 z I' C' hM'
    · obtain ⟨l, l1, l2, l3⟩ := low_ex (fun q => z (rft_0.mpr q))
      have ei : itz (rft al 30) = nI l := itz_low (by omega) (by rw [rft_b30 (by omega) (by decide), decide_eq_true l1, l2]; rfl) (fun i hi => by rw [rft_b30 (by omega) (by decide), l3 i hi, Bool.and_false])
      rw [q3 l l1 l2 l3] at hM'
      have h2 := h2 z I' C'
      rw [ei] at h2
      exact h2 hM'
  have loop : ∀ (j k : Nat) (I0 : Nat → Int32) (C0 : Nat → tm_E), k + j = 30 → I0 39 = nI mc → C0 22 = .inl (0, 10, .inl A) → C0 23 = .inl (0, 10, .inl B') → C0 24 = .inl (0, 10, .inl D) → MV I0 C0 tx (lwt al R k).2 nw pa cd he (mc, Ms, Bs, Os) → tm_X (g_G sa sc xt) (d + 4) 271 14 [.ref m, .int (nI (lwt al R k).1), .int (nI k)] [] (mh h m I0 rd (m + 6) C0) Q := by
    intro j
    induction j with
    | zero =>
      intro k I0 C0 hk k39 k22 k23 k24 hM0
      have hk : k = 30 := by omega
      subst hk
      rw [s_271_14]
      simp only [s_271_0, s_271_1, s_271_2, s_271_5, s_271_6, s_271_7, s_271_8, s_271_9, s_271_12, s_271_13, s_271_15, s_271_17, s_271_20, s_271_21, s_271_22, s_271_25, s_271_28, s_271_31, s_271_32, s_271_35, s_271_36, s_271_37, s_271_38, s_271_39, s_271_40, s_271_43, s_271_44, s_271_45, s_271_46, s_271_47, s_271_48, s_271_49, s_271_50, s_271_53, s_271_56, s_271_59, s_271_62, s_271_63, x_get_i, List.getElem?_cons_succ, List.getElem?_cons_zero, x_cv_j, cs_n, cs_i, cs_r, cs_l, Nat.reduceAdd, Nat.reduceLeDiff, true_and, Option.toList_some, Option.toList_none, List.cons_append, List.nil_append, if_true, if_false, nb0, nb1, x_setJ, x_setZ0, x_setZ1, x_setA, x_setO, List.length_cons, List.length_nil, Nat.reduceLT, List.set_cons_succ, List.set_cons_zero, wrl_0, wrl_1, wrl_2, wrl_3, wrl_4, wrl_5, wrl_p0, wrl_p1, wrl_p2, wrl_p3, wrl_p4, mh_o, mh_po, mcv, mg_0, mg_1, mg_2, mg_3, mg_4, mg_5, mg_6, mg_7, mg_8, mg_9, mg_10, mg_11, mg_12, mg_13, mg_14, mg_15, mg_16, mg_17, mg_18, mg_19, mg_20, mg_21, mg_22, mg_23, mg_24, mg_25, mg_26, mg_27, mg_28, mg_29, mg_30, mg_31, mg_32, mg_33, mg_34, mg_35, mg_36, mg_37, mg_38, mg_39, mg_40, mg_41, mg_42, mg_43, mg_44, mg_45, mg_46, ms_1, ms_4, ms_6, ms_7, ms_9, ms_10, ms_11, ms_12, ms_16, ms_20, ms_24, ms_28, ms_35, ms_39, ms_42, ms_43, ms_17t, ms_17f, ms_8, ms_14, mc_1, mp_1, mc_2, mp_2, mc_3, mp_3, mc_4, mp_4, mc_5, mp_5, mc_6, mp_6, mc_7, mp_7, mc_8, mp_8, mc_9, mp_9, mc_10, mp_10, mc_11, mp_11, mc_12, mp_12, mc_13, mp_13, mc_14, mp_14, mc_15, mp_15, mc_16, mp_16, mc_17, mp_17, mc_18, mp_18, mc_19, mp_19, mc_20, mp_20, mc_21, mp_21, mc_22, mp_22, mc_23, mp_23, mc_24, mp_24, mc_25, mp_25, mc_26, mp_26, mc_27, mp_27, mc_28, mp_28, mc_29, mp_29, iu, cup, Nat.reduceEqDiff, show (30 : Int32) ≤ nI 30 by decide]
      exact fin _ _ hM0
    | succ j ih =>
      intro k I0 C0 hk k39 k22 k23 k24 hM0
      have hk30 : k < 30 := by omega
      have es : lwt al R (k + 1) = if al k then ((lwt al R k).1 + 1, if (lwt al R k).1 = 0 then rw2 R (nI k / 5).toInt64 (nI k - nI k / 5 * 5 + 1).toInt64 else (lwt al R k).2) else lwt al R k := rfl
      have hle := lwt_le (al := al) (R := R) (k := k)
      rw [s_271_14]
      simp only [s_271_0, s_271_1, s_271_2, s_271_5, s_271_6, s_271_7, s_271_8, s_271_9, s_271_12, s_271_13, s_271_15, s_271_17, s_271_20, s_271_21, s_271_22, s_271_25, s_271_28, s_271_31, s_271_32, s_271_35, s_271_36, s_271_37, s_271_38, s_271_39, s_271_40, s_271_43, s_271_44, s_271_45, s_271_46, s_271_47, s_271_48, s_271_49, s_271_50, s_271_53, s_271_56, s_271_59, s_271_62, s_271_63, x_get_i, List.getElem?_cons_succ, List.getElem?_cons_zero, x_cv_j, cs_n, cs_i, cs_r, cs_l, Nat.reduceAdd, Nat.reduceLeDiff, true_and, Option.toList_some, Option.toList_none, List.cons_append, List.nil_append, if_true, if_false, nb0, nb1, x_setJ, x_setZ0, x_setZ1, x_setA, x_setO, List.length_cons, List.length_nil, Nat.reduceLT, List.set_cons_succ, List.set_cons_zero, wrl_0, wrl_1, wrl_2, wrl_3, wrl_4, wrl_5, wrl_p0, wrl_p1, wrl_p2, wrl_p3, wrl_p4, mh_o, mh_po, mcv, mg_0, mg_1, mg_2, mg_3, mg_4, mg_5, mg_6, mg_7, mg_8, mg_9, mg_10, mg_11, mg_12, mg_13, mg_14, mg_15, mg_16, mg_17, mg_18, mg_19, mg_20, mg_21, mg_22, mg_23, mg_24, mg_25, mg_26, mg_27, mg_28, mg_29, mg_30, mg_31, mg_32, mg_33, mg_34, mg_35, mg_36, mg_37, mg_38, mg_39, mg_40, mg_41, mg_42, mg_43, mg_44, mg_45, mg_46, ms_1, ms_4, ms_6, ms_7, ms_9, ms_10, ms_11, ms_12, ms_16, ms_20, ms_24, ms_28, ms_35, ms_39, ms_42, ms_43, ms_17t, ms_17f, ms_8, ms_14, mc_1, mp_1, mc_2, mp_2, mc_3, mp_3, mc_4, mp_4, mc_5, mp_5, mc_6, mp_6, mc_7, mp_7, mc_8, mp_8, mc_9, mp_9, mc_10, mp_10, mc_11, mp_11, mc_12, mp_12, mc_13, mp_13, mc_14, mp_14, mc_15, mp_15, mc_16, mp_16, mc_17, mp_17, mc_18, mp_18, mc_19, mp_19, mc_20, mp_20, mc_21, mp_21, mc_22, mp_22, mc_23, mp_23, mc_24, mp_24, mc_25, mp_25, mc_26, mp_26, mc_27, mp_27, mc_28, mp_28, mc_29, mp_29, iu, cup, Nat.reduceEqDiff, show ¬ (30 : Int32) ≤ nI k from nI_ge (b := 30) hk30 (by decide), r_isLaw hk30 k39 b2 k22 k23 k24, eal, nI_1]
      cases ha : al k with
      | false =>
        rw [ha, if_neg (by decide)] at es
        have ih := ih (k + 1) I0 C0 (by omega) k39 k22 k23 k24 (by rw [es]; exact hM0)
        rw [es] at ih
        simp only [bI, if_true, if_false, Bool.false_eq_true]
        exact ih
      | true =>
        rw [ha, if_pos rfl] at es
        simp only [bI, if_true, show ¬ (1 : Int32) = 0 by decide, if_false]
        by_cases c : (lwt al R k).1 = 0
        · have hz := (lwt_1 (al := al) (R := R) k).2.1 c
          rw [if_pos c, c] at es
          obtain ⟨R0, hR0⟩ : ∃ R', C0 4 = .inl (3, 16, .inr (.inl R')) := by obtain ⟨-, -, R', hR, -⟩ := hM0.2.1; exact ⟨R', hR⟩
          have i6 : I0 6 = nI 0 := by have := hM0.2.1.1; rw [hz] at this; exact this
          simp only [c, show nI 0 = 0 from rfl, if_true, show ¬ (5 : Int32) = 0 by decide, not_false_eq_true, true_and, if_false]
          refine Iff.mpr (r_tell (k := 0) (R := R0) (by decide) i6 hR0 _) ?_
          simp only [s_271_0, s_271_1, s_271_2, s_271_5, s_271_6, s_271_7, s_271_8, s_271_9, s_271_12, s_271_13, s_271_15, s_271_17, s_271_20, s_271_21, s_271_22, s_271_25, s_271_28, s_271_31, s_271_32, s_271_35, s_271_36, s_271_37, s_271_38, s_271_39, s_271_40, s_271_43, s_271_44, s_271_45, s_271_46, s_271_47, s_271_48, s_271_49, s_271_50, s_271_53, s_271_56, s_271_59, s_271_62, s_271_63, x_get_i, List.getElem?_cons_succ, List.getElem?_cons_zero, x_cv_j, cs_n, cs_i, cs_r, cs_l, Nat.reduceAdd, Nat.reduceLeDiff, true_and, Option.toList_some, Option.toList_none, List.cons_append, List.nil_append, if_true, if_false, nb0, nb1, x_setJ, x_setZ0, x_setZ1, x_setA, x_setO, List.length_cons, List.length_nil, Nat.reduceLT, List.set_cons_succ, List.set_cons_zero, wrl_0, wrl_1, wrl_2, wrl_3, wrl_4, wrl_5, wrl_p0, wrl_p1, wrl_p2, wrl_p3, wrl_p4, mh_o, mh_po, mcv, mg_0, mg_1, mg_2, mg_3, mg_4, mg_5, mg_6, mg_7, mg_8, mg_9, mg_10, mg_11, mg_12, mg_13, mg_14, mg_15, mg_16, mg_17, mg_18, mg_19, mg_20, mg_21, mg_22, mg_23, mg_24, mg_25, mg_26, mg_27, mg_28, mg_29, mg_30, mg_31, mg_32, mg_33, mg_34, mg_35, mg_36, mg_37, mg_38, mg_39, mg_40, mg_41, mg_42, mg_43, mg_44, mg_45, mg_46, ms_1, ms_4, ms_6, ms_7, ms_9, ms_10, ms_11, ms_12, ms_16, ms_20, ms_24, ms_28, ms_35, ms_39, ms_42, ms_43, ms_17t, ms_17f, ms_8, ms_14, mc_1, mp_1, mc_2, mp_2, mc_3, mp_3, mc_4, mp_4, mc_5, mp_5, mc_6, mp_6, mc_7, mp_7, mc_8, mp_8, mc_9, mp_9, mc_10, mp_10, mc_11, mp_11, mc_12, mp_12, mc_13, mp_13, mc_14, mp_14, mc_15, mp_15, mc_16, mp_16, mc_17, mp_17, mc_18, mp_18, mc_19, mp_19, mc_20, mp_20, mc_21, mp_21, mc_22, mp_22, mc_23, mp_23, mc_24, mp_24, mc_25, mp_25, mc_26, mp_26, mc_27, mp_27, mc_28, mp_28, mc_29, mp_29, iu, cup, Nat.reduceEqDiff, show ¬ (5 : Int32) = 0 by decide, not_false_eq_true, true_and, if_false]
          refine Iff.mpr (r_tell (k := 1) (R := vp_updL R0 0 (nI k / 5).toInt64) (by decide) (if_pos rfl) (if_pos rfl) _) ?_
          simp only [s_271_0, s_271_1, s_271_2, s_271_5, s_271_6, s_271_7, s_271_8, s_271_9, s_271_12, s_271_13, s_271_15, s_271_17, s_271_20, s_271_21, s_271_22, s_271_25, s_271_28, s_271_31, s_271_32, s_271_35, s_271_36, s_271_37, s_271_38, s_271_39, s_271_40, s_271_43, s_271_44, s_271_45, s_271_46, s_271_47, s_271_48, s_271_49, s_271_50, s_271_53, s_271_56, s_271_59, s_271_62, s_271_63, x_get_i, List.getElem?_cons_succ, List.getElem?_cons_zero, x_cv_j, cs_n, cs_i, cs_r, cs_l, Nat.reduceAdd, Nat.reduceLeDiff, true_and, Option.toList_some, Option.toList_none, List.cons_append, List.nil_append, if_true, if_false, nb0, nb1, x_setJ, x_setZ0, x_setZ1, x_setA, x_setO, List.length_cons, List.length_nil, Nat.reduceLT, List.set_cons_succ, List.set_cons_zero, wrl_0, wrl_1, wrl_2, wrl_3, wrl_4, wrl_5, wrl_p0, wrl_p1, wrl_p2, wrl_p3, wrl_p4, mh_o, mh_po, mcv, mg_0, mg_1, mg_2, mg_3, mg_4, mg_5, mg_6, mg_7, mg_8, mg_9, mg_10, mg_11, mg_12, mg_13, mg_14, mg_15, mg_16, mg_17, mg_18, mg_19, mg_20, mg_21, mg_22, mg_23, mg_24, mg_25, mg_26, mg_27, mg_28, mg_29, mg_30, mg_31, mg_32, mg_33, mg_34, mg_35, mg_36, mg_37, mg_38, mg_39, mg_40, mg_41, mg_42, mg_43, mg_44, mg_45, mg_46, ms_1, ms_4, ms_6, ms_7, ms_9, ms_10, ms_11, ms_12, ms_16, ms_20, ms_24, ms_28, ms_35, ms_39, ms_42, ms_43, ms_17t, ms_17f, ms_8, ms_14, mc_1, mp_1, mc_2, mp_2, mc_3, mp_3, mc_4, mp_4, mc_5, mp_5, mc_6, mp_6, mc_7, mp_7, mc_8, mp_8, mc_9, mp_9, mc_10, mp_10, mc_11, mp_11, mc_12, mp_12, mc_13, mp_13, mc_14, mp_14, mc_15, mp_15, mc_16, mp_16, mc_17, mp_17, mc_18, mp_18, mc_19, mp_19, mc_20, mp_20, mc_21, mp_21, mc_22, mp_22, mc_23, mp_23, mc_24, mp_24, mc_25, mp_25, mc_26, mp_26, mc_27, mp_27, mc_28, mp_28, mc_29, mp_29, iu, cup, Nat.reduceEqDiff, iu_iu, cup_cup, nI_1]
          have ih := ih (k + 1) (iu I0 6 (nI 2)) (cup C0 4 (.inl (3, 16, .inr (.inl (vp_updL (vp_updL R0 0 (nI k / 5).toInt64) 1 (nI k - nI k / 5 * 5 + 1).toInt64))))) (by omega) k39 k22 k23 k24 (by rw [es]; exact hM0.tell2 (KP.refl hM0.mx) rfl rfl)
          rw [es] at ih
          exact ih
        · rw [if_neg c] at es
          simp only [show ¬ nI (lwt al R k).1 = 0 from nI_ne0 (by omega) (by omega), if_false]
          have ih := ih (k + 1) I0 C0 (by omega) k39 k22 k23 k24 (by rw [es]; exact hM0)
          rw [es] at ih
          exact ih
  rw [e_271]
  simp only [s_271_0, s_271_1, s_271_2, s_271_5, s_271_6, s_271_7, s_271_8, s_271_9, s_271_12, s_271_13, s_271_15, s_271_17, s_271_20, s_271_21, s_271_22, s_271_25, s_271_28, s_271_31, s_271_32, s_271_35, s_271_36, s_271_37, s_271_38, s_271_39, s_271_40, s_271_43, s_271_44, s_271_45, s_271_46, s_271_47, s_271_48, s_271_49, s_271_50, s_271_53, s_271_56, s_271_59, s_271_62, s_271_63, x_get_i, List.getElem?_cons_succ, List.getElem?_cons_zero, x_cv_j, cs_n, cs_i, cs_r, cs_l, Nat.reduceAdd, Nat.reduceLeDiff, true_and, Option.toList_some, Option.toList_none, List.cons_append, List.nil_append, if_true, if_false, nb0, nb1, x_setJ, x_setZ0, x_setZ1, x_setA, x_setO, List.length_cons, List.length_nil, Nat.reduceLT, List.set_cons_succ, List.set_cons_zero, wrl_0, wrl_1, wrl_2, wrl_3, wrl_4, wrl_5, wrl_p0, wrl_p1, wrl_p2, wrl_p3, wrl_p4, mh_o, mh_po, mcv, mg_0, mg_1, mg_2, mg_3, mg_4, mg_5, mg_6, mg_7, mg_8, mg_9, mg_10, mg_11, mg_12, mg_13, mg_14, mg_15, mg_16, mg_17, mg_18, mg_19, mg_20, mg_21, mg_22, mg_23, mg_24, mg_25, mg_26, mg_27, mg_28, mg_29, mg_30, mg_31, mg_32, mg_33, mg_34, mg_35, mg_36, mg_37, mg_38, mg_39, mg_40, mg_41, mg_42, mg_43, mg_44, mg_45, mg_46, ms_1, ms_4, ms_6, ms_7, ms_9, ms_10, ms_11, ms_12, ms_16, ms_20, ms_24, ms_28, ms_35, ms_39, ms_42, ms_43, ms_17t, ms_17f, ms_8, ms_14, mc_1, mp_1, mc_2, mp_2, mc_3, mp_3, mc_4, mp_4, mc_5, mp_5, mc_6, mp_6, mc_7, mp_7, mc_8, mp_8, mc_9, mp_9, mc_10, mp_10, mc_11, mp_11, mc_12, mp_12, mc_13, mp_13, mc_14, mp_14, mc_15, mp_15, mc_16, mp_16, mc_17, mp_17, mc_18, mp_18, mc_19, mp_19, mc_20, mp_20, mc_21, mp_21, mc_22, mp_22, mc_23, mp_23, mc_24, mp_24, mc_25, mp_25, mc_26, mp_26, mc_27, mp_27, mc_28, mp_28, mc_29, mp_29, iu, cup, Nat.reduceEqDiff]
  exact loop 30 0 _ _ (by decide) b1 b3 b4 b5 hM8
theorem m_looks (hM : MV I C tx (rc, R) nw pa cd he (mc, Ms, Bs, Os)) (h1 : mxF Ms Bs Os mc 30 = 0 → ∀ I' C', MV I' C' tx (rc, R) nw pa cd he (mc, Ms, Bs, Os) → Q (some (.int (-2))) (mh h m I' rd (m + 6) C')) (h2 : ¬ mxF Ms Bs Os mc 30 = 0 → ∀ I' C', MV I' C' tx (rw1 R (mxm (mxF Ms Bs Os mc 30) (mxs (mxF Ms Bs Os mc 30) 361).1 30).toInt64) nw pa cd he (mc, Ms, Bs, Os) → Q (some (.int (mxs (mxF Ms Bs Os mc 30) 361).1)) (mh h m I' rd (m + 6) C')) : tm_D (g_G sa sc xt) (d + 4) 272 [.ref m] (mh h m I rd (m + 6) C) Q := by
  have hM7 : MV (iu I 7 0) C tx (rc, R) nw pa cd he (mc, Ms, Bs, Os) := hM.i7
  obtain ⟨b1, b2, A, B', D, b3, b4, b5, b6⟩ := hM7.2.2.2.2.2.2.2.1
  obtain ⟨I0, hI0⟩ : ∃ I0, I0 = iu I 7 0 := ⟨_, rfl⟩
  rw [← hI0] at b1 hM7
  have b1 : I0 39 = nI mc := b1
  have b2 : mc ≤ 10 := b2
  obtain ⟨R', hR'⟩ : ∃ R', C 4 = .inl (3, 16, .inr (.inl R')) := by obtain ⟨-, -, R', hR, -⟩ := hM.2.1; exact ⟨R', hR⟩
  obtain ⟨Y0, hY0⟩ := hM.mx 25 0 19 rfl
  have ecg : ∀ l, mxf A B' D l mc 0 = mxf Ms Bs Os l mc 0 := fun l => mxf_cg b6 (by show 0 + mc = mc; omega)
  obtain ⟨f, hf⟩ : ∃ f, f = mxF Ms Bs Os mc 30 := ⟨_, rfl⟩
  rw [← hf] at h1 h2
  have hbit : ∀ l, l < 30 → bI (mxf A B' D (nI l) mc 0) = if (f >>> (nI l &&& 31)) &&& 1 = 1 then 1 else 0 := by
    intro l hl
    have e := rft_b30 (al := fun l => mxf Ms Bs Os (nI l) mc 0) (i := l) (n := 30) (by omega) (by decide)
    rw [decide_eq_true hl, Bool.true_and, ← mxF_r, ← hf] at e
    rw [ecg]
    by_cases c : (f >>> (nI l &&& 31)) &&& 1 = 1
    · rw [if_pos c]
      have := (bt_sr (by omega)).mp c
      rw [e] at this
      rw [this]; rfl
    · rw [if_neg c]
      have : mxf Ms Bs Os (nI l) mc 0 = false := by
        cases hq : mxf Ms Bs Os (nI l) mc 0 with
        | false => rfl
        | true =>
          exfalso
          apply c
          refine (bt_sr (by omega)).mpr ?_
          rw [e]; exact hq
      rw [this]; rfl
  have hz : f = 0 ↔ ¬ ∃ l, l < 30 ∧ (f >>> (nI l &&& 31)) &&& 1 = 1 := by
    constructor
    · intro e ⟨l, l1, l2⟩
      have := (bt_sr (by omega)).mp l2
      rw [e, bt_0] at this
      cases this
    · intro hno
      rw [hf, mxF_r, rft_0]
      intro i hi
      cases hq : mxf Ms Bs Os (nI i) mc 0 with
      | false => rfl
      | true =>
        exfalso
        apply hno
        refine ⟨i, hi, (bt_sr (by omega)).mpr ?_⟩
        rw [hf, mxF_r, rft_b30 (by omega) (by decide), decide_eq_true hi, hq]; rfl
  have lk := lks_e (f := f) 360
  -- what is told
  have fin : ∀ (Y : Nat → Int32) (y3 : Int32) (x4 x5 x6 x7 : Value), tm_X (g_G sa sc xt) (d + 4) 272 162 [.ref m, .int (lks f (-1, 1000000) 361).1, .int (lks f (-1, 1000000) 361).2, .int y3, x4, x5, x6, x7] [] (mh h m I0 rd (m + 6) (cup C 25 (.inl (0, 19, .inl Y)))) Q := by
    intro Y y3 x4 x5 x6 x7
    have e1 : lks f (0, 31) 361 = mxs f 361 := rfl
    rw [lk.1, lk.2, e1]
    obtain ⟨p, hp, ep, p1, p0⟩ := mxm_n (f := f) (lo := (mxs f 361).1) 30 (Nat.le_refl _)
    by_cases z : f = 0
    · have e0 : mxm f (mxs f 361).1 30 = 0 := by rw [ep, p0 (hz.mp z)]; rfl
      simp only [s_272_0, s_272_1, s_272_2, s_272_5, s_272_6, s_272_7, s_272_10, s_272_11, s_272_13, s_272_15, s_272_17, s_272_20, s_272_22, s_272_26, s_272_28, s_272_31, s_272_32, s_272_36, s_272_38, s_272_41, s_272_42, s_272_45, s_272_47, s_272_48, s_272_49, s_272_52, s_272_55, s_272_56, s_272_58, s_272_59, s_272_63, s_272_65, s_272_68, s_272_69, s_272_71, s_272_74, s_272_77, s_272_80, s_272_82, s_272_83, s_272_85, s_272_88, s_272_90, s_272_91, s_272_93, s_272_94, s_272_97, s_272_99, s_272_100, s_272_101, s_272_102, s_272_103, s_272_104, s_272_106, s_272_107, s_272_110, s_272_112, s_272_113, s_272_116, s_272_118, s_272_121, s_272_124, s_272_126, s_272_127, s_272_130, s_272_133, s_272_135, s_272_137, s_272_138, s_272_139, s_272_140, s_272_142, s_272_143, s_272_145, s_272_146, s_272_147, s_272_149, s_272_150, s_272_153, s_272_156, s_272_159, s_272_162, s_272_163, s_272_166, s_272_168, s_272_169, s_272_170, s_272_171, s_272_174, s_272_175, s_272_176, s_272_177, s_272_180, s_272_181, x_get_i, List.getElem?_cons_succ, List.getElem?_cons_zero, x_cv_j, cs_n, cs_i, cs_r, cs_l, Nat.reduceAdd, Nat.reduceLeDiff, true_and, Option.toList_some, Option.toList_none, List.cons_append, List.nil_append, if_true, if_false, nb0, nb1, x_setJ, x_setZ0, x_setZ1, x_setA, x_setO, List.length_cons, List.length_nil, Nat.reduceLT, List.set_cons_succ, List.set_cons_zero, wrl_0, wrl_1, wrl_2, wrl_3, wrl_4, wrl_5, wrl_p0, wrl_p1, wrl_p2, wrl_p3, wrl_p4, mh_o, mh_po, mcv, mg_0, mg_1, mg_2, mg_3, mg_4, mg_5, mg_6, mg_7, mg_8, mg_9, mg_10, mg_11, mg_12, mg_13, mg_14, mg_15, mg_16, mg_17, mg_18, mg_19, mg_20, mg_21, mg_22, mg_23, mg_24, mg_25, mg_26, mg_27, mg_28, mg_29, mg_30, mg_31, mg_32, mg_33, mg_34, mg_35, mg_36, mg_37, mg_38, mg_39, mg_40, mg_41, mg_42, mg_43, mg_44, mg_45, mg_46, ms_1, ms_4, ms_6, ms_7, ms_9, ms_10, ms_11, ms_12, ms_16, ms_20, ms_24, ms_28, ms_35, ms_39, ms_42, ms_43, ms_17t, ms_17f, ms_8, ms_14, mc_1, mp_1, mc_2, mp_2, mc_3, mp_3, mc_4, mp_4, mc_5, mp_5, mc_6, mp_6, mc_7, mp_7, mc_8, mp_8, mc_9, mp_9, mc_10, mp_10, mc_11, mp_11, mc_12, mp_12, mc_13, mp_13, mc_14, mp_14, mc_15, mp_15, mc_16, mp_16, mc_17, mp_17, mc_18, mp_18, mc_19, mp_19, mc_20, mp_20, mc_21, mp_21, mc_22, mp_22, mc_23, mp_23, mc_24, mp_24, mc_25, mp_25, mc_26, mp_26, mc_27, mp_27, mc_28, mp_28, mc_29, mp_29, iu, cup, Nat.reduceEqDiff, e0, if_true, not_true_eq_false, if_false]
      exact h1 z _ _ (hM7.same ((KP.refl hM7.mx).cs rfl rfl) rfl rfl rfl rfl)
    · have hp1 : 1 ≤ p := p1 (Classical.not_not.mp (fun q => z (hz.mpr q)))
      have e0 : ¬ mxm f (mxs f 361).1 30 = 0 := by rw [ep]; exact nI_ne0 (by omega) (by omega)
      simp only [s_272_0, s_272_1, s_272_2, s_272_5, s_272_6, s_272_7, s_272_10, s_272_11, s_272_13, s_272_15, s_272_17, s_272_20, s_272_22, s_272_26, s_272_28, s_272_31, s_272_32, s_272_36, s_272_38, s_272_41, s_272_42, s_272_45, s_272_47, s_272_48, s_272_49, s_272_52, s_272_55, s_272_56, s_272_58, s_272_59, s_272_63, s_272_65, s_272_68, s_272_69, s_272_71, s_272_74, s_272_77, s_272_80, s_272_82, s_272_83, s_272_85, s_272_88, s_272_90, s_272_91, s_272_93, s_272_94, s_272_97, s_272_99, s_272_100, s_272_101, s_272_102, s_272_103, s_272_104, s_272_106, s_272_107, s_272_110, s_272_112, s_272_113, s_272_116, s_272_118, s_272_121, s_272_124, s_272_126, s_272_127, s_272_130, s_272_133, s_272_135, s_272_137, s_272_138, s_272_139, s_272_140, s_272_142, s_272_143, s_272_145, s_272_146, s_272_147, s_272_149, s_272_150, s_272_153, s_272_156, s_272_159, s_272_162, s_272_163, s_272_166, s_272_168, s_272_169, s_272_170, s_272_171, s_272_174, s_272_175, s_272_176, s_272_177, s_272_180, s_272_181, x_get_i, List.getElem?_cons_succ, List.getElem?_cons_zero, x_cv_j, cs_n, cs_i, cs_r, cs_l, Nat.reduceAdd, Nat.reduceLeDiff, true_and, Option.toList_some, Option.toList_none, List.cons_append, List.nil_append, if_true, if_false, nb0, nb1, x_setJ, x_setZ0, x_setZ1, x_setA, x_setO, List.length_cons, List.length_nil, Nat.reduceLT, List.set_cons_succ, List.set_cons_zero, wrl_0, wrl_1, wrl_2, wrl_3, wrl_4, wrl_5, wrl_p0, wrl_p1, wrl_p2, wrl_p3, wrl_p4, mh_o, mh_po, mcv, mg_0, mg_1, mg_2, mg_3, mg_4, mg_5, mg_6, mg_7, mg_8, mg_9, mg_10, mg_11, mg_12, mg_13, mg_14, mg_15, mg_16, mg_17, mg_18, mg_19, mg_20, mg_21, mg_22, mg_23, mg_24, mg_25, mg_26, mg_27, mg_28, mg_29, mg_30, mg_31, mg_32, mg_33, mg_34, mg_35, mg_36, mg_37, mg_38, mg_39, mg_40, mg_41, mg_42, mg_43, mg_44, mg_45, mg_46, ms_1, ms_4, ms_6, ms_7, ms_9, ms_10, ms_11, ms_12, ms_16, ms_20, ms_24, ms_28, ms_35, ms_39, ms_42, ms_43, ms_17t, ms_17f, ms_8, ms_14, mc_1, mp_1, mc_2, mp_2, mc_3, mp_3, mc_4, mp_4, mc_5, mp_5, mc_6, mp_6, mc_7, mp_7, mc_8, mp_8, mc_9, mp_9, mc_10, mp_10, mc_11, mp_11, mc_12, mp_12, mc_13, mp_13, mc_14, mp_14, mc_15, mp_15, mc_16, mp_16, mc_17, mp_17, mc_18, mp_18, mc_19, mp_19, mc_20, mp_20, mc_21, mp_21, mc_22, mp_22, mc_23, mp_23, mc_24, mp_24, mc_25, mp_25, mc_26, mp_26, mc_27, mp_27, mc_28, mp_28, mc_29, mp_29, iu, cup, Nat.reduceEqDiff, e0, if_false, not_false_eq_true, if_true]
      refine Iff.mpr (r_tell (k := 0) (R := R') (by decide) ?_ ?_ _) ?_
      · exact if_pos rfl
      · exact hR'
      simp only [s_272_0, s_272_1, s_272_2, s_272_5, s_272_6, s_272_7, s_272_10, s_272_11, s_272_13, s_272_15, s_272_17, s_272_20, s_272_22, s_272_26, s_272_28, s_272_31, s_272_32, s_272_36, s_272_38, s_272_41, s_272_42, s_272_45, s_272_47, s_272_48, s_272_49, s_272_52, s_272_55, s_272_56, s_272_58, s_272_59, s_272_63, s_272_65, s_272_68, s_272_69, s_272_71, s_272_74, s_272_77, s_272_80, s_272_82, s_272_83, s_272_85, s_272_88, s_272_90, s_272_91, s_272_93, s_272_94, s_272_97, s_272_99, s_272_100, s_272_101, s_272_102, s_272_103, s_272_104, s_272_106, s_272_107, s_272_110, s_272_112, s_272_113, s_272_116, s_272_118, s_272_121, s_272_124, s_272_126, s_272_127, s_272_130, s_272_133, s_272_135, s_272_137, s_272_138, s_272_139, s_272_140, s_272_142, s_272_143, s_272_145, s_272_146, s_272_147, s_272_149, s_272_150, s_272_153, s_272_156, s_272_159, s_272_162, s_272_163, s_272_166, s_272_168, s_272_169, s_272_170, s_272_171, s_272_174, s_272_175, s_272_176, s_272_177, s_272_180, s_272_181, x_get_i, List.getElem?_cons_succ, List.getElem?_cons_zero, x_cv_j, cs_n, cs_i, cs_r, cs_l, Nat.reduceAdd, Nat.reduceLeDiff, true_and, Option.toList_some, Option.toList_none, List.cons_append, List.nil_append, if_true, if_false, nb0, nb1, x_setJ, x_setZ0, x_setZ1, x_setA, x_setO, List.length_cons, List.length_nil, Nat.reduceLT, List.set_cons_succ, List.set_cons_zero, wrl_0, wrl_1, wrl_2, wrl_3, wrl_4, wrl_5, wrl_p0, wrl_p1, wrl_p2, wrl_p3, wrl_p4, mh_o, mh_po, mcv, mg_0, mg_1, mg_2, mg_3, mg_4, mg_5, mg_6, mg_7, mg_8, mg_9, mg_10, mg_11, mg_12, mg_13, mg_14, mg_15, mg_16, mg_17, mg_18, mg_19, mg_20, mg_21, mg_22, mg_23, mg_24, mg_25, mg_26, mg_27, mg_28, mg_29, mg_30, mg_31, mg_32, mg_33, mg_34, mg_35, mg_36, mg_37, mg_38, mg_39, mg_40, mg_41, mg_42, mg_43, mg_44, mg_45, mg_46, ms_1, ms_4, ms_6, ms_7, ms_9, ms_10, ms_11, ms_12, ms_16, ms_20, ms_24, ms_28, ms_35, ms_39, ms_42, ms_43, ms_17t, ms_17f, ms_8, ms_14, mc_1, mp_1, mc_2, mp_2, mc_3, mp_3, mc_4, mp_4, mc_5, mp_5, mc_6, mp_6, mc_7, mp_7, mc_8, mp_8, mc_9, mp_9, mc_10, mp_10, mc_11, mp_11, mc_12, mp_12, mc_13, mp_13, mc_14, mp_14, mc_15, mp_15, mc_16, mp_16, mc_17, mp_17, mc_18, mp_18, mc_19, mp_19, mc_20, mp_20, mc_21, mp_21, mc_22, mp_22, mc_23, mp_23, mc_24, mp_24, mc_25, mp_25, mc_26, mp_26, mc_27, mp_27, mc_28, mp_28, mc_29, mp_29, iu, cup, Nat.reduceEqDiff, iu_iu]
      exact h2 z _ _ (hM7.tell1 ((KP.refl hM7.mx).cs rfl rfl) rfl rfl)
  -- one look
  have look : ∀ (a b : Nat) (Y : Nat → Int32) (st : Int32 × Int32) (x5 x6 x7 : Value), a < 19 → b < 19 → (∀ (Y' : Nat → Int32) (x5 x6 x7 : Value), tm_X (g_G sa sc xt) (d + 4) 272 24 [.ref m, .int (if st.2 ≤ mxm f (nI (19 * a + b)) 30 then st else (nI (19 * a + b), mxm f (nI (19 * a + b)) 30)).1, .int (if st.2 ≤ mxm f (nI (19 * a + b)) 30 then st else (nI (19 * a + b), mxm f (nI (19 * a + b)) 30)).2, .int (nI a - 9), .int (nI (b + 1) - 9), x5, x6, x7] [] (mh h m I0 rd (m + 6) (cup C 25 (.inl (0, 19, .inl Y')))) Q) → tm_X (g_G sa sc xt) (d + 4) 272 24 [.ref m, .int st.1, .int st.2, .int (nI a - 9), .int (nI b - 9), x5, x6, x7] [] (mh h m I0 rd (m + 6) (cup C 25 (.inl (0, 19, .inl Y)))) Q := by
    intro a b Y st x5 x6 x7 ha hb next
    obtain ⟨d1, d2⟩ := d19 ha hb
    have cb : ¬ (9 : Int32) < nI b - 9 := by
      have : ∀ b : Fin 19, ¬ (9 : Int32) < nI b.1 - 9 := by decide +kernel
      exact this ⟨b, hb⟩
    have eb1 : nI b - 9 + 1 = nI (b + 1) - 9 := by
      have : ∀ b : Fin 19, nI b.1 - 9 + 1 = nI (b.1 + 1) - 9 := by decide +kernel
      exact this ⟨b, hb⟩
    have ebest : 19 * (9 + (nI a - 9)) + 9 + (nI b - 9) = nI (19 * a + b) := by
      have : ∀ a : Fin 19, ∀ b : Fin 19, 19 * (9 + (nI a.1 - 9)) + 9 + (nI b.1 - 9) = nI (19 * a.1 + b.1) := by decide +kernel
      exact this ⟨a, ha⟩ ⟨b, hb⟩
    obtain ⟨lo, hlo⟩ : ∃ lo, lo = nI (19 * a + b) := ⟨_, rfl⟩
    rw [← hlo] at next ebest d1 d2
    have emo : ∀ l, mxb (nI l) (nI a - 9) (nI b - 9) + 9 = nI (mxo lo l) := by
      intro l
      have := (mxo_e (lo := lo) (l := l)).1
      rw [d2, d1] at this
      exact this
    have laws : ∀ (j l : Nat) (x7 : Value), l + j = 30 → tm_X (g_G sa sc xt) (d + 4) 272 61 [.ref m, .int st.1, .int st.2, .int (nI a - 9), .int (nI b - 9), .int (mxm f lo l), .int (nI l), x7] [] (mh h m I0 rd (m + 6) (cup C 25 (.inl (0, 19, .inl (mxA Y f lo l))))) Q := by
      intro j
      induction j with
      | zero =>
        intro l x7 hl
        have hl : l = 30 := by omega
        subst hl
        rw [s_272_61]
        simp only [s_272_0, s_272_1, s_272_2, s_272_5, s_272_6, s_272_7, s_272_10, s_272_11, s_272_13, s_272_15, s_272_17, s_272_20, s_272_22, s_272_26, s_272_28, s_272_31, s_272_32, s_272_36, s_272_38, s_272_41, s_272_42, s_272_45, s_272_47, s_272_48, s_272_49, s_272_52, s_272_55, s_272_56, s_272_58, s_272_59, s_272_63, s_272_65, s_272_68, s_272_69, s_272_71, s_272_74, s_272_77, s_272_80, s_272_82, s_272_83, s_272_85, s_272_88, s_272_90, s_272_91, s_272_93, s_272_94, s_272_97, s_272_99, s_272_100, s_272_101, s_272_102, s_272_103, s_272_104, s_272_106, s_272_107, s_272_110, s_272_112, s_272_113, s_272_116, s_272_118, s_272_121, s_272_124, s_272_126, s_272_127, s_272_130, s_272_133, s_272_135, s_272_137, s_272_138, s_272_139, s_272_140, s_272_142, s_272_143, s_272_145, s_272_146, s_272_147, s_272_149, s_272_150, s_272_153, s_272_156, s_272_159, s_272_162, s_272_163, s_272_166, s_272_168, s_272_169, s_272_170, s_272_171, s_272_174, s_272_175, s_272_176, s_272_177, s_272_180, s_272_181, x_get_i, List.getElem?_cons_succ, List.getElem?_cons_zero, x_cv_j, cs_n, cs_i, cs_r, cs_l, Nat.reduceAdd, Nat.reduceLeDiff, true_and, Option.toList_some, Option.toList_none, List.cons_append, List.nil_append, if_true, if_false, nb0, nb1, x_setJ, x_setZ0, x_setZ1, x_setA, x_setO, List.length_cons, List.length_nil, Nat.reduceLT, List.set_cons_succ, List.set_cons_zero, wrl_0, wrl_1, wrl_2, wrl_3, wrl_4, wrl_5, wrl_p0, wrl_p1, wrl_p2, wrl_p3, wrl_p4, mh_o, mh_po, mcv, mg_0, mg_1, mg_2, mg_3, mg_4, mg_5, mg_6, mg_7, mg_8, mg_9, mg_10, mg_11, mg_12, mg_13, mg_14, mg_15, mg_16, mg_17, mg_18, mg_19, mg_20, mg_21, mg_22, mg_23, mg_24, mg_25, mg_26, mg_27, mg_28, mg_29, mg_30, mg_31, mg_32, mg_33, mg_34, mg_35, mg_36, mg_37, mg_38, mg_39, mg_40, mg_41, mg_42, mg_43, mg_44, mg_45, mg_46, ms_1, ms_4, ms_6, ms_7, ms_9, ms_10, ms_11, ms_12, ms_16, ms_20, ms_24, ms_28, ms_35, ms_39, ms_42, ms_43, ms_17t, ms_17f, ms_8, ms_14, mc_1, mp_1, mc_2, mp_2, mc_3, mp_3, mc_4, mp_4, mc_5, mp_5, mc_6, mp_6, mc_7, mp_7, mc_8, mp_8, mc_9, mp_9, mc_10, mp_10, mc_11, mp_11, mc_12, mp_12, mc_13, mp_13, mc_14, mp_14, mc_15, mp_15, mc_16, mp_16, mc_17, mp_17, mc_18, mp_18, mc_19, mp_19, mc_20, mp_20, mc_21, mp_21, mc_22, mp_22, mc_23, mp_23, mc_24, mp_24, mc_25, mp_25, mc_26, mp_26, mc_27, mp_27, mc_28, mp_28, mc_29, mp_29, iu, cup, Nat.reduceEqDiff, show (30 : Int32) ≤ nI 30 by decide, ebest, eb1]
        by_cases c : st.2 ≤ mxm f lo 30
        · have next := next (mxA Y f lo 30)
          rw [if_pos c] at next
          simp only [Int32.not_lt.mpr c, if_false]
          exact next _ _ _
        · have next := next (mxA Y f lo 30)
          rw [if_neg c] at next
          simp only [Int32.not_le.mp c, if_true]
          exact next _ _ _
      | succ j ih =>
        intro l x7 hl
        have hl30 : l < 30 := by omega
        have ho := (mxo_e (lo := lo) (l := l)).2
        have esm : mxm f lo (l + 1) = if (f >>> (nI l &&& 31)) &&& 1 = 1 then (if mxm f lo l < mxn f lo (mxo lo l) (l + 1) then mxn f lo (mxo lo l) (l + 1) else mxm f lo l) else mxm f lo l := rfl
        have ex : mxA Y f lo (l + 1) (mxo lo l) = mxn f lo (mxo lo l) (l + 1) := if_pos ho
        have c25 : ∀ e, (cup C 25 e) 22 = .inl (0, 10, .inl A) ∧ (cup C 25 e) 23 = .inl (0, 10, .inl B') ∧ (cup C 25 e) 24 = .inl (0, 10, .inl D) := fun e => ⟨b3, b4, b5⟩
        rw [s_272_61]
        simp only [s_272_0, s_272_1, s_272_2, s_272_5, s_272_6, s_272_7, s_272_10, s_272_11, s_272_13, s_272_15, s_272_17, s_272_20, s_272_22, s_272_26, s_272_28, s_272_31, s_272_32, s_272_36, s_272_38, s_272_41, s_272_42, s_272_45, s_272_47, s_272_48, s_272_49, s_272_52, s_272_55, s_272_56, s_272_58, s_272_59, s_272_63, s_272_65, s_272_68, s_272_69, s_272_71, s_272_74, s_272_77, s_272_80, s_272_82, s_272_83, s_272_85, s_272_88, s_272_90, s_272_91, s_272_93, s_272_94, s_272_97, s_272_99, s_272_100, s_272_101, s_272_102, s_272_103, s_272_104, s_272_106, s_272_107, s_272_110, s_272_112, s_272_113, s_272_116, s_272_118, s_272_121, s_272_124, s_272_126, s_272_127, s_272_130, s_272_133, s_272_135, s_272_137, s_272_138, s_272_139, s_272_140, s_272_142, s_272_143, s_272_145, s_272_146, s_272_147, s_272_149, s_272_150, s_272_153, s_272_156, s_272_159, s_272_162, s_272_163, s_272_166, s_272_168, s_272_169, s_272_170, s_272_171, s_272_174, s_272_175, s_272_176, s_272_177, s_272_180, s_272_181, x_get_i, List.getElem?_cons_succ, List.getElem?_cons_zero, x_cv_j, cs_n, cs_i, cs_r, cs_l, Nat.reduceAdd, Nat.reduceLeDiff, true_and, Option.toList_some, Option.toList_none, List.cons_append, List.nil_append, if_true, if_false, nb0, nb1, x_setJ, x_setZ0, x_setZ1, x_setA, x_setO, List.length_cons, List.length_nil, Nat.reduceLT, List.set_cons_succ, List.set_cons_zero, wrl_0, wrl_1, wrl_2, wrl_3, wrl_4, wrl_5, wrl_p0, wrl_p1, wrl_p2, wrl_p3, wrl_p4, mh_o, mh_po, mcv, mg_0, mg_1, mg_2, mg_3, mg_4, mg_5, mg_6, mg_7, mg_8, mg_9, mg_10, mg_11, mg_12, mg_13, mg_14, mg_15, mg_16, mg_17, mg_18, mg_19, mg_20, mg_21, mg_22, mg_23, mg_24, mg_25, mg_26, mg_27, mg_28, mg_29, mg_30, mg_31, mg_32, mg_33, mg_34, mg_35, mg_36, mg_37, mg_38, mg_39, mg_40, mg_41, mg_42, mg_43, mg_44, mg_45, mg_46, ms_1, ms_4, ms_6, ms_7, ms_9, ms_10, ms_11, ms_12, ms_16, ms_20, ms_24, ms_28, ms_35, ms_39, ms_42, ms_43, ms_17t, ms_17f, ms_8, ms_14, mc_1, mp_1, mc_2, mp_2, mc_3, mp_3, mc_4, mp_4, mc_5, mp_5, mc_6, mp_6, mc_7, mp_7, mc_8, mp_8, mc_9, mp_9, mc_10, mp_10, mc_11, mp_11, mc_12, mp_12, mc_13, mp_13, mc_14, mp_14, mc_15, mp_15, mc_16, mp_16, mc_17, mp_17, mc_18, mp_18, mc_19, mp_19, mc_20, mp_20, mc_21, mp_21, mc_22, mp_22, mc_23, mp_23, mc_24, mp_24, mc_25, mp_25, mc_26, mp_26, mc_27, mp_27, mc_28, mp_28, mc_29, mp_29, iu, cup, Nat.reduceEqDiff, show ¬ (30 : Int32) ≤ nI l from nI_ge (b := 30) hl30 (by decide), r_isLaw hl30 b1 b2 (c25 _).1 (c25 _).2.1 (c25 _).2.2, hbit l hl30, nI_1]
        by_cases c : (f >>> (nI l &&& 31)) &&& 1 = 1
        · rw [if_pos c] at esm
          simp only [c, if_true, show ¬ (1 : Int32) = 0 by decide, if_false, r_becomes hl30, s_272_0, s_272_1, s_272_2, s_272_5, s_272_6, s_272_7, s_272_10, s_272_11, s_272_13, s_272_15, s_272_17, s_272_20, s_272_22, s_272_26, s_272_28, s_272_31, s_272_32, s_272_36, s_272_38, s_272_41, s_272_42, s_272_45, s_272_47, s_272_48, s_272_49, s_272_52, s_272_55, s_272_56, s_272_58, s_272_59, s_272_63, s_272_65, s_272_68, s_272_69, s_272_71, s_272_74, s_272_77, s_272_80, s_272_82, s_272_83, s_272_85, s_272_88, s_272_90, s_272_91, s_272_93, s_272_94, s_272_97, s_272_99, s_272_100, s_272_101, s_272_102, s_272_103, s_272_104, s_272_106, s_272_107, s_272_110, s_272_112, s_272_113, s_272_116, s_272_118, s_272_121, s_272_124, s_272_126, s_272_127, s_272_130, s_272_133, s_272_135, s_272_137, s_272_138, s_272_139, s_272_140, s_272_142, s_272_143, s_272_145, s_272_146, s_272_147, s_272_149, s_272_150, s_272_153, s_272_156, s_272_159, s_272_162, s_272_163, s_272_166, s_272_168, s_272_169, s_272_170, s_272_171, s_272_174, s_272_175, s_272_176, s_272_177, s_272_180, s_272_181, x_get_i, List.getElem?_cons_succ, List.getElem?_cons_zero, x_cv_j, cs_n, cs_i, cs_r, cs_l, Nat.reduceAdd, Nat.reduceLeDiff, true_and, Option.toList_some, Option.toList_none, List.cons_append, List.nil_append, if_true, if_false, nb0, nb1, x_setJ, x_setZ0, x_setZ1, x_setA, x_setO, List.length_cons, List.length_nil, Nat.reduceLT, List.set_cons_succ, List.set_cons_zero, wrl_0, wrl_1, wrl_2, wrl_3, wrl_4, wrl_5, wrl_p0, wrl_p1, wrl_p2, wrl_p3, wrl_p4, mh_o, mh_po, mcv, mg_0, mg_1, mg_2, mg_3, mg_4, mg_5, mg_6, mg_7, mg_8, mg_9, mg_10, mg_11, mg_12, mg_13, mg_14, mg_15, mg_16, mg_17, mg_18, mg_19, mg_20, mg_21, mg_22, mg_23, mg_24, mg_25, mg_26, mg_27, mg_28, mg_29, mg_30, mg_31, mg_32, mg_33, mg_34, mg_35, mg_36, mg_37, mg_38, mg_39, mg_40, mg_41, mg_42, mg_43, mg_44, mg_45, mg_46, ms_1, ms_4, ms_6, ms_7, ms_9, ms_10, ms_11, ms_12, ms_16, ms_20, ms_24, ms_28, ms_35, ms_39, ms_42, ms_43, ms_17t, ms_17f, ms_8, ms_14, mc_1, mp_1, mc_2, mp_2, mc_3, mp_3, mc_4, mp_4, mc_5, mp_5, mc_6, mp_6, mc_7, mp_7, mc_8, mp_8, mc_9, mp_9, mc_10, mp_10, mc_11, mp_11, mc_12, mp_12, mc_13, mp_13, mc_14, mp_14, mc_15, mp_15, mc_16, mp_16, mc_17, mp_17, mc_18, mp_18, mc_19, mp_19, mc_20, mp_20, mc_21, mp_21, mc_22, mp_22, mc_23, mp_23, mc_24, mp_24, mc_25, mp_25, mc_26, mp_26, mc_27, mp_27, mc_28, mp_28, mc_29, mp_29, iu, cup, Nat.reduceEqDiff, emo, x_ild_n ho n19, x_ist_n ho n19, cup_cup, mxA_s c, ex, nI_1]
          rw [← esm]
          exact ih (l + 1) _ (by omega)
        · rw [if_neg c] at esm
          have ea := mxA_n (A := Y) (lo := lo) c
          have ih := ih (l + 1) x7 (by omega)
          rw [esm, ea] at ih
          simp only [c, if_false, if_true]
          exact ih
    have reset : ∀ (j k : Nat) (x6 x7 : Value), k + j = 19 → tm_X (g_G sa sc xt) (d + 4) 272 34 [.ref m, .int st.1, .int st.2, .int (nI a - 9), .int (nI b - 9), .int (nI k), x6, x7] [] (mh h m I0 rd (m + 6) (cup C 25 (.inl (0, 19, .inl (fl Y 0 k))))) Q := by
      intro j
      induction j with
      | zero =>
        intro k x6 x7 hk
        have hk : k = 19 := by omega
        subst hk
        rw [s_272_34]
        simp only [s_272_0, s_272_1, s_272_2, s_272_5, s_272_6, s_272_7, s_272_10, s_272_11, s_272_13, s_272_15, s_272_17, s_272_20, s_272_22, s_272_26, s_272_28, s_272_31, s_272_32, s_272_36, s_272_38, s_272_41, s_272_42, s_272_45, s_272_47, s_272_48, s_272_49, s_272_52, s_272_55, s_272_56, s_272_58, s_272_59, s_272_63, s_272_65, s_272_68, s_272_69, s_272_71, s_272_74, s_272_77, s_272_80, s_272_82, s_272_83, s_272_85, s_272_88, s_272_90, s_272_91, s_272_93, s_272_94, s_272_97, s_272_99, s_272_100, s_272_101, s_272_102, s_272_103, s_272_104, s_272_106, s_272_107, s_272_110, s_272_112, s_272_113, s_272_116, s_272_118, s_272_121, s_272_124, s_272_126, s_272_127, s_272_130, s_272_133, s_272_135, s_272_137, s_272_138, s_272_139, s_272_140, s_272_142, s_272_143, s_272_145, s_272_146, s_272_147, s_272_149, s_272_150, s_272_153, s_272_156, s_272_159, s_272_162, s_272_163, s_272_166, s_272_168, s_272_169, s_272_170, s_272_171, s_272_174, s_272_175, s_272_176, s_272_177, s_272_180, s_272_181, x_get_i, List.getElem?_cons_succ, List.getElem?_cons_zero, x_cv_j, cs_n, cs_i, cs_r, cs_l, Nat.reduceAdd, Nat.reduceLeDiff, true_and, Option.toList_some, Option.toList_none, List.cons_append, List.nil_append, if_true, if_false, nb0, nb1, x_setJ, x_setZ0, x_setZ1, x_setA, x_setO, List.length_cons, List.length_nil, Nat.reduceLT, List.set_cons_succ, List.set_cons_zero, wrl_0, wrl_1, wrl_2, wrl_3, wrl_4, wrl_5, wrl_p0, wrl_p1, wrl_p2, wrl_p3, wrl_p4, mh_o, mh_po, mcv, mg_0, mg_1, mg_2, mg_3, mg_4, mg_5, mg_6, mg_7, mg_8, mg_9, mg_10, mg_11, mg_12, mg_13, mg_14, mg_15, mg_16, mg_17, mg_18, mg_19, mg_20, mg_21, mg_22, mg_23, mg_24, mg_25, mg_26, mg_27, mg_28, mg_29, mg_30, mg_31, mg_32, mg_33, mg_34, mg_35, mg_36, mg_37, mg_38, mg_39, mg_40, mg_41, mg_42, mg_43, mg_44, mg_45, mg_46, ms_1, ms_4, ms_6, ms_7, ms_9, ms_10, ms_11, ms_12, ms_16, ms_20, ms_24, ms_28, ms_35, ms_39, ms_42, ms_43, ms_17t, ms_17f, ms_8, ms_14, mc_1, mp_1, mc_2, mp_2, mc_3, mp_3, mc_4, mp_4, mc_5, mp_5, mc_6, mp_6, mc_7, mp_7, mc_8, mp_8, mc_9, mp_9, mc_10, mp_10, mc_11, mp_11, mc_12, mp_12, mc_13, mp_13, mc_14, mp_14, mc_15, mp_15, mc_16, mp_16, mc_17, mp_17, mc_18, mp_18, mc_19, mp_19, mc_20, mp_20, mc_21, mp_21, mc_22, mp_22, mc_23, mp_23, mc_24, mp_24, mc_25, mp_25, mc_26, mp_26, mc_27, mp_27, mc_28, mp_28, mc_29, mp_29, iu, cup, Nat.reduceEqDiff, show (18 : Int32) < nI 19 by decide]
        exact laws 30 0 _ (by decide)
      | succ j ih =>
        intro k x6 x7 hk
        rw [s_272_34]
        simp only [s_272_0, s_272_1, s_272_2, s_272_5, s_272_6, s_272_7, s_272_10, s_272_11, s_272_13, s_272_15, s_272_17, s_272_20, s_272_22, s_272_26, s_272_28, s_272_31, s_272_32, s_272_36, s_272_38, s_272_41, s_272_42, s_272_45, s_272_47, s_272_48, s_272_49, s_272_52, s_272_55, s_272_56, s_272_58, s_272_59, s_272_63, s_272_65, s_272_68, s_272_69, s_272_71, s_272_74, s_272_77, s_272_80, s_272_82, s_272_83, s_272_85, s_272_88, s_272_90, s_272_91, s_272_93, s_272_94, s_272_97, s_272_99, s_272_100, s_272_101, s_272_102, s_272_103, s_272_104, s_272_106, s_272_107, s_272_110, s_272_112, s_272_113, s_272_116, s_272_118, s_272_121, s_272_124, s_272_126, s_272_127, s_272_130, s_272_133, s_272_135, s_272_137, s_272_138, s_272_139, s_272_140, s_272_142, s_272_143, s_272_145, s_272_146, s_272_147, s_272_149, s_272_150, s_272_153, s_272_156, s_272_159, s_272_162, s_272_163, s_272_166, s_272_168, s_272_169, s_272_170, s_272_171, s_272_174, s_272_175, s_272_176, s_272_177, s_272_180, s_272_181, x_get_i, List.getElem?_cons_succ, List.getElem?_cons_zero, x_cv_j, cs_n, cs_i, cs_r, cs_l, Nat.reduceAdd, Nat.reduceLeDiff, true_and, Option.toList_some, Option.toList_none, List.cons_append, List.nil_append, if_true, if_false, nb0, nb1, x_setJ, x_setZ0, x_setZ1, x_setA, x_setO, List.length_cons, List.length_nil, Nat.reduceLT, List.set_cons_succ, List.set_cons_zero, wrl_0, wrl_1, wrl_2, wrl_3, wrl_4, wrl_5, wrl_p0, wrl_p1, wrl_p2, wrl_p3, wrl_p4, mh_o, mh_po, mcv, mg_0, mg_1, mg_2, mg_3, mg_4, mg_5, mg_6, mg_7, mg_8, mg_9, mg_10, mg_11, mg_12, mg_13, mg_14, mg_15, mg_16, mg_17, mg_18, mg_19, mg_20, mg_21, mg_22, mg_23, mg_24, mg_25, mg_26, mg_27, mg_28, mg_29, mg_30, mg_31, mg_32, mg_33, mg_34, mg_35, mg_36, mg_37, mg_38, mg_39, mg_40, mg_41, mg_42, mg_43, mg_44, mg_45, mg_46, ms_1, ms_4, ms_6, ms_7, ms_9, ms_10, ms_11, ms_12, ms_16, ms_20, ms_24, ms_28, ms_35, ms_39, ms_42, ms_43, ms_17t, ms_17f, ms_8, ms_14, mc_1, mp_1, mc_2, mp_2, mc_3, mp_3, mc_4, mp_4, mc_5, mp_5, mc_6, mp_6, mc_7, mp_7, mc_8, mp_8, mc_9, mp_9, mc_10, mp_10, mc_11, mp_11, mc_12, mp_12, mc_13, mp_13, mc_14, mp_14, mc_15, mp_15, mc_16, mp_16, mc_17, mp_17, mc_18, mp_18, mc_19, mp_19, mc_20, mp_20, mc_21, mp_21, mc_22, mp_22, mc_23, mp_23, mc_24, mp_24, mc_25, mp_25, mc_26, mp_26, mc_27, mp_27, mc_28, mp_28, mc_29, mp_29, iu, cup, Nat.reduceEqDiff, show ¬ (18 : Int32) < nI k from nI_nlt (a := 18) (by omega) (by decide), x_ist_n (show k < 19 by omega) n19, cup_cup, fl_s, nI_1]
        exact ih (k + 1) _ _ (by omega)
    rw [s_272_24]
    simp only [s_272_0, s_272_1, s_272_2, s_272_5, s_272_6, s_272_7, s_272_10, s_272_11, s_272_13, s_272_15, s_272_17, s_272_20, s_272_22, s_272_26, s_272_28, s_272_31, s_272_32, s_272_36, s_272_38, s_272_41, s_272_42, s_272_45, s_272_47, s_272_48, s_272_49, s_272_52, s_272_55, s_272_56, s_272_58, s_272_59, s_272_63, s_272_65, s_272_68, s_272_69, s_272_71, s_272_74, s_272_77, s_272_80, s_272_82, s_272_83, s_272_85, s_272_88, s_272_90, s_272_91, s_272_93, s_272_94, s_272_97, s_272_99, s_272_100, s_272_101, s_272_102, s_272_103, s_272_104, s_272_106, s_272_107, s_272_110, s_272_112, s_272_113, s_272_116, s_272_118, s_272_121, s_272_124, s_272_126, s_272_127, s_272_130, s_272_133, s_272_135, s_272_137, s_272_138, s_272_139, s_272_140, s_272_142, s_272_143, s_272_145, s_272_146, s_272_147, s_272_149, s_272_150, s_272_153, s_272_156, s_272_159, s_272_162, s_272_163, s_272_166, s_272_168, s_272_169, s_272_170, s_272_171, s_272_174, s_272_175, s_272_176, s_272_177, s_272_180, s_272_181, x_get_i, List.getElem?_cons_succ, List.getElem?_cons_zero, x_cv_j, cs_n, cs_i, cs_r, cs_l, Nat.reduceAdd, Nat.reduceLeDiff, true_and, Option.toList_some, Option.toList_none, List.cons_append, List.nil_append, if_true, if_false, nb0, nb1, x_setJ, x_setZ0, x_setZ1, x_setA, x_setO, List.length_cons, List.length_nil, Nat.reduceLT, List.set_cons_succ, List.set_cons_zero, wrl_0, wrl_1, wrl_2, wrl_3, wrl_4, wrl_5, wrl_p0, wrl_p1, wrl_p2, wrl_p3, wrl_p4, mh_o, mh_po, mcv, mg_0, mg_1, mg_2, mg_3, mg_4, mg_5, mg_6, mg_7, mg_8, mg_9, mg_10, mg_11, mg_12, mg_13, mg_14, mg_15, mg_16, mg_17, mg_18, mg_19, mg_20, mg_21, mg_22, mg_23, mg_24, mg_25, mg_26, mg_27, mg_28, mg_29, mg_30, mg_31, mg_32, mg_33, mg_34, mg_35, mg_36, mg_37, mg_38, mg_39, mg_40, mg_41, mg_42, mg_43, mg_44, mg_45, mg_46, ms_1, ms_4, ms_6, ms_7, ms_9, ms_10, ms_11, ms_12, ms_16, ms_20, ms_24, ms_28, ms_35, ms_39, ms_42, ms_43, ms_17t, ms_17f, ms_8, ms_14, mc_1, mp_1, mc_2, mp_2, mc_3, mp_3, mc_4, mp_4, mc_5, mp_5, mc_6, mp_6, mc_7, mp_7, mc_8, mp_8, mc_9, mp_9, mc_10, mp_10, mc_11, mp_11, mc_12, mp_12, mc_13, mp_13, mc_14, mp_14, mc_15, mp_15, mc_16, mp_16, mc_17, mp_17, mc_18, mp_18, mc_19, mp_19, mc_20, mp_20, mc_21, mp_21, mc_22, mp_22, mc_23, mp_23, mc_24, mp_24, mc_25, mp_25, mc_26, mp_26, mc_27, mp_27, mc_28, mp_28, mc_29, mp_29, iu, cup, Nat.reduceEqDiff, cb]
    have := reset 19 0 x6 x7 (by decide)
    rw [fl_0] at this
    exact this
  have inner : ∀ (a : Nat), a < 19 → (∀ (Y : Nat → Int32) (x4 x5 x6 x7 : Value), tm_X (g_G sa sc xt) (d + 4) 272 14 [.ref m, .int (lks f (-1, 1000000) (19 * (a + 1))).1, .int (lks f (-1, 1000000) (19 * (a + 1))).2, .int (nI (a + 1) - 9), x4, x5, x6, x7] [] (mh h m I0 rd (m + 6) (cup C 25 (.inl (0, 19, .inl Y)))) Q) → ∀ (j b : Nat) (Y : Nat → Int32) (x5 x6 x7 : Value), b + j = 19 → tm_X (g_G sa sc xt) (d + 4) 272 24 [.ref m, .int (lks f (-1, 1000000) (19 * a + b)).1, .int (lks f (-1, 1000000) (19 * a + b)).2, .int (nI a - 9), .int (nI b - 9), x5, x6, x7] [] (mh h m I0 rd (m + 6) (cup C 25 (.inl (0, 19, .inl Y)))) Q := by
    intro a ha next j
    induction j with
    | zero =>
      intro b Y x5 x6 x7 hb
      have hb : b = 19 := by omega
      subst hb
      have ea1 : nI a - 9 + 1 = nI (a + 1) - 9 := by
        have : ∀ b : Fin 19, nI b.1 - 9 + 1 = nI (b.1 + 1) - 9 := by decide +kernel
        exact this ⟨a, ha⟩
      rw [s_272_24]
      simp only [s_272_0, s_272_1, s_272_2, s_272_5, s_272_6, s_272_7, s_272_10, s_272_11, s_272_13, s_272_15, s_272_17, s_272_20, s_272_22, s_272_26, s_272_28, s_272_31, s_272_32, s_272_36, s_272_38, s_272_41, s_272_42, s_272_45, s_272_47, s_272_48, s_272_49, s_272_52, s_272_55, s_272_56, s_272_58, s_272_59, s_272_63, s_272_65, s_272_68, s_272_69, s_272_71, s_272_74, s_272_77, s_272_80, s_272_82, s_272_83, s_272_85, s_272_88, s_272_90, s_272_91, s_272_93, s_272_94, s_272_97, s_272_99, s_272_100, s_272_101, s_272_102, s_272_103, s_272_104, s_272_106, s_272_107, s_272_110, s_272_112, s_272_113, s_272_116, s_272_118, s_272_121, s_272_124, s_272_126, s_272_127, s_272_130, s_272_133, s_272_135, s_272_137, s_272_138, s_272_139, s_272_140, s_272_142, s_272_143, s_272_145, s_272_146, s_272_147, s_272_149, s_272_150, s_272_153, s_272_156, s_272_159, s_272_162, s_272_163, s_272_166, s_272_168, s_272_169, s_272_170, s_272_171, s_272_174, s_272_175, s_272_176, s_272_177, s_272_180, s_272_181, x_get_i, List.getElem?_cons_succ, List.getElem?_cons_zero, x_cv_j, cs_n, cs_i, cs_r, cs_l, Nat.reduceAdd, Nat.reduceLeDiff, true_and, Option.toList_some, Option.toList_none, List.cons_append, List.nil_append, if_true, if_false, nb0, nb1, x_setJ, x_setZ0, x_setZ1, x_setA, x_setO, List.length_cons, List.length_nil, Nat.reduceLT, List.set_cons_succ, List.set_cons_zero, wrl_0, wrl_1, wrl_2, wrl_3, wrl_4, wrl_5, wrl_p0, wrl_p1, wrl_p2, wrl_p3, wrl_p4, mh_o, mh_po, mcv, mg_0, mg_1, mg_2, mg_3, mg_4, mg_5, mg_6, mg_7, mg_8, mg_9, mg_10, mg_11, mg_12, mg_13, mg_14, mg_15, mg_16, mg_17, mg_18, mg_19, mg_20, mg_21, mg_22, mg_23, mg_24, mg_25, mg_26, mg_27, mg_28, mg_29, mg_30, mg_31, mg_32, mg_33, mg_34, mg_35, mg_36, mg_37, mg_38, mg_39, mg_40, mg_41, mg_42, mg_43, mg_44, mg_45, mg_46, ms_1, ms_4, ms_6, ms_7, ms_9, ms_10, ms_11, ms_12, ms_16, ms_20, ms_24, ms_28, ms_35, ms_39, ms_42, ms_43, ms_17t, ms_17f, ms_8, ms_14, mc_1, mp_1, mc_2, mp_2, mc_3, mp_3, mc_4, mp_4, mc_5, mp_5, mc_6, mp_6, mc_7, mp_7, mc_8, mp_8, mc_9, mp_9, mc_10, mp_10, mc_11, mp_11, mc_12, mp_12, mc_13, mp_13, mc_14, mp_14, mc_15, mp_15, mc_16, mp_16, mc_17, mp_17, mc_18, mp_18, mc_19, mp_19, mc_20, mp_20, mc_21, mp_21, mc_22, mp_22, mc_23, mp_23, mc_24, mp_24, mc_25, mp_25, mc_26, mp_26, mc_27, mp_27, mc_28, mp_28, mc_29, mp_29, iu, cup, Nat.reduceEqDiff, show (9 : Int32) < nI 19 - 9 by decide, ea1]
      exact next Y _ _ _ _
    | succ j ih =>
      intro b Y x5 x6 x7 hb
      refine look a b Y (lks f (-1, 1000000) (19 * a + b)) x5 x6 x7 ha (by omega) (fun Y' x5 x6 x7 => ?_)
      exact ih (b + 1) Y' x5 x6 x7 (by omega)
  have outer : ∀ (j a : Nat) (Y : Nat → Int32) (x4 x5 x6 x7 : Value), a + j = 19 → tm_X (g_G sa sc xt) (d + 4) 272 14 [.ref m, .int (lks f (-1, 1000000) (19 * a)).1, .int (lks f (-1, 1000000) (19 * a)).2, .int (nI a - 9), x4, x5, x6, x7] [] (mh h m I0 rd (m + 6) (cup C 25 (.inl (0, 19, .inl Y)))) Q := by
    intro j
    induction j with
    | zero =>
      intro a Y x4 x5 x6 x7 ha
      have ha : a = 19 := by omega
      subst ha
      rw [s_272_14]
      have fin := fin Y (nI 19 - 9) x4 x5 x6 x7
      simp only [s_272_0, s_272_1, s_272_2, s_272_5, s_272_6, s_272_7, s_272_10, s_272_11, s_272_13, s_272_15, s_272_17, s_272_20, s_272_22, s_272_26, s_272_28, s_272_31, s_272_32, s_272_36, s_272_38, s_272_41, s_272_42, s_272_45, s_272_47, s_272_48, s_272_49, s_272_52, s_272_55, s_272_56, s_272_58, s_272_59, s_272_63, s_272_65, s_272_68, s_272_69, s_272_71, s_272_74, s_272_77, s_272_80, s_272_82, s_272_83, s_272_85, s_272_88, s_272_90, s_272_91, s_272_93, s_272_94, s_272_97, s_272_99, s_272_100, s_272_101, s_272_102, s_272_103, s_272_104, s_272_106, s_272_107, s_272_110, s_272_112, s_272_113, s_272_116, s_272_118, s_272_121, s_272_124, s_272_126, s_272_127, s_272_130, s_272_133, s_272_135, s_272_137, s_272_138, s_272_139, s_272_140, s_272_142, s_272_143, s_272_145, s_272_146, s_272_147, s_272_149, s_272_150, s_272_153, s_272_156, s_272_159, s_272_163, s_272_166, s_272_168, s_272_169, s_272_170, s_272_171, s_272_174, s_272_175, s_272_176, s_272_177, s_272_180, s_272_181, x_get_i, List.getElem?_cons_succ, List.getElem?_cons_zero, x_cv_j, cs_n, cs_i, cs_r, cs_l, Nat.reduceAdd, Nat.reduceLeDiff, true_and, Option.toList_some, Option.toList_none, List.cons_append, List.nil_append, if_true, if_false, nb0, nb1, x_setJ, x_setZ0, x_setZ1, x_setA, x_setO, List.length_cons, List.length_nil, Nat.reduceLT, List.set_cons_succ, List.set_cons_zero, wrl_0, wrl_1, wrl_2, wrl_3, wrl_4, wrl_5, wrl_p0, wrl_p1, wrl_p2, wrl_p3, wrl_p4, mh_o, mh_po, mcv, mg_0, mg_1, mg_2, mg_3, mg_4, mg_5, mg_6, mg_7, mg_8, mg_9, mg_10, mg_11, mg_12, mg_13, mg_14, mg_15, mg_16, mg_17, mg_18, mg_19, mg_20, mg_21, mg_22, mg_23, mg_24, mg_25, mg_26, mg_27, mg_28, mg_29, mg_30, mg_31, mg_32, mg_33, mg_34, mg_35, mg_36, mg_37, mg_38, mg_39, mg_40, mg_41, mg_42, mg_43, mg_44, mg_45, mg_46, ms_1, ms_4, ms_6, ms_7, ms_9, ms_10, ms_11, ms_12, ms_16, ms_20, ms_24, ms_28, ms_35, ms_39, ms_42, ms_43, ms_17t, ms_17f, ms_8, ms_14, mc_1, mp_1, mc_2, mp_2, mc_3, mp_3, mc_4, mp_4, mc_5, mp_5, mc_6, mp_6, mc_7, mp_7, mc_8, mp_8, mc_9, mp_9, mc_10, mp_10, mc_11, mp_11, mc_12, mp_12, mc_13, mp_13, mc_14, mp_14, mc_15, mp_15, mc_16, mp_16, mc_17, mp_17, mc_18, mp_18, mc_19, mp_19, mc_20, mp_20, mc_21, mp_21, mc_22, mp_22, mc_23, mp_23, mc_24, mp_24, mc_25, mp_25, mc_26, mp_26, mc_27, mp_27, mc_28, mp_28, mc_29, mp_29, iu, cup, Nat.reduceEqDiff, show (9 : Int32) < nI 19 - 9 by decide]
      exact fin
    | succ j ih =>
      intro a Y x4 x5 x6 x7 ha
      have ca : ¬ (9 : Int32) < nI a - 9 := by
        have : ∀ b : Fin 19, ¬ (9 : Int32) < nI b.1 - 9 := by decide +kernel
        exact this ⟨a, by omega⟩
      rw [s_272_14]
      simp only [s_272_0, s_272_1, s_272_2, s_272_5, s_272_6, s_272_7, s_272_10, s_272_11, s_272_13, s_272_15, s_272_17, s_272_20, s_272_22, s_272_26, s_272_28, s_272_31, s_272_32, s_272_36, s_272_38, s_272_41, s_272_42, s_272_45, s_272_47, s_272_48, s_272_49, s_272_52, s_272_55, s_272_56, s_272_58, s_272_59, s_272_63, s_272_65, s_272_68, s_272_69, s_272_71, s_272_74, s_272_77, s_272_80, s_272_82, s_272_83, s_272_85, s_272_88, s_272_90, s_272_91, s_272_93, s_272_94, s_272_97, s_272_99, s_272_100, s_272_101, s_272_102, s_272_103, s_272_104, s_272_106, s_272_107, s_272_110, s_272_112, s_272_113, s_272_116, s_272_118, s_272_121, s_272_124, s_272_126, s_272_127, s_272_130, s_272_133, s_272_135, s_272_137, s_272_138, s_272_139, s_272_140, s_272_142, s_272_143, s_272_145, s_272_146, s_272_147, s_272_149, s_272_150, s_272_153, s_272_156, s_272_159, s_272_162, s_272_163, s_272_166, s_272_168, s_272_169, s_272_170, s_272_171, s_272_174, s_272_175, s_272_176, s_272_177, s_272_180, s_272_181, x_get_i, List.getElem?_cons_succ, List.getElem?_cons_zero, x_cv_j, cs_n, cs_i, cs_r, cs_l, Nat.reduceAdd, Nat.reduceLeDiff, true_and, Option.toList_some, Option.toList_none, List.cons_append, List.nil_append, if_true, if_false, nb0, nb1, x_setJ, x_setZ0, x_setZ1, x_setA, x_setO, List.length_cons, List.length_nil, Nat.reduceLT, List.set_cons_succ, List.set_cons_zero, wrl_0, wrl_1, wrl_2, wrl_3, wrl_4, wrl_5, wrl_p0, wrl_p1, wrl_p2, wrl_p3, wrl_p4, mh_o, mh_po, mcv, mg_0, mg_1, mg_2, mg_3, mg_4, mg_5, mg_6, mg_7, mg_8, mg_9, mg_10, mg_11, mg_12, mg_13, mg_14, mg_15, mg_16, mg_17, mg_18, mg_19, mg_20, mg_21, mg_22, mg_23, mg_24, mg_25, mg_26, mg_27, mg_28, mg_29, mg_30, mg_31, mg_32, mg_33, mg_34, mg_35, mg_36, mg_37, mg_38, mg_39, mg_40, mg_41, mg_42, mg_43, mg_44, mg_45, mg_46, ms_1, ms_4, ms_6, ms_7, ms_9, ms_10, ms_11, ms_12, ms_16, ms_20, ms_24, ms_28, ms_35, ms_39, ms_42, ms_43, ms_17t, ms_17f, ms_8, ms_14, mc_1, mp_1, mc_2, mp_2, mc_3, mp_3, mc_4, mp_4, mc_5, mp_5, mc_6, mp_6, mc_7, mp_7, mc_8, mp_8, mc_9, mp_9, mc_10, mp_10, mc_11, mp_11, mc_12, mp_12, mc_13, mp_13, mc_14, mp_14, mc_15, mp_15, mc_16, mp_16, mc_17, mp_17, mc_18, mp_18, mc_19, mp_19, mc_20, mp_20, mc_21, mp_21, mc_22, mp_22, mc_23, mp_23, mc_24, mp_24, mc_25, mp_25, mc_26, mp_26, mc_27, mp_27, mc_28, mp_28, mc_29, mp_29, iu, cup, Nat.reduceEqDiff, ca]
      exact inner a (by omega) (fun Y x4 x5 x6 x7 => ih (a + 1) Y x4 x5 x6 x7 (by omega)) 19 0 Y x5 x6 x7 (by omega)
  rw [e_272]
  simp only [s_272_0, s_272_1, s_272_2, s_272_5, s_272_6, s_272_7, s_272_10, s_272_11, s_272_13, s_272_15, s_272_17, s_272_20, s_272_22, s_272_26, s_272_28, s_272_31, s_272_32, s_272_36, s_272_38, s_272_41, s_272_42, s_272_45, s_272_47, s_272_48, s_272_49, s_272_52, s_272_55, s_272_56, s_272_58, s_272_59, s_272_63, s_272_65, s_272_68, s_272_69, s_272_71, s_272_74, s_272_77, s_272_80, s_272_82, s_272_83, s_272_85, s_272_88, s_272_90, s_272_91, s_272_93, s_272_94, s_272_97, s_272_99, s_272_100, s_272_101, s_272_102, s_272_103, s_272_104, s_272_106, s_272_107, s_272_110, s_272_112, s_272_113, s_272_116, s_272_118, s_272_121, s_272_124, s_272_126, s_272_127, s_272_130, s_272_133, s_272_135, s_272_137, s_272_138, s_272_139, s_272_140, s_272_142, s_272_143, s_272_145, s_272_146, s_272_147, s_272_149, s_272_150, s_272_153, s_272_156, s_272_159, s_272_162, s_272_163, s_272_166, s_272_168, s_272_169, s_272_170, s_272_171, s_272_174, s_272_175, s_272_176, s_272_177, s_272_180, s_272_181, x_get_i, List.getElem?_cons_succ, List.getElem?_cons_zero, x_cv_j, cs_n, cs_i, cs_r, cs_l, Nat.reduceAdd, Nat.reduceLeDiff, true_and, Option.toList_some, Option.toList_none, List.cons_append, List.nil_append, if_true, if_false, nb0, nb1, x_setJ, x_setZ0, x_setZ1, x_setA, x_setO, List.length_cons, List.length_nil, Nat.reduceLT, List.set_cons_succ, List.set_cons_zero, wrl_0, wrl_1, wrl_2, wrl_3, wrl_4, wrl_5, wrl_p0, wrl_p1, wrl_p2, wrl_p3, wrl_p4, mh_o, mh_po, mcv, mg_0, mg_1, mg_2, mg_3, mg_4, mg_5, mg_6, mg_7, mg_8, mg_9, mg_10, mg_11, mg_12, mg_13, mg_14, mg_15, mg_16, mg_17, mg_18, mg_19, mg_20, mg_21, mg_22, mg_23, mg_24, mg_25, mg_26, mg_27, mg_28, mg_29, mg_30, mg_31, mg_32, mg_33, mg_34, mg_35, mg_36, mg_37, mg_38, mg_39, mg_40, mg_41, mg_42, mg_43, mg_44, mg_45, mg_46, ms_1, ms_4, ms_6, ms_7, ms_9, ms_10, ms_11, ms_12, ms_16, ms_20, ms_24, ms_28, ms_35, ms_39, ms_42, ms_43, ms_17t, ms_17f, ms_8, ms_14, mc_1, mp_1, mc_2, mp_2, mc_3, mp_3, mc_4, mp_4, mc_5, mp_5, mc_6, mp_6, mc_7, mp_7, mc_8, mp_8, mc_9, mp_9, mc_10, mp_10, mc_11, mp_11, mc_12, mp_12, mc_13, mp_13, mc_14, mp_14, mc_15, mp_15, mc_16, mp_16, mc_17, mp_17, mc_18, mp_18, mc_19, mp_19, mc_20, mp_20, mc_21, mp_21, mc_22, mp_22, mc_23, mp_23, mc_24, mp_24, mc_25, mp_25, mc_26, mp_26, mc_27, mp_27, mc_28, mp_28, mc_29, mp_29, iu, cup, Nat.reduceEqDiff]
  rw [← hI0]
  have := outer 19 0 Y0 tm_z tm_z tm_z tm_z (by omega)
  rw [cup_eta hY0] at this
  exact this
end
