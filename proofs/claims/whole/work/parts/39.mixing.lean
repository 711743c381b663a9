/-! Mixing -/
abbrev mxc (q : Nat) (Ms Bs Os A : Nat → Int32) (z : Int32) : List tm_E := [.inr (4, [.ref (q + 1), .ref (q + 2), .ref (q + 3), .ref (q + 4), .int z]), .inl (0, 10, .inl Ms), .inl (0, 10, .inl Bs), .inl (0, 10, .inl Os), .inl (0, 19, .inl A)]
/-- what a mood becomes by a law -/
def mxb (l m c : Int32) : Int32 := pm (m + (l / 5) * (c - m) / ((l - l / 5 * 5) + 1))
theorem mxb_d {l : Nat} (hl : l < 30) : ¬ nI l - nI l / 5 * 5 + 1 = 0 := by
  have : ∀ l : Fin 30, ¬ nI l.1 - nI l.1 / 5 * 5 + 1 = 0 := by decide +kernel
  exact this ⟨l, hl⟩
theorem pm_9 (v : Int32) : ∃ y, y < 19 ∧ pm v + 9 = nI y ∧ pm v = nI y - 9 := by
  have hv : -9 ≤ (pm v).toInt ∧ (pm v).toInt ≤ 9 := by
    unfold pm
    split
    · exact ⟨by decide, by decide⟩
    · rename_i h1
      split
      · exact ⟨by decide, by decide⟩
      · rename_i h2
        exact ⟨Int32.le_iff_toInt_le.mp (Int32.not_lt.mp h1), Int32.le_iff_toInt_le.mp (Int32.not_lt.mp h2)⟩
  have e : pm v + 9 = nI ((pm v).toInt + 9).toNat := by
    apply Int32.toInt_inj.mp
    rw [nI_toInt (by omega), Int32.toInt_add]
    show (((pm v).toInt + 9).bmod (2 ^ 32)) = _
    rw [Int.bmod_eq_of_le (by omega) (by omega)]
    omega
  refine ⟨((pm v).toInt + 9).toNat, by omega, e, ?_⟩
  rw [← e, Int32.add_sub_cancel]
/-- the place of what comes of a look -/
def mxo (lo : Int32) (l : Nat) : Nat := (mxb (nI l) (lo / 19 - 9) ((lo - lo / 19 * 19) - 9) + 9).toNatClampNeg
theorem mxo_e {lo : Int32} {l : Nat} : mxb (nI l) (lo / 19 - 9) ((lo - lo / 19 * 19) - 9) + 9 = nI (mxo lo l) ∧ mxo lo l < 19 := by
  unfold mxo mxb
  obtain ⟨y, hy, e, -⟩ := pm_9 (lo / 19 - 9 + nI l / 5 * (lo - lo / 19 * 19 - 9 - (lo / 19 - 9)) / (nI l - nI l / 5 * 5 + 1))
  rw [e, nI_clamp (by omega)]
  exact ⟨rfl, hy⟩
def mxf (Ms Bs Os : Nat → Int32) (l : Int32) : Nat → Nat → Bool
  | 0, _ => true
  | j + 1, i => if mxb l (Ms i) (Bs i) = Os i then mxf Ms Bs Os l j (i + 1) else false
def mxF (Ms Bs Os : Nat → Int32) (z : Nat) : Nat → Int32 := fo (fun l a => a ||| (if mxf Ms Bs Os (nI l) z 0 then 1 <<< (nI l &&& 31) else 0)) 0
/-- how many of the first laws come to x -/
def mxn (f lo : Int32) (x : Nat) : Nat → Int32 := fo (fun l a => if (f >>> (nI l &&& 31)) &&& 1 = 1 then (if mxo lo l = x then a + 1 else a) else a) 0
def mxm (f lo : Int32) : Nat → Int32 := fo (fun l m => if (f >>> (nI l &&& 31)) &&& 1 = 1 then (if m < mxn f lo (mxo lo l) (l + 1) then mxn f lo (mxo lo l) (l + 1) else m) else m) 0
def mxA (A : Nat → Int32) (f lo : Int32) (l : Nat) : Nat → Int32 := fun x => if x < 19 then mxn f lo x l else A x
theorem mxA_s {A : Nat → Int32} {f lo : Int32} {l : Nat} (hb : (f >>> (nI l &&& 31)) &&& 1 = 1) : upd (mxA A f lo l) (mxo lo l) (mxA A f lo l (mxo lo l) + 1) = mxA A f lo (l + 1) := by
  have ho := (mxo_e (lo := lo) (l := l)).2
  funext x
  have es : mxn f lo x (l + 1) = if (f >>> (nI l &&& 31)) &&& 1 = 1 then (if mxo lo l = x then mxn f lo x l + 1 else mxn f lo x l) else mxn f lo x l := rfl
  rw [if_pos hb] at es
  unfold upd
  by_cases hx : x = mxo lo l
  · subst hx
    rw [if_pos rfl]
    unfold mxA
    rw [if_pos ho, if_pos ho, es, if_pos rfl]
  · rw [if_neg hx]
    unfold mxA
    split
    · rw [es, if_neg (fun e => hx e.symm)]
    · rfl
theorem mxA_n {A : Nat → Int32} {f lo : Int32} {l : Nat} (hb : ¬ (f >>> (nI l &&& 31)) &&& 1 = 1) : mxA A f lo (l + 1) = mxA A f lo l := by
  funext x
  have es : mxn f lo x (l + 1) = if (f >>> (nI l &&& 31)) &&& 1 = 1 then (if mxo lo l = x then mxn f lo x l + 1 else mxn f lo x l) else mxn f lo x l := rfl
  rw [if_neg hb] at es
  unfold mxA
  rw [es]
def mxs (f : Int32) : Nat → Int32 × Int32 := fo (fun lo a => if a.2 ≤ mxm f (nI lo) 30 then a else (nI lo, mxm f (nI lo) 30)) (0, 31)
section
variable {sa : g_SA} {sc : Nat × Nat × (Nat → Int32)} {xt : Nat → Nat → List Value → tm_H → Option (Option Value × tm_H)} {d : Nat} {h : tm_H} {Q : Option Value → tm_H → Prop}
variable {q c : Nat} {Ms Bs Os A : Nat → Int32} {z : Int32}
theorem mi_size : tm_D (g_G sa sc xt) d 25 [.ref q] (wrl h q (mxc q Ms Bs Os A z)) Q ↔ Q (some (.int z)) (wrl h q (mxc q Ms Bs Os A z)) := by
  rw [e_25]
  simp only [s_25_0, s_25_1, s_25_4, x_get_i, List.getElem?_cons_succ, List.getElem?_cons_zero, x_cv_j, cs_n, cs_i, cs_r, cs_l, Nat.reduceAdd, Nat.reduceLeDiff, true_and, Option.toList_some, Option.toList_none, List.cons_append, List.nil_append, if_true, if_false, nb0, nb1, x_setJ, x_setZ0, x_setZ1, x_setA, x_setO, List.length_cons, List.length_nil, Nat.reduceLT, List.set_cons_succ, List.set_cons_zero, wrl_0, wrl_1, wrl_2, wrl_3, wrl_4, wrl_5, wrl_p0, wrl_p1, wrl_p2, wrl_p3, wrl_p4, wrl_0]
theorem mi_clear : tm_D (g_G sa sc xt) d 27 [.ref q] (wrl h q (mxc q Ms Bs Os A z)) Q ↔ Q (some (.int z)) (wrl h q (mxc q Ms Bs Os A 0)) := by
  rw [e_27]
  simp only [s_27_0, s_27_1, s_27_4, s_27_5, s_27_6, s_27_7, s_27_10, s_27_11, x_get_i, List.getElem?_cons_succ, List.getElem?_cons_zero, x_cv_j, cs_n, cs_i, cs_r, cs_l, Nat.reduceAdd, Nat.reduceLeDiff, true_and, Option.toList_some, Option.toList_none, List.cons_append, List.nil_append, if_true, if_false, nb0, nb1, x_setJ, x_setZ0, x_setZ1, x_setA, x_setO, List.length_cons, List.length_nil, Nat.reduceLT, List.set_cons_succ, List.set_cons_zero, wrl_0, wrl_1, wrl_2, wrl_3, wrl_4, wrl_5, wrl_p0, wrl_p1, wrl_p2, wrl_p3, wrl_p4, wrl_0, wrl_p0]
theorem mi_see (hc : c ≤ 10) (m b u : Int32) : tm_D (g_G sa sc xt) d 26 [.ref q, .int m, .int b, .int u] (wrl h q (mxc q Ms Bs Os A (nI c))) Q ↔ if c = 10 then Q (some (.int (-1))) (wrl h q (mxc q Ms Bs Os A (nI c))) else Q (some (.int (nI (c + 1)))) (wrl h q (mxc q (upd Ms c m) (upd Bs c b) (upd Os c u) A (nI (c + 1)))) := by
  rw [e_26]
  by_cases c1 : c = 10
  · subst c1
    simp only [s_26_0, s_26_1, s_26_4, s_26_6, s_26_9, s_26_10, s_26_11, s_26_12, s_26_15, s_26_16, s_26_19, s_26_20, s_26_21, s_26_22, s_26_25, s_26_26, s_26_29, s_26_30, s_26_31, s_26_32, s_26_35, s_26_36, s_26_39, s_26_40, s_26_41, s_26_42, s_26_43, s_26_46, s_26_47, s_26_48, s_26_51, s_26_52, s_26_55, x_get_i, List.getElem?_cons_succ, List.getElem?_cons_zero, x_cv_j, cs_n, cs_i, cs_r, cs_l, Nat.reduceAdd, Nat.reduceLeDiff, true_and, Option.toList_some, Option.toList_none, List.cons_append, List.nil_append, if_true, if_false, nb0, nb1, x_setJ, x_setZ0, x_setZ1, x_setA, x_setO, List.length_cons, List.length_nil, Nat.reduceLT, List.set_cons_succ, List.set_cons_zero, wrl_0, wrl_1, wrl_2, wrl_3, wrl_4, wrl_5, wrl_p0, wrl_p1, wrl_p2, wrl_p3, wrl_p4, wrl_0, show ¬ nI 10 < (10 : Int32) by decide]
  · have c2 : nI c < (10 : Int32) := nI_lt (b := 10) (by omega) (by decide)
    simp only [s_26_0, s_26_1, s_26_4, s_26_6, s_26_9, s_26_10, s_26_11, s_26_12, s_26_15, s_26_16, s_26_19, s_26_20, s_26_21, s_26_22, s_26_25, s_26_26, s_26_29, s_26_30, s_26_31, s_26_32, s_26_35, s_26_36, s_26_39, s_26_40, s_26_41, s_26_42, s_26_43, s_26_46, s_26_47, s_26_48, s_26_51, s_26_52, s_26_55, x_get_i, List.getElem?_cons_succ, List.getElem?_cons_zero, x_cv_j, cs_n, cs_i, cs_r, cs_l, Nat.reduceAdd, Nat.reduceLeDiff, true_and, Option.toList_some, Option.toList_none, List.cons_append, List.nil_append, if_true, if_false, nb0, nb1, x_setJ, x_setZ0, x_setZ1, x_setA, x_setO, List.length_cons, List.length_nil, Nat.reduceLT, List.set_cons_succ, List.set_cons_zero, wrl_0, wrl_1, wrl_2, wrl_3, wrl_4, wrl_5, wrl_p0, wrl_p1, wrl_p2, wrl_p3, wrl_p4, wrl_0, wrl_1, wrl_2, wrl_3, wrl_p0, wrl_p1, wrl_p2, wrl_p3, c1, c2, x_ist_n (show c < 10 by omega) n10, nI_1]
theorem mi_becomes {l : Nat} (hl : l < 30) (m c : Int32) : tm_D (g_G sa sc xt) (d + 1) 30 [.int (nI l), .int m, .int c] h Q ↔ Q (some (.int (mxb (nI l) m c))) h := by
  rw [e_30]
  simp only [s_30_0, s_30_1, s_30_2, s_30_5, s_30_6, s_30_7, s_30_8, s_30_9, s_30_10, s_30_13, s_30_14, s_30_15, s_30_18, x_get_i, List.getElem?_cons_succ, List.getElem?_cons_zero, x_cv_j, cs_n, cs_i, cs_r, cs_l, Nat.reduceAdd, Nat.reduceLeDiff, true_and, Option.toList_some, Option.toList_none, List.cons_append, List.nil_append, if_true, if_false, nb0, nb1, x_setJ, x_setZ0, x_setZ1, x_setA, x_setO, List.length_cons, List.length_nil, Nat.reduceLT, List.set_cons_succ, List.set_cons_zero, wrl_0, wrl_1, wrl_2, wrl_3, wrl_4, wrl_5, wrl_p0, wrl_p1, wrl_p2, wrl_p3, wrl_p4, e_28, s_28_0, s_28_1, s_28_2, s_28_3, e_29, s_29_0, s_29_1, s_29_2, s_29_3, s_29_4, s_29_5, show ¬ (5 : Int32) = 0 by decide, mxb_d hl, m_putToMood]
  exact Iff.rfl
theorem mi_upper (l : Int32) : tm_D (g_G sa sc xt) d 28 [.int l] h Q ↔ Q (some (.int (l / 5))) h := by
  rw [e_28]
  simp only [s_28_0, s_28_1, s_28_2, s_28_3, show ¬ (5 : Int32) = 0 by decide, if_false]
theorem mi_lower (l : Int32) : tm_D (g_G sa sc xt) d 29 [.int l] h Q ↔ Q (some (.int (l - l / 5 * 5 + 1))) h := by
  rw [e_29]
  simp only [s_29_0, s_29_1, s_29_2, s_29_3, s_29_4, s_29_5, show ¬ (5 : Int32) = 0 by decide, if_false]
theorem mi_fitsAll {l : Nat} (hl : l < 30) (hc : c ≤ 10) : tm_D (g_G sa sc xt) (d + 2) 32 [.ref q, .int (nI l)] (wrl h q (mxc q Ms Bs Os A (nI c))) Q ↔ Q (some (.int (bI (mxf Ms Bs Os (nI l) c 0)))) (wrl h q (mxc q Ms Bs Os A (nI c))) := by
  have loop : ∀ j i, i + j = c → (tm_X (g_G sa sc xt) (d + 2) 32 2 [.ref q, .int (nI l), .int (nI i)] [] (wrl h q (mxc q Ms Bs Os A (nI c))) Q ↔ Q (some (.int (bI (mxf Ms Bs Os (nI l) j i)))) (wrl h q (mxc q Ms Bs Os A (nI c)))) := by
    intro j
    induction j with
    | zero =>
      intro i hi
      have hi : i = c := by omega
      subst hi
      rw [s_32_2]
      simp only [s_32_0, s_32_1, s_32_3, s_32_4, s_32_7, s_32_10, s_32_11, s_32_12, s_32_15, s_32_16, s_32_17, s_32_18, s_32_21, s_32_22, s_32_23, s_32_26, s_32_27, s_32_30, s_32_31, s_32_32, s_32_35, s_32_36, s_32_37, s_32_40, s_32_43, s_32_44, x_get_i, List.getElem?_cons_succ, List.getElem?_cons_zero, x_cv_j, cs_n, cs_i, cs_r, cs_l, Nat.reduceAdd, Nat.reduceLeDiff, true_and, Option.toList_some, Option.toList_none, List.cons_append, List.nil_append, if_true, if_false, nb0, nb1, x_setJ, x_setZ0, x_setZ1, x_setA, x_setO, List.length_cons, List.length_nil, Nat.reduceLT, List.set_cons_succ, List.set_cons_zero, wrl_0, wrl_1, wrl_2, wrl_3, wrl_4, wrl_5, wrl_p0, wrl_p1, wrl_p2, wrl_p3, wrl_p4, wrl_0, Int32.le_refl]
      exact Iff.rfl
    | succ j ih =>
      intro i hi
      have c1 : ¬ nI c ≤ nI i := nI_ge (by omega) (by omega)
      have c2 : i < 10 := by omega
      rw [s_32_2]
      simp only [s_32_0, s_32_1, s_32_3, s_32_4, s_32_7, s_32_10, s_32_11, s_32_12, s_32_15, s_32_16, s_32_17, s_32_18, s_32_21, s_32_22, s_32_23, s_32_26, s_32_27, s_32_30, s_32_31, s_32_32, s_32_35, s_32_36, s_32_37, s_32_40, s_32_43, s_32_44, x_get_i, List.getElem?_cons_succ, List.getElem?_cons_zero, x_cv_j, cs_n, cs_i, cs_r, cs_l, Nat.reduceAdd, Nat.reduceLeDiff, true_and, Option.toList_some, Option.toList_none, List.cons_append, List.nil_append, if_true, if_false, nb0, nb1, x_setJ, x_setZ0, x_setZ1, x_setA, x_setO, List.length_cons, List.length_nil, Nat.reduceLT, List.set_cons_succ, List.set_cons_zero, wrl_0, wrl_1, wrl_2, wrl_3, wrl_4, wrl_5, wrl_p0, wrl_p1, wrl_p2, wrl_p3, wrl_p4, wrl_0, wrl_1, wrl_2, wrl_3, c1, x_ild_n c2 n10, mi_becomes hl]
      unfold mxf
      by_cases c3 : mxb (nI l) (Ms i) (Bs i) = Os i
      · simp only [c3, if_true, nI_1]
        exact ih (i + 1) (by omega)
      · simp only [c3, if_false]
        exact Iff.rfl
  rw [e_32]
  simp only [s_32_0, s_32_1, s_32_3, s_32_4, s_32_7, s_32_10, s_32_11, s_32_12, s_32_15, s_32_16, s_32_17, s_32_18, s_32_21, s_32_22, s_32_23, s_32_26, s_32_27, s_32_30, s_32_31, s_32_32, s_32_35, s_32_36, s_32_37, s_32_40, s_32_43, s_32_44]
  exact loop c 0 (by omega)
theorem mi_fitting (hc : c ≤ 10) : tm_D (g_G sa sc xt) (d + 3) 31 [.ref q] (wrl h q (mxc q Ms Bs Os A (nI c))) Q ↔ Q (some (.int (mxF Ms Bs Os c 30))) (wrl h q (mxc q Ms Bs Os A (nI c))) := by
  have loop : ∀ j i, i + j = 30 → (tm_X (g_G sa sc xt) (d + 3) 31 4 [.ref q, .int (mxF Ms Bs Os c i), .int (nI i)] [] (wrl h q (mxc q Ms Bs Os A (nI c))) Q ↔ Q (some (.int (mxF Ms Bs Os c 30))) (wrl h q (mxc q Ms Bs Os A (nI c)))) := by
    intro j
    induction j with
    | zero =>
      intro i hi
      have hi : i = 30 := by omega
      subst hi
      rw [s_31_4]
      simp only [s_31_0, s_31_1, s_31_2, s_31_3, s_31_5, s_31_7, s_31_10, s_31_11, s_31_12, s_31_13, s_31_16, s_31_19, s_31_20, s_31_21, s_31_22, s_31_25, s_31_26, s_31_27, s_31_28, s_31_31, s_31_34, s_31_35, x_get_i, List.getElem?_cons_succ, List.getElem?_cons_zero, x_cv_j, cs_n, cs_i, cs_r, cs_l, Nat.reduceAdd, Nat.reduceLeDiff, true_and, Option.toList_some, Option.toList_none, List.cons_append, List.nil_append, if_true, if_false, nb0, nb1, x_setJ, x_setZ0, x_setZ1, x_setA, x_setO, List.length_cons, List.length_nil, Nat.reduceLT, List.set_cons_succ, List.set_cons_zero, wrl_0, wrl_1, wrl_2, wrl_3, wrl_4, wrl_5, wrl_p0, wrl_p1, wrl_p2, wrl_p3, wrl_p4, show (30 : Int32) ≤ nI 30 by decide]
    | succ j ih =>
      intro i hi
      have c1 : ¬ (30 : Int32) ≤ nI i := nI_ge (b := 30) (by omega) (by omega)
      have es : mxF Ms Bs Os c (i + 1) = mxF Ms Bs Os c i ||| (if mxf Ms Bs Os (nI i) c 0 then 1 <<< (nI i &&& 31) else 0) := rfl
      rw [← ih (i + 1) (by omega), s_31_4, es]
      simp only [s_31_0, s_31_1, s_31_2, s_31_3, s_31_5, s_31_7, s_31_10, s_31_11, s_31_12, s_31_13, s_31_16, s_31_19, s_31_20, s_31_21, s_31_22, s_31_25, s_31_26, s_31_27, s_31_28, s_31_31, s_31_34, s_31_35, x_get_i, List.getElem?_cons_succ, List.getElem?_cons_zero, x_cv_j, cs_n, cs_i, cs_r, cs_l, Nat.reduceAdd, Nat.reduceLeDiff, true_and, Option.toList_some, Option.toList_none, List.cons_append, List.nil_append, if_true, if_false, nb0, nb1, x_setJ, x_setZ0, x_setZ1, x_setA, x_setO, List.length_cons, List.length_nil, Nat.reduceLT, List.set_cons_succ, List.set_cons_zero, wrl_0, wrl_1, wrl_2, wrl_3, wrl_4, wrl_5, wrl_p0, wrl_p1, wrl_p2, wrl_p3, wrl_p4, wrl_0, c1, mi_fitsAll (show i < 30 by omega) hc, nI_1]
      cases mxf Ms Bs Os (nI i) c 0
      · simp only [show bI false = 0 by decide, if_true, Bool.false_eq_true, if_false]
      · simp only [show ¬ bI true = 0 by decide, if_false, if_true]
  rw [e_31]
  simp only [s_31_0, s_31_1, s_31_2, s_31_3, s_31_5, s_31_7, s_31_10, s_31_11, s_31_12, s_31_13, s_31_16, s_31_19, s_31_20, s_31_21, s_31_22, s_31_25, s_31_26, s_31_27, s_31_28, s_31_31, s_31_34, s_31_35]
  exact loop 30 0 (by omega)
theorem mi_left (f lo : Int32) : tm_D (g_G sa sc xt) (d + 2) 33 [.ref q, .int f, .int lo] (wrl h q (mxc q Ms Bs Os A z)) Q ↔ Q (some (.int (mxm f lo 30))) (wrl h q (mxc q Ms Bs Os (mxA A f lo 30) z)) := by
  have loop : ∀ j i (x5 : Value), i + j = 30 → (tm_X (g_G sa sc xt) (d + 2) 33 13 [.ref q, .int f, .int lo, .int (mxm f lo i), .int (nI i), x5] [] (wrl h q (mxc q Ms Bs Os (mxA A f lo i) z)) Q ↔ Q (some (.int (mxm f lo 30))) (wrl h q (mxc q Ms Bs Os (mxA A f lo 30) z))) := by
    intro j
    induction j with
    | zero =>
      intro i x5 hi
      have hi : i = 30 := by omega
      subst hi
      rw [s_33_13]
      simp only [s_33_0, s_33_1, s_33_4, s_33_5, s_33_8, s_33_9, s_33_10, s_33_11, s_33_15, s_33_17, s_33_20, s_33_21, s_33_23, s_33_24, s_33_25, s_33_26, s_33_27, s_33_30, s_33_32, s_33_33, s_33_35, s_33_36, s_33_38, s_33_39, s_33_40, s_33_42, s_33_43, s_33_45, s_33_46, s_33_49, s_33_51, s_33_52, s_33_54, s_33_55, s_33_58, s_33_60, s_33_61, s_33_62, s_33_63, s_33_64, s_33_65, s_33_66, s_33_67, s_33_70, s_33_72, s_33_73, s_33_76, s_33_77, s_33_80, s_33_83, s_33_84, x_get_i, List.getElem?_cons_succ, List.getElem?_cons_zero, x_cv_j, cs_n, cs_i, cs_r, cs_l, Nat.reduceAdd, Nat.reduceLeDiff, true_and, Option.toList_some, Option.toList_none, List.cons_append, List.nil_append, if_true, if_false, nb0, nb1, x_setJ, x_setZ0, x_setZ1, x_setA, x_setO, List.length_cons, List.length_nil, Nat.reduceLT, List.set_cons_succ, List.set_cons_zero, wrl_0, wrl_1, wrl_2, wrl_3, wrl_4, wrl_5, wrl_p0, wrl_p1, wrl_p2, wrl_p3, wrl_p4, show (30 : Int32) ≤ nI 30 by decide]
    | succ j ih =>
      intro i x5 hi
      have c1 : ¬ (30 : Int32) ≤ nI i := nI_ge (b := 30) (by omega) (by omega)
      have es : mxm f lo (i + 1) = if (f >>> (nI i &&& 31)) &&& 1 = 1 then (if mxm f lo i < mxn f lo (mxo lo i) (i + 1) then mxn f lo (mxo lo i) (i + 1) else mxm f lo i) else mxm f lo i := rfl
      obtain ⟨eo, ho⟩ := mxo_e (lo := lo) (l := i)
      rw [s_33_13]
      simp only [s_33_0, s_33_1, s_33_4, s_33_5, s_33_8, s_33_9, s_33_10, s_33_11, s_33_15, s_33_17, s_33_20, s_33_21, s_33_23, s_33_24, s_33_25, s_33_26, s_33_27, s_33_30, s_33_32, s_33_33, s_33_35, s_33_36, s_33_38, s_33_39, s_33_40, s_33_42, s_33_43, s_33_45, s_33_46, s_33_49, s_33_51, s_33_52, s_33_54, s_33_55, s_33_58, s_33_60, s_33_61, s_33_62, s_33_63, s_33_64, s_33_65, s_33_66, s_33_67, s_33_70, s_33_72, s_33_73, s_33_76, s_33_77, s_33_80, s_33_83, s_33_84, x_get_i, List.getElem?_cons_succ, List.getElem?_cons_zero, x_cv_j, cs_n, cs_i, cs_r, cs_l, Nat.reduceAdd, Nat.reduceLeDiff, true_and, Option.toList_some, Option.toList_none, List.cons_append, List.nil_append, if_true, if_false, nb0, nb1, x_setJ, x_setZ0, x_setZ1, x_setA, x_setO, List.length_cons, List.length_nil, Nat.reduceLT, List.set_cons_succ, List.set_cons_zero, wrl_0, wrl_1, wrl_2, wrl_3, wrl_4, wrl_5, wrl_p0, wrl_p1, wrl_p2, wrl_p3, wrl_p4, c1]
      by_cases hb : (f >>> (nI i &&& 31)) &&& 1 = 1
      · simp only [hb, if_true] at es
        have en : mxA A f lo (i + 1) (mxo lo i) = mxn f lo (mxo lo i) (i + 1) := by unfold mxA; rw [if_pos ho]
        simp only [hb, if_true, show ¬ (19 : Int32) = 0 by decide, if_false, mi_becomes (show i < 30 by omega), s_33_0, s_33_1, s_33_4, s_33_5, s_33_8, s_33_9, s_33_10, s_33_11, s_33_15, s_33_17, s_33_20, s_33_21, s_33_23, s_33_24, s_33_25, s_33_26, s_33_27, s_33_30, s_33_32, s_33_33, s_33_35, s_33_36, s_33_38, s_33_39, s_33_40, s_33_42, s_33_43, s_33_45, s_33_46, s_33_49, s_33_51, s_33_52, s_33_54, s_33_55, s_33_58, s_33_60, s_33_61, s_33_62, s_33_63, s_33_64, s_33_65, s_33_66, s_33_67, s_33_70, s_33_72, s_33_73, s_33_76, s_33_77, s_33_80, s_33_83, s_33_84, x_get_i, List.getElem?_cons_succ, List.getElem?_cons_zero, x_cv_j, cs_n, cs_i, cs_r, cs_l, Nat.reduceAdd, Nat.reduceLeDiff, true_and, Option.toList_some, Option.toList_none, List.cons_append, List.nil_append, if_true, if_false, nb0, nb1, x_setJ, x_setZ0, x_setZ1, x_setA, x_setO, List.length_cons, List.length_nil, Nat.reduceLT, List.set_cons_succ, List.set_cons_zero, wrl_0, wrl_1, wrl_2, wrl_3, wrl_4, wrl_5, wrl_p0, wrl_p1, wrl_p2, wrl_p3, wrl_p4, eo, wrl_0, wrl_4, x_ild_n ho n19, x_ist_n ho n19, wrl_p4, mxA_s hb, en, nI_1]
        have := ih (i + 1) (.int (nI (mxo lo i))) (by omega)
        rw [es] at this
        exact this
      · simp only [hb, if_false] at es
        simp only [hb, if_false, nI_1]
        have := ih (i + 1) x5 (by omega)
        rw [es, mxA_n hb] at this
        exact this
  rw [e_33]
  simp only [s_33_0, s_33_1, s_33_4, s_33_5, s_33_8, s_33_9, s_33_10, s_33_11, s_33_15, s_33_17, s_33_20, s_33_21, s_33_23, s_33_24, s_33_25, s_33_26, s_33_27, s_33_30, s_33_32, s_33_33, s_33_35, s_33_36, s_33_38, s_33_39, s_33_40, s_33_42, s_33_43, s_33_45, s_33_46, s_33_49, s_33_51, s_33_52, s_33_54, s_33_55, s_33_58, s_33_60, s_33_61, s_33_62, s_33_63, s_33_64, s_33_65, s_33_66, s_33_67, s_33_70, s_33_72, s_33_73, s_33_76, s_33_77, s_33_80, s_33_83, s_33_84, x_get_i, List.getElem?_cons_succ, List.getElem?_cons_zero, x_cv_j, cs_n, cs_i, cs_r, cs_l, Nat.reduceAdd, Nat.reduceLeDiff, true_and, Option.toList_some, Option.toList_none, List.cons_append, List.nil_append, if_true, if_false, nb0, nb1, x_setJ, x_setZ0, x_setZ1, x_setA, x_setO, List.length_cons, List.length_nil, Nat.reduceLT, List.set_cons_succ, List.set_cons_zero, wrl_0, wrl_1, wrl_2, wrl_3, wrl_4, wrl_5, wrl_p0, wrl_p1, wrl_p2, wrl_p3, wrl_p4, wrl_0]
  rw [m_fill n19 wrl_4]
  simp only [s_33_0, s_33_1, s_33_4, s_33_5, s_33_8, s_33_9, s_33_10, s_33_11, s_33_15, s_33_17, s_33_20, s_33_21, s_33_23, s_33_24, s_33_25, s_33_26, s_33_27, s_33_30, s_33_32, s_33_33, s_33_35, s_33_36, s_33_38, s_33_39, s_33_40, s_33_42, s_33_43, s_33_45, s_33_46, s_33_49, s_33_51, s_33_52, s_33_54, s_33_55, s_33_58, s_33_60, s_33_61, s_33_62, s_33_63, s_33_64, s_33_65, s_33_66, s_33_67, s_33_70, s_33_72, s_33_73, s_33_76, s_33_77, s_33_80, s_33_83, s_33_84, x_get_i, List.getElem?_cons_succ, List.getElem?_cons_zero, x_cv_j, cs_n, cs_i, cs_r, cs_l, Nat.reduceAdd, Nat.reduceLeDiff, true_and, Option.toList_some, Option.toList_none, List.cons_append, List.nil_append, if_true, if_false, nb0, nb1, x_setJ, x_setZ0, x_setZ1, x_setA, x_setO, List.length_cons, List.length_nil, Nat.reduceLT, List.set_cons_succ, List.set_cons_zero, wrl_0, wrl_1, wrl_2, wrl_3, wrl_4, wrl_5, wrl_p0, wrl_p1, wrl_p2, wrl_p3, wrl_p4, wrl_p4]
  exact loop 30 0 _ (by omega)
theorem mi_best (f : Int32) (hQ : ∀ A, Q (some (.int (mxs f 361).1)) (wrl h q (mxc q Ms Bs Os A z))) : tm_D (g_G sa sc xt) (d + 3) 34 [.ref q, .int f] (wrl h q (mxc q Ms Bs Os A z)) Q := by
  have loop : ∀ j i (A : Nat → Int32) (x5 : Value), i + j = 361 → tm_X (g_G sa sc xt) (d + 3) 34 8 [.ref q, .int f, .int (mxs f i).1, .int (mxs f i).2, .int (nI i), x5] [] (wrl h q (mxc q Ms Bs Os A z)) Q := by
    intro j
    induction j with
    | zero =>
      intro i A x5 hi
      have hi : i = 361 := by omega
      subst hi
      rw [s_34_8]
      simp only [s_34_0, s_34_1, s_34_2, s_34_4, s_34_5, s_34_6, s_34_10, s_34_13, s_34_16, s_34_17, s_34_18, s_34_20, s_34_23, s_34_25, s_34_27, s_34_28, s_34_31, s_34_33, s_34_34, s_34_36, s_34_37, s_34_40, s_34_43, s_34_44, x_get_i, List.getElem?_cons_succ, List.getElem?_cons_zero, x_cv_j, cs_n, cs_i, cs_r, cs_l, Nat.reduceAdd, Nat.reduceLeDiff, true_and, Option.toList_some, Option.toList_none, List.cons_append, List.nil_append, if_true, if_false, nb0, nb1, x_setJ, x_setZ0, x_setZ1, x_setA, x_setO, List.length_cons, List.length_nil, Nat.reduceLT, List.set_cons_succ, List.set_cons_zero, wrl_0, wrl_1, wrl_2, wrl_3, wrl_4, wrl_5, wrl_p0, wrl_p1, wrl_p2, wrl_p3, wrl_p4, show (361 : Int32) ≤ nI 361 by decide]
      exact hQ A
    | succ j ih =>
      intro i A x5 hi
      have c1 : ¬ (361 : Int32) ≤ nI i := nI_ge (b := 361) (by omega) (by omega)
      have es : mxs f (i + 1) = if (mxs f i).2 ≤ mxm f (nI i) 30 then mxs f i else (nI i, mxm f (nI i) 30) := rfl
      rw [s_34_8]
      simp only [s_34_0, s_34_1, s_34_2, s_34_4, s_34_5, s_34_6, s_34_10, s_34_13, s_34_16, s_34_17, s_34_18, s_34_20, s_34_23, s_34_25, s_34_27, s_34_28, s_34_31, s_34_33, s_34_34, s_34_36, s_34_37, s_34_40, s_34_43, s_34_44, x_get_i, List.getElem?_cons_succ, List.getElem?_cons_zero, x_cv_j, cs_n, cs_i, cs_r, cs_l, Nat.reduceAdd, Nat.reduceLeDiff, true_and, Option.toList_some, Option.toList_none, List.cons_append, List.nil_append, if_true, if_false, nb0, nb1, x_setJ, x_setZ0, x_setZ1, x_setA, x_setO, List.length_cons, List.length_nil, Nat.reduceLT, List.set_cons_succ, List.set_cons_zero, wrl_0, wrl_1, wrl_2, wrl_3, wrl_4, wrl_5, wrl_p0, wrl_p1, wrl_p2, wrl_p3, wrl_p4, wrl_0, c1, mi_left, nI_1]
      have := ih (i + 1) (mxA A f (nI i) 30) (.int (mxm f (nI i) 30)) (by omega)
      rw [es] at this
      by_cases c2 : (mxs f i).2 ≤ mxm f (nI i) 30
      · simp only [c2, if_true] at this ⊢
        exact this
      · simp only [c2, if_false] at this ⊢
        exact this
  rw [e_34]
  simp only [s_34_0, s_34_1, s_34_2, s_34_4, s_34_5, s_34_6, s_34_10, s_34_13, s_34_16, s_34_17, s_34_18, s_34_20, s_34_23, s_34_25, s_34_27, s_34_28, s_34_31, s_34_33, s_34_34, s_34_36, s_34_37, s_34_40, s_34_43, s_34_44]
  exact loop 361 0 A _ (by omega)
end
