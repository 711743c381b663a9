/-! Letters -/
theorem tx_in_same {h h' : tm_H} {t c : Nat} {F : Nat → Int32} (hh : ∀ q, t ≤ q → q < t + 2 → h'.2.2 q = h.2.2 q) (hx : tx_in h t c F) : tx_in h' t c F := ⟨by rw [hh _ (by omega) (by omega)]; exact hx.1, by rw [hh _ (by omega) (by omega)]; exact hx.2⟩
theorem txa_n {F : Nat → Int32} {c i : Nat} (hi : i < c) (hc : c ≤ 80) : txa F c (nI i) = F i := by
  unfold txa
  rw [if_neg (nI_pos (by omega)), if_neg (nI_ge hi (by omega)), nI_clamp (by omega)]
theorem txa_o {F : Nat → Int32} {c i : Nat} (hi : c ≤ i) (hi2 : i < 2 ^ 31) : txa F c (nI i) = 0 := by
  unfold txa
  rw [if_neg (nI_pos hi2), if_pos (nI_le hi hi2)]
theorem txs_l0 {x : Int32} (hx : ¬ txs 108 x = 0) : ∃ y, y < 8 ∧ x = nI (97 + y) := by
  unfold txs at hx
  rw [if_pos rfl] at hx
  split at hx
  · exact absurd rfl hx
  · rename_i h1
    split at hx
    · exact absurd rfl hx
    · rename_i h2
      have q1 : (97 : Int) ≤ x.toInt := Int32.le_iff_toInt_le.mp (Int32.not_lt.mp h1)
      have q2 : x.toInt ≤ 104 := Int32.le_iff_toInt_le.mp (Int32.not_lt.mp h2)
      refine ⟨(x.toInt - 97).toNat, by omega, ?_⟩
      apply Int32.toInt_inj.mp
      rw [nI_toInt (by omega)]
      omega
theorem txs_l1 {y : Nat} (hy : y < 8) : ¬ txs 108 (nI (97 + y)) = 0 := by
  have : ∀ y : Fin 8, ¬ txs 108 (nI (97 + y.1)) = 0 := by decide +kernel
  exact this ⟨y, hy⟩
theorem nI_97 {y : Nat} : nI (97 + y) - 97 = nI y := by
  rw [show (97 : Int32) = nI 97 from rfl, Nat.add_comm, ← nI_add, Int32.add_sub_cancel]
/-- how many signs of m from f on are the letter x -/
def lcn (F : Nat → Int32) (f : Nat) : Nat → Nat → Nat
  | 0, _ => 0
  | m + 1, x => lcn F f m x + if F (f + m) = nI (97 + x) then 1 else 0
/-- the first of j signs from i on that can't stand in a text that begins at f -/
def lrd (F : Nat → Int32) (f : Nat) : Nat → Nat → Option Nat
  | 0, i => if i = f then some f else none
  | j + 1, i => if i = f + 12 ∨ txs 108 (F i) = 0 then some i else lrd F f j (i + 1)
theorem lrd_lt {F : Nat → Int32} {f : Nat} : ∀ {j i p : Nat}, f ≤ i → lrd F f j i = some p → f ≤ p ∧ p ≤ i + j
  | 0, i, p, hi, e => by
    unfold lrd at e
    split at e
    · cases e; omega
    · cases e
  | j + 1, i, p, hi, e => by
    unfold lrd at e
    split at e
    · cases e; omega
    · have := lrd_lt (by omega) e
      omega
theorem lcn_le {F : Nat → Int32} {f x : Nat} : ∀ {m : Nat}, lcn F f m x ≤ m
  | 0 => Nat.le_refl _
  | m + 1 => by
    have := lcn_le (F := F) (f := f) (x := x) (m := m)
    unfold lcn
    split <;> omega
def LN (N : Nat → Int32) (F : Nat → Int32) (f m : Nat) : Nat → Int32 := fun x => if x < 8 then nI (lcn F f m x) else N x
theorem LN_0 {N F : Nat → Int32} {f : Nat} : fl N 0 8 = LN N F f 0 := rfl
theorem LN_s {N F : Nat → Int32} {f m y : Nat} (hy : y < 8) (hF : F (f + m) = nI (97 + y)) : upd (LN N F f m) y (LN N F f m y + 1) = LN N F f (m + 1) := by
  funext x
  unfold upd LN
  by_cases hx : x = y
  · subst hx
    rw [if_pos rfl, if_pos hy, if_pos hy]
    have es : lcn F f (m + 1) x = lcn F f m x + if F (f + m) = nI (97 + x) then 1 else 0 := rfl
    rw [es, if_pos hF, nI_1]
  · rw [if_neg hx]
    by_cases h8 : x < 8
    · rw [if_pos h8, if_pos h8]
      show nI (lcn F f m x) = nI (lcn F f m x + if F (f + m) = nI (97 + x) then 1 else 0)
      rw [if_neg, Nat.add_zero]
      rw [hF, nI_eq (by omega) (by omega)]
      omega
    · rw [if_neg h8, if_neg h8]
abbrev lec (q : Nat) (N P : Nat → Int32) (z p : Int32) : List tm_E := [.inr (3, [.ref (q + 1), .int z, .ref (q + 2), .int p]), .inl (0, 8, .inl N), .inl (0, 8, .inl P)]
section
variable {sa : g_SA} {sc : Nat × Nat × (Nat → Int32)} {xt : Nat → Nat → List Value → tm_H → Option (Option Value × tm_H)} {d : Nat} {h : tm_H} {Q : Option Value → tm_H → Prop}
variable {q t c f e k n : Nat} {F N P L W M B : Nat → Int32} {z p s g : Int32}
set_option maxHeartbeats 1000000 in
theorem le_read (hx : tx_in h t c F) (hc : c ≤ 80) (hd : t + 2 ≤ q ∨ q + 3 ≤ t) (hfe : f ≤ e) (hec : e ≤ c) : tm_D (g_G sa sc xt) (d + 2) 21 [.ref q, .ref t, .int (nI f), .int (nI e)] (wrl h q (lec q N P z p)) Q ↔ Q (some (.int (oI (lrd F f (e - f) f)))) (wrl h q (lec q (LN N F f ((lrd F f (e - f) f).getD e - f)) P (nI ((lrd F f (e - f) f).getD e - f)) p)) := by
  have ht : ∀ {N P : Nat → Int32} {z p : Int32}, tx_in (wrl h q (lec q N P z p)) t c F := fun {N P z p} => tx_in_same (fun x h1 h2 => wrl_o (by show _ ∨ q + 3 ≤ x; omega)) hx
  have ht0 : ∀ {N P : Nat → Int32} {z p : Int32}, (wrl h q (lec q N P z p)).2.2 t = .inr (8, [.ref (t + 1), .int (nI c)]) := fun {N P z p} => (ht (N := N) (P := P) (z := z) (p := p)).1
  have loop : ∀ j i, i + j = e → f ≤ i → i ≤ f + 12 → (tm_X (g_G sa sc xt) (d + 2) 21 16 [.ref q, .ref t, .int (nI f), .int (nI e), .int (nI i)] [] (wrl h q (lec q (LN N F f (i - f)) P (nI (i - f)) p)) Q ↔ Q (some (.int (oI (lrd F f j i)))) (wrl h q (lec q (LN N F f ((lrd F f j i).getD e - f)) P (nI ((lrd F f j i).getD e - f)) p))) := by
    intro j
    induction j with
    | zero =>
      intro i hi h1 h2
      have hi : i = e := by omega
      subst hi
      rw [s_21_16]
      simp only [s_21_0, s_21_1, s_21_4, s_21_5, s_21_8, s_21_9, s_21_10, s_21_13, s_21_14, s_21_18, s_21_19, s_21_22, s_21_23, s_21_26, s_21_28, s_21_31, s_21_33, s_21_34, s_21_36, s_21_39, s_21_42, s_21_45, s_21_47, s_21_48, s_21_49, s_21_52, s_21_53, s_21_55, s_21_58, s_21_59, s_21_60, s_21_61, s_21_62, s_21_63, s_21_64, s_21_65, s_21_68, s_21_69, s_21_70, s_21_73, s_21_76, s_21_79, s_21_80, s_21_83, s_21_86, s_21_87, s_21_90, s_21_91, x_get_i, List.getElem?_cons_succ, List.getElem?_cons_zero, x_cv_j, cs_n, cs_i, cs_r, cs_l, Nat.reduceAdd, Nat.reduceLeDiff, true_and, Option.toList_some, Option.toList_none, List.cons_append, List.nil_append, if_true, if_false, nb0, nb1, x_setJ, x_setZ0, x_setZ1, x_setA, x_setO, List.length_cons, List.length_nil, Nat.reduceLT, List.set_cons_succ, List.set_cons_zero, wrl_0, wrl_1, wrl_2, wrl_3, wrl_4, wrl_5, wrl_p0, wrl_p1, wrl_p2, wrl_p3, wrl_p4, wrl_0, Int32.le_refl]
      unfold lrd
      by_cases c0 : i = f
      · subst c0
        simp only [Nat.sub_self, nI_0, if_true, Option.getD_some]
        exact Iff.rfl
      · have c1 : ¬ nI (i - f) = 0 := nI_ne0 (by omega) (by omega)
        simp only [c0, c1, if_false, Option.getD_none]
        exact Iff.rfl
    | succ j ih =>
      intro i hi h1 h2
      have c1 : ¬ nI e ≤ nI i := nI_ge (by omega) (by omega)
      have e12 : nI (i - f) = 12 ↔ i = f + 12 := by
        rw [show (12 : Int32) = nI 12 from rfl, nI_eq (by omega) (by omega)]
        omega
      rw [s_21_16]
      simp only [s_21_0, s_21_1, s_21_4, s_21_5, s_21_8, s_21_9, s_21_10, s_21_13, s_21_14, s_21_18, s_21_19, s_21_22, s_21_23, s_21_26, s_21_28, s_21_31, s_21_33, s_21_34, s_21_36, s_21_39, s_21_42, s_21_45, s_21_47, s_21_48, s_21_49, s_21_52, s_21_53, s_21_55, s_21_58, s_21_59, s_21_60, s_21_61, s_21_62, s_21_63, s_21_64, s_21_65, s_21_68, s_21_69, s_21_70, s_21_73, s_21_76, s_21_79, s_21_80, s_21_83, s_21_86, s_21_87, s_21_90, s_21_91, x_get_i, List.getElem?_cons_succ, List.getElem?_cons_zero, x_cv_j, cs_n, cs_i, cs_r, cs_l, Nat.reduceAdd, Nat.reduceLeDiff, true_and, Option.toList_some, Option.toList_none, List.cons_append, List.nil_append, if_true, if_false, nb0, nb1, x_setJ, x_setZ0, x_setZ1, x_setA, x_setO, List.length_cons, List.length_nil, Nat.reduceLT, List.set_cons_succ, List.set_cons_zero, wrl_0, wrl_1, wrl_2, wrl_3, wrl_4, wrl_5, wrl_p0, wrl_p1, wrl_p2, wrl_p3, wrl_p4, wrl_0, c1, e12]
      unfold lrd
      by_cases c2 : i = f + 12
      · simp only [c2, if_true, true_or, Option.getD_some]
        exact Iff.rfl
      · simp only [c2, if_false, false_or, ht0, s_21_0, s_21_1, s_21_4, s_21_5, s_21_8, s_21_9, s_21_10, s_21_13, s_21_14, s_21_18, s_21_19, s_21_22, s_21_23, s_21_26, s_21_28, s_21_31, s_21_33, s_21_34, s_21_36, s_21_39, s_21_42, s_21_45, s_21_47, s_21_48, s_21_49, s_21_52, s_21_53, s_21_55, s_21_58, s_21_59, s_21_60, s_21_61, s_21_62, s_21_63, s_21_64, s_21_65, s_21_68, s_21_69, s_21_70, s_21_73, s_21_76, s_21_79, s_21_80, s_21_83, s_21_86, s_21_87, s_21_90, s_21_91, x_get_i, List.getElem?_cons_succ, List.getElem?_cons_zero, x_cv_j, cs_n, cs_i, cs_r, cs_l, Nat.reduceAdd, Nat.reduceLeDiff, true_and, Option.toList_some, Option.toList_none, List.cons_append, List.nil_append, if_true, if_false, nb0, nb1, x_setJ, x_setZ0, x_setZ1, x_setA, x_setO, List.length_cons, List.length_nil, Nat.reduceLT, List.set_cons_succ, List.set_cons_zero, wrl_0, wrl_1, wrl_2, wrl_3, wrl_4, wrl_5, wrl_p0, wrl_p1, wrl_p2, wrl_p3, wrl_p4, tx_at' ht hc, m_stands, txa_n (show i < c by omega) hc]
        by_cases c3 : txs 108 (F i) = 0
        · simp only [c3, if_true, Option.getD_some]
          exact Iff.rfl
        · obtain ⟨y, hy, ey⟩ := txs_l0 c3
          simp only [c3, if_false, wrl_0, wrl_1, ht0, s_21_0, s_21_1, s_21_4, s_21_5, s_21_8, s_21_9, s_21_10, s_21_13, s_21_14, s_21_18, s_21_19, s_21_22, s_21_23, s_21_26, s_21_28, s_21_31, s_21_33, s_21_34, s_21_36, s_21_39, s_21_42, s_21_45, s_21_47, s_21_48, s_21_49, s_21_52, s_21_53, s_21_55, s_21_58, s_21_59, s_21_60, s_21_61, s_21_62, s_21_63, s_21_64, s_21_65, s_21_68, s_21_69, s_21_70, s_21_73, s_21_76, s_21_79, s_21_80, s_21_83, s_21_86, s_21_87, s_21_90, s_21_91, x_get_i, List.getElem?_cons_succ, List.getElem?_cons_zero, x_cv_j, cs_n, cs_i, cs_r, cs_l, Nat.reduceAdd, Nat.reduceLeDiff, true_and, Option.toList_some, Option.toList_none, List.cons_append, List.nil_append, if_true, if_false, nb0, nb1, x_setJ, x_setZ0, x_setZ1, x_setA, x_setO, List.length_cons, List.length_nil, Nat.reduceLT, List.set_cons_succ, List.set_cons_zero, wrl_0, wrl_1, wrl_2, wrl_3, wrl_4, wrl_5, wrl_p0, wrl_p1, wrl_p2, wrl_p3, wrl_p4, tx_letterAt' ht hc, txa_n (show i < c by omega) hc]
          rw [ey, nI_97]
          have hs := LN_s (N := N) (F := F) (f := f) (m := i - f) hy (by rw [show f + (i - f) = i by omega]; exact ey)
          simp only [x_ild_n hy n8, x_ist_n hy n8, s_21_0, s_21_1, s_21_4, s_21_5, s_21_8, s_21_9, s_21_10, s_21_13, s_21_14, s_21_18, s_21_19, s_21_22, s_21_23, s_21_26, s_21_28, s_21_31, s_21_33, s_21_34, s_21_36, s_21_39, s_21_42, s_21_45, s_21_47, s_21_48, s_21_49, s_21_52, s_21_53, s_21_55, s_21_58, s_21_59, s_21_60, s_21_61, s_21_62, s_21_63, s_21_64, s_21_65, s_21_68, s_21_69, s_21_70, s_21_73, s_21_76, s_21_79, s_21_80, s_21_83, s_21_86, s_21_87, s_21_90, s_21_91, x_get_i, List.getElem?_cons_succ, List.getElem?_cons_zero, x_cv_j, cs_n, cs_i, cs_r, cs_l, Nat.reduceAdd, Nat.reduceLeDiff, true_and, Option.toList_some, Option.toList_none, List.cons_append, List.nil_append, if_true, if_false, nb0, nb1, x_setJ, x_setZ0, x_setZ1, x_setA, x_setO, List.length_cons, List.length_nil, Nat.reduceLT, List.set_cons_succ, List.set_cons_zero, wrl_0, wrl_1, wrl_2, wrl_3, wrl_4, wrl_5, wrl_p0, wrl_p1, wrl_p2, wrl_p3, wrl_p4, wrl_p1, hs, wrl_0, wrl_p0, nI_1]
          have := ih (i + 1) (by omega) (by omega) (by omega)
          rw [show i + 1 - f = i - f + 1 by omega] at this
          exact this
  rw [e_21]
  simp only [s_21_0, s_21_1, s_21_4, s_21_5, s_21_8, s_21_9, s_21_10, s_21_13, s_21_14, s_21_18, s_21_19, s_21_22, s_21_23, s_21_26, s_21_28, s_21_31, s_21_33, s_21_34, s_21_36, s_21_39, s_21_42, s_21_45, s_21_47, s_21_48, s_21_49, s_21_52, s_21_53, s_21_55, s_21_58, s_21_59, s_21_60, s_21_61, s_21_62, s_21_63, s_21_64, s_21_65, s_21_68, s_21_69, s_21_70, s_21_73, s_21_76, s_21_79, s_21_80, s_21_83, s_21_86, s_21_87, s_21_90, s_21_91, x_get_i, List.getElem?_cons_succ, List.getElem?_cons_zero, x_cv_j, cs_n, cs_i, cs_r, cs_l, Nat.reduceAdd, Nat.reduceLeDiff, true_and, Option.toList_some, Option.toList_none, List.cons_append, List.nil_append, if_true, if_false, nb0, nb1, x_setJ, x_setZ0, x_setZ1, x_setA, x_setO, List.length_cons, List.length_nil, Nat.reduceLT, List.set_cons_succ, List.set_cons_zero, wrl_0, wrl_1, wrl_2, wrl_3, wrl_4, wrl_5, wrl_p0, wrl_p1, wrl_p2, wrl_p3, wrl_p4, wrl_0]
  rw [m_fill n8 wrl_1]
  simp only [s_21_0, s_21_1, s_21_4, s_21_5, s_21_8, s_21_9, s_21_10, s_21_13, s_21_14, s_21_18, s_21_19, s_21_22, s_21_23, s_21_26, s_21_28, s_21_31, s_21_33, s_21_34, s_21_36, s_21_39, s_21_42, s_21_45, s_21_47, s_21_48, s_21_49, s_21_52, s_21_53, s_21_55, s_21_58, s_21_59, s_21_60, s_21_61, s_21_62, s_21_63, s_21_64, s_21_65, s_21_68, s_21_69, s_21_70, s_21_73, s_21_76, s_21_79, s_21_80, s_21_83, s_21_86, s_21_87, s_21_90, s_21_91, x_get_i, List.getElem?_cons_succ, List.getElem?_cons_zero, x_cv_j, cs_n, cs_i, cs_r, cs_l, Nat.reduceAdd, Nat.reduceLeDiff, true_and, Option.toList_some, Option.toList_none, List.cons_append, List.nil_append, if_true, if_false, nb0, nb1, x_setJ, x_setZ0, x_setZ1, x_setA, x_setO, List.length_cons, List.length_nil, Nat.reduceLT, List.set_cons_succ, List.set_cons_zero, wrl_0, wrl_1, wrl_2, wrl_3, wrl_4, wrl_5, wrl_p0, wrl_p1, wrl_p2, wrl_p3, wrl_p4, wrl_0, wrl_p1, wrl_p0]
  have := loop (e - f) f (by omega) (by omega) (by omega)
  rw [Nat.sub_self, nI_0] at this
  exact this
def le_po (N L : Nat → Int32) (n : Nat) (s : Int32) (x : Nat) : Int32 := if N x ≤ 0 then 0 else tc_wh L (nI x) n &&& (tc_allv (nI n) &&& (s ^^^ (-1)))
def le_pl (N L : Nat → Int32) (n : Nat) (s : Int32) : Nat → Int32 := fo (fun x a => a ||| le_po N L n s x) 0
def le_pP (P N L : Nat → Int32) (n : Nat) (s : Int32) (i : Nat) : Nat → Int32 := fun x => if x < i then le_po N L n s x else P x
theorem le_pP_s {P N L : Nat → Int32} {n : Nat} {s : Int32} {i : Nat} : upd (le_pP P N L n s i) i (le_po N L n s i) = le_pP P N L n s (i + 1) := by
  funext j
  unfold upd le_pP
  by_cases h1 : j = i
  · subst h1
    rw [if_pos rfl, if_pos (by omega)]
  · rw [if_neg h1]
    by_cases h2 : j < i
    · rw [if_pos h2, if_pos (by omega)]
    · rw [if_neg h2, if_neg (by omega)]
theorem tc_at_same {h h' : tm_H} {k : Nat} {L W M B : Nat → Int32} {z s g : Int32} (hh : ∀ q, k ≤ q → q < k + 7 → h'.2.2 q = h.2.2 q) (hT : tc_at h k L W M B z s g) : tc_at h' k L W M B z s g := by
  unfold tc_at at hT ⊢
  rw [hh _ (by omega) (by omega), hh _ (by omega) (by omega), hh _ (by omega) (by omega), hh _ (by omega) (by omega), hh _ (by omega) (by omega), hh _ (by omega) (by omega), hh _ (by omega) (by omega)]
  exact hT
theorem le_gather (hT : tc_at h k L W M B (nI n) s g) (hn : n ≤ 12) (hd : k + 7 ≤ q ∨ q + 3 ≤ k) : tm_D (g_G sa sc xt) (d + 2) 22 [.ref q, .ref k] (wrl h q (lec q N P z p)) Q ↔ Q (some (.int (le_pl N L n s 8))) (wrl h q (lec q N (le_pP P N L n s 8) z (le_pl N L n s 8))) := by
  have ht : ∀ {P : Nat → Int32} {p : Int32}, tc_at (wrl h q (lec q N P z p)) k L W M B (nI n) s g := fun {P p} => tc_at_same (fun x h1 h2 => wrl_o (by show _ ∨ q + 3 ≤ x; omega)) hT
  have ht0 : ∀ {P : Nat → Int32} {p : Int32}, (wrl h q (lec q N P z p)).2.2 k = _ := fun {P p} => (ht (P := P) (p := p)).1
  have loop : ∀ j i, i + j = 8 → (tm_X (g_G sa sc xt) (d + 2) 22 7 [.ref q, .ref k, .int (nI i)] [] (wrl h q (lec q N (le_pP P N L n s i) z (le_pl N L n s i))) Q ↔ Q (some (.int (le_pl N L n s 8))) (wrl h q (lec q N (le_pP P N L n s 8) z (le_pl N L n s 8)))) := by
    intro j
    induction j with
    | zero =>
      intro i hi
      have hi : i = 8 := by omega
      subst hi
      rw [s_22_7]
      simp only [s_22_0, s_22_1, s_22_2, s_22_5, s_22_6, s_22_8, s_22_10, s_22_13, s_22_14, s_22_17, s_22_18, s_22_19, s_22_22, s_22_23, s_22_24, s_22_27, s_22_28, s_22_29, s_22_32, s_22_33, s_22_36, s_22_37, s_22_40, s_22_41, s_22_42, s_22_43, s_22_44, s_22_47, s_22_48, s_22_51, s_22_52, s_22_53, s_22_54, s_22_57, s_22_60, s_22_63, s_22_64, s_22_67, x_get_i, List.getElem?_cons_succ, List.getElem?_cons_zero, x_cv_j, cs_n, cs_i, cs_r, cs_l, Nat.reduceAdd, Nat.reduceLeDiff, true_and, Option.toList_some, Option.toList_none, List.cons_append, List.nil_append, if_true, if_false, nb0, nb1, x_setJ, x_setZ0, x_setZ1, x_setA, x_setO, List.length_cons, List.length_nil, Nat.reduceLT, List.set_cons_succ, List.set_cons_zero, wrl_0, wrl_1, wrl_2, wrl_3, wrl_4, wrl_5, wrl_p0, wrl_p1, wrl_p2, wrl_p3, wrl_p4, wrl_0, show (8 : Int32) ≤ nI 8 by decide]
    | succ j ih =>
      intro i hi
      have h8 : i < 8 := by omega
      have c1 : ¬ (8 : Int32) ≤ nI i := nI_ge (b := 8) h8 (by omega)
      have es : le_pl N L n s (i + 1) = le_pl N L n s i ||| le_po N L n s i := rfl
      have ep : le_pP P N L n s (i + 1) i = le_po N L n s i := by unfold le_pP; rw [if_pos (by omega)]
      have ih := ih (i + 1) (by omega)
      rw [← ih, s_22_7]
      simp only [s_22_0, s_22_1, s_22_2, s_22_5, s_22_6, s_22_8, s_22_10, s_22_13, s_22_14, s_22_17, s_22_18, s_22_19, s_22_22, s_22_23, s_22_24, s_22_27, s_22_28, s_22_29, s_22_32, s_22_33, s_22_36, s_22_37, s_22_40, s_22_41, s_22_42, s_22_43, s_22_44, s_22_47, s_22_48, s_22_51, s_22_52, s_22_53, s_22_54, s_22_57, s_22_60, s_22_63, s_22_64, s_22_67, x_get_i, List.getElem?_cons_succ, List.getElem?_cons_zero, x_cv_j, cs_n, cs_i, cs_r, cs_l, Nat.reduceAdd, Nat.reduceLeDiff, true_and, Option.toList_some, Option.toList_none, List.cons_append, List.nil_append, if_true, if_false, nb0, nb1, x_setJ, x_setZ0, x_setZ1, x_setA, x_setO, List.length_cons, List.length_nil, Nat.reduceLT, List.set_cons_succ, List.set_cons_zero, wrl_0, wrl_1, wrl_2, wrl_3, wrl_4, wrl_5, wrl_p0, wrl_p1, wrl_p2, wrl_p3, wrl_p4, wrl_0, wrl_1, wrl_2, c1, x_ild_n h8 n8, es]
      by_cases c2 : N i ≤ 0
      · have e0 : le_po N L n s i = 0 := by unfold le_po; rw [if_pos c2]
        simp only [c2, if_true, x_ist_n h8 n8, wrl_p2, s_22_0, s_22_1, s_22_2, s_22_5, s_22_6, s_22_8, s_22_10, s_22_13, s_22_14, s_22_17, s_22_18, s_22_19, s_22_22, s_22_23, s_22_24, s_22_27, s_22_28, s_22_29, s_22_32, s_22_33, s_22_36, s_22_37, s_22_40, s_22_41, s_22_42, s_22_43, s_22_44, s_22_47, s_22_48, s_22_51, s_22_52, s_22_53, s_22_54, s_22_57, s_22_60, s_22_63, s_22_64, s_22_67, x_get_i, List.getElem?_cons_succ, List.getElem?_cons_zero, x_cv_j, cs_n, cs_i, cs_r, cs_l, Nat.reduceAdd, Nat.reduceLeDiff, true_and, Option.toList_some, Option.toList_none, List.cons_append, List.nil_append, if_true, if_false, nb0, nb1, x_setJ, x_setZ0, x_setZ1, x_setA, x_setO, List.length_cons, List.length_nil, Nat.reduceLT, List.set_cons_succ, List.set_cons_zero, wrl_0, wrl_1, wrl_2, wrl_3, wrl_4, wrl_5, wrl_p0, wrl_p1, wrl_p2, wrl_p3, wrl_p4, wrl_0, wrl_2]
        rw [← e0, le_pP_s]
        simp only [x_ild_n h8 n8, ep, s_22_0, s_22_1, s_22_2, s_22_5, s_22_6, s_22_8, s_22_10, s_22_13, s_22_14, s_22_17, s_22_18, s_22_19, s_22_22, s_22_23, s_22_24, s_22_27, s_22_28, s_22_29, s_22_32, s_22_33, s_22_36, s_22_37, s_22_40, s_22_41, s_22_42, s_22_43, s_22_44, s_22_47, s_22_48, s_22_51, s_22_52, s_22_53, s_22_54, s_22_57, s_22_60, s_22_63, s_22_64, s_22_67, x_get_i, List.getElem?_cons_succ, List.getElem?_cons_zero, x_cv_j, cs_n, cs_i, cs_r, cs_l, Nat.reduceAdd, Nat.reduceLeDiff, true_and, Option.toList_some, Option.toList_none, List.cons_append, List.nil_append, if_true, if_false, nb0, nb1, x_setJ, x_setZ0, x_setZ1, x_setA, x_setO, List.length_cons, List.length_nil, Nat.reduceLT, List.set_cons_succ, List.set_cons_zero, wrl_0, wrl_1, wrl_2, wrl_3, wrl_4, wrl_5, wrl_p0, wrl_p1, wrl_p2, wrl_p3, wrl_p4, wrl_p0, nI_1]
      · have e0 : le_po N L n s i = tc_wh L (nI i) n &&& (tc_allv (nI n) &&& (s ^^^ (-1))) := by unfold le_po; rw [if_neg c2]
        simp only [c2, if_false, ht0, s_22_0, s_22_1, s_22_2, s_22_5, s_22_6, s_22_8, s_22_10, s_22_13, s_22_14, s_22_17, s_22_18, s_22_19, s_22_22, s_22_23, s_22_24, s_22_27, s_22_28, s_22_29, s_22_32, s_22_33, s_22_36, s_22_37, s_22_40, s_22_41, s_22_42, s_22_43, s_22_44, s_22_47, s_22_48, s_22_51, s_22_52, s_22_53, s_22_54, s_22_57, s_22_60, s_22_63, s_22_64, s_22_67, x_get_i, List.getElem?_cons_succ, List.getElem?_cons_zero, x_cv_j, cs_n, cs_i, cs_r, cs_l, Nat.reduceAdd, Nat.reduceLeDiff, true_and, Option.toList_some, Option.toList_none, List.cons_append, List.nil_append, if_true, if_false, nb0, nb1, x_setJ, x_setZ0, x_setZ1, x_setA, x_setO, List.length_cons, List.length_nil, Nat.reduceLT, List.set_cons_succ, List.set_cons_zero, wrl_0, wrl_1, wrl_2, wrl_3, wrl_4, wrl_5, wrl_p0, wrl_p1, wrl_p2, wrl_p3, wrl_p4, tc_ofLetter ht hn, tc_free ht]
        rw [← e0]
        simp only [x_ist_n h8 n8, wrl_p2, s_22_0, s_22_1, s_22_2, s_22_5, s_22_6, s_22_8, s_22_10, s_22_13, s_22_14, s_22_17, s_22_18, s_22_19, s_22_22, s_22_23, s_22_24, s_22_27, s_22_28, s_22_29, s_22_32, s_22_33, s_22_36, s_22_37, s_22_40, s_22_41, s_22_42, s_22_43, s_22_44, s_22_47, s_22_48, s_22_51, s_22_52, s_22_53, s_22_54, s_22_57, s_22_60, s_22_63, s_22_64, s_22_67, x_get_i, List.getElem?_cons_succ, List.getElem?_cons_zero, x_cv_j, cs_n, cs_i, cs_r, cs_l, Nat.reduceAdd, Nat.reduceLeDiff, true_and, Option.toList_some, Option.toList_none, List.cons_append, List.nil_append, if_true, if_false, nb0, nb1, x_setJ, x_setZ0, x_setZ1, x_setA, x_setO, List.length_cons, List.length_nil, Nat.reduceLT, List.set_cons_succ, List.set_cons_zero, wrl_0, wrl_1, wrl_2, wrl_3, wrl_4, wrl_5, wrl_p0, wrl_p1, wrl_p2, wrl_p3, wrl_p4, wrl_0, wrl_2, le_pP_s, x_ild_n h8 n8, ep, wrl_p0, nI_1]
  rw [e_22]
  simp only [s_22_0, s_22_1, s_22_2, s_22_5, s_22_6, s_22_8, s_22_10, s_22_13, s_22_14, s_22_17, s_22_18, s_22_19, s_22_22, s_22_23, s_22_24, s_22_27, s_22_28, s_22_29, s_22_32, s_22_33, s_22_36, s_22_37, s_22_40, s_22_41, s_22_42, s_22_43, s_22_44, s_22_47, s_22_48, s_22_51, s_22_52, s_22_53, s_22_54, s_22_57, s_22_60, s_22_63, s_22_64, s_22_67, x_get_i, List.getElem?_cons_succ, List.getElem?_cons_zero, x_cv_j, cs_n, cs_i, cs_r, cs_l, Nat.reduceAdd, Nat.reduceLeDiff, true_and, Option.toList_some, Option.toList_none, List.cons_append, List.nil_append, if_true, if_false, nb0, nb1, x_setJ, x_setZ0, x_setZ1, x_setA, x_setO, List.length_cons, List.length_nil, Nat.reduceLT, List.set_cons_succ, List.set_cons_zero, wrl_0, wrl_1, wrl_2, wrl_3, wrl_4, wrl_5, wrl_p0, wrl_p1, wrl_p2, wrl_p3, wrl_p4, wrl_0, wrl_p0]
  have e0 : le_pP P N L n s 0 = P := rfl
  have := loop 8 0 (by omega)
  rw [e0] at this
  exact this
/-- has the set just as many of each letter from x on -/
def le_su (N P : Nat → Int32) (set : Int32) : Nat → Nat → Bool
  | 0, _ => true
  | j + 1, x => if ibc (set &&& P x) = N x then le_su N P set j (x + 1) else false
theorem le_suits (set : Int32) : tm_D (g_G sa sc xt) (d + 1) 23 [.ref q, .int set] (wrl h q (lec q N P z p)) Q ↔ Q (some (.int (if set &&& (p ^^^ (-1)) = 0 then if ibc set = z then bI (le_su N P set 8 0) else 0 else 0))) (wrl h q (lec q N P z p)) := by
  have loop : ∀ j i, i + j = 8 → (tm_X (g_G sa sc xt) (d + 1) 23 26 [.ref q, .int set, .int (nI i)] [] (wrl h q (lec q N P z p)) Q ↔ Q (some (.int (bI (le_su N P set j i)))) (wrl h q (lec q N P z p))) := by
    intro j
    induction j with
    | zero =>
      intro i hi
      have hi : i = 8 := by omega
      subst hi
      rw [s_23_26]
      simp only [s_23_0, s_23_1, s_23_2, s_23_5, s_23_6, s_23_7, s_23_8, s_23_11, s_23_12, s_23_15, s_23_16, s_23_19, s_23_22, s_23_23, s_23_24, s_23_25, s_23_27, s_23_29, s_23_32, s_23_33, s_23_34, s_23_37, s_23_38, s_23_39, s_23_40, s_23_43, s_23_44, s_23_47, s_23_48, s_23_49, s_23_52, s_23_53, s_23_54, s_23_57, s_23_60, s_23_61, x_get_i, List.getElem?_cons_succ, List.getElem?_cons_zero, x_cv_j, cs_n, cs_i, cs_r, cs_l, Nat.reduceAdd, Nat.reduceLeDiff, true_and, Option.toList_some, Option.toList_none, List.cons_append, List.nil_append, if_true, if_false, nb0, nb1, x_setJ, x_setZ0, x_setZ1, x_setA, x_setO, List.length_cons, List.length_nil, Nat.reduceLT, List.set_cons_succ, List.set_cons_zero, wrl_0, wrl_1, wrl_2, wrl_3, wrl_4, wrl_5, wrl_p0, wrl_p1, wrl_p2, wrl_p3, wrl_p4, show (8 : Int32) ≤ nI 8 by decide]
      exact Iff.rfl
    | succ j ih =>
      intro i hi
      have h8 : i < 8 := by omega
      have c1 : ¬ (8 : Int32) ≤ nI i := nI_ge (b := 8) h8 (by omega)
      rw [s_23_26]
      simp only [s_23_0, s_23_1, s_23_2, s_23_5, s_23_6, s_23_7, s_23_8, s_23_11, s_23_12, s_23_15, s_23_16, s_23_19, s_23_22, s_23_23, s_23_24, s_23_25, s_23_27, s_23_29, s_23_32, s_23_33, s_23_34, s_23_37, s_23_38, s_23_39, s_23_40, s_23_43, s_23_44, s_23_47, s_23_48, s_23_49, s_23_52, s_23_53, s_23_54, s_23_57, s_23_60, s_23_61, x_get_i, List.getElem?_cons_succ, List.getElem?_cons_zero, x_cv_j, cs_n, cs_i, cs_r, cs_l, Nat.reduceAdd, Nat.reduceLeDiff, true_and, Option.toList_some, Option.toList_none, List.cons_append, List.nil_append, if_true, if_false, nb0, nb1, x_setJ, x_setZ0, x_setZ1, x_setA, x_setO, List.length_cons, List.length_nil, Nat.reduceLT, List.set_cons_succ, List.set_cons_zero, wrl_0, wrl_1, wrl_2, wrl_3, wrl_4, wrl_5, wrl_p0, wrl_p1, wrl_p2, wrl_p3, wrl_p4, wrl_0, wrl_1, wrl_2, c1, x_ild_n h8 n8, m_bitCount]
      unfold le_su
      by_cases c2 : ibc (set &&& P i) = N i
      · simp only [c2, if_true, nI_1]
        exact ih (i + 1) (by omega)
      · simp only [c2, if_false]
        exact Iff.rfl
  rw [e_23]
  simp only [s_23_0, s_23_1, s_23_2, s_23_5, s_23_6, s_23_7, s_23_8, s_23_11, s_23_12, s_23_15, s_23_16, s_23_19, s_23_22, s_23_23, s_23_24, s_23_25, s_23_27, s_23_29, s_23_32, s_23_33, s_23_34, s_23_37, s_23_38, s_23_39, s_23_40, s_23_43, s_23_44, s_23_47, s_23_48, s_23_49, s_23_52, s_23_53, s_23_54, s_23_57, s_23_60, s_23_61, x_get_i, List.getElem?_cons_succ, List.getElem?_cons_zero, x_cv_j, cs_n, cs_i, cs_r, cs_l, Nat.reduceAdd, Nat.reduceLeDiff, true_and, Option.toList_some, Option.toList_none, List.cons_append, List.nil_append, if_true, if_false, nb0, nb1, x_setJ, x_setZ0, x_setZ1, x_setA, x_setO, List.length_cons, List.length_nil, Nat.reduceLT, List.set_cons_succ, List.set_cons_zero, wrl_0, wrl_1, wrl_2, wrl_3, wrl_4, wrl_5, wrl_p0, wrl_p1, wrl_p2, wrl_p3, wrl_p4, wrl_0, m_bitCount]
  by_cases c1 : set &&& (p ^^^ (-1)) = 0
  · simp only [c1, if_true]
    by_cases c2 : ibc set = z
    · simp only [c2, if_true]
      exact loop 8 0 (by omega)
    · simp only [c2, if_false]
  · simp only [c1, if_false]
end
