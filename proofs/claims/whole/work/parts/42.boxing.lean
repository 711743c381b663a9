/-! Boxing -/
abbrev boc (q : Nat) (Pl Ap : Nat → Int32) : List tm_E := [.inr (0, [.ref (q + 1), .ref (q + 2)]), .inl (0, 8, .inl Pl), .inl (0, 8, .inl Ap)]
def pap (Ap : Nat → Int32) (x y : Nat) : Nat → Int32 := upd (upd Ap x (Ap x ||| (1 <<< (nI y &&& 31)))) y (upd Ap x (Ap x ||| (1 <<< (nI y &&& 31))) y ||| (1 <<< (nI x &&& 31)))
/-- pairs from p on: the answer, and who is apart then -/
def prd (F : Nat → Int32) (c e : Nat) : Nat → Nat → (Nat → Int32) → Int32 × (Nat → Int32)
  | 0, _, A => (0, A)
  | j + 1, p, A => if e ≤ p then (nI p, A) else if txs 108 (F p) = 0 then (nI p, A) else if e ≤ p + 1 then (nI (p + 1), A) else if txs 108 (F (p + 1)) = 0 then (nI (p + 1), A)
    else if F p = F (p + 1) then (nI (p + 1), A)
    else if e ≤ p + 2 then ((if e < c then nI e else -1), pap A (F p - 97).toNatClampNeg (F (p + 1) - 97).toNatClampNeg)
    else if F (p + 2) = 59 then prd F c e j (p + 3) (pap A (F p - 97).toNatClampNeg (F (p + 1) - 97).toNatClampNeg)
    else (nI (p + 2), pap A (F p - 97).toNatClampNeg (F (p + 1) - 97).toNatClampNeg)
def pread (F : Nat → Int32) (c : Nat) (A : Nat → Int32) : Int32 × (Nat → Int32) := if c = 0 then (-1, fl A 0 8) else prd F c (min c 59) 20 0 (fl A 0 8)
/-- may a letter stand in a box: places below it -/
def mst (Pl : Nat → Int32) (a : Int32) (b : Int32) : Nat → Nat → Bool
  | 0, _ => true
  | j + 1, o => if Pl o = b then (if (a >>> (nI o &&& 31)) &&& 1 = 1 then false else mst Pl a b j (o + 1)) else mst Pl a b j (o + 1)
/-- boxes from b on are tried for letter l -/
def plo (rec : Nat → (Nat → Int32) → Bool × (Nat → Int32)) (a : Int32) (l u : Nat) : Nat → Nat → (Nat → Int32) → Bool × (Nat → Int32)
  | 0, _, Pl => (false, Pl)
  | j + 1, b, Pl => if mst Pl a (nI b) l 0 then (if (rec (max u (b + 1)) (upd Pl l (nI b))).1 then rec (max u (b + 1)) (upd Pl l (nI b)) else plo rec a l u j (b + 1) (rec (max u (b + 1)) (upd Pl l (nI b))).2) else plo rec a l u j (b + 1) Pl
/-- m letters from l on -/
def plf (Ap : Nat → Int32) (bx : Nat) : Nat → Nat → Nat → (Nat → Int32) → Bool × (Nat → Int32)
  | 0, _, _, Pl => (true, Pl)
  | m + 1, l, u, Pl => plo (plf Ap bx m (l + 1)) (Ap l) l u (min bx (u + 1)) 0 Pl
/-- the fewest boxes from b on -/
def pfw (Ap : Nat → Int32) : Nat → Nat → (Nat → Int32) → Nat × (Nat → Int32)
  | 0, b, Pl => (b, (plf Ap b 8 0 0 Pl).2)
  | j + 1, b, Pl => if (plf Ap b 8 0 0 Pl).1 then (b, (plf Ap b 8 0 0 Pl).2) else pfw Ap j (b + 1) (plf Ap b 8 0 0 Pl).2
section
variable {sa : g_SA} {sc : Nat × Nat × (Nat → Int32)} {xt : Nat → Nat → List Value → tm_H → Option (Option Value × tm_H)} {d : Nat} {h : tm_H} {Q : Option Value → tm_H → Prop}
variable {q t c : Nat} {F Pl Ap : Nat → Int32}
theorem bo_apart {x y : Nat} (hx : x < 8) (hy : y < 8) : tm_D (g_G sa sc xt) d 3 [.ref q, .int (nI x), .int (nI y)] (wrl h q (boc q Pl Ap)) Q ↔ Q none (wrl h q (boc q Pl (pap Ap x y))) := by
  rw [e_3]
  simp only [s_3_0, s_3_1, s_3_4, s_3_5, s_3_6, s_3_7, s_3_8, s_3_9, s_3_10, s_3_11, s_3_12, s_3_13, s_3_16, s_3_17, s_3_18, s_3_19, s_3_20, s_3_21, s_3_22, s_3_23, s_3_24, x_get_i, List.getElem?_cons_succ, List.getElem?_cons_zero, x_cv_j, cs_n, cs_i, cs_r, cs_l, Nat.reduceAdd, Nat.reduceLeDiff, true_and, Option.toList_some, Option.toList_none, List.cons_append, List.nil_append, if_true, if_false, nb0, nb1, x_setJ, x_setZ0, x_setZ1, x_setA, x_setO, List.length_cons, List.length_nil, Nat.reduceLT, List.set_cons_succ, List.set_cons_zero, wrl_0, wrl_1, wrl_2, wrl_3, wrl_4, wrl_5, wrl_p0, wrl_p1, wrl_p2, wrl_p3, wrl_p4, wrl_0, wrl_2, wrl_p2, x_ild_n hx n8, x_ild_n hy n8, x_ist_n hx n8, x_ist_n hy n8]
  exact Iff.rfl
theorem bo_may {l : Nat} (hl : l < 8) (b : Int32) : tm_D (g_G sa sc xt) d 6 [.ref (q + 1), .ref (q + 2), .int (nI l), .int b] (wrl h q (boc q Pl Ap)) Q ↔ Q (some (.int (bI (mst Pl (Ap l) b l 0)))) (wrl h q (boc q Pl Ap)) := by
  have loop : ∀ j o, o + j = l → (tm_X (g_G sa sc xt) d 6 3 [.ref (q + 1), .ref (q + 2), .int (nI l), .int b, .int (nI o)] [] (wrl h q (boc q Pl Ap)) Q ↔ Q (some (.int (bI (mst Pl (Ap l) b j o)))) (wrl h q (boc q Pl Ap))) := by
    intro j
    induction j with
    | zero =>
      intro o ho
      have ho : o = l := by omega
      subst ho
      rw [s_6_3]
      simp only [s_6_0, s_6_1, s_6_5, s_6_6, s_6_9, s_6_10, s_6_12, s_6_13, s_6_14, s_6_17, s_6_18, s_6_19, s_6_20, s_6_22, s_6_23, s_6_24, s_6_25, s_6_26, s_6_29, s_6_30, s_6_31, s_6_34, s_6_37, s_6_38, x_get_i, List.getElem?_cons_succ, List.getElem?_cons_zero, x_cv_j, cs_n, cs_i, cs_r, cs_l, Nat.reduceAdd, Nat.reduceLeDiff, true_and, Option.toList_some, Option.toList_none, List.cons_append, List.nil_append, if_true, if_false, nb0, nb1, x_setJ, x_setZ0, x_setZ1, x_setA, x_setO, List.length_cons, List.length_nil, Nat.reduceLT, List.set_cons_succ, List.set_cons_zero, wrl_0, wrl_1, wrl_2, wrl_3, wrl_4, wrl_5, wrl_p0, wrl_p1, wrl_p2, wrl_p3, wrl_p4, Int32.le_refl]
      exact Iff.rfl
    | succ j ih =>
      intro o ho
      have o8 : o < 8 := by omega
      rw [s_6_3]
      simp only [s_6_0, s_6_1, s_6_5, s_6_6, s_6_9, s_6_10, s_6_12, s_6_13, s_6_14, s_6_17, s_6_18, s_6_19, s_6_20, s_6_22, s_6_23, s_6_24, s_6_25, s_6_26, s_6_29, s_6_30, s_6_31, s_6_34, s_6_37, s_6_38, x_get_i, List.getElem?_cons_succ, List.getElem?_cons_zero, x_cv_j, cs_n, cs_i, cs_r, cs_l, Nat.reduceAdd, Nat.reduceLeDiff, true_and, Option.toList_some, Option.toList_none, List.cons_append, List.nil_append, if_true, if_false, nb0, nb1, x_setJ, x_setZ0, x_setZ1, x_setA, x_setO, List.length_cons, List.length_nil, Nat.reduceLT, List.set_cons_succ, List.set_cons_zero, wrl_0, wrl_1, wrl_2, wrl_3, wrl_4, wrl_5, wrl_p0, wrl_p1, wrl_p2, wrl_p3, wrl_p4, wrl_0, wrl_1, wrl_2, show ¬ nI l ≤ nI o from nI_ge (by omega) (by omega), x_ild_n o8 n8, x_ild_n hl n8, nI_1]
      unfold mst
      by_cases c1 : Pl o = b
      · simp only [c1, if_true]
        by_cases c2 : (Ap l >>> (nI o &&& 31)) &&& 1 = 1
        · simp only [c2, if_true]
          exact Iff.rfl
        · simp only [c2, if_false]
          exact ih (o + 1) (by omega)
      · simp only [c1, if_false]
        exact ih (o + 1) (by omega)
  rw [e_6]
  simp only [s_6_0, s_6_1, s_6_5, s_6_6, s_6_9, s_6_10, s_6_12, s_6_13, s_6_14, s_6_17, s_6_18, s_6_19, s_6_20, s_6_22, s_6_23, s_6_24, s_6_25, s_6_26, s_6_29, s_6_30, s_6_31, s_6_34, s_6_37, s_6_38]
  exact loop l 0 (by omega)
theorem bo_place {bx : Nat} (hbx : bx ≤ 8) : ∀ (m l u : Nat) (d : Nat) (Pl : Nat → Int32) (Q : Option Value → tm_H → Prop), l + m = 8 → u ≤ 8 → (tm_D (g_G sa sc xt) (d + m + 1) 5 [.ref (q + 1), .ref (q + 2), .int (nI l), .int (nI bx), .int (nI u)] (wrl h q (boc q Pl Ap)) Q ↔ Q (some (.int (bI (plf Ap bx m l u Pl).1))) (wrl h q (boc q (plf Ap bx m l u Pl).2 Ap))) := by
  intro m
  induction m with
  | zero =>
    intro l u d Pl Q hl hu
    have hl : l = 8 := by omega
    subst hl
    rw [e_5]
    simp only [s_5_0, s_5_1, s_5_3, s_5_6, s_5_7, s_5_8, s_5_9, s_5_13, s_5_14, s_5_17, s_5_19, s_5_21, s_5_24, s_5_25, s_5_26, s_5_27, s_5_29, s_5_32, s_5_35, s_5_36, s_5_37, s_5_39, s_5_40, s_5_41, s_5_42, s_5_43, s_5_44, s_5_45, s_5_46, s_5_48, s_5_50, s_5_51, s_5_52, s_5_55, s_5_58, s_5_61, s_5_62, s_5_63, s_5_66, s_5_69, s_5_70, x_get_i, List.getElem?_cons_succ, List.getElem?_cons_zero, x_cv_j, cs_n, cs_i, cs_r, cs_l, Nat.reduceAdd, Nat.reduceLeDiff, true_and, Option.toList_some, Option.toList_none, List.cons_append, List.nil_append, if_true, if_false, nb0, nb1, x_setJ, x_setZ0, x_setZ1, x_setA, x_setO, List.length_cons, List.length_nil, Nat.reduceLT, List.set_cons_succ, List.set_cons_zero, wrl_0, wrl_1, wrl_2, wrl_3, wrl_4, wrl_5, wrl_p0, wrl_p1, wrl_p2, wrl_p3, wrl_p4, show ¬ nI 8 < (8 : Int32) by decide]
    exact Iff.rfl
  | succ m ihm =>
    intro l u d Pl Q hl hu
    have hl8 : l < 8 := by omega
    have loop : ∀ (j b : Nat) (Pl : Nat → Int32), b + j = min bx (u + 1) → (tm_X (g_G sa sc xt) (d + (m + 1) + 1) 5 11 [.ref (q + 1), .ref (q + 2), .int (nI l), .int (nI bx), .int (nI u), .int (nI b)] [] (wrl h q (boc q Pl Ap)) Q ↔ Q (some (.int (bI (plo (plf Ap bx m (l + 1)) (Ap l) l u j b Pl).1))) (wrl h q (boc q (plo (plf Ap bx m (l + 1)) (Ap l) l u j b Pl).2 Ap))) := by
      intro j
      induction j with
      | zero =>
        intro b Pl hb
        rw [s_5_11]
        by_cases c1 : bx ≤ b
        · simp only [s_5_0, s_5_1, s_5_3, s_5_6, s_5_7, s_5_8, s_5_9, s_5_13, s_5_14, s_5_17, s_5_19, s_5_21, s_5_24, s_5_25, s_5_26, s_5_27, s_5_29, s_5_32, s_5_35, s_5_36, s_5_37, s_5_39, s_5_40, s_5_41, s_5_42, s_5_43, s_5_44, s_5_45, s_5_46, s_5_48, s_5_50, s_5_51, s_5_52, s_5_55, s_5_58, s_5_61, s_5_62, s_5_63, s_5_66, s_5_69, s_5_70, x_get_i, List.getElem?_cons_succ, List.getElem?_cons_zero, x_cv_j, cs_n, cs_i, cs_r, cs_l, Nat.reduceAdd, Nat.reduceLeDiff, true_and, Option.toList_some, Option.toList_none, List.cons_append, List.nil_append, if_true, if_false, nb0, nb1, x_setJ, x_setZ0, x_setZ1, x_setA, x_setO, List.length_cons, List.length_nil, Nat.reduceLT, List.set_cons_succ, List.set_cons_zero, wrl_0, wrl_1, wrl_2, wrl_3, wrl_4, wrl_5, wrl_p0, wrl_p1, wrl_p2, wrl_p3, wrl_p4, show nI bx ≤ nI b from nI_le c1 (by omega)]
          exact Iff.rfl
        · simp only [s_5_0, s_5_1, s_5_3, s_5_6, s_5_7, s_5_8, s_5_9, s_5_13, s_5_14, s_5_17, s_5_19, s_5_21, s_5_24, s_5_25, s_5_26, s_5_27, s_5_29, s_5_32, s_5_35, s_5_36, s_5_37, s_5_39, s_5_40, s_5_41, s_5_42, s_5_43, s_5_44, s_5_45, s_5_46, s_5_48, s_5_50, s_5_51, s_5_52, s_5_55, s_5_58, s_5_61, s_5_62, s_5_63, s_5_66, s_5_69, s_5_70, x_get_i, List.getElem?_cons_succ, List.getElem?_cons_zero, x_cv_j, cs_n, cs_i, cs_r, cs_l, Nat.reduceAdd, Nat.reduceLeDiff, true_and, Option.toList_some, Option.toList_none, List.cons_append, List.nil_append, if_true, if_false, nb0, nb1, x_setJ, x_setZ0, x_setZ1, x_setA, x_setO, List.length_cons, List.length_nil, Nat.reduceLT, List.set_cons_succ, List.set_cons_zero, wrl_0, wrl_1, wrl_2, wrl_3, wrl_4, wrl_5, wrl_p0, wrl_p1, wrl_p2, wrl_p3, wrl_p4, show ¬ nI bx ≤ nI b from nI_ge (by omega) (by omega), show nI u < nI b from nI_lt (by omega) (by omega)]
          exact Iff.rfl
      | succ j ih =>
        intro b Pl hb
        rw [s_5_11]
        simp only [s_5_0, s_5_1, s_5_3, s_5_6, s_5_7, s_5_8, s_5_9, s_5_13, s_5_14, s_5_17, s_5_19, s_5_21, s_5_24, s_5_25, s_5_26, s_5_27, s_5_29, s_5_32, s_5_35, s_5_36, s_5_37, s_5_39, s_5_40, s_5_41, s_5_42, s_5_43, s_5_44, s_5_45, s_5_46, s_5_48, s_5_50, s_5_51, s_5_52, s_5_55, s_5_58, s_5_61, s_5_62, s_5_63, s_5_66, s_5_69, s_5_70, x_get_i, List.getElem?_cons_succ, List.getElem?_cons_zero, x_cv_j, cs_n, cs_i, cs_r, cs_l, Nat.reduceAdd, Nat.reduceLeDiff, true_and, Option.toList_some, Option.toList_none, List.cons_append, List.nil_append, if_true, if_false, nb0, nb1, x_setJ, x_setZ0, x_setZ1, x_setA, x_setO, List.length_cons, List.length_nil, Nat.reduceLT, List.set_cons_succ, List.set_cons_zero, wrl_0, wrl_1, wrl_2, wrl_3, wrl_4, wrl_5, wrl_p0, wrl_p1, wrl_p2, wrl_p3, wrl_p4, show ¬ nI bx ≤ nI b from nI_ge (by omega) (by omega), show ¬ nI u < nI b from nI_nlt (by omega) (by omega), wrl_0, bo_may hl8]
        unfold plo
        cases hm : mst Pl (Ap l) (nI b) l 0 with
        | false =>
          simp only [show bI false = 0 by decide, if_true, Bool.false_eq_true, if_false, nI_1]
          exact ih (b + 1) Pl (by omega)
        | true =>
          have em : (if nI u < nI (b + 1) then nI (b + 1) else nI u) = nI (max u (b + 1)) := by
            by_cases hq : u < b + 1
            · rw [if_pos (nI_lt hq (by omega)), show max u (b + 1) = b + 1 by omega]
            · rw [if_neg (nI_nlt (by omega) (by omega)), show max u (b + 1) = u by omega]
          simp only [show ¬ bI true = 0 by decide, if_false, if_true, wrl_0, wrl_1, s_5_0, s_5_1, s_5_3, s_5_6, s_5_7, s_5_8, s_5_9, s_5_13, s_5_14, s_5_17, s_5_19, s_5_21, s_5_24, s_5_25, s_5_26, s_5_27, s_5_29, s_5_32, s_5_35, s_5_36, s_5_37, s_5_39, s_5_40, s_5_41, s_5_42, s_5_43, s_5_44, s_5_45, s_5_46, s_5_48, s_5_50, s_5_51, s_5_52, s_5_55, s_5_58, s_5_61, s_5_62, s_5_63, s_5_66, s_5_69, s_5_70, x_get_i, List.getElem?_cons_succ, List.getElem?_cons_zero, x_cv_j, cs_n, cs_i, cs_r, cs_l, Nat.reduceAdd, Nat.reduceLeDiff, true_and, Option.toList_some, Option.toList_none, List.cons_append, List.nil_append, if_true, if_false, nb0, nb1, x_setJ, x_setZ0, x_setZ1, x_setA, x_setO, List.length_cons, List.length_nil, Nat.reduceLT, List.set_cons_succ, List.set_cons_zero, wrl_0, wrl_1, wrl_2, wrl_3, wrl_4, wrl_5, wrl_p0, wrl_p1, wrl_p2, wrl_p3, wrl_p4, x_ist_n hl8 n8, wrl_p1, nI_1, em]
          have hr := ihm (l + 1) (max u (b + 1)) d (upd Pl l (nI b)) (fun r h' => tm_X (g_G sa sc xt) (d + (m + 1) + 1) 5 58 [.ref (q + 1), .ref (q + 2), .int (nI l), .int (nI bx), .int (nI u), .int (nI b)] (r.toList ++ []) h' Q) (by omega) (by omega)
          refine hr.trans ?_
          simp only [s_5_0, s_5_1, s_5_3, s_5_6, s_5_7, s_5_8, s_5_9, s_5_13, s_5_14, s_5_17, s_5_19, s_5_21, s_5_24, s_5_25, s_5_26, s_5_27, s_5_29, s_5_32, s_5_35, s_5_36, s_5_37, s_5_39, s_5_40, s_5_41, s_5_42, s_5_43, s_5_44, s_5_45, s_5_46, s_5_48, s_5_50, s_5_51, s_5_52, s_5_55, s_5_58, s_5_61, s_5_62, s_5_63, s_5_66, s_5_69, s_5_70, x_get_i, List.getElem?_cons_succ, List.getElem?_cons_zero, x_cv_j, cs_n, cs_i, cs_r, cs_l, Nat.reduceAdd, Nat.reduceLeDiff, true_and, Option.toList_some, Option.toList_none, List.cons_append, List.nil_append, if_true, if_false, nb0, nb1, x_setJ, x_setZ0, x_setZ1, x_setA, x_setO, List.length_cons, List.length_nil, Nat.reduceLT, List.set_cons_succ, List.set_cons_zero, wrl_0, wrl_1, wrl_2, wrl_3, wrl_4, wrl_5, wrl_p0, wrl_p1, wrl_p2, wrl_p3, wrl_p4]
          cases hp : (plf Ap bx m (l + 1) (max u (b + 1)) (upd Pl l (nI b))).1 with
          | true =>
            simp only [show ¬ bI true = 0 by decide, if_false, if_true, hp]
            exact Iff.rfl
          | false =>
            simp only [show bI false = 0 by decide, if_true, Bool.false_eq_true, if_false, nI_1]
            exact ih (b + 1) _ (by omega)
    rw [e_5]
    simp only [s_5_0, s_5_1, s_5_3, s_5_6, s_5_7, s_5_8, s_5_9, s_5_13, s_5_14, s_5_17, s_5_19, s_5_21, s_5_24, s_5_25, s_5_26, s_5_27, s_5_29, s_5_32, s_5_35, s_5_36, s_5_37, s_5_39, s_5_40, s_5_41, s_5_42, s_5_43, s_5_44, s_5_45, s_5_46, s_5_48, s_5_50, s_5_51, s_5_52, s_5_55, s_5_58, s_5_61, s_5_62, s_5_63, s_5_66, s_5_69, s_5_70, x_get_i, List.getElem?_cons_succ, List.getElem?_cons_zero, x_cv_j, cs_n, cs_i, cs_r, cs_l, Nat.reduceAdd, Nat.reduceLeDiff, true_and, Option.toList_some, Option.toList_none, List.cons_append, List.nil_append, if_true, if_false, nb0, nb1, x_setJ, x_setZ0, x_setZ1, x_setA, x_setO, List.length_cons, List.length_nil, Nat.reduceLT, List.set_cons_succ, List.set_cons_zero, wrl_0, wrl_1, wrl_2, wrl_3, wrl_4, wrl_5, wrl_p0, wrl_p1, wrl_p2, wrl_p3, wrl_p4, show nI l < (8 : Int32) from nI_lt (b := 8) hl8 (by decide)]
    exact loop (min bx (u + 1)) 0 Pl (by omega)
theorem bo_fewest : tm_D (g_G sa sc xt) (d + 10) 4 [.ref q] (wrl h q (boc q Pl Ap)) Q ↔ Q (some (.int (nI (pfw Ap 7 1 Pl).1))) (wrl h q (boc q (pfw Ap 7 1 Pl).2 Ap)) := by
  have loop : ∀ (j b : Nat) (Pl : Nat → Int32), b + j = 8 → (tm_X (g_G sa sc xt) (d + 10) 4 2 [.ref q, .int (nI b)] [] (wrl h q (boc q Pl Ap)) Q ↔ Q (some (.int (nI (pfw Ap j b Pl).1))) (wrl h q (boc q (pfw Ap j b Pl).2 Ap))) := by
    intro j
    induction j with
    | zero =>
      intro b Pl hb
      have hb : b = 8 := by omega
      subst hb
      rw [s_4_2]
      simp only [s_4_0, s_4_1, s_4_3, s_4_5, s_4_8, s_4_9, s_4_12, s_4_13, s_4_16, s_4_17, s_4_18, s_4_19, s_4_22, s_4_25, s_4_26, s_4_27, s_4_30, s_4_33, s_4_34, s_4_37, s_4_38, s_4_41, s_4_42, s_4_44, s_4_45, s_4_48, s_4_49, s_4_51, x_get_i, List.getElem?_cons_succ, List.getElem?_cons_zero, x_cv_j, cs_n, cs_i, cs_r, cs_l, Nat.reduceAdd, Nat.reduceLeDiff, true_and, Option.toList_some, Option.toList_none, List.cons_append, List.nil_append, if_true, if_false, nb0, nb1, x_setJ, x_setZ0, x_setZ1, x_setA, x_setO, List.length_cons, List.length_nil, Nat.reduceLT, List.set_cons_succ, List.set_cons_zero, wrl_0, wrl_1, wrl_2, wrl_3, wrl_4, wrl_5, wrl_p0, wrl_p1, wrl_p2, wrl_p3, wrl_p4, show (8 : Int32) ≤ nI 8 by decide, wrl_0]
      refine (bo_place (bx := 8) (by decide) 8 0 0 d Pl _ (by decide) (by decide)).trans ?_
      simp only [s_4_0, s_4_1, s_4_3, s_4_5, s_4_8, s_4_9, s_4_12, s_4_13, s_4_16, s_4_17, s_4_18, s_4_19, s_4_22, s_4_25, s_4_26, s_4_27, s_4_30, s_4_33, s_4_34, s_4_37, s_4_38, s_4_41, s_4_42, s_4_44, s_4_45, s_4_48, s_4_49, s_4_51, x_get_i, List.getElem?_cons_succ, List.getElem?_cons_zero, x_cv_j, cs_n, cs_i, cs_r, cs_l, Nat.reduceAdd, Nat.reduceLeDiff, true_and, Option.toList_some, Option.toList_none, List.cons_append, List.nil_append, if_true, if_false, nb0, nb1, x_setJ, x_setZ0, x_setZ1, x_setA, x_setO, List.length_cons, List.length_nil, Nat.reduceLT, List.set_cons_succ, List.set_cons_zero, wrl_0, wrl_1, wrl_2, wrl_3, wrl_4, wrl_5, wrl_p0, wrl_p1, wrl_p2, wrl_p3, wrl_p4]
      exact Iff.rfl
    | succ j ih =>
      intro b Pl hb
      rw [s_4_2]
      simp only [s_4_0, s_4_1, s_4_3, s_4_5, s_4_8, s_4_9, s_4_12, s_4_13, s_4_16, s_4_17, s_4_18, s_4_19, s_4_22, s_4_25, s_4_26, s_4_27, s_4_30, s_4_33, s_4_34, s_4_37, s_4_38, s_4_41, s_4_42, s_4_44, s_4_45, s_4_48, s_4_49, s_4_51, x_get_i, List.getElem?_cons_succ, List.getElem?_cons_zero, x_cv_j, cs_n, cs_i, cs_r, cs_l, Nat.reduceAdd, Nat.reduceLeDiff, true_and, Option.toList_some, Option.toList_none, List.cons_append, List.nil_append, if_true, if_false, nb0, nb1, x_setJ, x_setZ0, x_setZ1, x_setA, x_setO, List.length_cons, List.length_nil, Nat.reduceLT, List.set_cons_succ, List.set_cons_zero, wrl_0, wrl_1, wrl_2, wrl_3, wrl_4, wrl_5, wrl_p0, wrl_p1, wrl_p2, wrl_p3, wrl_p4, show ¬ (8 : Int32) ≤ nI b from nI_ge (b := 8) (by omega) (by decide), wrl_0]
      refine (bo_place (bx := b) (by omega) 8 0 0 d Pl _ (by decide) (by decide)).trans ?_
      simp only [s_4_0, s_4_1, s_4_3, s_4_5, s_4_8, s_4_9, s_4_12, s_4_13, s_4_16, s_4_17, s_4_18, s_4_19, s_4_22, s_4_25, s_4_26, s_4_27, s_4_30, s_4_33, s_4_34, s_4_37, s_4_38, s_4_41, s_4_42, s_4_44, s_4_45, s_4_48, s_4_49, s_4_51, x_get_i, List.getElem?_cons_succ, List.getElem?_cons_zero, x_cv_j, cs_n, cs_i, cs_r, cs_l, Nat.reduceAdd, Nat.reduceLeDiff, true_and, Option.toList_some, Option.toList_none, List.cons_append, List.nil_append, if_true, if_false, nb0, nb1, x_setJ, x_setZ0, x_setZ1, x_setA, x_setO, List.length_cons, List.length_nil, Nat.reduceLT, List.set_cons_succ, List.set_cons_zero, wrl_0, wrl_1, wrl_2, wrl_3, wrl_4, wrl_5, wrl_p0, wrl_p1, wrl_p2, wrl_p3, wrl_p4]
      unfold pfw
      cases hp : (plf Ap b 8 0 0 Pl).1 with
      | true => simp only [show ¬ bI true = 0 by decide, if_false, if_true]
      | false =>
        simp only [show bI false = 0 by decide, if_true, Bool.false_eq_true, if_false, nI_1]
        exact ih (b + 1) _ (by omega)
  rw [e_4]
  simp only [s_4_0, s_4_1, s_4_3, s_4_5, s_4_8, s_4_9, s_4_12, s_4_13, s_4_16, s_4_17, s_4_18, s_4_19, s_4_22, s_4_25, s_4_26, s_4_27, s_4_30, s_4_33, s_4_34, s_4_37, s_4_38, s_4_41, s_4_42, s_4_44, s_4_45, s_4_48, s_4_49, s_4_51]
  exact loop 7 1 Pl (by decide)
theorem mfit_ll {e p : Nat} (hc : c ≤ 80) (he : e ≤ c) (hp : p + 1 < 2 ^ 31) : mfit F c (nI e) (g_sb 7) (nI p) = if e ≤ p then nI p else if txs 108 (F p) = 0 then nI p else if e ≤ p + 1 then nI (p + 1) else if txs 108 (F (p + 1)) = 0 then nI (p + 1) else -1 := by
  show (if nI e ≤ nI p then nI p else if txs 108 (txa F c (nI p)) = 0 then nI p else if nI e ≤ nI p + 1 then nI p + 1 else if txs 108 (txa F c (nI p + 1)) = 0 then nI p + 1 else -1) = _
  rw [nI_1]
  by_cases c1 : e ≤ p
  · rw [if_pos (nI_le c1 (by omega)), if_pos c1]
  · rw [if_neg (nI_ge (by omega) (by omega)), if_neg c1, txa_n (by omega) hc]
    split
    · rfl
    · by_cases c2 : e ≤ p + 1
      · rw [if_pos (nI_le c2 (by omega)), if_pos c2]
      · rw [if_neg (nI_ge (by omega) (by omega)), if_neg c2, txa_n (by omega) hc]
set_option maxHeartbeats 1000000 in
theorem bo_read (hx : tx_in h t c F) (hc : c ≤ 80) (hS : SH sa h) (hSq : ∀ Ap, SH sa (wrl h q (boc q Pl Ap))) (hd : t + 2 ≤ q ∨ q + 3 ≤ t) : tm_D (g_G sa sc xt) (d + 5) 2 [.ref q, .ref t] (wrl h q (boc q Pl Ap)) Q ↔ Q (some (.int (pread F c Ap).1)) (wrl h q (boc q Pl (pread F c Ap).2)) := by
  have ht : ∀ {Ap : Nat → Int32}, tx_in (wrl h q (boc q Pl Ap)) t c F := fun {Ap} => tx_in_same (fun x h1 h2 => wrl_o (by show _ ∨ q + 3 ≤ x; omega)) hx
  have ht0 : ∀ {Ap : Nat → Int32}, (wrl h q (boc q Pl Ap)).2.2 t = .inr (8, [.ref (t + 1), .int (nI c)]) := fun {Ap} => (ht (Ap := Ap)).1
  have em : (if (59 : Int32) < nI c then (59 : Int32) else nI c) = nI (min c 59) := by
    by_cases h1 : 59 < c
    · rw [if_pos (show (59 : Int32) < nI c from nI_lt (a := 59) h1 (by omega)), show min c 59 = 59 by omega]; rfl
    · rw [if_neg (show ¬ (59 : Int32) < nI c from nI_nlt (a := 59) (by omega) (by decide)), show min c 59 = c by omega]
  have hec : min c 59 ≤ c := by omega
  have loop : ∀ (j p : Nat) (A : Nat → Int32) (x4 : Value), min c 59 < p + 3 * j → p ≤ min c 59 → (tm_X (g_G sa sc xt) (d + 5) 2 26 [.ref q, .ref t, .int (nI (min c 59)), .int (nI p), x4] [] (wrl h q (boc q Pl A)) Q ↔ Q (some (.int (prd F c (min c 59) j p A).1)) (wrl h q (boc q Pl (prd F c (min c 59) j p A).2))) := by
    generalize min c 59 = e at hec
    intro j
    induction j with
    | zero => intro p A x4 h1 h2; omega
    | succ j ih =>
      intro p A x4 h1 h2
      have e2 : nI p + 2 = nI (p + 2) := nI_add p 2
      have e3 : nI p + 3 = nI (p + 3) := nI_add p 3
      rw [s_2_26]
      simp only [s_2_0, s_2_1, s_2_4, s_2_5, s_2_8, s_2_9, s_2_12, s_2_14, s_2_17, s_2_18, s_2_19, s_2_22, s_2_23, s_2_24, s_2_25, s_2_27, s_2_28, s_2_31, s_2_32, s_2_34, s_2_35, s_2_36, s_2_39, s_2_41, s_2_43, s_2_44, s_2_47, s_2_49, s_2_50, s_2_51, s_2_52, s_2_55, s_2_56, s_2_57, s_2_58, s_2_59, s_2_62, s_2_65, s_2_66, s_2_67, s_2_68, s_2_69, s_2_70, s_2_71, s_2_72, s_2_75, s_2_76, s_2_77, s_2_78, s_2_79, s_2_82, s_2_85, s_2_86, s_2_87, s_2_88, s_2_89, s_2_92, s_2_93, s_2_94, s_2_95, s_2_96, s_2_99, s_2_101, s_2_104, s_2_105, s_2_106, s_2_107, s_2_108, s_2_109, s_2_110, s_2_111, s_2_112, s_2_115, s_2_116, s_2_119, s_2_120, s_2_123, s_2_124, s_2_127, s_2_128, s_2_129, s_2_132, s_2_135, s_2_136, x_get_i, List.getElem?_cons_succ, List.getElem?_cons_zero, x_cv_j, cs_n, cs_i, cs_r, cs_l, Nat.reduceAdd, Nat.reduceLeDiff, true_and, Option.toList_some, Option.toList_none, List.cons_append, List.nil_append, if_true, if_false, nb0, nb1, x_setJ, x_setZ0, x_setZ1, x_setA, x_setO, List.length_cons, List.length_nil, Nat.reduceLT, List.set_cons_succ, List.set_cons_zero, wrl_0, wrl_1, wrl_2, wrl_3, wrl_4, wrl_5, wrl_p0, wrl_p1, wrl_p2, wrl_p3, wrl_p4, show ¬ nI e < nI p from nI_nlt h2 (by omega), ht0, tx_misfit ht hc (hSq A) (show 7 < 8 by decide), mfit_ll hc hec (show p + 1 < 2 ^ 31 by omega), nI_1, e2, e3]
      unfold prd
      by_cases c1 : e ≤ p
      · simp only [c1, if_true, oI_ne (show p < 2 ^ 31 by omega), if_false]
      by_cases c2 : txs 108 (F p) = 0
      · simp only [c1, c2, if_true, oI_ne (show p < 2 ^ 31 by omega), if_false]
      by_cases c3 : e ≤ p + 1
      · simp only [c1, c2, c3, if_true, oI_ne (show p + 1 < 2 ^ 31 by omega), if_false]
      by_cases c4 : txs 108 (F (p + 1)) = 0
      · simp only [c1, c2, c3, c4, if_true, oI_ne (show p + 1 < 2 ^ 31 by omega), if_false]
      obtain ⟨x, hx8, ex⟩ := txs_l0 c2
      obtain ⟨y, hy8, ey⟩ := txs_l0 c4
      simp only [c1, c2, c3, c4, if_true, if_false, ht0, s_2_0, s_2_1, s_2_4, s_2_5, s_2_8, s_2_9, s_2_12, s_2_14, s_2_17, s_2_18, s_2_19, s_2_22, s_2_23, s_2_24, s_2_25, s_2_27, s_2_28, s_2_31, s_2_32, s_2_34, s_2_35, s_2_36, s_2_39, s_2_41, s_2_43, s_2_44, s_2_47, s_2_49, s_2_50, s_2_51, s_2_52, s_2_55, s_2_56, s_2_57, s_2_58, s_2_59, s_2_62, s_2_65, s_2_66, s_2_67, s_2_68, s_2_69, s_2_70, s_2_71, s_2_72, s_2_75, s_2_76, s_2_77, s_2_78, s_2_79, s_2_82, s_2_85, s_2_86, s_2_87, s_2_88, s_2_89, s_2_92, s_2_93, s_2_94, s_2_95, s_2_96, s_2_99, s_2_101, s_2_104, s_2_105, s_2_106, s_2_107, s_2_108, s_2_109, s_2_110, s_2_111, s_2_112, s_2_115, s_2_116, s_2_119, s_2_120, s_2_123, s_2_124, s_2_127, s_2_128, s_2_129, s_2_132, s_2_135, s_2_136, x_get_i, List.getElem?_cons_succ, List.getElem?_cons_zero, x_cv_j, cs_n, cs_i, cs_r, cs_l, Nat.reduceAdd, Nat.reduceLeDiff, true_and, Option.toList_some, Option.toList_none, List.cons_append, List.nil_append, if_true, if_false, nb0, nb1, x_setJ, x_setZ0, x_setZ1, x_setA, x_setO, List.length_cons, List.length_nil, Nat.reduceLT, List.set_cons_succ, List.set_cons_zero, wrl_0, wrl_1, wrl_2, wrl_3, wrl_4, wrl_5, wrl_p0, wrl_p1, wrl_p2, wrl_p3, wrl_p4, nI_1, e2, e3, tx_at' ht hc, txa_n (show p < c by omega) hc, txa_n (show p + 1 < c by omega) hc]
      by_cases c5 : F p = F (p + 1)
      · simp only [c5, if_true]
      simp only [c5, if_false, ht0, s_2_0, s_2_1, s_2_4, s_2_5, s_2_8, s_2_9, s_2_12, s_2_14, s_2_17, s_2_18, s_2_19, s_2_22, s_2_23, s_2_24, s_2_25, s_2_27, s_2_28, s_2_31, s_2_32, s_2_34, s_2_35, s_2_36, s_2_39, s_2_41, s_2_43, s_2_44, s_2_47, s_2_49, s_2_50, s_2_51, s_2_52, s_2_55, s_2_56, s_2_57, s_2_58, s_2_59, s_2_62, s_2_65, s_2_66, s_2_67, s_2_68, s_2_69, s_2_70, s_2_71, s_2_72, s_2_75, s_2_76, s_2_77, s_2_78, s_2_79, s_2_82, s_2_85, s_2_86, s_2_87, s_2_88, s_2_89, s_2_92, s_2_93, s_2_94, s_2_95, s_2_96, s_2_99, s_2_101, s_2_104, s_2_105, s_2_106, s_2_107, s_2_108, s_2_109, s_2_110, s_2_111, s_2_112, s_2_115, s_2_116, s_2_119, s_2_120, s_2_123, s_2_124, s_2_127, s_2_128, s_2_129, s_2_132, s_2_135, s_2_136, x_get_i, List.getElem?_cons_succ, List.getElem?_cons_zero, x_cv_j, cs_n, cs_i, cs_r, cs_l, Nat.reduceAdd, Nat.reduceLeDiff, true_and, Option.toList_some, Option.toList_none, List.cons_append, List.nil_append, if_true, if_false, nb0, nb1, x_setJ, x_setZ0, x_setZ1, x_setA, x_setO, List.length_cons, List.length_nil, Nat.reduceLT, List.set_cons_succ, List.set_cons_zero, wrl_0, wrl_1, wrl_2, wrl_3, wrl_4, wrl_5, wrl_p0, wrl_p1, wrl_p2, wrl_p3, wrl_p4, nI_1, e2, e3, tx_letterAt' ht hc, txa_n (show p < c by omega) hc, txa_n (show p + 1 < c by omega) hc, wrl_0]
      rw [ex, ey, nI_97, nI_97, nI_clamp (show x < 2 ^ 31 by omega), nI_clamp (show y < 2 ^ 31 by omega), bo_apart hx8 hy8]
      simp only [s_2_0, s_2_1, s_2_4, s_2_5, s_2_8, s_2_9, s_2_12, s_2_14, s_2_17, s_2_18, s_2_19, s_2_22, s_2_23, s_2_24, s_2_25, s_2_27, s_2_28, s_2_31, s_2_32, s_2_34, s_2_35, s_2_36, s_2_39, s_2_41, s_2_43, s_2_44, s_2_47, s_2_49, s_2_50, s_2_51, s_2_52, s_2_55, s_2_56, s_2_57, s_2_58, s_2_59, s_2_62, s_2_65, s_2_66, s_2_67, s_2_68, s_2_69, s_2_70, s_2_71, s_2_72, s_2_75, s_2_76, s_2_77, s_2_78, s_2_79, s_2_82, s_2_85, s_2_86, s_2_87, s_2_88, s_2_89, s_2_92, s_2_93, s_2_94, s_2_95, s_2_96, s_2_99, s_2_101, s_2_104, s_2_105, s_2_106, s_2_107, s_2_108, s_2_109, s_2_110, s_2_111, s_2_112, s_2_115, s_2_116, s_2_119, s_2_120, s_2_123, s_2_124, s_2_127, s_2_128, s_2_129, s_2_132, s_2_135, s_2_136, x_get_i, List.getElem?_cons_succ, List.getElem?_cons_zero, x_cv_j, cs_n, cs_i, cs_r, cs_l, Nat.reduceAdd, Nat.reduceLeDiff, true_and, Option.toList_some, Option.toList_none, List.cons_append, List.nil_append, if_true, if_false, nb0, nb1, x_setJ, x_setZ0, x_setZ1, x_setA, x_setO, List.length_cons, List.length_nil, Nat.reduceLT, List.set_cons_succ, List.set_cons_zero, wrl_0, wrl_1, wrl_2, wrl_3, wrl_4, wrl_5, wrl_p0, wrl_p1, wrl_p2, wrl_p3, wrl_p4, ht0, tx_at' ht hc, tx_size' ht, nI_1, e2, e3]
      by_cases c6 : e ≤ p + 2
      · simp only [c6, show nI e ≤ nI (p + 2) from nI_le c6 (by omega), show ¬ nI (p + 2) < nI e from nI_nlt c6 (by omega), if_true, if_false]
        by_cases c7 : e < c
        · simp only [c7, show ¬ nI c ≤ nI e from nI_ge c7 (by omega), if_true, if_false]
        · simp only [c7, show nI c ≤ nI e from nI_le (by omega) (by omega), if_true, if_false]
      · simp only [c6, show ¬ nI e ≤ nI (p + 2) from nI_ge (by omega) (by omega), show nI (p + 2) < nI e from nI_lt (by omega) (by omega), if_true, if_false, txa_n (show p + 2 < c by omega) hc]
        by_cases c8 : F (p + 2) = 59
        · simp only [c8, if_true]
          exact ih (p + 3) _ _ (by omega) (by omega)
        · simp only [c8, if_false]
  rw [e_2]
  simp only [s_2_0, s_2_1, s_2_4, s_2_5, s_2_8, s_2_9, s_2_12, s_2_14, s_2_17, s_2_18, s_2_19, s_2_22, s_2_23, s_2_24, s_2_25, s_2_27, s_2_28, s_2_31, s_2_32, s_2_34, s_2_35, s_2_36, s_2_39, s_2_41, s_2_43, s_2_44, s_2_47, s_2_49, s_2_50, s_2_51, s_2_52, s_2_55, s_2_56, s_2_57, s_2_58, s_2_59, s_2_62, s_2_65, s_2_66, s_2_67, s_2_68, s_2_69, s_2_70, s_2_71, s_2_72, s_2_75, s_2_76, s_2_77, s_2_78, s_2_79, s_2_82, s_2_85, s_2_86, s_2_87, s_2_88, s_2_89, s_2_92, s_2_93, s_2_94, s_2_95, s_2_96, s_2_99, s_2_101, s_2_104, s_2_105, s_2_106, s_2_107, s_2_108, s_2_109, s_2_110, s_2_111, s_2_112, s_2_115, s_2_116, s_2_119, s_2_120, s_2_123, s_2_124, s_2_127, s_2_128, s_2_129, s_2_132, s_2_135, s_2_136, x_get_i, List.getElem?_cons_succ, List.getElem?_cons_zero, x_cv_j, cs_n, cs_i, cs_r, cs_l, Nat.reduceAdd, Nat.reduceLeDiff, true_and, Option.toList_some, Option.toList_none, List.cons_append, List.nil_append, if_true, if_false, nb0, nb1, x_setJ, x_setZ0, x_setZ1, x_setA, x_setO, List.length_cons, List.length_nil, Nat.reduceLT, List.set_cons_succ, List.set_cons_zero, wrl_0, wrl_1, wrl_2, wrl_3, wrl_4, wrl_5, wrl_p0, wrl_p1, wrl_p2, wrl_p3, wrl_p4, wrl_0]
  rw [m_fill n8 wrl_2]
  simp only [s_2_0, s_2_1, s_2_4, s_2_5, s_2_8, s_2_9, s_2_12, s_2_14, s_2_17, s_2_18, s_2_19, s_2_22, s_2_23, s_2_24, s_2_25, s_2_27, s_2_28, s_2_31, s_2_32, s_2_34, s_2_35, s_2_36, s_2_39, s_2_41, s_2_43, s_2_44, s_2_47, s_2_49, s_2_50, s_2_51, s_2_52, s_2_55, s_2_56, s_2_57, s_2_58, s_2_59, s_2_62, s_2_65, s_2_66, s_2_67, s_2_68, s_2_69, s_2_70, s_2_71, s_2_72, s_2_75, s_2_76, s_2_77, s_2_78, s_2_79, s_2_82, s_2_85, s_2_86, s_2_87, s_2_88, s_2_89, s_2_92, s_2_93, s_2_94, s_2_95, s_2_96, s_2_99, s_2_101, s_2_104, s_2_105, s_2_106, s_2_107, s_2_108, s_2_109, s_2_110, s_2_111, s_2_112, s_2_115, s_2_116, s_2_119, s_2_120, s_2_123, s_2_124, s_2_127, s_2_128, s_2_129, s_2_132, s_2_135, s_2_136, x_get_i, List.getElem?_cons_succ, List.getElem?_cons_zero, x_cv_j, cs_n, cs_i, cs_r, cs_l, Nat.reduceAdd, Nat.reduceLeDiff, true_and, Option.toList_some, Option.toList_none, List.cons_append, List.nil_append, if_true, if_false, nb0, nb1, x_setJ, x_setZ0, x_setZ1, x_setA, x_setO, List.length_cons, List.length_nil, Nat.reduceLT, List.set_cons_succ, List.set_cons_zero, wrl_0, wrl_1, wrl_2, wrl_3, wrl_4, wrl_5, wrl_p0, wrl_p1, wrl_p2, wrl_p3, wrl_p4, wrl_0, wrl_p2, ht0, tx_size' ht, em]
  unfold pread
  by_cases c0 : c = 0
  · subst c0
    simp only [show nI (min 0 59) = 0 by decide, if_true]
  · simp only [show ¬ nI (min c 59) = 0 from nI_ne0 (by omega) (by omega), if_false, c0]
    exact loop 20 0 _ _ (by omega) (by omega)
end
