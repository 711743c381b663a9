/-! Rule.read; what steps are worth -/
def rfirst : List Int32 := [1004, 1003, 1054, 1000, 1052, 2, 1054]
/-- a rule is read: the place of the fault, or its steps -/
def rrd (F : Nat → Int32) (c : Nat) : Nat ⊕ List Int32 := if c = 0 then .inr rfirst else match J1 F (min c 40) (TH F (min c 40) 4) 0 with
  | .inl q => .inl q
  | .inr (q, cd) => if q < min c 40 then .inl q else if min c 40 < c then .inl (min c 40) else .inr cd
section
variable {sa : g_SA} {sc : Nat × Nat × (Nat → Int32)} {xt : Nat → Nat → List Value → tm_H → Option (Option Value × tm_H)} {h : tm_H}
variable {r t c n D dp : Nat} {E K F : Nat → Int32}
theorem ru_J1 {th : Nat → PR} (hx : tx_in h t c F) (hc : c ≤ 80) (hd : t + 2 ≤ r ∨ r + 4 ≤ t) (hnc : n ≤ c) (hn40 : n ≤ 40) (hth : CTh sa sc xt h r t n E K D dp th) (gth : GP n th) : CJn sa sc xt h r t n E K (D + 4) 57 dp (J1 F n th) := by
  have j3 : CJn sa sc xt h r t n E K (D + 1) 305 dp (J3 F n th) := CJn_c (fun a ha => J3_k) (ru_prod hx hc hd hnc hn40 hth gth)
  have j2 : CJn sa sc xt h r t n E K (D + 2) 58 dp (J2 F n th) := CJn_c (fun a ha => J2_k hn40 gth ha) (ru_sum hx hc hd hnc hn40 j3 (GP_J3 gth))
  have j1 : CJn sa sc xt h r t n E K (D + 3) 57 dp (J1 F n th) := CJn_c (fun a ha => J1_k hn40 gth ha) (ru_expr hx hc hd hnc hn40 j2 (GP_J2 gth))
  exact CJn_w 1 j1
theorem ru_TH (hx : tx_in h t c F) (hTB : TB F) (hc : c ≤ 80) (hSS : SH sa h) (hSo : SHo sa r) (hd : t + 2 ≤ r ∨ r + 4 ≤ t) (hnc : n ≤ c) (hn40 : n ≤ 40) : ∀ e, e ≤ 4 → CTh sa sc xt h r t n E K (10 * e + 6) (4 - e) (TH F n e)
  | 0, _ => by
    have := ru_thing (D := 0) (dp := 4) (inn := none) (sc := sc) (xt := xt) (E := E) (K := K) hx hTB hc hSS hSo hd hnc hn40 (by decide) rfl
    exact this
  | e + 1, he => by
    have ih := ru_TH hx hTB hc hSS hSo hd hnc hn40 e (by omega)
    have j := ru_J1 hx hc hd hnc hn40 ih (GP_TH e)
    have := ru_thing (D := 10 * e + 6 + 4) (dp := 4 - (e + 1)) (inn := some (J1 F n (TH F n e))) (sc := sc) (xt := xt) (E := E) (K := K) hx hTB hc hSS hSo hd hnc hn40 (by omega) ⟨by omega, by rw [show 4 - (e + 1) + 1 = 4 - e by omega]; exact j, GP_J1 (GP_TH e)⟩
    exact this
variable {d : Nat} {Q : Option Value → tm_H → Prop} {P : Nat → Int32} {z0 a0 e0 : Int32} {hb0 : Bool}
theorem ru_first {a e : Int32} : tm_D (g_G sa sc xt) (d + 2) 54 [.ref r] (wrl h r (ruc r E P K (nI 0) 0 a e)) Q ↔ Q none (wrl h r (ruc r E (wrc P 0 rfirst) K (nI 7) 0 a e)) := by
  have t4 : ∀ {P : Nat → Int32} {z : Nat} {Q : Option Value → tm_H → Prop}, z < 40 → (tm_D (g_G sa sc xt) (d + 1) 56 [.ref r, .int 4] (wrl h r (ruc r E P K (nI z) 0 a e)) Q ↔ Q none (wrl h r (ruc r E (upd P z 1004) K (nI (z + 1)) 0 a e))) := by
    intro P z Q hz
    have := ru_putThing (sa := sa) (sc := sc) (xt := xt) (d := d) (h := h) (Q := Q) (r := r) (E := E) (P := P) (K := K) (a := a) (e := e) (hb := false) (i := 4) hz (by decide)
    rw [show (1000 : Int32) + nI 4 = 1004 by decide, show (false || hsN [(1004 : Int32)]) = false by decide, show bI false = 0 by decide, show nI 4 = 4 by decide] at this
    exact this
  have t3 : ∀ {P : Nat → Int32} {z : Nat} {Q : Option Value → tm_H → Prop}, z < 40 → (tm_D (g_G sa sc xt) (d + 1) 56 [.ref r, .int 3] (wrl h r (ruc r E P K (nI z) 0 a e)) Q ↔ Q none (wrl h r (ruc r E (upd P z 1003) K (nI (z + 1)) 0 a e))) := by
    intro P z Q hz
    have := ru_putThing (sa := sa) (sc := sc) (xt := xt) (d := d) (h := h) (Q := Q) (r := r) (E := E) (P := P) (K := K) (a := a) (e := e) (hb := false) (i := 3) hz (by decide)
    rw [show (1000 : Int32) + nI 3 = 1003 by decide, show (false || hsN [(1003 : Int32)]) = false by decide, show bI false = 0 by decide, show nI 3 = 3 by decide] at this
    exact this
  have t0 : ∀ {P : Nat → Int32} {z : Nat} {Q : Option Value → tm_H → Prop}, z < 40 → (tm_D (g_G sa sc xt) (d + 1) 56 [.ref r, .int 0] (wrl h r (ruc r E P K (nI z) 0 a e)) Q ↔ Q none (wrl h r (ruc r E (upd P z 1000) K (nI (z + 1)) 0 a e))) := by
    intro P z Q hz
    have := ru_putThing (sa := sa) (sc := sc) (xt := xt) (d := d) (h := h) (Q := Q) (r := r) (E := E) (P := P) (K := K) (a := a) (e := e) (hb := false) (i := 0) hz (by decide)
    rw [show (1000 : Int32) + nI 0 = 1000 by decide, show (false || hsN [(1000 : Int32)]) = false by decide, show bI false = 0 by decide, show nI 0 = 0 by decide] at this
    exact this
  rw [e_54]
  simp only [s_54_0, s_54_1, s_54_2, s_54_5, s_54_6, s_54_7, s_54_10, s_54_11, s_54_14, s_54_17, s_54_18, s_54_19, s_54_22, s_54_23, s_54_26, s_54_29, s_54_30, s_54_31, s_54_34, s_54_35, s_54_38, s_54_41, x_get_i, List.getElem?_cons_succ, List.getElem?_cons_zero, x_cv_j, cs_n, cs_i, cs_r, cs_l, Nat.reduceAdd, Nat.reduceLeDiff, true_and, Option.toList_some, Option.toList_none, List.cons_append, List.nil_append, if_true, if_false, nb0, nb1, x_setJ, x_setZ0, x_setZ1, x_setA, x_setO, List.length_cons, List.length_nil, Nat.reduceLT, List.set_cons_succ, List.set_cons_zero, wrl_0, wrl_1, wrl_2, wrl_3, wrl_4, wrl_5, wrl_p0, wrl_p1, wrl_p2, wrl_p3, wrl_p4]
  rw [t4 (by decide)]
  simp only [s_54_0, s_54_1, s_54_2, s_54_5, s_54_6, s_54_7, s_54_10, s_54_11, s_54_14, s_54_17, s_54_18, s_54_19, s_54_22, s_54_23, s_54_26, s_54_29, s_54_30, s_54_31, s_54_34, s_54_35, s_54_38, s_54_41, x_get_i, List.getElem?_cons_succ, List.getElem?_cons_zero, x_cv_j, cs_n, cs_i, cs_r, cs_l, Nat.reduceAdd, Nat.reduceLeDiff, true_and, Option.toList_some, Option.toList_none, List.cons_append, List.nil_append, if_true, if_false, nb0, nb1, x_setJ, x_setZ0, x_setZ1, x_setA, x_setO, List.length_cons, List.length_nil, Nat.reduceLT, List.set_cons_succ, List.set_cons_zero, wrl_0, wrl_1, wrl_2, wrl_3, wrl_4, wrl_5, wrl_p0, wrl_p1, wrl_p2, wrl_p3, wrl_p4]
  rw [t3 (by decide)]
  simp only [s_54_0, s_54_1, s_54_2, s_54_5, s_54_6, s_54_7, s_54_10, s_54_11, s_54_14, s_54_17, s_54_18, s_54_19, s_54_22, s_54_23, s_54_26, s_54_29, s_54_30, s_54_31, s_54_34, s_54_35, s_54_38, s_54_41, x_get_i, List.getElem?_cons_succ, List.getElem?_cons_zero, x_cv_j, cs_n, cs_i, cs_r, cs_l, Nat.reduceAdd, Nat.reduceLeDiff, true_and, Option.toList_some, Option.toList_none, List.cons_append, List.nil_append, if_true, if_false, nb0, nb1, x_setJ, x_setZ0, x_setZ1, x_setA, x_setO, List.length_cons, List.length_nil, Nat.reduceLT, List.set_cons_succ, List.set_cons_zero, wrl_0, wrl_1, wrl_2, wrl_3, wrl_4, wrl_5, wrl_p0, wrl_p1, wrl_p2, wrl_p3, wrl_p4]
  rw [ru_put (by decide)]
  simp only [s_54_0, s_54_1, s_54_2, s_54_5, s_54_6, s_54_7, s_54_10, s_54_11, s_54_14, s_54_17, s_54_18, s_54_19, s_54_22, s_54_23, s_54_26, s_54_29, s_54_30, s_54_31, s_54_34, s_54_35, s_54_38, s_54_41, x_get_i, List.getElem?_cons_succ, List.getElem?_cons_zero, x_cv_j, cs_n, cs_i, cs_r, cs_l, Nat.reduceAdd, Nat.reduceLeDiff, true_and, Option.toList_some, Option.toList_none, List.cons_append, List.nil_append, if_true, if_false, nb0, nb1, x_setJ, x_setZ0, x_setZ1, x_setA, x_setO, List.length_cons, List.length_nil, Nat.reduceLT, List.set_cons_succ, List.set_cons_zero, wrl_0, wrl_1, wrl_2, wrl_3, wrl_4, wrl_5, wrl_p0, wrl_p1, wrl_p2, wrl_p3, wrl_p4]
  rw [t0 (by decide)]
  simp only [s_54_0, s_54_1, s_54_2, s_54_5, s_54_6, s_54_7, s_54_10, s_54_11, s_54_14, s_54_17, s_54_18, s_54_19, s_54_22, s_54_23, s_54_26, s_54_29, s_54_30, s_54_31, s_54_34, s_54_35, s_54_38, s_54_41, x_get_i, List.getElem?_cons_succ, List.getElem?_cons_zero, x_cv_j, cs_n, cs_i, cs_r, cs_l, Nat.reduceAdd, Nat.reduceLeDiff, true_and, Option.toList_some, Option.toList_none, List.cons_append, List.nil_append, if_true, if_false, nb0, nb1, x_setJ, x_setZ0, x_setZ1, x_setA, x_setO, List.length_cons, List.length_nil, Nat.reduceLT, List.set_cons_succ, List.set_cons_zero, wrl_0, wrl_1, wrl_2, wrl_3, wrl_4, wrl_5, wrl_p0, wrl_p1, wrl_p2, wrl_p3, wrl_p4]
  rw [ru_put (by decide)]
  simp only [s_54_0, s_54_1, s_54_2, s_54_5, s_54_6, s_54_7, s_54_10, s_54_11, s_54_14, s_54_17, s_54_18, s_54_19, s_54_22, s_54_23, s_54_26, s_54_29, s_54_30, s_54_31, s_54_34, s_54_35, s_54_38, s_54_41, x_get_i, List.getElem?_cons_succ, List.getElem?_cons_zero, x_cv_j, cs_n, cs_i, cs_r, cs_l, Nat.reduceAdd, Nat.reduceLeDiff, true_and, Option.toList_some, Option.toList_none, List.cons_append, List.nil_append, if_true, if_false, nb0, nb1, x_setJ, x_setZ0, x_setZ1, x_setA, x_setO, List.length_cons, List.length_nil, Nat.reduceLT, List.set_cons_succ, List.set_cons_zero, wrl_0, wrl_1, wrl_2, wrl_3, wrl_4, wrl_5, wrl_p0, wrl_p1, wrl_p2, wrl_p3, wrl_p4]
  rw [ru_put (by decide)]
  simp only [s_54_0, s_54_1, s_54_2, s_54_5, s_54_6, s_54_7, s_54_10, s_54_11, s_54_14, s_54_17, s_54_18, s_54_19, s_54_22, s_54_23, s_54_26, s_54_29, s_54_30, s_54_31, s_54_34, s_54_35, s_54_38, s_54_41, x_get_i, List.getElem?_cons_succ, List.getElem?_cons_zero, x_cv_j, cs_n, cs_i, cs_r, cs_l, Nat.reduceAdd, Nat.reduceLeDiff, true_and, Option.toList_some, Option.toList_none, List.cons_append, List.nil_append, if_true, if_false, nb0, nb1, x_setJ, x_setZ0, x_setZ1, x_setA, x_setO, List.length_cons, List.length_nil, Nat.reduceLT, List.set_cons_succ, List.set_cons_zero, wrl_0, wrl_1, wrl_2, wrl_3, wrl_4, wrl_5, wrl_p0, wrl_p1, wrl_p2, wrl_p3, wrl_p4]
  rw [ru_put (by decide)]
  simp only [s_54_0, s_54_1, s_54_2, s_54_5, s_54_6, s_54_7, s_54_10, s_54_11, s_54_14, s_54_17, s_54_18, s_54_19, s_54_22, s_54_23, s_54_26, s_54_29, s_54_30, s_54_31, s_54_34, s_54_35, s_54_38, s_54_41, x_get_i, List.getElem?_cons_succ, List.getElem?_cons_zero, x_cv_j, cs_n, cs_i, cs_r, cs_l, Nat.reduceAdd, Nat.reduceLeDiff, true_and, Option.toList_some, Option.toList_none, List.cons_append, List.nil_append, if_true, if_false, nb0, nb1, x_setJ, x_setZ0, x_setZ1, x_setA, x_setO, List.length_cons, List.length_nil, Nat.reduceLT, List.set_cons_succ, List.set_cons_zero, wrl_0, wrl_1, wrl_2, wrl_3, wrl_4, wrl_5, wrl_p0, wrl_p1, wrl_p2, wrl_p3, wrl_p4]
  exact Iff.rfl
theorem ru_read (hx : tx_in h t c F) (hTB : TB F) (hc : c ≤ 80) (hSS : SH sa h) (hSo : SHo sa r) (hd : t + 2 ≤ r ∨ r + 4 ≤ t) (hok : ∀ cd a e, rrd F c = .inr cd → cd.length ≤ 40 → Q (some (.int (-1))) (wrl h r (ruc r E (wrc P 0 cd) K (nI cd.length) (bI (hsN cd)) a e))) (hbad : ∀ q P' z' hb a e, rrd F c = .inl q → q ≤ 80 → Q (some (.int (nI q))) (wrl h r (ruc r E P' K z' (bI hb) a e))) : tm_D (g_G sa sc xt) (d + 51) 53 [.ref r, .ref t] (wrl h r (ruc r E P K z0 (bI hb0) a0 e0)) Q := by
  have ht : ∀ {E P K : Nat → Int32} {z hn a e : Int32}, tx_in (wrl h r (ruc r E P K z hn a e)) t c F := fun {E P K z hn a e} => tx_in_same (fun x h1 h2 => wrl_o (by show _ ∨ r + 4 ≤ x; omega)) hx
  have ht0 : ∀ {E P K : Nat → Int32} {z hn a e : Int32}, (wrl h r (ruc r E P K z hn a e)).2.2 t = .inr (8, [.ref (t + 1), .int (nI c)]) := fun {E P K z hn a e} => (ht (E := E) (P := P) (K := K) (z := z) (hn := hn) (a := a) (e := e)).1
  have em : (if (40 : Int32) < nI c then (40 : Int32) else nI c) = nI (min c 40) := by
    by_cases h1 : 40 < c
    · rw [if_pos (show (40 : Int32) < nI c from nI_lt (a := 40) h1 (by omega)), show min c 40 = 40 by omega]; rfl
    · rw [if_neg (show ¬ (40 : Int32) < nI c from nI_nlt (a := 40) (by omega) (by decide)), show min c 40 = c by omega]
  rw [e_53]
  simp only [s_53_0, s_53_1, s_53_2, s_53_5, s_53_6, s_53_7, s_53_10, s_53_11, s_53_12, s_53_15, s_53_16, s_53_17, s_53_20, s_53_22, s_53_25, s_53_28, s_53_29, s_53_32, s_53_35, s_53_36, s_53_39, s_53_40, s_53_41, s_53_42, s_53_43, s_53_44, s_53_47, s_53_50, s_53_51, s_53_54, s_53_55, s_53_58, s_53_61, s_53_62, s_53_65, s_53_66, s_53_67, s_53_70, s_53_71, s_53_74, s_53_77, s_53_78, s_53_81, s_53_84, s_53_85, x_get_i, List.getElem?_cons_succ, List.getElem?_cons_zero, x_cv_j, cs_n, cs_i, cs_r, cs_l, Nat.reduceAdd, Nat.reduceLeDiff, true_and, Option.toList_some, Option.toList_none, List.cons_append, List.nil_append, if_true, if_false, nb0, nb1, x_setJ, x_setZ0, x_setZ1, x_setA, x_setO, List.length_cons, List.length_nil, Nat.reduceLT, List.set_cons_succ, List.set_cons_zero, wrl_0, wrl_1, wrl_2, wrl_3, wrl_4, wrl_5, wrl_p0, wrl_p1, wrl_p2, wrl_p3, wrl_p4, ht0, tx_size' ht, em]
  unfold rrd at hok hbad
  by_cases c0 : c = 0
  · rw [if_pos c0] at hok
    subst c0
    simp only [show nI (min 0 40) = 0 by decide, if_true]
    refine ru_first.mpr ?_
    simp only [s_53_0, s_53_1, s_53_2, s_53_5, s_53_6, s_53_7, s_53_10, s_53_11, s_53_12, s_53_15, s_53_16, s_53_17, s_53_20, s_53_22, s_53_25, s_53_28, s_53_29, s_53_32, s_53_35, s_53_36, s_53_39, s_53_40, s_53_41, s_53_42, s_53_43, s_53_44, s_53_47, s_53_50, s_53_51, s_53_54, s_53_55, s_53_58, s_53_61, s_53_62, s_53_65, s_53_66, s_53_67, s_53_70, s_53_71, s_53_74, s_53_77, s_53_78, s_53_81, s_53_84, s_53_85, x_get_i, List.getElem?_cons_succ, List.getElem?_cons_zero, x_cv_j, cs_n, cs_i, cs_r, cs_l, Nat.reduceAdd, Nat.reduceLeDiff, true_and, Option.toList_some, Option.toList_none, List.cons_append, List.nil_append, if_true, if_false, nb0, nb1, x_setJ, x_setZ0, x_setZ1, x_setA, x_setO, List.length_cons, List.length_nil, Nat.reduceLT, List.set_cons_succ, List.set_cons_zero, wrl_0, wrl_1, wrl_2, wrl_3, wrl_4, wrl_5, wrl_p0, wrl_p1, wrl_p2, wrl_p3, wrl_p4]
    exact hok rfirst _ _ rfl (by decide)
  · rw [if_neg c0] at hok hbad
    simp only [show ¬ nI (min c 40) = 0 from nI_ne0 (by omega) (by omega), if_false, s_53_0, s_53_1, s_53_2, s_53_5, s_53_6, s_53_7, s_53_10, s_53_11, s_53_12, s_53_15, s_53_16, s_53_17, s_53_20, s_53_22, s_53_25, s_53_28, s_53_29, s_53_32, s_53_35, s_53_36, s_53_39, s_53_40, s_53_41, s_53_42, s_53_43, s_53_44, s_53_47, s_53_50, s_53_51, s_53_54, s_53_55, s_53_58, s_53_61, s_53_62, s_53_65, s_53_66, s_53_67, s_53_70, s_53_71, s_53_74, s_53_77, s_53_78, s_53_81, s_53_84, s_53_85, x_get_i, List.getElem?_cons_succ, List.getElem?_cons_zero, x_cv_j, cs_n, cs_i, cs_r, cs_l, Nat.reduceAdd, Nat.reduceLeDiff, true_and, Option.toList_some, Option.toList_none, List.cons_append, List.nil_append, if_true, if_false, nb0, nb1, x_setJ, x_setZ0, x_setZ1, x_setA, x_setO, List.length_cons, List.length_nil, Nat.reduceLT, List.set_cons_succ, List.set_cons_zero, wrl_0, wrl_1, wrl_2, wrl_3, wrl_4, wrl_5, wrl_p0, wrl_p1, wrl_p2, wrl_p3, wrl_p4]
    have hJ := ru_J1 (sc := sc) (xt := xt) (E := E) (K := K) hx hc hd (show min c 40 ≤ c by omega) (by omega) (ru_TH hx hTB hc hSS hSo hd (show min c 40 ≤ c by omega) (by omega) 4 (by decide)) (GP_TH 4)
    have hg := GP_J1 (F := F) (GP_TH (F := F) (n := min c 40) 4) 0 (Nat.zero_le _)
    refine hJ d 0 0 P false _ (Nat.zero_le _) (Nat.le_refl _) (fun q cd e => ?_) (fun q P' z' hb' e => ?_)
    · have hg := hg.2 _ _ e
      rw [e] at hok hbad
      dsimp only at hok hbad
      simp only [s_53_0, s_53_1, s_53_2, s_53_5, s_53_6, s_53_7, s_53_10, s_53_11, s_53_12, s_53_15, s_53_16, s_53_17, s_53_20, s_53_22, s_53_25, s_53_28, s_53_29, s_53_32, s_53_35, s_53_36, s_53_39, s_53_40, s_53_41, s_53_42, s_53_43, s_53_44, s_53_47, s_53_50, s_53_51, s_53_54, s_53_55, s_53_58, s_53_61, s_53_62, s_53_65, s_53_66, s_53_67, s_53_70, s_53_71, s_53_74, s_53_77, s_53_78, s_53_81, s_53_84, s_53_85, x_get_i, List.getElem?_cons_succ, List.getElem?_cons_zero, x_cv_j, cs_n, cs_i, cs_r, cs_l, Nat.reduceAdd, Nat.reduceLeDiff, true_and, Option.toList_some, Option.toList_none, List.cons_append, List.nil_append, if_true, if_false, nb0, nb1, x_setJ, x_setZ0, x_setZ1, x_setA, x_setO, List.length_cons, List.length_nil, Nat.reduceLT, List.set_cons_succ, List.set_cons_zero, wrl_0, wrl_1, wrl_2, wrl_3, wrl_4, wrl_5, wrl_p0, wrl_p1, wrl_p2, wrl_p3, wrl_p4, show ¬ (1 : Int32) = 0 by decide]
      by_cases c1 : q < min c 40
      · rw [if_pos c1] at hbad
        simp only [show ¬ nI (min c 40) ≤ nI q from nI_ge c1 (by omega), if_false]
        exact hbad q _ _ _ _ _ rfl (by omega)
      · rw [if_neg c1] at hok hbad
        simp only [show nI (min c 40) ≤ nI q from nI_le (by omega) (by omega), if_true, ht0, s_53_0, s_53_1, s_53_2, s_53_5, s_53_6, s_53_7, s_53_10, s_53_11, s_53_12, s_53_15, s_53_16, s_53_17, s_53_20, s_53_22, s_53_25, s_53_28, s_53_29, s_53_32, s_53_35, s_53_36, s_53_39, s_53_40, s_53_41, s_53_42, s_53_43, s_53_44, s_53_47, s_53_50, s_53_51, s_53_54, s_53_55, s_53_58, s_53_61, s_53_62, s_53_65, s_53_66, s_53_67, s_53_70, s_53_71, s_53_74, s_53_77, s_53_78, s_53_81, s_53_84, s_53_85, x_get_i, List.getElem?_cons_succ, List.getElem?_cons_zero, x_cv_j, cs_n, cs_i, cs_r, cs_l, Nat.reduceAdd, Nat.reduceLeDiff, true_and, Option.toList_some, Option.toList_none, List.cons_append, List.nil_append, if_true, if_false, nb0, nb1, x_setJ, x_setZ0, x_setZ1, x_setA, x_setO, List.length_cons, List.length_nil, Nat.reduceLT, List.set_cons_succ, List.set_cons_zero, wrl_0, wrl_1, wrl_2, wrl_3, wrl_4, wrl_5, wrl_p0, wrl_p1, wrl_p2, wrl_p3, wrl_p4, tx_size' ht]
        by_cases c2 : min c 40 < c
        · rw [if_pos c2] at hbad
          simp only [show ¬ nI c ≤ nI (min c 40) from nI_ge c2 (by omega), if_false]
          exact hbad _ _ _ _ _ _ rfl (by omega)
        · rw [if_neg c2] at hok
          simp only [show nI c ≤ nI (min c 40) from nI_le (by omega) (by omega), if_true]
          have := hok cd (nI q) (nI (min c 40)) rfl (by omega)
          rw [Nat.zero_add]
          exact this
    · have hg := hg.1 _ e
      rw [e] at hbad
      simp only [s_53_0, s_53_1, s_53_2, s_53_5, s_53_6, s_53_7, s_53_10, s_53_11, s_53_12, s_53_15, s_53_16, s_53_17, s_53_20, s_53_22, s_53_25, s_53_28, s_53_29, s_53_32, s_53_35, s_53_36, s_53_39, s_53_40, s_53_41, s_53_42, s_53_43, s_53_44, s_53_47, s_53_50, s_53_51, s_53_54, s_53_55, s_53_58, s_53_61, s_53_62, s_53_65, s_53_66, s_53_67, s_53_70, s_53_71, s_53_74, s_53_77, s_53_78, s_53_81, s_53_84, s_53_85, x_get_i, List.getElem?_cons_succ, List.getElem?_cons_zero, x_cv_j, cs_n, cs_i, cs_r, cs_l, Nat.reduceAdd, Nat.reduceLeDiff, true_and, Option.toList_some, Option.toList_none, List.cons_append, List.nil_append, if_true, if_false, nb0, nb1, x_setJ, x_setZ0, x_setZ1, x_setA, x_setO, List.length_cons, List.length_nil, Nat.reduceLT, List.set_cons_succ, List.set_cons_zero, wrl_0, wrl_1, wrl_2, wrl_3, wrl_4, wrl_5, wrl_p0, wrl_p1, wrl_p2, wrl_p3, wrl_p4]
      exact hbad q _ _ _ _ _ rfl (by omega)
end
