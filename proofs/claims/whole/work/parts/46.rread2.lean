/-! Rule.readExpression, readSum, readProduct -/
/-- what a reader does: method M -/
def CJn (sa : g_SA) (sc : Nat × Nat × (Nat → Int32)) (xt : Nat → Nat → List Value → tm_H → Option (Option Value × tm_H)) (h : tm_H) (r t n : Nat) (E K : Nat → Int32) (D M dp : Nat) (th : Nat → PR) : Prop := ∀ (d pos z : Nat) (P : Nat → Int32) (hb : Bool) (Q : Option Value → tm_H → Prop), pos ≤ n → z ≤ pos → (∀ q cd, th pos = .inr (q, cd) → Q (some (.int 1)) (wrl h r (ruc r E (wrc P z cd) K (nI (z + cd.length)) (bI (hb || hsN cd)) (nI q) (nI n)))) → (∀ q P' z' hb', th pos = .inl q → Q (some (.int 0)) (wrl h r (ruc r E P' K z' (bI hb') (nI q) (nI n)))) → tm_D (g_G sa sc xt) (d + D) M [.ref r, .ref t, .int (nI dp)] (wrl h r (ruc r E P K (nI z) (bI hb) (nI pos) (nI n))) Q
/-- what readThing does -/
abbrev CTh (sa : g_SA) (sc : Nat × Nat × (Nat → Int32)) (xt : Nat → Nat → List Value → tm_H → Option (Option Value × tm_H)) (h : tm_H) (r t n : Nat) (E K : Nat → Int32) (D dp : Nat) (th : Nat → PR) : Prop := CJn sa sc xt h r t n E K D 59 dp th
section
variable {sa : g_SA} {sc : Nat × Nat × (Nat → Int32)} {xt : Nat → Nat → List Value → tm_H → Option (Option Value × tm_H)} {h : tm_H}
variable {r t c n D M dp : Nat} {E K F : Nat → Int32}
theorem CJn_w {th : Nat → PR} (k : Nat) (hh : CJn sa sc xt h r t n E K D M dp th) : CJn sa sc xt h r t n E K (D + k) M dp th := by
  intro d pos z P hb Q h1 h2 h3 h4
  have := hh (d + k) pos z P hb Q h1 h2 h3 h4
  rwa [show d + k + D = d + (D + k) by omega] at this
theorem CJn_c {th th' : Nat → PR} (e : ∀ a, a ≤ n → th a = th' a) (hh : CJn sa sc xt h r t n E K D M dp th) : CJn sa sc xt h r t n E K D M dp th' := by
  intro d pos z P hb Q h1 h2 h3 h4
  exact hh d pos z P hb Q h1 h2 (fun q cd w => h3 q cd (by rw [← e pos h1]; exact w)) (fun q P' z' hb' w => h4 q P' z' hb' (by rw [← e pos h1]; exact w))
set_option maxHeartbeats 1000000 in
theorem ru_prod {J : Nat → PR} (hx : tx_in h t c F) (hc : c ≤ 80) (hd : t + 2 ≤ r ∨ r + 4 ≤ t) (hnc : n ≤ c) (hn40 : n ≤ 40) (hJ : CJn sa sc xt h r t n E K D 59 dp J) (gJ : GP n J) : CJn sa sc xt h r t n E K (D + 1) 305 dp (psk F n 3 J) := by
  intro d pos z P hb Q h1 h2 hok hbad
  have ht : ∀ {E P K : Nat → Int32} {z hn a e : Int32}, tx_in (wrl h r (ruc r E P K z hn a e)) t c F := fun {E P K z hn a e} => tx_in_same (fun x h1 h2 => wrl_o (by show _ ∨ r + 4 ≤ x; omega)) hx
  have ht0 : ∀ {E P K : Nat → Int32} {z hn a e : Int32}, (wrl h r (ruc r E P K z hn a e)).2.2 t = .inr (8, [.ref (t + 1), .int (nI c)]) := fun {E P K z hn a e} => (ht (E := E) (P := P) (K := K) (z := z) (hn := hn) (a := a) (e := e)).1
  have loop : ∀ (j i p : Nat) (cd : List Int32) (x4 : Value), i + j = 40 → p ≤ n → z + cd.length ≤ p → (∀ q cd', pskl F n 3 J j p cd = .inr (q, cd') → Q (some (.int 1)) (wrl h r (ruc r E (wrc P z cd') K (nI (z + cd'.length)) (bI (hb || hsN cd')) (nI q) (nI n)))) → (∀ q P' z' hb', pskl F n 3 J j p cd = .inl q → Q (some (.int 0)) (wrl h r (ruc r E P' K z' (bI hb') (nI q) (nI n)))) → tm_X (g_G sa sc xt) (d + D + 1) 305 13 [.ref r, .ref t, .int (nI dp), .int (nI i), x4] [] (wrl h r (ruc r E (wrc P z cd) K (nI (z + cd.length)) (bI (hb || hsN cd)) (nI p) (nI n))) Q := by
    intro j
    induction j with
    | zero =>
      intro i p cd x4 hi hp hz hok hbad
      have hi : i = 40 := by omega
      subst hi
      rw [s_305_13]
      simp only [s_305_0, s_305_1, s_305_2, s_305_3, s_305_6, s_305_9, s_305_10, s_305_11, s_305_12, s_305_14, s_305_16, s_305_19, s_305_20, s_305_23, s_305_24, s_305_27, s_305_30, s_305_31, s_305_32, s_305_35, s_305_38, s_305_40, s_305_42, s_305_44, s_305_47, s_305_49, s_305_51, s_305_54, s_305_55, s_305_56, s_305_57, s_305_58, s_305_61, s_305_62, s_305_63, s_305_66, s_305_67, s_305_68, s_305_69, s_305_72, s_305_75, s_305_76, s_305_77, s_305_78, s_305_81, s_305_83, s_305_84, s_305_87, s_305_90, s_305_93, s_305_94, x_get_i, List.getElem?_cons_succ, List.getElem?_cons_zero, x_cv_j, cs_n, cs_i, cs_r, cs_l, Nat.reduceAdd, Nat.reduceLeDiff, true_and, Option.toList_some, Option.toList_none, List.cons_append, List.nil_append, if_true, if_false, nb0, nb1, x_setJ, x_setZ0, x_setZ1, x_setA, x_setO, List.length_cons, List.length_nil, Nat.reduceLT, List.set_cons_succ, List.set_cons_zero, wrl_0, wrl_1, wrl_2, wrl_3, wrl_4, wrl_5, wrl_p0, wrl_p1, wrl_p2, wrl_p3, wrl_p4, show (40 : Int32) ≤ nI 40 by decide]
      exact hok p cd rfl
    | succ j ih =>
      intro i p cd x4 hi hp hz hok hbad
      rw [s_305_13]
      simp only [s_305_0, s_305_1, s_305_2, s_305_3, s_305_6, s_305_9, s_305_10, s_305_11, s_305_12, s_305_14, s_305_16, s_305_19, s_305_20, s_305_23, s_305_24, s_305_27, s_305_30, s_305_31, s_305_32, s_305_35, s_305_38, s_305_40, s_305_42, s_305_44, s_305_47, s_305_49, s_305_51, s_305_54, s_305_55, s_305_56, s_305_57, s_305_58, s_305_61, s_305_62, s_305_63, s_305_66, s_305_67, s_305_68, s_305_69, s_305_72, s_305_75, s_305_76, s_305_77, s_305_78, s_305_81, s_305_83, s_305_84, s_305_87, s_305_90, s_305_93, s_305_94, x_get_i, List.getElem?_cons_succ, List.getElem?_cons_zero, x_cv_j, cs_n, cs_i, cs_r, cs_l, Nat.reduceAdd, Nat.reduceLeDiff, true_and, Option.toList_some, Option.toList_none, List.cons_append, List.nil_append, if_true, if_false, nb0, nb1, x_setJ, x_setZ0, x_setZ1, x_setA, x_setO, List.length_cons, List.length_nil, Nat.reduceLT, List.set_cons_succ, List.set_cons_zero, wrl_0, wrl_1, wrl_2, wrl_3, wrl_4, wrl_5, wrl_p0, wrl_p1, wrl_p2, wrl_p3, wrl_p4, show ¬ (40 : Int32) ≤ nI i from nI_ge (b := 40) (by omega) (by decide)]
      unfold pskl at hok hbad
      by_cases c0 : n ≤ p
      · rw [if_pos c0] at hok
        simp only [show nI n ≤ nI p from nI_le c0 (by omega), if_true]
        exact hok p cd rfl
      rw [if_neg c0] at hok hbad
      simp only [show ¬ nI n ≤ nI p from nI_ge (by omega) (by omega), if_false, ht0, s_305_0, s_305_1, s_305_2, s_305_3, s_305_6, s_305_9, s_305_10, s_305_11, s_305_12, s_305_14, s_305_16, s_305_19, s_305_20, s_305_23, s_305_24, s_305_27, s_305_30, s_305_31, s_305_32, s_305_35, s_305_38, s_305_40, s_305_42, s_305_44, s_305_47, s_305_49, s_305_51, s_305_54, s_305_55, s_305_56, s_305_57, s_305_58, s_305_61, s_305_62, s_305_63, s_305_66, s_305_67, s_305_68, s_305_69, s_305_72, s_305_75, s_305_76, s_305_77, s_305_78, s_305_81, s_305_83, s_305_84, s_305_87, s_305_90, s_305_93, s_305_94, x_get_i, List.getElem?_cons_succ, List.getElem?_cons_zero, x_cv_j, cs_n, cs_i, cs_r, cs_l, Nat.reduceAdd, Nat.reduceLeDiff, true_and, Option.toList_some, Option.toList_none, List.cons_append, List.nil_append, if_true, if_false, nb0, nb1, x_setJ, x_setZ0, x_setZ1, x_setA, x_setO, List.length_cons, List.length_nil, Nat.reduceLT, List.set_cons_succ, List.set_cons_zero, wrl_0, wrl_1, wrl_2, wrl_3, wrl_4, wrl_5, wrl_p0, wrl_p1, wrl_p2, wrl_p3, wrl_p4, tx_at' ht hc, txa_n (show p < c by omega) hc]
      by_cases c1 : bop (F p) = 3
      · rw [if_pos c1] at hok hbad
        have key : tm_X (g_G sa sc xt) (d + D + 1) 305 56 [.ref r, .ref t, .int (nI dp), .int (nI i), .int (F p)] [] (wrl h r (ruc r E (wrc P z cd) K (nI (z + cd.length)) (bI (hb || hsN cd)) (nI p) (nI n))) Q := by
          simp only [s_305_0, s_305_1, s_305_2, s_305_3, s_305_6, s_305_9, s_305_10, s_305_11, s_305_12, s_305_14, s_305_16, s_305_19, s_305_20, s_305_23, s_305_24, s_305_27, s_305_30, s_305_31, s_305_32, s_305_35, s_305_38, s_305_40, s_305_42, s_305_44, s_305_47, s_305_49, s_305_51, s_305_54, s_305_55, s_305_56, s_305_57, s_305_58, s_305_61, s_305_62, s_305_63, s_305_66, s_305_67, s_305_68, s_305_69, s_305_72, s_305_75, s_305_76, s_305_77, s_305_78, s_305_81, s_305_83, s_305_84, s_305_87, s_305_90, s_305_93, s_305_94, x_get_i, List.getElem?_cons_succ, List.getElem?_cons_zero, x_cv_j, cs_n, cs_i, cs_r, cs_l, Nat.reduceAdd, Nat.reduceLeDiff, true_and, Option.toList_some, Option.toList_none, List.cons_append, List.nil_append, if_true, if_false, nb0, nb1, x_setJ, x_setZ0, x_setZ1, x_setA, x_setO, List.length_cons, List.length_nil, Nat.reduceLT, List.set_cons_succ, List.set_cons_zero, wrl_0, wrl_1, wrl_2, wrl_3, wrl_4, wrl_5, wrl_p0, wrl_p1, wrl_p2, wrl_p3, wrl_p4, nI_1]
          refine hJ d (p + 1) (z + cd.length) (wrc P z cd) (hb || hsN cd) _ (by omega) (by omega) (fun q c2' e => ?_) (fun q P' z' hb' e => ?_)
          · have hg := (gJ (p + 1) (by omega)).2 _ _ e
            simp only [s_305_0, s_305_1, s_305_2, s_305_3, s_305_6, s_305_9, s_305_10, s_305_11, s_305_12, s_305_14, s_305_16, s_305_19, s_305_20, s_305_23, s_305_24, s_305_27, s_305_30, s_305_31, s_305_32, s_305_35, s_305_38, s_305_40, s_305_42, s_305_44, s_305_47, s_305_49, s_305_51, s_305_54, s_305_55, s_305_56, s_305_57, s_305_58, s_305_61, s_305_62, s_305_63, s_305_66, s_305_67, s_305_68, s_305_69, s_305_72, s_305_75, s_305_76, s_305_77, s_305_78, s_305_81, s_305_83, s_305_84, s_305_87, s_305_90, s_305_93, s_305_94, x_get_i, List.getElem?_cons_succ, List.getElem?_cons_zero, x_cv_j, cs_n, cs_i, cs_r, cs_l, Nat.reduceAdd, Nat.reduceLeDiff, true_and, Option.toList_some, Option.toList_none, List.cons_append, List.nil_append, if_true, if_false, nb0, nb1, x_setJ, x_setZ0, x_setZ1, x_setA, x_setO, List.length_cons, List.length_nil, Nat.reduceLT, List.set_cons_succ, List.set_cons_zero, wrl_0, wrl_1, wrl_2, wrl_3, wrl_4, wrl_5, wrl_p0, wrl_p1, wrl_p2, wrl_p3, wrl_p4, show ¬ (1 : Int32) = 0 by decide]
            rw [ru_put (by omega)]
            have e1 : upd (wrc (wrc P z cd) (z + cd.length) c2') (z + cd.length + c2'.length) (1007 + F p) = wrc P z (cd ++ c2' ++ [1007 + F p]) := by
              rw [wrc_app, wrc_app, List.length_append, ← Nat.add_assoc]
              rfl
            have e2 : z + cd.length + c2'.length + 1 = z + (cd ++ c2' ++ [1007 + F p]).length := by
              rw [List.length_append, List.length_append]
              simp only [List.length_cons, List.length_nil]
              omega
            have e3 : (hb || hsN cd || hsN c2') = (hb || hsN (cd ++ c2' ++ [1007 + F p])) := by
              rw [hsN_app, hsN_app, hsN_op (by omega), Bool.or_false, Bool.or_assoc]
            rw [e1, e2, e3]
            rw [e] at hok hbad
            dsimp only at hok hbad
            have hz2 : z + (cd ++ c2' ++ [1007 + F p]).length ≤ q := by
              rw [← e2]
              omega
            simp only [s_305_0, s_305_1, s_305_2, s_305_3, s_305_6, s_305_9, s_305_10, s_305_11, s_305_12, s_305_14, s_305_16, s_305_19, s_305_20, s_305_23, s_305_24, s_305_27, s_305_30, s_305_31, s_305_32, s_305_35, s_305_38, s_305_40, s_305_42, s_305_44, s_305_47, s_305_49, s_305_51, s_305_54, s_305_55, s_305_56, s_305_57, s_305_58, s_305_61, s_305_62, s_305_63, s_305_66, s_305_67, s_305_68, s_305_69, s_305_72, s_305_75, s_305_76, s_305_77, s_305_78, s_305_81, s_305_83, s_305_84, s_305_87, s_305_90, s_305_93, s_305_94, x_get_i, List.getElem?_cons_succ, List.getElem?_cons_zero, x_cv_j, cs_n, cs_i, cs_r, cs_l, Nat.reduceAdd, Nat.reduceLeDiff, true_and, Option.toList_some, Option.toList_none, List.cons_append, List.nil_append, if_true, if_false, nb0, nb1, x_setJ, x_setZ0, x_setZ1, x_setA, x_setO, List.length_cons, List.length_nil, Nat.reduceLT, List.set_cons_succ, List.set_cons_zero, wrl_0, wrl_1, wrl_2, wrl_3, wrl_4, wrl_5, wrl_p0, wrl_p1, wrl_p2, wrl_p3, wrl_p4, nI_1]
            exact ih (i + 1) q (cd ++ c2' ++ [1007 + F p]) (.int (F p)) (by omega) hg.2.1 hz2 hok hbad
          · simp only [s_305_0, s_305_1, s_305_2, s_305_3, s_305_6, s_305_9, s_305_10, s_305_11, s_305_12, s_305_14, s_305_16, s_305_19, s_305_20, s_305_23, s_305_24, s_305_27, s_305_30, s_305_31, s_305_32, s_305_35, s_305_38, s_305_40, s_305_42, s_305_44, s_305_47, s_305_49, s_305_51, s_305_54, s_305_55, s_305_56, s_305_57, s_305_58, s_305_61, s_305_62, s_305_63, s_305_66, s_305_67, s_305_68, s_305_69, s_305_72, s_305_75, s_305_76, s_305_77, s_305_78, s_305_81, s_305_83, s_305_84, s_305_87, s_305_90, s_305_93, s_305_94, x_get_i, List.getElem?_cons_succ, List.getElem?_cons_zero, x_cv_j, cs_n, cs_i, cs_r, cs_l, Nat.reduceAdd, Nat.reduceLeDiff, true_and, Option.toList_some, Option.toList_none, List.cons_append, List.nil_append, if_true, if_false, nb0, nb1, x_setJ, x_setZ0, x_setZ1, x_setA, x_setO, List.length_cons, List.length_nil, Nat.reduceLT, List.set_cons_succ, List.set_cons_zero, wrl_0, wrl_1, wrl_2, wrl_3, wrl_4, wrl_5, wrl_p0, wrl_p1, wrl_p2, wrl_p3, wrl_p4]
            rw [e] at hbad
            exact hbad q P' z' hb' rfl
        simp only [s_305_0, s_305_1, s_305_2, s_305_3, s_305_6, s_305_9, s_305_10, s_305_11, s_305_12, s_305_14, s_305_16, s_305_19, s_305_20, s_305_23, s_305_24, s_305_27, s_305_30, s_305_31, s_305_32, s_305_35, s_305_38, s_305_40, s_305_42, s_305_44, s_305_47, s_305_49, s_305_51, s_305_54, s_305_55, s_305_56, s_305_57, s_305_58, s_305_61, s_305_62, s_305_63, s_305_66, s_305_67, s_305_68, s_305_69, s_305_72, s_305_75, s_305_76, s_305_77, s_305_78, s_305_81, s_305_83, s_305_84, s_305_87, s_305_90, s_305_93, s_305_94, x_get_i, List.getElem?_cons_succ, List.getElem?_cons_zero, x_cv_j, cs_n, cs_i, cs_r, cs_l, Nat.reduceAdd, Nat.reduceLeDiff, true_and, Option.toList_some, Option.toList_none, List.cons_append, List.nil_append, if_true, if_false, nb0, nb1, x_setJ, x_setZ0, x_setZ1, x_setA, x_setO, List.length_cons, List.length_nil, Nat.reduceLT, List.set_cons_succ, List.set_cons_zero, wrl_0, wrl_1, wrl_2, wrl_3, wrl_4, wrl_5, wrl_p0, wrl_p1, wrl_p2, wrl_p3, wrl_p4] at key
        by_cases e4 : F p = 42
        · rw [if_pos e4]
          exact key
        · rw [if_neg e4, if_pos ((bop_3e.mp c1).resolve_left e4)]
          exact key
      · rw [if_neg c1] at hok
        have c2 : ¬ F p = 42 := fun e => c1 (bop_3e.mpr (Or.inl e))
        have c3 : ¬ F p = 47 := fun e => c1 (bop_3e.mpr (Or.inr e))
        simp only [c2, c3, if_false]
        exact hok p cd rfl
  show tm_D (g_G sa sc xt) (d + D + 1) 305 _ _ _
  rw [e_305]
  simp only [s_305_0, s_305_1, s_305_2, s_305_3, s_305_6, s_305_9, s_305_10, s_305_11, s_305_12, s_305_14, s_305_16, s_305_19, s_305_20, s_305_23, s_305_24, s_305_27, s_305_30, s_305_31, s_305_32, s_305_35, s_305_38, s_305_40, s_305_42, s_305_44, s_305_47, s_305_49, s_305_51, s_305_54, s_305_55, s_305_56, s_305_57, s_305_58, s_305_61, s_305_62, s_305_63, s_305_66, s_305_67, s_305_68, s_305_69, s_305_72, s_305_75, s_305_76, s_305_77, s_305_78, s_305_81, s_305_83, s_305_84, s_305_87, s_305_90, s_305_93, s_305_94, x_get_i, List.getElem?_cons_succ, List.getElem?_cons_zero, x_cv_j, cs_n, cs_i, cs_r, cs_l, Nat.reduceAdd, Nat.reduceLeDiff, true_and, Option.toList_some, Option.toList_none, List.cons_append, List.nil_append, if_true, if_false, nb0, nb1, x_setJ, x_setZ0, x_setZ1, x_setA, x_setO, List.length_cons, List.length_nil, Nat.reduceLT, List.set_cons_succ, List.set_cons_zero, wrl_0, wrl_1, wrl_2, wrl_3, wrl_4, wrl_5, wrl_p0, wrl_p1, wrl_p2, wrl_p3, wrl_p4]
  refine hJ d pos z P hb _ h1 h2 (fun q cd e => ?_) (fun q P' z' hb' e => ?_)
  · have hg := (gJ pos h1).2 _ _ e
    simp only [s_305_0, s_305_1, s_305_2, s_305_3, s_305_6, s_305_9, s_305_10, s_305_11, s_305_12, s_305_14, s_305_16, s_305_19, s_305_20, s_305_23, s_305_24, s_305_27, s_305_30, s_305_31, s_305_32, s_305_35, s_305_38, s_305_40, s_305_42, s_305_44, s_305_47, s_305_49, s_305_51, s_305_54, s_305_55, s_305_56, s_305_57, s_305_58, s_305_61, s_305_62, s_305_63, s_305_66, s_305_67, s_305_68, s_305_69, s_305_72, s_305_75, s_305_76, s_305_77, s_305_78, s_305_81, s_305_83, s_305_84, s_305_87, s_305_90, s_305_93, s_305_94, x_get_i, List.getElem?_cons_succ, List.getElem?_cons_zero, x_cv_j, cs_n, cs_i, cs_r, cs_l, Nat.reduceAdd, Nat.reduceLeDiff, true_and, Option.toList_some, Option.toList_none, List.cons_append, List.nil_append, if_true, if_false, nb0, nb1, x_setJ, x_setZ0, x_setZ1, x_setA, x_setO, List.length_cons, List.length_nil, Nat.reduceLT, List.set_cons_succ, List.set_cons_zero, wrl_0, wrl_1, wrl_2, wrl_3, wrl_4, wrl_5, wrl_p0, wrl_p1, wrl_p2, wrl_p3, wrl_p4, show ¬ (1 : Int32) = 0 by decide]
    unfold psk at hok hbad
    rw [e] at hok hbad
    exact loop 40 0 q cd _ (by decide) hg.2.1 (by omega) hok hbad
  · simp only [s_305_0, s_305_1, s_305_2, s_305_3, s_305_6, s_305_9, s_305_10, s_305_11, s_305_12, s_305_14, s_305_16, s_305_19, s_305_20, s_305_23, s_305_24, s_305_27, s_305_30, s_305_31, s_305_32, s_305_35, s_305_38, s_305_40, s_305_42, s_305_44, s_305_47, s_305_49, s_305_51, s_305_54, s_305_55, s_305_56, s_305_57, s_305_58, s_305_61, s_305_62, s_305_63, s_305_66, s_305_67, s_305_68, s_305_69, s_305_72, s_305_75, s_305_76, s_305_77, s_305_78, s_305_81, s_305_83, s_305_84, s_305_87, s_305_90, s_305_93, s_305_94, x_get_i, List.getElem?_cons_succ, List.getElem?_cons_zero, x_cv_j, cs_n, cs_i, cs_r, cs_l, Nat.reduceAdd, Nat.reduceLeDiff, true_and, Option.toList_some, Option.toList_none, List.cons_append, List.nil_append, if_true, if_false, nb0, nb1, x_setJ, x_setZ0, x_setZ1, x_setA, x_setO, List.length_cons, List.length_nil, Nat.reduceLT, List.set_cons_succ, List.set_cons_zero, wrl_0, wrl_1, wrl_2, wrl_3, wrl_4, wrl_5, wrl_p0, wrl_p1, wrl_p2, wrl_p3, wrl_p4]
    unfold psk at hbad
    rw [e] at hbad
    exact hbad q P' z' hb' rfl
set_option maxHeartbeats 1000000 in
theorem ru_sum {J : Nat → PR} (hx : tx_in h t c F) (hc : c ≤ 80) (hd : t + 2 ≤ r ∨ r + 4 ≤ t) (hnc : n ≤ c) (hn40 : n ≤ 40) (hJ : CJn sa sc xt h r t n E K D 305 dp J) (gJ : GP n J) : CJn sa sc xt h r t n E K (D + 1) 58 dp (psk F n 2 J) := by
  intro d pos z P hb Q h1 h2 hok hbad
  have ht : ∀ {E P K : Nat → Int32} {z hn a e : Int32}, tx_in (wrl h r (ruc r E P K z hn a e)) t c F := fun {E P K z hn a e} => tx_in_same (fun x h1 h2 => wrl_o (by show _ ∨ r + 4 ≤ x; omega)) hx
  have ht0 : ∀ {E P K : Nat → Int32} {z hn a e : Int32}, (wrl h r (ruc r E P K z hn a e)).2.2 t = .inr (8, [.ref (t + 1), .int (nI c)]) := fun {E P K z hn a e} => (ht (E := E) (P := P) (K := K) (z := z) (hn := hn) (a := a) (e := e)).1
  have loop : ∀ (j i p : Nat) (cd : List Int32) (x4 : Value), i + j = 40 → p ≤ n → z + cd.length ≤ p → (∀ q cd', pskl F n 2 J j p cd = .inr (q, cd') → Q (some (.int 1)) (wrl h r (ruc r E (wrc P z cd') K (nI (z + cd'.length)) (bI (hb || hsN cd')) (nI q) (nI n)))) → (∀ q P' z' hb', pskl F n 2 J j p cd = .inl q → Q (some (.int 0)) (wrl h r (ruc r E P' K z' (bI hb') (nI q) (nI n)))) → tm_X (g_G sa sc xt) (d + D + 1) 58 13 [.ref r, .ref t, .int (nI dp), .int (nI i), x4] [] (wrl h r (ruc r E (wrc P z cd) K (nI (z + cd.length)) (bI (hb || hsN cd)) (nI p) (nI n))) Q := by
    intro j
    induction j with
    | zero =>
      intro i p cd x4 hi hp hz hok hbad
      have hi : i = 40 := by omega
      subst hi
      rw [s_58_13]
      simp only [s_58_0, s_58_1, s_58_2, s_58_3, s_58_6, s_58_9, s_58_10, s_58_11, s_58_12, s_58_14, s_58_16, s_58_19, s_58_20, s_58_23, s_58_24, s_58_27, s_58_30, s_58_31, s_58_32, s_58_35, s_58_38, s_58_40, s_58_42, s_58_44, s_58_47, s_58_49, s_58_51, s_58_54, s_58_55, s_58_56, s_58_57, s_58_58, s_58_61, s_58_62, s_58_63, s_58_66, s_58_67, s_58_68, s_58_69, s_58_72, s_58_75, s_58_76, s_58_77, s_58_78, s_58_81, s_58_83, s_58_84, s_58_87, s_58_90, s_58_93, s_58_94, x_get_i, List.getElem?_cons_succ, List.getElem?_cons_zero, x_cv_j, cs_n, cs_i, cs_r, cs_l, Nat.reduceAdd, Nat.reduceLeDiff, true_and, Option.toList_some, Option.toList_none, List.cons_append, List.nil_append, if_true, if_false, nb0, nb1, x_setJ, x_setZ0, x_setZ1, x_setA, x_setO, List.length_cons, List.length_nil, Nat.reduceLT, List.set_cons_succ, List.set_cons_zero, wrl_0, wrl_1, wrl_2, wrl_3, wrl_4, wrl_5, wrl_p0, wrl_p1, wrl_p2, wrl_p3, wrl_p4, show (40 : Int32) ≤ nI 40 by decide]
      exact hok p cd rfl
    | succ j ih =>
      intro i p cd x4 hi hp hz hok hbad
      rw [s_58_13]
      simp only [s_58_0, s_58_1, s_58_2, s_58_3, s_58_6, s_58_9, s_58_10, s_58_11, s_58_12, s_58_14, s_58_16, s_58_19, s_58_20, s_58_23, s_58_24, s_58_27, s_58_30, s_58_31, s_58_32, s_58_35, s_58_38, s_58_40, s_58_42, s_58_44, s_58_47, s_58_49, s_58_51, s_58_54, s_58_55, s_58_56, s_58_57, s_58_58, s_58_61, s_58_62, s_58_63, s_58_66, s_58_67, s_58_68, s_58_69, s_58_72, s_58_75, s_58_76, s_58_77, s_58_78, s_58_81, s_58_83, s_58_84, s_58_87, s_58_90, s_58_93, s_58_94, x_get_i, List.getElem?_cons_succ, List.getElem?_cons_zero, x_cv_j, cs_n, cs_i, cs_r, cs_l, Nat.reduceAdd, Nat.reduceLeDiff, true_and, Option.toList_some, Option.toList_none, List.cons_append, List.nil_append, if_true, if_false, nb0, nb1, x_setJ, x_setZ0, x_setZ1, x_setA, x_setO, List.length_cons, List.length_nil, Nat.reduceLT, List.set_cons_succ, List.set_cons_zero, wrl_0, wrl_1, wrl_2, wrl_3, wrl_4, wrl_5, wrl_p0, wrl_p1, wrl_p2, wrl_p3, wrl_p4, show ¬ (40 : Int32) ≤ nI i from nI_ge (b := 40) (by omega) (by decide)]
      unfold pskl at hok hbad
      by_cases c0 : n ≤ p
      · rw [if_pos c0] at hok
        simp only [show nI n ≤ nI p from nI_le c0 (by omega), if_true]
        exact hok p cd rfl
      rw [if_neg c0] at hok hbad
      simp only [show ¬ nI n ≤ nI p from nI_ge (by omega) (by omega), if_false, ht0, s_58_0, s_58_1, s_58_2, s_58_3, s_58_6, s_58_9, s_58_10, s_58_11, s_58_12, s_58_14, s_58_16, s_58_19, s_58_20, s_58_23, s_58_24, s_58_27, s_58_30, s_58_31, s_58_32, s_58_35, s_58_38, s_58_40, s_58_42, s_58_44, s_58_47, s_58_49, s_58_51, s_58_54, s_58_55, s_58_56, s_58_57, s_58_58, s_58_61, s_58_62, s_58_63, s_58_66, s_58_67, s_58_68, s_58_69, s_58_72, s_58_75, s_58_76, s_58_77, s_58_78, s_58_81, s_58_83, s_58_84, s_58_87, s_58_90, s_58_93, s_58_94, x_get_i, List.getElem?_cons_succ, List.getElem?_cons_zero, x_cv_j, cs_n, cs_i, cs_r, cs_l, Nat.reduceAdd, Nat.reduceLeDiff, true_and, Option.toList_some, Option.toList_none, List.cons_append, List.nil_append, if_true, if_false, nb0, nb1, x_setJ, x_setZ0, x_setZ1, x_setA, x_setO, List.length_cons, List.length_nil, Nat.reduceLT, List.set_cons_succ, List.set_cons_zero, wrl_0, wrl_1, wrl_2, wrl_3, wrl_4, wrl_5, wrl_p0, wrl_p1, wrl_p2, wrl_p3, wrl_p4, tx_at' ht hc, txa_n (show p < c by omega) hc]
      by_cases c1 : bop (F p) = 2
      · rw [if_pos c1] at hok hbad
        have key : tm_X (g_G sa sc xt) (d + D + 1) 58 56 [.ref r, .ref t, .int (nI dp), .int (nI i), .int (F p)] [] (wrl h r (ruc r E (wrc P z cd) K (nI (z + cd.length)) (bI (hb || hsN cd)) (nI p) (nI n))) Q := by
          simp only [s_58_0, s_58_1, s_58_2, s_58_3, s_58_6, s_58_9, s_58_10, s_58_11, s_58_12, s_58_14, s_58_16, s_58_19, s_58_20, s_58_23, s_58_24, s_58_27, s_58_30, s_58_31, s_58_32, s_58_35, s_58_38, s_58_40, s_58_42, s_58_44, s_58_47, s_58_49, s_58_51, s_58_54, s_58_55, s_58_56, s_58_57, s_58_58, s_58_61, s_58_62, s_58_63, s_58_66, s_58_67, s_58_68, s_58_69, s_58_72, s_58_75, s_58_76, s_58_77, s_58_78, s_58_81, s_58_83, s_58_84, s_58_87, s_58_90, s_58_93, s_58_94, x_get_i, List.getElem?_cons_succ, List.getElem?_cons_zero, x_cv_j, cs_n, cs_i, cs_r, cs_l, Nat.reduceAdd, Nat.reduceLeDiff, true_and, Option.toList_some, Option.toList_none, List.cons_append, List.nil_append, if_true, if_false, nb0, nb1, x_setJ, x_setZ0, x_setZ1, x_setA, x_setO, List.length_cons, List.length_nil, Nat.reduceLT, List.set_cons_succ, List.set_cons_zero, wrl_0, wrl_1, wrl_2, wrl_3, wrl_4, wrl_5, wrl_p0, wrl_p1, wrl_p2, wrl_p3, wrl_p4, nI_1]
          refine hJ d (p + 1) (z + cd.length) (wrc P z cd) (hb || hsN cd) _ (by omega) (by omega) (fun q c2' e => ?_) (fun q P' z' hb' e => ?_)
          · have hg := (gJ (p + 1) (by omega)).2 _ _ e
            simp only [s_58_0, s_58_1, s_58_2, s_58_3, s_58_6, s_58_9, s_58_10, s_58_11, s_58_12, s_58_14, s_58_16, s_58_19, s_58_20, s_58_23, s_58_24, s_58_27, s_58_30, s_58_31, s_58_32, s_58_35, s_58_38, s_58_40, s_58_42, s_58_44, s_58_47, s_58_49, s_58_51, s_58_54, s_58_55, s_58_56, s_58_57, s_58_58, s_58_61, s_58_62, s_58_63, s_58_66, s_58_67, s_58_68, s_58_69, s_58_72, s_58_75, s_58_76, s_58_77, s_58_78, s_58_81, s_58_83, s_58_84, s_58_87, s_58_90, s_58_93, s_58_94, x_get_i, List.getElem?_cons_succ, List.getElem?_cons_zero, x_cv_j, cs_n, cs_i, cs_r, cs_l, Nat.reduceAdd, Nat.reduceLeDiff, true_and, Option.toList_some, Option.toList_none, List.cons_append, List.nil_append, if_true, if_false, nb0, nb1, x_setJ, x_setZ0, x_setZ1, x_setA, x_setO, List.length_cons, List.length_nil, Nat.reduceLT, List.set_cons_succ, List.set_cons_zero, wrl_0, wrl_1, wrl_2, wrl_3, wrl_4, wrl_5, wrl_p0, wrl_p1, wrl_p2, wrl_p3, wrl_p4, show ¬ (1 : Int32) = 0 by decide]
            rw [ru_put (by omega)]
            have e1 : upd (wrc (wrc P z cd) (z + cd.length) c2') (z + cd.length + c2'.length) (1007 + F p) = wrc P z (cd ++ c2' ++ [1007 + F p]) := by
              rw [wrc_app, wrc_app, List.length_append, ← Nat.add_assoc]
              rfl
            have e2 : z + cd.length + c2'.length + 1 = z + (cd ++ c2' ++ [1007 + F p]).length := by
              rw [List.length_append, List.length_append]
              simp only [List.length_cons, List.length_nil]
              omega
            have e3 : (hb || hsN cd || hsN c2') = (hb || hsN (cd ++ c2' ++ [1007 + F p])) := by
              rw [hsN_app, hsN_app, hsN_op (by omega), Bool.or_false, Bool.or_assoc]
            rw [e1, e2, e3]
            rw [e] at hok hbad
            dsimp only at hok hbad
            have hz2 : z + (cd ++ c2' ++ [1007 + F p]).length ≤ q := by
              rw [← e2]
              omega
            simp only [s_58_0, s_58_1, s_58_2, s_58_3, s_58_6, s_58_9, s_58_10, s_58_11, s_58_12, s_58_14, s_58_16, s_58_19, s_58_20, s_58_23, s_58_24, s_58_27, s_58_30, s_58_31, s_58_32, s_58_35, s_58_38, s_58_40, s_58_42, s_58_44, s_58_47, s_58_49, s_58_51, s_58_54, s_58_55, s_58_56, s_58_57, s_58_58, s_58_61, s_58_62, s_58_63, s_58_66, s_58_67, s_58_68, s_58_69, s_58_72, s_58_75, s_58_76, s_58_77, s_58_78, s_58_81, s_58_83, s_58_84, s_58_87, s_58_90, s_58_93, s_58_94, x_get_i, List.getElem?_cons_succ, List.getElem?_cons_zero, x_cv_j, cs_n, cs_i, cs_r, cs_l, Nat.reduceAdd, Nat.reduceLeDiff, true_and, Option.toList_some, Option.toList_none, List.cons_append, List.nil_append, if_true, if_false, nb0, nb1, x_setJ, x_setZ0, x_setZ1, x_setA, x_setO, List.length_cons, List.length_nil, Nat.reduceLT, List.set_cons_succ, List.set_cons_zero, wrl_0, wrl_1, wrl_2, wrl_3, wrl_4, wrl_5, wrl_p0, wrl_p1, wrl_p2, wrl_p3, wrl_p4, nI_1]
            exact ih (i + 1) q (cd ++ c2' ++ [1007 + F p]) (.int (F p)) (by omega) hg.2.1 hz2 hok hbad
          · simp only [s_58_0, s_58_1, s_58_2, s_58_3, s_58_6, s_58_9, s_58_10, s_58_11, s_58_12, s_58_14, s_58_16, s_58_19, s_58_20, s_58_23, s_58_24, s_58_27, s_58_30, s_58_31, s_58_32, s_58_35, s_58_38, s_58_40, s_58_42, s_58_44, s_58_47, s_58_49, s_58_51, s_58_54, s_58_55, s_58_56, s_58_57, s_58_58, s_58_61, s_58_62, s_58_63, s_58_66, s_58_67, s_58_68, s_58_69, s_58_72, s_58_75, s_58_76, s_58_77, s_58_78, s_58_81, s_58_83, s_58_84, s_58_87, s_58_90, s_58_93, s_58_94, x_get_i, List.getElem?_cons_succ, List.getElem?_cons_zero, x_cv_j, cs_n, cs_i, cs_r, cs_l, Nat.reduceAdd, Nat.reduceLeDiff, true_and, Option.toList_some, Option.toList_none, List.cons_append, List.nil_append, if_true, if_false, nb0, nb1, x_setJ, x_setZ0, x_setZ1, x_setA, x_setO, List.length_cons, List.length_nil, Nat.reduceLT, List.set_cons_succ, List.set_cons_zero, wrl_0, wrl_1, wrl_2, wrl_3, wrl_4, wrl_5, wrl_p0, wrl_p1, wrl_p2, wrl_p3, wrl_p4]
            rw [e] at hbad
            exact hbad q P' z' hb' rfl
        simp only [s_58_0, s_58_1, s_58_2, s_58_3, s_58_6, s_58_9, s_58_10, s_58_11, s_58_12, s_58_14, s_58_16, s_58_19, s_58_20, s_58_23, s_58_24, s_58_27, s_58_30, s_58_31, s_58_32, s_58_35, s_58_38, s_58_40, s_58_42, s_58_44, s_58_47, s_58_49, s_58_51, s_58_54, s_58_55, s_58_56, s_58_57, s_58_58, s_58_61, s_58_62, s_58_63, s_58_66, s_58_67, s_58_68, s_58_69, s_58_72, s_58_75, s_58_76, s_58_77, s_58_78, s_58_81, s_58_83, s_58_84, s_58_87, s_58_90, s_58_93, s_58_94, x_get_i, List.getElem?_cons_succ, List.getElem?_cons_zero, x_cv_j, cs_n, cs_i, cs_r, cs_l, Nat.reduceAdd, Nat.reduceLeDiff, true_and, Option.toList_some, Option.toList_none, List.cons_append, List.nil_append, if_true, if_false, nb0, nb1, x_setJ, x_setZ0, x_setZ1, x_setA, x_setO, List.length_cons, List.length_nil, Nat.reduceLT, List.set_cons_succ, List.set_cons_zero, wrl_0, wrl_1, wrl_2, wrl_3, wrl_4, wrl_5, wrl_p0, wrl_p1, wrl_p2, wrl_p3, wrl_p4] at key
        by_cases e4 : F p = 43
        · rw [if_pos e4]
          exact key
        · rw [if_neg e4, if_pos ((bop_2.mp c1).resolve_left e4)]
          exact key
      · rw [if_neg c1] at hok
        have c2 : ¬ F p = 43 := fun e => c1 (bop_2.mpr (Or.inl e))
        have c3 : ¬ F p = 45 := fun e => c1 (bop_2.mpr (Or.inr e))
        simp only [c2, c3, if_false]
        exact hok p cd rfl
  show tm_D (g_G sa sc xt) (d + D + 1) 58 _ _ _
  rw [e_58]
  simp only [s_58_0, s_58_1, s_58_2, s_58_3, s_58_6, s_58_9, s_58_10, s_58_11, s_58_12, s_58_14, s_58_16, s_58_19, s_58_20, s_58_23, s_58_24, s_58_27, s_58_30, s_58_31, s_58_32, s_58_35, s_58_38, s_58_40, s_58_42, s_58_44, s_58_47, s_58_49, s_58_51, s_58_54, s_58_55, s_58_56, s_58_57, s_58_58, s_58_61, s_58_62, s_58_63, s_58_66, s_58_67, s_58_68, s_58_69, s_58_72, s_58_75, s_58_76, s_58_77, s_58_78, s_58_81, s_58_83, s_58_84, s_58_87, s_58_90, s_58_93, s_58_94, x_get_i, List.getElem?_cons_succ, List.getElem?_cons_zero, x_cv_j, cs_n, cs_i, cs_r, cs_l, Nat.reduceAdd, Nat.reduceLeDiff, true_and, Option.toList_some, Option.toList_none, List.cons_append, List.nil_append, if_true, if_false, nb0, nb1, x_setJ, x_setZ0, x_setZ1, x_setA, x_setO, List.length_cons, List.length_nil, Nat.reduceLT, List.set_cons_succ, List.set_cons_zero, wrl_0, wrl_1, wrl_2, wrl_3, wrl_4, wrl_5, wrl_p0, wrl_p1, wrl_p2, wrl_p3, wrl_p4]
  refine hJ d pos z P hb _ h1 h2 (fun q cd e => ?_) (fun q P' z' hb' e => ?_)
  · have hg := (gJ pos h1).2 _ _ e
    simp only [s_58_0, s_58_1, s_58_2, s_58_3, s_58_6, s_58_9, s_58_10, s_58_11, s_58_12, s_58_14, s_58_16, s_58_19, s_58_20, s_58_23, s_58_24, s_58_27, s_58_30, s_58_31, s_58_32, s_58_35, s_58_38, s_58_40, s_58_42, s_58_44, s_58_47, s_58_49, s_58_51, s_58_54, s_58_55, s_58_56, s_58_57, s_58_58, s_58_61, s_58_62, s_58_63, s_58_66, s_58_67, s_58_68, s_58_69, s_58_72, s_58_75, s_58_76, s_58_77, s_58_78, s_58_81, s_58_83, s_58_84, s_58_87, s_58_90, s_58_93, s_58_94, x_get_i, List.getElem?_cons_succ, List.getElem?_cons_zero, x_cv_j, cs_n, cs_i, cs_r, cs_l, Nat.reduceAdd, Nat.reduceLeDiff, true_and, Option.toList_some, Option.toList_none, List.cons_append, List.nil_append, if_true, if_false, nb0, nb1, x_setJ, x_setZ0, x_setZ1, x_setA, x_setO, List.length_cons, List.length_nil, Nat.reduceLT, List.set_cons_succ, List.set_cons_zero, wrl_0, wrl_1, wrl_2, wrl_3, wrl_4, wrl_5, wrl_p0, wrl_p1, wrl_p2, wrl_p3, wrl_p4, show ¬ (1 : Int32) = 0 by decide]
    unfold psk at hok hbad
    rw [e] at hok hbad
    exact loop 40 0 q cd _ (by decide) hg.2.1 (by omega) hok hbad
  · simp only [s_58_0, s_58_1, s_58_2, s_58_3, s_58_6, s_58_9, s_58_10, s_58_11, s_58_12, s_58_14, s_58_16, s_58_19, s_58_20, s_58_23, s_58_24, s_58_27, s_58_30, s_58_31, s_58_32, s_58_35, s_58_38, s_58_40, s_58_42, s_58_44, s_58_47, s_58_49, s_58_51, s_58_54, s_58_55, s_58_56, s_58_57, s_58_58, s_58_61, s_58_62, s_58_63, s_58_66, s_58_67, s_58_68, s_58_69, s_58_72, s_58_75, s_58_76, s_58_77, s_58_78, s_58_81, s_58_83, s_58_84, s_58_87, s_58_90, s_58_93, s_58_94, x_get_i, List.getElem?_cons_succ, List.getElem?_cons_zero, x_cv_j, cs_n, cs_i, cs_r, cs_l, Nat.reduceAdd, Nat.reduceLeDiff, true_and, Option.toList_some, Option.toList_none, List.cons_append, List.nil_append, if_true, if_false, nb0, nb1, x_setJ, x_setZ0, x_setZ1, x_setA, x_setO, List.length_cons, List.length_nil, Nat.reduceLT, List.set_cons_succ, List.set_cons_zero, wrl_0, wrl_1, wrl_2, wrl_3, wrl_4, wrl_5, wrl_p0, wrl_p1, wrl_p2, wrl_p3, wrl_p4]
    unfold psk at hbad
    rw [e] at hbad
    exact hbad q P' z' hb' rfl
set_option maxHeartbeats 1000000 in
theorem ru_expr {J : Nat → PR} (hx : tx_in h t c F) (hc : c ≤ 80) (hd : t + 2 ≤ r ∨ r + 4 ≤ t) (hnc : n ≤ c) (hn40 : n ≤ 40) (hJ : CJn sa sc xt h r t n E K D 58 dp J) (gJ : GP n J) : CJn sa sc xt h r t n E K (D + 1) 57 dp (pex F n J) := by
  intro d pos z P hb Q h1 h2 hok hbad
  have ht : ∀ {E P K : Nat → Int32} {z hn a e : Int32}, tx_in (wrl h r (ruc r E P K z hn a e)) t c F := fun {E P K z hn a e} => tx_in_same (fun x h1 h2 => wrl_o (by show _ ∨ r + 4 ≤ x; omega)) hx
  have ht0 : ∀ {E P K : Nat → Int32} {z hn a e : Int32}, (wrl h r (ruc r E P K z hn a e)).2.2 t = .inr (8, [.ref (t + 1), .int (nI c)]) := fun {E P K z hn a e} => (ht (E := E) (P := P) (K := K) (z := z) (hn := hn) (a := a) (e := e)).1
  show tm_D (g_G sa sc xt) (d + D + 1) 57 _ _ _
  rw [e_57]
  simp only [s_57_0, s_57_1, s_57_2, s_57_3, s_57_6, s_57_9, s_57_10, s_57_11, s_57_12, s_57_15, s_57_16, s_57_19, s_57_22, s_57_23, s_57_24, s_57_27, s_57_30, s_57_33, s_57_34, s_57_35, s_57_36, s_57_38, s_57_41, s_57_42, s_57_44, s_57_47, s_57_48, s_57_50, s_57_53, s_57_54, s_57_55, s_57_56, s_57_57, s_57_60, s_57_61, s_57_62, s_57_65, s_57_66, s_57_67, s_57_68, s_57_71, s_57_74, s_57_75, s_57_76, s_57_77, s_57_80, s_57_81, s_57_82, s_57_85, s_57_86, x_get_i, List.getElem?_cons_succ, List.getElem?_cons_zero, x_cv_j, cs_n, cs_i, cs_r, cs_l, Nat.reduceAdd, Nat.reduceLeDiff, true_and, Option.toList_some, Option.toList_none, List.cons_append, List.nil_append, if_true, if_false, nb0, nb1, x_setJ, x_setZ0, x_setZ1, x_setA, x_setO, List.length_cons, List.length_nil, Nat.reduceLT, List.set_cons_succ, List.set_cons_zero, wrl_0, wrl_1, wrl_2, wrl_3, wrl_4, wrl_5, wrl_p0, wrl_p1, wrl_p2, wrl_p3, wrl_p4]
  refine hJ d pos z P hb _ h1 h2 (fun q cd e => ?_) (fun q P' z' hb' e => ?_)
  · have hg := (gJ pos h1).2 _ _ e
    unfold pex at hok hbad
    rw [e] at hok hbad
    dsimp only at hok hbad
    simp only [s_57_0, s_57_1, s_57_2, s_57_3, s_57_6, s_57_9, s_57_10, s_57_11, s_57_12, s_57_15, s_57_16, s_57_19, s_57_22, s_57_23, s_57_24, s_57_27, s_57_30, s_57_33, s_57_34, s_57_35, s_57_36, s_57_38, s_57_41, s_57_42, s_57_44, s_57_47, s_57_48, s_57_50, s_57_53, s_57_54, s_57_55, s_57_56, s_57_57, s_57_60, s_57_61, s_57_62, s_57_65, s_57_66, s_57_67, s_57_68, s_57_71, s_57_74, s_57_75, s_57_76, s_57_77, s_57_80, s_57_81, s_57_82, s_57_85, s_57_86, x_get_i, List.getElem?_cons_succ, List.getElem?_cons_zero, x_cv_j, cs_n, cs_i, cs_r, cs_l, Nat.reduceAdd, Nat.reduceLeDiff, true_and, Option.toList_some, Option.toList_none, List.cons_append, List.nil_append, if_true, if_false, nb0, nb1, x_setJ, x_setZ0, x_setZ1, x_setA, x_setO, List.length_cons, List.length_nil, Nat.reduceLT, List.set_cons_succ, List.set_cons_zero, wrl_0, wrl_1, wrl_2, wrl_3, wrl_4, wrl_5, wrl_p0, wrl_p1, wrl_p2, wrl_p3, wrl_p4, show ¬ (1 : Int32) = 0 by decide, show ¬ (0 : Int32) = 60 by decide, show ¬ (0 : Int32) = 61 by decide, show ¬ (0 : Int32) = 62 by decide, if_false]
    by_cases c0 : n ≤ q
    · rw [if_pos c0] at hok
      simp only [show nI n ≤ nI q from nI_le c0 (by omega), if_true]
      exact hok q cd rfl
    rw [if_neg c0] at hok hbad
    simp only [show ¬ nI n ≤ nI q from nI_ge (by omega) (by omega), if_false, ht0, s_57_0, s_57_1, s_57_2, s_57_3, s_57_6, s_57_9, s_57_10, s_57_11, s_57_12, s_57_15, s_57_16, s_57_19, s_57_22, s_57_23, s_57_24, s_57_27, s_57_30, s_57_33, s_57_34, s_57_35, s_57_36, s_57_38, s_57_41, s_57_42, s_57_44, s_57_47, s_57_48, s_57_50, s_57_53, s_57_54, s_57_55, s_57_56, s_57_57, s_57_60, s_57_61, s_57_62, s_57_65, s_57_66, s_57_67, s_57_68, s_57_71, s_57_74, s_57_75, s_57_76, s_57_77, s_57_80, s_57_81, s_57_82, s_57_85, s_57_86, x_get_i, List.getElem?_cons_succ, List.getElem?_cons_zero, x_cv_j, cs_n, cs_i, cs_r, cs_l, Nat.reduceAdd, Nat.reduceLeDiff, true_and, Option.toList_some, Option.toList_none, List.cons_append, List.nil_append, if_true, if_false, nb0, nb1, x_setJ, x_setZ0, x_setZ1, x_setA, x_setO, List.length_cons, List.length_nil, Nat.reduceLT, List.set_cons_succ, List.set_cons_zero, wrl_0, wrl_1, wrl_2, wrl_3, wrl_4, wrl_5, wrl_p0, wrl_p1, wrl_p2, wrl_p3, wrl_p4, tx_at' ht hc, txa_n (show q < c by omega) hc]
    by_cases c1 : bop (F q) = 1
    · rw [if_pos c1] at hok hbad
      have key : tm_X (g_G sa sc xt) (d + D + 1) 57 55 [.ref r, .ref t, .int (nI dp), .int (F q)] [] (wrl h r (ruc r E (wrc P z cd) K (nI (z + cd.length)) (bI (hb || hsN cd)) (nI q) (nI n))) Q := by
        simp only [s_57_0, s_57_1, s_57_2, s_57_3, s_57_6, s_57_9, s_57_10, s_57_11, s_57_12, s_57_15, s_57_16, s_57_19, s_57_22, s_57_23, s_57_24, s_57_27, s_57_30, s_57_33, s_57_34, s_57_35, s_57_36, s_57_38, s_57_41, s_57_42, s_57_44, s_57_47, s_57_48, s_57_50, s_57_53, s_57_54, s_57_55, s_57_56, s_57_57, s_57_60, s_57_61, s_57_62, s_57_65, s_57_66, s_57_67, s_57_68, s_57_71, s_57_74, s_57_75, s_57_76, s_57_77, s_57_80, s_57_81, s_57_82, s_57_85, s_57_86, x_get_i, List.getElem?_cons_succ, List.getElem?_cons_zero, x_cv_j, cs_n, cs_i, cs_r, cs_l, Nat.reduceAdd, Nat.reduceLeDiff, true_and, Option.toList_some, Option.toList_none, List.cons_append, List.nil_append, if_true, if_false, nb0, nb1, x_setJ, x_setZ0, x_setZ1, x_setA, x_setO, List.length_cons, List.length_nil, Nat.reduceLT, List.set_cons_succ, List.set_cons_zero, wrl_0, wrl_1, wrl_2, wrl_3, wrl_4, wrl_5, wrl_p0, wrl_p1, wrl_p2, wrl_p3, wrl_p4, nI_1]
        refine hJ d (q + 1) (z + cd.length) (wrc P z cd) (hb || hsN cd) _ (by omega) (by omega) (fun q2 c2' e' => ?_) (fun q2 P' z' hb' e' => ?_)
        · have hg2 := (gJ (q + 1) (by omega)).2 _ _ e'
          simp only [s_57_0, s_57_1, s_57_2, s_57_3, s_57_6, s_57_9, s_57_10, s_57_11, s_57_12, s_57_15, s_57_16, s_57_19, s_57_22, s_57_23, s_57_24, s_57_27, s_57_30, s_57_33, s_57_34, s_57_35, s_57_36, s_57_38, s_57_41, s_57_42, s_57_44, s_57_47, s_57_48, s_57_50, s_57_53, s_57_54, s_57_55, s_57_56, s_57_57, s_57_60, s_57_61, s_57_62, s_57_65, s_57_66, s_57_67, s_57_68, s_57_71, s_57_74, s_57_75, s_57_76, s_57_77, s_57_80, s_57_81, s_57_82, s_57_85, s_57_86, x_get_i, List.getElem?_cons_succ, List.getElem?_cons_zero, x_cv_j, cs_n, cs_i, cs_r, cs_l, Nat.reduceAdd, Nat.reduceLeDiff, true_and, Option.toList_some, Option.toList_none, List.cons_append, List.nil_append, if_true, if_false, nb0, nb1, x_setJ, x_setZ0, x_setZ1, x_setA, x_setO, List.length_cons, List.length_nil, Nat.reduceLT, List.set_cons_succ, List.set_cons_zero, wrl_0, wrl_1, wrl_2, wrl_3, wrl_4, wrl_5, wrl_p0, wrl_p1, wrl_p2, wrl_p3, wrl_p4, show ¬ (1 : Int32) = 0 by decide]
          rw [ru_put (by omega)]
          have e1 : upd (wrc (wrc P z cd) (z + cd.length) c2') (z + cd.length + c2'.length) (1007 + F q) = wrc P z (cd ++ c2' ++ [1007 + F q]) := by
            rw [wrc_app, wrc_app, List.length_append, ← Nat.add_assoc]
            rfl
          have e2 : z + cd.length + c2'.length + 1 = z + (cd ++ c2' ++ [1007 + F q]).length := by
            rw [List.length_append, List.length_append]
            simp only [List.length_cons, List.length_nil]
            omega
          have e3 : (hb || hsN cd || hsN c2') = (hb || hsN (cd ++ c2' ++ [1007 + F q])) := by
            rw [hsN_app, hsN_app, hsN_op (by omega), Bool.or_false, Bool.or_assoc]
          rw [e1, e2, e3]
          simp only [s_57_0, s_57_1, s_57_2, s_57_3, s_57_6, s_57_9, s_57_10, s_57_11, s_57_12, s_57_15, s_57_16, s_57_19, s_57_22, s_57_23, s_57_24, s_57_27, s_57_30, s_57_33, s_57_34, s_57_35, s_57_36, s_57_38, s_57_41, s_57_42, s_57_44, s_57_47, s_57_48, s_57_50, s_57_53, s_57_54, s_57_55, s_57_56, s_57_57, s_57_60, s_57_61, s_57_62, s_57_65, s_57_66, s_57_67, s_57_68, s_57_71, s_57_74, s_57_75, s_57_76, s_57_77, s_57_80, s_57_81, s_57_82, s_57_85, s_57_86, x_get_i, List.getElem?_cons_succ, List.getElem?_cons_zero, x_cv_j, cs_n, cs_i, cs_r, cs_l, Nat.reduceAdd, Nat.reduceLeDiff, true_and, Option.toList_some, Option.toList_none, List.cons_append, List.nil_append, if_true, if_false, nb0, nb1, x_setJ, x_setZ0, x_setZ1, x_setA, x_setO, List.length_cons, List.length_nil, Nat.reduceLT, List.set_cons_succ, List.set_cons_zero, wrl_0, wrl_1, wrl_2, wrl_3, wrl_4, wrl_5, wrl_p0, wrl_p1, wrl_p2, wrl_p3, wrl_p4]
          rw [e'] at hok
          exact hok q2 _ rfl
        · simp only [s_57_0, s_57_1, s_57_2, s_57_3, s_57_6, s_57_9, s_57_10, s_57_11, s_57_12, s_57_15, s_57_16, s_57_19, s_57_22, s_57_23, s_57_24, s_57_27, s_57_30, s_57_33, s_57_34, s_57_35, s_57_36, s_57_38, s_57_41, s_57_42, s_57_44, s_57_47, s_57_48, s_57_50, s_57_53, s_57_54, s_57_55, s_57_56, s_57_57, s_57_60, s_57_61, s_57_62, s_57_65, s_57_66, s_57_67, s_57_68, s_57_71, s_57_74, s_57_75, s_57_76, s_57_77, s_57_80, s_57_81, s_57_82, s_57_85, s_57_86, x_get_i, List.getElem?_cons_succ, List.getElem?_cons_zero, x_cv_j, cs_n, cs_i, cs_r, cs_l, Nat.reduceAdd, Nat.reduceLeDiff, true_and, Option.toList_some, Option.toList_none, List.cons_append, List.nil_append, if_true, if_false, nb0, nb1, x_setJ, x_setZ0, x_setZ1, x_setA, x_setO, List.length_cons, List.length_nil, Nat.reduceLT, List.set_cons_succ, List.set_cons_zero, wrl_0, wrl_1, wrl_2, wrl_3, wrl_4, wrl_5, wrl_p0, wrl_p1, wrl_p2, wrl_p3, wrl_p4]
          rw [e'] at hbad
          exact hbad q2 P' z' hb' rfl
      simp only [s_57_0, s_57_1, s_57_2, s_57_3, s_57_6, s_57_9, s_57_10, s_57_11, s_57_12, s_57_15, s_57_16, s_57_19, s_57_22, s_57_23, s_57_24, s_57_27, s_57_30, s_57_33, s_57_34, s_57_35, s_57_36, s_57_38, s_57_41, s_57_42, s_57_44, s_57_47, s_57_48, s_57_50, s_57_53, s_57_54, s_57_55, s_57_56, s_57_57, s_57_60, s_57_61, s_57_62, s_57_65, s_57_66, s_57_67, s_57_68, s_57_71, s_57_74, s_57_75, s_57_76, s_57_77, s_57_80, s_57_81, s_57_82, s_57_85, s_57_86, x_get_i, List.getElem?_cons_succ, List.getElem?_cons_zero, x_cv_j, cs_n, cs_i, cs_r, cs_l, Nat.reduceAdd, Nat.reduceLeDiff, true_and, Option.toList_some, Option.toList_none, List.cons_append, List.nil_append, if_true, if_false, nb0, nb1, x_setJ, x_setZ0, x_setZ1, x_setA, x_setO, List.length_cons, List.length_nil, Nat.reduceLT, List.set_cons_succ, List.set_cons_zero, wrl_0, wrl_1, wrl_2, wrl_3, wrl_4, wrl_5, wrl_p0, wrl_p1, wrl_p2, wrl_p3, wrl_p4] at key
      by_cases e4 : F q = 60
      · rw [if_pos e4]
        exact key
      rw [if_neg e4]
      by_cases e5 : F q = 62
      · rw [if_pos e5]
        exact key
      rw [if_neg e5, if_pos (((bop_1.mp c1).resolve_left e4).resolve_left e5)]
      exact key
    · rw [if_neg c1] at hok
      have c2 : ¬ F q = 60 := fun e => c1 (bop_1.mpr (Or.inl e))
      have c3 : ¬ F q = 62 := fun e => c1 (bop_1.mpr (Or.inr (Or.inl e)))
      have c4 : ¬ F q = 61 := fun e => c1 (bop_1.mpr (Or.inr (Or.inr e)))
      simp only [c2, c3, c4, if_false]
      exact hok q cd rfl
  · simp only [s_57_0, s_57_1, s_57_2, s_57_3, s_57_6, s_57_9, s_57_10, s_57_11, s_57_12, s_57_15, s_57_16, s_57_19, s_57_22, s_57_23, s_57_24, s_57_27, s_57_30, s_57_33, s_57_34, s_57_35, s_57_36, s_57_38, s_57_41, s_57_42, s_57_44, s_57_47, s_57_48, s_57_50, s_57_53, s_57_54, s_57_55, s_57_56, s_57_57, s_57_60, s_57_61, s_57_62, s_57_65, s_57_66, s_57_67, s_57_68, s_57_71, s_57_74, s_57_75, s_57_76, s_57_77, s_57_80, s_57_81, s_57_82, s_57_85, s_57_86, x_get_i, List.getElem?_cons_succ, List.getElem?_cons_zero, x_cv_j, cs_n, cs_i, cs_r, cs_l, Nat.reduceAdd, Nat.reduceLeDiff, true_and, Option.toList_some, Option.toList_none, List.cons_append, List.nil_append, if_true, if_false, nb0, nb1, x_setJ, x_setZ0, x_setZ1, x_setA, x_setO, List.length_cons, List.length_nil, Nat.reduceLT, List.set_cons_succ, List.set_cons_zero, wrl_0, wrl_1, wrl_2, wrl_3, wrl_4, wrl_5, wrl_p0, wrl_p1, wrl_p2, wrl_p3, wrl_p4]
    unfold pex at hbad
    rw [e] at hbad
    exact hbad q P' z' hb' rfl
end
