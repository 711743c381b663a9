/-! Rule.readThing, read -/
section
variable {sa : g_SA} {sc : Nat × Nat × (Nat → Int32)} {xt : Nat → Nat → List Value → tm_H → Option (Option Value × tm_H)} {h : tm_H}
variable {r t c n D dp : Nat} {E K F : Nat → Int32}
/-- what readInner does -/
theorem ru_inner {d pos z : Nat} {P : Nat → Int32} {hb : Bool} {Q : Option Value → tm_H → Prop} {J : Nat → PR} (hx : tx_in h t c F) (hc : c ≤ 80) (hd : t + 2 ≤ r ∨ r + 4 ≤ t) (hnc : n ≤ c) (hdp : dp < 4) (hJ : CJn sa sc xt h r t n E K D 57 (dp + 1) J) (gJ : GP n J) (h1 : pos < n) (h2 : z ≤ pos) (hok : ∀ q cd, J (pos + 1) = .inr (q, cd) → q < n → F q = 41 → Q (some (.int 1)) (wrl h r (ruc r E (wrc P z cd) K (nI (z + cd.length)) (bI (hb || hsN cd)) (nI (q + 1)) (nI n)))) (hno : ∀ q cd P' z' hb', J (pos + 1) = .inr (q, cd) → ¬ (q < n ∧ F q = 41) → Q (some (.int 0)) (wrl h r (ruc r E P' K z' (bI hb') (nI q) (nI n)))) (hbad : ∀ q P' z' hb', J (pos + 1) = .inl q → Q (some (.int 0)) (wrl h r (ruc r E P' K z' (bI hb') (nI q) (nI n)))) : tm_D (g_G sa sc xt) (d + D + 1) 61 [.ref r, .ref t, .int (nI dp)] (wrl h r (ruc r E P K (nI z) (bI hb) (nI pos) (nI n))) Q := by
  have ht : ∀ {E P K : Nat → Int32} {z hn a e : Int32}, tx_in (wrl h r (ruc r E P K z hn a e)) t c F := fun {E P K z hn a e} => tx_in_same (fun x h1 h2 => wrl_o (by show _ ∨ r + 4 ≤ x; omega)) hx
  have ht0 : ∀ {E P K : Nat → Int32} {z hn a e : Int32}, (wrl h r (ruc r E P K z hn a e)).2.2 t = .inr (8, [.ref (t + 1), .int (nI c)]) := fun {E P K z hn a e} => (ht (E := E) (P := P) (K := K) (z := z) (hn := hn) (a := a) (e := e)).1
  rw [e_61]
  simp only [s_61_0, s_61_1, s_61_2, s_61_5, s_61_6, s_61_7, s_61_8, s_61_9, s_61_12, s_61_13, s_61_14, s_61_17, s_61_18, s_61_19, s_61_20, s_61_21, s_61_22, s_61_25, s_61_28, s_61_29, s_61_32, s_61_33, s_61_36, s_61_39, s_61_40, s_61_41, s_61_44, s_61_47, s_61_49, s_61_52, s_61_53, s_61_54, s_61_55, s_61_56, s_61_59, s_61_60, s_61_61, s_61_64, s_61_65, x_get_i, List.getElem?_cons_succ, List.getElem?_cons_zero, x_cv_j, cs_n, cs_i, cs_r, cs_l, Nat.reduceAdd, Nat.reduceLeDiff, true_and, Option.toList_some, Option.toList_none, List.cons_append, List.nil_append, if_true, if_false, nb0, nb1, x_setJ, x_setZ0, x_setZ1, x_setA, x_setO, List.length_cons, List.length_nil, Nat.reduceLT, List.set_cons_succ, List.set_cons_zero, wrl_0, wrl_1, wrl_2, wrl_3, wrl_4, wrl_5, wrl_p0, wrl_p1, wrl_p2, wrl_p3, wrl_p4, show nI dp < (4 : Int32) from nI_lt (b := 4) hdp (by decide), nI_1]
  refine hJ d (pos + 1) z P hb _ (by omega) (by omega) (fun q cd e => ?_) (fun q P' z' hb' e => ?_)
  · have hg := (gJ (pos + 1) (by omega)).2 _ _ e
    simp only [s_61_0, s_61_1, s_61_2, s_61_5, s_61_6, s_61_7, s_61_8, s_61_9, s_61_12, s_61_13, s_61_14, s_61_17, s_61_18, s_61_19, s_61_20, s_61_21, s_61_22, s_61_25, s_61_28, s_61_29, s_61_32, s_61_33, s_61_36, s_61_39, s_61_40, s_61_41, s_61_44, s_61_47, s_61_49, s_61_52, s_61_53, s_61_54, s_61_55, s_61_56, s_61_59, s_61_60, s_61_61, s_61_64, s_61_65, x_get_i, List.getElem?_cons_succ, List.getElem?_cons_zero, x_cv_j, cs_n, cs_i, cs_r, cs_l, Nat.reduceAdd, Nat.reduceLeDiff, true_and, Option.toList_some, Option.toList_none, List.cons_append, List.nil_append, if_true, if_false, nb0, nb1, x_setJ, x_setZ0, x_setZ1, x_setA, x_setO, List.length_cons, List.length_nil, Nat.reduceLT, List.set_cons_succ, List.set_cons_zero, wrl_0, wrl_1, wrl_2, wrl_3, wrl_4, wrl_5, wrl_p0, wrl_p1, wrl_p2, wrl_p3, wrl_p4, show ¬ (1 : Int32) = 0 by decide]
    by_cases c1 : q < n
    · simp only [show ¬ nI n ≤ nI q from nI_ge c1 (by omega), if_false, ht0, s_61_0, s_61_1, s_61_2, s_61_5, s_61_6, s_61_7, s_61_8, s_61_9, s_61_12, s_61_13, s_61_14, s_61_17, s_61_18, s_61_19, s_61_20, s_61_21, s_61_22, s_61_25, s_61_28, s_61_29, s_61_32, s_61_33, s_61_36, s_61_39, s_61_40, s_61_41, s_61_44, s_61_47, s_61_49, s_61_52, s_61_53, s_61_54, s_61_55, s_61_56, s_61_59, s_61_60, s_61_61, s_61_64, s_61_65, x_get_i, List.getElem?_cons_succ, List.getElem?_cons_zero, x_cv_j, cs_n, cs_i, cs_r, cs_l, Nat.reduceAdd, Nat.reduceLeDiff, true_and, Option.toList_some, Option.toList_none, List.cons_append, List.nil_append, if_true, if_false, nb0, nb1, x_setJ, x_setZ0, x_setZ1, x_setA, x_setO, List.length_cons, List.length_nil, Nat.reduceLT, List.set_cons_succ, List.set_cons_zero, wrl_0, wrl_1, wrl_2, wrl_3, wrl_4, wrl_5, wrl_p0, wrl_p1, wrl_p2, wrl_p3, wrl_p4, tx_at' ht hc, txa_n (show q < c by omega) hc]
      by_cases c2 : F q = 41
      · simp only [c2, if_true, nI_1]
        exact hok q cd e c1 c2
      · simp only [c2, if_false]
        exact hno q cd _ _ _ e (fun w => c2 w.2)
    · simp only [show nI n ≤ nI q from nI_le (by omega) (by omega), if_true]
      exact hno q cd _ _ _ e (fun w => c1 w.1)
  · simp only [s_61_0, s_61_1, s_61_2, s_61_5, s_61_6, s_61_7, s_61_8, s_61_9, s_61_12, s_61_13, s_61_14, s_61_17, s_61_18, s_61_19, s_61_20, s_61_21, s_61_22, s_61_25, s_61_28, s_61_29, s_61_32, s_61_33, s_61_36, s_61_39, s_61_40, s_61_41, s_61_44, s_61_47, s_61_49, s_61_52, s_61_53, s_61_54, s_61_55, s_61_56, s_61_59, s_61_60, s_61_61, s_61_64, s_61_65, x_get_i, List.getElem?_cons_succ, List.getElem?_cons_zero, x_cv_j, cs_n, cs_i, cs_r, cs_l, Nat.reduceAdd, Nat.reduceLeDiff, true_and, Option.toList_some, Option.toList_none, List.cons_append, List.nil_append, if_true, if_false, nb0, nb1, x_setJ, x_setZ0, x_setZ1, x_setA, x_setO, List.length_cons, List.length_nil, Nat.reduceLT, List.set_cons_succ, List.set_cons_zero, wrl_0, wrl_1, wrl_2, wrl_3, wrl_4, wrl_5, wrl_p0, wrl_p1, wrl_p2, wrl_p3, wrl_p4]
    exact hbad q P' z' hb' e
theorem ru_inner4 {d : Nat} {Q : Option Value → tm_H → Prop} {h : tm_H} : tm_D (g_G sa sc xt) d 61 [.ref r, .ref t, .int (nI 4)] h Q ↔ Q (some (.int 0)) h := by
  rw [e_61]
  simp only [s_61_0, s_61_1, s_61_2, s_61_5, s_61_6, s_61_7, s_61_8, s_61_9, s_61_12, s_61_13, s_61_14, s_61_17, s_61_18, s_61_19, s_61_20, s_61_21, s_61_22, s_61_25, s_61_28, s_61_29, s_61_32, s_61_33, s_61_36, s_61_39, s_61_40, s_61_41, s_61_44, s_61_47, s_61_49, s_61_52, s_61_53, s_61_54, s_61_55, s_61_56, s_61_59, s_61_60, s_61_61, s_61_64, s_61_65, x_get_i, List.getElem?_cons_succ, List.getElem?_cons_zero, x_cv_j, cs_n, cs_i, cs_r, cs_l, Nat.reduceAdd, Nat.reduceLeDiff, true_and, Option.toList_some, Option.toList_none, List.cons_append, List.nil_append, if_true, if_false, nb0, nb1, x_setJ, x_setZ0, x_setZ1, x_setA, x_setO, List.length_cons, List.length_nil, Nat.reduceLT, List.set_cons_succ, List.set_cons_zero, wrl_0, wrl_1, wrl_2, wrl_3, wrl_4, wrl_5, wrl_p0, wrl_p1, wrl_p2, wrl_p3, wrl_p4, show ¬ nI 4 < (4 : Int32) by decide]
/-- parity as a number -/
def pr2 (k : Nat) : Bool := decide (k % 2 = 1)
theorem pr2_s {k : Nat} : pr2 (k + 1) = !(pr2 k) := by
  unfold pr2
  by_cases h : k % 2 = 1
  · rw [decide_eq_true h, decide_eq_false (by omega)]; rfl
  · rw [decide_eq_false h, decide_eq_true (by omega)]; rfl
theorem ngc_t {k : Nat} (h : pr2 k = true) : ngc k = [2000] := by
  unfold ngc pr2 at *
  rw [if_pos (of_decide_eq_true h)]
theorem ngc_f {k : Nat} (h : pr2 k = false) : ngc k = [] := by
  unfold ngc pr2 at *
  rw [if_neg (of_decide_eq_false h)]
set_option maxHeartbeats 2000000 in
theorem ru_thing {inn : Option (Nat → PR)} (hx : tx_in h t c F) (hTB : TB F) (hc : c ≤ 80) (hSS : SH sa h) (hSo : SHo sa r) (hd : t + 2 ≤ r ∨ r + 4 ≤ t) (hnc : n ≤ c) (hn40 : n ≤ 40) (hdp : dp ≤ 4) (hin : match inn with
    | none => dp = 4
    | some J => dp < 4 ∧ CJn sa sc xt h r t n E K D 57 (dp + 1) J ∧ GP n J) : CTh sa sc xt h r t n E K (D + 6) dp (pth F n inn) := by
  intro d pos z P hb Q h1 h2 hok hbad
  have ht : ∀ {E P K : Nat → Int32} {z hn a e : Int32}, tx_in (wrl h r (ruc r E P K z hn a e)) t c F := fun {E P K z hn a e} => tx_in_same (fun x h1 h2 => wrl_o (by show _ ∨ r + 4 ≤ x; omega)) hx
  have ht0 : ∀ {E P K : Nat → Int32} {z hn a e : Int32}, (wrl h r (ruc r E P K z hn a e)).2.2 t = .inr (8, [.ref (t + 1), .int (nI c)]) := fun {E P K z hn a e} => (ht (E := E) (P := P) (K := K) (z := z) (hn := hn) (a := a) (e := e)).1
  have hS : ∀ {E P K : Nat → Int32} {z hn a e : Int32}, SH sa (wrl h r (ruc r E P K z hn a e)) := fun {E P K z hn a e} => SH_same hSo (fun x hx => wrl_o (Or.inl hx)) hSS
  have hS1 : ∀ {E P K : Nat → Int32} {z hn a e : Int32}, ∃ x, (wrl h r (ruc r E P K z hn a e)).2.2 (sa.1 1) = .inl (100, 1, x) := fun {E P K z hn a e} => (hS (E := E) (P := P) (K := K) (z := z) (hn := hn) (a := a) (e := e) 1 (by decide)).1
  -- the signs - ahead
  have skip : ∀ (j p k : Nat) , p + j = n → (tm_X (g_G sa sc xt) (d + D + 6) 59 2 [.ref r, .ref t, .int (nI dp), .int (bI (pr2 k)), tm_z, tm_z] [] (wrl h r (ruc r E P K (nI z) (bI hb) (nI p) (nI n))) Q ↔ tm_X (g_G sa sc xt) (d + D + 6) 59 49 [.ref r, .ref t, .int (nI dp), .int (bI (pr2 (k + (skm F n j p - p)))), tm_z, tm_z] [] (wrl h r (ruc r E P K (nI z) (bI hb) (nI (skm F n j p)) (nI n))) Q) := by
    intro j
    induction j with
    | zero =>
      intro p k hp
      have hp : p = n := by omega
      subst hp
      have es : skm F p 0 p = p := rfl
      rw [es, Nat.sub_self, s_59_2]
      simp only [s_59_0, s_59_1, s_59_3, s_59_6, s_59_7, s_59_10, s_59_13, s_59_14, s_59_15, s_59_18, s_59_21, s_59_23, s_59_26, s_59_27, s_59_30, s_59_31, s_59_34, s_59_35, s_59_36, s_59_37, s_59_38, s_59_41, s_59_42, s_59_43, s_59_46, s_59_50, s_59_53, s_59_54, s_59_57, s_59_60, s_59_61, s_59_62, s_59_63, s_59_64, s_59_67, s_59_70, s_59_72, s_59_74, s_59_76, s_59_77, s_59_80, s_59_82, s_59_84, s_59_87, s_59_88, s_59_89, s_59_92, s_59_93, s_59_94, s_59_97, s_59_98, s_59_100, s_59_103, s_59_106, s_59_108, s_59_110, s_59_113, s_59_116, s_59_117, s_59_118, s_59_121, s_59_124, s_59_126, s_59_128, s_59_131, s_59_132, s_59_133, s_59_134, s_59_137, s_59_140, s_59_141, s_59_142, s_59_143, s_59_146, s_59_147, s_59_150, s_59_153, s_59_154, x_get_i, List.getElem?_cons_succ, List.getElem?_cons_zero, x_cv_j, cs_n, cs_i, cs_r, cs_l, Nat.reduceAdd, Nat.reduceLeDiff, true_and, Option.toList_some, Option.toList_none, List.cons_append, List.nil_append, if_true, if_false, nb0, nb1, x_setJ, x_setZ0, x_setZ1, x_setA, x_setO, List.length_cons, List.length_nil, Nat.reduceLT, List.set_cons_succ, List.set_cons_zero, wrl_0, wrl_1, wrl_2, wrl_3, wrl_4, wrl_5, wrl_p0, wrl_p1, wrl_p2, wrl_p3, wrl_p4, Int32.le_refl]
      exact Iff.rfl
    | succ j ih =>
      intro p k hp
      have es : skm F n (j + 1) p = if p < n ∧ F p = 45 then skm F n j (p + 1) else p := rfl
      by_cases c1 : F p = 45
      · have hle := skm_le (F := F) (n := n) (j := j) (p := p + 1) (by omega)
        rw [if_pos ⟨by omega, c1⟩] at es
        have := ih (p + 1) (k + 1) (by omega)
        rw [show k + 1 + (skm F n j (p + 1) - (p + 1)) = k + (skm F n j (p + 1) - p) by omega] at this
        rw [es, ← this, pr2_s, s_59_2]
        simp only [s_59_0, s_59_1, s_59_3, s_59_6, s_59_7, s_59_10, s_59_13, s_59_14, s_59_15, s_59_18, s_59_21, s_59_23, s_59_26, s_59_27, s_59_30, s_59_31, s_59_34, s_59_35, s_59_36, s_59_37, s_59_38, s_59_41, s_59_42, s_59_43, s_59_46, s_59_50, s_59_53, s_59_54, s_59_57, s_59_60, s_59_61, s_59_62, s_59_63, s_59_64, s_59_67, s_59_70, s_59_72, s_59_74, s_59_76, s_59_77, s_59_80, s_59_82, s_59_84, s_59_87, s_59_88, s_59_89, s_59_92, s_59_93, s_59_94, s_59_97, s_59_98, s_59_100, s_59_103, s_59_106, s_59_108, s_59_110, s_59_113, s_59_116, s_59_117, s_59_118, s_59_121, s_59_124, s_59_126, s_59_128, s_59_131, s_59_132, s_59_133, s_59_134, s_59_137, s_59_140, s_59_141, s_59_142, s_59_143, s_59_146, s_59_147, s_59_150, s_59_153, s_59_154, x_get_i, List.getElem?_cons_succ, List.getElem?_cons_zero, x_cv_j, cs_n, cs_i, cs_r, cs_l, Nat.reduceAdd, Nat.reduceLeDiff, true_and, Option.toList_some, Option.toList_none, List.cons_append, List.nil_append, if_true, if_false, nb0, nb1, x_setJ, x_setZ0, x_setZ1, x_setA, x_setO, List.length_cons, List.length_nil, Nat.reduceLT, List.set_cons_succ, List.set_cons_zero, wrl_0, wrl_1, wrl_2, wrl_3, wrl_4, wrl_5, wrl_p0, wrl_p1, wrl_p2, wrl_p3, wrl_p4, show ¬ nI n ≤ nI p from nI_ge (by omega) (by omega), ht0, tx_at' ht hc, txa_n (show p < c by omega) hc, c1]
        cases pr2 k
        · simp only [show bI false = 0 by decide, if_true, nI_1, Bool.not_false, show bI true = 1 by decide]
        · simp only [show ¬ bI true = 0 by decide, if_false, nI_1, Bool.not_true, show bI false = 0 by decide]
      · rw [if_neg (fun w => c1 w.2)] at es
        rw [es, Nat.sub_self, s_59_2]
        simp only [s_59_0, s_59_1, s_59_3, s_59_6, s_59_7, s_59_10, s_59_13, s_59_14, s_59_15, s_59_18, s_59_21, s_59_23, s_59_26, s_59_27, s_59_30, s_59_31, s_59_34, s_59_35, s_59_36, s_59_37, s_59_38, s_59_41, s_59_42, s_59_43, s_59_46, s_59_50, s_59_53, s_59_54, s_59_57, s_59_60, s_59_61, s_59_62, s_59_63, s_59_64, s_59_67, s_59_70, s_59_72, s_59_74, s_59_76, s_59_77, s_59_80, s_59_82, s_59_84, s_59_87, s_59_88, s_59_89, s_59_92, s_59_93, s_59_94, s_59_97, s_59_98, s_59_100, s_59_103, s_59_106, s_59_108, s_59_110, s_59_113, s_59_116, s_59_117, s_59_118, s_59_121, s_59_124, s_59_126, s_59_128, s_59_131, s_59_132, s_59_133, s_59_134, s_59_137, s_59_140, s_59_141, s_59_142, s_59_143, s_59_146, s_59_147, s_59_150, s_59_153, s_59_154, x_get_i, List.getElem?_cons_succ, List.getElem?_cons_zero, x_cv_j, cs_n, cs_i, cs_r, cs_l, Nat.reduceAdd, Nat.reduceLeDiff, true_and, Option.toList_some, Option.toList_none, List.cons_append, List.nil_append, if_true, if_false, nb0, nb1, x_setJ, x_setZ0, x_setZ1, x_setA, x_setO, List.length_cons, List.length_nil, Nat.reduceLT, List.set_cons_succ, List.set_cons_zero, wrl_0, wrl_1, wrl_2, wrl_3, wrl_4, wrl_5, wrl_p0, wrl_p1, wrl_p2, wrl_p3, wrl_p4, show ¬ nI n ≤ nI p from nI_ge (by omega) (by omega), ht0, tx_at' ht hc, txa_n (show p < c by omega) hc, c1]
        exact Iff.rfl
  have hle := skm_le (F := F) (n := n) (j := n - pos) (p := pos) (by omega)
  show tm_D (g_G sa sc xt) (d + D + 6) 59 _ _ _
  rw [e_59]
  simp only [s_59_0, s_59_1, s_59_3, s_59_6, s_59_7, s_59_10, s_59_13, s_59_14, s_59_15, s_59_18, s_59_21, s_59_23, s_59_26, s_59_27, s_59_30, s_59_31, s_59_34, s_59_35, s_59_36, s_59_37, s_59_38, s_59_41, s_59_42, s_59_43, s_59_46, s_59_50, s_59_53, s_59_54, s_59_57, s_59_60, s_59_61, s_59_62, s_59_63, s_59_64, s_59_67, s_59_70, s_59_72, s_59_74, s_59_76, s_59_77, s_59_80, s_59_82, s_59_84, s_59_87, s_59_88, s_59_89, s_59_92, s_59_93, s_59_94, s_59_97, s_59_98, s_59_100, s_59_103, s_59_106, s_59_108, s_59_110, s_59_113, s_59_116, s_59_117, s_59_118, s_59_121, s_59_124, s_59_126, s_59_128, s_59_131, s_59_132, s_59_133, s_59_134, s_59_137, s_59_140, s_59_141, s_59_142, s_59_143, s_59_146, s_59_147, s_59_150, s_59_153, s_59_154]
  have hsk := skip (n - pos) pos 0 (by omega)
  rw [show bI (pr2 0) = 0 by decide, Nat.zero_add] at hsk
  rw [hsk]
  unfold pth at hok hbad
  generalize skm F n (n - pos) pos = p at hok hbad hle
  have hk : p - pos ≤ p := Nat.sub_le _ _
  -- the end: a sign - behind
  have fin : ∀ (P' : Nat → Int32) (z' : Nat) (hb' : Bool) (a : Nat) (x4 x5 : Int32), (pr2 (p - pos) = true → z' < 40) → Q (some (.int 1)) (wrl h r (ruc r E (wrc P' z' (ngc (p - pos))) K (nI (z' + (ngc (p - pos)).length)) (bI hb') (nI a) (nI n))) → tm_X (g_G sa sc xt) (d + D + 6) 59 142 [.ref r, .ref t, .int (nI dp), .int (bI (pr2 (p - pos))), .int x4, .int x5] [] (wrl h r (ruc r E P' K (nI z') (bI hb') (nI a) (nI n))) Q := by
    intro P' z' hb' a x4 x5 hz' hq
    rw [s_59_142]
    cases hpr : pr2 (p - pos) with
    | true =>
      rw [ngc_t hpr] at hq
      simp only [s_59_0, s_59_1, s_59_3, s_59_6, s_59_7, s_59_10, s_59_13, s_59_14, s_59_15, s_59_18, s_59_21, s_59_23, s_59_26, s_59_27, s_59_30, s_59_31, s_59_34, s_59_35, s_59_36, s_59_37, s_59_38, s_59_41, s_59_42, s_59_43, s_59_46, s_59_50, s_59_53, s_59_54, s_59_57, s_59_60, s_59_61, s_59_62, s_59_63, s_59_64, s_59_67, s_59_70, s_59_72, s_59_74, s_59_76, s_59_77, s_59_80, s_59_82, s_59_84, s_59_87, s_59_88, s_59_89, s_59_92, s_59_93, s_59_94, s_59_97, s_59_98, s_59_100, s_59_103, s_59_106, s_59_108, s_59_110, s_59_113, s_59_116, s_59_117, s_59_118, s_59_121, s_59_124, s_59_126, s_59_128, s_59_131, s_59_132, s_59_133, s_59_134, s_59_137, s_59_140, s_59_141, s_59_143, s_59_146, s_59_147, s_59_150, s_59_153, s_59_154, x_get_i, List.getElem?_cons_succ, List.getElem?_cons_zero, x_cv_j, cs_n, cs_i, cs_r, cs_l, Nat.reduceAdd, Nat.reduceLeDiff, true_and, Option.toList_some, Option.toList_none, List.cons_append, List.nil_append, if_true, if_false, nb0, nb1, x_setJ, x_setZ0, x_setZ1, x_setA, x_setO, List.length_cons, List.length_nil, Nat.reduceLT, List.set_cons_succ, List.set_cons_zero, wrl_0, wrl_1, wrl_2, wrl_3, wrl_4, wrl_5, wrl_p0, wrl_p1, wrl_p2, wrl_p3, wrl_p4, show ¬ bI true = 0 by decide]
      rw [ru_put (hz' hpr)]
      simp only [s_59_0, s_59_1, s_59_3, s_59_6, s_59_7, s_59_10, s_59_13, s_59_14, s_59_15, s_59_18, s_59_21, s_59_23, s_59_26, s_59_27, s_59_30, s_59_31, s_59_34, s_59_35, s_59_36, s_59_37, s_59_38, s_59_41, s_59_42, s_59_43, s_59_46, s_59_50, s_59_53, s_59_54, s_59_57, s_59_60, s_59_61, s_59_62, s_59_63, s_59_64, s_59_67, s_59_70, s_59_72, s_59_74, s_59_76, s_59_77, s_59_80, s_59_82, s_59_84, s_59_87, s_59_88, s_59_89, s_59_92, s_59_93, s_59_94, s_59_97, s_59_98, s_59_100, s_59_103, s_59_106, s_59_108, s_59_110, s_59_113, s_59_116, s_59_117, s_59_118, s_59_121, s_59_124, s_59_126, s_59_128, s_59_131, s_59_132, s_59_133, s_59_134, s_59_137, s_59_140, s_59_141, s_59_143, s_59_146, s_59_147, s_59_150, s_59_153, s_59_154, x_get_i, List.getElem?_cons_succ, List.getElem?_cons_zero, x_cv_j, cs_n, cs_i, cs_r, cs_l, Nat.reduceAdd, Nat.reduceLeDiff, true_and, Option.toList_some, Option.toList_none, List.cons_append, List.nil_append, if_true, if_false, nb0, nb1, x_setJ, x_setZ0, x_setZ1, x_setA, x_setO, List.length_cons, List.length_nil, Nat.reduceLT, List.set_cons_succ, List.set_cons_zero, wrl_0, wrl_1, wrl_2, wrl_3, wrl_4, wrl_5, wrl_p0, wrl_p1, wrl_p2, wrl_p3, wrl_p4]
      exact hq
    | false =>
      rw [ngc_f hpr] at hq
      simp only [s_59_0, s_59_1, s_59_3, s_59_6, s_59_7, s_59_10, s_59_13, s_59_14, s_59_15, s_59_18, s_59_21, s_59_23, s_59_26, s_59_27, s_59_30, s_59_31, s_59_34, s_59_35, s_59_36, s_59_37, s_59_38, s_59_41, s_59_42, s_59_43, s_59_46, s_59_50, s_59_53, s_59_54, s_59_57, s_59_60, s_59_61, s_59_62, s_59_63, s_59_64, s_59_67, s_59_70, s_59_72, s_59_74, s_59_76, s_59_77, s_59_80, s_59_82, s_59_84, s_59_87, s_59_88, s_59_89, s_59_92, s_59_93, s_59_94, s_59_97, s_59_98, s_59_100, s_59_103, s_59_106, s_59_108, s_59_110, s_59_113, s_59_116, s_59_117, s_59_118, s_59_121, s_59_124, s_59_126, s_59_128, s_59_131, s_59_132, s_59_133, s_59_134, s_59_137, s_59_140, s_59_141, s_59_143, s_59_146, s_59_147, s_59_150, s_59_153, s_59_154, x_get_i, List.getElem?_cons_succ, List.getElem?_cons_zero, x_cv_j, cs_n, cs_i, cs_r, cs_l, Nat.reduceAdd, Nat.reduceLeDiff, true_and, Option.toList_some, Option.toList_none, List.cons_append, List.nil_append, if_true, if_false, nb0, nb1, x_setJ, x_setZ0, x_setZ1, x_setA, x_setO, List.length_cons, List.length_nil, Nat.reduceLT, List.set_cons_succ, List.set_cons_zero, wrl_0, wrl_1, wrl_2, wrl_3, wrl_4, wrl_5, wrl_p0, wrl_p1, wrl_p2, wrl_p3, wrl_p4, show bI false = 0 by decide]
      exact hq
  rw [s_59_49]
  unfold pt1 at hok hbad
  by_cases c0 : n ≤ p
  · rw [if_pos c0] at hbad
    simp only [s_59_0, s_59_1, s_59_3, s_59_6, s_59_7, s_59_10, s_59_13, s_59_14, s_59_15, s_59_18, s_59_21, s_59_23, s_59_26, s_59_27, s_59_30, s_59_31, s_59_34, s_59_35, s_59_36, s_59_37, s_59_38, s_59_41, s_59_42, s_59_43, s_59_46, s_59_50, s_59_53, s_59_54, s_59_57, s_59_60, s_59_61, s_59_62, s_59_63, s_59_64, s_59_67, s_59_70, s_59_72, s_59_74, s_59_76, s_59_77, s_59_80, s_59_82, s_59_84, s_59_87, s_59_88, s_59_89, s_59_92, s_59_93, s_59_94, s_59_97, s_59_98, s_59_100, s_59_103, s_59_106, s_59_108, s_59_110, s_59_113, s_59_116, s_59_117, s_59_118, s_59_121, s_59_124, s_59_126, s_59_128, s_59_131, s_59_132, s_59_133, s_59_134, s_59_137, s_59_140, s_59_141, s_59_143, s_59_146, s_59_147, s_59_150, s_59_153, s_59_154, x_get_i, List.getElem?_cons_succ, List.getElem?_cons_zero, x_cv_j, cs_n, cs_i, cs_r, cs_l, Nat.reduceAdd, Nat.reduceLeDiff, true_and, Option.toList_some, Option.toList_none, List.cons_append, List.nil_append, if_true, if_false, nb0, nb1, x_setJ, x_setZ0, x_setZ1, x_setA, x_setO, List.length_cons, List.length_nil, Nat.reduceLT, List.set_cons_succ, List.set_cons_zero, wrl_0, wrl_1, wrl_2, wrl_3, wrl_4, wrl_5, wrl_p0, wrl_p1, wrl_p2, wrl_p3, wrl_p4, show ¬ nI p < nI n from nI_nlt c0 (by omega)]
    exact hbad p _ _ _ rfl
  rw [if_neg c0] at hok hbad
  obtain ⟨y, hy, ey⟩ := hTB p (by omega)
  obtain ⟨xs, hxs⟩ := hS1 (E := E) (P := P) (K := K) (z := nI z) (hn := bI hb) (a := nI p) (e := nI n)
  simp only [s_59_0, s_59_1, s_59_3, s_59_6, s_59_7, s_59_10, s_59_13, s_59_14, s_59_15, s_59_18, s_59_21, s_59_23, s_59_26, s_59_27, s_59_30, s_59_31, s_59_34, s_59_35, s_59_36, s_59_37, s_59_38, s_59_41, s_59_42, s_59_43, s_59_46, s_59_50, s_59_53, s_59_54, s_59_57, s_59_60, s_59_61, s_59_62, s_59_63, s_59_64, s_59_67, s_59_70, s_59_72, s_59_74, s_59_76, s_59_77, s_59_80, s_59_82, s_59_84, s_59_87, s_59_88, s_59_89, s_59_92, s_59_93, s_59_94, s_59_97, s_59_98, s_59_100, s_59_103, s_59_106, s_59_108, s_59_110, s_59_113, s_59_116, s_59_117, s_59_118, s_59_121, s_59_124, s_59_126, s_59_128, s_59_131, s_59_132, s_59_133, s_59_134, s_59_137, s_59_140, s_59_141, s_59_143, s_59_146, s_59_147, s_59_150, s_59_153, s_59_154, x_get_i, List.getElem?_cons_succ, List.getElem?_cons_zero, x_cv_j, cs_n, cs_i, cs_r, cs_l, Nat.reduceAdd, Nat.reduceLeDiff, true_and, Option.toList_some, Option.toList_none, List.cons_append, List.nil_append, if_true, if_false, nb0, nb1, x_setJ, x_setZ0, x_setZ1, x_setA, x_setO, List.length_cons, List.length_nil, Nat.reduceLT, List.set_cons_succ, List.set_cons_zero, wrl_0, wrl_1, wrl_2, wrl_3, wrl_4, wrl_5, wrl_p0, wrl_p1, wrl_p2, wrl_p3, wrl_p4, show nI p < nI n from nI_lt (by omega) (by omega), ht0, tx_at' ht hc, txa_n (show p < c by omega) hc, ey, (six_thi hy).2, hxs, x_cs_i, and_self, show 1 < 13 by decide, st_idx hS hy]
  rw [ey] at hok hbad
  by_cases c1 : thi (nI y) = -1
  · rw [if_neg (fun w => w c1)] at hok hbad
    simp only [c1, show (-1 : Int32) < 0 by decide, if_true, s_59_0, s_59_1, s_59_3, s_59_6, s_59_7, s_59_10, s_59_13, s_59_14, s_59_15, s_59_18, s_59_21, s_59_23, s_59_26, s_59_27, s_59_30, s_59_31, s_59_34, s_59_35, s_59_36, s_59_37, s_59_38, s_59_41, s_59_42, s_59_43, s_59_46, s_59_50, s_59_53, s_59_54, s_59_57, s_59_60, s_59_61, s_59_62, s_59_63, s_59_64, s_59_67, s_59_70, s_59_72, s_59_74, s_59_76, s_59_77, s_59_80, s_59_82, s_59_84, s_59_87, s_59_88, s_59_89, s_59_92, s_59_93, s_59_94, s_59_97, s_59_98, s_59_100, s_59_103, s_59_106, s_59_108, s_59_110, s_59_113, s_59_116, s_59_117, s_59_118, s_59_121, s_59_124, s_59_126, s_59_128, s_59_131, s_59_132, s_59_133, s_59_134, s_59_137, s_59_140, s_59_141, s_59_143, s_59_146, s_59_147, s_59_150, s_59_153, s_59_154, x_get_i, List.getElem?_cons_succ, List.getElem?_cons_zero, x_cv_j, cs_n, cs_i, cs_r, cs_l, Nat.reduceAdd, Nat.reduceLeDiff, true_and, Option.toList_some, Option.toList_none, List.cons_append, List.nil_append, if_true, if_false, nb0, nb1, x_setJ, x_setZ0, x_setZ1, x_setA, x_setO, List.length_cons, List.length_nil, Nat.reduceLT, List.set_cons_succ, List.set_cons_zero, wrl_0, wrl_1, wrl_2, wrl_3, wrl_4, wrl_5, wrl_p0, wrl_p1, wrl_p2, wrl_p3, wrl_p4, m_stands]
    by_cases c2 : txs 100 (nI y) = 0
    · rw [if_neg (fun w => w c2)] at hok hbad
      simp only [c2, if_true]
      by_cases c3 : nI y = 40
      · rw [if_pos c3] at hok hbad
        simp only [c3, if_true, s_59_0, s_59_1, s_59_3, s_59_6, s_59_7, s_59_10, s_59_13, s_59_14, s_59_15, s_59_18, s_59_21, s_59_23, s_59_26, s_59_27, s_59_30, s_59_31, s_59_34, s_59_35, s_59_36, s_59_37, s_59_38, s_59_41, s_59_42, s_59_43, s_59_46, s_59_50, s_59_53, s_59_54, s_59_57, s_59_60, s_59_61, s_59_62, s_59_63, s_59_64, s_59_67, s_59_70, s_59_72, s_59_74, s_59_76, s_59_77, s_59_80, s_59_82, s_59_84, s_59_87, s_59_88, s_59_89, s_59_92, s_59_93, s_59_94, s_59_97, s_59_98, s_59_100, s_59_103, s_59_106, s_59_108, s_59_110, s_59_113, s_59_116, s_59_117, s_59_118, s_59_121, s_59_124, s_59_126, s_59_128, s_59_131, s_59_132, s_59_133, s_59_134, s_59_137, s_59_140, s_59_141, s_59_143, s_59_146, s_59_147, s_59_150, s_59_153, s_59_154, x_get_i, List.getElem?_cons_succ, List.getElem?_cons_zero, x_cv_j, cs_n, cs_i, cs_r, cs_l, Nat.reduceAdd, Nat.reduceLeDiff, true_and, Option.toList_some, Option.toList_none, List.cons_append, List.nil_append, if_true, if_false, nb0, nb1, x_setJ, x_setZ0, x_setZ1, x_setA, x_setO, List.length_cons, List.length_nil, Nat.reduceLT, List.set_cons_succ, List.set_cons_zero, wrl_0, wrl_1, wrl_2, wrl_3, wrl_4, wrl_5, wrl_p0, wrl_p1, wrl_p2, wrl_p3, wrl_p4]
        cases inn with
        | none =>
          dsimp only at hin hbad
          subst hin
          rw [ru_inner4]
          simp only [s_59_0, s_59_1, s_59_3, s_59_6, s_59_7, s_59_10, s_59_13, s_59_14, s_59_15, s_59_18, s_59_21, s_59_23, s_59_26, s_59_27, s_59_30, s_59_31, s_59_34, s_59_35, s_59_36, s_59_37, s_59_38, s_59_41, s_59_42, s_59_43, s_59_46, s_59_50, s_59_53, s_59_54, s_59_57, s_59_60, s_59_61, s_59_62, s_59_63, s_59_64, s_59_67, s_59_70, s_59_72, s_59_74, s_59_76, s_59_77, s_59_80, s_59_82, s_59_84, s_59_87, s_59_88, s_59_89, s_59_92, s_59_93, s_59_94, s_59_97, s_59_98, s_59_100, s_59_103, s_59_106, s_59_108, s_59_110, s_59_113, s_59_116, s_59_117, s_59_118, s_59_121, s_59_124, s_59_126, s_59_128, s_59_131, s_59_132, s_59_133, s_59_134, s_59_137, s_59_140, s_59_141, s_59_143, s_59_146, s_59_147, s_59_150, s_59_153, s_59_154, x_get_i, List.getElem?_cons_succ, List.getElem?_cons_zero, x_cv_j, cs_n, cs_i, cs_r, cs_l, Nat.reduceAdd, Nat.reduceLeDiff, true_and, Option.toList_some, Option.toList_none, List.cons_append, List.nil_append, if_true, if_false, nb0, nb1, x_setJ, x_setZ0, x_setZ1, x_setA, x_setO, List.length_cons, List.length_nil, Nat.reduceLT, List.set_cons_succ, List.set_cons_zero, wrl_0, wrl_1, wrl_2, wrl_3, wrl_4, wrl_5, wrl_p0, wrl_p1, wrl_p2, wrl_p3, wrl_p4]
          exact hbad p _ _ _ rfl
        | some J =>
          dsimp only at hin hbad hok
          obtain ⟨hdp4, hJ, gJ⟩ := hin
          have hJ' := CJn_w 4 hJ
          refine ru_inner (D := D + 4) (d := d) hx hc hd hnc hdp4 hJ' gJ (by omega) (show z ≤ p by omega) (fun q cd e w1 w2 => ?_) (fun q cd P' z' hb' e w => ?_) (fun q P' z' hb' e => ?_)
          · rw [e] at hok
            dsimp only at hok
            rw [if_pos ⟨w1, w2⟩] at hok
            have hg := (gJ (p + 1) (by omega)).2 _ _ e
            simp only [s_59_0, s_59_1, s_59_3, s_59_6, s_59_7, s_59_10, s_59_13, s_59_14, s_59_15, s_59_18, s_59_21, s_59_23, s_59_26, s_59_27, s_59_30, s_59_31, s_59_34, s_59_35, s_59_36, s_59_37, s_59_38, s_59_41, s_59_42, s_59_43, s_59_46, s_59_50, s_59_53, s_59_54, s_59_57, s_59_60, s_59_61, s_59_62, s_59_63, s_59_64, s_59_67, s_59_70, s_59_72, s_59_74, s_59_76, s_59_77, s_59_80, s_59_82, s_59_84, s_59_87, s_59_88, s_59_89, s_59_92, s_59_93, s_59_94, s_59_97, s_59_98, s_59_100, s_59_103, s_59_106, s_59_108, s_59_110, s_59_113, s_59_116, s_59_117, s_59_118, s_59_121, s_59_124, s_59_126, s_59_128, s_59_131, s_59_132, s_59_133, s_59_134, s_59_137, s_59_140, s_59_141, s_59_143, s_59_146, s_59_147, s_59_150, s_59_153, s_59_154, x_get_i, List.getElem?_cons_succ, List.getElem?_cons_zero, x_cv_j, cs_n, cs_i, cs_r, cs_l, Nat.reduceAdd, Nat.reduceLeDiff, true_and, Option.toList_some, Option.toList_none, List.cons_append, List.nil_append, if_true, if_false, nb0, nb1, x_setJ, x_setZ0, x_setZ1, x_setA, x_setO, List.length_cons, List.length_nil, Nat.reduceLT, List.set_cons_succ, List.set_cons_zero, wrl_0, wrl_1, wrl_2, wrl_3, wrl_4, wrl_5, wrl_p0, wrl_p1, wrl_p2, wrl_p3, wrl_p4, show ¬ (1 : Int32) = 0 by decide]
            refine fin _ _ _ _ _ _ (fun _ => by omega) ?_
            have := hok (q + 1) _ rfl
            rw [wrc_app, hsN_app, hsN_ngc, Bool.or_false, List.length_append, ← Nat.add_assoc] at this
            exact this
          · rw [e] at hbad
            dsimp only at hbad
            rw [if_neg w] at hbad
            simp only [s_59_0, s_59_1, s_59_3, s_59_6, s_59_7, s_59_10, s_59_13, s_59_14, s_59_15, s_59_18, s_59_21, s_59_23, s_59_26, s_59_27, s_59_30, s_59_31, s_59_34, s_59_35, s_59_36, s_59_37, s_59_38, s_59_41, s_59_42, s_59_43, s_59_46, s_59_50, s_59_53, s_59_54, s_59_57, s_59_60, s_59_61, s_59_62, s_59_63, s_59_64, s_59_67, s_59_70, s_59_72, s_59_74, s_59_76, s_59_77, s_59_80, s_59_82, s_59_84, s_59_87, s_59_88, s_59_89, s_59_92, s_59_93, s_59_94, s_59_97, s_59_98, s_59_100, s_59_103, s_59_106, s_59_108, s_59_110, s_59_113, s_59_116, s_59_117, s_59_118, s_59_121, s_59_124, s_59_126, s_59_128, s_59_131, s_59_132, s_59_133, s_59_134, s_59_137, s_59_140, s_59_141, s_59_143, s_59_146, s_59_147, s_59_150, s_59_153, s_59_154, x_get_i, List.getElem?_cons_succ, List.getElem?_cons_zero, x_cv_j, cs_n, cs_i, cs_r, cs_l, Nat.reduceAdd, Nat.reduceLeDiff, true_and, Option.toList_some, Option.toList_none, List.cons_append, List.nil_append, if_true, if_false, nb0, nb1, x_setJ, x_setZ0, x_setZ1, x_setA, x_setO, List.length_cons, List.length_nil, Nat.reduceLT, List.set_cons_succ, List.set_cons_zero, wrl_0, wrl_1, wrl_2, wrl_3, wrl_4, wrl_5, wrl_p0, wrl_p1, wrl_p2, wrl_p3, wrl_p4]
            exact hbad q _ _ _ rfl
          · rw [e] at hbad
            simp only [s_59_0, s_59_1, s_59_3, s_59_6, s_59_7, s_59_10, s_59_13, s_59_14, s_59_15, s_59_18, s_59_21, s_59_23, s_59_26, s_59_27, s_59_30, s_59_31, s_59_34, s_59_35, s_59_36, s_59_37, s_59_38, s_59_41, s_59_42, s_59_43, s_59_46, s_59_50, s_59_53, s_59_54, s_59_57, s_59_60, s_59_61, s_59_62, s_59_63, s_59_64, s_59_67, s_59_70, s_59_72, s_59_74, s_59_76, s_59_77, s_59_80, s_59_82, s_59_84, s_59_87, s_59_88, s_59_89, s_59_92, s_59_93, s_59_94, s_59_97, s_59_98, s_59_100, s_59_103, s_59_106, s_59_108, s_59_110, s_59_113, s_59_116, s_59_117, s_59_118, s_59_121, s_59_124, s_59_126, s_59_128, s_59_131, s_59_132, s_59_133, s_59_134, s_59_137, s_59_140, s_59_141, s_59_143, s_59_146, s_59_147, s_59_150, s_59_153, s_59_154, x_get_i, List.getElem?_cons_succ, List.getElem?_cons_zero, x_cv_j, cs_n, cs_i, cs_r, cs_l, Nat.reduceAdd, Nat.reduceLeDiff, true_and, Option.toList_some, Option.toList_none, List.cons_append, List.nil_append, if_true, if_false, nb0, nb1, x_setJ, x_setZ0, x_setZ1, x_setA, x_setO, List.length_cons, List.length_nil, Nat.reduceLT, List.set_cons_succ, List.set_cons_zero, wrl_0, wrl_1, wrl_2, wrl_3, wrl_4, wrl_5, wrl_p0, wrl_p1, wrl_p2, wrl_p3, wrl_p4]
            exact hbad q _ _ _ rfl
      · rw [if_neg c3] at hbad
        simp only [c3, if_false]
        exact hbad p _ _ _ rfl
    · rw [if_pos c2] at hok hbad
      simp only [c2, if_false, s_59_0, s_59_1, s_59_3, s_59_6, s_59_7, s_59_10, s_59_13, s_59_14, s_59_15, s_59_18, s_59_21, s_59_23, s_59_26, s_59_27, s_59_30, s_59_31, s_59_34, s_59_35, s_59_36, s_59_37, s_59_38, s_59_41, s_59_42, s_59_43, s_59_46, s_59_50, s_59_53, s_59_54, s_59_57, s_59_60, s_59_61, s_59_62, s_59_63, s_59_64, s_59_67, s_59_70, s_59_72, s_59_74, s_59_76, s_59_77, s_59_80, s_59_82, s_59_84, s_59_87, s_59_88, s_59_89, s_59_92, s_59_93, s_59_94, s_59_97, s_59_98, s_59_100, s_59_103, s_59_106, s_59_108, s_59_110, s_59_113, s_59_116, s_59_117, s_59_118, s_59_121, s_59_124, s_59_126, s_59_128, s_59_131, s_59_132, s_59_133, s_59_134, s_59_137, s_59_140, s_59_141, s_59_143, s_59_146, s_59_147, s_59_150, s_59_153, s_59_154, x_get_i, List.getElem?_cons_succ, List.getElem?_cons_zero, x_cv_j, cs_n, cs_i, cs_r, cs_l, Nat.reduceAdd, Nat.reduceLeDiff, true_and, Option.toList_some, Option.toList_none, List.cons_append, List.nil_append, if_true, if_false, nb0, nb1, x_setJ, x_setZ0, x_setZ1, x_setA, x_setO, List.length_cons, List.length_nil, Nat.reduceLT, List.set_cons_succ, List.set_cons_zero, wrl_0, wrl_1, wrl_2, wrl_3, wrl_4, wrl_5, wrl_p0, wrl_p1, wrl_p2, wrl_p3, wrl_p4]
      rw [ru_number hx hc hd hnc (by omega) (by omega)]
      simp only [s_59_0, s_59_1, s_59_3, s_59_6, s_59_7, s_59_10, s_59_13, s_59_14, s_59_15, s_59_18, s_59_21, s_59_23, s_59_26, s_59_27, s_59_30, s_59_31, s_59_34, s_59_35, s_59_36, s_59_37, s_59_38, s_59_41, s_59_42, s_59_43, s_59_46, s_59_50, s_59_53, s_59_54, s_59_57, s_59_60, s_59_61, s_59_62, s_59_63, s_59_64, s_59_67, s_59_70, s_59_72, s_59_74, s_59_76, s_59_77, s_59_80, s_59_82, s_59_84, s_59_87, s_59_88, s_59_89, s_59_92, s_59_93, s_59_94, s_59_97, s_59_98, s_59_100, s_59_103, s_59_106, s_59_108, s_59_110, s_59_113, s_59_116, s_59_117, s_59_118, s_59_121, s_59_124, s_59_126, s_59_128, s_59_131, s_59_132, s_59_133, s_59_134, s_59_137, s_59_140, s_59_141, s_59_143, s_59_146, s_59_147, s_59_150, s_59_153, s_59_154, x_get_i, List.getElem?_cons_succ, List.getElem?_cons_zero, x_cv_j, cs_n, cs_i, cs_r, cs_l, Nat.reduceAdd, Nat.reduceLeDiff, true_and, Option.toList_some, Option.toList_none, List.cons_append, List.nil_append, if_true, if_false, nb0, nb1, x_setJ, x_setZ0, x_setZ1, x_setA, x_setO, List.length_cons, List.length_nil, Nat.reduceLT, List.set_cons_succ, List.set_cons_zero, wrl_0, wrl_1, wrl_2, wrl_3, wrl_4, wrl_5, wrl_p0, wrl_p1, wrl_p2, wrl_p3, wrl_p4]
      refine fin _ _ _ _ _ _ (fun _ => by
        have : pr2 (p - pos) = true := by assumption
        have : (p - pos) % 2 = 1 := of_decide_eq_true this
        omega) ?_
      have := hok _ _ rfl
      have e4 : hsN ((numr F n 3 p 0).2 :: ngc (p - pos)) = false := by
        show hsN ([(numr F n 3 p 0).2] ++ ngc (p - pos)) = false
        rw [hsN_app, hsN_num, hsN_ngc]; rfl
      rw [e4, Bool.or_false] at this
      simp only [List.length_cons] at this
      rw [show z + ((ngc (p - pos)).length + 1) = z + 1 + (ngc (p - pos)).length by omega] at this
      exact this
  · rw [if_pos c1] at hok hbad
    obtain ⟨i, hi, ei⟩ := thi_n c1
    rw [ei] at hok hbad ⊢
    simp only [show ¬ nI i < 0 from nI_pos (by omega), if_false, s_59_0, s_59_1, s_59_3, s_59_6, s_59_7, s_59_10, s_59_13, s_59_14, s_59_15, s_59_18, s_59_21, s_59_23, s_59_26, s_59_27, s_59_30, s_59_31, s_59_34, s_59_35, s_59_36, s_59_37, s_59_38, s_59_41, s_59_42, s_59_43, s_59_46, s_59_50, s_59_53, s_59_54, s_59_57, s_59_60, s_59_61, s_59_62, s_59_63, s_59_64, s_59_67, s_59_70, s_59_72, s_59_74, s_59_76, s_59_77, s_59_80, s_59_82, s_59_84, s_59_87, s_59_88, s_59_89, s_59_92, s_59_93, s_59_94, s_59_97, s_59_98, s_59_100, s_59_103, s_59_106, s_59_108, s_59_110, s_59_113, s_59_116, s_59_117, s_59_118, s_59_121, s_59_124, s_59_126, s_59_128, s_59_131, s_59_132, s_59_133, s_59_134, s_59_137, s_59_140, s_59_141, s_59_143, s_59_146, s_59_147, s_59_150, s_59_153, s_59_154, x_get_i, List.getElem?_cons_succ, List.getElem?_cons_zero, x_cv_j, cs_n, cs_i, cs_r, cs_l, Nat.reduceAdd, Nat.reduceLeDiff, true_and, Option.toList_some, Option.toList_none, List.cons_append, List.nil_append, if_true, if_false, nb0, nb1, x_setJ, x_setZ0, x_setZ1, x_setA, x_setO, List.length_cons, List.length_nil, Nat.reduceLT, List.set_cons_succ, List.set_cons_zero, wrl_0, wrl_1, wrl_2, wrl_3, wrl_4, wrl_5, wrl_p0, wrl_p1, wrl_p2, wrl_p3, wrl_p4, nI_1]
    rw [ru_putThing (by omega) hi]
    simp only [s_59_0, s_59_1, s_59_3, s_59_6, s_59_7, s_59_10, s_59_13, s_59_14, s_59_15, s_59_18, s_59_21, s_59_23, s_59_26, s_59_27, s_59_30, s_59_31, s_59_34, s_59_35, s_59_36, s_59_37, s_59_38, s_59_41, s_59_42, s_59_43, s_59_46, s_59_50, s_59_53, s_59_54, s_59_57, s_59_60, s_59_61, s_59_62, s_59_63, s_59_64, s_59_67, s_59_70, s_59_72, s_59_74, s_59_76, s_59_77, s_59_80, s_59_82, s_59_84, s_59_87, s_59_88, s_59_89, s_59_92, s_59_93, s_59_94, s_59_97, s_59_98, s_59_100, s_59_103, s_59_106, s_59_108, s_59_110, s_59_113, s_59_116, s_59_117, s_59_118, s_59_121, s_59_124, s_59_126, s_59_128, s_59_131, s_59_132, s_59_133, s_59_134, s_59_137, s_59_140, s_59_141, s_59_143, s_59_146, s_59_147, s_59_150, s_59_153, s_59_154, x_get_i, List.getElem?_cons_succ, List.getElem?_cons_zero, x_cv_j, cs_n, cs_i, cs_r, cs_l, Nat.reduceAdd, Nat.reduceLeDiff, true_and, Option.toList_some, Option.toList_none, List.cons_append, List.nil_append, if_true, if_false, nb0, nb1, x_setJ, x_setZ0, x_setZ1, x_setA, x_setO, List.length_cons, List.length_nil, Nat.reduceLT, List.set_cons_succ, List.set_cons_zero, wrl_0, wrl_1, wrl_2, wrl_3, wrl_4, wrl_5, wrl_p0, wrl_p1, wrl_p2, wrl_p3, wrl_p4]
    refine fin _ _ _ _ _ _ (fun _ => by
        have : pr2 (p - pos) = true := by assumption
        have : (p - pos) % 2 = 1 := of_decide_eq_true this
        omega) ?_
    have := hok _ _ rfl
    have e4 : hsN ((1000 + nI i) :: ngc (p - pos)) = hsN [1000 + nI i] := by
      show hsN ([1000 + nI i] ++ ngc (p - pos)) = _
      rw [hsN_app, hsN_ngc, Bool.or_false]
    rw [e4] at this
    simp only [List.length_cons] at this
    rw [show z + ((ngc (p - pos)).length + 1) = z + 1 + (ngc (p - pos)).length by omega] at this
    exact this
end
