/-! Rule.readThing, readJoined -/
theorem bI_o1 {x : Bool} : bI x ||| 1 = bI (x || true) := by cases x <;> decide
theorem bI_o0 {x : Bool} : bI x ||| 0 = bI (x || false) := by cases x <;> decide
section
variable {sa : g_SA} {sc : Nat × Nat × (Nat → Int32)} {xt : Nat → Nat → List Value → tm_H → Option (Option Value × tm_H)} {d : Nat} {h : tm_H} {Q : Option Value → tm_H → Prop}
theorem ru_bop (x : Int32) : tm_D (g_G sa sc xt) d 58 [.int x] h Q ↔ Q (some (.int (nI (bop x)))) h := by
  rw [e_58]
  simp only [s_58_0, s_58_1, s_58_100, s_58_101, s_58_102, s_58_103, s_58_104, s_58_105, s_58_106, s_58_107]
  by_cases a1 : x = 60
  · subst a1; simp [bop, nI]
  by_cases a2 : x = 61
  · subst a2; simp [bop, nI]
  by_cases a3 : x = 62
  · subst a3; simp [bop, nI]
  by_cases a4 : x = 43
  · subst a4; simp [bop, nI]
  by_cases a5 : x = 45
  · subst a5; simp [bop, nI]
  by_cases a6 : x = 42
  · subst a6; simp [bop, nI]
  by_cases a7 : x = 47
  · subst a7; simp [bop, nI]
  unfold bop
  simp only [a1, a2, a3, a4, a5, a6, a7, if_false, ite_self]
  exact Iff.rfl
theorem bop_3 {x : Int32} : bop x ≤ 3 := by
  unfold bop
  repeat' split
  all_goals omega
end
/-- what readThing does -/
def CTh (sa : g_SA) (sc : Nat × Nat × (Nat → Int32)) (xt : Nat → Nat → List Value → tm_H → Option (Option Value × tm_H)) (h : tm_H) (r t n : Nat) (E K : Nat → Int32) (D dp : Nat) (th : Nat → PR) : Prop := ∀ (d pos z : Nat) (P : Nat → Int32) (hb : Bool) (Q : Option Value → tm_H → Prop), pos ≤ n → z ≤ pos → (∀ q cd, th pos = .inr (q, cd) → Q (some (.int 1)) (wrl h r (ruc r E (wrc P z cd) K (nI (z + cd.length)) (bI (hb || hsN cd)) (nI q) (nI n)))) → (∀ q P' z' hb', th pos = .inl q → Q (some (.int 0)) (wrl h r (ruc r E P' K z' (bI hb') (nI q) (nI n)))) → tm_D (g_G sa sc xt) (d + D) 59 [.ref r, .ref t, .int (nI dp)] (wrl h r (ruc r E P K (nI z) (bI hb) (nI pos) (nI n))) Q
/-- what readJoined does -/
def CJn (sa : g_SA) (sc : Nat × Nat × (Nat → Int32)) (xt : Nat → Nat → List Value → tm_H → Option (Option Value × tm_H)) (h : tm_H) (r t n : Nat) (E K : Nat → Int32) (D b dp : Nat) (th : Nat → PR) : Prop := ∀ (d pos z : Nat) (P : Nat → Int32) (hb : Bool) (Q : Option Value → tm_H → Prop), pos ≤ n → z ≤ pos → (∀ q cd, th pos = .inr (q, cd) → Q (some (.int 1)) (wrl h r (ruc r E (wrc P z cd) K (nI (z + cd.length)) (bI (hb || hsN cd)) (nI q) (nI n)))) → (∀ q P' z' hb', th pos = .inl q → Q (some (.int 0)) (wrl h r (ruc r E P' K z' (bI hb') (nI q) (nI n)))) → tm_D (g_G sa sc xt) (d + D) 57 [.ref r, .ref t, .int (nI b), .int (nI dp)] (wrl h r (ruc r E P K (nI z) (bI hb) (nI pos) (nI n))) Q
section
variable {sa : g_SA} {sc : Nat × Nat × (Nat → Int32)} {xt : Nat → Nat → List Value → tm_H → Option (Option Value × tm_H)} {h : tm_H}
variable {r t c n D b dp : Nat} {E K F : Nat → Int32}
theorem CTh_w {th : Nat → PR} (k : Nat) (hh : CTh sa sc xt h r t n E K D dp th) : CTh sa sc xt h r t n E K (D + k) dp th := by
  intro d pos z P hb Q h1 h2 h3 h4
  have := hh (d + k) pos z P hb Q h1 h2 h3 h4
  rwa [show d + k + D = d + (D + k) by omega] at this
theorem CJn_w {th : Nat → PR} (k : Nat) (hh : CJn sa sc xt h r t n E K D b dp th) : CJn sa sc xt h r t n E K (D + k) b dp th := by
  intro d pos z P hb Q h1 h2 h3 h4
  have := hh (d + k) pos z P hb Q h1 h2 h3 h4
  rwa [show d + k + D = d + (D + k) by omega] at this
set_option maxHeartbeats 1000000 in
theorem ru_joined {th : Nat → PR} {rec : Nat → Nat → PR} (hx : tx_in h t c F) (hc : c ≤ 80) (hd : t + 2 ≤ r ∨ r + 4 ≤ t) (hnc : n ≤ c) (hn40 : n ≤ 40) (hb1 : 1 ≤ b) (hb4 : b ≤ 4) (hdp : dp ≤ 4) (hth : CTh sa sc xt h r t n E K D dp th) (gth : GP n th) (hrec : ∀ o, b ≤ o → o ≤ 3 → CJn sa sc xt h r t n E K D (o + 1) dp (rec o) ∧ GP n (rec o)) : CJn sa sc xt h r t n E K (D + 1) b dp (pj F n th b rec) := by
  intro d pos z P hb Q h1 h2 hok hbad
  have ht : ∀ {E P K : Nat → Int32} {z hn a e : Int32}, tx_in (wrl h r (ruc r E P K z hn a e)) t c F := fun {E P K z hn a e} => tx_in_same (fun x h1 h2 => wrl_o (by show _ ∨ r + 4 ≤ x; omega)) hx
  have ht0 : ∀ {E P K : Nat → Int32} {z hn a e : Int32}, (wrl h r (ruc r E P K z hn a e)).2.2 t = .inr (8, [.ref (t + 1), .int (nI c)]) := fun {E P K z hn a e} => (ht (E := E) (P := P) (K := K) (z := z) (hn := hn) (a := a) (e := e)).1
  have loop : ∀ (j i : Nat) (cm : Bool) (p : Nat) (cd : List Int32) (x6 x7 : Value), i + j = 40 → p ≤ n → z + cd.length ≤ p → (∀ q cd', pjl F n b rec j cm p cd = .inr (q, cd') → Q (some (.int 1)) (wrl h r (ruc r E (wrc P z cd') K (nI (z + cd'.length)) (bI (hb || hsN cd')) (nI q) (nI n)))) → (∀ q P' z' hb', pjl F n b rec j cm p cd = .inl q → Q (some (.int 0)) (wrl h r (ruc r E P' K z' (bI hb') (nI q) (nI n)))) → tm_X (g_G sa sc xt) (d + D + 1) 57 27 [.ref r, .ref t, .int (nI b), .int (nI dp), .int (bI cm), .int (nI i), x6, x7] [] (wrl h r (ruc r E (wrc P z cd) K (nI (z + cd.length)) (bI (hb || hsN cd)) (nI p) (nI n))) Q := by
    intro j
    induction j with
    | zero =>
      intro i cm p cd x6 x7 hi hp hz hok hbad
      have hi : i = 40 := by omega
      subst hi
      rw [s_57_27]
      simp only [s_57_0, s_57_1, s_57_2, s_57_5, s_57_6, s_57_7, s_57_10, s_57_11, s_57_12, s_57_13, s_57_16, s_57_19, s_57_20, s_57_21, s_57_22, s_57_24, s_57_25, s_57_29, s_57_31, s_57_34, s_57_35, s_57_38, s_57_39, s_57_42, s_57_45, s_57_46, s_57_47, s_57_50, s_57_53, s_57_55, s_57_57, s_57_60, s_57_62, s_57_64, s_57_65, s_57_68, s_57_70, s_57_71, s_57_74, s_57_76, s_57_79, s_57_80, s_57_81, s_57_82, s_57_83, s_57_86, s_57_87, s_57_88, s_57_91, s_57_92, s_57_93, s_57_95, s_57_96, s_57_97, s_57_98, s_57_101, s_57_104, s_57_105, s_57_106, s_57_107, s_57_110, s_57_112, s_57_113, s_57_116, s_57_118, s_57_120, s_57_121, s_57_124, s_57_125, s_57_128, s_57_129, s_57_130, s_57_132, s_57_135, s_57_138, s_57_139, x_get_i, List.getElem?_cons_succ, List.getElem?_cons_zero, x_cv_j, cs_n, cs_i, cs_r, cs_l, Nat.reduceAdd, Nat.reduceLeDiff, true_and, Option.toList_some, Option.toList_none, List.cons_append, List.nil_append, if_true, if_false, nb0, nb1, x_setJ, x_setZ0, x_setZ1, x_setA, x_setO, List.length_cons, List.length_nil, Nat.reduceLT, List.set_cons_succ, List.set_cons_zero, wrl_0, wrl_1, wrl_2, wrl_3, wrl_4, wrl_5, wrl_p0, wrl_p1, wrl_p2, wrl_p3, wrl_p4, show (40 : Int32) ≤ nI 40 by decide]
      exact hok p cd rfl
    | succ j ih =>
      intro i cm p cd x6 x7 hi hp hz hok hbad
      rw [s_57_27]
      simp only [s_57_0, s_57_1, s_57_2, s_57_5, s_57_6, s_57_7, s_57_10, s_57_11, s_57_12, s_57_13, s_57_16, s_57_19, s_57_20, s_57_21, s_57_22, s_57_24, s_57_25, s_57_29, s_57_31, s_57_34, s_57_35, s_57_38, s_57_39, s_57_42, s_57_45, s_57_46, s_57_47, s_57_50, s_57_53, s_57_55, s_57_57, s_57_60, s_57_62, s_57_64, s_57_65, s_57_68, s_57_70, s_57_71, s_57_74, s_57_76, s_57_79, s_57_80, s_57_81, s_57_82, s_57_83, s_57_86, s_57_87, s_57_88, s_57_91, s_57_92, s_57_93, s_57_95, s_57_96, s_57_97, s_57_98, s_57_101, s_57_104, s_57_105, s_57_106, s_57_107, s_57_110, s_57_112, s_57_113, s_57_116, s_57_118, s_57_120, s_57_121, s_57_124, s_57_125, s_57_128, s_57_129, s_57_130, s_57_132, s_57_135, s_57_138, s_57_139, x_get_i, List.getElem?_cons_succ, List.getElem?_cons_zero, x_cv_j, cs_n, cs_i, cs_r, cs_l, Nat.reduceAdd, Nat.reduceLeDiff, true_and, Option.toList_some, Option.toList_none, List.cons_append, List.nil_append, if_true, if_false, nb0, nb1, x_setJ, x_setZ0, x_setZ1, x_setA, x_setO, List.length_cons, List.length_nil, Nat.reduceLT, List.set_cons_succ, List.set_cons_zero, wrl_0, wrl_1, wrl_2, wrl_3, wrl_4, wrl_5, wrl_p0, wrl_p1, wrl_p2, wrl_p3, wrl_p4, show ¬ (40 : Int32) ≤ nI i from nI_ge (b := 40) (by omega) (by decide)]
      unfold pjl at hok hbad
      by_cases c0 : n ≤ p
      · rw [if_pos c0] at hok
        simp only [show nI n ≤ nI p from nI_le c0 (by omega), if_true]
        exact hok p cd rfl
      rw [if_neg c0] at hok hbad
      simp only [show ¬ nI n ≤ nI p from nI_ge (by omega) (by omega), if_false, ht0, s_57_0, s_57_1, s_57_2, s_57_5, s_57_6, s_57_7, s_57_10, s_57_11, s_57_12, s_57_13, s_57_16, s_57_19, s_57_20, s_57_21, s_57_22, s_57_24, s_57_25, s_57_29, s_57_31, s_57_34, s_57_35, s_57_38, s_57_39, s_57_42, s_57_45, s_57_46, s_57_47, s_57_50, s_57_53, s_57_55, s_57_57, s_57_60, s_57_62, s_57_64, s_57_65, s_57_68, s_57_70, s_57_71, s_57_74, s_57_76, s_57_79, s_57_80, s_57_81, s_57_82, s_57_83, s_57_86, s_57_87, s_57_88, s_57_91, s_57_92, s_57_93, s_57_95, s_57_96, s_57_97, s_57_98, s_57_101, s_57_104, s_57_105, s_57_106, s_57_107, s_57_110, s_57_112, s_57_113, s_57_116, s_57_118, s_57_120, s_57_121, s_57_124, s_57_125, s_57_128, s_57_129, s_57_130, s_57_132, s_57_135, s_57_138, s_57_139, x_get_i, List.getElem?_cons_succ, List.getElem?_cons_zero, x_cv_j, cs_n, cs_i, cs_r, cs_l, Nat.reduceAdd, Nat.reduceLeDiff, true_and, Option.toList_some, Option.toList_none, List.cons_append, List.nil_append, if_true, if_false, nb0, nb1, x_setJ, x_setZ0, x_setZ1, x_setA, x_setO, List.length_cons, List.length_nil, Nat.reduceLT, List.set_cons_succ, List.set_cons_zero, wrl_0, wrl_1, wrl_2, wrl_3, wrl_4, wrl_5, wrl_p0, wrl_p1, wrl_p2, wrl_p3, wrl_p4, tx_at' ht hc, txa_n (show p < c by omega) hc, ru_bop]
      have hb3 := bop_3 (x := F p)
      by_cases c1 : bop (F p) < b ∨ (bop (F p) = 1 ∧ cm = true)
      · rw [if_pos c1] at hok
        rcases c1 with c1 | ⟨c1, c2⟩
        · simp only [show nI (bop (F p)) < nI b from nI_lt c1 (by omega), if_true]
          exact hok p cd rfl
        · rw [c1, c2]
          by_cases c3 : nI 1 < nI b
          · simp only [c3, if_true]
            exact hok p cd rfl
          · simp only [c3, if_false, show nI 1 = 1 from rfl, if_true, show ¬ bI true = 0 by decide, ite_self]
            exact hok p cd rfl
      rw [if_neg c1] at hok hbad
      have c2 : ¬ bop (F p) < b := fun q => c1 (Or.inl q)
      have c3 : ¬ (bop (F p) = 1 ∧ cm = true) := fun q => c1 (Or.inr q)
      simp only [show ¬ nI (bop (F p)) < nI b from nI_nlt (by omega) (by omega), if_false]
      obtain ⟨hr, gr⟩ := hrec (bop (F p)) (by omega) hb3
      have key : tm_X (g_G sa sc xt) (d + D + 1) 57 81 [.ref r, .ref t, .int (nI b), .int (nI dp), .int (bI cm), .int (nI i), .int (F p), .int (nI (bop (F p)))] [] (wrl h r (ruc r E (wrc P z cd) K (nI (z + cd.length)) (bI (hb || hsN cd)) (nI p) (nI n))) Q := by
        simp only [s_57_0, s_57_1, s_57_2, s_57_5, s_57_6, s_57_7, s_57_10, s_57_11, s_57_12, s_57_13, s_57_16, s_57_19, s_57_20, s_57_21, s_57_22, s_57_24, s_57_25, s_57_29, s_57_31, s_57_34, s_57_35, s_57_38, s_57_39, s_57_42, s_57_45, s_57_46, s_57_47, s_57_50, s_57_53, s_57_55, s_57_57, s_57_60, s_57_62, s_57_64, s_57_65, s_57_68, s_57_70, s_57_71, s_57_74, s_57_76, s_57_79, s_57_80, s_57_81, s_57_82, s_57_83, s_57_86, s_57_87, s_57_88, s_57_91, s_57_92, s_57_93, s_57_95, s_57_96, s_57_97, s_57_98, s_57_101, s_57_104, s_57_105, s_57_106, s_57_107, s_57_110, s_57_112, s_57_113, s_57_116, s_57_118, s_57_120, s_57_121, s_57_124, s_57_125, s_57_128, s_57_129, s_57_130, s_57_132, s_57_135, s_57_138, s_57_139, x_get_i, List.getElem?_cons_succ, List.getElem?_cons_zero, x_cv_j, cs_n, cs_i, cs_r, cs_l, Nat.reduceAdd, Nat.reduceLeDiff, true_and, Option.toList_some, Option.toList_none, List.cons_append, List.nil_append, if_true, if_false, nb0, nb1, x_setJ, x_setZ0, x_setZ1, x_setA, x_setO, List.length_cons, List.length_nil, Nat.reduceLT, List.set_cons_succ, List.set_cons_zero, wrl_0, wrl_1, wrl_2, wrl_3, wrl_4, wrl_5, wrl_p0, wrl_p1, wrl_p2, wrl_p3, wrl_p4, nI_1]
        refine hr d (p + 1) (z + cd.length) (wrc P z cd) (hb || hsN cd) _ (by omega) (by omega) (fun q c2' e => ?_) (fun q P' z' hb' e => ?_)
        · have hg := (gr (p + 1) (by omega)).2 _ _ e
          simp only [s_57_0, s_57_1, s_57_2, s_57_5, s_57_6, s_57_7, s_57_10, s_57_11, s_57_12, s_57_13, s_57_16, s_57_19, s_57_20, s_57_21, s_57_22, s_57_24, s_57_25, s_57_29, s_57_31, s_57_34, s_57_35, s_57_38, s_57_39, s_57_42, s_57_45, s_57_46, s_57_47, s_57_50, s_57_53, s_57_55, s_57_57, s_57_60, s_57_62, s_57_64, s_57_65, s_57_68, s_57_70, s_57_71, s_57_74, s_57_76, s_57_79, s_57_80, s_57_81, s_57_82, s_57_83, s_57_86, s_57_87, s_57_88, s_57_91, s_57_92, s_57_93, s_57_95, s_57_96, s_57_97, s_57_98, s_57_101, s_57_104, s_57_105, s_57_106, s_57_107, s_57_110, s_57_112, s_57_113, s_57_116, s_57_118, s_57_120, s_57_121, s_57_124, s_57_125, s_57_128, s_57_129, s_57_130, s_57_132, s_57_135, s_57_138, s_57_139, x_get_i, List.getElem?_cons_succ, List.getElem?_cons_zero, x_cv_j, cs_n, cs_i, cs_r, cs_l, Nat.reduceAdd, Nat.reduceLeDiff, true_and, Option.toList_some, Option.toList_none, List.cons_append, List.nil_append, if_true, if_false, nb0, nb1, x_setJ, x_setZ0, x_setZ1, x_setA, x_setO, List.length_cons, List.length_nil, Nat.reduceLT, List.set_cons_succ, List.set_cons_zero, wrl_0, wrl_1, wrl_2, wrl_3, wrl_4, wrl_5, wrl_p0, wrl_p1, wrl_p2, wrl_p3, wrl_p4, show ¬ (1 : Int32) = 0 by decide]
          rw [ru_put (by omega)]
          have e1 : upd (wrc (wrc P z cd) (z + cd.length) c2') (z + cd.length + c2'.length) (1007 + F p) = wrc P z (cd ++ c2' ++ [1007 + F p]) := by
            rw [wrc_app, wrc_app, List.length_append, ← Nat.add_assoc]
            rfl
          have e2 : z + cd.length + c2'.length + 1 = z + (cd ++ c2' ++ [1007 + F p]).length := by
            rw [List.length_append, List.length_append]
            simp only [List.length_cons, List.length_nil]
            omega
          have e3 : (hb || hsN cd || hsN c2') = (hb || hsN (cd ++ c2' ++ [1007 + F p])) := by
            rw [hsN_app, hsN_app, hsN_op (by omega), Bool.or_false, Bool.or_assoc]
          rw [e1, e2, e3]
          rw [e] at hok hbad
          dsimp only at hok hbad
          have hz2 : z + (cd ++ c2' ++ [1007 + F p]).length ≤ q := by
            rw [← e2]
            omega
          by_cases c4 : bop (F p) = 1
          · simp only [s_57_0, s_57_1, s_57_2, s_57_5, s_57_6, s_57_7, s_57_10, s_57_11, s_57_12, s_57_13, s_57_16, s_57_19, s_57_20, s_57_21, s_57_22, s_57_24, s_57_25, s_57_29, s_57_31, s_57_34, s_57_35, s_57_38, s_57_39, s_57_42, s_57_45, s_57_46, s_57_47, s_57_50, s_57_53, s_57_55, s_57_57, s_57_60, s_57_62, s_57_64, s_57_65, s_57_68, s_57_70, s_57_71, s_57_74, s_57_76, s_57_79, s_57_80, s_57_81, s_57_82, s_57_83, s_57_86, s_57_87, s_57_88, s_57_91, s_57_92, s_57_93, s_57_95, s_57_96, s_57_97, s_57_98, s_57_101, s_57_104, s_57_105, s_57_106, s_57_107, s_57_110, s_57_112, s_57_113, s_57_116, s_57_118, s_57_120, s_57_121, s_57_124, s_57_125, s_57_128, s_57_129, s_57_130, s_57_132, s_57_135, s_57_138, s_57_139, x_get_i, List.getElem?_cons_succ, List.getElem?_cons_zero, x_cv_j, cs_n, cs_i, cs_r, cs_l, Nat.reduceAdd, Nat.reduceLeDiff, true_and, Option.toList_some, Option.toList_none, List.cons_append, List.nil_append, if_true, if_false, nb0, nb1, x_setJ, x_setZ0, x_setZ1, x_setA, x_setO, List.length_cons, List.length_nil, Nat.reduceLT, List.set_cons_succ, List.set_cons_zero, wrl_0, wrl_1, wrl_2, wrl_3, wrl_4, wrl_5, wrl_p0, wrl_p1, wrl_p2, wrl_p3, wrl_p4, c4, show nI 1 = 1 from rfl, if_true, bI_o1, nI_1]
            rw [c4] at hok hbad
            have := ih (i + 1) (cm || decide ((1 : Nat) = 1)) q (cd ++ c2' ++ [1007 + F p]) (.int (F p)) (.int (nI 1)) (by omega) hg.2.1 hz2 hok hbad
            exact this
          · have c5 : ¬ nI (bop (F p)) = 1 := by
              rw [show (1 : Int32) = nI 1 from rfl, nI_eq (by omega) (by decide)]
              exact c4
            simp only [s_57_0, s_57_1, s_57_2, s_57_5, s_57_6, s_57_7, s_57_10, s_57_11, s_57_12, s_57_13, s_57_16, s_57_19, s_57_20, s_57_21, s_57_22, s_57_24, s_57_25, s_57_29, s_57_31, s_57_34, s_57_35, s_57_38, s_57_39, s_57_42, s_57_45, s_57_46, s_57_47, s_57_50, s_57_53, s_57_55, s_57_57, s_57_60, s_57_62, s_57_64, s_57_65, s_57_68, s_57_70, s_57_71, s_57_74, s_57_76, s_57_79, s_57_80, s_57_81, s_57_82, s_57_83, s_57_86, s_57_87, s_57_88, s_57_91, s_57_92, s_57_93, s_57_95, s_57_96, s_57_97, s_57_98, s_57_101, s_57_104, s_57_105, s_57_106, s_57_107, s_57_110, s_57_112, s_57_113, s_57_116, s_57_118, s_57_120, s_57_121, s_57_124, s_57_125, s_57_128, s_57_129, s_57_130, s_57_132, s_57_135, s_57_138, s_57_139, x_get_i, List.getElem?_cons_succ, List.getElem?_cons_zero, x_cv_j, cs_n, cs_i, cs_r, cs_l, Nat.reduceAdd, Nat.reduceLeDiff, true_and, Option.toList_some, Option.toList_none, List.cons_append, List.nil_append, if_true, if_false, nb0, nb1, x_setJ, x_setZ0, x_setZ1, x_setA, x_setO, List.length_cons, List.length_nil, Nat.reduceLT, List.set_cons_succ, List.set_cons_zero, wrl_0, wrl_1, wrl_2, wrl_3, wrl_4, wrl_5, wrl_p0, wrl_p1, wrl_p2, wrl_p3, wrl_p4, c5, if_false, bI_o0, nI_1]
            have := ih (i + 1) (cm || decide (bop (F p) = 1)) q (cd ++ c2' ++ [1007 + F p]) (.int (F p)) (.int (nI (bop (F p)))) (by omega) hg.2.1 hz2 hok hbad
            rw [decide_eq_false c4] at this
            exact this
        · simp only [s_57_0, s_57_1, s_57_2, s_57_5, s_57_6, s_57_7, s_57_10, s_57_11, s_57_12, s_57_13, s_57_16, s_57_19, s_57_20, s_57_21, s_57_22, s_57_24, s_57_25, s_57_29, s_57_31, s_57_34, s_57_35, s_57_38, s_57_39, s_57_42, s_57_45, s_57_46, s_57_47, s_57_50, s_57_53, s_57_55, s_57_57, s_57_60, s_57_62, s_57_64, s_57_65, s_57_68, s_57_70, s_57_71, s_57_74, s_57_76, s_57_79, s_57_80, s_57_81, s_57_82, s_57_83, s_57_86, s_57_87, s_57_88, s_57_91, s_57_92, s_57_93, s_57_95, s_57_96, s_57_97, s_57_98, s_57_101, s_57_104, s_57_105, s_57_106, s_57_107, s_57_110, s_57_112, s_57_113, s_57_116, s_57_118, s_57_120, s_57_121, s_57_124, s_57_125, s_57_128, s_57_129, s_57_130, s_57_132, s_57_135, s_57_138, s_57_139, x_get_i, List.getElem?_cons_succ, List.getElem?_cons_zero, x_cv_j, cs_n, cs_i, cs_r, cs_l, Nat.reduceAdd, Nat.reduceLeDiff, true_and, Option.toList_some, Option.toList_none, List.cons_append, List.nil_append, if_true, if_false, nb0, nb1, x_setJ, x_setZ0, x_setZ1, x_setA, x_setO, List.length_cons, List.length_nil, Nat.reduceLT, List.set_cons_succ, List.set_cons_zero, wrl_0, wrl_1, wrl_2, wrl_3, wrl_4, wrl_5, wrl_p0, wrl_p1, wrl_p2, wrl_p3, wrl_p4]
          rw [e] at hbad
          exact hbad q P' z' hb' rfl
      by_cases c4 : nI (bop (F p)) = 1
      · simp only [c4, if_true]
        cases cm with
        | true =>
          exfalso
          apply c3
          rw [show (1 : Int32) = nI 1 from rfl, nI_eq (by omega) (by decide)] at c4
          exact ⟨c4, rfl⟩
        | false =>
          rw [c4] at key
          simp only [show bI false = 0 by decide, if_true] at key ⊢
          simp only [s_57_0, s_57_1, s_57_2, s_57_5, s_57_6, s_57_7, s_57_10, s_57_11, s_57_12, s_57_13, s_57_16, s_57_19, s_57_20, s_57_21, s_57_22, s_57_24, s_57_25, s_57_29, s_57_31, s_57_34, s_57_35, s_57_38, s_57_39, s_57_42, s_57_45, s_57_46, s_57_47, s_57_50, s_57_53, s_57_55, s_57_57, s_57_60, s_57_62, s_57_64, s_57_65, s_57_68, s_57_70, s_57_71, s_57_74, s_57_76, s_57_79, s_57_80, s_57_81, s_57_82, s_57_83, s_57_86, s_57_87, s_57_88, s_57_91, s_57_92, s_57_93, s_57_95, s_57_96, s_57_97, s_57_98, s_57_101, s_57_104, s_57_105, s_57_106, s_57_107, s_57_110, s_57_112, s_57_113, s_57_116, s_57_118, s_57_120, s_57_121, s_57_124, s_57_125, s_57_128, s_57_129, s_57_130, s_57_132, s_57_135, s_57_138, s_57_139, x_get_i, List.getElem?_cons_succ, List.getElem?_cons_zero, x_cv_j, cs_n, cs_i, cs_r, cs_l, Nat.reduceAdd, Nat.reduceLeDiff, true_and, Option.toList_some, Option.toList_none, List.cons_append, List.nil_append, if_true, if_false, nb0, nb1, x_setJ, x_setZ0, x_setZ1, x_setA, x_setO, List.length_cons, List.length_nil, Nat.reduceLT, List.set_cons_succ, List.set_cons_zero, wrl_0, wrl_1, wrl_2, wrl_3, wrl_4, wrl_5, wrl_p0, wrl_p1, wrl_p2, wrl_p3, wrl_p4] at key
          exact key
      · simp only [c4, if_false]
        simp only [s_57_0, s_57_1, s_57_2, s_57_5, s_57_6, s_57_7, s_57_10, s_57_11, s_57_12, s_57_13, s_57_16, s_57_19, s_57_20, s_57_21, s_57_22, s_57_24, s_57_25, s_57_29, s_57_31, s_57_34, s_57_35, s_57_38, s_57_39, s_57_42, s_57_45, s_57_46, s_57_47, s_57_50, s_57_53, s_57_55, s_57_57, s_57_60, s_57_62, s_57_64, s_57_65, s_57_68, s_57_70, s_57_71, s_57_74, s_57_76, s_57_79, s_57_80, s_57_81, s_57_82, s_57_83, s_57_86, s_57_87, s_57_88, s_57_91, s_57_92, s_57_93, s_57_95, s_57_96, s_57_97, s_57_98, s_57_101, s_57_104, s_57_105, s_57_106, s_57_107, s_57_110, s_57_112, s_57_113, s_57_116, s_57_118, s_57_120, s_57_121, s_57_124, s_57_125, s_57_128, s_57_129, s_57_130, s_57_132, s_57_135, s_57_138, s_57_139, x_get_i, List.getElem?_cons_succ, List.getElem?_cons_zero, x_cv_j, cs_n, cs_i, cs_r, cs_l, Nat.reduceAdd, Nat.reduceLeDiff, true_and, Option.toList_some, Option.toList_none, List.cons_append, List.nil_append, if_true, if_false, nb0, nb1, x_setJ, x_setZ0, x_setZ1, x_setA, x_setO, List.length_cons, List.length_nil, Nat.reduceLT, List.set_cons_succ, List.set_cons_zero, wrl_0, wrl_1, wrl_2, wrl_3, wrl_4, wrl_5, wrl_p0, wrl_p1, wrl_p2, wrl_p3, wrl_p4] at key
        exact key
  show tm_D (g_G sa sc xt) (d + D + 1) 57 _ _ _
  rw [e_57]
  simp only [s_57_0, s_57_1, s_57_2, s_57_5, s_57_6, s_57_7, s_57_10, s_57_11, s_57_12, s_57_13, s_57_16, s_57_19, s_57_20, s_57_21, s_57_22, s_57_24, s_57_25, s_57_29, s_57_31, s_57_34, s_57_35, s_57_38, s_57_39, s_57_42, s_57_45, s_57_46, s_57_47, s_57_50, s_57_53, s_57_55, s_57_57, s_57_60, s_57_62, s_57_64, s_57_65, s_57_68, s_57_70, s_57_71, s_57_74, s_57_76, s_57_79, s_57_80, s_57_81, s_57_82, s_57_83, s_57_86, s_57_87, s_57_88, s_57_91, s_57_92, s_57_93, s_57_95, s_57_96, s_57_97, s_57_98, s_57_101, s_57_104, s_57_105, s_57_106, s_57_107, s_57_110, s_57_112, s_57_113, s_57_116, s_57_118, s_57_120, s_57_121, s_57_124, s_57_125, s_57_128, s_57_129, s_57_130, s_57_132, s_57_135, s_57_138, s_57_139, x_get_i, List.getElem?_cons_succ, List.getElem?_cons_zero, x_cv_j, cs_n, cs_i, cs_r, cs_l, Nat.reduceAdd, Nat.reduceLeDiff, true_and, Option.toList_some, Option.toList_none, List.cons_append, List.nil_append, if_true, if_false, nb0, nb1, x_setJ, x_setZ0, x_setZ1, x_setA, x_setO, List.length_cons, List.length_nil, Nat.reduceLT, List.set_cons_succ, List.set_cons_zero, wrl_0, wrl_1, wrl_2, wrl_3, wrl_4, wrl_5, wrl_p0, wrl_p1, wrl_p2, wrl_p3, wrl_p4, show ¬ (4 : Int32) < nI b from nI_nlt (a := 4) hb4 (by decide), show ¬ (4 : Int32) < nI dp from nI_nlt (a := 4) hdp (by decide)]
  refine hth d pos z P hb _ h1 h2 (fun q cd e => ?_) (fun q P' z' hb' e => ?_)
  · have hg := (gth pos h1).2 _ _ e
    simp only [s_57_0, s_57_1, s_57_2, s_57_5, s_57_6, s_57_7, s_57_10, s_57_11, s_57_12, s_57_13, s_57_16, s_57_19, s_57_20, s_57_21, s_57_22, s_57_24, s_57_25, s_57_29, s_57_31, s_57_34, s_57_35, s_57_38, s_57_39, s_57_42, s_57_45, s_57_46, s_57_47, s_57_50, s_57_53, s_57_55, s_57_57, s_57_60, s_57_62, s_57_64, s_57_65, s_57_68, s_57_70, s_57_71, s_57_74, s_57_76, s_57_79, s_57_80, s_57_81, s_57_82, s_57_83, s_57_86, s_57_87, s_57_88, s_57_91, s_57_92, s_57_93, s_57_95, s_57_96, s_57_97, s_57_98, s_57_101, s_57_104, s_57_105, s_57_106, s_57_107, s_57_110, s_57_112, s_57_113, s_57_116, s_57_118, s_57_120, s_57_121, s_57_124, s_57_125, s_57_128, s_57_129, s_57_130, s_57_132, s_57_135, s_57_138, s_57_139, x_get_i, List.getElem?_cons_succ, List.getElem?_cons_zero, x_cv_j, cs_n, cs_i, cs_r, cs_l, Nat.reduceAdd, Nat.reduceLeDiff, true_and, Option.toList_some, Option.toList_none, List.cons_append, List.nil_append, if_true, if_false, nb0, nb1, x_setJ, x_setZ0, x_setZ1, x_setA, x_setO, List.length_cons, List.length_nil, Nat.reduceLT, List.set_cons_succ, List.set_cons_zero, wrl_0, wrl_1, wrl_2, wrl_3, wrl_4, wrl_5, wrl_p0, wrl_p1, wrl_p2, wrl_p3, wrl_p4, show ¬ (1 : Int32) = 0 by decide]
    unfold pj at hok hbad
    rw [e] at hok hbad
    exact loop 40 0 false q cd _ _ (by decide) hg.2.1 (by omega) hok hbad
  · simp only [s_57_0, s_57_1, s_57_2, s_57_5, s_57_6, s_57_7, s_57_10, s_57_11, s_57_12, s_57_13, s_57_16, s_57_19, s_57_20, s_57_21, s_57_22, s_57_24, s_57_25, s_57_29, s_57_31, s_57_34, s_57_35, s_57_38, s_57_39, s_57_42, s_57_45, s_57_46, s_57_47, s_57_50, s_57_53, s_57_55, s_57_57, s_57_60, s_57_62, s_57_64, s_57_65, s_57_68, s_57_70, s_57_71, s_57_74, s_57_76, s_57_79, s_57_80, s_57_81, s_57_82, s_57_83, s_57_86, s_57_87, s_57_88, s_57_91, s_57_92, s_57_93, s_57_95, s_57_96, s_57_97, s_57_98, s_57_101, s_57_104, s_57_105, s_57_106, s_57_107, s_57_110, s_57_112, s_57_113, s_57_116, s_57_118, s_57_120, s_57_121, s_57_124, s_57_125, s_57_128, s_57_129, s_57_130, s_57_132, s_57_135, s_57_138, s_57_139, x_get_i, List.getElem?_cons_succ, List.getElem?_cons_zero, x_cv_j, cs_n, cs_i, cs_r, cs_l, Nat.reduceAdd, Nat.reduceLeDiff, true_and, Option.toList_some, Option.toList_none, List.cons_append, List.nil_append, if_true, if_false, nb0, nb1, x_setJ, x_setZ0, x_setZ1, x_setA, x_setO, List.length_cons, List.length_nil, Nat.reduceLT, List.set_cons_succ, List.set_cons_zero, wrl_0, wrl_1, wrl_2, wrl_3, wrl_4, wrl_5, wrl_p0, wrl_p1, wrl_p2, wrl_p3, wrl_p4]
    unfold pj at hbad
    rw [e] at hbad
    exact hbad q P' z' hb' rfl
end
