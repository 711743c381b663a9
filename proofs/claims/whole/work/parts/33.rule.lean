/-! a rule's value; a case's copy, sums of boxes -/
theorem n40 : 40 < 2 ^ 31 := by decide
theorem n7 : 7 < 2 ^ 31 := by decide
abbrev ruc (r : Nat) (E P K : Nat → Int32) (z hn a e : Int32) : List tm_E := [.inr (7, [.ref (r + 1), .ref (r + 2), .ref (r + 3), .int z, .int hn, .int a, .int e]), .inl (0, 7, .inl E), .inl (0, 40, .inl P), .inl (0, 40, .inl K)]
/-- two numbers joined by a sign -/
def vop (c l r : Int32) : Int32 := if c = 42 then l * r else if c = 43 then l + r else if c = 45 then l - r else if c = 47 then (if r = 0 then 0 else l / r) else if c = 60 then (if l < r then 1 else 0) else if c = 62 then (if r < l then 1 else 0) else if l = r then 1 else 0
/-- one step of a rule over a stack -/
def vstep (E : Nat → Int32) (p : Int32) (s : (Nat → Int32) × Nat) : (Nat → Int32) × Nat :=
  if p < 1007 then (if s.2 < 40 then (upd s.1 s.2 (if p < 1000 then p else E (p - 1000).toNatClampNeg), s.2 + 1) else s)
  else if p = 2000 then (if 0 < s.2 then (upd s.1 (s.2 - 1) (-(s.1 (s.2 - 1))), s.2) else s)
  else if 1 < s.2 then (upd s.1 (s.2 - 2) (vop (p - 1007) (s.1 (s.2 - 2)) (s.1 (s.2 - 1))), s.2 - 1) else s
def vrun (E P K : Nat → Int32) : Nat → (Nat → Int32) × Nat := fo (fun j s => vstep E (P j) s) (K, 0)
theorem vstep_le {E : Nat → Int32} {p : Int32} {s : (Nat → Int32) × Nat} (h : s.2 ≤ 40) : (vstep E p s).2 ≤ 40 := by
  unfold vstep
  split
  · split
    · show s.2 + 1 ≤ 40; omega
    · exact h
  · split
    · split
      · exact h
      · exact h
    · split
      · show s.2 - 1 ≤ 40; omega
      · exact h
theorem vrun_le {E P K : Nat → Int32} : ∀ j, (vrun E P K j).2 ≤ 40
  | 0 => Nat.zero_le _
  | j + 1 => vstep_le (vrun_le j)
theorem nI_m1 {j : Nat} (h : 0 < j) : nI j - 1 = nI (j - 1) := by
  obtain ⟨i, rfl⟩ : ∃ i, j = i + 1 := ⟨j - 1, by omega⟩
  rw [nI_pred, Nat.add_sub_cancel]
theorem x_wr1 {h : tm_H} {q : Nat} {c0 c1 e : tm_E} {cs : List tm_E} {a : Nat} (ha : a = q + 1) : tm_put (wrl h q (c0 :: c1 :: cs)) a e = wrl h q (c0 :: e :: cs) := by rw [ha]; exact wrl_p1
section
variable {sa : g_SA} {sc : Nat × Nat × (Nat → Int32)} {xt : Nat → Nat → List Value → tm_H → Option (Option Value × tm_H)} {d : Nat} {h : tm_H} {Q : Option Value → tm_H → Prop}
variable {r z : Nat} {E P K : Nat → Int32} {hn a e : Int32}
set_option maxHeartbeats 1000000 in
theorem ru_value (hz : z ≤ 40) : tm_D (g_G sa sc xt) d 62 [.ref r] (wrl h r (ruc r E P K (nI z) hn a e)) Q ↔ Q (some (.int ((vrun E P K z).1 0))) (wrl h r (ruc r E P (vrun E P K z).1 (nI z) hn a e)) := by
  have loop : ∀ m j (x3 x4 x5 : Value), j + m = z → (tm_X (g_G sa sc xt) d 62 4 [.ref r, .int (nI (vrun E P K j).2), .int (nI j), x3, x4, x5] [] (wrl h r (ruc r E P (vrun E P K j).1 (nI z) hn a e)) Q ↔ Q (some (.int ((vrun E P K z).1 0))) (wrl h r (ruc r E P (vrun E P K z).1 (nI z) hn a e))) := by
    intro m
    induction m with
    | zero =>
      intro j x3 x4 x5 hj
      have hj : j = z := by omega
      subst hj
      rw [s_62_4]
      simp only [s_62_0, s_62_1, s_62_2, s_62_3, s_62_5, s_62_6, s_62_9, s_62_12, s_62_13, s_62_16, s_62_17, s_62_18, s_62_19, s_62_20, s_62_23, s_62_26, s_62_27, s_62_28, s_62_31, s_62_32, s_62_35, s_62_36, s_62_39, s_62_40, s_62_41, s_62_44, s_62_47, s_62_48, s_62_51, s_62_52, s_62_55, s_62_56, s_62_59, s_62_60, s_62_61, s_62_62, s_62_65, s_62_68, s_62_69, s_62_72, s_62_75, s_62_76, s_62_79, s_62_80, s_62_83, s_62_84, s_62_85, s_62_86, s_62_87, s_62_90, s_62_91, s_62_92, s_62_93, s_62_94, s_62_95, s_62_96, s_62_99, s_62_100, s_62_101, s_62_104, s_62_107, s_62_108, s_62_111, s_62_112, s_62_113, s_62_114, s_62_115, s_62_117, s_62_118, s_62_121, s_62_122, s_62_123, s_62_125, s_62_126, s_62_129, s_62_130, s_62_188, s_62_189, s_62_192, s_62_193, s_62_194, s_62_195, s_62_197, s_62_199, s_62_200, s_62_201, s_62_204, s_62_205, s_62_208, s_62_209, s_62_210, s_62_211, s_62_213, s_62_215, s_62_216, s_62_217, s_62_220, s_62_221, s_62_224, s_62_225, s_62_226, s_62_227, s_62_229, s_62_231, s_62_232, s_62_233, s_62_236, s_62_237, s_62_240, s_62_241, s_62_242, s_62_243, s_62_245, s_62_248, s_62_249, s_62_252, s_62_254, s_62_256, s_62_257, s_62_258, s_62_261, s_62_262, s_62_265, s_62_266, s_62_267, s_62_268, s_62_270, s_62_272, s_62_275, s_62_276, s_62_279, s_62_280, s_62_281, s_62_284, s_62_285, s_62_288, s_62_289, s_62_290, s_62_291, s_62_293, s_62_295, s_62_298, s_62_299, s_62_302, s_62_303, s_62_304, s_62_307, s_62_308, s_62_311, s_62_312, s_62_313, s_62_314, s_62_316, s_62_318, s_62_321, s_62_322, s_62_325, s_62_326, s_62_327, s_62_330, s_62_333, s_62_334, s_62_337, s_62_338, s_62_339, x_get_i, List.getElem?_cons_succ, List.getElem?_cons_zero, x_cv_j, cs_n, cs_i, cs_r, cs_l, Nat.reduceAdd, Nat.reduceLeDiff, true_and, Option.toList_some, Option.toList_none, List.cons_append, List.nil_append, if_true, if_false, nb0, nb1, x_setJ, x_setZ0, x_setZ1, x_setA, x_setO, List.length_cons, List.length_nil, Nat.reduceLT, List.set_cons_succ, List.set_cons_zero, wrl_0, wrl_3, Int32.le_refl]
      rw [show (0 : Int32) = nI 0 from rfl, x_ild_n (by decide) n40]
    | succ m ih =>
      intro j x3 x4 x5 hj
      have c1 : ¬ nI z ≤ nI j := nI_ge (by omega) (by omega)
      have ih := ih (j + 1)
      have es : vrun E P K (j + 1) = vstep E (P j) (vrun E P K j) := rfl
      have hT := vrun_le (E := E) (P := P) (K := K) j
      rw [es] at ih
      revert ih hT
      generalize vrun E P K j = s
      obtain ⟨S, T⟩ := s
      dsimp only
      intro ih hT
      rw [s_62_4]
      simp only [s_62_0, s_62_1, s_62_2, s_62_3, s_62_5, s_62_6, s_62_9, s_62_12, s_62_13, s_62_16, s_62_17, s_62_18, s_62_19, s_62_20, s_62_23, s_62_26, s_62_27, s_62_28, s_62_31, s_62_32, s_62_35, s_62_36, s_62_39, s_62_40, s_62_41, s_62_44, s_62_47, s_62_48, s_62_51, s_62_52, s_62_55, s_62_56, s_62_59, s_62_60, s_62_61, s_62_62, s_62_65, s_62_68, s_62_69, s_62_72, s_62_75, s_62_76, s_62_79, s_62_80, s_62_83, s_62_84, s_62_85, s_62_86, s_62_87, s_62_90, s_62_91, s_62_92, s_62_93, s_62_94, s_62_95, s_62_96, s_62_99, s_62_100, s_62_101, s_62_104, s_62_107, s_62_108, s_62_111, s_62_112, s_62_113, s_62_114, s_62_115, s_62_117, s_62_118, s_62_121, s_62_122, s_62_123, s_62_125, s_62_126, s_62_129, s_62_130, s_62_188, s_62_189, s_62_192, s_62_193, s_62_194, s_62_195, s_62_197, s_62_199, s_62_200, s_62_201, s_62_204, s_62_205, s_62_208, s_62_209, s_62_210, s_62_211, s_62_213, s_62_215, s_62_216, s_62_217, s_62_220, s_62_221, s_62_224, s_62_225, s_62_226, s_62_227, s_62_229, s_62_231, s_62_232, s_62_233, s_62_236, s_62_237, s_62_240, s_62_241, s_62_242, s_62_243, s_62_245, s_62_248, s_62_249, s_62_252, s_62_254, s_62_256, s_62_257, s_62_258, s_62_261, s_62_262, s_62_265, s_62_266, s_62_267, s_62_268, s_62_270, s_62_272, s_62_275, s_62_276, s_62_279, s_62_280, s_62_281, s_62_284, s_62_285, s_62_288, s_62_289, s_62_290, s_62_291, s_62_293, s_62_295, s_62_298, s_62_299, s_62_302, s_62_303, s_62_304, s_62_307, s_62_308, s_62_311, s_62_312, s_62_313, s_62_314, s_62_316, s_62_318, s_62_321, s_62_322, s_62_325, s_62_326, s_62_327, s_62_330, s_62_333, s_62_334, s_62_337, s_62_338, s_62_339, x_get_i, List.getElem?_cons_succ, List.getElem?_cons_zero, x_cv_j, cs_n, cs_i, cs_r, cs_l, Nat.reduceAdd, Nat.reduceLeDiff, true_and, Option.toList_some, Option.toList_none, List.cons_append, List.nil_append, if_true, if_false, nb0, nb1, x_setJ, x_setZ0, x_setZ1, x_setA, x_setO, List.length_cons, List.length_nil, Nat.reduceLT, List.set_cons_succ, List.set_cons_zero, wrl_0, wrl_2, c1, x_ild_n (show j < 40 by omega) n40]
      unfold vstep at ih
      dsimp only at ih
      by_cases p1 : P j < 1007
      · have p1' : ¬ 1007 ≤ P j := Int32.not_le.mpr p1
        simp only [p1', x_get_i, List.getElem?_cons_succ, List.getElem?_cons_zero, x_cv_j, cs_n, cs_i, cs_r, cs_l, Nat.reduceAdd, Nat.reduceLeDiff, true_and, Option.toList_some, Option.toList_none, List.cons_append, List.nil_append, if_true, if_false, nb0, nb1, x_setJ, x_setZ0, x_setZ1, x_setA, x_setO, List.length_cons, List.length_nil, Nat.reduceLT, List.set_cons_succ, List.set_cons_zero, wrl_3, x_len_i (show 0 < 6 by decide)]
        by_cases t1 : T < 40
        · have t2 : ¬ Int32.ofNat 40 ≤ nI T := nI_ge t1 (by decide)
          simp only [t2, if_false]
          by_cases p2 : P j < 1000
          · have p2' : ¬ 1000 ≤ P j := Int32.not_le.mpr p2
            simp only [p2', if_false, x_ist_n t1 n40, wrl_p3, nI_1]
            simp only [p1, t1, p2, if_true] at ih
            exact ih _ _ _ (by omega)
          · have p2' : 1000 ≤ P j := Int32.not_lt.mp p2
            have hx : ∃ i, i < 7 ∧ P j - 1000 = nI i := by
              have q1 : (1000 : Int) ≤ (P j).toInt := Int32.le_iff_toInt_le.mp p2'
              have q2 : (P j).toInt < 1007 := Int32.lt_iff_toInt_lt.mp p1
              refine ⟨((P j).toInt - 1000).toNat, by omega, ?_⟩
              apply Int32.toInt_inj.mp
              rw [nI_toInt (by omega), Int32.toInt_sub]
              show (((P j).toInt - 1000).bmod (2 ^ 32)) = _
              rw [Int.bmod_eq_of_le (by omega) (by omega)]
              omega
            obtain ⟨i, i1, i2⟩ := hx
            simp only [p2', if_true, wrl_1, i2, x_ild_n i1 n7, x_ist_n t1 n40, wrl_p3, nI_1]
            simp only [p1, t1, p2, if_true, if_false, i2, nI_clamp (show i < 2 ^ 31 by omega)] at ih
            exact ih _ _ _ (by omega)
        · have t2 : Int32.ofNat 40 ≤ nI T := nI_le (a := 40) (by omega) (by omega)
          simp only [t2, if_true, nI_1]
          simp only [p1, t1, if_true, if_false] at ih
          exact ih _ _ _ (by omega)
      · have p1' : 1007 ≤ P j := Int32.not_lt.mp p1
        simp only [p1', x_get_i, List.getElem?_cons_succ, List.getElem?_cons_zero, x_cv_j, cs_n, cs_i, cs_r, cs_l, Nat.reduceAdd, Nat.reduceLeDiff, true_and, Option.toList_some, Option.toList_none, List.cons_append, List.nil_append, if_true, if_false, nb0, nb1, x_setJ, x_setZ0, x_setZ1, x_setA, x_setO, List.length_cons, List.length_nil, Nat.reduceLT, List.set_cons_succ, List.set_cons_zero]
        by_cases p3 : P j = 2000
        · simp only [p3, if_true]
          rw [if_neg p1, if_pos p3] at ih
          by_cases t0 : 0 < T
          · have t1 : ¬ nI T ≤ 0 := nI_nle t0 (by omega)
            simp only [t1, if_false, wrl_3, nI_m1 t0, x_ild_n (show T - 1 < 40 by omega) n40, x_ist_n (show T - 1 < 40 by omega) n40, wrl_p3, nI_1]
            rw [if_pos t0] at ih
            exact ih _ _ _ (by omega)
          · have t1 : nI T ≤ 0 := by rw [show T = 0 by omega]; decide
            simp only [t1, if_true, nI_1]
            rw [if_neg t0] at ih
            exact ih _ _ _ (by omega)
        · simp only [p3, if_false]
          simp only [p1, p3, if_false] at ih
          by_cases t0 : 1 < T
          · have t1 : ¬ nI T ≤ 1 := nI_ge (a := 1) t0 (by omega)
            have t2 : nI T + -1 = nI (T - 1) := by rw [← nI_m1 (by omega), Int32.sub_eq_add_neg]
            have t3 : nI (T - 1) - 1 = nI (T - 2) := nI_m1 (by omega)
            simp only [t1, if_false, wrl_3, t2, t3, x_ild_n (show T - 1 < 40 by omega) n40, x_ild_n (show T - 2 < 40 by omega) n40, nI_1]
            simp only [t0, if_true] at ih
            unfold vop at ih
            have hT2 : T - 2 < 40 := by omega
            by_cases o1 : P j - 1007 = 42
            · simp only [o1, if_true, x_ist_n hT2 n40, wrl_p3] at ih ⊢
              exact ih _ _ _ (by omega)
            by_cases o2 : P j - 1007 = 43
            · simp only [o2, show ¬ (43 : Int32) = 42 by decide, if_true, if_false, x_ist_n hT2 n40, wrl_p3] at ih ⊢
              exact ih _ _ _ (by omega)
            by_cases o3 : P j - 1007 = 45
            · simp only [o3, show ¬ (45 : Int32) = 42 by decide, show ¬ (45 : Int32) = 43 by decide, if_true, if_false, x_ist_n hT2 n40, wrl_p3] at ih ⊢
              exact ih _ _ _ (by omega)
            by_cases o4 : P j - 1007 = 47
            · simp only [o4, show ¬ (47 : Int32) = 42 by decide, show ¬ (47 : Int32) = 43 by decide, show ¬ (47 : Int32) = 45 by decide, if_true, if_false] at ih ⊢
              by_cases d0 : S (T - 1) = 0
              · simp only [d0, if_true] at ih ⊢
                simp only [x_ist_n hT2 n40, wrl_p3]
                exact ih _ _ _ (by omega)
              · simp only [d0, if_false] at ih ⊢
                simp only [x_ist_n hT2 n40, wrl_p3]
                exact ih _ _ _ (by omega)
            by_cases o5 : P j - 1007 = 60
            · simp only [o5, show ¬ (60 : Int32) = 42 by decide, show ¬ (60 : Int32) = 43 by decide, show ¬ (60 : Int32) = 45 by decide, show ¬ (60 : Int32) = 47 by decide, if_true, if_false] at ih ⊢
              by_cases d0 : S (T - 2) < S (T - 1)
              · simp only [d0, show ¬ S (T - 1) ≤ S (T - 2) from Int32.not_le.mpr d0, if_true, if_false, x_ist_n hT2 n40, wrl_p3] at ih ⊢
                exact ih _ _ _ (by omega)
              · simp only [d0, show S (T - 1) ≤ S (T - 2) from Int32.not_lt.mp d0, if_true, if_false, x_ist_n hT2 n40, wrl_p3] at ih ⊢
                exact ih _ _ _ (by omega)
            by_cases o6 : P j - 1007 = 62
            · simp only [o6, show ¬ (62 : Int32) = 42 by decide, show ¬ (62 : Int32) = 43 by decide, show ¬ (62 : Int32) = 45 by decide, show ¬ (62 : Int32) = 47 by decide, show ¬ (62 : Int32) = 60 by decide, if_true, if_false] at ih ⊢
              by_cases d0 : S (T - 1) < S (T - 2)
              · simp only [d0, show ¬ S (T - 2) ≤ S (T - 1) from Int32.not_le.mpr d0, if_true, if_false, x_ist_n hT2 n40, wrl_p3] at ih ⊢
                exact ih _ _ _ (by omega)
              · simp only [d0, show S (T - 2) ≤ S (T - 1) from Int32.not_lt.mp d0, if_true, if_false, x_ist_n hT2 n40, wrl_p3] at ih ⊢
                exact ih _ _ _ (by omega)
            simp only [o1, o2, o3, o4, o5, o6, if_false] at ih ⊢
            by_cases d0 : S (T - 2) = S (T - 1)
            · simp only [d0, if_true] at ih ⊢
              simp only [x_ist_n hT2 n40, wrl_p3]
              exact ih _ _ _ (by omega)
            · simp only [d0, if_false, x_ist_n hT2 n40, wrl_p3] at ih ⊢
              exact ih _ _ _ (by omega)
          · have t1 : nI T ≤ 1 := nI_le (b := 1) (by omega) (by decide)
            simp only [t1, if_true, nI_1]
            rw [if_neg t0] at ih
            exact ih _ _ _ (by omega)
  rw [e_62]
  simp only [s_62_0, s_62_1, s_62_2, s_62_3, s_62_5, s_62_6, s_62_9, s_62_12, s_62_13, s_62_16, s_62_17, s_62_18, s_62_19, s_62_20, s_62_23, s_62_26, s_62_27, s_62_28, s_62_31, s_62_32, s_62_35, s_62_36, s_62_39, s_62_40, s_62_41, s_62_44, s_62_47, s_62_48, s_62_51, s_62_52, s_62_55, s_62_56, s_62_59, s_62_60, s_62_61, s_62_62, s_62_65, s_62_68, s_62_69, s_62_72, s_62_75, s_62_76, s_62_79, s_62_80, s_62_83, s_62_84, s_62_85, s_62_86, s_62_87, s_62_90, s_62_91, s_62_92, s_62_93, s_62_94, s_62_95, s_62_96, s_62_99, s_62_100, s_62_101, s_62_104, s_62_107, s_62_108, s_62_111, s_62_112, s_62_113, s_62_114, s_62_115, s_62_117, s_62_118, s_62_121, s_62_122, s_62_123, s_62_125, s_62_126, s_62_129, s_62_130, s_62_188, s_62_189, s_62_192, s_62_193, s_62_194, s_62_195, s_62_197, s_62_199, s_62_200, s_62_201, s_62_204, s_62_205, s_62_208, s_62_209, s_62_210, s_62_211, s_62_213, s_62_215, s_62_216, s_62_217, s_62_220, s_62_221, s_62_224, s_62_225, s_62_226, s_62_227, s_62_229, s_62_231, s_62_232, s_62_233, s_62_236, s_62_237, s_62_240, s_62_241, s_62_242, s_62_243, s_62_245, s_62_248, s_62_249, s_62_252, s_62_254, s_62_256, s_62_257, s_62_258, s_62_261, s_62_262, s_62_265, s_62_266, s_62_267, s_62_268, s_62_270, s_62_272, s_62_275, s_62_276, s_62_279, s_62_280, s_62_281, s_62_284, s_62_285, s_62_288, s_62_289, s_62_290, s_62_291, s_62_293, s_62_295, s_62_298, s_62_299, s_62_302, s_62_303, s_62_304, s_62_307, s_62_308, s_62_311, s_62_312, s_62_313, s_62_314, s_62_316, s_62_318, s_62_321, s_62_322, s_62_325, s_62_326, s_62_327, s_62_330, s_62_333, s_62_334, s_62_337, s_62_338, s_62_339]
  exact loop z 0 _ _ _ (by omega)
end
