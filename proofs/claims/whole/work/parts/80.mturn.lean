/-! the reference: a sort's turn -/
theorem ra_mk {J : Nat → Int32} {a w : Int32} : iu (iu J 11 a) 12 w = ra J a w := by
  funext j
  unfold iu ra
  by_cases c : j = 12
  · subst c; rfl
  · rw [if_neg c, if_neg c]
def rOt (B : Nat → Int32) (s : Nat) : Nat → Int32 := fo (fun o a => if o = s then a else if B o = B s then a + 1 else a) 0
def rMd (M B : Nat → Int32) (s : Nat) : Nat → Int32 := fo (fun o a => if o = s then a else if B o = B s then a + M o else a) 0
theorem rOt_n {B : Nat → Int32} {s : Nat} : ∀ n, ∃ k, k ≤ n ∧ rOt B s n = nI k
  | 0 => ⟨0, Nat.le_refl _, rfl⟩
  | n + 1 => by
    obtain ⟨k, hk, e⟩ := rOt_n (B := B) (s := s) n
    have es : rOt B s (n + 1) = if n = s then rOt B s n else if B n = B s then rOt B s n + 1 else rOt B s n := rfl
    rw [es, e]
    split
    · exact ⟨k, by omega, rfl⟩
    · split
      · exact ⟨k + 1, by omega, nI_1 k⟩
      · exact ⟨k, by omega, rfl⟩
/-- the seven things, as the reference has them -/
def renv (N L : Nat → Int32) (n s : Nat) : Nat → Int32 := e7 (N (12 + s)) (N s) (L s) (rOt (rB N) s n) (rMd (rM N) (rB N) s n) (nI s) (N 37 - N 37 / 7 * 7) (fun _ => 0)
/-- only what a turn may write has changed -/
def TSC (I I' : Nat → Int32) (C C' : Nat → tm_E) : Prop := (∀ k, k ≠ 9 → k ≠ 10 → k ≠ 11 → k ≠ 12 → I' k = I k) ∧ (∀ j, j ≠ 8 → C' j = C j) ∧ ∃ f, C' 8 = .inl (0, 7, .inl f)
theorem TSC.trans {I I' I2 : Nat → Int32} {C C' C2 : Nat → tm_E} (a : TSC I I' C C') (b : TSC I' I2 C' C2) : TSC I I2 C C2 := ⟨fun k h1 h2 h3 h4 => (b.1 k h1 h2 h3 h4).trans (a.1 k h1 h2 h3 h4), fun j hj => (b.2.1 j hj).trans (a.2.1 j hj), b.2.2⟩
section
variable {sa : g_SA} {sc : Nat × Nat × (Nat → Int32)} {xt : Nat → Nat → List Value → tm_H → Option (Option Value × tm_H)} {d m : Nat} {h : tm_H} {Q : Option Value → tm_H → Prop} {I : Nat → Int32} {rd : Value} {ru : Nat} {C : Nat → tm_E}
variable {x n s rs : Nat} {N L T F f8 : Nat → Int32} {cd : List Int32}
theorem r_begin {r : Nat} {l t : Int32} : tm_D (g_G sa sc xt) d 187 [.ref m, .ref r, .int l, .int t] (mh h m I rd ru C) Q ↔ Q none (mh h m (ra (iu (iu I 9 l) 10 t) 0 (-1)) (.ref r) ru C) := by
  rw [e_187]
  simp only [s_187_0, s_187_1, s_187_2, s_187_5, s_187_6, s_187_7, s_187_10, s_187_11, s_187_12, s_187_15, s_187_16, s_187_17, s_187_20, s_187_21, s_187_22, s_187_25, x_get_i, List.getElem?_cons_succ, List.getElem?_cons_zero, x_cv_j, cs_n, cs_i, cs_r, cs_l, Nat.reduceAdd, Nat.reduceLeDiff, true_and, Option.toList_some, Option.toList_none, List.cons_append, List.nil_append, if_true, if_false, nb0, nb1, x_setJ, x_setZ0, x_setZ1, x_setA, x_setO, List.length_cons, List.length_nil, Nat.reduceLT, List.set_cons_succ, List.set_cons_zero, wrl_0, wrl_1, wrl_2, wrl_3, wrl_4, wrl_5, wrl_p0, wrl_p1, wrl_p2, wrl_p3, wrl_p4, mh_o, mh_po, mcv, mg_0, mg_1, mg_2, mg_3, mg_4, mg_5, mg_6, mg_7, mg_8, mg_9, mg_10, mg_11, mg_12, mg_13, mg_14, mg_15, mg_16, mg_17, mg_18, mg_19, mg_20, mg_21, mg_22, mg_23, mg_24, mg_25, mg_26, mg_27, mg_28, mg_29, mg_30, mg_31, mg_32, mg_33, mg_34, mg_35, mg_36, mg_37, mg_38, mg_39, mg_40, mg_41, mg_42, mg_43, mg_44, mg_45, mg_46, ms_1, ms_4, ms_6, ms_7, ms_9, ms_10, ms_11, ms_12, ms_16, ms_20, ms_24, ms_28, ms_35, ms_39, ms_42, ms_43, ms_17t, ms_17f, ms_8, ms_14, mc_1, mp_1, mc_2, mp_2, mc_3, mp_3, mc_4, mp_4, mc_5, mp_5, mc_6, mp_6, mc_7, mp_7, mc_8, mp_8, mc_9, mp_9, mc_10, mp_10, mc_11, mp_11, mc_12, mp_12, mc_13, mp_13, mc_14, mp_14, mc_15, mp_15, mc_16, mp_16, mc_17, mp_17, mc_18, mp_18, mc_19, mp_19, mc_20, mp_20, mc_21, mp_21, mc_22, mp_22, mc_23, mp_23, mc_24, mp_24, mc_25, mp_25, mc_26, mp_26, mc_27, mp_27, mc_28, mp_28, mc_29, mp_29, iu, cup, Nat.reduceEqDiff, ra_mk]
set_option maxHeartbeats 1000000 in
theorem r_turnOf (h1 : I 1 = nI n) (hn : n ≤ 12) (hs : s < n) (hx : x = m + 1 ∨ x = m + 11) (hxN : C (x - m) = .inl (0, 38, .inl N)) (hL : C 2 = .inl (0, 12, .inl L)) (h8 : C 8 = .inl (0, 7, .inl f8)) (h16 : I 16 = nI rs) (h17 : I 17 = 0) (hrs : rs ≤ 40) (hru : ru = m + 6 ∨ ru = m + 7) (hT : C (ru - m) = .inl (1, 40, .inl T)) (hRT : RT T F 40) (hcd : rrd F rs = .inr cd) (hQ : ∀ I' rd' C', TSC I I' C C' → Q (some (.int (pm (evv (renv N L n s) cd)))) (mh h m I' rd' ru C')) : tm_D (g_G sa sc xt) (d + 267) 206 [.ref m, .ref x, .int (nI s)] (mh h m I rd ru C) Q := by
  have hxc : ∀ (I : Nat → Int32) (rd : Value) (ru : Nat) (C' : Nat → tm_E), C' (x - m) = .inl (0, 38, .inl N) → (mh h m I rd ru C').2.2 x = .inl (0, 38, .inl N) := by
    intro I rd ru C' hc
    rcases hx with e | e
    · subst e
      rw [mc_1]
      rw [show m + 1 - m = 1 by omega] at hc
      exact hc
    · subst e
      rw [mc_11]
      rw [show m + 11 - m = 11 by omega] at hc
      exact hc
  have hx8 : x - m ≠ 8 := by omega
  have hx0 := hxc I rd ru C hxN
  have s12 : s < 12 := by omega
  have loop : ∀ (j o : Nat), o + j = n → tm_X (g_G sa sc xt) (d + 267) 206 8 [.ref m, .ref x, .int (nI s), .int (rOt (rB N) s o), .int (rMd (rM N) (rB N) s o), .int (nI o)] [] (mh h m I rd ru C) Q := by
    intro j
    induction j with
    | zero =>
      intro o ho
      have ho : o = n := by omega
      subst ho
      obtain ⟨k, hk, ek⟩ := rOt_n (B := rB N) (s := s) o
      have key : ∀ v : Int32, v = ((if rOt (rB N) s o = 0 then 0 else rMd (rM N) (rB N) s o / rOt (rB N) s o) - N (12 + s)) / 2 → tm_X (g_G sa sc xt) (d + 267) 206 86 [.ref m, .ref x, .int (nI s), .int (rOt (rB N) s o), .int (rMd (rM N) (rB N) s o), .int v] [] (mh h m I rd ru C) Q := by
        intro v0 ev
        by_cases r0 : rs = 0
        · subst r0
          have ecd : cd = rfirst := by
            have : rrd F 0 = .inr rfirst := rfl
            rw [this] at hcd
            cases hcd; rfl
          have hq := hQ I rd C ⟨fun _ _ _ _ _ => rfl, fun _ _ => rfl, ⟨f8, h8⟩⟩
          rw [ecd, VPr_first.2] at hq
          have hE : vop 47 (vop 45 (vop 47 (renv N L o s 4) (renv N L o s 3)) (renv N L o s 0)) 2 = ((if rOt (rB N) s o = 0 then 0 else rMd (rM N) (rB N) s o / rOt (rB N) s o) - N (12 + s)) / 2 := rfl
          rw [hE, ← ev] at hq
          rw [s_206_86]
          simp only [s_206_0, s_206_1, s_206_2, s_206_3, s_206_5, s_206_6, s_206_10, s_206_11, s_206_14, s_206_17, s_206_19, s_206_20, s_206_23, s_206_24, s_206_26, s_206_28, s_206_29, s_206_30, s_206_31, s_206_33, s_206_34, s_206_35, s_206_36, s_206_39, s_206_42, s_206_45, s_206_47, s_206_48, s_206_50, s_206_52, s_206_53, s_206_54, s_206_55, s_206_57, s_206_60, s_206_63, s_206_64, s_206_67, s_206_68, s_206_71, s_206_73, s_206_74, s_206_75, s_206_76, s_206_78, s_206_79, s_206_80, s_206_81, s_206_82, s_206_83, s_206_84, s_206_86, s_206_87, s_206_90, s_206_93, s_206_94, s_206_97, s_206_98, s_206_99, s_206_101, s_206_102, s_206_103, s_206_104, s_206_105, s_206_106, s_206_109, s_206_110, s_206_111, s_206_112, s_206_113, s_206_114, s_206_115, s_206_118, s_206_119, s_206_120, s_206_123, s_206_124, s_206_125, s_206_126, s_206_127, s_206_130, s_206_131, s_206_132, s_206_133, s_206_134, s_206_137, s_206_138, s_206_140, s_206_141, s_206_142, s_206_145, s_206_146, s_206_147, s_206_148, s_206_149, s_206_152, s_206_154, s_206_155, s_206_157, s_206_158, s_206_160, s_206_161, s_206_162, s_206_163, s_206_164, s_206_167, s_206_168, s_206_171, s_206_173, s_206_176, s_206_177, s_206_178, s_206_181, s_206_182, s_206_183, s_206_186, s_206_188, s_206_189, s_206_190, s_206_193, s_206_195, s_206_198, x_get_i, List.getElem?_cons_succ, List.getElem?_cons_zero, x_cv_j, cs_n, cs_i, cs_r, cs_l, Nat.reduceAdd, Nat.reduceLeDiff, true_and, Option.toList_some, Option.toList_none, List.cons_append, List.nil_append, if_true, if_false, nb0, nb1, x_setJ, x_setZ0, x_setZ1, x_setA, x_setO, List.length_cons, List.length_nil, Nat.reduceLT, List.set_cons_succ, List.set_cons_zero, wrl_0, wrl_1, wrl_2, wrl_3, wrl_4, wrl_5, wrl_p0, wrl_p1, wrl_p2, wrl_p3, wrl_p4, mh_o, mh_po, mcv, mg_0, mg_1, mg_2, mg_3, mg_4, mg_5, mg_6, mg_7, mg_8, mg_9, mg_10, mg_11, mg_12, mg_13, mg_14, mg_15, mg_16, mg_17, mg_18, mg_19, mg_20, mg_21, mg_22, mg_23, mg_24, mg_25, mg_26, mg_27, mg_28, mg_29, mg_30, mg_31, mg_32, mg_33, mg_34, mg_35, mg_36, mg_37, mg_38, mg_39, mg_40, mg_41, mg_42, mg_43, mg_44, mg_45, mg_46, ms_1, ms_4, ms_6, ms_7, ms_9, ms_10, ms_11, ms_12, ms_16, ms_20, ms_24, ms_28, ms_35, ms_39, ms_42, ms_43, ms_17t, ms_17f, ms_8, ms_14, mc_1, mp_1, mc_2, mp_2, mc_3, mp_3, mc_4, mp_4, mc_5, mp_5, mc_6, mp_6, mc_7, mp_7, mc_8, mp_8, mc_9, mp_9, mc_10, mp_10, mc_11, mp_11, mc_12, mp_12, mc_13, mp_13, mc_14, mp_14, mc_15, mp_15, mc_16, mp_16, mc_17, mp_17, mc_18, mp_18, mc_19, mp_19, mc_20, mp_20, mc_21, mp_21, mc_22, mp_22, mc_23, mp_23, mc_24, mp_24, mc_25, mp_25, mc_26, mp_26, mc_27, mp_27, mc_28, mp_28, mc_29, mp_29, iu, cup, Nat.reduceEqDiff, h16, show nI 0 ≤ 0 by decide, if_true, r_put]
          exact hq
        · have rp : ¬ nI rs ≤ 0 := nI_nle (by omega) (by omega)
          have hc2 : ∀ v : Int32, tm_X (g_G sa sc xt) (d + 267) 206 86 [.ref m, .ref x, .int (nI s), .int (rOt (rB N) s o), .int (rMd (rM N) (rB N) s o), .int v] [] (mh h m I rd ru C) Q := by
            intro v
            have c8 : ∀ (e e' : tm_E), cup C 8 e (x - m) = C (x - m) := fun e _ => if_neg hx8
            have hxu : ∀ (I : Nat → Int32) (rd : Value) (ru : Nat) (e : tm_E), (mh h m I rd ru (cup C 8 e)).2.2 x = .inl (0, 38, .inl N) := fun I rd ru e => hxc I rd ru _ ((if_neg hx8).trans hxN)
            rw [s_206_86]
            simp only [s_206_0, s_206_1, s_206_2, s_206_3, s_206_5, s_206_6, s_206_10, s_206_11, s_206_14, s_206_17, s_206_19, s_206_20, s_206_23, s_206_24, s_206_26, s_206_28, s_206_29, s_206_30, s_206_31, s_206_33, s_206_34, s_206_35, s_206_36, s_206_39, s_206_42, s_206_45, s_206_47, s_206_48, s_206_50, s_206_52, s_206_53, s_206_54, s_206_55, s_206_57, s_206_60, s_206_63, s_206_64, s_206_67, s_206_68, s_206_71, s_206_73, s_206_74, s_206_75, s_206_76, s_206_78, s_206_79, s_206_80, s_206_81, s_206_82, s_206_83, s_206_84, s_206_86, s_206_87, s_206_90, s_206_93, s_206_94, s_206_97, s_206_98, s_206_99, s_206_101, s_206_102, s_206_103, s_206_104, s_206_105, s_206_106, s_206_109, s_206_110, s_206_111, s_206_112, s_206_113, s_206_114, s_206_115, s_206_118, s_206_119, s_206_120, s_206_123, s_206_124, s_206_125, s_206_126, s_206_127, s_206_130, s_206_131, s_206_132, s_206_133, s_206_134, s_206_137, s_206_138, s_206_140, s_206_141, s_206_142, s_206_145, s_206_146, s_206_147, s_206_148, s_206_149, s_206_152, s_206_154, s_206_155, s_206_157, s_206_158, s_206_160, s_206_161, s_206_162, s_206_163, s_206_164, s_206_167, s_206_168, s_206_171, s_206_173, s_206_176, s_206_177, s_206_178, s_206_181, s_206_182, s_206_183, s_206_186, s_206_188, s_206_189, s_206_190, s_206_193, s_206_195, s_206_198, x_get_i, List.getElem?_cons_succ, List.getElem?_cons_zero, x_cv_j, cs_n, cs_i, cs_r, cs_l, Nat.reduceAdd, Nat.reduceLeDiff, true_and, Option.toList_some, Option.toList_none, List.cons_append, List.nil_append, if_true, if_false, nb0, nb1, x_setJ, x_setZ0, x_setZ1, x_setA, x_setO, List.length_cons, List.length_nil, Nat.reduceLT, List.set_cons_succ, List.set_cons_zero, wrl_0, wrl_1, wrl_2, wrl_3, wrl_4, wrl_5, wrl_p0, wrl_p1, wrl_p2, wrl_p3, wrl_p4, mh_o, mh_po, mcv, mg_0, mg_1, mg_2, mg_3, mg_4, mg_5, mg_6, mg_7, mg_8, mg_9, mg_10, mg_11, mg_12, mg_13, mg_14, mg_15, mg_16, mg_17, mg_18, mg_19, mg_20, mg_21, mg_22, mg_23, mg_24, mg_25, mg_26, mg_27, mg_28, mg_29, mg_30, mg_31, mg_32, mg_33, mg_34, mg_35, mg_36, mg_37, mg_38, mg_39, mg_40, mg_41, mg_42, mg_43, mg_44, mg_45, mg_46, ms_1, ms_4, ms_6, ms_7, ms_9, ms_10, ms_11, ms_12, ms_16, ms_20, ms_24, ms_28, ms_35, ms_39, ms_42, ms_43, ms_17t, ms_17f, ms_8, ms_14, mc_1, mp_1, mc_2, mp_2, mc_3, mp_3, mc_4, mp_4, mc_5, mp_5, mc_6, mp_6, mc_7, mp_7, mc_8, mp_8, mc_9, mp_9, mc_10, mp_10, mc_11, mp_11, mc_12, mp_12, mc_13, mp_13, mc_14, mp_14, mc_15, mp_15, mc_16, mp_16, mc_17, mp_17, mc_18, mp_18, mc_19, mp_19, mc_20, mp_20, mc_21, mp_21, mc_22, mp_22, mc_23, mp_23, mc_24, mp_24, mc_25, mp_25, mc_26, mp_26, mc_27, mp_27, mc_28, mp_28, mc_29, mp_29, iu, cup, Nat.reduceEqDiff, h16, rp, h8, hL, hx0, hxu, e12, x_ild_n (show 12 + s < 38 by omega) n38, x_ild_n (show s < 38 by omega) n38, x_ild_n s12 n12, i37, x_ild_n (show 37 < 38 by decide) n38, x_ist_k (j := 0) (i := 0) rfl (by decide) n7, x_ist_k (j := 1) (i := 1) rfl (by decide) n7, x_ist_k (j := 2) (i := 2) rfl (by decide) n7, x_ist_k (j := 3) (i := 3) rfl (by decide) n7, x_ist_k (j := 4) (i := 4) rfl (by decide) n7, x_ist_k (j := 5) (i := 5) rfl (by decide) n7, x_ist_k (j := 6) (i := 6) rfl (by decide) n7, cup_cup, e7_u, show ¬ (7 : Int32) = 0 by decide]
            rw [r_begin]
            simp only [s_206_0, s_206_1, s_206_2, s_206_3, s_206_5, s_206_6, s_206_10, s_206_11, s_206_14, s_206_17, s_206_19, s_206_20, s_206_23, s_206_24, s_206_26, s_206_28, s_206_29, s_206_30, s_206_31, s_206_33, s_206_34, s_206_35, s_206_36, s_206_39, s_206_42, s_206_45, s_206_47, s_206_48, s_206_50, s_206_52, s_206_53, s_206_54, s_206_55, s_206_57, s_206_60, s_206_63, s_206_64, s_206_67, s_206_68, s_206_71, s_206_73, s_206_74, s_206_75, s_206_76, s_206_78, s_206_79, s_206_80, s_206_81, s_206_82, s_206_83, s_206_84, s_206_86, s_206_87, s_206_90, s_206_93, s_206_94, s_206_97, s_206_98, s_206_99, s_206_101, s_206_102, s_206_103, s_206_104, s_206_105, s_206_106, s_206_109, s_206_110, s_206_111, s_206_112, s_206_113, s_206_114, s_206_115, s_206_118, s_206_119, s_206_120, s_206_123, s_206_124, s_206_125, s_206_126, s_206_127, s_206_130, s_206_131, s_206_132, s_206_133, s_206_134, s_206_137, s_206_138, s_206_140, s_206_141, s_206_142, s_206_145, s_206_146, s_206_147, s_206_148, s_206_149, s_206_152, s_206_154, s_206_155, s_206_157, s_206_158, s_206_160, s_206_161, s_206_162, s_206_163, s_206_164, s_206_167, s_206_168, s_206_171, s_206_173, s_206_176, s_206_177, s_206_178, s_206_181, s_206_182, s_206_183, s_206_186, s_206_188, s_206_189, s_206_190, s_206_193, s_206_195, s_206_198, x_get_i, List.getElem?_cons_succ, List.getElem?_cons_zero, x_cv_j, cs_n, cs_i, cs_r, cs_l, Nat.reduceAdd, Nat.reduceLeDiff, true_and, Option.toList_some, Option.toList_none, List.cons_append, List.nil_append, if_true, if_false, nb0, nb1, x_setJ, x_setZ0, x_setZ1, x_setA, x_setO, List.length_cons, List.length_nil, Nat.reduceLT, List.set_cons_succ, List.set_cons_zero, wrl_0, wrl_1, wrl_2, wrl_3, wrl_4, wrl_5, wrl_p0, wrl_p1, wrl_p2, wrl_p3, wrl_p4, mh_o, mh_po, mcv, mg_0, mg_1, mg_2, mg_3, mg_4, mg_5, mg_6, mg_7, mg_8, mg_9, mg_10, mg_11, mg_12, mg_13, mg_14, mg_15, mg_16, mg_17, mg_18, mg_19, mg_20, mg_21, mg_22, mg_23, mg_24, mg_25, mg_26, mg_27, mg_28, mg_29, mg_30, mg_31, mg_32, mg_33, mg_34, mg_35, mg_36, mg_37, mg_38, mg_39, mg_40, mg_41, mg_42, mg_43, mg_44, mg_45, mg_46, ms_1, ms_4, ms_6, ms_7, ms_9, ms_10, ms_11, ms_12, ms_16, ms_20, ms_24, ms_28, ms_35, ms_39, ms_42, ms_43, ms_17t, ms_17f, ms_8, ms_14, mc_1, mp_1, mc_2, mp_2, mc_3, mp_3, mc_4, mp_4, mc_5, mp_5, mc_6, mp_6, mc_7, mp_7, mc_8, mp_8, mc_9, mp_9, mc_10, mp_10, mc_11, mp_11, mc_12, mp_12, mc_13, mp_13, mc_14, mp_14, mc_15, mp_15, mc_16, mp_16, mc_17, mp_17, mc_18, mp_18, mc_19, mp_19, mc_20, mp_20, mc_21, mp_21, mc_22, mp_22, mc_23, mp_23, mc_24, mp_24, mc_25, mp_25, mc_26, mp_26, mc_27, mp_27, mc_28, mp_28, mc_29, mp_29, iu, cup, Nat.reduceEqDiff, ra_o (show 17 ≠ 11 by decide) (show 17 ≠ 12 by decide)]
            unfold rrd at hcd
            rw [if_neg r0, show min rs 40 = rs by omega] at hcd
            have hR : RDX h m (cup C 8 (.inl (0, 7, .inl (e7 (N (12 + s)) (N s) (L s) (rOt (rB N) s o) (rMd (rM N) (rB N) s o) (nI s) (N 37 - N 37 / 7 * 7) f8)))) ru (iu (iu (iu I 9 (nI rs)) 10 40) 17 1) F rs rs := by
              refine ⟨T, 40, 40, fun I rd ru' => ?_, hRT, rfl, rfl, hrs, by decide, by decide, by omega⟩
              rcases hru with e | e
              · rw [e, mc_6]
                rw [e, show m + 6 - m = 6 by omega] at hT
                exact hT
              · rw [e, mc_7]
                rw [e, show m + 7 - m = 7 by omega] at hT
                exact hT
            have hE : EK (cup C 8 (.inl (0, 7, .inl (e7 (N (12 + s)) (N s) (L s) (rOt (rB N) s o) (rMd (rM N) (rB N) s o) (nI s) (N 37 - N 37 / 7 * 7) f8)))) (iu (iu (iu I 9 (nI rs)) 10 40) 17 1) (e7 (N (12 + s)) (N s) (L s) (rOt (rB N) s o) (rMd (rM N) (rB N) s o) (nI s) (N 37 - N 37 / 7 * 7) f8) := Or.inr ⟨rfl, rfl⟩
            have hM := m_rule (sa := sa) (sc := sc) (xt := xt) (ru := ru) hR hrs hE
            have hM := hM (d + 1) 0
            rw [show d + 1 + 265 = d + 266 by omega] at hM
            refine hM _ (Nat.zero_le _) (fun q c e => ?_) (fun p q v e hq => ?_)
            · rw [e] at hcd
              dsimp only at hcd
              split at hcd
              · cases hcd
              · rw [if_neg (by omega)] at hcd
                cases hcd
                simp only [s_206_0, s_206_1, s_206_2, s_206_3, s_206_5, s_206_6, s_206_10, s_206_11, s_206_14, s_206_17, s_206_19, s_206_20, s_206_23, s_206_24, s_206_26, s_206_28, s_206_29, s_206_30, s_206_31, s_206_33, s_206_34, s_206_35, s_206_36, s_206_39, s_206_42, s_206_45, s_206_47, s_206_48, s_206_50, s_206_52, s_206_53, s_206_54, s_206_55, s_206_57, s_206_60, s_206_63, s_206_64, s_206_67, s_206_68, s_206_71, s_206_73, s_206_74, s_206_75, s_206_76, s_206_78, s_206_79, s_206_80, s_206_81, s_206_82, s_206_83, s_206_84, s_206_86, s_206_87, s_206_90, s_206_93, s_206_94, s_206_97, s_206_98, s_206_99, s_206_101, s_206_102, s_206_103, s_206_104, s_206_105, s_206_106, s_206_109, s_206_110, s_206_111, s_206_112, s_206_113, s_206_114, s_206_115, s_206_118, s_206_119, s_206_120, s_206_123, s_206_124, s_206_125, s_206_126, s_206_127, s_206_130, s_206_131, s_206_132, s_206_133, s_206_134, s_206_137, s_206_138, s_206_140, s_206_141, s_206_142, s_206_145, s_206_146, s_206_147, s_206_148, s_206_149, s_206_152, s_206_154, s_206_155, s_206_157, s_206_158, s_206_160, s_206_161, s_206_162, s_206_163, s_206_164, s_206_167, s_206_168, s_206_171, s_206_173, s_206_176, s_206_177, s_206_178, s_206_181, s_206_182, s_206_183, s_206_186, s_206_188, s_206_189, s_206_190, s_206_193, s_206_195, s_206_198, x_get_i, List.getElem?_cons_succ, List.getElem?_cons_zero, x_cv_j, cs_n, cs_i, cs_r, cs_l, Nat.reduceAdd, Nat.reduceLeDiff, true_and, Option.toList_some, Option.toList_none, List.cons_append, List.nil_append, if_true, if_false, nb0, nb1, x_setJ, x_setZ0, x_setZ1, x_setA, x_setO, List.length_cons, List.length_nil, Nat.reduceLT, List.set_cons_succ, List.set_cons_zero, wrl_0, wrl_1, wrl_2, wrl_3, wrl_4, wrl_5, wrl_p0, wrl_p1, wrl_p2, wrl_p3, wrl_p4, mh_o, mh_po, mcv, mg_0, mg_1, mg_2, mg_3, mg_4, mg_5, mg_6, mg_7, mg_8, mg_9, mg_10, mg_11, mg_12, mg_13, mg_14, mg_15, mg_16, mg_17, mg_18, mg_19, mg_20, mg_21, mg_22, mg_23, mg_24, mg_25, mg_26, mg_27, mg_28, mg_29, mg_30, mg_31, mg_32, mg_33, mg_34, mg_35, mg_36, mg_37, mg_38, mg_39, mg_40, mg_41, mg_42, mg_43, mg_44, mg_45, mg_46, ms_1, ms_4, ms_6, ms_7, ms_9, ms_10, ms_11, ms_12, ms_16, ms_20, ms_24, ms_28, ms_35, ms_39, ms_42, ms_43, ms_17t, ms_17f, ms_8, ms_14, mc_1, mp_1, mc_2, mp_2, mc_3, mp_3, mc_4, mp_4, mc_5, mp_5, mc_6, mp_6, mc_7, mp_7, mc_8, mp_8, mc_9, mp_9, mc_10, mp_10, mc_11, mp_11, mc_12, mp_12, mc_13, mp_13, mc_14, mp_14, mc_15, mp_15, mc_16, mp_16, mc_17, mp_17, mc_18, mp_18, mc_19, mp_19, mc_20, mp_20, mc_21, mp_21, mc_22, mp_22, mc_23, mp_23, mc_24, mp_24, mc_25, mp_25, mc_26, mp_26, mc_27, mp_27, mc_28, mp_28, mc_29, mp_29, iu, cup, Nat.reduceEqDiff, r_put, ra_o (show 17 ≠ 11 by decide) (show 17 ≠ 12 by decide), iu_iu]
                have hv : evv (e7 (N (12 + s)) (N s) (L s) (rOt (rB N) s o) (rMd (rM N) (rB N) s o) (nI s) (N 37 - N 37 / 7 * 7) f8) cd = evv (renv N L o s) cd := evv_7 _ _ (fun j hj => by
                  unfold renv e7
                  rcases (show j = 0 ∨ j = 1 ∨ j = 2 ∨ j = 3 ∨ j = 4 ∨ j = 5 ∨ j = 6 by omega) with z | z | z | z | z | z | z <;> subst z <;> rfl)
                rw [hv]
                refine hQ _ _ _ ⟨fun k k1 k2 k3 k4 => ?_, fun j hj => if_neg hj, ⟨_, if_pos rfl⟩⟩
                unfold ra iu
                rw [if_neg k3, if_neg k4]
                by_cases k17 : k = 17
                · rw [k17, if_pos rfl, h17]
                · rw [if_neg k17, if_neg k2, if_neg k1]
            · rw [e] at hcd
              cases hcd
          exact hc2 v0
      rw [s_206_8]
      simp only [s_206_0, s_206_1, s_206_2, s_206_3, s_206_5, s_206_6, s_206_10, s_206_11, s_206_14, s_206_17, s_206_19, s_206_20, s_206_23, s_206_24, s_206_26, s_206_28, s_206_29, s_206_30, s_206_31, s_206_33, s_206_34, s_206_35, s_206_36, s_206_39, s_206_42, s_206_45, s_206_47, s_206_48, s_206_50, s_206_52, s_206_53, s_206_54, s_206_55, s_206_57, s_206_60, s_206_63, s_206_64, s_206_67, s_206_68, s_206_71, s_206_73, s_206_74, s_206_75, s_206_76, s_206_78, s_206_79, s_206_80, s_206_81, s_206_82, s_206_83, s_206_84, s_206_87, s_206_90, s_206_93, s_206_94, s_206_97, s_206_98, s_206_99, s_206_101, s_206_102, s_206_103, s_206_104, s_206_105, s_206_106, s_206_109, s_206_110, s_206_111, s_206_112, s_206_113, s_206_114, s_206_115, s_206_118, s_206_119, s_206_120, s_206_123, s_206_124, s_206_125, s_206_126, s_206_127, s_206_130, s_206_131, s_206_132, s_206_133, s_206_134, s_206_137, s_206_138, s_206_140, s_206_141, s_206_142, s_206_145, s_206_146, s_206_147, s_206_148, s_206_149, s_206_152, s_206_154, s_206_155, s_206_157, s_206_158, s_206_160, s_206_161, s_206_162, s_206_163, s_206_164, s_206_167, s_206_168, s_206_171, s_206_173, s_206_176, s_206_177, s_206_178, s_206_181, s_206_182, s_206_183, s_206_186, s_206_188, s_206_189, s_206_190, s_206_193, s_206_195, s_206_198, x_get_i, List.getElem?_cons_succ, List.getElem?_cons_zero, x_cv_j, cs_n, cs_i, cs_r, cs_l, Nat.reduceAdd, Nat.reduceLeDiff, true_and, Option.toList_some, Option.toList_none, List.cons_append, List.nil_append, if_true, if_false, nb0, nb1, x_setJ, x_setZ0, x_setZ1, x_setA, x_setO, List.length_cons, List.length_nil, Nat.reduceLT, List.set_cons_succ, List.set_cons_zero, wrl_0, wrl_1, wrl_2, wrl_3, wrl_4, wrl_5, wrl_p0, wrl_p1, wrl_p2, wrl_p3, wrl_p4, mh_o, mh_po, mcv, mg_0, mg_1, mg_2, mg_3, mg_4, mg_5, mg_6, mg_7, mg_8, mg_9, mg_10, mg_11, mg_12, mg_13, mg_14, mg_15, mg_16, mg_17, mg_18, mg_19, mg_20, mg_21, mg_22, mg_23, mg_24, mg_25, mg_26, mg_27, mg_28, mg_29, mg_30, mg_31, mg_32, mg_33, mg_34, mg_35, mg_36, mg_37, mg_38, mg_39, mg_40, mg_41, mg_42, mg_43, mg_44, mg_45, mg_46, ms_1, ms_4, ms_6, ms_7, ms_9, ms_10, ms_11, ms_12, ms_16, ms_20, ms_24, ms_28, ms_35, ms_39, ms_42, ms_43, ms_17t, ms_17f, ms_8, ms_14, mc_1, mp_1, mc_2, mp_2, mc_3, mp_3, mc_4, mp_4, mc_5, mp_5, mc_6, mp_6, mc_7, mp_7, mc_8, mp_8, mc_9, mp_9, mc_10, mp_10, mc_11, mp_11, mc_12, mp_12, mc_13, mp_13, mc_14, mp_14, mc_15, mp_15, mc_16, mp_16, mc_17, mp_17, mc_18, mp_18, mc_19, mp_19, mc_20, mp_20, mc_21, mp_21, mc_22, mp_22, mc_23, mp_23, mc_24, mp_24, mc_25, mp_25, mc_26, mp_26, mc_27, mp_27, mc_28, mp_28, mc_29, mp_29, iu, cup, Nat.reduceEqDiff, h1, Int32.le_refl, hx0, e12, x_ild_n (show 12 + s < 38 by omega) n38, show ¬ (2 : Int32) = 0 by decide]
      by_cases z : rOt (rB N) s o = 0
      · have := key ((0 - N (12 + s)) / 2) (by rw [if_pos z])
        simp only [z, if_true] at this ⊢
        exact this
      · have := key ((rMd (rM N) (rB N) s o / rOt (rB N) s o - N (12 + s)) / 2) (by rw [if_neg z])
        simp only [z, if_false]
        exact this
    | succ j ih =>
      intro o ho
      have eo : rOt (rB N) s (o + 1) = if o = s then rOt (rB N) s o else if N (24 + o) = N (24 + s) then rOt (rB N) s o + 1 else rOt (rB N) s o := rfl
      have em : rMd (rM N) (rB N) s (o + 1) = if o = s then rMd (rM N) (rB N) s o else if N (24 + o) = N (24 + s) then rMd (rM N) (rB N) s o + N (12 + o) else rMd (rM N) (rB N) s o := rfl
      have ih := ih (o + 1) (by omega)
      rw [eo, em] at ih
      rw [s_206_8]
      simp only [s_206_0, s_206_1, s_206_2, s_206_3, s_206_5, s_206_6, s_206_10, s_206_11, s_206_14, s_206_17, s_206_19, s_206_20, s_206_23, s_206_24, s_206_26, s_206_28, s_206_29, s_206_30, s_206_31, s_206_33, s_206_34, s_206_35, s_206_36, s_206_39, s_206_42, s_206_45, s_206_47, s_206_48, s_206_50, s_206_52, s_206_53, s_206_54, s_206_55, s_206_57, s_206_60, s_206_63, s_206_64, s_206_67, s_206_68, s_206_71, s_206_73, s_206_74, s_206_75, s_206_76, s_206_78, s_206_79, s_206_80, s_206_81, s_206_82, s_206_83, s_206_84, s_206_86, s_206_87, s_206_90, s_206_93, s_206_94, s_206_97, s_206_98, s_206_99, s_206_101, s_206_102, s_206_103, s_206_104, s_206_105, s_206_106, s_206_109, s_206_110, s_206_111, s_206_112, s_206_113, s_206_114, s_206_115, s_206_118, s_206_119, s_206_120, s_206_123, s_206_124, s_206_125, s_206_126, s_206_127, s_206_130, s_206_131, s_206_132, s_206_133, s_206_134, s_206_137, s_206_138, s_206_140, s_206_141, s_206_142, s_206_145, s_206_146, s_206_147, s_206_148, s_206_149, s_206_152, s_206_154, s_206_155, s_206_157, s_206_158, s_206_160, s_206_161, s_206_162, s_206_163, s_206_164, s_206_167, s_206_168, s_206_171, s_206_173, s_206_176, s_206_177, s_206_178, s_206_181, s_206_182, s_206_183, s_206_186, s_206_188, s_206_189, s_206_190, s_206_193, s_206_195, s_206_198, x_get_i, List.getElem?_cons_succ, List.getElem?_cons_zero, x_cv_j, cs_n, cs_i, cs_r, cs_l, Nat.reduceAdd, Nat.reduceLeDiff, true_and, Option.toList_some, Option.toList_none, List.cons_append, List.nil_append, if_true, if_false, nb0, nb1, x_setJ, x_setZ0, x_setZ1, x_setA, x_setO, List.length_cons, List.length_nil, Nat.reduceLT, List.set_cons_succ, List.set_cons_zero, wrl_0, wrl_1, wrl_2, wrl_3, wrl_4, wrl_5, wrl_p0, wrl_p1, wrl_p2, wrl_p3, wrl_p4, mh_o, mh_po, mcv, mg_0, mg_1, mg_2, mg_3, mg_4, mg_5, mg_6, mg_7, mg_8, mg_9, mg_10, mg_11, mg_12, mg_13, mg_14, mg_15, mg_16, mg_17, mg_18, mg_19, mg_20, mg_21, mg_22, mg_23, mg_24, mg_25, mg_26, mg_27, mg_28, mg_29, mg_30, mg_31, mg_32, mg_33, mg_34, mg_35, mg_36, mg_37, mg_38, mg_39, mg_40, mg_41, mg_42, mg_43, mg_44, mg_45, mg_46, ms_1, ms_4, ms_6, ms_7, ms_9, ms_10, ms_11, ms_12, ms_16, ms_20, ms_24, ms_28, ms_35, ms_39, ms_42, ms_43, ms_17t, ms_17f, ms_8, ms_14, mc_1, mp_1, mc_2, mp_2, mc_3, mp_3, mc_4, mp_4, mc_5, mp_5, mc_6, mp_6, mc_7, mp_7, mc_8, mp_8, mc_9, mp_9, mc_10, mp_10, mc_11, mp_11, mc_12, mp_12, mc_13, mp_13, mc_14, mp_14, mc_15, mp_15, mc_16, mp_16, mc_17, mp_17, mc_18, mp_18, mc_19, mp_19, mc_20, mp_20, mc_21, mp_21, mc_22, mp_22, mc_23, mp_23, mc_24, mp_24, mc_25, mp_25, mc_26, mp_26, mc_27, mp_27, mc_28, mp_28, mc_29, mp_29, iu, cup, Nat.reduceEqDiff, h1, show ¬ nI n ≤ nI o from nI_ge (by omega) (by omega), hx0, e12, e24, x_ild_n (show 24 + o < 38 by omega) n38, x_ild_n (show 24 + s < 38 by omega) n38, x_ild_n (show 12 + o < 38 by omega) n38, nI_1]
      by_cases c1 : o = s
      · subst c1
        simp only [if_true] at ih ⊢
        exact ih
      · have c1' : ¬ nI o = nI s := fun e => c1 ((nI_eq (by omega) (by omega)).mp e)
        simp only [c1, c1', if_false] at ih ⊢
        by_cases c2 : N (24 + o) = N (24 + s)
        · simp only [c2, if_true] at ih ⊢
          exact ih
        · simp only [c2, if_false] at ih ⊢
          exact ih
  rw [e_206]
  simp only [s_206_0, s_206_1, s_206_2, s_206_3, s_206_5, s_206_6, s_206_10, s_206_11, s_206_14, s_206_17, s_206_19, s_206_20, s_206_23, s_206_24, s_206_26, s_206_28, s_206_29, s_206_30, s_206_31, s_206_33, s_206_34, s_206_35, s_206_36, s_206_39, s_206_42, s_206_45, s_206_47, s_206_48, s_206_50, s_206_52, s_206_53, s_206_54, s_206_55, s_206_57, s_206_60, s_206_63, s_206_64, s_206_67, s_206_68, s_206_71, s_206_73, s_206_74, s_206_75, s_206_76, s_206_78, s_206_79, s_206_80, s_206_81, s_206_82, s_206_83, s_206_84, s_206_86, s_206_87, s_206_90, s_206_93, s_206_94, s_206_97, s_206_98, s_206_99, s_206_101, s_206_102, s_206_103, s_206_104, s_206_105, s_206_106, s_206_109, s_206_110, s_206_111, s_206_112, s_206_113, s_206_114, s_206_115, s_206_118, s_206_119, s_206_120, s_206_123, s_206_124, s_206_125, s_206_126, s_206_127, s_206_130, s_206_131, s_206_132, s_206_133, s_206_134, s_206_137, s_206_138, s_206_140, s_206_141, s_206_142, s_206_145, s_206_146, s_206_147, s_206_148, s_206_149, s_206_152, s_206_154, s_206_155, s_206_157, s_206_158, s_206_160, s_206_161, s_206_162, s_206_163, s_206_164, s_206_167, s_206_168, s_206_171, s_206_173, s_206_176, s_206_177, s_206_178, s_206_181, s_206_182, s_206_183, s_206_186, s_206_188, s_206_189, s_206_190, s_206_193, s_206_195, s_206_198]
  exact loop n 0 (by omega)
end
