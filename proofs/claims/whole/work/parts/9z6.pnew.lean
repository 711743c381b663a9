/-! the past is made -/
theorem NW_p {h : tm_H} {s i : Nat} {cs : List tm_E} {e : tm_E} (hi : i < cs.length) : tm_put (NW h s cs) (h.1 + i) e = NW h s (cs.set i e) := by
  refine tcp_ext (by show h.1 + cs.length = h.1 + (cs.set i e).length; rw [List.length_set]) rfl (fun q => ?_)
  show (if q = h.1 + i then e else (if h.1 ≤ q then (cs[q - h.1]?).getD (h.2.2 q) else h.2.2 q)) = if h.1 ≤ q then ((cs.set i e)[q - h.1]?).getD (h.2.2 q) else h.2.2 q
  by_cases c : q = h.1 + i
  · rw [if_pos c, if_pos (by omega), show q - h.1 = i by omega, List.getElem?_set_self hi]
    rfl
  · rw [if_neg c]
    by_cases c2 : h.1 ≤ q
    · rw [if_pos c2, if_pos c2, List.getElem?_set_ne (by omega)]
    · rw [if_neg c2, if_neg c2]
def tcc (k : Nat) : List tm_E := [.inr (9, [.ref (k + 1), .ref (k + 2), .ref (k + 3), .ref (k + 4), .int 0, .int 0, .int 0, .ref (k + 5), .ref (k + 6)]), .inl (0, 12, .inl (fun _ => 0)), .inl (0, 12, .inl (fun _ => 0)), .inl (0, 12, .inl (fun _ => 0)), .inl (0, 12, .inl (fun _ => 0)), .inl (0, 8, .inl (fun _ => 0)), .inl (0, 8, .inl (fun _ => 0))]
def tcs (q : Nat) : Nat → List tm_E
  | 0 => []
  | i + 1 => tcs q i ++ tcc (q + 7 * i)
theorem tcs_l {q : Nat} : ∀ i, (tcs q i).length = 7 * i
  | 0 => rfl
  | i + 1 => by
    show (tcs q i ++ tcc (q + 7 * i)).length = _
    rw [List.length_append, tcs_l i]
    show 7 * i + 7 = 7 * (i + 1)
    omega
abbrev oa (f : Nat → Option Nat) (n : Nat) : tm_E := .inl (5, n, .inr (.inr (.inr (.inr f))))
section
variable {sa : g_SA} {sc : Nat × Nat × (Nat → Int32)} {xt : Nat → Nat → List Value → tm_H → Option (Option Value × tm_H)} {d s : Nat} {h : tm_H} {Q : Option Value → tm_H → Prop}
theorem x_asr {M pc l0 v a j n : Nat} {ls st : List Value} {f : Nat → Option Nat} {fs : List Value} (h1 : h.2.2 a = oa f n) (h2 : h.2.2 v = .inr (9, fs)) (hj : j < n) (hn : n < 2 ^ 31) : tm_Y (g_G sa sc xt) d M pc ls h Q (tm_asr 9 pc ls (.ref v :: .int (nI j) :: .ref a :: st) h) ↔ tm_X (g_G sa sc xt) d M (pc + 1) ls st (tm_put h a (oa (va_up f j (some v)) n)) Q := by
  have e : tm_asr 9 pc ls (.ref v :: .int (nI j) :: .ref a :: st) h = tm_nx (pc + 1) ls st (tm_put h a (oa (va_up f j (some v)) n)) := by
    unfold tm_asr
    simp only [h1, h2, oa]
    rw [if_pos trivial, if_neg, nI_clamp (by omega)]
    rintro (z | z)
    · exact nI_pos (by omega) z
    · rw [nI_clamp (by omega)] at z
      omega
  rw [e]
  exact Iff.rfl
theorem gp0 {q z x : Nat} {φ : Value → Prop} : x_get (pa_o q z x) 6 0 φ ↔ φ (.ref (q + 1)) := x_get_i
theorem gp1 {q z x : Nat} {φ : Value → Prop} : x_get (pa_o q z x) 6 1 φ ↔ φ (.ref (q + 2)) := x_get_i
theorem n_past (hQ : ∀ s' f g, s' ≤ s + 2000 → (∀ i, i < 12 → f i = some (h.1 + 4 + 7 * i)) → (∀ i, i < 2 → g i = some (h.1 + 88 + 7 * i)) → Q none (NW h s' (pa_o h.1 0 0 :: oa f 12 :: oa g 2 :: .inl (4, 2, .inl (fun _ => 0)) :: tcs (h.1 + 4) 14))) : tm_D (g_G sa sc xt) (d + 2) 44 [.ref h.1] (NW h s [.inr (6, [.null, .null, .null, .int 0, .int 0])]) Q := by
  have mk : ∀ (s' i : Nat) (f g : Nat → Option Nat) (R : Option Value → tm_H → Prop), (∀ s2, s2 ≤ s' + 100 → R none (NW h s2 (pa_o h.1 0 0 :: oa f 12 :: oa g 2 :: .inl (4, 2, .inl (fun _ => 0)) :: tcs (h.1 + 4) (i + 1)))) → tm_D (g_G sa sc xt) (d + 1) 75 [.ref (h.1 + (4 + 7 * i))] (NW h s' (pa_o h.1 0 0 :: oa f 12 :: oa g 2 :: .inl (4, 2, .inl (fun _ => 0)) :: (tcs (h.1 + 4) i ++ [.inr (9, [.null, .null, .null, .null, .int 0, .int 0, .int 0, .null, .null])]))) R := by
    intro s' i f g R hR
    obtain ⟨cs, hcs⟩ : ∃ cs, cs = pa_o h.1 0 0 :: oa f 12 :: oa g 2 :: .inl (4, 2, .inl (fun _ => 0)) :: tcs (h.1 + 4) i := ⟨_, rfl⟩
    have hl : cs.length = 4 + 7 * i := by
      rw [hcs]
      show (tcs (h.1 + 4) i).length + 1 + 1 + 1 + 1 = _
      rw [tcs_l]
      omega
    have e1 : NW h s' (pa_o h.1 0 0 :: oa f 12 :: oa g 2 :: .inl (4, 2, .inl (fun _ => 0)) :: (tcs (h.1 + 4) i ++ [.inr (9, [.null, .null, .null, .null, .int 0, .int 0, .int 0, .null, .null])])) = NW (NW h s' cs) 0 [.inr (9, [.null, .null, .null, .null, .int 0, .int 0, .int 0, .null, .null])] := by
      rw [NW_NW, hcs]
      rfl
    have e2 : h.1 + (4 + 7 * i) = (NW h s' cs).1 := by rw [NW_1, hl]
    rw [e1, e2]
    refine n_case (d := d) (fun s2 hs2 => ?_)
    rw [NW_NW]
    have e3 : cs ++ tcc (NW h s' cs).1 = pa_o h.1 0 0 :: oa f 12 :: oa g 2 :: .inl (4, 2, .inl (fun _ => 0)) :: tcs (h.1 + 4) (i + 1) := by
      rw [← e2, hcs]
      show _ = pa_o h.1 0 0 :: oa f 12 :: oa g 2 :: .inl (4, 2, .inl (fun _ => 0)) :: (tcs (h.1 + 4) i ++ tcc (h.1 + 4 + 7 * i))
      rw [show h.1 + (4 + 7 * i) = h.1 + 4 + 7 * i by omega]
      rfl
    have := hR (s' + s2) (by omega)
    rw [← e3] at this
    exact this
  have obj : ∀ (i : Nat) (f g : Nat → Option Nat) (s2 : Nat), (NW h s2 (pa_o h.1 0 0 :: oa f 12 :: oa g 2 :: .inl (4, 2, .inl (fun _ => 0)) :: tcs (h.1 + 4) (i + 1))).2.2 (h.1 + (4 + 7 * i)) = .inr (9, [.ref (h.1 + 4 + 7 * i + 1), .ref (h.1 + 4 + 7 * i + 2), .ref (h.1 + 4 + 7 * i + 3), .ref (h.1 + 4 + 7 * i + 4), .int 0, .int 0, .int 0, .ref (h.1 + 4 + 7 * i + 5), .ref (h.1 + 4 + 7 * i + 6)]) := by
    intro i f g s2
    refine NW_g ?_
    rw [show 4 + 7 * i = 7 * i + 1 + 1 + 1 + 1 by omega, List.getElem?_cons_succ, List.getElem?_cons_succ, List.getElem?_cons_succ, List.getElem?_cons_succ]
    show (tcs (h.1 + 4) i ++ tcc (h.1 + 4 + 7 * i))[7 * i]? = _
    rw [List.getElem?_append_right (by rw [tcs_l]; exact Nat.le_refl _), tcs_l, Nat.sub_self]
    rfl
  have len : ∀ (i : Nat) (f g : Nat → Option Nat) (s2 : Nat), (NW h s2 (pa_o h.1 0 0 :: oa f 12 :: oa g 2 :: .inl (4, 2, .inl (fun _ => 0)) :: tcs (h.1 + 4) i)).1 = h.1 + (4 + 7 * i) := by
    intro i f g s2
    rw [NW_1]
    show h.1 + ((tcs (h.1 + 4) i).length + 1 + 1 + 1 + 1) = _
    rw [tcs_l]
    omega
  have loop2 : ∀ (j i : Nat) (s' : Nat) (f g : Nat → Option Nat), s' ≤ s + 1500 + 200 * i → i + j = 2 → (∀ q, q < 12 → f q = some (h.1 + 4 + 7 * q)) → (∀ q, q < i → g q = some (h.1 + 88 + 7 * q)) → tm_X (g_G sa sc xt) (d + 2) 44 67 [.ref h.1, .int (nI i)] [] (NW h s' (pa_o h.1 0 0 :: oa f 12 :: oa g 2 :: .inl (4, 2, .inl (fun _ => 0)) :: tcs (h.1 + 4) (12 + i))) Q := by
    intro j
    induction j with
    | zero =>
      intro i s' f g hs' hi hf hg
      have hi : i = 2 := by omega
      subst hi
      rw [s_44_67]
      simp only [s_44_0, s_44_1, s_44_4, s_44_5, s_44_7, s_44_10, s_44_13, s_44_14, s_44_15, s_44_18, s_44_21, s_44_22, s_44_23, s_44_25, s_44_28, s_44_29, s_44_30, s_44_33, s_44_34, s_44_35, s_44_38, s_44_39, s_44_41, s_44_43, s_44_46, s_44_47, s_44_50, s_44_51, s_44_54, s_44_55, s_44_59, s_44_62, s_44_65, s_44_66, s_44_68, s_44_69, s_44_72, s_44_73, s_44_76, s_44_77, s_44_80, s_44_81, s_44_85, s_44_88, s_44_91, x_get_i, List.getElem?_cons_succ, List.getElem?_cons_zero, x_cv_j, cs_n, cs_i, cs_r, cs_l, Nat.reduceAdd, Nat.reduceLeDiff, true_and, Option.toList_some, Option.toList_none, List.cons_append, List.nil_append, if_true, if_false, nb0, nb1, x_setJ, x_setZ0, x_setZ1, x_setA, x_setO, List.length_cons, List.length_nil, Nat.reduceLT, List.set_cons_succ, List.set_cons_zero, wrl_0, wrl_1, wrl_2, wrl_3, wrl_4, wrl_5, wrl_p0, wrl_p1, wrl_p2, wrl_p3, wrl_p4, show (2 : Int32) ≤ nI 2 by decide, if_true]
      exact hQ _ f g (by omega) hf hg
    | succ j ih =>
      intro i s' f g hs' hi hf hg
      rw [s_44_67]
      simp only [s_44_0, s_44_1, s_44_4, s_44_5, s_44_7, s_44_10, s_44_13, s_44_14, s_44_15, s_44_18, s_44_21, s_44_22, s_44_23, s_44_25, s_44_28, s_44_29, s_44_30, s_44_33, s_44_34, s_44_35, s_44_38, s_44_39, s_44_41, s_44_43, s_44_46, s_44_47, s_44_50, s_44_51, s_44_54, s_44_55, s_44_59, s_44_62, s_44_65, s_44_66, s_44_68, s_44_69, s_44_72, s_44_73, s_44_76, s_44_77, s_44_80, s_44_81, s_44_85, s_44_88, s_44_91, x_get_i, List.getElem?_cons_succ, List.getElem?_cons_zero, x_cv_j, cs_n, cs_i, cs_r, cs_l, Nat.reduceAdd, Nat.reduceLeDiff, true_and, Option.toList_some, Option.toList_none, List.cons_append, List.nil_append, if_true, if_false, nb0, nb1, x_setJ, x_setZ0, x_setZ1, x_setA, x_setO, List.length_cons, List.length_nil, Nat.reduceLT, List.set_cons_succ, List.set_cons_zero, wrl_0, wrl_1, wrl_2, wrl_3, wrl_4, wrl_5, wrl_p0, wrl_p1, wrl_p2, wrl_p3, wrl_p4, show ¬ (2 : Int32) ≤ nI i from nI_ge (b := 2) (by omega) (by decide), if_false, NW_g0, gp0, gp1, len, NW_new, List.cons_append]
      refine mk _ (12 + i) f g _ (fun s2 hs2 => ?_)
      simp only [s_44_0, s_44_1, s_44_4, s_44_5, s_44_7, s_44_10, s_44_13, s_44_14, s_44_15, s_44_18, s_44_21, s_44_22, s_44_23, s_44_25, s_44_28, s_44_29, s_44_30, s_44_33, s_44_34, s_44_35, s_44_38, s_44_39, s_44_41, s_44_43, s_44_46, s_44_47, s_44_50, s_44_51, s_44_54, s_44_55, s_44_59, s_44_62, s_44_65, s_44_66, s_44_68, s_44_69, s_44_72, s_44_73, s_44_76, s_44_77, s_44_80, s_44_81, s_44_85, s_44_88, s_44_91, x_get_i, List.getElem?_cons_succ, List.getElem?_cons_zero, x_cv_j, cs_n, cs_i, cs_r, cs_l, Nat.reduceAdd, Nat.reduceLeDiff, true_and, Option.toList_some, Option.toList_none, List.cons_append, List.nil_append, if_true, if_false, nb0, nb1, x_setJ, x_setZ0, x_setZ1, x_setA, x_setO, List.length_cons, List.length_nil, Nat.reduceLT, List.set_cons_succ, List.set_cons_zero, wrl_0, wrl_1, wrl_2, wrl_3, wrl_4, wrl_5, wrl_p0, wrl_p1, wrl_p2, wrl_p3, wrl_p4]
      refine Iff.mpr ((tm_X_e (.aastore, 9, 0) rfl).trans (x_asr (l0 := 0) (f := g) (n := 2) (j := i) (NW_g (i := 2) rfl) (obj (12 + i) f g s2) (by omega) (by decide))) ?_
      rw [NW_p (i := 2) (by show 2 < (tcs (h.1 + 4) (12 + i + 1)).length + 1 + 1 + 1 + 1; omega)]
      simp only [s_44_0, s_44_1, s_44_4, s_44_5, s_44_7, s_44_10, s_44_13, s_44_14, s_44_15, s_44_18, s_44_21, s_44_22, s_44_23, s_44_25, s_44_28, s_44_29, s_44_30, s_44_33, s_44_34, s_44_35, s_44_38, s_44_39, s_44_41, s_44_43, s_44_46, s_44_47, s_44_50, s_44_51, s_44_54, s_44_55, s_44_59, s_44_62, s_44_65, s_44_66, s_44_68, s_44_69, s_44_72, s_44_73, s_44_76, s_44_77, s_44_80, s_44_81, s_44_85, s_44_88, s_44_91, x_get_i, List.getElem?_cons_succ, List.getElem?_cons_zero, x_cv_j, cs_n, cs_i, cs_r, cs_l, Nat.reduceAdd, Nat.reduceLeDiff, true_and, Option.toList_some, Option.toList_none, List.cons_append, List.nil_append, if_true, if_false, nb0, nb1, x_setJ, x_setZ0, x_setZ1, x_setA, x_setO, List.length_cons, List.length_nil, Nat.reduceLT, List.set_cons_succ, List.set_cons_zero, wrl_0, wrl_1, wrl_2, wrl_3, wrl_4, wrl_5, wrl_p0, wrl_p1, wrl_p2, wrl_p3, wrl_p4, nI_1]
      refine ih (i + 1) s2 f (va_up g i (some (h.1 + (4 + 7 * (12 + i))))) (by omega) (by omega) hf (fun q hq => ?_)
      by_cases z : q = i
      · subst z
        exact (if_pos rfl).trans (by rw [show h.1 + (4 + 7 * (12 + q)) = h.1 + 88 + 7 * q by omega])
      · exact (if_neg z).trans (hg q (by omega))
  have loop1 : ∀ (j i : Nat) (s' : Nat) (f g : Nat → Option Nat), s' ≤ s + 100 + 112 * i → i + j = 12 → (∀ q, q < i → f q = some (h.1 + 4 + 7 * q)) → tm_X (g_G sa sc xt) (d + 2) 44 40 [.ref h.1, .int (nI i)] [] (NW h s' (pa_o h.1 0 0 :: oa f 12 :: oa g 2 :: .inl (4, 2, .inl (fun _ => 0)) :: tcs (h.1 + 4) i)) Q := by
    intro j
    induction j with
    | zero =>
      intro i s' f g hs' hi hf
      have hi : i = 12 := by omega
      subst hi
      rw [s_44_40]
      simp only [s_44_0, s_44_1, s_44_4, s_44_5, s_44_7, s_44_10, s_44_13, s_44_14, s_44_15, s_44_18, s_44_21, s_44_22, s_44_23, s_44_25, s_44_28, s_44_29, s_44_30, s_44_33, s_44_34, s_44_35, s_44_38, s_44_39, s_44_41, s_44_43, s_44_46, s_44_47, s_44_50, s_44_51, s_44_54, s_44_55, s_44_59, s_44_62, s_44_65, s_44_66, s_44_68, s_44_69, s_44_72, s_44_73, s_44_76, s_44_77, s_44_80, s_44_81, s_44_85, s_44_88, s_44_91, x_get_i, List.getElem?_cons_succ, List.getElem?_cons_zero, x_cv_j, cs_n, cs_i, cs_r, cs_l, Nat.reduceAdd, Nat.reduceLeDiff, true_and, Option.toList_some, Option.toList_none, List.cons_append, List.nil_append, if_true, if_false, nb0, nb1, x_setJ, x_setZ0, x_setZ1, x_setA, x_setO, List.length_cons, List.length_nil, Nat.reduceLT, List.set_cons_succ, List.set_cons_zero, wrl_0, wrl_1, wrl_2, wrl_3, wrl_4, wrl_5, wrl_p0, wrl_p1, wrl_p2, wrl_p3, wrl_p4, show (12 : Int32) ≤ nI 12 by decide, if_true]
      exact loop2 2 0 s' f g (by omega) (by decide) hf (fun q hq => absurd hq (Nat.not_lt_zero q))
    | succ j ih =>
      intro i s' f g hs' hi hf
      rw [s_44_40]
      simp only [s_44_0, s_44_1, s_44_4, s_44_5, s_44_7, s_44_10, s_44_13, s_44_14, s_44_15, s_44_18, s_44_21, s_44_22, s_44_23, s_44_25, s_44_28, s_44_29, s_44_30, s_44_33, s_44_34, s_44_35, s_44_38, s_44_39, s_44_41, s_44_43, s_44_46, s_44_47, s_44_50, s_44_51, s_44_54, s_44_55, s_44_59, s_44_62, s_44_65, s_44_66, s_44_68, s_44_69, s_44_72, s_44_73, s_44_76, s_44_77, s_44_80, s_44_81, s_44_85, s_44_88, s_44_91, x_get_i, List.getElem?_cons_succ, List.getElem?_cons_zero, x_cv_j, cs_n, cs_i, cs_r, cs_l, Nat.reduceAdd, Nat.reduceLeDiff, true_and, Option.toList_some, Option.toList_none, List.cons_append, List.nil_append, if_true, if_false, nb0, nb1, x_setJ, x_setZ0, x_setZ1, x_setA, x_setO, List.length_cons, List.length_nil, Nat.reduceLT, List.set_cons_succ, List.set_cons_zero, wrl_0, wrl_1, wrl_2, wrl_3, wrl_4, wrl_5, wrl_p0, wrl_p1, wrl_p2, wrl_p3, wrl_p4, show ¬ (12 : Int32) ≤ nI i from nI_ge (b := 12) (by omega) (by decide), if_false, NW_g0, gp0, gp1, len, NW_new, List.cons_append]
      refine mk _ i f g _ (fun s2 hs2 => ?_)
      simp only [s_44_0, s_44_1, s_44_4, s_44_5, s_44_7, s_44_10, s_44_13, s_44_14, s_44_15, s_44_18, s_44_21, s_44_22, s_44_23, s_44_25, s_44_28, s_44_29, s_44_30, s_44_33, s_44_34, s_44_35, s_44_38, s_44_39, s_44_41, s_44_43, s_44_46, s_44_47, s_44_50, s_44_51, s_44_54, s_44_55, s_44_59, s_44_62, s_44_65, s_44_66, s_44_68, s_44_69, s_44_72, s_44_73, s_44_76, s_44_77, s_44_80, s_44_81, s_44_85, s_44_88, s_44_91, x_get_i, List.getElem?_cons_succ, List.getElem?_cons_zero, x_cv_j, cs_n, cs_i, cs_r, cs_l, Nat.reduceAdd, Nat.reduceLeDiff, true_and, Option.toList_some, Option.toList_none, List.cons_append, List.nil_append, if_true, if_false, nb0, nb1, x_setJ, x_setZ0, x_setZ1, x_setA, x_setO, List.length_cons, List.length_nil, Nat.reduceLT, List.set_cons_succ, List.set_cons_zero, wrl_0, wrl_1, wrl_2, wrl_3, wrl_4, wrl_5, wrl_p0, wrl_p1, wrl_p2, wrl_p3, wrl_p4]
      refine Iff.mpr ((tm_X_e (.aastore, 9, 0) rfl).trans (x_asr (l0 := 0) (f := f) (n := 12) (j := i) (NW_g (i := 1) rfl) (obj i f g s2) (by omega) (by decide))) ?_
      rw [NW_p (i := 1) (by show 1 < (tcs (h.1 + 4) (i + 1)).length + 1 + 1 + 1 + 1; omega)]
      simp only [s_44_0, s_44_1, s_44_4, s_44_5, s_44_7, s_44_10, s_44_13, s_44_14, s_44_15, s_44_18, s_44_21, s_44_22, s_44_23, s_44_25, s_44_28, s_44_29, s_44_30, s_44_33, s_44_34, s_44_35, s_44_38, s_44_39, s_44_41, s_44_43, s_44_46, s_44_47, s_44_50, s_44_51, s_44_54, s_44_55, s_44_59, s_44_62, s_44_65, s_44_66, s_44_68, s_44_69, s_44_72, s_44_73, s_44_76, s_44_77, s_44_80, s_44_81, s_44_85, s_44_88, s_44_91, x_get_i, List.getElem?_cons_succ, List.getElem?_cons_zero, x_cv_j, cs_n, cs_i, cs_r, cs_l, Nat.reduceAdd, Nat.reduceLeDiff, true_and, Option.toList_some, Option.toList_none, List.cons_append, List.nil_append, if_true, if_false, nb0, nb1, x_setJ, x_setZ0, x_setZ1, x_setA, x_setO, List.length_cons, List.length_nil, Nat.reduceLT, List.set_cons_succ, List.set_cons_zero, wrl_0, wrl_1, wrl_2, wrl_3, wrl_4, wrl_5, wrl_p0, wrl_p1, wrl_p2, wrl_p3, wrl_p4, nI_1]
      refine ih (i + 1) s2 (va_up f i (some (h.1 + (4 + 7 * i)))) g (by omega) (by omega) (fun q hq => ?_)
      by_cases z : q = i
      · subst z
        exact (if_pos rfl).trans (by rw [show h.1 + (4 + 7 * q) = h.1 + 4 + 7 * q by omega])
      · exact (if_neg z).trans (hf q (by omega))
  rw [e_44]
  simp only [s_44_0, s_44_1, s_44_4, s_44_5, s_44_7, s_44_10, s_44_13, s_44_14, s_44_15, s_44_18, s_44_21, s_44_22, s_44_23, s_44_25, s_44_28, s_44_29, s_44_30, s_44_33, s_44_34, s_44_35, s_44_38, s_44_39, s_44_41, s_44_43, s_44_46, s_44_47, s_44_50, s_44_51, s_44_54, s_44_55, s_44_59, s_44_62, s_44_65, s_44_66, s_44_68, s_44_69, s_44_72, s_44_73, s_44_76, s_44_77, s_44_80, s_44_81, s_44_85, s_44_88, s_44_91, x_get_i, List.getElem?_cons_succ, List.getElem?_cons_zero, x_cv_j, cs_n, cs_i, cs_r, cs_l, Nat.reduceAdd, Nat.reduceLeDiff, true_and, Option.toList_some, Option.toList_none, List.cons_append, List.nil_append, if_true, if_false, nb0, nb1, x_setJ, x_setZ0, x_setZ1, x_setA, x_setO, List.length_cons, List.length_nil, Nat.reduceLT, List.set_cons_succ, List.set_cons_zero, wrl_0, wrl_1, wrl_2, wrl_3, wrl_4, wrl_5, wrl_p0, wrl_p1, wrl_p2, wrl_p3, wrl_p4, NW_new, NW_g0, NW_p0, NW_1, List.cons_append, List.nil_append, List.length_cons, List.length_nil, List.set_cons_zero, List.set_cons_succ, List.set_nil, Nat.reduceAdd, Nat.zero_add, if_false, if_true, x_set_a, x_set_n, Nat.reduceLT, show ((12 : Int32) < 0 ∨ 60000000 < (12 : Int32).toNatClampNeg) = False from (z32 12 (by decide)).1, show (12 : Int32).toNatClampNeg = 12 from (z32 12 (by decide)).2, show ((2 : Int32) < 0 ∨ 60000000 < (2 : Int32).toNatClampNeg) = False from (z32 2 (by decide)).1, show (2 : Int32).toNatClampNeg = 2 from (z32 2 (by decide)).2]
  exact loop1 12 0 _ (fun _ => none) (fun _ => none) (by omega) (by decide) (fun q hq => absurd hq (Nat.not_lt_zero q))
end
