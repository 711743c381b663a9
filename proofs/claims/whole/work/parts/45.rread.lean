/-! Rule.read -/
/-- strings lie below lo -/
def SHo (sa : g_SA) (lo : Nat) : Prop := ∀ j, j < 13 → sa.1 j < lo ∧ sa.2.1 j < lo
theorem SH_same {sa : g_SA} {lo : Nat} {h h' : tm_H} (ho : SHo sa lo) (hh : ∀ q, q < lo → h'.2.2 q = h.2.2 q) (hS : SH sa h) : SH sa h' := by
  intro j hj
  obtain ⟨⟨e, h1⟩, ⟨e', h2⟩⟩ := hS j hj
  exact ⟨⟨e, by rw [hh _ (ho j hj).1]; exact h1⟩, ⟨e', by rw [hh _ (ho j hj).2]; exact h2⟩⟩
theorem x_setB {ci k : Nat} {b : Bool} {fs : List Value} {φ : tm_E → Prop} : x_set (.inr (ci, fs)) ci k .boolean (.int (bI b)) φ ↔ k < fs.length ∧ φ (.inr (ci, fs.set k (.int (bI b)))) := ⟨fun q => ⟨q.1.2.1, q.2⟩, fun q => ⟨⟨rfl, q.1, bI_n, by cases b <;> rfl⟩, q.2⟩⟩
/-- signs are bytes -/
def TB (F : Nat → Int32) : Prop := ∀ i, i < 80 → ∃ y, y < 256 ∧ F i = nI y
/-- the first of bytes that is b, from i on -/
def six (b : Int32) : Nat → Nat → Int32
  | 0, _ => -1
  | j + 1, i => if (g_sb 1).getD i 0 = b then nI i else six b j (i + 1)
theorem six_thi {y : Nat} (hy : y < 256) : six (nI y).toInt8.toInt32 7 0 = thi (nI y) ∧ (((nI y).toUInt32 % 65536).toInt32) = nI y := by
  have : ∀ y : Fin 256, six (nI y.1).toInt8.toInt32 7 0 = thi (nI y.1) ∧ (((nI y.1).toUInt32 % 65536).toInt32) = nI y.1 := by decide +kernel
  exact this ⟨y, hy⟩
theorem thi_n {x : Int32} (h : ¬ thi x = -1) : ∃ i, i < 7 ∧ thi x = nI i := by
  unfold thi at h ⊢
  split
  · exact ⟨0, by decide, rfl⟩
  split
  · exact ⟨1, by decide, rfl⟩
  split
  · exact ⟨2, by decide, rfl⟩
  split
  · exact ⟨3, by decide, rfl⟩
  split
  · exact ⟨4, by decide, rfl⟩
  split
  · exact ⟨5, by decide, rfl⟩
  split
  · exact ⟨6, by decide, rfl⟩
  · rename_i a1 a2 a3 a4 a5 a6 a7
    simp only [a1, a2, a3, a4, a5, a6, a7, if_false, not_true_eq_false] at h
section
variable {sa : g_SA} {sc : Nat × Nat × (Nat → Int32)} {xt : Nat → Nat → List Value → tm_H → Option (Option Value × tm_H)} {d : Nat} {h : tm_H} {Q : Option Value → tm_H → Prop}
theorem st_idx {y : Nat} (hS : SH sa h) (hy : y < 256) : tm_D (g_G sa sc xt) (d + 5) 298 [.ref (sa.1 1), .int (nI y)] h Q ↔ Q (some (.int (thi (nI y)))) h := by
  have hS0 := hS
  obtain ⟨⟨e, h1⟩, ⟨e', h2⟩⟩ := hS 1 (by decide)
  have hl : (g_sb 1).length = 7 := by decide
  have loop : ∀ (d j i : Nat) (Q : Option Value → tm_H → Prop), i + j = 7 → (tm_X (g_G sa sc xt) d 303 7 [.ref (sa.2.1 1), .int (nI y), .int 0, .int (nI 7), .int (nI y).toInt8.toInt32, .int (nI i)] [] h Q ↔ Q (some (.int (six (nI y).toInt8.toInt32 j i))) h) := by
    intro d j
    induction j with
    | zero =>
      intro i Q hi
      have hi : i = 7 := by omega
      subst hi
      rw [s_303_7]
      simp only [s_303_0, s_303_1, s_303_2, s_303_4, s_303_5, s_303_9, s_303_10, s_303_13, s_303_14, s_303_16, s_303_17, s_303_19, s_303_22, s_303_24, s_303_25, s_303_28, s_303_31, s_303_32, x_get_i, List.getElem?_cons_succ, List.getElem?_cons_zero, x_cv_j, cs_n, cs_i, cs_r, cs_l, Nat.reduceAdd, Nat.reduceLeDiff, true_and, Option.toList_some, Option.toList_none, List.cons_append, List.nil_append, if_true, if_false, nb0, nb1, x_setJ, x_setZ0, x_setZ1, x_setA, x_setO, List.length_cons, List.length_nil, Nat.reduceLT, List.set_cons_succ, List.set_cons_zero, wrl_0, wrl_1, wrl_2, wrl_3, wrl_4, wrl_5, wrl_p0, wrl_p1, wrl_p2, wrl_p3, wrl_p4, Int32.le_refl]
      exact Iff.rfl
    | succ j ih =>
      intro i Q hi
      have c1 := nI_in (c := i) (N := 7) (by omega) (by decide)
      have c2 : (nI i).toNatClampNeg = i := nI_clamp (by omega)
      rw [c2] at c1
      rw [s_303_7]
      simp only [s_303_0, s_303_1, s_303_2, s_303_4, s_303_5, s_303_9, s_303_10, s_303_13, s_303_14, s_303_16, s_303_17, s_303_19, s_303_22, s_303_24, s_303_25, s_303_28, s_303_31, s_303_32, x_get_i, List.getElem?_cons_succ, List.getElem?_cons_zero, x_cv_j, cs_n, cs_i, cs_r, cs_l, Nat.reduceAdd, Nat.reduceLeDiff, true_and, Option.toList_some, Option.toList_none, List.cons_append, List.nil_append, if_true, if_false, nb0, nb1, x_setJ, x_setZ0, x_setZ1, x_setA, x_setO, List.length_cons, List.length_nil, Nat.reduceLT, List.set_cons_succ, List.set_cons_zero, wrl_0, wrl_1, wrl_2, wrl_3, wrl_4, wrl_5, wrl_p0, wrl_p1, wrl_p2, wrl_p3, wrl_p4, show ¬ nI 7 ≤ nI i from nI_ge (by omega) (by decide), h2, x_sal_i, and_self, show 1 < 13 by decide, c1, c2, hl, not_false_eq_true]
      unfold six
      by_cases c3 : (g_sb 1).getD i 0 = (nI y).toInt8.toInt32
      · simp only [c3, if_true]
      · simp only [c3, if_false, nI_1]
        exact ih (i + 1) Q (by omega)
  rw [e_298]
  simp only [s_298_0, s_298_1, s_298_2, s_298_3, s_298_6, x_get_i, List.getElem?_cons_succ, List.getElem?_cons_zero, x_cv_j, cs_n, cs_i, cs_r, cs_l, Nat.reduceAdd, Nat.reduceLeDiff, true_and, Option.toList_some, Option.toList_none, List.cons_append, List.nil_append, if_true, if_false, nb0, nb1, x_setJ, x_setZ0, x_setZ1, x_setA, x_setO, List.length_cons, List.length_nil, Nat.reduceLT, List.set_cons_succ, List.set_cons_zero, wrl_0, wrl_1, wrl_2, wrl_3, wrl_4, wrl_5, wrl_p0, wrl_p1, wrl_p2, wrl_p3, wrl_p4, h1, x_cs_i, and_self, show 1 < 13 by decide, e_299, s_299_0, s_299_1, s_299_4, s_299_7, s_299_8, s_299_11, s_299_12, s_299_13, s_299_14, s_299_17, s_299_20, s_299_23, s_299_24, s_299_27, s_299_28, s_299_29, s_299_30, s_299_36, st_isLatin1 hS0 (show 1 < 13 by decide), show ¬ (1 : Int32) = 0 by decide, x_gsf_i, st_length hS0 (show 1 < 13 by decide), hl, e_302, s_302_0, s_302_1, s_302_4, s_302_7, s_302_8, s_302_9, s_302_10, s_302_11, s_302_14, s_302_15, s_302_16, s_302_17, s_302_18, s_302_21, s_302_22, s_302_23, s_302_24, s_302_27, s_302_28, s_302_29, s_302_30, s_302_31, s_302_32, s_302_33, s_302_36, e_301, s_301_0, s_301_1, s_301_4, s_301_5, s_301_8, s_301_11, s_301_12, s_301_15, s_301_16, show ¬ nI y < 0 from nI_pos (by omega), show ¬ (255 : Int32) < nI y from nI_nlt (a := 255) (by omega) (by decide), h2, x_sal_i, show ¬ (0 : Int32) < 0 by decide, show ¬ Int32.ofNat 7 < nI 7 by decide, show (0 : Int32) < nI 7 by decide, e_303, s_303_0, s_303_1, s_303_2, s_303_4, s_303_5, s_303_9, s_303_10, s_303_13, s_303_14, s_303_16, s_303_17, s_303_19, s_303_22, s_303_24, s_303_25, s_303_28, s_303_31, s_303_32]
  refine (loop (d + 2) 7 0 _ (by decide)).trans ?_
  simp only [s_302_0, s_302_1, s_302_4, s_302_7, s_302_8, s_302_9, s_302_10, s_302_11, s_302_14, s_302_15, s_302_16, s_302_17, s_302_18, s_302_21, s_302_22, s_302_23, s_302_24, s_302_27, s_302_28, s_302_29, s_302_30, s_302_31, s_302_32, s_302_33, s_302_36, s_299_0, s_299_1, s_299_4, s_299_7, s_299_8, s_299_11, s_299_12, s_299_13, s_299_14, s_299_17, s_299_20, s_299_23, s_299_24, s_299_27, s_299_28, s_299_29, s_299_30, s_299_36, s_298_0, s_298_1, s_298_2, s_298_3, s_298_6, x_get_i, List.getElem?_cons_succ, List.getElem?_cons_zero, x_cv_j, cs_n, cs_i, cs_r, cs_l, Nat.reduceAdd, Nat.reduceLeDiff, true_and, Option.toList_some, Option.toList_none, List.cons_append, List.nil_append, if_true, if_false, nb0, nb1, x_setJ, x_setZ0, x_setZ1, x_setA, x_setO, List.length_cons, List.length_nil, Nat.reduceLT, List.set_cons_succ, List.set_cons_zero, wrl_0, wrl_1, wrl_2, wrl_3, wrl_4, wrl_5, wrl_p0, wrl_p1, wrl_p2, wrl_p3, wrl_p4]
  rw [(six_thi hy).1]
end
section
variable {sa : g_SA} {sc : Nat × Nat × (Nat → Int32)} {xt : Nat → Nat → List Value → tm_H → Option (Option Value × tm_H)} {d : Nat} {h : tm_H} {Q : Option Value → tm_H → Prop}
variable {r t c n z : Nat} {E P K F : Nat → Int32} {hn a e : Int32} {hb : Bool}
theorem ru_put (hz : z < 40) (v : Int32) : tm_D (g_G sa sc xt) d 55 [.ref r, .int v] (wrl h r (ruc r E P K (nI z) hn a e)) Q ↔ Q none (wrl h r (ruc r E (upd P z v) K (nI (z + 1)) hn a e)) := by
  rw [e_55]
  simp only [s_55_0, s_55_1, s_55_4, s_55_5, s_55_8, s_55_9, s_55_12, s_55_13, s_55_16, s_55_17, s_55_20, s_55_21, s_55_22, s_55_23, s_55_24, s_55_27, s_55_28, s_55_29, s_55_32, x_get_i, List.getElem?_cons_succ, List.getElem?_cons_zero, x_cv_j, cs_n, cs_i, cs_r, cs_l, Nat.reduceAdd, Nat.reduceLeDiff, true_and, Option.toList_some, Option.toList_none, List.cons_append, List.nil_append, if_true, if_false, nb0, nb1, x_setJ, x_setZ0, x_setZ1, x_setA, x_setO, List.length_cons, List.length_nil, Nat.reduceLT, List.set_cons_succ, List.set_cons_zero, wrl_0, wrl_1, wrl_2, wrl_3, wrl_4, wrl_5, wrl_p0, wrl_p1, wrl_p2, wrl_p3, wrl_p4, x_len_i (show 0 < 6 by decide), show ¬ Int32.ofNat 40 ≤ nI z from nI_ge hz (by decide), x_ist_n hz n40, nI_1]
theorem ru_putThing {i : Nat} (hz : z < 40) (hi : i < 7) : tm_D (g_G sa sc xt) (d + 1) 56 [.ref r, .int (nI i)] (wrl h r (ruc r E P K (nI z) (bI hb) a e)) Q ↔ Q none (wrl h r (ruc r E (upd P z (1000 + nI i)) K (nI (z + 1)) (bI (hb || hsN [1000 + nI i])) a e)) := by
  rw [e_56]
  simp only [s_56_0, s_56_1, s_56_4, s_56_5, s_56_6, s_56_9, s_56_10, s_56_11, s_56_14, s_56_15, s_56_17, s_56_20, s_56_21, s_56_24, s_56_25, s_56_26, s_56_29, x_get_i, List.getElem?_cons_succ, List.getElem?_cons_zero, x_cv_j, cs_n, cs_i, cs_r, cs_l, Nat.reduceAdd, Nat.reduceLeDiff, true_and, Option.toList_some, Option.toList_none, List.cons_append, List.nil_append, if_true, if_false, nb0, nb1, x_setJ, x_setZ0, x_setZ1, x_setA, x_setO, List.length_cons, List.length_nil, Nat.reduceLT, List.set_cons_succ, List.set_cons_zero, wrl_0, wrl_1, wrl_2, wrl_3, wrl_4, wrl_5, wrl_p0, wrl_p1, wrl_p2, wrl_p3, wrl_p4]
  rw [ru_put hz]
  simp only [s_56_0, s_56_1, s_56_4, s_56_5, s_56_6, s_56_9, s_56_10, s_56_11, s_56_14, s_56_15, s_56_17, s_56_20, s_56_21, s_56_24, s_56_25, s_56_26, s_56_29, x_get_i, List.getElem?_cons_succ, List.getElem?_cons_zero, x_cv_j, cs_n, cs_i, cs_r, cs_l, Nat.reduceAdd, Nat.reduceLeDiff, true_and, Option.toList_some, Option.toList_none, List.cons_append, List.nil_append, if_true, if_false, nb0, nb1, x_setJ, x_setZ0, x_setZ1, x_setA, x_setO, List.length_cons, List.length_nil, Nat.reduceLT, List.set_cons_succ, List.set_cons_zero, wrl_0, wrl_1, wrl_2, wrl_3, wrl_4, wrl_5, wrl_p0, wrl_p1, wrl_p2, wrl_p3, wrl_p4]
  have h6 : ∀ i : Fin 7, hsN [1000 + nI i.1] = decide (nI i.1 = 6) := by decide +kernel
  rw [h6 ⟨i, hi⟩]
  by_cases c : nI i = 6
  · simp only [c, if_true, decide_true, show (1 : Int32) = bI true by decide, bI_or, x_setB, s_56_0, s_56_1, s_56_4, s_56_5, s_56_6, s_56_9, s_56_10, s_56_11, s_56_14, s_56_15, s_56_17, s_56_20, s_56_21, s_56_24, s_56_25, s_56_26, s_56_29, x_get_i, List.getElem?_cons_succ, List.getElem?_cons_zero, x_cv_j, cs_n, cs_i, cs_r, cs_l, Nat.reduceAdd, Nat.reduceLeDiff, true_and, Option.toList_some, Option.toList_none, List.cons_append, List.nil_append, if_true, if_false, nb0, nb1, x_setJ, x_setZ0, x_setZ1, x_setA, x_setO, List.length_cons, List.length_nil, Nat.reduceLT, List.set_cons_succ, List.set_cons_zero, wrl_0, wrl_1, wrl_2, wrl_3, wrl_4, wrl_5, wrl_p0, wrl_p1, wrl_p2, wrl_p3, wrl_p4]
  · simp only [c, if_false, decide_false, show (0 : Int32) = bI false by decide, bI_or, x_setB, s_56_0, s_56_1, s_56_4, s_56_5, s_56_6, s_56_9, s_56_10, s_56_11, s_56_14, s_56_15, s_56_17, s_56_20, s_56_21, s_56_24, s_56_25, s_56_26, s_56_29, x_get_i, List.getElem?_cons_succ, List.getElem?_cons_zero, x_cv_j, cs_n, cs_i, cs_r, cs_l, Nat.reduceAdd, Nat.reduceLeDiff, true_and, Option.toList_some, Option.toList_none, List.cons_append, List.nil_append, if_true, if_false, nb0, nb1, x_setJ, x_setZ0, x_setZ1, x_setA, x_setO, List.length_cons, List.length_nil, Nat.reduceLT, List.set_cons_succ, List.set_cons_zero, wrl_0, wrl_1, wrl_2, wrl_3, wrl_4, wrl_5, wrl_p0, wrl_p1, wrl_p2, wrl_p3, wrl_p4]
theorem as32 {x y w : Int32} : x + y - w = x + (y - w) := by rw [Int32.sub_eq_add_neg, Int32.sub_eq_add_neg, Int32.add_assoc]
theorem ru_number {p : Nat} (hx : tx_in h t c F) (hc : c ≤ 80) (hd : t + 2 ≤ r ∨ r + 4 ≤ t) (hnc : n ≤ c) (hz : z < 40) (hp : p ≤ n) : tm_D (g_G sa sc xt) (d + 2) 60 [.ref r, .ref t] (wrl h r (ruc r E P K (nI z) hn (nI p) (nI n))) Q ↔ Q none (wrl h r (ruc r E (upd P z (numr F n 3 p 0).2) K (nI (z + 1)) hn (nI (numr F n 3 p 0).1) (nI n))) := by
  have ht : ∀ {E P K : Nat → Int32} {z hn a e : Int32}, tx_in (wrl h r (ruc r E P K z hn a e)) t c F := fun {E P K z hn a e} => tx_in_same (fun x h1 h2 => wrl_o (by show _ ∨ r + 4 ≤ x; omega)) hx
  have ht0 : ∀ {E P K : Nat → Int32} {z hn a e : Int32}, (wrl h r (ruc r E P K z hn a e)).2.2 t = .inr (8, [.ref (t + 1), .int (nI c)]) := fun {E P K z hn a e} => (ht (E := E) (P := P) (K := K) (z := z) (hn := hn) (a := a) (e := e)).1
  have em : (if nI (p + 3) < nI n then nI (p + 3) else nI n) = nI (min n (p + 3)) := by
    by_cases h1 : p + 3 < n
    · rw [if_pos (nI_lt h1 (by omega)), show min n (p + 3) = p + 3 by omega]
    · rw [if_neg (nI_nlt (by omega) (by omega)), show min n (p + 3) = n by omega]
  have loop : ∀ (k q : Nat) (v : Int32), q + k = p + 3 → q ≤ n → (tm_X (g_G sa sc xt) (d + 2) 60 16 [.ref r, .ref t, .int v, .int (nI (min n (p + 3)))] [] (wrl h r (ruc r E P K (nI z) hn (nI q) (nI n))) Q ↔ Q none (wrl h r (ruc r E (upd P z (numr F n k q v).2) K (nI (z + 1)) hn (nI (numr F n k q v).1) (nI n)))) := by
    intro k
    induction k with
    | zero =>
      intro q v h1 h2
      rw [s_60_16]
      simp only [s_60_0, s_60_1, s_60_2, s_60_3, s_60_6, s_60_7, s_60_10, s_60_11, s_60_12, s_60_15, s_60_17, s_60_20, s_60_21, s_60_24, s_60_26, s_60_27, s_60_28, s_60_31, s_60_34, s_60_37, s_60_40, s_60_42, s_60_43, s_60_44, s_60_45, s_60_46, s_60_49, s_60_52, s_60_53, s_60_55, s_60_56, s_60_57, s_60_58, s_60_59, s_60_62, s_60_63, s_60_64, s_60_67, s_60_70, s_60_71, s_60_72, s_60_75, x_get_i, List.getElem?_cons_succ, List.getElem?_cons_zero, x_cv_j, cs_n, cs_i, cs_r, cs_l, Nat.reduceAdd, Nat.reduceLeDiff, true_and, Option.toList_some, Option.toList_none, List.cons_append, List.nil_append, if_true, if_false, nb0, nb1, x_setJ, x_setZ0, x_setZ1, x_setA, x_setO, List.length_cons, List.length_nil, Nat.reduceLT, List.set_cons_succ, List.set_cons_zero, wrl_0, wrl_1, wrl_2, wrl_3, wrl_4, wrl_5, wrl_p0, wrl_p1, wrl_p2, wrl_p3, wrl_p4, show nI (min n (p + 3)) ≤ nI q from nI_le (by omega) (by omega)]
      rw [ru_put hz]
      simp only [s_60_0, s_60_1, s_60_2, s_60_3, s_60_6, s_60_7, s_60_10, s_60_11, s_60_12, s_60_15, s_60_17, s_60_20, s_60_21, s_60_24, s_60_26, s_60_27, s_60_28, s_60_31, s_60_34, s_60_37, s_60_40, s_60_42, s_60_43, s_60_44, s_60_45, s_60_46, s_60_49, s_60_52, s_60_53, s_60_55, s_60_56, s_60_57, s_60_58, s_60_59, s_60_62, s_60_63, s_60_64, s_60_67, s_60_70, s_60_71, s_60_72, s_60_75, x_get_i, List.getElem?_cons_succ, List.getElem?_cons_zero, x_cv_j, cs_n, cs_i, cs_r, cs_l, Nat.reduceAdd, Nat.reduceLeDiff, true_and, Option.toList_some, Option.toList_none, List.cons_append, List.nil_append, if_true, if_false, nb0, nb1, x_setJ, x_setZ0, x_setZ1, x_setA, x_setO, List.length_cons, List.length_nil, Nat.reduceLT, List.set_cons_succ, List.set_cons_zero, wrl_0, wrl_1, wrl_2, wrl_3, wrl_4, wrl_5, wrl_p0, wrl_p1, wrl_p2, wrl_p3, wrl_p4]
      exact Iff.rfl
    | succ k ih =>
      intro q v h1 h2
      rw [s_60_16]
      unfold numr
      by_cases c1 : q < n
      · simp only [s_60_0, s_60_1, s_60_2, s_60_3, s_60_6, s_60_7, s_60_10, s_60_11, s_60_12, s_60_15, s_60_17, s_60_20, s_60_21, s_60_24, s_60_26, s_60_27, s_60_28, s_60_31, s_60_34, s_60_37, s_60_40, s_60_42, s_60_43, s_60_44, s_60_45, s_60_46, s_60_49, s_60_52, s_60_53, s_60_55, s_60_56, s_60_57, s_60_58, s_60_59, s_60_62, s_60_63, s_60_64, s_60_67, s_60_70, s_60_71, s_60_72, s_60_75, x_get_i, List.getElem?_cons_succ, List.getElem?_cons_zero, x_cv_j, cs_n, cs_i, cs_r, cs_l, Nat.reduceAdd, Nat.reduceLeDiff, true_and, Option.toList_some, Option.toList_none, List.cons_append, List.nil_append, if_true, if_false, nb0, nb1, x_setJ, x_setZ0, x_setZ1, x_setA, x_setO, List.length_cons, List.length_nil, Nat.reduceLT, List.set_cons_succ, List.set_cons_zero, wrl_0, wrl_1, wrl_2, wrl_3, wrl_4, wrl_5, wrl_p0, wrl_p1, wrl_p2, wrl_p3, wrl_p4, show ¬ nI (min n (p + 3)) ≤ nI q from nI_ge (by omega) (by omega), ht0, tx_at' ht hc, txa_n (show q < c by omega) hc, m_stands]
        by_cases c2 : txs 100 (F q) = 0
        · simp only [c2, if_true, not_true_eq_false, and_false, if_false]
          rw [ru_put hz]
          simp only [s_60_0, s_60_1, s_60_2, s_60_3, s_60_6, s_60_7, s_60_10, s_60_11, s_60_12, s_60_15, s_60_17, s_60_20, s_60_21, s_60_24, s_60_26, s_60_27, s_60_28, s_60_31, s_60_34, s_60_37, s_60_40, s_60_42, s_60_43, s_60_44, s_60_45, s_60_46, s_60_49, s_60_52, s_60_53, s_60_55, s_60_56, s_60_57, s_60_58, s_60_59, s_60_62, s_60_63, s_60_64, s_60_67, s_60_70, s_60_71, s_60_72, s_60_75, x_get_i, List.getElem?_cons_succ, List.getElem?_cons_zero, x_cv_j, cs_n, cs_i, cs_r, cs_l, Nat.reduceAdd, Nat.reduceLeDiff, true_and, Option.toList_some, Option.toList_none, List.cons_append, List.nil_append, if_true, if_false, nb0, nb1, x_setJ, x_setZ0, x_setZ1, x_setA, x_setO, List.length_cons, List.length_nil, Nat.reduceLT, List.set_cons_succ, List.set_cons_zero, wrl_0, wrl_1, wrl_2, wrl_3, wrl_4, wrl_5, wrl_p0, wrl_p1, wrl_p2, wrl_p3, wrl_p4]
        · simp only [c1, c2, if_false, not_false_eq_true, and_self, if_true, ht0, s_60_0, s_60_1, s_60_2, s_60_3, s_60_6, s_60_7, s_60_10, s_60_11, s_60_12, s_60_15, s_60_17, s_60_20, s_60_21, s_60_24, s_60_26, s_60_27, s_60_28, s_60_31, s_60_34, s_60_37, s_60_40, s_60_42, s_60_43, s_60_44, s_60_45, s_60_46, s_60_49, s_60_52, s_60_53, s_60_55, s_60_56, s_60_57, s_60_58, s_60_59, s_60_62, s_60_63, s_60_64, s_60_67, s_60_70, s_60_71, s_60_72, s_60_75, x_get_i, List.getElem?_cons_succ, List.getElem?_cons_zero, x_cv_j, cs_n, cs_i, cs_r, cs_l, Nat.reduceAdd, Nat.reduceLeDiff, true_and, Option.toList_some, Option.toList_none, List.cons_append, List.nil_append, if_true, if_false, nb0, nb1, x_setJ, x_setZ0, x_setZ1, x_setA, x_setO, List.length_cons, List.length_nil, Nat.reduceLT, List.set_cons_succ, List.set_cons_zero, wrl_0, wrl_1, wrl_2, wrl_3, wrl_4, wrl_5, wrl_p0, wrl_p1, wrl_p2, wrl_p3, wrl_p4, tx_at' ht hc, txa_n (show q < c by omega) hc, nI_1, as32]
          exact ih (q + 1) _ (by omega) (by omega)
      · simp only [s_60_0, s_60_1, s_60_2, s_60_3, s_60_6, s_60_7, s_60_10, s_60_11, s_60_12, s_60_15, s_60_17, s_60_20, s_60_21, s_60_24, s_60_26, s_60_27, s_60_28, s_60_31, s_60_34, s_60_37, s_60_40, s_60_42, s_60_43, s_60_44, s_60_45, s_60_46, s_60_49, s_60_52, s_60_53, s_60_55, s_60_56, s_60_57, s_60_58, s_60_59, s_60_62, s_60_63, s_60_64, s_60_67, s_60_70, s_60_71, s_60_72, s_60_75, x_get_i, List.getElem?_cons_succ, List.getElem?_cons_zero, x_cv_j, cs_n, cs_i, cs_r, cs_l, Nat.reduceAdd, Nat.reduceLeDiff, true_and, Option.toList_some, Option.toList_none, List.cons_append, List.nil_append, if_true, if_false, nb0, nb1, x_setJ, x_setZ0, x_setZ1, x_setA, x_setO, List.length_cons, List.length_nil, Nat.reduceLT, List.set_cons_succ, List.set_cons_zero, wrl_0, wrl_1, wrl_2, wrl_3, wrl_4, wrl_5, wrl_p0, wrl_p1, wrl_p2, wrl_p3, wrl_p4, show nI (min n (p + 3)) ≤ nI q from nI_le (by omega) (by omega), c1, false_and, if_false]
        rw [ru_put hz]
        simp only [s_60_0, s_60_1, s_60_2, s_60_3, s_60_6, s_60_7, s_60_10, s_60_11, s_60_12, s_60_15, s_60_17, s_60_20, s_60_21, s_60_24, s_60_26, s_60_27, s_60_28, s_60_31, s_60_34, s_60_37, s_60_40, s_60_42, s_60_43, s_60_44, s_60_45, s_60_46, s_60_49, s_60_52, s_60_53, s_60_55, s_60_56, s_60_57, s_60_58, s_60_59, s_60_62, s_60_63, s_60_64, s_60_67, s_60_70, s_60_71, s_60_72, s_60_75, x_get_i, List.getElem?_cons_succ, List.getElem?_cons_zero, x_cv_j, cs_n, cs_i, cs_r, cs_l, Nat.reduceAdd, Nat.reduceLeDiff, true_and, Option.toList_some, Option.toList_none, List.cons_append, List.nil_append, if_true, if_false, nb0, nb1, x_setJ, x_setZ0, x_setZ1, x_setA, x_setO, List.length_cons, List.length_nil, Nat.reduceLT, List.set_cons_succ, List.set_cons_zero, wrl_0, wrl_1, wrl_2, wrl_3, wrl_4, wrl_5, wrl_p0, wrl_p1, wrl_p2, wrl_p3, wrl_p4]
  have e3 : nI p + 3 = nI (p + 3) := nI_add p 3
  rw [e_60]
  simp only [s_60_0, s_60_1, s_60_2, s_60_3, s_60_6, s_60_7, s_60_10, s_60_11, s_60_12, s_60_15, s_60_17, s_60_20, s_60_21, s_60_24, s_60_26, s_60_27, s_60_28, s_60_31, s_60_34, s_60_37, s_60_40, s_60_42, s_60_43, s_60_44, s_60_45, s_60_46, s_60_49, s_60_52, s_60_53, s_60_55, s_60_56, s_60_57, s_60_58, s_60_59, s_60_62, s_60_63, s_60_64, s_60_67, s_60_70, s_60_71, s_60_72, s_60_75, x_get_i, List.getElem?_cons_succ, List.getElem?_cons_zero, x_cv_j, cs_n, cs_i, cs_r, cs_l, Nat.reduceAdd, Nat.reduceLeDiff, true_and, Option.toList_some, Option.toList_none, List.cons_append, List.nil_append, if_true, if_false, nb0, nb1, x_setJ, x_setZ0, x_setZ1, x_setA, x_setO, List.length_cons, List.length_nil, Nat.reduceLT, List.set_cons_succ, List.set_cons_zero, wrl_0, wrl_1, wrl_2, wrl_3, wrl_4, wrl_5, wrl_p0, wrl_p1, wrl_p2, wrl_p3, wrl_p4, e3, em]
  exact loop 3 p 0 (by omega) hp
end
