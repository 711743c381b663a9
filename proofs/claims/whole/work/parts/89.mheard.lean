/-! the reference: forget, isMood -/
section
variable {sa : g_SA} {sc : Nat × Nat × (Nat → Int32)} {xt : Nat → Nat → List Value → tm_H → Option (Option Value × tm_H)} {d m : Nat} {h : tm_H} {Q : Option Value → tm_H → Prop} {I : Nat → Int32} {rd : Value} {ru : Nat} {C : Nat → tm_E}
theorem r_forget : tm_D (g_G sa sc xt) d 261 [.ref m] (mh h m I rd ru C) Q ↔ Q (some (.int (I 35))) (mh h m (iu (iu I 7 0) 35 0) rd ru C) := by
  rw [e_261]
  simp only [s_261_0, s_261_1, s_261_2, s_261_5, s_261_6, s_261_9, s_261_10, s_261_11, s_261_12, s_261_15, s_261_16, x_get_i, List.getElem?_cons_succ, List.getElem?_cons_zero, x_cv_j, cs_n, cs_i, cs_r, cs_l, Nat.reduceAdd, Nat.reduceLeDiff, true_and, Option.toList_some, Option.toList_none, List.cons_append, List.nil_append, if_true, if_false, nb0, nb1, x_setJ, x_setZ0, x_setZ1, x_setA, x_setO, List.length_cons, List.length_nil, Nat.reduceLT, List.set_cons_succ, List.set_cons_zero, wrl_0, wrl_1, wrl_2, wrl_3, wrl_4, wrl_5, wrl_p0, wrl_p1, wrl_p2, wrl_p3, wrl_p4, mh_o, mh_po, mcv, mg_0, mg_1, mg_2, mg_3, mg_4, mg_5, mg_6, mg_7, mg_8, mg_9, mg_10, mg_11, mg_12, mg_13, mg_14, mg_15, mg_16, mg_17, mg_18, mg_19, mg_20, mg_21, mg_22, mg_23, mg_24, mg_25, mg_26, mg_27, mg_28, mg_29, mg_30, mg_31, mg_32, mg_33, mg_34, mg_35, mg_36, mg_37, mg_38, mg_39, mg_40, mg_41, mg_42, mg_43, mg_44, mg_45, mg_46, ms_1, ms_4, ms_6, ms_7, ms_9, ms_10, ms_11, ms_12, ms_16, ms_20, ms_24, ms_28, ms_35, ms_39, ms_42, ms_43, ms_17t, ms_17f, ms_8, ms_14, mc_1, mp_1, mc_2, mp_2, mc_3, mp_3, mc_4, mp_4, mc_5, mp_5, mc_6, mp_6, mc_7, mp_7, mc_8, mp_8, mc_9, mp_9, mc_10, mp_10, mc_11, mp_11, mc_12, mp_12, mc_13, mp_13, mc_14, mp_14, mc_15, mp_15, mc_16, mp_16, mc_17, mp_17, mc_18, mp_18, mc_19, mp_19, mc_20, mp_20, mc_21, mp_21, mc_22, mp_22, mc_23, mp_23, mc_24, mp_24, mc_25, mp_25, mc_26, mp_26, mc_27, mp_27, mc_28, mp_28, mc_29, mp_29, iu, cup, Nat.reduceEqDiff]
theorem r_isMood (v : Int32) : tm_D (g_G sa sc xt) (d + 1) 266 [.int v] h Q ↔ Q (some (.int (if v < -9 then 0 else if 9 < v then 0 else 1))) h := by
  rw [e_266]
  simp only [s_266_0, s_266_1, s_266_3, s_266_5, s_266_8, x_get_i, List.getElem?_cons_succ, List.getElem?_cons_zero, x_cv_j, cs_n, cs_i, cs_r, cs_l, Nat.reduceAdd, Nat.reduceLeDiff, true_and, Option.toList_some, Option.toList_none, List.cons_append, List.nil_append, if_true, if_false, nb0, nb1, x_setJ, x_setZ0, x_setZ1, x_setA, x_setO, List.length_cons, List.length_nil, Nat.reduceLT, List.set_cons_succ, List.set_cons_zero, wrl_0, wrl_1, wrl_2, wrl_3, wrl_4, wrl_5, wrl_p0, wrl_p1, wrl_p2, wrl_p3, wrl_p4, r_in]
  by_cases c1 : v < -9
  · simp only [c1, if_true, nb0, true_and]
  · by_cases c2 : 9 < v
    · simp only [c1, c2, if_true, if_false, nb0, true_and]
    · simp only [c1, c2, if_false, nb1, true_and]
theorem r_saw0 {v w z : Int32} (hb : (v < -9 ∨ 9 < v) ∨ (w < -9 ∨ 9 < w) ∨ (z < -9 ∨ 9 < z)) : tm_D (g_G sa sc xt) (d + 2) 267 [.ref m, .int v, .int w, .int z] (mh h m I rd ru C) Q ↔ Q (some (.int (-1))) (mh h m (iu I 7 0) rd ru C) := by
  have e : ∀ v : Int32, (if v < -9 then (0 : Int32) else if 9 < v then 0 else 1) = if v < -9 ∨ 9 < v then 0 else 1 := by
    intro v
    by_cases c1 : v < -9
    · rw [if_pos c1, if_pos (Or.inl c1)]
    · rw [if_neg c1]
      by_cases c2 : 9 < v
      · rw [if_pos c2, if_pos (Or.inr c2)]
      · rw [if_neg c2, if_neg (by rintro (q | q); exact c1 q; exact c2 q)]
  rw [e_267]
  simp only [s_267_0, s_267_1, s_267_2, s_267_5, s_267_6, s_267_9, s_267_12, s_267_13, s_267_16, s_267_19, s_267_20, s_267_23, s_267_26, s_267_27, s_267_30, s_267_32, s_267_35, s_267_36, s_267_37, s_267_38, s_267_41, s_267_42, s_267_45, s_267_46, s_267_47, s_267_48, s_267_51, s_267_52, s_267_55, s_267_56, s_267_57, s_267_58, s_267_61, s_267_62, s_267_65, s_267_66, s_267_67, s_267_68, s_267_69, s_267_72, s_267_73, s_267_74, s_267_77, s_267_78, s_267_81, x_get_i, List.getElem?_cons_succ, List.getElem?_cons_zero, x_cv_j, cs_n, cs_i, cs_r, cs_l, Nat.reduceAdd, Nat.reduceLeDiff, true_and, Option.toList_some, Option.toList_none, List.cons_append, List.nil_append, if_true, if_false, nb0, nb1, x_setJ, x_setZ0, x_setZ1, x_setA, x_setO, List.length_cons, List.length_nil, Nat.reduceLT, List.set_cons_succ, List.set_cons_zero, wrl_0, wrl_1, wrl_2, wrl_3, wrl_4, wrl_5, wrl_p0, wrl_p1, wrl_p2, wrl_p3, wrl_p4, mh_o, mh_po, mcv, mg_0, mg_1, mg_2, mg_3, mg_4, mg_5, mg_6, mg_7, mg_8, mg_9, mg_10, mg_11, mg_12, mg_13, mg_14, mg_15, mg_16, mg_17, mg_18, mg_19, mg_20, mg_21, mg_22, mg_23, mg_24, mg_25, mg_26, mg_27, mg_28, mg_29, mg_30, mg_31, mg_32, mg_33, mg_34, mg_35, mg_36, mg_37, mg_38, mg_39, mg_40, mg_41, mg_42, mg_43, mg_44, mg_45, mg_46, ms_1, ms_4, ms_6, ms_7, ms_9, ms_10, ms_11, ms_12, ms_16, ms_20, ms_24, ms_28, ms_35, ms_39, ms_42, ms_43, ms_17t, ms_17f, ms_8, ms_14, mc_1, mp_1, mc_2, mp_2, mc_3, mp_3, mc_4, mp_4, mc_5, mp_5, mc_6, mp_6, mc_7, mp_7, mc_8, mp_8, mc_9, mp_9, mc_10, mp_10, mc_11, mp_11, mc_12, mp_12, mc_13, mp_13, mc_14, mp_14, mc_15, mp_15, mc_16, mp_16, mc_17, mp_17, mc_18, mp_18, mc_19, mp_19, mc_20, mp_20, mc_21, mp_21, mc_22, mp_22, mc_23, mp_23, mc_24, mp_24, mc_25, mp_25, mc_26, mp_26, mc_27, mp_27, mc_28, mp_28, mc_29, mp_29, iu, cup, Nat.reduceEqDiff, r_isMood, e]
  by_cases k1 : v < -9 ∨ 9 < v
  · simp only [k1, if_true]
  · by_cases k2 : w < -9 ∨ 9 < w
    · simp only [k1, k2, if_true, if_false, show ¬ (1 : Int32) = 0 by decide]
    · by_cases k3 : z < -9 ∨ 9 < z
      · simp only [k1, k2, k3, if_true, if_false, show ¬ (1 : Int32) = 0 by decide]
      · exact absurd hb (by rintro (q | q | q); exact k1 q; exact k2 q; exact k3 q)
end
