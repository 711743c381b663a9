/-! a rule is made -/
theorem NW_wrl {h : tm_H} {s : Nat} {cs cs' : List tm_E} (hl : cs.length = cs'.length) : wrl (NW h s cs) h.1 cs' = NW h s cs' := by
  refine tcp_ext (by show h.1 + cs.length = h.1 + cs'.length; rw [hl]) rfl (fun q => ?_)
  show (if h.1 ≤ q then (match cs'[q - h.1]? with
    | some e => e
    | none => (if h.1 ≤ q then (cs[q - h.1]?).getD (h.2.2 q) else h.2.2 q)) else (if h.1 ≤ q then (cs[q - h.1]?).getD (h.2.2 q) else h.2.2 q)) = if h.1 ≤ q then (cs'[q - h.1]?).getD (h.2.2 q) else h.2.2 q
  by_cases c : h.1 ≤ q
  · rw [if_pos c, if_pos c, if_pos c]
    by_cases c2 : q - h.1 < cs'.length
    · rw [List.getElem?_eq_getElem c2]
      rfl
    · rw [List.getElem?_eq_none (l := cs') (by omega), List.getElem?_eq_none (l := cs) (by omega)]
  · rw [if_neg c, if_neg c, if_neg c]
section
variable {sa : g_SA} {sc : Nat × Nat × (Nat → Int32)} {xt : Nat → Nat → List Value → tm_H → Option (Option Value × tm_H)} {d s : Nat} {h : tm_H} {Q : Option Value → tm_H → Prop}
theorem n_rule (hQ : ∀ s', s' ≤ s + 100 → Q none (NW h s' (ruc h.1 (fun _ => 0) (wrc (fun _ => 0) 0 rfirst) (fun _ => 0) (nI 7) 0 0 0))) : tm_D (g_G sa sc xt) (d + 3) 51 [.ref h.1] (NW h s [.inr (7, [.null, .null, .null, .int 0, .int 0, .int 0, .int 0])]) Q := by
  rw [e_51]
  simp only [s_51_0, s_51_1, s_51_4, s_51_5, s_51_7, s_51_9, s_51_12, s_51_13, s_51_15, s_51_17, s_51_20, s_51_21, s_51_23, s_51_25, s_51_28, s_51_29, s_51_30, s_51_33, s_51_34, s_51_35, s_51_38, s_51_39, s_51_40, s_51_43, s_51_44, s_51_45, s_51_48, s_51_49, s_51_52, x_get_i, List.getElem?_cons_succ, List.getElem?_cons_zero, x_cv_j, cs_n, cs_i, cs_r, cs_l, Nat.reduceAdd, Nat.reduceLeDiff, true_and, Option.toList_some, Option.toList_none, List.cons_append, List.nil_append, if_true, if_false, nb0, nb1, x_setJ, x_setZ0, x_setZ1, x_setA, x_setO, List.length_cons, List.length_nil, Nat.reduceLT, List.set_cons_succ, List.set_cons_zero, wrl_0, wrl_1, wrl_2, wrl_3, wrl_4, wrl_5, wrl_p0, wrl_p1, wrl_p2, wrl_p3, wrl_p4, NW_new, NW_g0, NW_p0, NW_1, List.cons_append, List.nil_append, List.length_cons, List.length_nil, List.set_cons_zero, List.set_cons_succ, List.set_nil, Nat.reduceAdd, Nat.zero_add, if_false, if_true, x_set_a, x_set_n, x_set_b, Nat.reduceLT, show ((7 : Int32) < 0 ∨ 60000000 < (7 : Int32).toNatClampNeg) = False from (z32 7 (by decide)).1, show (7 : Int32).toNatClampNeg = 7 from (z32 7 (by decide)).2, show ((40 : Int32) < 0 ∨ 60000000 < (40 : Int32).toNatClampNeg) = False from (z32 40 (by decide)).1, show (40 : Int32).toNatClampNeg = 40 from (z32 40 (by decide)).2]
  have e0 : ∀ s', NW h s' (ruc h.1 (fun _ => 0) (fun _ => 0) (fun _ => 0) (nI 0) 0 0 0) = wrl (NW h s' (ruc h.1 (fun _ => 0) (fun _ => 0) (fun _ => 0) (nI 0) 0 0 0)) h.1 (ruc h.1 (fun _ => 0) (fun _ => 0) (fun _ => 0) (nI 0) 0 0 0) := fun s' => (NW_wrl rfl).symm
  have key : ∀ s', s' ≤ s + 100 → tm_D (g_G sa sc xt) (d + 2) 54 [.ref h.1] (NW h s' (ruc h.1 (fun _ => 0) (fun _ => 0) (fun _ => 0) (nI 0) 0 0 0)) (fun r h' => tm_X (g_G sa sc xt) (d + 2 + 1) 51 52 [.ref h.1] (r.toList ++ []) h' Q) := by
    intro s' hs'
    rw [e0]
    refine (ru_first (d := d)).mpr ?_
    rw [NW_wrl (cs := ruc h.1 (fun _ => 0) (fun _ => 0) (fun _ => 0) (nI 0) 0 0 0) (cs' := ruc h.1 (fun _ => 0) (wrc (fun _ => 0) 0 rfirst) (fun _ => 0) (nI 7) 0 0 0) rfl]
    simp only [s_51_0, s_51_1, s_51_4, s_51_5, s_51_7, s_51_9, s_51_12, s_51_13, s_51_15, s_51_17, s_51_20, s_51_21, s_51_23, s_51_25, s_51_28, s_51_29, s_51_30, s_51_33, s_51_34, s_51_35, s_51_38, s_51_39, s_51_40, s_51_43, s_51_44, s_51_45, s_51_48, s_51_49, s_51_52, x_get_i, List.getElem?_cons_succ, List.getElem?_cons_zero, x_cv_j, cs_n, cs_i, cs_r, cs_l, Nat.reduceAdd, Nat.reduceLeDiff, true_and, Option.toList_some, Option.toList_none, List.cons_append, List.nil_append, if_true, if_false, nb0, nb1, x_setJ, x_setZ0, x_setZ1, x_setA, x_setO, List.length_cons, List.length_nil, Nat.reduceLT, List.set_cons_succ, List.set_cons_zero, wrl_0, wrl_1, wrl_2, wrl_3, wrl_4, wrl_5, wrl_p0, wrl_p1, wrl_p2, wrl_p3, wrl_p4]
    exact hQ _ hs'
  have k2 := key
  simp only [s_51_0, s_51_1, s_51_4, s_51_5, s_51_7, s_51_9, s_51_12, s_51_13, s_51_15, s_51_17, s_51_20, s_51_21, s_51_23, s_51_25, s_51_28, s_51_29, s_51_30, s_51_33, s_51_34, s_51_35, s_51_38, s_51_39, s_51_40, s_51_43, s_51_44, s_51_45, s_51_48, s_51_49, s_51_52, x_get_i, List.getElem?_cons_succ, List.getElem?_cons_zero, x_cv_j, cs_n, cs_i, cs_r, cs_l, Nat.reduceAdd, Nat.reduceLeDiff, true_and, Option.toList_some, Option.toList_none, List.cons_append, List.nil_append, if_true, if_false, nb0, nb1, x_setJ, x_setZ0, x_setZ1, x_setA, x_setO, List.length_cons, List.length_nil, Nat.reduceLT, List.set_cons_succ, List.set_cons_zero, wrl_0, wrl_1, wrl_2, wrl_3, wrl_4, wrl_5, wrl_p0, wrl_p1, wrl_p2, wrl_p3, wrl_p4] at k2
  first
    | exact key _ (by omega)
    | exact k2 _ (by omega)
end
