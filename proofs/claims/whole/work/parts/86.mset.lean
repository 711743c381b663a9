/-! the reference: a text is set -/
def gs1 (N : Nat → Int32) (t : Nat) (v : Int32) : Nat → Int32 := upd (upd (upd N 36 (N 36 ||| 1 <<< (nI t &&& 31))) t (if N t + 1 < 9 then N t + 1 else 9)) (12 + t) (pm (N (12 + t) + v))
def rgs (L Z : Nat → Int32) (v : Int32) (n : Nat) : Nat → Nat → (Nat → Int32) → Int32 → Option Int32 × (Nat → Int32)
  | 0, _, N, g => (some g, N)
  | j + 1, i, N, g => match rtk L N (N 36) (Z i) n with
    | none => (none, N)
    | some t => rgs L Z v n j (i + 1) (gs1 N t v) (g ||| 1 <<< (nI t &&& 31))
def o1 : Option Int32 → Int32
  | none => -1
  | some g => g
section
variable {sa : g_SA} {sc : Nat × Nat × (Nat → Int32)} {xt : Nat → Nat → List Value → tm_H → Option (Option Value × tm_H)} {d m : Nat} {h : tm_H} {Q : Option Value → tm_H → Prop} {I : Nat → Int32} {rd : Value} {ru : Nat} {C : Nat → tm_E}
variable {n c j0 : Nat} {N L Z : Nat → Int32}
theorem r_goSet (hj : j0 = 1 ∨ j0 = 11) (h1 : I 1 = nI n) (hn : n ≤ 12) (h24 : I 24 = nI c) (hc : c ≤ 12) (h12 : C 12 = .inl (0, 13, .inl Z)) (hL : C 2 = .inl (0, 12, .inl L)) (hN : C j0 = .inl (0, 38, .inl N)) (v : Int32) : tm_D (g_G sa sc xt) (d + 2) 218 [.ref m, .ref (m + j0), .int v] (mh h m I rd ru C) Q ↔ Q (some (.int (o1 (rgs L Z v n c 0 N 0).1))) (mh h m I rd ru (cup C j0 (.inl (0, 38, .inl (rgs L Z v n c 0 N 0).2)))) := by
  have j1 : 0 < j0 := by omega
  have j2 : j0 < 30 := by omega
  have loop : ∀ (r k : Nat) (N0 : Nat → Int32) (g : Int32) (l5 : Value), k + r = c → (tm_X (g_G sa sc xt) (d + 2) 218 5 [.ref m, .ref (m + j0), .int v, .int g, .int (nI k), l5] [] (mh h m I rd ru (cup C j0 (.inl (0, 38, .inl N0)))) Q ↔ Q (some (.int (o1 (rgs L Z v n r k N0 g).1))) (mh h m I rd ru (cup C j0 (.inl (0, 38, .inl (rgs L Z v n r k N0 g).2))))) := by
    intro r
    induction r with
    | zero =>
      intro k N0 g l5 hk
      have hk : k = c := by omega
      subst hk
      rw [s_218_5]
      simp only [s_218_0, s_218_1, s_218_2, s_218_3, s_218_7, s_218_8, s_218_11, s_218_14, s_218_15, s_218_16, s_218_17, s_218_20, s_218_22, s_218_23, s_218_26, s_218_28, s_218_30, s_218_31, s_218_34, s_218_35, s_218_36, s_218_37, s_218_38, s_218_40, s_218_41, s_218_42, s_218_43, s_218_44, s_218_46, s_218_47, s_218_48, s_218_49, s_218_51, s_218_52, s_218_53, s_218_54, s_218_55, s_218_57, s_218_59, s_218_60, s_218_62, s_218_63, s_218_64, s_218_65, s_218_68, s_218_69, s_218_70, s_218_72, s_218_74, s_218_75, s_218_76, s_218_78, s_218_80, s_218_81, s_218_82, s_218_83, s_218_84, s_218_87, s_218_88, s_218_91, s_218_94, s_218_95, x_get_i, List.getElem?_cons_succ, List.getElem?_cons_zero, x_cv_j, cs_n, cs_i, cs_r, cs_l, Nat.reduceAdd, Nat.reduceLeDiff, true_and, Option.toList_some, Option.toList_none, List.cons_append, List.nil_append, if_true, if_false, nb0, nb1, x_setJ, x_setZ0, x_setZ1, x_setA, x_setO, List.length_cons, List.length_nil, Nat.reduceLT, List.set_cons_succ, List.set_cons_zero, wrl_0, wrl_1, wrl_2, wrl_3, wrl_4, wrl_5, wrl_p0, wrl_p1, wrl_p2, wrl_p3, wrl_p4, mh_o, mh_po, mcv, mg_0, mg_1, mg_2, mg_3, mg_4, mg_5, mg_6, mg_7, mg_8, mg_9, mg_10, mg_11, mg_12, mg_13, mg_14, mg_15, mg_16, mg_17, mg_18, mg_19, mg_20, mg_21, mg_22, mg_23, mg_24, mg_25, mg_26, mg_27, mg_28, mg_29, mg_30, mg_31, mg_32, mg_33, mg_34, mg_35, mg_36, mg_37, mg_38, mg_39, mg_40, mg_41, mg_42, mg_43, mg_44, mg_45, mg_46, ms_1, ms_4, ms_6, ms_7, ms_9, ms_10, ms_11, ms_12, ms_16, ms_20, ms_24, ms_28, ms_35, ms_39, ms_42, ms_43, ms_17t, ms_17f, ms_8, ms_14, mc_1, mp_1, mc_2, mp_2, mc_3, mp_3, mc_4, mp_4, mc_5, mp_5, mc_6, mp_6, mc_7, mp_7, mc_8, mp_8, mc_9, mp_9, mc_10, mp_10, mc_11, mp_11, mc_12, mp_12, mc_13, mp_13, mc_14, mp_14, mc_15, mp_15, mc_16, mp_16, mc_17, mp_17, mc_18, mp_18, mc_19, mp_19, mc_20, mp_20, mc_21, mp_21, mc_22, mp_22, mc_23, mp_23, mc_24, mp_24, mc_25, mp_25, mc_26, mp_26, mc_27, mp_27, mc_28, mp_28, mc_29, mp_29, iu, cup, Nat.reduceEqDiff, h24, Int32.le_refl]
      exact Iff.rfl
    | succ r ih =>
      intro k N0 g l5 hk
      have hx : (mh h m I rd ru (cup C j0 (.inl (0, 38, .inl N0)))).2.2 (m + j0) = .inl (0, 38, .inl N0) := (mh_c j1 j2).trans (if_pos rfl)
      have hz : (cup C j0 (.inl (0, 38, .inl N0))) 12 = .inl (0, 13, .inl Z) := (if_neg (by omega)).trans h12
      have hl : (cup C j0 (.inl (0, 38, .inl N0))) 2 = .inl (0, 12, .inl L) := (if_neg (by omega)).trans hL
      have hz' : (mh h m I rd ru (cup C j0 (.inl (0, 38, .inl N0)))).2.2 (m + 12) = .inl (0, 13, .inl Z) := (mh_c (by decide) (by decide)).trans hz
      rw [s_218_5]
      simp only [s_218_0, s_218_1, s_218_2, s_218_3, s_218_7, s_218_8, s_218_11, s_218_14, s_218_15, s_218_16, s_218_17, s_218_20, s_218_22, s_218_23, s_218_26, s_218_28, s_218_30, s_218_31, s_218_34, s_218_35, s_218_36, s_218_37, s_218_38, s_218_40, s_218_41, s_218_42, s_218_43, s_218_44, s_218_46, s_218_47, s_218_48, s_218_49, s_218_51, s_218_52, s_218_53, s_218_54, s_218_55, s_218_57, s_218_59, s_218_60, s_218_62, s_218_63, s_218_64, s_218_65, s_218_68, s_218_69, s_218_70, s_218_72, s_218_74, s_218_75, s_218_76, s_218_78, s_218_80, s_218_81, s_218_82, s_218_83, s_218_84, s_218_87, s_218_88, s_218_91, s_218_94, s_218_95, x_get_i, List.getElem?_cons_succ, List.getElem?_cons_zero, x_cv_j, cs_n, cs_i, cs_r, cs_l, Nat.reduceAdd, Nat.reduceLeDiff, true_and, Option.toList_some, Option.toList_none, List.cons_append, List.nil_append, if_true, if_false, nb0, nb1, x_setJ, x_setZ0, x_setZ1, x_setA, x_setO, List.length_cons, List.length_nil, Nat.reduceLT, List.set_cons_succ, List.set_cons_zero, wrl_0, wrl_1, wrl_2, wrl_3, wrl_4, wrl_5, wrl_p0, wrl_p1, wrl_p2, wrl_p3, wrl_p4, mh_o, mg_24, mg_23, mcv, h24, show ¬ nI c ≤ nI k from nI_ge (by omega) (by omega), hz', x_ild_n (show k < 13 by omega) n13, r_takes h1 hn hx hl]
      cases ht : rtk L N0 (N0 36) (Z k) n with
      | none =>
        have es : rgs L Z v n (r + 1) k N0 g = (none, N0) := by
          show (match rtk L N0 (N0 36) (Z k) n with | none => _ | some t => _) = _
          rw [ht]
        rw [es]
        simp only [s_218_0, s_218_1, s_218_2, s_218_3, s_218_7, s_218_8, s_218_11, s_218_14, s_218_15, s_218_16, s_218_17, s_218_20, s_218_22, s_218_23, s_218_26, s_218_28, s_218_30, s_218_31, s_218_34, s_218_35, s_218_36, s_218_37, s_218_38, s_218_40, s_218_41, s_218_42, s_218_43, s_218_44, s_218_46, s_218_47, s_218_48, s_218_49, s_218_51, s_218_52, s_218_53, s_218_54, s_218_55, s_218_57, s_218_59, s_218_60, s_218_62, s_218_63, s_218_64, s_218_65, s_218_68, s_218_69, s_218_70, s_218_72, s_218_74, s_218_75, s_218_76, s_218_78, s_218_80, s_218_81, s_218_82, s_218_83, s_218_84, s_218_87, s_218_88, s_218_91, s_218_94, s_218_95, x_get_i, List.getElem?_cons_succ, List.getElem?_cons_zero, x_cv_j, cs_n, cs_i, cs_r, cs_l, Nat.reduceAdd, Nat.reduceLeDiff, true_and, Option.toList_some, Option.toList_none, List.cons_append, List.nil_append, if_true, if_false, nb0, nb1, x_setJ, x_setZ0, x_setZ1, x_setA, x_setO, List.length_cons, List.length_nil, Nat.reduceLT, List.set_cons_succ, List.set_cons_zero, wrl_0, wrl_1, wrl_2, wrl_3, wrl_4, wrl_5, wrl_p0, wrl_p1, wrl_p2, wrl_p3, wrl_p4, oI]
        exact Iff.rfl
      | some t =>
        have htn := rtk_lt ht
        have es : rgs L Z v n (r + 1) k N0 g = rgs L Z v n r (k + 1) (gs1 N0 t v) (g ||| 1 <<< (nI t &&& 31)) := by
          show (match rtk L N0 (N0 36) (Z k) n with | none => _ | some t => _) = _
          rw [ht]
        rw [es]
        have nm : ¬ nI t = -1 := by
          intro q
          have q2 := congrArg Int32.toInt q
          rw [nI_toInt (by omega), show (-1 : Int32).toInt = -1 by decide] at q2
          omega
        simp only [s_218_0, s_218_1, s_218_2, s_218_3, s_218_7, s_218_8, s_218_11, s_218_14, s_218_15, s_218_16, s_218_17, s_218_20, s_218_22, s_218_23, s_218_26, s_218_28, s_218_30, s_218_31, s_218_34, s_218_35, s_218_36, s_218_37, s_218_38, s_218_40, s_218_41, s_218_42, s_218_43, s_218_44, s_218_46, s_218_47, s_218_48, s_218_49, s_218_51, s_218_52, s_218_53, s_218_54, s_218_55, s_218_57, s_218_59, s_218_60, s_218_62, s_218_63, s_218_64, s_218_65, s_218_68, s_218_69, s_218_70, s_218_72, s_218_74, s_218_75, s_218_76, s_218_78, s_218_80, s_218_81, s_218_82, s_218_83, s_218_84, s_218_87, s_218_88, s_218_91, s_218_94, s_218_95, x_get_i, List.getElem?_cons_succ, List.getElem?_cons_zero, x_cv_j, cs_n, cs_i, cs_r, cs_l, Nat.reduceAdd, Nat.reduceLeDiff, true_and, Option.toList_some, Option.toList_none, List.cons_append, List.nil_append, if_true, if_false, nb0, nb1, x_setJ, x_setZ0, x_setZ1, x_setA, x_setO, List.length_cons, List.length_nil, Nat.reduceLT, List.set_cons_succ, List.set_cons_zero, wrl_0, wrl_1, wrl_2, wrl_3, wrl_4, wrl_5, wrl_p0, wrl_p1, wrl_p2, wrl_p3, wrl_p4, oI, nm, if_false, not_false_eq_true, if_true]
        simp only [s_218_0, s_218_1, s_218_2, s_218_3, s_218_7, s_218_8, s_218_11, s_218_14, s_218_15, s_218_16, s_218_17, s_218_20, s_218_22, s_218_23, s_218_26, s_218_28, s_218_30, s_218_31, s_218_34, s_218_35, s_218_36, s_218_37, s_218_38, s_218_40, s_218_41, s_218_42, s_218_43, s_218_44, s_218_46, s_218_47, s_218_48, s_218_49, s_218_51, s_218_52, s_218_53, s_218_54, s_218_55, s_218_57, s_218_59, s_218_60, s_218_62, s_218_63, s_218_64, s_218_65, s_218_68, s_218_69, s_218_70, s_218_72, s_218_74, s_218_75, s_218_76, s_218_78, s_218_80, s_218_81, s_218_82, s_218_83, s_218_84, s_218_87, s_218_88, s_218_91, s_218_94, s_218_95, x_get_i, List.getElem?_cons_succ, List.getElem?_cons_zero, x_cv_j, cs_n, cs_i, cs_r, cs_l, Nat.reduceAdd, Nat.reduceLeDiff, true_and, Option.toList_some, Option.toList_none, List.cons_append, List.nil_append, if_true, if_false, nb0, nb1, x_setJ, x_setZ0, x_setZ1, x_setA, x_setO, List.length_cons, List.length_nil, Nat.reduceLT, List.set_cons_succ, List.set_cons_zero, wrl_0, wrl_1, wrl_2, wrl_3, wrl_4, wrl_5, wrl_p0, wrl_p1, wrl_p2, wrl_p3, wrl_p4, i36, hx, x_ild_n (show 36 < 38 by decide) n38, x_ist_n (show 36 < 38 by decide) n38, mh_pc j1 j2, cup_cup]
        have hx2 : ∀ N1, (mh h m I rd ru (cup C j0 (.inl (0, 38, .inl N1)))).2.2 (m + j0) = .inl (0, 38, .inl N1) := fun N1 => (mh_c j1 j2).trans (if_pos rfl)
        have u1 : ∀ a, upd N0 36 a t = N0 t := fun a => if_neg (by omega)
        have u2 : ∀ a b, upd (upd N0 36 a) t b (12 + t) = N0 (12 + t) := fun a b => (if_neg (by omega)).trans (if_neg (by omega))
        simp only [s_218_0, s_218_1, s_218_2, s_218_3, s_218_7, s_218_8, s_218_11, s_218_14, s_218_15, s_218_16, s_218_17, s_218_20, s_218_22, s_218_23, s_218_26, s_218_28, s_218_30, s_218_31, s_218_34, s_218_35, s_218_36, s_218_37, s_218_38, s_218_40, s_218_41, s_218_42, s_218_43, s_218_44, s_218_46, s_218_47, s_218_48, s_218_49, s_218_51, s_218_52, s_218_53, s_218_54, s_218_55, s_218_57, s_218_59, s_218_60, s_218_62, s_218_63, s_218_64, s_218_65, s_218_68, s_218_69, s_218_70, s_218_72, s_218_74, s_218_75, s_218_76, s_218_78, s_218_80, s_218_81, s_218_82, s_218_83, s_218_84, s_218_87, s_218_88, s_218_91, s_218_94, s_218_95, x_get_i, List.getElem?_cons_succ, List.getElem?_cons_zero, x_cv_j, cs_n, cs_i, cs_r, cs_l, Nat.reduceAdd, Nat.reduceLeDiff, true_and, Option.toList_some, Option.toList_none, List.cons_append, List.nil_append, if_true, if_false, nb0, nb1, x_setJ, x_setZ0, x_setZ1, x_setA, x_setO, List.length_cons, List.length_nil, Nat.reduceLT, List.set_cons_succ, List.set_cons_zero, wrl_0, wrl_1, wrl_2, wrl_3, wrl_4, wrl_5, wrl_p0, wrl_p1, wrl_p2, wrl_p3, wrl_p4, hx2, x_ild_n (show t < 38 by omega) n38, x_ist_n (show t < 38 by omega) n38, mh_pc j1 j2, cup_cup, e12, x_ild_n (show 12 + t < 38 by omega) n38, x_ist_n (show 12 + t < 38 by omega) n38, r_put, u1, u2, nI_1]
        exact ih (k + 1) (gs1 N0 t v) _ _ (by omega)
  rw [e_218]
  simp only [s_218_0, s_218_1, s_218_2, s_218_3, s_218_7, s_218_8, s_218_11, s_218_14, s_218_15, s_218_16, s_218_17, s_218_20, s_218_22, s_218_23, s_218_26, s_218_28, s_218_30, s_218_31, s_218_34, s_218_35, s_218_36, s_218_37, s_218_38, s_218_40, s_218_41, s_218_42, s_218_43, s_218_44, s_218_46, s_218_47, s_218_48, s_218_49, s_218_51, s_218_52, s_218_53, s_218_54, s_218_55, s_218_57, s_218_59, s_218_60, s_218_62, s_218_63, s_218_64, s_218_65, s_218_68, s_218_69, s_218_70, s_218_72, s_218_74, s_218_75, s_218_76, s_218_78, s_218_80, s_218_81, s_218_82, s_218_83, s_218_84, s_218_87, s_218_88, s_218_91, s_218_94, s_218_95]
  have := loop c 0 N 0 tm_z (by omega)
  rw [cup_eta hN] at this
  exact this
end
