/-! the reference's calls: rule, law -/
theorem skm_cg {F G : Nat → Int32} {n : Nat} (h : ∀ p, p < n → F p = G p) : ∀ {j p : Nat}, skm F n j p = skm G n j p
  | 0, p => rfl
  | j + 1, p => by
    have e : (p < n ∧ F p = 45) = (p < n ∧ G p = 45) := by
      apply propext
      constructor
      · rintro ⟨a, b⟩; exact ⟨a, by rw [← h p a]; exact b⟩
      · rintro ⟨a, b⟩; exact ⟨a, by rw [h p a]; exact b⟩
    unfold skm
    simp only [e]
    rw [skm_cg h]
theorem numr_cg {F G : Nat → Int32} {n : Nat} (h : ∀ p, p < n → F p = G p) : ∀ {k p : Nat} {v : Int32}, numr F n k p v = numr G n k p v
  | 0, p, v => rfl
  | k + 1, p, v => by
    unfold numr
    by_cases c : p < n
    · rw [h p c, numr_cg h]
    · rw [if_neg (fun q => c q.1), if_neg (fun q => c q.1)]
theorem pth_cg {F G : Nat → Int32} {n : Nat} {inn : Option (Nat → PR)} (h : ∀ p, p < n → F p = G p) : pth F n inn = pth G n inn := by
  funext pos
  unfold pth
  rw [skm_cg h]
  generalize skm G n (n - pos) pos = p
  unfold pt1
  by_cases c : n ≤ p
  · rw [if_pos c, if_pos c]
  · rw [if_neg c, if_neg c, h p (by omega), numr_cg h]
    have e : ∀ q, (q < n ∧ F q = 41) = (q < n ∧ G q = 41) := by
      intro q
      apply propext
      constructor
      · rintro ⟨a, b⟩; exact ⟨a, by rw [← h q a]; exact b⟩
      · rintro ⟨a, b⟩; exact ⟨a, by rw [h q a]; exact b⟩
    simp only [e]
theorem pjl_cg {F G : Nat → Int32} {n b : Nat} {rec : Nat → Nat → PR} (h : ∀ p, p < n → F p = G p) : ∀ {j : Nat} {cm : Bool} {p : Nat} {cd : List Int32}, pjl F n b rec j cm p cd = pjl G n b rec j cm p cd
  | 0, cm, p, cd => rfl
  | j + 1, cm, p, cd => by
    unfold pjl
    by_cases c : n ≤ p
    · rw [if_pos c, if_pos c]
    · rw [if_neg c, if_neg c, h p (by omega)]
      split
      · rfl
      · split
        · rfl
        · exact pjl_cg h
theorem pj_cg {F G : Nat → Int32} {n b : Nat} {th : Nat → PR} {rec : Nat → Nat → PR} (h : ∀ p, p < n → F p = G p) : pj F n th b rec = pj G n th b rec := by
  funext pos
  unfold pj
  cases th pos with
  | inl q => rfl
  | inr q => exact pjl_cg h
theorem J1_cg {F G : Nat → Int32} {n : Nat} {th : Nat → PR} (h : ∀ p, p < n → F p = G p) : J1 F n th = J1 G n th := by
  have e4 : J4 F n th = J4 G n th := pj_cg h
  have e3 : J3 F n th = J3 G n th := by unfold J3; rw [e4]; exact pj_cg h
  have e2 : J2 F n th = J2 G n th := by unfold J2; rw [e4, e3]; exact pj_cg h
  unfold J1
  rw [e4, e3, e2]
  exact pj_cg h
theorem TH_cg {F G : Nat → Int32} {n : Nat} (h : ∀ p, p < n → F p = G p) : ∀ e, TH F n e = TH G n e
  | 0 => pth_cg h
  | e + 1 => by
    show pth F n (some (J1 F n (TH F n e))) = pth G n (some (J1 G n (TH G n e)))
    rw [TH_cg h e, J1_cg h]
    exact pth_cg h
theorem rrd_cg {F G : Nat → Int32} {c : Nat} (h : ∀ p, p < c → F p = G p) : rrd F c = rrd G c := by
  have h' : ∀ p, p < min c 40 → F p = G p := fun p hp => h p (by omega)
  unfold rrd
  rw [J1_cg h', TH_cg h']
theorem nar_b {y : Nat} (hy : y < 256) : vp_nar .byte ((nI y).toInt8.toInt32) = (nI y).toInt8.toInt32 := by
  have : ∀ y : Fin 256, vp_nar .byte ((nI y.1).toInt8.toInt32) = (nI y.1).toInt8.toInt32 := by decide +kernel
  exact this ⟨y, hy⟩
/-- the first k of a row over another -/
def ovl (T S : Nat → Int32) (k : Nat) : Nat → Int32 := fun i => if i < k then T i else S i
theorem ovl_0 {T S : Nat → Int32} : ovl T S 0 = S := by
  funext i
  exact if_neg (by omega)
theorem ovl_s {T S : Nat → Int32} {k : Nat} {v : Int32} (hv : v = T k) : upd (ovl T S k) k v = ovl T S (k + 1) := by
  funext i
  unfold upd ovl
  by_cases e : i = k
  · subst e; rw [if_pos rfl, if_pos (by omega), hv]
  · rw [if_neg e]
    by_cases c : i < k
    · rw [if_pos c, if_pos (by omega)]
    · rw [if_neg c, if_neg (by omega)]
theorem RT_ovl {T S F G : Nat → Int32} {k A B : Nat} (h1 : RT T F A) (h2 : RT S G B) (hBA : B ≤ A) : RT (ovl T S k) (ovl F G k) B := by
  intro i hi
  unfold ovl
  by_cases c : i < k
  · rw [if_pos c, if_pos c]; exact h1 i (by omega)
  · rw [if_neg c, if_neg c]; exact h2 i hi
section
variable {sa : g_SA} {sc : Nat × Nat × (Nat → Int32)} {xt : Nat → Nat → List Value → tm_H → Option (Option Value × tm_H)} {d m : Nat} {h : tm_H} {Q : Option Value → tm_H → Prop} {I : Nat → Int32} {rd : Value} {ru : Nat} {C : Nat → tm_E}
variable {c n u : Nat} {F L W M B N Lm H Ms Bs Os : Nat → Int32} {s g : Int32} {rc hc mc : Nat} {R : Nat → Int64} {tx : Nat × (Nat → Int32)} {rw : Nat × (Nat → Int64)} {nw : TN} {pa : PA} {cd : List Int32} {he : Nat × (Nat → Int32)} {mi : Nat × (Nat → Int32) × (Nat → Int32) × (Nat → Int32)}
theorem m_readRule (hM : MV I C (c, F) rw nw pa cd he mi) (h1 : ∀ q I' rd', rrd F c = .inl q → q ≤ 80 → I' 12 = nI q → MV I' C (0, F) rw nw pa cd he mi → Q (some (.int 0)) (mh h m I' rd' (m + 6) C)) (h2 : ∀ cd' I' rd', rrd F c = .inr cd' → c ≤ 40 → MV I' C (0, F) rw nw pa cd he mi → Q (some (.int 1)) (mh h m I' rd' (m + 6) C)) : tm_D (g_G sa sc xt) (d + 267) 204 [.ref m] (mh h m I rd (m + 6) C) Q := by
  obtain ⟨a1, a2, T, a3, a4⟩ := hM.1
  have a1 : I 4 = nI c := a1
  have a2 : c ≤ 80 := a2
  have i17 := hM.2.2.2.2.2.1.1
  obtain ⟨J, hJ⟩ : ∃ J, J = iu (iu (iu (iu I 9 (nI c)) 10 40) 4 0) 17 0 := ⟨_, rfl⟩
  have hKP : ∀ a w, KP I (ra J a w) C C := by
    intro a w
    refine ⟨fun k hk => ?_, fun _ _ => rfl, hM.mx⟩
    unfold ra
    rw [if_neg (fun q => by subst q; cases hk), if_neg (fun q => by subst q; cases hk), hJ]
    unfold iu
    by_cases c17 : k = 17
    · rw [if_pos c17, c17, i17]
    · rw [if_neg c17, if_neg (fun q => by subst q; cases hk), if_neg (fun q => by subst q; cases hk), if_neg (fun q => by subst q; cases hk)]
  have hMV : ∀ a w, MV (ra J a w) C (0, F) rw nw pa cd he mi := fun a w => hM.to (hKP a w) (hM.1.zero (by rw [hJ]; rfl) rfl) (hM.2.1.same (by rw [hJ]; rfl) rfl)
  have hR : RDX h m C (m + 3) J F c (min c 40) := ⟨T, 80, 40, fun I rd ru => (mh_c (by decide) (by decide)).trans a3, a4, by rw [hJ]; rfl, by rw [hJ]; rfl, a2, Nat.le_refl _, by decide, rfl⟩
  have J9 : ∀ a w, (ra J a w) 9 = nI c := fun a w => by rw [hJ]; rfl
  have tail : ∀ (a : Nat) (w : Int32), a ≤ 80 → ((if a < c then (if w = -1 then nI a else w) else w) = -1 → ∃ cd', rrd F c = .inr cd' ∧ c ≤ 40) → (¬ (if a < c then (if w = -1 then nI a else w) else w) = -1 → ∃ q, q ≤ 80 ∧ rrd F c = .inl q ∧ (if a < c then (if w = -1 then nI a else w) else w) = nI q) → tm_X (g_G sa sc xt) (d + 267) 204 24 [.ref m] [] (mh h m (ra J (nI a) w) (.ref (m + 3)) (m + 6) C) Q := by
    intro a w ha q1 q2
    simp only [s_204_0, s_204_1, s_204_3, s_204_6, s_204_7, s_204_8, s_204_11, s_204_12, s_204_15, s_204_18, s_204_19, s_204_20, s_204_23, s_204_24, s_204_25, s_204_28, x_get_i, List.getElem?_cons_succ, List.getElem?_cons_zero, x_cv_j, cs_n, cs_i, cs_r, cs_l, Nat.reduceAdd, Nat.reduceLeDiff, true_and, Option.toList_some, Option.toList_none, List.cons_append, List.nil_append, if_true, if_false, nb0, nb1, x_setJ, x_setZ0, x_setZ1, x_setA, x_setO, List.length_cons, List.length_nil, Nat.reduceLT, List.set_cons_succ, List.set_cons_zero, wrl_0, wrl_1, wrl_2, wrl_3, wrl_4, wrl_5, wrl_p0, wrl_p1, wrl_p2, wrl_p3, wrl_p4, mh_o, mh_po, mcv, mg_0, mg_1, mg_2, mg_3, mg_4, mg_5, mg_6, mg_7, mg_8, mg_9, mg_10, mg_11, mg_12, mg_13, mg_14, mg_15, mg_16, mg_17, mg_18, mg_19, mg_20, mg_21, mg_22, mg_23, mg_24, mg_25, mg_26, mg_27, mg_28, mg_29, mg_30, mg_31, mg_32, mg_33, mg_34, mg_35, mg_36, mg_37, mg_38, mg_39, mg_40, mg_41, mg_42, mg_43, mg_44, mg_45, mg_46, ms_1, ms_4, ms_6, ms_7, ms_9, ms_10, ms_11, ms_12, ms_16, ms_20, ms_24, ms_28, ms_35, ms_39, ms_42, ms_43, ms_17t, ms_17f, ms_8, ms_14, mc_1, mp_1, mc_2, mp_2, mc_3, mp_3, mc_4, mp_4, mc_5, mp_5, mc_6, mp_6, mc_7, mp_7, mc_8, mp_8, mc_9, mp_9, mc_10, mp_10, mc_11, mp_11, mc_12, mp_12, mc_13, mp_13, mc_14, mp_14, mc_15, mp_15, mc_16, mp_16, mc_17, mp_17, mc_18, mp_18, mc_19, mp_19, mc_20, mp_20, mc_21, mp_21, mc_22, mp_22, mc_23, mp_23, mc_24, mp_24, mc_25, mp_25, mc_26, mp_26, mc_27, mp_27, mc_28, mp_28, mc_29, mp_29, iu, cup, Nat.reduceEqDiff]
    refine (r_wasRight hR (by omega)).mpr ?_
    by_cases z : (if a < c then (if w = -1 then nI a else w) else w) = -1
    · obtain ⟨cd', e1, e2⟩ := q1 z
      simp only [s_204_0, s_204_1, s_204_3, s_204_6, s_204_7, s_204_8, s_204_11, s_204_12, s_204_15, s_204_18, s_204_19, s_204_20, s_204_23, s_204_24, s_204_25, s_204_28, x_get_i, List.getElem?_cons_succ, List.getElem?_cons_zero, x_cv_j, cs_n, cs_i, cs_r, cs_l, Nat.reduceAdd, Nat.reduceLeDiff, true_and, Option.toList_some, Option.toList_none, List.cons_append, List.nil_append, if_true, if_false, nb0, nb1, x_setJ, x_setZ0, x_setZ1, x_setA, x_setO, List.length_cons, List.length_nil, Nat.reduceLT, List.set_cons_succ, List.set_cons_zero, wrl_0, wrl_1, wrl_2, wrl_3, wrl_4, wrl_5, wrl_p0, wrl_p1, wrl_p2, wrl_p3, wrl_p4, mh_o, mh_po, mcv, mg_0, mg_1, mg_2, mg_3, mg_4, mg_5, mg_6, mg_7, mg_8, mg_9, mg_10, mg_11, mg_12, mg_13, mg_14, mg_15, mg_16, mg_17, mg_18, mg_19, mg_20, mg_21, mg_22, mg_23, mg_24, mg_25, mg_26, mg_27, mg_28, mg_29, mg_30, mg_31, mg_32, mg_33, mg_34, mg_35, mg_36, mg_37, mg_38, mg_39, mg_40, mg_41, mg_42, mg_43, mg_44, mg_45, mg_46, ms_1, ms_4, ms_6, ms_7, ms_9, ms_10, ms_11, ms_12, ms_16, ms_20, ms_24, ms_28, ms_35, ms_39, ms_42, ms_43, ms_17t, ms_17f, ms_8, ms_14, mc_1, mp_1, mc_2, mp_2, mc_3, mp_3, mc_4, mp_4, mc_5, mp_5, mc_6, mp_6, mc_7, mp_7, mc_8, mp_8, mc_9, mp_9, mc_10, mp_10, mc_11, mp_11, mc_12, mp_12, mc_13, mp_13, mc_14, mp_14, mc_15, mp_15, mc_16, mp_16, mc_17, mp_17, mc_18, mp_18, mc_19, mp_19, mc_20, mp_20, mc_21, mp_21, mc_22, mp_22, mc_23, mp_23, mc_24, mp_24, mc_25, mp_25, mc_26, mp_26, mc_27, mp_27, mc_28, mp_28, mc_29, mp_29, iu, cup, Nat.reduceEqDiff, z, if_true]
      exact h2 cd' _ _ e1 e2 (hMV _ _)
    · obtain ⟨q, e0, e1, e2⟩ := q2 z
      simp only [s_204_0, s_204_1, s_204_3, s_204_6, s_204_7, s_204_8, s_204_11, s_204_12, s_204_15, s_204_18, s_204_19, s_204_20, s_204_23, s_204_24, s_204_25, s_204_28, x_get_i, List.getElem?_cons_succ, List.getElem?_cons_zero, x_cv_j, cs_n, cs_i, cs_r, cs_l, Nat.reduceAdd, Nat.reduceLeDiff, true_and, Option.toList_some, Option.toList_none, List.cons_append, List.nil_append, if_true, if_false, nb0, nb1, x_setJ, x_setZ0, x_setZ1, x_setA, x_setO, List.length_cons, List.length_nil, Nat.reduceLT, List.set_cons_succ, List.set_cons_zero, wrl_0, wrl_1, wrl_2, wrl_3, wrl_4, wrl_5, wrl_p0, wrl_p1, wrl_p2, wrl_p3, wrl_p4, mh_o, mh_po, mcv, mg_0, mg_1, mg_2, mg_3, mg_4, mg_5, mg_6, mg_7, mg_8, mg_9, mg_10, mg_11, mg_12, mg_13, mg_14, mg_15, mg_16, mg_17, mg_18, mg_19, mg_20, mg_21, mg_22, mg_23, mg_24, mg_25, mg_26, mg_27, mg_28, mg_29, mg_30, mg_31, mg_32, mg_33, mg_34, mg_35, mg_36, mg_37, mg_38, mg_39, mg_40, mg_41, mg_42, mg_43, mg_44, mg_45, mg_46, ms_1, ms_4, ms_6, ms_7, ms_9, ms_10, ms_11, ms_12, ms_16, ms_20, ms_24, ms_28, ms_35, ms_39, ms_42, ms_43, ms_17t, ms_17f, ms_8, ms_14, mc_1, mp_1, mc_2, mp_2, mc_3, mp_3, mc_4, mp_4, mc_5, mp_5, mc_6, mp_6, mc_7, mp_7, mc_8, mp_8, mc_9, mp_9, mc_10, mp_10, mc_11, mp_11, mc_12, mp_12, mc_13, mp_13, mc_14, mp_14, mc_15, mp_15, mc_16, mp_16, mc_17, mp_17, mc_18, mp_18, mc_19, mp_19, mc_20, mp_20, mc_21, mp_21, mc_22, mp_22, mc_23, mp_23, mc_24, mp_24, mc_25, mp_25, mc_26, mp_26, mc_27, mp_27, mc_28, mp_28, mc_29, mp_29, iu, cup, Nat.reduceEqDiff, z, if_false]
      exact h1 q _ _ e1 e0 e2 (hMV _ _)
  rw [e_204]
  simp only [s_204_0, s_204_1, s_204_3, s_204_6, s_204_7, s_204_8, s_204_11, s_204_12, s_204_15, s_204_18, s_204_19, s_204_20, s_204_23, s_204_25, s_204_28, x_get_i, List.getElem?_cons_succ, List.getElem?_cons_zero, x_cv_j, cs_n, cs_i, cs_r, cs_l, Nat.reduceAdd, Nat.reduceLeDiff, true_and, Option.toList_some, Option.toList_none, List.cons_append, List.nil_append, if_true, if_false, nb0, nb1, x_setJ, x_setZ0, x_setZ1, x_setA, x_setO, List.length_cons, List.length_nil, Nat.reduceLT, List.set_cons_succ, List.set_cons_zero, wrl_0, wrl_1, wrl_2, wrl_3, wrl_4, wrl_5, wrl_p0, wrl_p1, wrl_p2, wrl_p3, wrl_p4, mh_o, mh_po, mcv, mg_0, mg_1, mg_2, mg_3, mg_4, mg_5, mg_6, mg_7, mg_8, mg_9, mg_10, mg_11, mg_12, mg_13, mg_14, mg_15, mg_16, mg_17, mg_18, mg_19, mg_20, mg_21, mg_22, mg_23, mg_24, mg_25, mg_26, mg_27, mg_28, mg_29, mg_30, mg_31, mg_32, mg_33, mg_34, mg_35, mg_36, mg_37, mg_38, mg_39, mg_40, mg_41, mg_42, mg_43, mg_44, mg_45, mg_46, ms_1, ms_4, ms_6, ms_7, ms_9, ms_10, ms_11, ms_12, ms_16, ms_20, ms_24, ms_28, ms_35, ms_39, ms_42, ms_43, ms_17t, ms_17f, ms_8, ms_14, mc_1, mp_1, mc_2, mp_2, mc_3, mp_3, mc_4, mp_4, mc_5, mp_5, mc_6, mp_6, mc_7, mp_7, mc_8, mp_8, mc_9, mp_9, mc_10, mp_10, mc_11, mp_11, mc_12, mp_12, mc_13, mp_13, mc_14, mp_14, mc_15, mp_15, mc_16, mp_16, mc_17, mp_17, mc_18, mp_18, mc_19, mp_19, mc_20, mp_20, mc_21, mp_21, mc_22, mp_22, mc_23, mp_23, mc_24, mp_24, mc_25, mp_25, mc_26, mp_26, mc_27, mp_27, mc_28, mp_28, mc_29, mp_29, iu, cup, Nat.reduceEqDiff, r_beginText, a1, ra]
  rw [ra_o (by decide) (by decide), ra_o (by decide) (by decide), ← hJ]
  by_cases c0 : c = 0
  · subst c0
    simp only [show nI 0 ≤ 0 by decide, if_true, s_204_0, s_204_1, s_204_3, s_204_6, s_204_7, s_204_8, s_204_11, s_204_12, s_204_15, s_204_18, s_204_19, s_204_20, s_204_23, s_204_25, s_204_28, x_get_i, List.getElem?_cons_succ, List.getElem?_cons_zero, x_cv_j, cs_n, cs_i, cs_r, cs_l, Nat.reduceAdd, Nat.reduceLeDiff, true_and, Option.toList_some, Option.toList_none, List.cons_append, List.nil_append, if_true, if_false, nb0, nb1, x_setJ, x_setZ0, x_setZ1, x_setA, x_setO, List.length_cons, List.length_nil, Nat.reduceLT, List.set_cons_succ, List.set_cons_zero, wrl_0, wrl_1, wrl_2, wrl_3, wrl_4, wrl_5, wrl_p0, wrl_p1, wrl_p2, wrl_p3, wrl_p4, mh_o, mh_po, mcv, mg_0, mg_1, mg_2, mg_3, mg_4, mg_5, mg_6, mg_7, mg_8, mg_9, mg_10, mg_11, mg_12, mg_13, mg_14, mg_15, mg_16, mg_17, mg_18, mg_19, mg_20, mg_21, mg_22, mg_23, mg_24, mg_25, mg_26, mg_27, mg_28, mg_29, mg_30, mg_31, mg_32, mg_33, mg_34, mg_35, mg_36, mg_37, mg_38, mg_39, mg_40, mg_41, mg_42, mg_43, mg_44, mg_45, mg_46, ms_1, ms_4, ms_6, ms_7, ms_9, ms_10, ms_11, ms_12, ms_16, ms_20, ms_24, ms_28, ms_35, ms_39, ms_42, ms_43, ms_17t, ms_17f, ms_8, ms_14, mc_1, mp_1, mc_2, mp_2, mc_3, mp_3, mc_4, mp_4, mc_5, mp_5, mc_6, mp_6, mc_7, mp_7, mc_8, mp_8, mc_9, mp_9, mc_10, mp_10, mc_11, mp_11, mc_12, mp_12, mc_13, mp_13, mc_14, mp_14, mc_15, mp_15, mc_16, mp_16, mc_17, mp_17, mc_18, mp_18, mc_19, mp_19, mc_20, mp_20, mc_21, mp_21, mc_22, mp_22, mc_23, mp_23, mc_24, mp_24, mc_25, mp_25, mc_26, mp_26, mc_27, mp_27, mc_28, mp_28, mc_29, mp_29, iu, cup, Nat.reduceEqDiff]
    refine tail 0 (-1) (by decide) (fun _ => ⟨rfirst, rfl, by decide⟩) (fun q => ?_)
    rw [if_neg (by decide)] at q
    exact absurd rfl q
  · simp only [show ¬ nI c ≤ 0 from nI_nle (by omega) (by omega), if_false, s_204_0, s_204_1, s_204_3, s_204_6, s_204_7, s_204_8, s_204_11, s_204_12, s_204_15, s_204_18, s_204_19, s_204_20, s_204_23, s_204_25, s_204_28, x_get_i, List.getElem?_cons_succ, List.getElem?_cons_zero, x_cv_j, cs_n, cs_i, cs_r, cs_l, Nat.reduceAdd, Nat.reduceLeDiff, true_and, Option.toList_some, Option.toList_none, List.cons_append, List.nil_append, if_true, if_false, nb0, nb1, x_setJ, x_setZ0, x_setZ1, x_setA, x_setO, List.length_cons, List.length_nil, Nat.reduceLT, List.set_cons_succ, List.set_cons_zero, wrl_0, wrl_1, wrl_2, wrl_3, wrl_4, wrl_5, wrl_p0, wrl_p1, wrl_p2, wrl_p3, wrl_p4, mh_o, mh_po, mcv, mg_0, mg_1, mg_2, mg_3, mg_4, mg_5, mg_6, mg_7, mg_8, mg_9, mg_10, mg_11, mg_12, mg_13, mg_14, mg_15, mg_16, mg_17, mg_18, mg_19, mg_20, mg_21, mg_22, mg_23, mg_24, mg_25, mg_26, mg_27, mg_28, mg_29, mg_30, mg_31, mg_32, mg_33, mg_34, mg_35, mg_36, mg_37, mg_38, mg_39, mg_40, mg_41, mg_42, mg_43, mg_44, mg_45, mg_46, ms_1, ms_4, ms_6, ms_7, ms_9, ms_10, ms_11, ms_12, ms_16, ms_20, ms_24, ms_28, ms_35, ms_39, ms_42, ms_43, ms_17t, ms_17f, ms_8, ms_14, mc_1, mp_1, mc_2, mp_2, mc_3, mp_3, mc_4, mp_4, mc_5, mp_5, mc_6, mp_6, mc_7, mp_7, mc_8, mp_8, mc_9, mp_9, mc_10, mp_10, mc_11, mp_11, mc_12, mp_12, mc_13, mp_13, mc_14, mp_14, mc_15, mp_15, mc_16, mp_16, mc_17, mp_17, mc_18, mp_18, mc_19, mp_19, mc_20, mp_20, mc_21, mp_21, mc_22, mp_22, mc_23, mp_23, mc_24, mp_24, mc_25, mp_25, mc_26, mp_26, mc_27, mp_27, mc_28, mp_28, mc_29, mp_29, iu, cup, Nat.reduceEqDiff]
    have hE : EK C J (fun _ => 0) := Or.inl ⟨by rw [hJ]; rfl, fun _ => rfl⟩
    have hMp := m_rule (sa := sa) (sc := sc) (xt := xt) (ru := m + 6) hR (by omega) hE (d + 1) 0
    rw [show d + 1 + 265 = d + 266 by omega] at hMp
    have hg := GP_J1 (F := F) (GP_TH (F := F) (n := min c 40) 4) 0 (Nat.zero_le _)
    have hrr : rrd F c = match J1 F (min c 40) (TH F (min c 40) 4) 0 with
      | .inl q => .inl q
      | .inr (q, cd) => if q < min c 40 then .inl q else if min c 40 < c then .inl (min c 40) else .inr cd := if_neg c0
    refine hMp _ (Nat.zero_le _) (fun q cd' e => ?_) (fun p q v e hq => ?_)
    · obtain ⟨g1', g2', -⟩ := hg.2 q cd' e
      rw [e] at hrr
      dsimp only at hrr
      simp only [s_204_0, s_204_1, s_204_3, s_204_6, s_204_7, s_204_8, s_204_11, s_204_12, s_204_15, s_204_18, s_204_19, s_204_20, s_204_23, s_204_25, s_204_28, x_get_i, List.getElem?_cons_succ, List.getElem?_cons_zero, x_cv_j, cs_n, cs_i, cs_r, cs_l, Nat.reduceAdd, Nat.reduceLeDiff, true_and, Option.toList_some, Option.toList_none, List.cons_append, List.nil_append, if_true, if_false, nb0, nb1, x_setJ, x_setZ0, x_setZ1, x_setA, x_setO, List.length_cons, List.length_nil, Nat.reduceLT, List.set_cons_succ, List.set_cons_zero, wrl_0, wrl_1, wrl_2, wrl_3, wrl_4, wrl_5, wrl_p0, wrl_p1, wrl_p2, wrl_p3, wrl_p4, mh_o, mh_po, mcv, mg_0, mg_1, mg_2, mg_3, mg_4, mg_5, mg_6, mg_7, mg_8, mg_9, mg_10, mg_11, mg_12, mg_13, mg_14, mg_15, mg_16, mg_17, mg_18, mg_19, mg_20, mg_21, mg_22, mg_23, mg_24, mg_25, mg_26, mg_27, mg_28, mg_29, mg_30, mg_31, mg_32, mg_33, mg_34, mg_35, mg_36, mg_37, mg_38, mg_39, mg_40, mg_41, mg_42, mg_43, mg_44, mg_45, mg_46, ms_1, ms_4, ms_6, ms_7, ms_9, ms_10, ms_11, ms_12, ms_16, ms_20, ms_24, ms_28, ms_35, ms_39, ms_42, ms_43, ms_17t, ms_17f, ms_8, ms_14, mc_1, mp_1, mc_2, mp_2, mc_3, mp_3, mc_4, mp_4, mc_5, mp_5, mc_6, mp_6, mc_7, mp_7, mc_8, mp_8, mc_9, mp_9, mc_10, mp_10, mc_11, mp_11, mc_12, mp_12, mc_13, mp_13, mc_14, mp_14, mc_15, mp_15, mc_16, mp_16, mc_17, mp_17, mc_18, mp_18, mc_19, mp_19, mc_20, mp_20, mc_21, mp_21, mc_22, mp_22, mc_23, mp_23, mc_24, mp_24, mc_25, mp_25, mc_26, mp_26, mc_27, mp_27, mc_28, mp_28, mc_29, mp_29, iu, cup, Nat.reduceEqDiff]
      refine tail q (-1) (by omega) (fun z => ?_) (fun z => ?_)
      · by_cases k : q < c
        · rw [if_pos k, if_pos rfl] at z
          exact absurd z (oI_ne (by omega))
        · rw [if_neg (by omega), if_neg (by omega)] at hrr
          exact ⟨cd', hrr, by omega⟩
      · by_cases k : q < c
        · rw [if_pos k, if_pos rfl]
          by_cases k2 : q < min c 40
          · rw [if_pos k2] at hrr
            exact ⟨q, by omega, hrr, rfl⟩
          · rw [if_neg k2, if_pos (by omega)] at hrr
            have : q = min c 40 := by omega
            rw [← this] at hrr
            exact ⟨q, by omega, hrr, rfl⟩
        · rw [if_neg k] at z
          exact absurd rfl z
    · have hp := hg.1 p e
      rw [e] at hrr
      dsimp only at hrr
      have e2 : (if q < c then (if nI p = -1 then nI q else nI p) else nI p) = nI p := by
        rw [if_neg (oI_ne (by omega))]
        split <;> rfl
      simp only [s_204_0, s_204_1, s_204_3, s_204_6, s_204_7, s_204_8, s_204_11, s_204_12, s_204_15, s_204_18, s_204_19, s_204_20, s_204_23, s_204_25, s_204_28, x_get_i, List.getElem?_cons_succ, List.getElem?_cons_zero, x_cv_j, cs_n, cs_i, cs_r, cs_l, Nat.reduceAdd, Nat.reduceLeDiff, true_and, Option.toList_some, Option.toList_none, List.cons_append, List.nil_append, if_true, if_false, nb0, nb1, x_setJ, x_setZ0, x_setZ1, x_setA, x_setO, List.length_cons, List.length_nil, Nat.reduceLT, List.set_cons_succ, List.set_cons_zero, wrl_0, wrl_1, wrl_2, wrl_3, wrl_4, wrl_5, wrl_p0, wrl_p1, wrl_p2, wrl_p3, wrl_p4, mh_o, mh_po, mcv, mg_0, mg_1, mg_2, mg_3, mg_4, mg_5, mg_6, mg_7, mg_8, mg_9, mg_10, mg_11, mg_12, mg_13, mg_14, mg_15, mg_16, mg_17, mg_18, mg_19, mg_20, mg_21, mg_22, mg_23, mg_24, mg_25, mg_26, mg_27, mg_28, mg_29, mg_30, mg_31, mg_32, mg_33, mg_34, mg_35, mg_36, mg_37, mg_38, mg_39, mg_40, mg_41, mg_42, mg_43, mg_44, mg_45, mg_46, ms_1, ms_4, ms_6, ms_7, ms_9, ms_10, ms_11, ms_12, ms_16, ms_20, ms_24, ms_28, ms_35, ms_39, ms_42, ms_43, ms_17t, ms_17f, ms_8, ms_14, mc_1, mp_1, mc_2, mp_2, mc_3, mp_3, mc_4, mp_4, mc_5, mp_5, mc_6, mp_6, mc_7, mp_7, mc_8, mp_8, mc_9, mp_9, mc_10, mp_10, mc_11, mp_11, mc_12, mp_12, mc_13, mp_13, mc_14, mp_14, mc_15, mp_15, mc_16, mp_16, mc_17, mp_17, mc_18, mp_18, mc_19, mp_19, mc_20, mp_20, mc_21, mp_21, mc_22, mp_22, mc_23, mp_23, mc_24, mp_24, mc_25, mp_25, mc_26, mp_26, mc_27, mp_27, mc_28, mp_28, mc_29, mp_29, iu, cup, Nat.reduceEqDiff]
      refine tail q (nI p) (by omega) (fun z => ?_) (fun z => ?_)
      · rw [e2] at z
        exact absurd z (oI_ne (by omega))
      · rw [e2]
        exact ⟨p, by omega, hrr, rfl⟩
theorem m_rule_ (hM : MV I C (c, F) rw nw pa cd he mi) (h1 : ∀ q I' rd', rrd F c = .inl q → MV I' C (0, F) rw nw pa cd he mi → Q (some (.int (-1 - nI q))) (mh h m I' rd' (m + 6) C)) (h2 : ∀ cd' I' rd' C', rrd F c = .inr cd' → MV I' C' (0, F) rw nw pa cd' he mi → Q (some (.int 0)) (mh h m I' rd' (m + 6) C')) : tm_D (g_G sa sc xt) (d + 268) 205 [.ref m] (mh h m I rd (m + 6) C) Q := by
  have a1 : I 4 = nI c := hM.1.1
  rw [e_205]
  simp only [s_205_0, s_205_1, s_205_2, s_205_5, s_205_6, s_205_9, s_205_10, s_205_11, s_205_14, s_205_17, s_205_18, s_205_19, s_205_22, s_205_23, s_205_24, s_205_25, s_205_27, s_205_28, s_205_31, s_205_32, s_205_35, s_205_36, s_205_37, s_205_40, s_205_41, s_205_42, s_205_43, s_205_46, s_205_49, s_205_50, s_205_51, s_205_54, s_205_55, x_get_i, List.getElem?_cons_succ, List.getElem?_cons_zero, x_cv_j, cs_n, cs_i, cs_r, cs_l, Nat.reduceAdd, Nat.reduceLeDiff, true_and, Option.toList_some, Option.toList_none, List.cons_append, List.nil_append, if_true, if_false, nb0, nb1, x_setJ, x_setZ0, x_setZ1, x_setA, x_setO, List.length_cons, List.length_nil, Nat.reduceLT, List.set_cons_succ, List.set_cons_zero, wrl_0, wrl_1, wrl_2, wrl_3, wrl_4, wrl_5, wrl_p0, wrl_p1, wrl_p2, wrl_p3, wrl_p4, mh_o, mh_po, mcv, mg_0, mg_1, mg_2, mg_3, mg_4, mg_5, mg_6, mg_7, mg_8, mg_9, mg_10, mg_11, mg_12, mg_13, mg_14, mg_15, mg_16, mg_17, mg_18, mg_19, mg_20, mg_21, mg_22, mg_23, mg_24, mg_25, mg_26, mg_27, mg_28, mg_29, mg_30, mg_31, mg_32, mg_33, mg_34, mg_35, mg_36, mg_37, mg_38, mg_39, mg_40, mg_41, mg_42, mg_43, mg_44, mg_45, mg_46, ms_1, ms_4, ms_6, ms_7, ms_9, ms_10, ms_11, ms_12, ms_16, ms_20, ms_24, ms_28, ms_35, ms_39, ms_42, ms_43, ms_17t, ms_17f, ms_8, ms_14, mc_1, mp_1, mc_2, mp_2, mc_3, mp_3, mc_4, mp_4, mc_5, mp_5, mc_6, mp_6, mc_7, mp_7, mc_8, mp_8, mc_9, mp_9, mc_10, mp_10, mc_11, mp_11, mc_12, mp_12, mc_13, mp_13, mc_14, mp_14, mc_15, mp_15, mc_16, mp_16, mc_17, mp_17, mc_18, mp_18, mc_19, mp_19, mc_20, mp_20, mc_21, mp_21, mc_22, mp_22, mc_23, mp_23, mc_24, mp_24, mc_25, mp_25, mc_26, mp_26, mc_27, mp_27, mc_28, mp_28, mc_29, mp_29, iu, cup, Nat.reduceEqDiff, a1]
  refine m_readRule (I := iu I 7 0) hM.i7 (fun q I' rd' e hq h12 hM1 => ?_) (fun cd' I' rd' e hc40 hM1 => ?_)
  · simp only [s_205_0, s_205_1, s_205_2, s_205_5, s_205_6, s_205_9, s_205_10, s_205_11, s_205_14, s_205_17, s_205_18, s_205_19, s_205_22, s_205_23, s_205_24, s_205_25, s_205_27, s_205_28, s_205_31, s_205_32, s_205_35, s_205_36, s_205_37, s_205_40, s_205_41, s_205_42, s_205_43, s_205_46, s_205_49, s_205_50, s_205_51, s_205_54, s_205_55, x_get_i, List.getElem?_cons_succ, List.getElem?_cons_zero, x_cv_j, cs_n, cs_i, cs_r, cs_l, Nat.reduceAdd, Nat.reduceLeDiff, true_and, Option.toList_some, Option.toList_none, List.cons_append, List.nil_append, if_true, if_false, nb0, nb1, x_setJ, x_setZ0, x_setZ1, x_setA, x_setO, List.length_cons, List.length_nil, Nat.reduceLT, List.set_cons_succ, List.set_cons_zero, wrl_0, wrl_1, wrl_2, wrl_3, wrl_4, wrl_5, wrl_p0, wrl_p1, wrl_p2, wrl_p3, wrl_p4, mh_o, mh_po, mcv, mg_0, mg_1, mg_2, mg_3, mg_4, mg_5, mg_6, mg_7, mg_8, mg_9, mg_10, mg_11, mg_12, mg_13, mg_14, mg_15, mg_16, mg_17, mg_18, mg_19, mg_20, mg_21, mg_22, mg_23, mg_24, mg_25, mg_26, mg_27, mg_28, mg_29, mg_30, mg_31, mg_32, mg_33, mg_34, mg_35, mg_36, mg_37, mg_38, mg_39, mg_40, mg_41, mg_42, mg_43, mg_44, mg_45, mg_46, ms_1, ms_4, ms_6, ms_7, ms_9, ms_10, ms_11, ms_12, ms_16, ms_20, ms_24, ms_28, ms_35, ms_39, ms_42, ms_43, ms_17t, ms_17f, ms_8, ms_14, mc_1, mp_1, mc_2, mp_2, mc_3, mp_3, mc_4, mp_4, mc_5, mp_5, mc_6, mp_6, mc_7, mp_7, mc_8, mp_8, mc_9, mp_9, mc_10, mp_10, mc_11, mp_11, mc_12, mp_12, mc_13, mp_13, mc_14, mp_14, mc_15, mp_15, mc_16, mp_16, mc_17, mp_17, mc_18, mp_18, mc_19, mp_19, mc_20, mp_20, mc_21, mp_21, mc_22, mp_22, mc_23, mp_23, mc_24, mp_24, mc_25, mp_25, mc_26, mp_26, mc_27, mp_27, mc_28, mp_28, mc_29, mp_29, iu, cup, Nat.reduceEqDiff, h12, not_true_eq_false, if_false]
    exact h1 q _ _ e hM1
  · simp only [s_205_0, s_205_1, s_205_2, s_205_5, s_205_6, s_205_9, s_205_10, s_205_11, s_205_14, s_205_17, s_205_18, s_205_19, s_205_22, s_205_23, s_205_24, s_205_25, s_205_27, s_205_28, s_205_31, s_205_32, s_205_35, s_205_36, s_205_37, s_205_40, s_205_41, s_205_42, s_205_43, s_205_46, s_205_49, s_205_50, s_205_51, s_205_54, s_205_55, x_get_i, List.getElem?_cons_succ, List.getElem?_cons_zero, x_cv_j, cs_n, cs_i, cs_r, cs_l, Nat.reduceAdd, Nat.reduceLeDiff, true_and, Option.toList_some, Option.toList_none, List.cons_append, List.nil_append, if_true, if_false, nb0, nb1, x_setJ, x_setZ0, x_setZ1, x_setA, x_setO, List.length_cons, List.length_nil, Nat.reduceLT, List.set_cons_succ, List.set_cons_zero, wrl_0, wrl_1, wrl_2, wrl_3, wrl_4, wrl_5, wrl_p0, wrl_p1, wrl_p2, wrl_p3, wrl_p4, mh_o, mh_po, mcv, mg_0, mg_1, mg_2, mg_3, mg_4, mg_5, mg_6, mg_7, mg_8, mg_9, mg_10, mg_11, mg_12, mg_13, mg_14, mg_15, mg_16, mg_17, mg_18, mg_19, mg_20, mg_21, mg_22, mg_23, mg_24, mg_25, mg_26, mg_27, mg_28, mg_29, mg_30, mg_31, mg_32, mg_33, mg_34, mg_35, mg_36, mg_37, mg_38, mg_39, mg_40, mg_41, mg_42, mg_43, mg_44, mg_45, mg_46, ms_1, ms_4, ms_6, ms_7, ms_9, ms_10, ms_11, ms_12, ms_16, ms_20, ms_24, ms_28, ms_35, ms_39, ms_42, ms_43, ms_17t, ms_17f, ms_8, ms_14, mc_1, mp_1, mc_2, mp_2, mc_3, mp_3, mc_4, mp_4, mc_5, mp_5, mc_6, mp_6, mc_7, mp_7, mc_8, mp_8, mc_9, mp_9, mc_10, mp_10, mc_11, mp_11, mc_12, mp_12, mc_13, mp_13, mc_14, mp_14, mc_15, mp_15, mc_16, mp_16, mc_17, mp_17, mc_18, mp_18, mc_19, mp_19, mc_20, mp_20, mc_21, mp_21, mc_22, mp_22, mc_23, mp_23, mc_24, mp_24, mc_25, mp_25, mc_26, mp_26, mc_27, mp_27, mc_28, mp_28, mc_29, mp_29, iu, cup, Nat.reduceEqDiff, show ¬ (1 : Int32) = 0 by decide, not_false_eq_true, if_true, if_false]
    obtain ⟨t1, t2, T, t3, t4⟩ := hM1.1
    obtain ⟨b0, b7, rs, S, G, b1, b2, b3, b4, b5⟩ := hM1.2.2.2.2.2.1
    have loop : ∀ (j k : Nat), k + j = c → tm_X (g_G sa sc xt) (d + 268) 205 26 [.ref m, .int (nI c), .int (nI k)] [] (mh h m I' rd' (m + 6) (cup C 6 (.inl (1, 40, .inl (ovl T S k))))) Q := by
      intro j
      induction j with
      | zero =>
        intro k hk
        have hk : k = c := by omega
        subst hk
        rw [s_205_26]
        simp only [s_205_0, s_205_1, s_205_2, s_205_5, s_205_6, s_205_9, s_205_10, s_205_11, s_205_14, s_205_17, s_205_18, s_205_19, s_205_22, s_205_23, s_205_24, s_205_25, s_205_27, s_205_28, s_205_31, s_205_32, s_205_35, s_205_36, s_205_37, s_205_40, s_205_41, s_205_42, s_205_43, s_205_46, s_205_49, s_205_50, s_205_51, s_205_54, s_205_55, x_get_i, List.getElem?_cons_succ, List.getElem?_cons_zero, x_cv_j, cs_n, cs_i, cs_r, cs_l, Nat.reduceAdd, Nat.reduceLeDiff, true_and, Option.toList_some, Option.toList_none, List.cons_append, List.nil_append, if_true, if_false, nb0, nb1, x_setJ, x_setZ0, x_setZ1, x_setA, x_setO, List.length_cons, List.length_nil, Nat.reduceLT, List.set_cons_succ, List.set_cons_zero, wrl_0, wrl_1, wrl_2, wrl_3, wrl_4, wrl_5, wrl_p0, wrl_p1, wrl_p2, wrl_p3, wrl_p4, mh_o, mh_po, mcv, mg_0, mg_1, mg_2, mg_3, mg_4, mg_5, mg_6, mg_7, mg_8, mg_9, mg_10, mg_11, mg_12, mg_13, mg_14, mg_15, mg_16, mg_17, mg_18, mg_19, mg_20, mg_21, mg_22, mg_23, mg_24, mg_25, mg_26, mg_27, mg_28, mg_29, mg_30, mg_31, mg_32, mg_33, mg_34, mg_35, mg_36, mg_37, mg_38, mg_39, mg_40, mg_41, mg_42, mg_43, mg_44, mg_45, mg_46, ms_1, ms_4, ms_6, ms_7, ms_9, ms_10, ms_11, ms_12, ms_16, ms_20, ms_24, ms_28, ms_35, ms_39, ms_42, ms_43, ms_17t, ms_17f, ms_8, ms_14, mc_1, mp_1, mc_2, mp_2, mc_3, mp_3, mc_4, mp_4, mc_5, mp_5, mc_6, mp_6, mc_7, mp_7, mc_8, mp_8, mc_9, mp_9, mc_10, mp_10, mc_11, mp_11, mc_12, mp_12, mc_13, mp_13, mc_14, mp_14, mc_15, mp_15, mc_16, mp_16, mc_17, mp_17, mc_18, mp_18, mc_19, mp_19, mc_20, mp_20, mc_21, mp_21, mc_22, mp_22, mc_23, mp_23, mc_24, mp_24, mc_25, mp_25, mc_26, mp_26, mc_27, mp_27, mc_28, mp_28, mc_29, mp_29, iu, cup, Nat.reduceEqDiff, Int32.le_refl]
        refine h2 cd' _ _ _ e ?_
        obtain ⟨m1, m2, m3, m4, m5, m6, m7, m8, m9⟩ := hM1
        refine ⟨m1.same rfl rfl, m2.same rfl rfl, ?_, ?_, ?_, ⟨b0, ?_, k, ovl T S k, ovl F G k, if_pos rfl, hc40, if_pos rfl, RT_ovl t4 b4 (by decide), ?_⟩, ?_, ?_, m9.cn rfl⟩
        · exact m3
        · exact m4
        · exact m5
        · exact b7
        · rw [← e]
          exact rrd_cg (fun p hp => if_pos hp)
        · exact m7
        · exact m8
      | succ j ih =>
        intro k hk
        obtain ⟨y, hy, y1, y2⟩ := t4 k (by omega)
        have ev : vp_nar .byte (T k) = T k := by rw [y1]; exact nar_b hy
        rw [s_205_26]
        simp only [s_205_0, s_205_1, s_205_2, s_205_5, s_205_6, s_205_9, s_205_10, s_205_11, s_205_14, s_205_17, s_205_18, s_205_19, s_205_22, s_205_23, s_205_24, s_205_25, s_205_27, s_205_28, s_205_31, s_205_32, s_205_35, s_205_36, s_205_37, s_205_40, s_205_41, s_205_42, s_205_43, s_205_46, s_205_49, s_205_50, s_205_51, s_205_54, s_205_55, x_get_i, List.getElem?_cons_succ, List.getElem?_cons_zero, x_cv_j, cs_n, cs_i, cs_r, cs_l, Nat.reduceAdd, Nat.reduceLeDiff, true_and, Option.toList_some, Option.toList_none, List.cons_append, List.nil_append, if_true, if_false, nb0, nb1, x_setJ, x_setZ0, x_setZ1, x_setA, x_setO, List.length_cons, List.length_nil, Nat.reduceLT, List.set_cons_succ, List.set_cons_zero, wrl_0, wrl_1, wrl_2, wrl_3, wrl_4, wrl_5, wrl_p0, wrl_p1, wrl_p2, wrl_p3, wrl_p4, mh_o, mh_po, mcv, mg_0, mg_1, mg_2, mg_3, mg_4, mg_5, mg_6, mg_7, mg_8, mg_9, mg_10, mg_11, mg_12, mg_13, mg_14, mg_15, mg_16, mg_17, mg_18, mg_19, mg_20, mg_21, mg_22, mg_23, mg_24, mg_25, mg_26, mg_27, mg_28, mg_29, mg_30, mg_31, mg_32, mg_33, mg_34, mg_35, mg_36, mg_37, mg_38, mg_39, mg_40, mg_41, mg_42, mg_43, mg_44, mg_45, mg_46, ms_1, ms_4, ms_6, ms_7, ms_9, ms_10, ms_11, ms_12, ms_16, ms_20, ms_24, ms_28, ms_35, ms_39, ms_42, ms_43, ms_17t, ms_17f, ms_8, ms_14, mc_1, mp_1, mc_2, mp_2, mc_3, mp_3, mc_4, mp_4, mc_5, mp_5, mc_6, mp_6, mc_7, mp_7, mc_8, mp_8, mc_9, mp_9, mc_10, mp_10, mc_11, mp_11, mc_12, mp_12, mc_13, mp_13, mc_14, mp_14, mc_15, mp_15, mc_16, mp_16, mc_17, mp_17, mc_18, mp_18, mc_19, mp_19, mc_20, mp_20, mc_21, mp_21, mc_22, mp_22, mc_23, mp_23, mc_24, mp_24, mc_25, mp_25, mc_26, mp_26, mc_27, mp_27, mc_28, mp_28, mc_29, mp_29, iu, cup, Nat.reduceEqDiff, show ¬ nI c ≤ nI k from nI_ge (by omega) (by omega), t3, x_bld_n (show k < 80 by omega) n80, x_bst_n (show k < 40 by omega) n40, cup_cup, ovl_s ev, nI_1]
        exact ih (k + 1) (by omega)
    have := loop c 0 (by omega)
    rw [ovl_0, cup_eta b3] at this
    exact this
theorem r_far5 {X : TN} {f11 : Nat → Int32} (hG : NGT I C m ru n Lm cd) (hN : C 1 = .inl (0, 38, .inl N)) (h11 : C 11 = .inl (0, 38, .inl f11)) (hXn : X.2.2.2.2.1 = n) (hr : RW N X) (hL : ∀ i, i < n → Lm i = X.1 i) (hwf : WFT X) (hQ : ∀ I' rd' C' N', NSC 11 I I' C C' → C' 11 = .inl (0, 38, .inl N') → RW N' (nXT cd (tc_allv (nI n)) 5 X) → Q (some (.int (tc_far (nXT cd (tc_allv (nI n)) 5 X).2.2.1 n))) (mh h m I' rd' ru C')) : tm_D (g_G sa sc xt) (d + 271) 280 [.ref m] (mh h m I rd ru C) Q := by
  have hn := hG.2.1
  rw [e_280]
  simp only [s_280_0, s_280_1, s_280_2, s_280_5, s_280_6, s_280_7, s_280_8, s_280_10, s_280_11, s_280_14, s_280_17, s_280_18, s_280_19, s_280_22, s_280_24, s_280_25, s_280_26, s_280_27, s_280_30, s_280_31, s_280_32, s_280_35, s_280_38, s_280_39, x_get_i, List.getElem?_cons_succ, List.getElem?_cons_zero, x_cv_j, cs_n, cs_i, cs_r, cs_l, Nat.reduceAdd, Nat.reduceLeDiff, true_and, Option.toList_some, Option.toList_none, List.cons_append, List.nil_append, if_true, if_false, nb0, nb1, x_setJ, x_setZ0, x_setZ1, x_setA, x_setO, List.length_cons, List.length_nil, Nat.reduceLT, List.set_cons_succ, List.set_cons_zero, wrl_0, wrl_1, wrl_2, wrl_3, wrl_4, wrl_5, wrl_p0, wrl_p1, wrl_p2, wrl_p3, wrl_p4, mh_o, mh_po, mcv, mg_0, mg_1, mg_2, mg_3, mg_4, mg_5, mg_6, mg_7, mg_8, mg_9, mg_10, mg_11, mg_12, mg_13, mg_14, mg_15, mg_16, mg_17, mg_18, mg_19, mg_20, mg_21, mg_22, mg_23, mg_24, mg_25, mg_26, mg_27, mg_28, mg_29, mg_30, mg_31, mg_32, mg_33, mg_34, mg_35, mg_36, mg_37, mg_38, mg_39, mg_40, mg_41, mg_42, mg_43, mg_44, mg_45, mg_46, ms_1, ms_4, ms_6, ms_7, ms_9, ms_10, ms_11, ms_12, ms_16, ms_20, ms_24, ms_28, ms_35, ms_39, ms_42, ms_43, ms_17t, ms_17f, ms_8, ms_14, mc_1, mp_1, mc_2, mp_2, mc_3, mp_3, mc_4, mp_4, mc_5, mp_5, mc_6, mp_6, mc_7, mp_7, mc_8, mp_8, mc_9, mp_9, mc_10, mp_10, mc_11, mp_11, mc_12, mp_12, mc_13, mp_13, mc_14, mp_14, mc_15, mp_15, mc_16, mp_16, mc_17, mp_17, mc_18, mp_18, mc_19, mp_19, mc_20, mp_20, mc_21, mp_21, mc_22, mp_22, mc_23, mp_23, mc_24, mp_24, mc_25, mp_25, mc_26, mp_26, mc_27, mp_27, mc_28, mp_28, mc_29, mp_29, iu, cup, Nat.reduceEqDiff, show (5 : Int32) = nI 5 from rfl]
  refine r_goThen (by decide) hG hN h11 hXn hr hL hwf (fun I' rd' C' N' a b c => ?_)
  have a1 : I' 1 = nI n := (a.1 1 (by decide) (by decide) (by decide) (by decide)).trans hG.1
  obtain ⟨M', hM'⟩ : ∃ M', M' = (nXT cd (tc_allv (nI n)) 5 X).2.2.1 := ⟨_, rfl⟩
  have eN : ∀ i, i < 12 → N' (12 + i) = M' i := fun i hi => by rw [hM']; exact c.2.1 i hi
  have hQ := hQ I' rd' C' N' a b c
  rw [← hM'] at hQ
  simp only [s_280_0, s_280_1, s_280_2, s_280_5, s_280_6, s_280_7, s_280_8, s_280_10, s_280_11, s_280_14, s_280_17, s_280_18, s_280_19, s_280_22, s_280_24, s_280_25, s_280_26, s_280_27, s_280_30, s_280_31, s_280_32, s_280_35, s_280_38, s_280_39, x_get_i, List.getElem?_cons_succ, List.getElem?_cons_zero, x_cv_j, cs_n, cs_i, cs_r, cs_l, Nat.reduceAdd, Nat.reduceLeDiff, true_and, Option.toList_some, Option.toList_none, List.cons_append, List.nil_append, if_true, if_false, nb0, nb1, x_setJ, x_setZ0, x_setZ1, x_setA, x_setO, List.length_cons, List.length_nil, Nat.reduceLT, List.set_cons_succ, List.set_cons_zero, wrl_0, wrl_1, wrl_2, wrl_3, wrl_4, wrl_5, wrl_p0, wrl_p1, wrl_p2, wrl_p3, wrl_p4, mh_o, mh_po, mcv, mg_0, mg_1, mg_2, mg_3, mg_4, mg_5, mg_6, mg_7, mg_8, mg_9, mg_10, mg_11, mg_12, mg_13, mg_14, mg_15, mg_16, mg_17, mg_18, mg_19, mg_20, mg_21, mg_22, mg_23, mg_24, mg_25, mg_26, mg_27, mg_28, mg_29, mg_30, mg_31, mg_32, mg_33, mg_34, mg_35, mg_36, mg_37, mg_38, mg_39, mg_40, mg_41, mg_42, mg_43, mg_44, mg_45, mg_46, ms_1, ms_4, ms_6, ms_7, ms_9, ms_10, ms_11, ms_12, ms_16, ms_20, ms_24, ms_28, ms_35, ms_39, ms_42, ms_43, ms_17t, ms_17f, ms_8, ms_14, mc_1, mp_1, mc_2, mp_2, mc_3, mp_3, mc_4, mp_4, mc_5, mp_5, mc_6, mp_6, mc_7, mp_7, mc_8, mp_8, mc_9, mp_9, mc_10, mp_10, mc_11, mp_11, mc_12, mp_12, mc_13, mp_13, mc_14, mp_14, mc_15, mp_15, mc_16, mp_16, mc_17, mp_17, mc_18, mp_18, mc_19, mp_19, mc_20, mp_20, mc_21, mp_21, mc_22, mp_22, mc_23, mp_23, mc_24, mp_24, mc_25, mp_25, mc_26, mp_26, mc_27, mp_27, mc_28, mp_28, mc_29, mp_29, iu, cup, Nat.reduceEqDiff]
  have ei : ∀ x : Int32, (if 0 ≤ x then x else 0 - x) = iabs x := fun x => rfl
  have loop : ∀ (j i : Nat), i + j = n → tm_X (g_G sa sc xt) (d + 271) 280 9 [.ref m, .int (tc_far M' i), .int (nI i)] [] (mh h m I' rd' ru C') Q := by
    intro j
    induction j with
    | zero =>
      intro i hi
      have hi : i = n := by omega
      subst hi
      rw [s_280_9]
      simp only [s_280_0, s_280_1, s_280_2, s_280_5, s_280_6, s_280_7, s_280_8, s_280_10, s_280_11, s_280_14, s_280_17, s_280_18, s_280_19, s_280_22, s_280_24, s_280_25, s_280_26, s_280_27, s_280_30, s_280_31, s_280_32, s_280_35, s_280_38, s_280_39, x_get_i, List.getElem?_cons_succ, List.getElem?_cons_zero, x_cv_j, cs_n, cs_i, cs_r, cs_l, Nat.reduceAdd, Nat.reduceLeDiff, true_and, Option.toList_some, Option.toList_none, List.cons_append, List.nil_append, if_true, if_false, nb0, nb1, x_setJ, x_setZ0, x_setZ1, x_setA, x_setO, List.length_cons, List.length_nil, Nat.reduceLT, List.set_cons_succ, List.set_cons_zero, wrl_0, wrl_1, wrl_2, wrl_3, wrl_4, wrl_5, wrl_p0, wrl_p1, wrl_p2, wrl_p3, wrl_p4, mh_o, mh_po, mcv, mg_0, mg_1, mg_2, mg_3, mg_4, mg_5, mg_6, mg_7, mg_8, mg_9, mg_10, mg_11, mg_12, mg_13, mg_14, mg_15, mg_16, mg_17, mg_18, mg_19, mg_20, mg_21, mg_22, mg_23, mg_24, mg_25, mg_26, mg_27, mg_28, mg_29, mg_30, mg_31, mg_32, mg_33, mg_34, mg_35, mg_36, mg_37, mg_38, mg_39, mg_40, mg_41, mg_42, mg_43, mg_44, mg_45, mg_46, ms_1, ms_4, ms_6, ms_7, ms_9, ms_10, ms_11, ms_12, ms_16, ms_20, ms_24, ms_28, ms_35, ms_39, ms_42, ms_43, ms_17t, ms_17f, ms_8, ms_14, mc_1, mp_1, mc_2, mp_2, mc_3, mp_3, mc_4, mp_4, mc_5, mp_5, mc_6, mp_6, mc_7, mp_7, mc_8, mp_8, mc_9, mp_9, mc_10, mp_10, mc_11, mp_11, mc_12, mp_12, mc_13, mp_13, mc_14, mp_14, mc_15, mp_15, mc_16, mp_16, mc_17, mp_17, mc_18, mp_18, mc_19, mp_19, mc_20, mp_20, mc_21, mp_21, mc_22, mp_22, mc_23, mp_23, mc_24, mp_24, mc_25, mp_25, mc_26, mp_26, mc_27, mp_27, mc_28, mp_28, mc_29, mp_29, iu, cup, Nat.reduceEqDiff, a1, Int32.le_refl]
      exact hQ
    | succ j ih =>
      intro i hi
      have es : tc_far M' (i + 1) = tc_far M' i + iabs (M' i) := rfl
      have ih := ih (i + 1) (by omega)
      rw [es] at ih
      rw [s_280_9]
      simp only [s_280_0, s_280_1, s_280_2, s_280_5, s_280_6, s_280_7, s_280_8, s_280_10, s_280_11, s_280_14, s_280_17, s_280_18, s_280_19, s_280_22, s_280_24, s_280_25, s_280_26, s_280_27, s_280_30, s_280_31, s_280_32, s_280_35, s_280_38, s_280_39, x_get_i, List.getElem?_cons_succ, List.getElem?_cons_zero, x_cv_j, cs_n, cs_i, cs_r, cs_l, Nat.reduceAdd, Nat.reduceLeDiff, true_and, Option.toList_some, Option.toList_none, List.cons_append, List.nil_append, if_true, if_false, nb0, nb1, x_setJ, x_setZ0, x_setZ1, x_setA, x_setO, List.length_cons, List.length_nil, Nat.reduceLT, List.set_cons_succ, List.set_cons_zero, wrl_0, wrl_1, wrl_2, wrl_3, wrl_4, wrl_5, wrl_p0, wrl_p1, wrl_p2, wrl_p3, wrl_p4, mh_o, mh_po, mcv, mg_0, mg_1, mg_2, mg_3, mg_4, mg_5, mg_6, mg_7, mg_8, mg_9, mg_10, mg_11, mg_12, mg_13, mg_14, mg_15, mg_16, mg_17, mg_18, mg_19, mg_20, mg_21, mg_22, mg_23, mg_24, mg_25, mg_26, mg_27, mg_28, mg_29, mg_30, mg_31, mg_32, mg_33, mg_34, mg_35, mg_36, mg_37, mg_38, mg_39, mg_40, mg_41, mg_42, mg_43, mg_44, mg_45, mg_46, ms_1, ms_4, ms_6, ms_7, ms_9, ms_10, ms_11, ms_12, ms_16, ms_20, ms_24, ms_28, ms_35, ms_39, ms_42, ms_43, ms_17t, ms_17f, ms_8, ms_14, mc_1, mp_1, mc_2, mp_2, mc_3, mp_3, mc_4, mp_4, mc_5, mp_5, mc_6, mp_6, mc_7, mp_7, mc_8, mp_8, mc_9, mp_9, mc_10, mp_10, mc_11, mp_11, mc_12, mp_12, mc_13, mp_13, mc_14, mp_14, mc_15, mp_15, mc_16, mp_16, mc_17, mp_17, mc_18, mp_18, mc_19, mp_19, mc_20, mp_20, mc_21, mp_21, mc_22, mp_22, mc_23, mp_23, mc_24, mp_24, mc_25, mp_25, mc_26, mp_26, mc_27, mp_27, mc_28, mp_28, mc_29, mp_29, iu, cup, Nat.reduceEqDiff, a1, show ¬ nI n ≤ nI i from nI_ge (by omega) (by omega), b, e12, x_ild_n (show 12 + i < 38 by omega) n38, eN i (by omega), ei, nI_1]
      exact ih
  exact loop n 0 (by omega)
end
