/-! copies of a case, sums of boxes, a night -/
theorem x_cp_12 {f g : Nat → Int32} {φ : tm_E → Prop} : x_cp (.inl (0, 12, .inl f)) (.inl (0, 12, .inl g)) 0 0 12 φ ↔ φ (.inl (0, 12, .inl f)) := by
  have h0 : (0 : Int32).toNatClampNeg = 0 := by decide
  have h12 : (12 : Int32).toNatClampNeg = 12 := by decide
  show ((¬ (0 : Int32) < 0 ∧ ¬ (0 : Int32) < 0 ∧ ¬ (12 : Int32) < 0 ∧ (0 : Int32).toNatClampNeg + (12 : Int32).toNatClampNeg ≤ 12 ∧ (0 : Int32).toNatClampNeg + (12 : Int32).toNatClampNeg ≤ 12) ∧ φ (.inl (0, 12, .inl (if (0 : Int32).toNatClampNeg = 0 ∧ (0 : Int32).toNatClampNeg = 0 ∧ (12 : Int32).toNatClampNeg = 12 then f else _)))) ↔ _
  rw [if_pos ⟨h0, h0, h12⟩]
  exact ⟨fun q => q.2, fun q => ⟨⟨by decide, by decide, by decide, by decide, by decide⟩, q⟩⟩
section
variable {h : tm_H} {k k' : Nat} {L W M B L' W' M' B' : Nat → Int32} {z s g z' s' g' : Int32} {a b : Nat → Int32}
theorem tc_at_tcp (hd : k' + 7 ≤ k ∨ k + 7 ≤ k') (hT : tc_at h k' L' W' M' B' z' s' g') : tc_at (tcp h k L W M B z s g a b) k' L' W' M' B' z' s' g' := by
  obtain ⟨h0, h1, h2, h3, h4, h5, h6⟩ := hT
  unfold tc_at
  rw [tcp_o (by omega), tcp_o (by omega), tcp_o (by omega), tcp_o (by omega), tcp_o (by omega), tcp_o (by omega), tcp_o (by omega)]
  exact ⟨h0, h1, h2, h3, h4, h5, h6⟩
end
section
variable {sa : g_SA} {sc : Nat × Nat × (Nat → Int32)} {xt : Nat → Nat → List Value → tm_H → Option (Option Value × tm_H)} {d : Nat} {h : tm_H} {Q : Option Value → tm_H → Prop}
variable {k k' n : Nat} {L W M B L' W' M' B' : Nat → Int32} {z s g z' s' g' : Int32} {a b : Nat → Int32}
theorem tc_copy (hd : k' + 7 ≤ k ∨ k + 7 ≤ k') (hT : tc_at h k' L' W' M' B' z' s' g') : tm_D (g_G sa sc xt) (d + 1) 76 [.ref k, .ref k'] (tcp h k L W M B z s g a b) Q ↔ Q none (tcp h k L' W' M' B' z' s' g' a b) := by
  have q : ∀ {L W M B : Nat → Int32} {z s g : Int32} {a b : Nat → Int32}, tc_at (tcp h k L W M B z s g a b) k' L' W' M' B' z' s' g' := tc_at_tcp hd hT
  have q0 : ∀ {L W M B : Nat → Int32} {z s g : Int32} {a b : Nat → Int32}, (tcp h k L W M B z s g a b).2.2 k' = _ := q.1
  have q1 : ∀ {L W M B : Nat → Int32} {z s g : Int32} {a b : Nat → Int32}, (tcp h k L W M B z s g a b).2.2 (k' + 1) = _ := q.2.1
  have q2 : ∀ {L W M B : Nat → Int32} {z s g : Int32} {a b : Nat → Int32}, (tcp h k L W M B z s g a b).2.2 (k' + 2) = _ := q.2.2.1
  have q3 : ∀ {L W M B : Nat → Int32} {z s g : Int32} {a b : Nat → Int32}, (tcp h k L W M B z s g a b).2.2 (k' + 3) = _ := q.2.2.2.1
  have q4 : ∀ {L W M B : Nat → Int32} {z s g : Int32} {a b : Nat → Int32}, (tcp h k L W M B z s g a b).2.2 (k' + 4) = _ := q.2.2.2.2.1
  rw [e_76]
  simp only [s_76_0, s_76_1, s_76_4, s_76_5, s_76_6, s_76_9, s_76_10, s_76_12, s_76_15, s_76_16, s_76_19, s_76_20, s_76_21, s_76_24, s_76_25, s_76_27, s_76_30, s_76_31, s_76_34, s_76_35, s_76_36, s_76_39, s_76_40, s_76_42, s_76_45, s_76_46, s_76_49, s_76_50, s_76_51, s_76_54, s_76_55, s_76_57, s_76_60, s_76_61, s_76_62, s_76_65, s_76_68, s_76_69, s_76_70, s_76_73, s_76_76, s_76_77, s_76_78, s_76_81, s_76_84, x_get_i, List.getElem?_cons_succ, List.getElem?_cons_zero, x_cv_j, cs_n, cs_i, cs_r, cs_l, Nat.reduceAdd, Nat.reduceLeDiff, true_and, Option.toList_some, Option.toList_none, List.cons_append, List.nil_append, if_true, if_false, nb0, nb1, x_setJ, x_setZ0, x_setZ1, x_setA, x_setO, List.length_cons, List.length_nil, Nat.reduceLT, List.set_cons_succ, List.set_cons_zero, tcp_0, tcp_1, tcp_2, tcp_3, tcp_4, q0, q1, q2, q3, q4, x_cp_12, tcp_p0, tcp_p1, tcp_p2, tcp_p3, tcp_p4]
theorem tc_add (hn : n < 12) (l w m : Int32) : tm_D (g_G sa sc xt) d 77 [.ref k, .int l, .int w, .int m] (tcp h k L W M B (nI n) s g a b) Q ↔ Q none (tcp h k (upd L n l) (upd W n w) (upd M n m) (upd B n l) (nI (n + 1)) s g a b) := by
  have c1 : ¬ (12 : Int32) ≤ nI n := nI_ge (b := 12) hn (by decide)
  rw [e_77]
  simp only [s_77_0, s_77_1, s_77_4, s_77_6, s_77_9, s_77_10, s_77_13, s_77_14, s_77_17, s_77_18, s_77_19, s_77_20, s_77_23, s_77_24, s_77_27, s_77_28, s_77_29, s_77_30, s_77_33, s_77_34, s_77_37, s_77_38, s_77_39, s_77_40, s_77_43, s_77_44, s_77_47, s_77_48, s_77_49, s_77_50, s_77_51, s_77_54, s_77_55, s_77_56, s_77_59, x_get_i, List.getElem?_cons_succ, List.getElem?_cons_zero, x_cv_j, cs_n, cs_i, cs_r, cs_l, Nat.reduceAdd, Nat.reduceLeDiff, true_and, Option.toList_some, Option.toList_none, List.cons_append, List.nil_append, if_true, if_false, nb0, nb1, x_setJ, x_setZ0, x_setZ1, x_setA, x_setO, List.length_cons, List.length_nil, Nat.reduceLT, List.set_cons_succ, List.set_cons_zero, tcp_0, tcp_1, tcp_2, tcp_3, tcp_4, c1, x_ist_n hn n12, tcp_p0, tcp_p1, tcp_p2, tcp_p3, tcp_p4, nI_1]
/-- the sum of what lies in a box -/
def bs (M : Nat → Int32) (β : Nat → Nat) (x : Nat) : Nat → Int32 := fo (fun i c => if β i = x then c + M i else c) 0
def wA (f : Nat → Int32) (M : Nat → Int32) (β : Nat → Nat) (n : Nat) : Nat → Int32 := fun x => if x < 8 then bs M β x n else f x
theorem wA_0 {f M : Nat → Int32} {β : Nat → Nat} : fl f 0 8 = wA f M β 0 := rfl
theorem wA_s {f M : Nat → Int32} {β : Nat → Nat} {i : Nat} (hb : β i < 8) : upd (wA f M β i) (β i) (wA f M β i (β i) + M i) = wA f M β (i + 1) := by
  funext x
  have es : bs M β x (i + 1) = if β i = x then bs M β x i + M i else bs M β x i := rfl
  unfold upd
  by_cases hx : x = β i
  · subst hx
    simp only [if_true]
    unfold wA
    rw [if_pos hb, if_pos hb, es, if_pos rfl]
  · rw [if_neg hx]
    unfold wA
    split
    · rw [es, if_neg (fun q => hx q.symm)]
    · rfl
theorem tc_weigh {β : Nat → Nat} (hn : n ≤ 12) (hB : ∀ i, i < n → B i = nI (β i) ∧ β i < 8) : tm_D (g_G sa sc xt) (d + 1) 103 [.ref k] (tcp h k L W M B (nI n) s g a b) Q ↔ Q none (tcp h k L W M B (nI n) s g (wA a M β n) (wA b (fun _ => 1) β n)) := by
  have loop : ∀ j i, i + j = n → (tm_X (g_G sa sc xt) (d + 1) 103 18 [.ref k, .int (nI i)] [] (tcp h k L W M B (nI n) s g (wA a M β i) (wA b (fun _ => 1) β i)) Q ↔ Q none (tcp h k L W M B (nI n) s g (wA a M β n) (wA b (fun _ => 1) β n))) := by
    intro j
    induction j with
    | zero =>
      intro i hi
      have hi : i = n := by omega
      subst hi
      rw [s_103_18]
      simp only [s_103_0, s_103_1, s_103_4, s_103_5, s_103_8, s_103_9, s_103_12, s_103_13, s_103_16, s_103_17, s_103_19, s_103_20, s_103_23, s_103_26, s_103_27, s_103_30, s_103_31, s_103_34, s_103_35, s_103_36, s_103_37, s_103_38, s_103_39, s_103_42, s_103_43, s_103_44, s_103_45, s_103_46, s_103_47, s_103_50, s_103_51, s_103_54, s_103_55, s_103_56, s_103_57, s_103_58, s_103_59, s_103_60, s_103_61, s_103_64, s_103_67, x_get_i, List.getElem?_cons_succ, List.getElem?_cons_zero, x_cv_j, cs_n, cs_i, cs_r, cs_l, Nat.reduceAdd, Nat.reduceLeDiff, true_and, Option.toList_some, Option.toList_none, List.cons_append, List.nil_append, if_true, if_false, nb0, nb1, x_setJ, x_setZ0, x_setZ1, x_setA, x_setO, List.length_cons, List.length_nil, Nat.reduceLT, List.set_cons_succ, List.set_cons_zero, tcp_0, Int32.le_refl]
    | succ j ih =>
      intro i hi
      have hin : i < n := by omega
      have c1 : ¬ nI n ≤ nI i := nI_ge hin (by omega)
      have c2 : i < 12 := by omega
      obtain ⟨b1, b2⟩ := hB i hin
      rw [s_103_18]
      simp only [s_103_0, s_103_1, s_103_4, s_103_5, s_103_8, s_103_9, s_103_12, s_103_13, s_103_16, s_103_17, s_103_19, s_103_20, s_103_23, s_103_26, s_103_27, s_103_30, s_103_31, s_103_34, s_103_35, s_103_36, s_103_37, s_103_38, s_103_39, s_103_42, s_103_43, s_103_44, s_103_45, s_103_46, s_103_47, s_103_50, s_103_51, s_103_54, s_103_55, s_103_56, s_103_57, s_103_58, s_103_59, s_103_60, s_103_61, s_103_64, s_103_67, x_get_i, List.getElem?_cons_succ, List.getElem?_cons_zero, x_cv_j, cs_n, cs_i, cs_r, cs_l, Nat.reduceAdd, Nat.reduceLeDiff, true_and, Option.toList_some, Option.toList_none, List.cons_append, List.nil_append, if_true, if_false, nb0, nb1, x_setJ, x_setZ0, x_setZ1, x_setA, x_setO, List.length_cons, List.length_nil, Nat.reduceLT, List.set_cons_succ, List.set_cons_zero, tcp_0, tcp_3, tcp_4, tcp_5, tcp_6, tcp_p5, tcp_p6, c1, x_ild_n c2 n12, b1, x_ild_n b2 n8, x_ist_n b2 n8, wA_s b2, wA_s (M := fun _ => 1) b2, nI_1]
      exact ih (i + 1) (by omega)
  rw [e_103]
  simp only [s_103_0, s_103_1, s_103_4, s_103_5, s_103_8, s_103_9, s_103_12, s_103_13, s_103_16, s_103_17, s_103_19, s_103_20, s_103_23, s_103_26, s_103_27, s_103_30, s_103_31, s_103_34, s_103_35, s_103_36, s_103_37, s_103_38, s_103_39, s_103_42, s_103_43, s_103_44, s_103_45, s_103_46, s_103_47, s_103_50, s_103_51, s_103_54, s_103_55, s_103_56, s_103_57, s_103_58, s_103_59, s_103_60, s_103_61, s_103_64, s_103_67, x_get_i, List.getElem?_cons_succ, List.getElem?_cons_zero, x_cv_j, cs_n, cs_i, cs_r, cs_l, Nat.reduceAdd, Nat.reduceLeDiff, true_and, Option.toList_some, Option.toList_none, List.cons_append, List.nil_append, if_true, if_false, nb0, nb1, x_setJ, x_setZ0, x_setZ1, x_setA, x_setO, List.length_cons, List.length_nil, Nat.reduceLT, List.set_cons_succ, List.set_cons_zero, tcp_0]
  rw [m_fill n8 tcp_5]
  simp only [s_103_0, s_103_1, s_103_4, s_103_5, s_103_8, s_103_9, s_103_12, s_103_13, s_103_16, s_103_17, s_103_19, s_103_20, s_103_23, s_103_26, s_103_27, s_103_30, s_103_31, s_103_34, s_103_35, s_103_36, s_103_37, s_103_38, s_103_39, s_103_42, s_103_43, s_103_44, s_103_45, s_103_46, s_103_47, s_103_50, s_103_51, s_103_54, s_103_55, s_103_56, s_103_57, s_103_58, s_103_59, s_103_60, s_103_61, s_103_64, s_103_67, x_get_i, List.getElem?_cons_succ, List.getElem?_cons_zero, x_cv_j, cs_n, cs_i, cs_r, cs_l, Nat.reduceAdd, Nat.reduceLeDiff, true_and, Option.toList_some, Option.toList_none, List.cons_append, List.nil_append, if_true, if_false, nb0, nb1, x_setJ, x_setZ0, x_setZ1, x_setA, x_setO, List.length_cons, List.length_nil, Nat.reduceLT, List.set_cons_succ, List.set_cons_zero, tcp_0, tcp_p5]
  rw [m_fill n8 tcp_6]
  simp only [s_103_0, s_103_1, s_103_4, s_103_5, s_103_8, s_103_9, s_103_12, s_103_13, s_103_16, s_103_17, s_103_19, s_103_20, s_103_23, s_103_26, s_103_27, s_103_30, s_103_31, s_103_34, s_103_35, s_103_36, s_103_37, s_103_38, s_103_39, s_103_42, s_103_43, s_103_44, s_103_45, s_103_46, s_103_47, s_103_50, s_103_51, s_103_54, s_103_55, s_103_56, s_103_57, s_103_58, s_103_59, s_103_60, s_103_61, s_103_64, s_103_67, x_get_i, List.getElem?_cons_succ, List.getElem?_cons_zero, x_cv_j, cs_n, cs_i, cs_r, cs_l, Nat.reduceAdd, Nat.reduceLeDiff, true_and, Option.toList_some, Option.toList_none, List.cons_append, List.nil_append, if_true, if_false, nb0, nb1, x_setJ, x_setZ0, x_setZ1, x_setA, x_setO, List.length_cons, List.length_nil, Nat.reduceLT, List.set_cons_succ, List.set_cons_zero, tcp_0, tcp_p6]
  exact loop n 0 (by omega)
theorem tc_hasTwo (hT : tc_at h k L W M B (nI n) s g) (hn : n ≤ 12) (x : Int32) : tm_D (g_G sa sc xt) (d + 2) 90 [.ref k, .int x] h Q ↔ Q (some (.int (if ibc (tc_let L (tc_wh B x n) n) ≤ 1 then 0 else 1))) h := by
  have hT0 := hT
  obtain ⟨h0, -⟩ := hT
  rw [e_90]
  simp only [s_90_0, s_90_1, s_90_2, s_90_3, s_90_6, s_90_9, s_90_10, s_90_13, s_90_14, s_90_17, s_90_18, x_get_i, List.getElem?_cons_succ, List.getElem?_cons_zero, x_cv_j, cs_n, cs_i, cs_r, cs_l, Nat.reduceAdd, Nat.reduceLeDiff, true_and, Option.toList_some, Option.toList_none, List.cons_append, List.nil_append, if_true, if_false, nb0, nb1, x_setJ, x_setZ0, x_setZ1, x_setA, x_setO, List.length_cons, List.length_nil, Nat.reduceLT, List.set_cons_succ, List.set_cons_zero, h0, tc_inBox hT0 hn, tc_lettersOf hT0 hn]
  by_cases c : ibc (tc_let L (tc_wh B x n) n) ≤ 1
  · simp only [c, if_true, nb0, true_and]
  · simp only [c, if_false, nb1, true_and]
def tc_pk (M : Nat → Int32) : Nat → Int64 := fo (fun i c => (c <<< ((5 : Int32).toInt64 &&& 63)) ||| (M i + 9).toInt64) 0
theorem tc_packed (hT : tc_at h k L W M B (nI n) s g) (hn : n ≤ 12) : tm_D (g_G sa sc xt) d 92 [.ref k] h Q ↔ Q (some (.long (tc_pk M n))) h := by
  obtain ⟨h0, h1, h2, h3, h4, h5, h6⟩ := hT
  have loop : ∀ j i, i + j = n → (tm_X (g_G sa sc xt) d 92 4 [.ref k, .long (tc_pk M i), tm_z, .int (nI i)] [] h Q ↔ Q (some (.long (tc_pk M n))) h) := by
    intro j
    induction j with
    | zero =>
      intro i hi
      have hi : i = n := by omega
      subst hi
      rw [s_92_4]
      simp only [s_92_0, s_92_1, s_92_2, s_92_3, s_92_5, s_92_6, s_92_9, s_92_12, s_92_13, s_92_14, s_92_15, s_92_16, s_92_19, s_92_20, s_92_21, s_92_23, s_92_24, s_92_25, s_92_26, s_92_27, s_92_30, s_92_33, s_92_34, x_get_i, List.getElem?_cons_succ, List.getElem?_cons_zero, x_cv_j, cs_n, cs_i, cs_r, cs_l, Nat.reduceAdd, Nat.reduceLeDiff, true_and, Option.toList_some, Option.toList_none, List.cons_append, List.nil_append, if_true, if_false, nb0, nb1, x_setJ, x_setZ0, x_setZ1, x_setA, x_setO, List.length_cons, List.length_nil, Nat.reduceLT, List.set_cons_succ, List.set_cons_zero, h0, Int32.le_refl]
    | succ j ih =>
      intro i hi
      have hin : i < n := by omega
      have c1 : ¬ nI n ≤ nI i := nI_ge hin (by omega)
      have c2 : i < 12 := by omega
      rw [s_92_4]
      simp only [s_92_0, s_92_1, s_92_2, s_92_3, s_92_5, s_92_6, s_92_9, s_92_12, s_92_13, s_92_14, s_92_15, s_92_16, s_92_19, s_92_20, s_92_21, s_92_23, s_92_24, s_92_25, s_92_26, s_92_27, s_92_30, s_92_33, s_92_34, x_get_i, List.getElem?_cons_succ, List.getElem?_cons_zero, x_cv_j, cs_n, cs_i, cs_r, cs_l, Nat.reduceAdd, Nat.reduceLeDiff, true_and, Option.toList_some, Option.toList_none, List.cons_append, List.nil_append, if_true, if_false, nb0, nb1, x_setJ, x_setZ0, x_setZ1, x_setA, x_setO, List.length_cons, List.length_nil, Nat.reduceLT, List.set_cons_succ, List.set_cons_zero, h0, h3, c1, x_ild_n c2 n12, nI_1]
      exact ih (i + 1) (by omega)
  rw [e_92]
  simp only [s_92_0, s_92_1, s_92_2, s_92_3, s_92_5, s_92_6, s_92_9, s_92_12, s_92_13, s_92_14, s_92_15, s_92_16, s_92_19, s_92_20, s_92_21, s_92_23, s_92_24, s_92_25, s_92_26, s_92_27, s_92_30, s_92_33, s_92_34]
  exact loop n 0 (by omega)
end
/-- a rule at r: what it says of its seven things, whether it looks at the night -/
def RU (h : tm_H) (r : Nat) (V : (Nat → Int32) → Int32) (hn : Int32) : Prop := ∃ (E P K : Nat → Int32) (z : Nat) (a e : Int32), (∀ i x, (ruc r E P K (nI z) hn a e)[i]? = some x → h.2.2 (r + i) = x) ∧ z ≤ 40 ∧ (∀ E K, (vrun E P K z).1 0 = V E)
/-- heaps that differ in a rule's things and stack alone -/
def rsm (r : Nat) (h h' : tm_H) : Prop := h'.1 = h.1 ∧ h'.2.1 = h.2.1 ∧ ∀ q, q ≠ r + 1 → q ≠ r + 3 → h'.2.2 q = h.2.2 q
theorem rsm.rfl {r : Nat} {h : tm_H} : rsm r h h := ⟨_root_.rfl, _root_.rfl, fun _ _ _ => _root_.rfl⟩
theorem rsm.trans {r : Nat} {h h' h2 : tm_H} (p : rsm r h h') (q : rsm r h' h2) : rsm r h h2 := ⟨q.1.trans p.1, q.2.1.trans p.2.1, fun x h1 h2 => (q.2.2 x h1 h2).trans (p.2.2 x h1 h2)⟩
def e7 (x0 x1 x2 x3 x4 x5 x6 : Int32) (F : Nat → Int32) : Nat → Int32 := fun i => if i = 0 then x0 else if i = 1 then x1 else if i = 2 then x2 else if i = 3 then x3 else if i = 4 then x4 else if i = 5 then x5 else if i = 6 then x6 else F i
theorem e7_u {x0 x1 x2 x3 x4 x5 x6 : Int32} {F : Nat → Int32} : upd (upd (upd (upd (upd (upd (upd F 0 x0) 1 x1) 2 x2) 3 x3) 4 x4) 5 x5) 6 x6 = e7 x0 x1 x2 x3 x4 x5 x6 F := by
  funext i
  unfold upd e7
  by_cases c6 : i = 6
  · subst c6; rfl
  by_cases c5 : i = 5
  · subst c5; rfl
  by_cases c4 : i = 4
  · subst c4; rfl
  by_cases c3 : i = 3
  · subst c3; rfl
  by_cases c2 : i = 2
  · subst c2; rfl
  by_cases c1 : i = 1
  · subst c1; rfl
  by_cases c0 : i = 0
  · subst c0; rfl
  simp only [c0, c1, c2, c3, c4, c5, c6, if_false]
theorem x_ist_k {n j : Nat} {i x : Int32} {f : Nat → Int32} {φ : tm_E → Prop} (hi : i = nI j) (h : j < n) (hn : n < 2 ^ 31) : x_ist (.inl (0, n, .inl f)) i x φ ↔ φ (.inl (0, n, .inl (upd f j x))) := by subst hi; exact x_ist_n h hn
/-- what a sort's rule is asked: V does not look behind seven -/
def V7 (V : (Nat → Int32) → Int32) : Prop := ∀ E F, (∀ i, i < 7 → E i = F i) → V E = V F
section
variable {sa : g_SA} {sc : Nat × Nat × (Nat → Int32)} {xt : Nat → Nat → List Value → tm_H → Option (Option Value × tm_H)} {d : Nat} {h : tm_H} {Q : Option Value → tm_H → Prop}
variable {k r n : Nat} {L W M B : Nat → Int32} {s g : Int32} {a b : Nat → Int32} {V : (Nat → Int32) → Int32} {hn : Int32}
/-- the seven things of sort i -/
def tc_env (L W M : Nat → Int32) (β : Nat → Nat) (am ac : Nat → Int32) (g : Int32) (i : Nat) : Nat → Int32 := e7 (M i) (W i) (L i) (ac (β i) - 1) (am (β i) - M i) (nI i) (g - g / 7 * 7) (fun _ => 0)
theorem tc_turn {β : Nat → Nat} {i : Nat} (hN : n ≤ 12) (hi : i < n) (hB : B i = nI (β i) ∧ β i < 8) (hR : RU (tcp h k L W M B (nI n) s g a b) r V hn) (hV : V7 V) (hd : r + 4 ≤ k ∨ k + 7 ≤ r) (hQ : ∀ h1, rsm r h h1 → RU (tcp h1 k L W M B (nI n) s g a b) r V hn → Q (some (.int (pm (V (tc_env L W M β a b g i))))) (tcp h1 k L W M B (nI n) s g a b)) : tm_D (g_G sa sc xt) (d + 1) 104 [.ref k, .ref r, .int (nI i)] (tcp h k L W M B (nI n) s g a b) Q := by
  obtain ⟨E, P, K, z, a0, e0, h1, h2, h3⟩ := hR
  have hi12 : i < 12 := by omega
  obtain ⟨b1, b2⟩ := hB
  have h1' : ∀ i x, (ruc r E P K (nI z) hn a0 e0)[i]? = some x → h.2.2 (r + i) = x := by
    intro i x hx
    have hl : i < 4 := by
      have := (List.getElem?_eq_some_iff.mp hx).1
      exact this
    have := h1 i x hx
    rwa [tcp_o (by omega)] at this
  -- the heap as: the rule's cells, and on it the case
  have heq : ∀ (E K : Nat → Int32), tcp (wrl h r (ruc r E P K (nI z) hn a0 e0)) k L W M B (nI n) s g a b = wrl (tcp h k L W M B (nI n) s g a b) r (ruc r E P K (nI z) hn a0 e0) := by
    intro E K
    refine tcp_ext rfl rfl (fun q => ?_)
    by_cases hq : q < k ∨ k + 7 ≤ q
    · rw [tcp_o hq]
      show (if r ≤ q then _ else _) = (if r ≤ q then _ else _)
      split
      · split
        · rfl
        · exact (tcp_o hq).symm
      · exact (tcp_o hq).symm
    · rw [wrl_o (show q < r ∨ r + (ruc r E P K (nI z) hn a0 e0).length ≤ q by
        show q < r ∨ r + 4 ≤ q
        omega)]
      rcases (show q = k ∨ q = k + 1 ∨ q = k + 2 ∨ q = k + 3 ∨ q = k + 4 ∨ q = k + 5 ∨ q = k + 6 by omega) with e | e | e | e | e | e | e <;> rw [e] <;> simp only [tcp_0, tcp_1, tcp_2, tcp_3, tcp_4, tcp_5, tcp_6]
  have hst : tcp h k L W M B (nI n) s g a b = wrl (tcp h k L W M B (nI n) s g a b) r (ruc r E P K (nI z) hn a0 e0) := (wrl_eta h1).symm
  have t : ∀ {E K : Nat → Int32} {q : Nat} {x : tm_E}, k ≤ q → q < k + 7 → (tcp h k L W M B (nI n) s g a b).2.2 q = x → (wrl (tcp h k L W M B (nI n) s g a b) r (ruc r E P K (nI z) hn a0 e0)).2.2 q = x := fun {E K q x} q1 q2 q3 => by
    rw [wrl_o (show q < r ∨ r + 4 ≤ q by omega)]
    exact q3
  have t0 : ∀ {E K : Nat → Int32}, (wrl (tcp h k L W M B (nI n) s g a b) r (ruc r E P K (nI z) hn a0 e0)).2.2 k = _ := t (by omega) (by omega) tcp_0
  have t1 : ∀ {E K : Nat → Int32}, (wrl (tcp h k L W M B (nI n) s g a b) r (ruc r E P K (nI z) hn a0 e0)).2.2 (k + 1) = _ := t (by omega) (by omega) tcp_1
  have t2 : ∀ {E K : Nat → Int32}, (wrl (tcp h k L W M B (nI n) s g a b) r (ruc r E P K (nI z) hn a0 e0)).2.2 (k + 2) = _ := t (by omega) (by omega) tcp_2
  have t3 : ∀ {E K : Nat → Int32}, (wrl (tcp h k L W M B (nI n) s g a b) r (ruc r E P K (nI z) hn a0 e0)).2.2 (k + 3) = _ := t (by omega) (by omega) tcp_3
  have t4 : ∀ {E K : Nat → Int32}, (wrl (tcp h k L W M B (nI n) s g a b) r (ruc r E P K (nI z) hn a0 e0)).2.2 (k + 4) = _ := t (by omega) (by omega) tcp_4
  have t5 : ∀ {E K : Nat → Int32}, (wrl (tcp h k L W M B (nI n) s g a b) r (ruc r E P K (nI z) hn a0 e0)).2.2 (k + 5) = _ := t (by omega) (by omega) tcp_5
  have t6 : ∀ {E K : Nat → Int32}, (wrl (tcp h k L W M B (nI n) s g a b) r (ruc r E P K (nI z) hn a0 e0)).2.2 (k + 6) = _ := t (by omega) (by omega) tcp_6
  rw [e_104]
  rw [hst]
  simp only [s_104_0, s_104_1, s_104_4, s_104_5, s_104_6, s_104_9, s_104_10, s_104_11, s_104_12, s_104_13, s_104_16, s_104_17, s_104_18, s_104_21, s_104_22, s_104_23, s_104_24, s_104_25, s_104_28, s_104_29, s_104_30, s_104_33, s_104_34, s_104_35, s_104_36, s_104_37, s_104_40, s_104_41, s_104_42, s_104_45, s_104_46, s_104_49, s_104_50, s_104_51, s_104_52, s_104_53, s_104_54, s_104_55, s_104_56, s_104_59, s_104_60, s_104_61, s_104_64, s_104_65, s_104_68, s_104_69, s_104_70, s_104_71, s_104_72, s_104_75, s_104_76, s_104_77, s_104_78, s_104_79, s_104_80, s_104_83, s_104_84, s_104_85, s_104_86, s_104_87, s_104_90, s_104_92, s_104_93, s_104_96, s_104_98, s_104_99, s_104_100, s_104_101, s_104_104, s_104_107, x_get_i, List.getElem?_cons_succ, List.getElem?_cons_zero, x_cv_j, cs_n, cs_i, cs_r, cs_l, Nat.reduceAdd, Nat.reduceLeDiff, true_and, Option.toList_some, Option.toList_none, List.cons_append, List.nil_append, if_true, if_false, nb0, nb1, x_setJ, x_setZ0, x_setZ1, x_setA, x_setO, List.length_cons, List.length_nil, Nat.reduceLT, List.set_cons_succ, List.set_cons_zero, wrl_0, wrl_1, wrl_p1, t0, t1, t2, t3, t4, t5, t6, x_ild_n hi12 n12, b1, x_ild_n b2 n8, x_ist_k (j := 0) (i := 0) rfl (by decide) n7, x_ist_k (j := 1) (i := 1) rfl (by decide) n7, x_ist_k (j := 2) (i := 2) rfl (by decide) n7, x_ist_k (j := 3) (i := 3) rfl (by decide) n7, x_ist_k (j := 4) (i := 4) rfl (by decide) n7, x_ist_k (j := 5) (i := 5) rfl (by decide) n7, x_ist_k (j := 6) (i := 6) rfl (by decide) n7, show ¬ (7 : Int32) = 0 by decide, e7_u, ru_value h2, m_putToMood, h3]
  have hv : V (e7 (M i) (W i) (L i) (b (β i) - 1) (a (β i) - M i) (nI i) (g - g / 7 * 7) E) = V (tc_env L W M β a b g i) := hV _ _ (fun j hj => by
    unfold tc_env e7
    rcases (show j = 0 ∨ j = 1 ∨ j = 2 ∨ j = 3 ∨ j = 4 ∨ j = 5 ∨ j = 6 by omega) with e | e | e | e | e | e | e <;> subst e <;> rfl)
  rw [hv, ← heq]
  refine hQ _ ⟨rfl, rfl, fun q c1 c3 => ?_⟩ ⟨(e7 (M i) (W i) (L i) (b (β i) - 1) (a (β i) - M i) (nI i) (g - g / 7 * 7) E), P, (vrun (e7 (M i) (W i) (L i) (b (β i) - 1) (a (β i) - M i) (nI i) (g - g / 7 * 7) E) P K z).1, z, a0, e0, fun i x hx => ?_, h2, h3⟩
  · by_cases hq : q < r ∨ r + 4 ≤ q
    · exact wrl_o hq
    · rcases (show q = r ∨ q = r + 2 by omega) with e | e
      · rw [e, wrl_0]; exact (h1' 0 _ rfl).symm
      · rw [e, wrl_2]; exact (h1' 2 _ rfl).symm
  · rw [heq]
    exact wrl_i hx
end
