/-! Past -/
/-- heaps that are alike outside lo .. hi -/
def sm (lo hi : Nat) (h h' : tm_H) : Prop := h'.1 = h.1 ∧ h'.2.1 = h.2.1 ∧ ∀ q, (q < lo ∨ hi ≤ q) → h'.2.2 q = h.2.2 q
theorem sm.rfl {lo hi : Nat} {h : tm_H} : sm lo hi h h := ⟨_root_.rfl, _root_.rfl, fun _ _ => _root_.rfl⟩
theorem sm.trans {lo hi : Nat} {h h' h2 : tm_H} (a : sm lo hi h h') (b : sm lo hi h' h2) : sm lo hi h h2 := ⟨b.1.trans a.1, b.2.1.trans a.2.1, fun q hq => (b.2.2 q hq).trans (a.2.2 q hq)⟩
theorem sm.mono {lo hi lo' hi' : Nat} {h h' : tm_H} (a : sm lo hi h h') (h1 : lo' ≤ lo) (h2 : hi ≤ hi') : sm lo' hi' h h' := ⟨a.1, a.2.1, fun q hq => a.2.2 q (by omega)⟩
theorem sm_put {lo hi a : Nat} {e : tm_E} {h : tm_H} (h1 : lo ≤ a) (h2 : a < hi) : sm lo hi h (tm_put h a e) := ⟨rfl, rfl, fun q hq => pa_n (by omega)⟩
theorem sm_wrl {lo hi q : Nat} {cs : List tm_E} {h : tm_H} (h1 : lo ≤ q) (h2 : q + cs.length ≤ hi) : sm lo hi h (wrl h q cs) := ⟨rfl, rfl, fun x hx => wrl_o (by omega)⟩
theorem sm_tcp {lo hi k : Nat} {L W M B : Nat → Int32} {z s g : Int32} {a b : Nat → Int32} {h : tm_H} (h1 : lo ≤ k) (h2 : k + 7 ≤ hi) : sm lo hi h (tcp h k L W M B z s g a b) := ⟨rfl, rfl, fun x hx => tcp_o (by omega)⟩
/-- a case at k -/
def tca (h : tm_H) (k : Nat) (T : TC) : Prop := tc_at h k T.1 T.2.1 T.2.2.1 T.2.2.2.1 T.2.2.2.2.1 T.2.2.2.2.2.1 T.2.2.2.2.2.2
theorem tca_same {h h' : tm_H} {k : Nat} {T : TC} (hh : ∀ q, k ≤ q → q < k + 7 → h'.2.2 q = h.2.2 q) (hT : tca h k T) : tca h' k T := tc_at_same hh hT
theorem tca_sm {h h' : tm_H} {lo hi k : Nat} {T : TC} (hh : sm lo hi h h') (hd : k + 7 ≤ lo ∨ hi ≤ k) (hT : tca h k T) : tca h' k T := tc_at_same (fun q h1 h2 => hh.2.2 q (by omega)) hT
theorem tx_sm {h h' : tm_H} {lo hi t c : Nat} {F : Nat → Int32} (hh : sm lo hi h h') (hd : t + 2 ≤ lo ∨ hi ≤ t) (hx : tx_in h t c F) : tx_in h' t c F := tx_in_same (fun q h1 h2 => hh.2.2 q (by omega)) hx
theorem x_ald_n {n j a : Nat} {f : Nat → Option Nat} {φ : Value → Prop} (h : j < n) (hn : n < 2 ^ 31) (hf : f j = some a) : x_ald (.inl (5, n, .inr (.inr (.inr (.inr f))))) (nI j) φ ↔ φ (.ref a) := by
  have h1 := nI_in h hn
  have h2 := nI_clamp (n := j) (by omega)
  rw [h2] at h1
  show (¬ (nI j < 0 ∨ n ≤ (nI j).toNatClampNeg) ∧ φ (va_rf (f (nI j).toNatClampNeg))) ↔ _
  rw [h2, hf]
  exact ⟨fun q => q.2, fun q => ⟨h1, q⟩⟩
theorem x_zld_n {n j : Nat} {f : Nat → Int32} {φ : Int32 → Prop} (h : j < n) (hn : n < 2 ^ 31) : x_bld (.inl (4, n, .inl f)) (nI j) φ ↔ φ (f j) := by
  have h1 := nI_in h hn
  have h2 := nI_clamp (n := j) (by omega)
  rw [h2] at h1
  show (¬ (nI j < 0 ∨ n ≤ (nI j).toNatClampNeg) ∧ φ (f (nI j).toNatClampNeg)) ↔ _
  rw [h2]
  exact ⟨fun q => q.2, fun q => ⟨h1, q⟩⟩
theorem x_zst_n {n j : Nat} {f : Nat → Int32} {x : Int32} {φ : tm_E → Prop} (h : j < n) (hn : n < 2 ^ 31) : x_bst (.inl (4, n, .inl f)) (nI j) x φ ↔ φ (.inl (4, n, .inl (upd f j (vp_nar .boolean x)))) := by
  have h1 := nI_in h hn
  have h2 := nI_clamp (n := j) (by omega)
  rw [h2] at h1
  show (¬ (nI j < 0 ∨ n ≤ (nI j).toNatClampNeg) ∧ φ (.inl (4, n, .inl (upd f (nI j).toNatClampNeg (vp_nar .boolean x))))) ↔ _
  rw [h2]
  exact ⟨fun q => q.2, fun q => ⟨h1, q⟩⟩
theorem n2 : 2 < 2 ^ 31 := by decide
def pa_o (q z x : Nat) : tm_E := .inr (6, [.ref (q + 1), .ref (q + 2), .ref (q + 3), .int (nI z), .int (nI x)])
/-- all of a Past but its own numbers -/
def pa_r (h : tm_H) (q : Nat) (Cs Ks : Nat → TC) (K : Nat → Int32) : Prop :=
  (∃ f, h.2.2 (q + 1) = .inl (5, 12, .inr (.inr (.inr (.inr f)))) ∧ ∀ i, i < 12 → f i = some (q + 4 + 7 * i)) ∧ (∃ f, h.2.2 (q + 2) = .inl (5, 2, .inr (.inr (.inr (.inr f)))) ∧ ∀ i, i < 2 → f i = some (q + 88 + 7 * i)) ∧ h.2.2 (q + 3) = .inl (4, 2, .inl K) ∧ (∀ i, i < 12 → tca h (q + 4 + 7 * i) (Cs i)) ∧ ∀ i, i < 2 → tca h (q + 88 + 7 * i) (Ks i)
def pa_in (h : tm_H) (q z x : Nat) (Cs Ks : Nat → TC) (K : Nat → Int32) : Prop := h.2.2 q = pa_o q z x ∧ pa_r h q Cs Ks K
theorem pa_r_same {h h' : tm_H} {q : Nat} {Cs Ks : Nat → TC} {K : Nat → Int32} (hh : ∀ x, q + 1 ≤ x → x < q + 102 → h'.2.2 x = h.2.2 x) (hp : pa_r h q Cs Ks K) : pa_r h' q Cs Ks K := by
  obtain ⟨⟨f, p1, p2⟩, ⟨g, p3, p4⟩, p5, p6, p7⟩ := hp
  refine ⟨⟨f, ?_, p2⟩, ⟨g, ?_, p4⟩, ?_, fun i hi => ?_, fun i hi => ?_⟩
  · rw [hh _ (by omega) (by omega)]; exact p1
  · rw [hh _ (by omega) (by omega)]; exact p3
  · rw [hh _ (by omega) (by omega)]; exact p5
  · exact tca_same (fun x h1 h2 => hh x (by omega) (by omega)) (p6 i hi)
  · exact tca_same (fun x h1 h2 => hh x (by omega) (by omega)) (p7 i hi)
theorem pa_in_sm {h h' : tm_H} {lo hi q z x : Nat} {Cs Ks : Nat → TC} {K : Nat → Int32} (hh : sm lo hi h h') (hd : q + 102 ≤ lo ∨ hi ≤ q) (hp : pa_in h q z x Cs Ks K) : pa_in h' q z x Cs Ks K := ⟨by rw [hh.2.2 q (by omega)]; exact hp.1, pa_r_same (fun y h1 h2 => hh.2.2 y (by omega)) hp.2⟩
section
variable {sa : g_SA} {sc : Nat × Nat × (Nat → Int32)} {xt : Nat → Nat → List Value → tm_H → Option (Option Value × tm_H)} {d : Nat} {h : tm_H} {Q : Option Value → tm_H → Prop}
variable {q z x k : Nat} {Cs Ks : Nat → TC} {K : Nat → Int32} {T : TC}
theorem tc_copyR {k k' : Nat} {T T' : TC} (hd : k' + 7 ≤ k ∨ k + 7 ≤ k') (hT : tca h k T) (hT' : tca h k' T') (hQ : ∀ h', sm k (k + 7) h h' → tca h' k T' → tca h' k' T' → Q none h') : tm_D (g_G sa sc xt) (d + 1) 76 [.ref k, .ref k'] h Q := by
  obtain ⟨a, b, e⟩ := tcp_eta hT
  rw [e, tc_copy hd hT']
  have s1 : sm k (k + 7) h (tcp h k T'.1 T'.2.1 T'.2.2.1 T'.2.2.2.1 T'.2.2.2.2.1 T'.2.2.2.2.2.1 T'.2.2.2.2.2.2 a b) := sm_tcp (Nat.le_refl _) (Nat.le_refl _)
  exact hQ _ s1 tcp_at (tca_sm s1 (by omega) hT')
theorem pa_size (hp : pa_in h q z x Cs Ks K) : tm_D (g_G sa sc xt) d 45 [.ref q] h Q ↔ Q (some (.int (nI z))) h := by
  have h0 : h.2.2 q = .inr (6, [.ref (q + 1), .ref (q + 2), .ref (q + 3), .int (nI z), .int (nI x)]) := hp.1
  rw [e_45]
  simp only [s_45_0, s_45_1, s_45_4, x_get_i, List.getElem?_cons_succ, List.getElem?_cons_zero, x_cv_j, cs_n, cs_i, cs_r, cs_l, Nat.reduceAdd, Nat.reduceLeDiff, true_and, Option.toList_some, Option.toList_none, List.cons_append, List.nil_append, if_true, if_false, nb0, nb1, x_setJ, x_setZ0, x_setZ1, x_setA, x_setO, List.length_cons, List.length_nil, Nat.reduceLT, List.set_cons_succ, List.set_cons_zero, wrl_0, wrl_1, wrl_2, wrl_3, wrl_4, wrl_5, wrl_p0, wrl_p1, wrl_p2, wrl_p3, wrl_p4, h0]
theorem pa_clear (hp : pa_in h q z x Cs Ks K) (hQ : ∀ h', sm q (q + 102) h h' → pa_in h' q 0 x Cs Ks K → Q none h') : tm_D (g_G sa sc xt) d 46 [.ref q] h Q := by
  have h0 : h.2.2 q = .inr (6, [.ref (q + 1), .ref (q + 2), .ref (q + 3), .int (nI z), .int (nI x)]) := hp.1
  rw [e_46]
  simp only [s_46_0, s_46_1, s_46_2, s_46_5, x_get_i, List.getElem?_cons_succ, List.getElem?_cons_zero, x_cv_j, cs_n, cs_i, cs_r, cs_l, Nat.reduceAdd, Nat.reduceLeDiff, true_and, Option.toList_some, Option.toList_none, List.cons_append, List.nil_append, if_true, if_false, nb0, nb1, x_setJ, x_setZ0, x_setZ1, x_setA, x_setO, List.length_cons, List.length_nil, Nat.reduceLT, List.set_cons_succ, List.set_cons_zero, wrl_0, wrl_1, wrl_2, wrl_3, wrl_4, wrl_5, wrl_p0, wrl_p1, wrl_p2, wrl_p3, wrl_p4, h0]
  exact hQ _ (sm_put (Nat.le_refl _) (by omega)) ⟨pa_s, pa_r_same (fun y h1 h2 => pa_n (by omega)) hp.2⟩
theorem pa_nx {x : Nat} (hx : x < 12) : (nI x + 1) - (nI x + 1) / 12 * 12 = nI ((x + 1) % 12) := by
  have : ∀ x : Fin 12, (nI x.1 + 1) - (nI x.1 + 1) / 12 * 12 = nI ((x.1 + 1) % 12) := by decide +kernel
  exact this ⟨x, hx⟩
theorem pa_pv {x : Nat} (hx : x < 12) : (nI x + 12 - 1) - (nI x + 12 - 1) / 12 * 12 = nI ((x + 11) % 12) := by
  have : ∀ x : Fin 12, (nI x.1 + 12 - 1) - (nI x.1 + 12 - 1) / 12 * 12 = nI ((x.1 + 11) % 12) := by decide +kernel
  exact this ⟨x, hx⟩
theorem pa_mn {z : Nat} (hz : z ≤ 12) : (if nI (z + 1) < 12 then nI (z + 1) else 12) = nI (min 12 (z + 1)) := by
  have : ∀ z : Fin 13, (if nI (z.1 + 1) < 12 then nI (z.1 + 1) else 12) = nI (min 12 (z.1 + 1)) := by decide +kernel
  exact this ⟨z, by omega⟩
theorem pa_rx {h h' : tm_H} {q i : Nat} {Cs Ks : Nat → TC} {K : Nat → Int32} {T : TC} (hi : i < 12) (hh : sm (q + 4 + 7 * i) (q + 4 + 7 * i + 7) h h') (hT : tca h' (q + 4 + 7 * i) T) (hp : pa_r h q Cs Ks K) : pa_r h' q (fun j => if j = i then T else Cs j) Ks K := by
  obtain ⟨⟨f, p1, p2⟩, ⟨g, p3, p4⟩, p5, p6, p7⟩ := hp
  refine ⟨⟨f, ?_, p2⟩, ⟨g, ?_, p4⟩, ?_, fun j hj => ?_, fun j hj => ?_⟩
  · rw [hh.2.2 _ (by omega)]; exact p1
  · rw [hh.2.2 _ (by omega)]; exact p3
  · rw [hh.2.2 _ (by omega)]; exact p5
  · by_cases e : j = i
    · subst e
      dsimp only
      rw [if_pos rfl]
      exact hT
    · dsimp only
      rw [if_neg e]
      exact tca_sm hh (by omega) (p6 j hj)
  · exact tca_sm hh (by omega) (p7 j hj)
theorem pa_rk {h h' : tm_H} {q i : Nat} {Cs Ks : Nat → TC} {K : Nat → Int32} {T : TC} (hi : i < 2) (hh : sm (q + 88 + 7 * i) (q + 88 + 7 * i + 7) h h') (hT : tca h' (q + 88 + 7 * i) T) (hp : pa_r h q Cs Ks K) : pa_r h' q Cs (fun j => if j = i then T else Ks j) K := by
  obtain ⟨⟨f, p1, p2⟩, ⟨g, p3, p4⟩, p5, p6, p7⟩ := hp
  refine ⟨⟨f, ?_, p2⟩, ⟨g, ?_, p4⟩, ?_, fun j hj => ?_, fun j hj => ?_⟩
  · rw [hh.2.2 _ (by omega)]; exact p1
  · rw [hh.2.2 _ (by omega)]; exact p3
  · rw [hh.2.2 _ (by omega)]; exact p5
  · exact tca_sm hh (by omega) (p6 j hj)
  · by_cases e : j = i
    · subst e
      dsimp only
      rw [if_pos rfl]
      exact hT
    · dsimp only
      rw [if_neg e]
      exact tca_sm hh (by omega) (p7 j hj)
theorem pa_push (hp : pa_in h q z x Cs Ks K) (hz : z ≤ 12) (hx : x < 12) (hT : tca h k T) (hd : k + 7 ≤ q ∨ q + 102 ≤ k) (hQ : ∀ h', sm q (q + 102) h h' → pa_in h' q (min 12 (z + 1)) ((x + 1) % 12) (fun i => if i = x then T else Cs i) Ks K → Q none h') : tm_D (g_G sa sc xt) (d + 2) 47 [.ref q, .ref k] h Q := by
  obtain ⟨h0, hr⟩ := hp
  obtain ⟨⟨f, p1, p2⟩, ⟨g, p3, p4⟩, p5, p6, p7⟩ := id hr
  have h0 : h.2.2 q = .inr (6, [.ref (q + 1), .ref (q + 2), .ref (q + 3), .int (nI z), .int (nI x)]) := h0
  have hc : h.2.2 (q + 4 + 7 * x) = .inr (9, _) := (p6 x hx).1
  rw [e_47]
  simp only [s_47_0, s_47_1, s_47_4, s_47_5, s_47_8, s_47_9, s_47_10, s_47_13, s_47_14, s_47_15, s_47_18, s_47_19, s_47_20, s_47_22, s_47_23, s_47_26, s_47_27, s_47_29, s_47_30, s_47_33, s_47_34, s_47_35, s_47_38, s_47_41, x_get_i, List.getElem?_cons_succ, List.getElem?_cons_zero, x_cv_j, cs_n, cs_i, cs_r, cs_l, Nat.reduceAdd, Nat.reduceLeDiff, true_and, Option.toList_some, Option.toList_none, List.cons_append, List.nil_append, if_true, if_false, nb0, nb1, x_setJ, x_setZ0, x_setZ1, x_setA, x_setO, List.length_cons, List.length_nil, Nat.reduceLT, List.set_cons_succ, List.set_cons_zero, wrl_0, wrl_1, wrl_2, wrl_3, wrl_4, wrl_5, wrl_p0, wrl_p1, wrl_p2, wrl_p3, wrl_p4, h0, p1, x_ald_n hx n12 (p2 x hx), hc]
  refine tc_copyR (by omega) (p6 x hx) hT (fun h1 s1 t1 t2 => ?_)
  have h0' : h1.2.2 q = .inr (6, [.ref (q + 1), .ref (q + 2), .ref (q + 3), .int (nI z), .int (nI x)]) := by rw [s1.2.2 q (by omega)]; exact h0
  have pn := pa_nx hx
  rw [nI_1] at pn
  simp only [s_47_0, s_47_1, s_47_4, s_47_5, s_47_8, s_47_9, s_47_10, s_47_13, s_47_14, s_47_15, s_47_18, s_47_19, s_47_20, s_47_22, s_47_23, s_47_26, s_47_27, s_47_29, s_47_30, s_47_33, s_47_34, s_47_35, s_47_38, s_47_41, x_get_i, List.getElem?_cons_succ, List.getElem?_cons_zero, x_cv_j, cs_n, cs_i, cs_r, cs_l, Nat.reduceAdd, Nat.reduceLeDiff, true_and, Option.toList_some, Option.toList_none, List.cons_append, List.nil_append, if_true, if_false, nb0, nb1, x_setJ, x_setZ0, x_setZ1, x_setA, x_setO, List.length_cons, List.length_nil, Nat.reduceLT, List.set_cons_succ, List.set_cons_zero, wrl_0, wrl_1, wrl_2, wrl_3, wrl_4, wrl_5, wrl_p0, wrl_p1, wrl_p2, wrl_p3, wrl_p4, h0', show ¬ (12 : Int32) = 0 by decide, pa_s, put_put, nI_1, pn, pa_mn hz]
  refine hQ _ ((s1.mono (by omega) (by omega)).trans (sm_put (Nat.le_refl _) (by omega))) ⟨pa_s, pa_r_same (fun y h1 h2 => pa_n (by omega)) (pa_rx hx s1 t1 hr)⟩
theorem pa_pop0 (hp : pa_in h q 0 x Cs Ks K) : tm_D (g_G sa sc xt) d 48 [.ref q, .ref k] h Q ↔ Q (some (.int 0)) h := by
  have h0 : h.2.2 q = .inr (6, [.ref (q + 1), .ref (q + 2), .ref (q + 3), .int (nI 0), .int (nI x)]) := hp.1
  rw [e_48]
  simp only [s_48_0, s_48_1, s_48_4, s_48_7, s_48_8, s_48_9, s_48_10, s_48_11, s_48_14, s_48_16, s_48_17, s_48_18, s_48_19, s_48_21, s_48_22, s_48_25, s_48_26, s_48_27, s_48_30, s_48_31, s_48_32, s_48_35, s_48_36, s_48_37, s_48_40, s_48_41, s_48_44, s_48_45, s_48_48, s_48_49, x_get_i, List.getElem?_cons_succ, List.getElem?_cons_zero, x_cv_j, cs_n, cs_i, cs_r, cs_l, Nat.reduceAdd, Nat.reduceLeDiff, true_and, Option.toList_some, Option.toList_none, List.cons_append, List.nil_append, if_true, if_false, nb0, nb1, x_setJ, x_setZ0, x_setZ1, x_setA, x_setO, List.length_cons, List.length_nil, Nat.reduceLT, List.set_cons_succ, List.set_cons_zero, wrl_0, wrl_1, wrl_2, wrl_3, wrl_4, wrl_5, wrl_p0, wrl_p1, wrl_p2, wrl_p3, wrl_p4, h0, show nI 0 = 0 by decide]
theorem pa_pop (hp : pa_in h q (z + 1) x Cs Ks K) (hz : z < 12) (hx : x < 12) (hT : tca h k T) (hd : k + 7 ≤ q ∨ q + 102 ≤ k) (hQ : ∀ h1 h', sm q (q + 102) h h1 → sm k (k + 7) h1 h' → pa_in h' q z ((x + 11) % 12) Cs Ks K → tca h' k (Cs ((x + 11) % 12)) → Q (some (.int 1)) h') : tm_D (g_G sa sc xt) (d + 2) 48 [.ref q, .ref k] h Q := by
  obtain ⟨h0, hr⟩ := hp
  obtain ⟨⟨f, p1, p2⟩, ⟨g, p3, p4⟩, p5, p6, p7⟩ := id hr
  have h0 : h.2.2 q = .inr (6, [.ref (q + 1), .ref (q + 2), .ref (q + 3), .int (nI (z + 1)), .int (nI x)]) := h0
  have hc : h.2.2 (q + 4 + 7 * ((x + 11) % 12)) = .inr (9, _) := (p6 _ (Nat.mod_lt _ (by decide))).1
  have hk : h.2.2 k = .inr (9, _) := hT.1
  rw [e_48]
  have p1' : ∀ e, (tm_put h q e).2.2 (q + 1) = .inl (5, 12, .inr (.inr (.inr (.inr f)))) := fun e => (pa_n (by omega)).trans p1
  have hk' : ∀ e, (tm_put h q e).2.2 k = .inr (9, _) := fun e => (pa_n (by omega)).trans hk
  simp only [s_48_0, s_48_1, s_48_4, s_48_7, s_48_8, s_48_9, s_48_10, s_48_11, s_48_14, s_48_16, s_48_17, s_48_18, s_48_19, s_48_21, s_48_22, s_48_25, s_48_26, s_48_27, s_48_30, s_48_31, s_48_32, s_48_35, s_48_36, s_48_37, s_48_40, s_48_41, s_48_44, s_48_45, s_48_48, s_48_49, x_get_i, List.getElem?_cons_succ, List.getElem?_cons_zero, x_cv_j, cs_n, cs_i, cs_r, cs_l, Nat.reduceAdd, Nat.reduceLeDiff, true_and, Option.toList_some, Option.toList_none, List.cons_append, List.nil_append, if_true, if_false, nb0, nb1, x_setJ, x_setZ0, x_setZ1, x_setA, x_setO, List.length_cons, List.length_nil, Nat.reduceLT, List.set_cons_succ, List.set_cons_zero, wrl_0, wrl_1, wrl_2, wrl_3, wrl_4, wrl_5, wrl_p0, wrl_p1, wrl_p2, wrl_p3, wrl_p4, h0, show ¬ nI (z + 1) = 0 from nI_ne0 (by omega) (by omega), show ¬ (12 : Int32) = 0 by decide, pa_s, put_put, pa_pv hx, nI_pred, p1', x_ald_n (Nat.mod_lt (x + 11) (show 0 < 12 by decide)) n12 (p2 _ (Nat.mod_lt _ (by decide))), hk']
  have s0 : sm q (q + 102) h (tm_put h q (pa_o q z ((x + 11) % 12))) := sm_put (Nat.le_refl _) (by omega)
  have hp0 : pa_in (tm_put h q (pa_o q z ((x + 11) % 12))) q z ((x + 11) % 12) Cs Ks K := ⟨pa_s, pa_r_same (fun y h1 h2 => pa_n (by omega)) hr⟩
  refine tc_copyR (T := T) (T' := Cs ((x + 11) % 12)) (by omega) (tca_sm s0 (by omega) hT) (hp0.2.2.2.2.1 _ (Nat.mod_lt _ (by decide))) (fun h1 s1 t1 t2 => ?_)
  simp only [s_48_0, s_48_1, s_48_4, s_48_7, s_48_8, s_48_9, s_48_10, s_48_11, s_48_14, s_48_16, s_48_17, s_48_18, s_48_19, s_48_21, s_48_22, s_48_25, s_48_26, s_48_27, s_48_30, s_48_31, s_48_32, s_48_35, s_48_36, s_48_37, s_48_40, s_48_41, s_48_44, s_48_45, s_48_48, s_48_49, x_get_i, List.getElem?_cons_succ, List.getElem?_cons_zero, x_cv_j, cs_n, cs_i, cs_r, cs_l, Nat.reduceAdd, Nat.reduceLeDiff, true_and, Option.toList_some, Option.toList_none, List.cons_append, List.nil_append, if_true, if_false, nb0, nb1, x_setJ, x_setZ0, x_setZ1, x_setA, x_setO, List.length_cons, List.length_nil, Nat.reduceLT, List.set_cons_succ, List.set_cons_zero, wrl_0, wrl_1, wrl_2, wrl_3, wrl_4, wrl_5, wrl_p0, wrl_p1, wrl_p2, wrl_p3, wrl_p4]
  exact hQ _ _ s0 s1 (pa_in_sm s1 (by omega) hp0) t1
theorem pa_keep {i : Nat} (hp : pa_in h q z x Cs Ks K) (hi : i < 2) (hT : tca h k T) (hd : k + 7 ≤ q ∨ q + 102 ≤ k) (hQ : ∀ h', sm q (q + 102) h h' → pa_in h' q z x Cs (fun j => if j = i then T else Ks j) (upd K i 1) → Q (some (.int 1)) h') : tm_D (g_G sa sc xt) (d + 2) 49 [.ref q, .int (nI i), .ref k] h Q := by
  obtain ⟨h0, hr⟩ := hp
  obtain ⟨⟨f, p1, p2⟩, ⟨g, p3, p4⟩, p5, p6, p7⟩ := id hr
  have h0 : h.2.2 q = .inr (6, [.ref (q + 1), .ref (q + 2), .ref (q + 3), .int (nI z), .int (nI x)]) := h0
  have hc : h.2.2 (q + 88 + 7 * i) = .inr (9, _) := (p7 i hi).1
  rw [e_49]
  simp only [s_49_0, s_49_1, s_49_4, s_49_5, s_49_6, s_49_9, s_49_10, s_49_11, s_49_12, s_49_15, s_49_16, s_49_17, s_49_18, s_49_21, s_49_22, s_49_25, s_49_26, s_49_27, s_49_28, s_49_29, x_get_i, List.getElem?_cons_succ, List.getElem?_cons_zero, x_cv_j, cs_n, cs_i, cs_r, cs_l, Nat.reduceAdd, Nat.reduceLeDiff, true_and, Option.toList_some, Option.toList_none, List.cons_append, List.nil_append, if_true, if_false, nb0, nb1, x_setJ, x_setZ0, x_setZ1, x_setA, x_setO, List.length_cons, List.length_nil, Nat.reduceLT, List.set_cons_succ, List.set_cons_zero, wrl_0, wrl_1, wrl_2, wrl_3, wrl_4, wrl_5, wrl_p0, wrl_p1, wrl_p2, wrl_p3, wrl_p4, h0, p3, show ¬ nI i < 0 from nI_pos (by omega), show nI i < (2 : Int32) from nI_lt (b := 2) hi (by decide), x_ald_n hi n2 (p4 i hi), hc]
  refine tc_copyR (by omega) (p7 i hi) hT (fun h1 s1 t1 t2 => ?_)
  have h0' : h1.2.2 q = .inr (6, [.ref (q + 1), .ref (q + 2), .ref (q + 3), .int (nI z), .int (nI x)]) := by rw [s1.2.2 q (by omega)]; exact h0
  have hr' := pa_rk hi s1 t1 hr
  have p5' := hr'.2.2.1
  simp only [s_49_0, s_49_1, s_49_4, s_49_5, s_49_6, s_49_9, s_49_10, s_49_11, s_49_12, s_49_15, s_49_16, s_49_17, s_49_18, s_49_21, s_49_22, s_49_25, s_49_26, s_49_27, s_49_28, s_49_29, x_get_i, List.getElem?_cons_succ, List.getElem?_cons_zero, x_cv_j, cs_n, cs_i, cs_r, cs_l, Nat.reduceAdd, Nat.reduceLeDiff, true_and, Option.toList_some, Option.toList_none, List.cons_append, List.nil_append, if_true, if_false, nb0, nb1, x_setJ, x_setZ0, x_setZ1, x_setA, x_setO, List.length_cons, List.length_nil, Nat.reduceLT, List.set_cons_succ, List.set_cons_zero, wrl_0, wrl_1, wrl_2, wrl_3, wrl_4, wrl_5, wrl_p0, wrl_p1, wrl_p2, wrl_p3, wrl_p4, h0', p5', x_zst_n hi n2, show vp_nar .boolean 1 = 1 by decide]
  refine hQ _ ((s1.mono (by omega) (by omega)).trans (sm_put (by omega) (by omega))) ⟨(pa_n (by omega)).trans h0', ?_⟩
  obtain ⟨⟨f, p1, p2⟩, ⟨g, p3, p4⟩, p5, p6, p7⟩ := hr'
  exact ⟨⟨f, (pa_n (by omega)).trans p1, p2⟩, ⟨g, (pa_n (by omega)).trans p3, p4⟩, pa_s, fun j hj => tca_sm (sm_put (lo := q + 3) (hi := q + 4) (by omega) (by omega)) (by omega) (p6 j hj), fun j hj => tca_sm (sm_put (lo := q + 3) (hi := q + 4) (by omega) (by omega)) (by omega) (p7 j hj)⟩
theorem pa_keep0 {v : Int32} (hv : v < 0 ∨ ¬ v < 2) : tm_D (g_G sa sc xt) d 49 [.ref q, .int v, .ref k] h Q ↔ Q (some (.int 0)) h := by
  rw [e_49]
  simp only [s_49_0, s_49_1, s_49_4, s_49_5, s_49_6, s_49_9, s_49_10, s_49_11, s_49_12, s_49_15, s_49_16, s_49_17, s_49_18, s_49_21, s_49_22, s_49_25, s_49_26, s_49_27, s_49_28, s_49_29, x_get_i, List.getElem?_cons_succ, List.getElem?_cons_zero, x_cv_j, cs_n, cs_i, cs_r, cs_l, Nat.reduceAdd, Nat.reduceLeDiff, true_and, Option.toList_some, Option.toList_none, List.cons_append, List.nil_append, if_true, if_false, nb0, nb1, x_setJ, x_setZ0, x_setZ1, x_setA, x_setO, List.length_cons, List.length_nil, Nat.reduceLT, List.set_cons_succ, List.set_cons_zero, wrl_0, wrl_1, wrl_2, wrl_3, wrl_4, wrl_5, wrl_p0, wrl_p1, wrl_p2, wrl_p3, wrl_p4]
  rcases hv with c | c
  · simp only [c, if_true]
  · simp only [c, if_false, ite_self]
theorem pa_back0 {v : Int32} (hv : v < 0 ∨ 2 ≤ v) : tm_D (g_G sa sc xt) d 50 [.ref q, .int v, .ref k] h Q ↔ Q (some (.int 0)) h := by
  rw [e_50]
  simp only [s_50_0, s_50_1, s_50_4, s_50_5, s_50_6, s_50_9, s_50_10, s_50_13, s_50_14, s_50_15, s_50_18, s_50_19, s_50_22, s_50_23, s_50_24, s_50_27, s_50_28, s_50_31, s_50_34, s_50_35, s_50_36, s_50_37, s_50_38, s_50_41, s_50_42, s_50_43, s_50_46, s_50_47, s_50_50, s_50_51, x_get_i, List.getElem?_cons_succ, List.getElem?_cons_zero, x_cv_j, cs_n, cs_i, cs_r, cs_l, Nat.reduceAdd, Nat.reduceLeDiff, true_and, Option.toList_some, Option.toList_none, List.cons_append, List.nil_append, if_true, if_false, nb0, nb1, x_setJ, x_setZ0, x_setZ1, x_setA, x_setO, List.length_cons, List.length_nil, Nat.reduceLT, List.set_cons_succ, List.set_cons_zero, wrl_0, wrl_1, wrl_2, wrl_3, wrl_4, wrl_5, wrl_p0, wrl_p1, wrl_p2, wrl_p3, wrl_p4]
  rcases hv with c | c
  · simp only [c, if_true]
  · simp only [c, if_true, ite_self]
theorem pa_back1 {i : Nat} (hp : pa_in h q z x Cs Ks K) (hi : i < 2) (hT : tca h k T) (hb : K i = 0 ∨ (Ks i).2.2.2.2.1 ≠ T.2.2.2.2.1) : tm_D (g_G sa sc xt) d 50 [.ref q, .int (nI i), .ref k] h Q ↔ Q (some (.int 0)) h := by
  obtain ⟨h0, hr⟩ := hp
  obtain ⟨⟨f, p1, p2⟩, ⟨g, p3, p4⟩, p5, p6, p7⟩ := id hr
  have h0 : h.2.2 q = .inr (6, [.ref (q + 1), .ref (q + 2), .ref (q + 3), .int (nI z), .int (nI x)]) := h0
  have hc := (p7 i hi).1
  have hk := hT.1
  rw [e_50]
  simp only [s_50_0, s_50_1, s_50_4, s_50_5, s_50_6, s_50_9, s_50_10, s_50_13, s_50_14, s_50_15, s_50_18, s_50_19, s_50_22, s_50_23, s_50_24, s_50_27, s_50_28, s_50_31, s_50_34, s_50_35, s_50_36, s_50_37, s_50_38, s_50_41, s_50_42, s_50_43, s_50_46, s_50_47, s_50_50, s_50_51, x_get_i, List.getElem?_cons_succ, List.getElem?_cons_zero, x_cv_j, cs_n, cs_i, cs_r, cs_l, Nat.reduceAdd, Nat.reduceLeDiff, true_and, Option.toList_some, Option.toList_none, List.cons_append, List.nil_append, if_true, if_false, nb0, nb1, x_setJ, x_setZ0, x_setZ1, x_setA, x_setO, List.length_cons, List.length_nil, Nat.reduceLT, List.set_cons_succ, List.set_cons_zero, wrl_0, wrl_1, wrl_2, wrl_3, wrl_4, wrl_5, wrl_p0, wrl_p1, wrl_p2, wrl_p3, wrl_p4, h0, p3, p5, show ¬ nI i < 0 from nI_pos (by omega), show ¬ (2 : Int32) ≤ nI i from nI_ge (b := 2) hi (by decide), x_zld_n hi n2, x_ald_n hi n2 (p4 i hi), hc, hk]
  rcases hb with c | c
  · simp only [c, if_true]
  · simp only [c, if_false, ite_self]
theorem pa_back2 {i : Nat} (hp : pa_in h q z x Cs Ks K) (hi : i < 2) (hT : tca h k T) (hb : K i ≠ 0) (hs : (Ks i).2.2.2.2.1 = T.2.2.2.2.1) (hd : k + 7 ≤ q ∨ q + 102 ≤ k) (hQ : ∀ h1 h', sm k (k + 7) h h1 → sm q (q + 102) h1 h' → pa_in h' q 0 x Cs Ks K → tca h' k (Ks i) → Q (some (.int 1)) h') : tm_D (g_G sa sc xt) (d + 2) 50 [.ref q, .int (nI i), .ref k] h Q := by
  obtain ⟨h0, hr⟩ := id hp
  obtain ⟨⟨f, p1, p2⟩, ⟨g, p3, p4⟩, p5, p6, p7⟩ := id hr
  have h0 : h.2.2 q = .inr (6, [.ref (q + 1), .ref (q + 2), .ref (q + 3), .int (nI z), .int (nI x)]) := h0
  have hc := (p7 i hi).1
  have hk := hT.1
  rw [e_50]
  simp only [s_50_0, s_50_1, s_50_4, s_50_5, s_50_6, s_50_9, s_50_10, s_50_13, s_50_14, s_50_15, s_50_18, s_50_19, s_50_22, s_50_23, s_50_24, s_50_27, s_50_28, s_50_31, s_50_34, s_50_35, s_50_36, s_50_37, s_50_38, s_50_41, s_50_42, s_50_43, s_50_46, s_50_47, s_50_50, s_50_51, x_get_i, List.getElem?_cons_succ, List.getElem?_cons_zero, x_cv_j, cs_n, cs_i, cs_r, cs_l, Nat.reduceAdd, Nat.reduceLeDiff, true_and, Option.toList_some, Option.toList_none, List.cons_append, List.nil_append, if_true, if_false, nb0, nb1, x_setJ, x_setZ0, x_setZ1, x_setA, x_setO, List.length_cons, List.length_nil, Nat.reduceLT, List.set_cons_succ, List.set_cons_zero, wrl_0, wrl_1, wrl_2, wrl_3, wrl_4, wrl_5, wrl_p0, wrl_p1, wrl_p2, wrl_p3, wrl_p4, h0, p3, p5, show ¬ nI i < 0 from nI_pos (by omega), show ¬ (2 : Int32) ≤ nI i from nI_ge (b := 2) hi (by decide), x_zld_n hi n2, x_ald_n hi n2 (p4 i hi), hc, hk, hb, hs]
  refine tc_copyR (T := T) (T' := Ks i) (by omega) hT (p7 i hi) (fun h1 s1 t1 t2 => ?_)
  have hp1 := pa_in_sm s1 (by omega) hp
  have h0' : h1.2.2 q = .inr (6, [.ref (q + 1), .ref (q + 2), .ref (q + 3), .int (nI z), .int (nI x)]) := hp1.1
  simp only [s_50_0, s_50_1, s_50_4, s_50_5, s_50_6, s_50_9, s_50_10, s_50_13, s_50_14, s_50_15, s_50_18, s_50_19, s_50_22, s_50_23, s_50_24, s_50_27, s_50_28, s_50_31, s_50_34, s_50_35, s_50_36, s_50_37, s_50_38, s_50_41, s_50_42, s_50_43, s_50_46, s_50_47, s_50_50, s_50_51, x_get_i, List.getElem?_cons_succ, List.getElem?_cons_zero, x_cv_j, cs_n, cs_i, cs_r, cs_l, Nat.reduceAdd, Nat.reduceLeDiff, true_and, Option.toList_some, Option.toList_none, List.cons_append, List.nil_append, if_true, if_false, nb0, nb1, x_setJ, x_setZ0, x_setZ1, x_setA, x_setO, List.length_cons, List.length_nil, Nat.reduceLT, List.set_cons_succ, List.set_cons_zero, wrl_0, wrl_1, wrl_2, wrl_3, wrl_4, wrl_5, wrl_p0, wrl_p1, wrl_p2, wrl_p3, wrl_p4, h0']
  refine pa_clear hp1 (fun h2 s2 p2 => ?_)
  simp only [s_50_0, s_50_1, s_50_4, s_50_5, s_50_6, s_50_9, s_50_10, s_50_13, s_50_14, s_50_15, s_50_18, s_50_19, s_50_22, s_50_23, s_50_24, s_50_27, s_50_28, s_50_31, s_50_34, s_50_35, s_50_36, s_50_37, s_50_38, s_50_41, s_50_42, s_50_43, s_50_46, s_50_47, s_50_50, s_50_51, x_get_i, List.getElem?_cons_succ, List.getElem?_cons_zero, x_cv_j, cs_n, cs_i, cs_r, cs_l, Nat.reduceAdd, Nat.reduceLeDiff, true_and, Option.toList_some, Option.toList_none, List.cons_append, List.nil_append, if_true, if_false, nb0, nb1, x_setJ, x_setZ0, x_setZ1, x_setA, x_setO, List.length_cons, List.length_nil, Nat.reduceLT, List.set_cons_succ, List.set_cons_zero, wrl_0, wrl_1, wrl_2, wrl_3, wrl_4, wrl_5, wrl_p0, wrl_p1, wrl_p2, wrl_p3, wrl_p4]
  exact hQ _ _ s1 s2 p2 (tca_sm s2 (by omega) t1)
end
