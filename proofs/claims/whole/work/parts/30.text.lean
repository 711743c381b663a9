/-! a writer of any number of cells, one behind the other -/
def wrl (h : tm_H) (q : Nat) (cs : List tm_E) : tm_H := (h.1, h.2.1, fun p => if q ≤ p then (match cs[p - q]? with
  | some e => e
  | none => h.2.2 p) else h.2.2 p)
section
variable {h : tm_H} {q : Nat} {cs : List tm_E} {c0 c1 c2 c3 c4 c5 e : tm_E}
theorem wrl_i {i : Nat} (hi : cs[i]? = some e) : (wrl h q cs).2.2 (q + i) = e := by
  show (if q ≤ q + i then _ else _) = e
  rw [if_pos (Nat.le_add_right _ _), Nat.add_sub_cancel_left, hi]
theorem wrl_0 : (wrl h q (c0 :: cs)).2.2 q = c0 := wrl_i (i := 0) rfl
theorem wrl_1 : (wrl h q (c0 :: c1 :: cs)).2.2 (q + 1) = c1 := wrl_i rfl
theorem wrl_2 : (wrl h q (c0 :: c1 :: c2 :: cs)).2.2 (q + 2) = c2 := wrl_i rfl
theorem wrl_3 : (wrl h q (c0 :: c1 :: c2 :: c3 :: cs)).2.2 (q + 3) = c3 := wrl_i rfl
theorem wrl_4 : (wrl h q (c0 :: c1 :: c2 :: c3 :: c4 :: cs)).2.2 (q + 4) = c4 := wrl_i rfl
theorem wrl_5 : (wrl h q (c0 :: c1 :: c2 :: c3 :: c4 :: c5 :: cs)).2.2 (q + 5) = c5 := wrl_i rfl
theorem wrl_o {p : Nat} (hp : p < q ∨ q + cs.length ≤ p) : (wrl h q cs).2.2 p = h.2.2 p := by
  show (if q ≤ p then _ else _) = _
  split
  · rw [List.getElem?_eq_none (by omega)]
  · rfl
theorem wrl_p {i : Nat} (hi : i < cs.length) : tm_put (wrl h q cs) (q + i) e = wrl h q (cs.set i e) := by
  refine tcp_ext rfl rfl (fun p => ?_)
  by_cases hp : p = q + i
  · subst hp
    rw [pa_s, wrl_i (by rw [List.getElem?_set, if_pos rfl, if_pos hi])]
  · rw [pa_n hp]
    show (if q ≤ p then _ else _) = (if q ≤ p then _ else _)
    by_cases hq : q ≤ p
    · rw [if_pos hq, if_pos hq, List.getElem?_set, if_neg (by omega)]
    · rw [if_neg hq, if_neg hq]
theorem wrl_p0 : tm_put (wrl h q (c0 :: cs)) q e = wrl h q (e :: cs) := wrl_p (i := 0) (Nat.succ_pos _)
theorem wrl_p1 : tm_put (wrl h q (c0 :: c1 :: cs)) (q + 1) e = wrl h q (c0 :: e :: cs) := wrl_p (i := 1) (by simp)
theorem wrl_p2 : tm_put (wrl h q (c0 :: c1 :: c2 :: cs)) (q + 2) e = wrl h q (c0 :: c1 :: e :: cs) := wrl_p (i := 2) (by simp)
theorem wrl_p3 : tm_put (wrl h q (c0 :: c1 :: c2 :: c3 :: cs)) (q + 3) e = wrl h q (c0 :: c1 :: c2 :: e :: cs) := wrl_p (i := 3) (by simp)
theorem wrl_p4 : tm_put (wrl h q (c0 :: c1 :: c2 :: c3 :: c4 :: cs)) (q + 4) e = wrl h q (c0 :: c1 :: c2 :: c3 :: e :: cs) := wrl_p (i := 4) (by simp)
theorem wrl_w {cs' : List tm_E} (hl : cs.length = cs'.length) : wrl (wrl h q cs) q cs' = wrl h q cs' := by
  refine tcp_ext rfl rfl (fun p => ?_)
  show (if q ≤ p then _ else _) = (if q ≤ p then _ else _)
  by_cases hq : q ≤ p
  · rw [if_pos hq, if_pos hq]
    cases hc : cs'[p - q]? with
    | some x => rfl
    | none =>
      have := List.getElem?_eq_none_iff.mp hc
      exact wrl_o (Or.inr (by omega))
  · rw [if_neg hq, if_neg hq]
    exact wrl_o (Or.inl (by omega))
theorem wrl_eta (hh : ∀ i x, cs[i]? = some x → h.2.2 (q + i) = x) : wrl h q cs = h := by
  refine tcp_ext rfl rfl (fun p => ?_)
  show (if q ≤ p then _ else _) = _
  split
  · rename_i hq
    cases hc : cs[p - q]? with
    | none => rfl
    | some x =>
      have := hh _ _ hc
      rw [show q + (p - q) = p by omega] at this
      exact this.symm
  · rfl
end
theorem n14 : 14 < 2 ^ 31 := by decide
theorem n80 : 80 < 2 ^ 31 := by decide
theorem x_lst_n {n j : Nat} {f : Nat → Int64} {x : Int64} {φ : tm_E → Prop} (h : j < n) (hn : n < 2 ^ 31) : x_lst (.inl (3, n, .inr (.inl f))) (nI j) x φ ↔ φ (.inl (3, n, .inr (.inl (vp_updL f j x)))) := by
  have h1 := nI_in h hn
  have h2 := nI_clamp (n := j) (by omega)
  rw [h2] at h1
  show (¬ (nI j < 0 ∨ n ≤ (nI j).toNatClampNeg) ∧ φ (.inl (3, n, .inr (.inl (vp_updL f (nI j).toNatClampNeg x))))) ↔ _
  rw [h2]
  exact ⟨fun q => q.2, fun q => ⟨h1, q⟩⟩
theorem x_lld_n {n j : Nat} {f : Nat → Int64} {φ : Int64 → Prop} (h : j < n) (hn : n < 2 ^ 31) : x_lld (.inl (3, n, .inr (.inl f))) (nI j) φ ↔ φ (f j) := by
  have h1 := nI_in h hn
  have h2 := nI_clamp (n := j) (by omega)
  rw [h2] at h1
  show (¬ (nI j < 0 ∨ n ≤ (nI j).toNatClampNeg) ∧ φ (f (nI j).toNatClampNeg)) ↔ _
  rw [h2]
  exact ⟨fun q => q.2, fun q => ⟨h1, q⟩⟩
theorem x_cld_n {n j : Nat} {f : Nat → Int32} {φ : Int32 → Prop} (h : j < n) (hn : n < 2 ^ 31) : x_cld (.inl (2, n, .inl f)) (nI j) φ ↔ φ (f j) := by
  have h1 := nI_in h hn
  have h2 := nI_clamp (n := j) (by omega)
  rw [h2] at h1
  show (¬ (nI j < 0 ∨ n ≤ (nI j).toNatClampNeg) ∧ φ (f (nI j).toNatClampNeg)) ↔ _
  rw [h2]
  exact ⟨fun q => q.2, fun q => ⟨h1, q⟩⟩
theorem x_cst_n {n j : Nat} {f : Nat → Int32} {x : Int32} {φ : tm_E → Prop} (h : j < n) (hn : n < 2 ^ 31) : x_cst (.inl (2, n, .inl f)) (nI j) x φ ↔ φ (.inl (2, n, .inl (upd f j (vp_nar .char x)))) := by
  have h1 := nI_in h hn
  have h2 := nI_clamp (n := j) (by omega)
  rw [h2] at h1
  show (¬ (nI j < 0 ∨ n ≤ (nI j).toNatClampNeg) ∧ φ (.inl (2, n, .inl (upd f (nI j).toNatClampNeg (vp_nar .char x))))) ↔ _
  rw [h2]
  exact ⟨fun q => q.2, fun q => ⟨h1, q⟩⟩
abbrev nuc (q : Nat) (c : Int32) (F : Nat → Int64) : List tm_E := [.inr (5, [.ref (q + 1), .int c]), .inl (3, 14, .inr (.inl F))]
section
variable {sa : g_SA} {sc : Nat × Nat × (Nat → Int32)} {xt : Nat → Nat → List Value → tm_H → Option (Option Value × tm_H)} {d : Nat} {h : tm_H} {Q : Option Value → tm_H → Prop}
variable {q c : Nat} {F : Nat → Int64} {z : Int32}
theorem nu_clear : tm_D (g_G sa sc xt) d 36 [.ref q] (wrl h q (nuc q z F)) Q ↔ Q none (wrl h q (nuc q 0 F)) := by
  rw [e_36]
  simp only [s_36_0, s_36_1, s_36_2, s_36_5, wrl_0]
  rw [x_set_i (Nat.le_of_ble_eq_true rfl) rfl rfl]
  simp only [List.set_cons_succ, List.set_cons_zero, wrl_p0]
theorem nu_add (hc : c < 14) (x : Int64) : tm_D (g_G sa sc xt) d 37 [.ref q, .long x] (wrl h q (nuc q (nI c) F)) Q ↔ Q none (wrl h q (nuc q (nI (c + 1)) (vp_updL F c x))) := by
  have c1 : ¬ Int32.ofNat 14 ≤ nI c := nI_ge hc n14
  rw [e_37]
  simp only [s_37_0, s_37_1, s_37_4, s_37_5, s_37_8, s_37_9, s_37_12, s_37_13, s_37_16, s_37_17, s_37_20, s_37_21, s_37_22, s_37_23, s_37_24, s_37_27, s_37_28, s_37_29, s_37_32, wrl_0, wrl_1, x_get_i, List.getElem?_cons_succ, List.getElem?_cons_zero, x_len_i (show 3 < 6 by decide), c1, if_false, x_lst_n hc n14, wrl_p1]
  rw [x_set_i (Nat.le_of_ble_eq_true rfl) rfl rfl]
  simp only [List.set_cons_succ, List.set_cons_zero, wrl_p0, nI_1]
theorem nu_tell1 (x : Int64) : tm_D (g_G sa sc xt) (d + 1) 38 [.ref q, .long x] (wrl h q (nuc q z F)) Q ↔ Q none (wrl h q (nuc q 1 (vp_updL F 0 x))) := by
  rw [e_38]
  simp only [s_38_0, s_38_1, s_38_4, s_38_5, s_38_6, s_38_9, wrl_0, x_cv_i x_cs0, nu_clear, Option.toList_none, List.nil_append]
  rw [← nI_0, nu_add (by decide)]
  simp only [Option.toList_none, List.nil_append, s_38_0, s_38_1, s_38_4, s_38_5, s_38_6, s_38_9]
  exact Iff.rfl
theorem nu_tell2 (x y : Int64) : tm_D (g_G sa sc xt) (d + 2) 39 [.ref q, .long x, .long y] (wrl h q (nuc q z F)) Q ↔ Q none (wrl h q (nuc q 2 (vp_updL (vp_updL F 0 x) 1 y))) := by
  rw [e_39]
  simp only [s_39_0, s_39_1, s_39_4, s_39_5, s_39_6, s_39_9, s_39_10, s_39_11, s_39_14, wrl_0, x_cv_i x_cs0, nu_clear, Option.toList_none, List.nil_append]
  rw [← nI_0, nu_add (by decide)]
  simp only [Option.toList_none, List.nil_append, s_39_0, s_39_1, s_39_4, s_39_5, s_39_6, s_39_9, s_39_10, s_39_11, s_39_14, wrl_0, x_cv_i x_cs0]
  rw [nu_add (c := 0 + 1) (by decide)]
  simp only [Option.toList_none, List.nil_append, s_39_0, s_39_1, s_39_4, s_39_5, s_39_6, s_39_9, s_39_10, s_39_11, s_39_14]
  exact Iff.rfl
theorem nu_tell3 (x y w : Int64) : tm_D (g_G sa sc xt) (d + 3) 40 [.ref q, .long x, .long y, .long w] (wrl h q (nuc q z F)) Q ↔ Q none (wrl h q (nuc q 3 (vp_updL (vp_updL (vp_updL F 0 x) 1 y) 2 w))) := by
  rw [e_40]
  simp only [s_40_0, s_40_1, s_40_4, s_40_5, s_40_6, s_40_9, s_40_10, s_40_11, s_40_14, s_40_15, s_40_17, s_40_20, wrl_0, x_cv_i x_cs0, nu_clear, Option.toList_none, List.nil_append]
  rw [← nI_0, nu_add (by decide)]
  simp only [Option.toList_none, List.nil_append, s_40_0, s_40_1, s_40_4, s_40_5, s_40_6, s_40_9, s_40_10, s_40_11, s_40_14, s_40_15, s_40_17, s_40_20, wrl_0, x_cv_i x_cs0]
  rw [nu_add (c := 0 + 1) (by decide)]
  simp only [Option.toList_none, List.nil_append, s_40_0, s_40_1, s_40_4, s_40_5, s_40_6, s_40_9, s_40_10, s_40_11, s_40_14, s_40_15, s_40_17, s_40_20, wrl_0, x_cv_i x_cs0]
  rw [nu_add (c := 0 + 1 + 1) (by decide)]
  simp only [Option.toList_none, List.nil_append, s_40_0, s_40_1, s_40_4, s_40_5, s_40_6, s_40_9, s_40_10, s_40_11, s_40_14, s_40_15, s_40_17, s_40_20]
  exact Iff.rfl
theorem nu_size : tm_D (g_G sa sc xt) d 41 [.ref q] (wrl h q (nuc q z F)) Q ↔ Q (some (.int z)) (wrl h q (nuc q z F)) := by
  rw [e_41]
  simp only [s_41_0, s_41_1, s_41_4, wrl_0, x_get_i, List.getElem?_cons_succ, List.getElem?_cons_zero]
theorem nu_has (i : Int32) : tm_D (g_G sa sc xt) d 42 [.ref q, .int i] (wrl h q (nuc q z F)) Q ↔ Q (some (.int (if i < 0 then 0 else if z ≤ i then 0 else 1))) (wrl h q (nuc q z F)) := by
  rw [e_42]
  simp only [s_42_0, s_42_1, s_42_4, s_42_5, s_42_6, s_42_9, s_42_12, s_42_13, s_42_16, s_42_17, wrl_0, x_get_i, List.getElem?_cons_succ, List.getElem?_cons_zero, nb0, nb1, true_and]
  by_cases c1 : i < 0
  · simp only [c1, if_true]
  · by_cases c2 : z ≤ i
    · simp only [c1, c2, if_true, if_false]
    · simp only [c1, c2, if_false]
theorem nu_at {i : Nat} (hi : i < c) (hc : c ≤ 14) : tm_D (g_G sa sc xt) (d + 1) 43 [.ref q, .int (nI i)] (wrl h q (nuc q (nI c) F)) Q ↔ Q (some (.long (F i))) (wrl h q (nuc q (nI c) F)) := by
  have c1 : ¬ nI i < 0 := nI_pos (by omega)
  have c2 : ¬ nI c ≤ nI i := nI_ge hi (by omega)
  have c3 : ¬ (1 : Int32) = 0 := by decide
  rw [e_43]
  simp only [s_43_0, s_43_1, s_43_2, s_43_5, s_43_8, s_43_9, s_43_12, s_43_13, s_43_14, s_43_17, s_43_18, wrl_0, wrl_1, x_cv_i x_cs0, nu_has, c1, c2, c3, if_false, x_get_i, List.getElem?_cons_succ, List.getElem?_cons_zero, x_lld_n (show i < 14 by omega) n14, Option.toList_some, List.cons_append, List.nil_append]
end
abbrev txc (q : Nat) (c : Int32) (F : Nat → Int32) : List tm_E := [.inr (8, [.ref (q + 1), .int c]), .inl (2, 80, .inl F)]
/-- a sign, 0 outside -/
def txa (F : Nat → Int32) (c : Nat) (p : Int32) : Int32 := if p < 0 then 0 else if nI c ≤ p then 0 else F p.toNatClampNeg
/-- kinds of signs -/
def txs (k x : Int32) : Int32 := if k = 108 then (if x < 97 then 0 else if 104 < x then 0 else 1) else if k = 100 then (if x < 48 then 0 else if 57 < x then 0 else 1) else if k = 98 then (if x < 48 then 0 else if 55 < x then 0 else 1) else if k = 115 then (if x = 43 then 1 else if x = 45 then 1 else 0) else 0
section
variable {sa : g_SA} {sc : Nat × Nat × (Nat → Int32)} {xt : Nat → Nat → List Value → tm_H → Option (Option Value × tm_H)} {d : Nat} {h : tm_H} {Q : Option Value → tm_H → Prop}
variable {q c : Nat} {F : Nat → Int32} {z : Int32}
theorem tx_clear : tm_D (g_G sa sc xt) d 66 [.ref q] (wrl h q (txc q z F)) Q ↔ Q none (wrl h q (txc q 0 F)) := by
  rw [e_66]
  simp only [s_66_0, s_66_1, s_66_2, s_66_5, wrl_0]
  rw [x_set_i (Nat.le_of_ble_eq_true rfl) rfl rfl]
  simp only [List.set_cons_succ, List.set_cons_zero, wrl_p0]
theorem tx_size : tm_D (g_G sa sc xt) d 67 [.ref q] (wrl h q (txc q z F)) Q ↔ Q (some (.int z)) (wrl h q (txc q z F)) := by
  rw [e_67]
  simp only [s_67_0, s_67_1, s_67_4, wrl_0, x_get_i, List.getElem?_cons_succ, List.getElem?_cons_zero]
theorem tx_at (hc : c ≤ 80) (p : Int32) : tm_D (g_G sa sc xt) d 68 [.ref q, .int p] (wrl h q (txc q (nI c) F)) Q ↔ Q (some (.int (txa F c p))) (wrl h q (txc q (nI c) F)) := by
  rw [e_68]
  simp only [s_68_0, s_68_1, s_68_4, s_68_5, s_68_6, s_68_9, s_68_12, s_68_13, s_68_16, s_68_17, s_68_18, s_68_21, s_68_22, wrl_0, wrl_1, x_get_i, List.getElem?_cons_succ, List.getElem?_cons_zero]
  unfold txa
  by_cases c1 : p < 0
  · simp only [c1, if_true]
  · by_cases c2 : nI c ≤ p
    · simp only [c1, c2, if_true, if_false]
    · obtain ⟨j, hj, rfl⟩ := nI_of c1
      have hjc : j < c := Nat.not_le.mp fun e => c2 (nI_le e hj)
      simp only [c1, c2, if_false, x_cld_n (show j < 80 by omega) n80, nI_clamp hj]
theorem tx_letterAt (hc : c ≤ 80) (p : Int32) : tm_D (g_G sa sc xt) (d + 1) 69 [.ref q, .int p] (wrl h q (txc q (nI c) F)) Q ↔ Q (some (.int (txa F c p - 97))) (wrl h q (txc q (nI c) F)) := by
  rw [e_69]
  simp only [s_69_0, s_69_1, s_69_2, s_69_5, s_69_7, s_69_8, wrl_0, x_cv_i x_cs0, tx_at hc, Option.toList_some, List.cons_append, List.nil_append]
theorem tx_digitAt (hc : c ≤ 80) (p : Int32) : tm_D (g_G sa sc xt) (d + 1) 70 [.ref q, .int p] (wrl h q (txc q (nI c) F)) Q ↔ Q (some (.int (txa F c p - 48))) (wrl h q (txc q (nI c) F)) := by
  rw [e_70]
  simp only [s_70_0, s_70_1, s_70_2, s_70_5, s_70_7, s_70_8, wrl_0, x_cv_i x_cs0, tx_at hc, Option.toList_some, List.cons_append, List.nil_append]
theorem tx_twoDigitsAt (hc : c ≤ 80) (p : Int32) : tm_D (g_G sa sc xt) (d + 2) 71 [.ref q, .int p] (wrl h q (txc q (nI c) F)) Q ↔ Q (some (.int (10 * (txa F c p - 48) + (txa F c (p + 1) - 48)))) (wrl h q (txc q (nI c) F)) := by
  rw [e_71]
  simp only [s_71_0, s_71_2, s_71_3, s_71_4, s_71_7, s_71_8, s_71_9, s_71_10, s_71_11, s_71_12, s_71_15, s_71_16, wrl_0, x_cv_i x_cs0, x_cv_i cs1, tx_digitAt hc, Option.toList_some, List.cons_append, List.nil_append]
theorem tx_signedDigitAt (hc : c ≤ 80) (p : Int32) : tm_D (g_G sa sc xt) (d + 2) 72 [.ref q, .int p] (wrl h q (txc q (nI c) F)) Q ↔ Q (some (.int (if txa F c p = 45 then -(txa F c (p + 1) - 48) else txa F c (p + 1) - 48))) (wrl h q (txc q (nI c) F)) := by
  rw [e_72]
  simp only [s_72_0, s_72_1, s_72_2, s_72_5, s_72_7, s_72_10, s_72_11, s_72_12, s_72_13, s_72_14, s_72_17, s_72_18, s_72_21, s_72_22, s_72_23, s_72_24, s_72_25, s_72_28, wrl_0, x_cv_i x_cs0, tx_at hc, tx_digitAt hc, Option.toList_some, List.cons_append, List.nil_append]
  by_cases c1 : txa F c p = 45
  · simp only [c1, if_true]
  · simp only [c1, if_false]
theorem tx_cut (hc : c ≤ 80) (p : Int32) : tm_D (g_G sa sc xt) d 65 [.ref q, .int p] (wrl h q (txc q (nI c) F)) Q ↔ if p < 0 then Q (some (.int 0)) (wrl h q (txc q (nI c) F)) else if nI c < p then Q (some (.int 0)) (wrl h q (txc q (nI c) F)) else Q (some (.int 1)) (wrl h q (txc q p F)) := by
  rw [e_65]
  simp only [s_65_0, s_65_1, s_65_4, s_65_5, s_65_6, s_65_9, s_65_12, s_65_13, s_65_14, s_65_15, s_65_16, s_65_19, s_65_20, wrl_0, x_get_i, List.getElem?_cons_succ, List.getElem?_cons_zero, nb0, nb1, true_and]
  by_cases c1 : p < 0
  · simp only [c1, if_true]
  · by_cases c2 : nI c < p
    · simp only [c1, c2, if_true, if_false, show ¬ p ≤ nI c from Int32.not_le.mpr c2]
    · simp only [c1, c2, if_false, show p ≤ nI c from Int32.not_lt.mp c2, if_true]
      rw [x_set_i (Nat.le_of_ble_eq_true rfl) rfl rfl]
      simp only [List.set_cons_succ, List.set_cons_zero, wrl_p0]
end
