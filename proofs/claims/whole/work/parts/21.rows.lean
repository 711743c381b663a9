/-! rows for plain proofs: what each instruction asks, as an equation -/
def x_get (e : tm_E) (ci k : Nat) (φ : Value → Prop) : Prop := match e with
  | .inr (c, fs) => c = ci ∧ (match fs[k]? with
    | some v => φ v
    | none => False)
  | _ => False
def x_set (e : tm_E) (ci k : Nat) (ty : FieldType) (v : Value) (φ : tm_E → Prop) : Prop := match e with
  | .inr (c, fs) => (c = ci ∧ k < fs.length ∧ narrow ty v = v ∧ fits ty v = true) ∧ φ (.inr (ci, fs.set k v))
  | _ => False
def x_ild (e : tm_E) (i : Int32) (φ : Int32 → Prop) : Prop := match e with
  | .inl (0, n, .inl f) => ¬ (i < 0 ∨ n ≤ i.toNatClampNeg) ∧ φ (f i.toNatClampNeg)
  | _ => False
def x_bld (e : tm_E) (i : Int32) (φ : Int32 → Prop) : Prop := match e with
  | .inl (1, n, .inl f) => ¬ (i < 0 ∨ n ≤ i.toNatClampNeg) ∧ φ (f i.toNatClampNeg)
  | .inl (4, n, .inl f) => ¬ (i < 0 ∨ n ≤ i.toNatClampNeg) ∧ φ (f i.toNatClampNeg)
  | _ => False
def x_cld (e : tm_E) (i : Int32) (φ : Int32 → Prop) : Prop := match e with
  | .inl (2, n, .inl f) => ¬ (i < 0 ∨ n ≤ i.toNatClampNeg) ∧ φ (f i.toNatClampNeg)
  | _ => False
def x_lld (e : tm_E) (i : Int32) (φ : Int64 → Prop) : Prop := match e with
  | .inl (3, n, .inr (.inl f)) => ¬ (i < 0 ∨ n ≤ i.toNatClampNeg) ∧ φ (f i.toNatClampNeg)
  | _ => False
def x_ald (e : tm_E) (i : Int32) (φ : Value → Prop) : Prop := match e with
  | .inl (5, n, .inr (.inr (.inr (.inr f)))) => ¬ (i < 0 ∨ n ≤ i.toNatClampNeg) ∧ φ (va_rf (f i.toNatClampNeg))
  | _ => False
def x_ist (e : tm_E) (i x : Int32) (φ : tm_E → Prop) : Prop := match e with
  | .inl (0, n, .inl f) => ¬ (i < 0 ∨ n ≤ i.toNatClampNeg) ∧ φ (.inl (0, n, .inl (upd f i.toNatClampNeg x)))
  | _ => False
def x_bst (e : tm_E) (i x : Int32) (φ : tm_E → Prop) : Prop := match e with
  | .inl (1, n, .inl f) => ¬ (i < 0 ∨ n ≤ i.toNatClampNeg) ∧ φ (.inl (1, n, .inl (upd f i.toNatClampNeg (vp_nar .byte x))))
  | .inl (4, n, .inl f) => ¬ (i < 0 ∨ n ≤ i.toNatClampNeg) ∧ φ (.inl (4, n, .inl (upd f i.toNatClampNeg (vp_nar .boolean x))))
  | _ => False
def x_cst (e : tm_E) (i x : Int32) (φ : tm_E → Prop) : Prop := match e with
  | .inl (2, n, .inl f) => ¬ (i < 0 ∨ n ≤ i.toNatClampNeg) ∧ φ (.inl (2, n, .inl (upd f i.toNatClampNeg (vp_nar .char x))))
  | _ => False
def x_lst (e : tm_E) (i : Int32) (x : Int64) (φ : tm_E → Prop) : Prop := match e with
  | .inl (3, n, .inr (.inl f)) => ¬ (i < 0 ∨ n ≤ i.toNatClampNeg) ∧ φ (.inl (3, n, .inr (.inl (vp_updL f i.toNatClampNeg x))))
  | _ => False
def x_len (e : tm_E) (φ : Nat → Prop) : Prop := match e with
  | .inl (t, n, _) => t < 6 ∧ φ n
  | _ => False
def x_cv (e : tm_E) (ci n : Nat) (P : Prop) : Prop := match e with
  | .inr (c, _) => c = ci ∧ n ≤ 8 ∧ P
  | _ => False
def x_cs (e : tm_E) (o : Nat) (sa : Nat → Nat) (n : Nat) (P : Prop) : Prop := match e with
  | .inr (c, _) => c = 200 ∧ n ≤ 8 ∧ P
  | .inl (100, j, _) => (o = sa j ∧ j < 13) ∧ n ≤ 8 ∧ P
  | _ => False
def x_gsf (e : tm_E) (o : Nat) (sa : Nat → Nat) (φ : Nat → Prop) : Prop := match e with
  | .inl (100, j, _) => (o = sa j ∧ j < 13) ∧ φ j
  | _ => False
def x_sal (e : tm_E) (o : Nat) (sv : Nat → Nat) (φ : Nat → Prop) : Prop := match e with
  | .inl (102, j, _) => (o = sv j ∧ j < 13) ∧ φ j
  | _ => False
section XR
variable {G : tm_G} {d M pc pc' : Nat} {ls st : List Value} {h : tm_H} {Q : Option Value → tm_H → Prop}
theorem x_Y_if {c : Prop} (dc : Decidable c) {a b : Option tm_O} : tm_Y G d M pc ls h Q (if c then a else b) ↔ if c then tm_Y G d M pc ls h Q a else tm_Y G d M pc ls h Q b := by
  split <;> exact Iff.rfl
theorem x_get_e {o ci k : Nat} : tm_Y G d M pc ls h Q (tm_get ci k pc' ls (.ref o :: st) h) ↔ x_get (h.2.2 o) ci k (fun v => tm_X G d M (pc' + 3) ls (v :: st) h Q) := by
  simp only [tm_get, x_get]
  cases h.2.2 o with
  | inl q => exact Iff.rfl
  | inr q =>
    obtain ⟨c, fs⟩ := q
    dsimp only
    by_cases hc : c = ci
    · simp only [hc, if_true, true_and]
      cases fs[k]? <;> exact Iff.rfl
    · simp only [hc, if_false, false_and]
      exact Iff.rfl
theorem x_gs0_e {o : Nat} : tm_Y G d M pc ls h Q (tm_gsf G 0 pc' ls (.ref o :: st) h) ↔ x_gsf (h.2.2 o) o (tm_sa G) (fun j => tm_X G d M (pc' + 3) ls (.ref (tm_sv G j) :: st) h Q) := by
  simp only [tm_gsf, x_gsf]
  split
  · rename_i j q heq
    simp only [heq]
    split
    · rename_i hc; simp only [hc, and_self, true_and]; exact Iff.rfl
    · rename_i hc; simp only [hc, false_and]; exact Iff.rfl
  · rename_i h1
    split
    · rename_i j q heq
      exact absurd heq (h1 j q)
    · exact Iff.rfl
theorem x_gs1_e {o : Nat} : tm_Y G d M pc ls h Q (tm_gsf G 1 pc' ls (.ref o :: st) h) ↔ x_gsf (h.2.2 o) o (tm_sa G) (fun _ => tm_X G d M (pc' + 3) ls (.int 0 :: st) h Q) := by
  simp only [tm_gsf, x_gsf]
  split
  · rename_i j q heq
    simp only [heq]
    split
    · rename_i hc; simp only [hc, and_self, true_and]; exact Iff.rfl
    · rename_i hc; simp only [hc, false_and]; exact Iff.rfl
  · rename_i h1
    split
    · rename_i j q heq
      exact absurd heq (h1 j q)
    · exact Iff.rfl
theorem x_sal_e {o : Nat} : tm_Y G d M pc ls h Q (tm_sal G pc' ls (.ref o :: st) h) ↔ x_sal (h.2.2 o) o (tm_sv G) (fun j => tm_X G d M (pc' + 1) ls (.int (Int32.ofNat (tm_sb G j).length) :: st) h Q) := by
  simp only [tm_sal, x_sal]
  split
  · rename_i j q heq
    simp only [heq]
    split
    · rename_i hc; simp only [hc, and_self, true_and]; exact Iff.rfl
    · rename_i hc; simp only [hc, false_and]; exact Iff.rfl
  · rename_i h1
    split
    · rename_i j q heq
      exact absurd heq (h1 j q)
    · exact Iff.rfl
theorem x_sbl_e {o : Nat} {i : Int32} : tm_Y G d M pc ls h Q (tm_sbl G pc' ls (.int i :: .ref o :: st) h) ↔ x_sal (h.2.2 o) o (tm_sv G) (fun j => ¬ (i < 0 ∨ (tm_sb G j).length ≤ i.toNatClampNeg) ∧ tm_X G d M (pc' + 1) ls (.int ((tm_sb G j).getD i.toNatClampNeg 0) :: st) h Q) := by
  simp only [tm_sbl, x_sal]
  split
  · rename_i j q heq
    simp only [heq]
    split
    · rename_i hc; simp only [hc.1, hc.2, not_false_eq_true, and_self, true_and]; exact Iff.rfl
    · rename_i hc
      constructor
      · exact fun q => q.elim
      · rintro ⟨q1, q2, -⟩
        exact absurd ⟨q1, q2⟩ hc
  · rename_i h1
    split
    · rename_i j q heq
      exact absurd heq (h1 j q)
    · exact Iff.rfl
theorem x_set_e {o ci k : Nat} {v : Value} : tm_Y G d M pc ls h Q (tm_set G ci k pc' ls (v :: .ref o :: st) h) ↔ x_set (h.2.2 o) ci k (tm_fy G ci k) v (fun e => tm_X G d M (pc' + 3) ls st (tm_put h o e) Q) := by
  simp only [tm_set, x_set]
  cases h.2.2 o with
  | inl q => exact Iff.rfl
  | inr q =>
    obtain ⟨c, fs⟩ := q
    dsimp only
    split
    · rename_i hc
      simp only [hc, and_self, true_and]
      exact Iff.rfl
    · rename_i hc
      simp only [hc, false_and]
      exact Iff.rfl
theorem x_ild_e {o : Nat} {i : Int32} : tm_Y G d M pc ls h Q (tm_ild pc' ls (.int i :: .ref o :: st) h) ↔ x_ild (h.2.2 o) i (fun v => tm_X G d M (pc' + 1) ls (.int v :: st) h Q) := by
  simp only [tm_ild, x_ild]
  split
  · rename_i n f heq
    simp only [heq]
    split
    · rename_i hc; simp only [hc, not_true, false_and]; exact Iff.rfl
    · rename_i hc; simp only [hc, not_false_eq_true, true_and]; exact Iff.rfl
  · rename_i h1
    split
    · rename_i n f heq
      exact absurd heq (h1 n f)
    · exact Iff.rfl
theorem x_len_e {o : Nat} : tm_Y G d M pc ls h Q (tm_aln pc' ls (.ref o :: st) h) ↔ x_len (h.2.2 o) (fun n => tm_X G d M (pc' + 1) ls (.int (Int32.ofNat n) :: st) h Q) := by
  simp only [tm_aln, x_len]
  cases h.2.2 o with
  | inr q => exact Iff.rfl
  | inl q =>
    obtain ⟨t, n, f⟩ := q
    dsimp only
    by_cases ht : t < 6
    · simp only [ht, if_true, true_and]; exact Iff.rfl
    · simp only [ht, if_false, false_and]; exact Iff.rfl
theorem x_bld_e {o : Nat} {i : Int32} : tm_Y G d M pc ls h Q (tm_bld pc' ls (.int i :: .ref o :: st) h) ↔ x_bld (h.2.2 o) i (fun v => tm_X G d M (pc' + 1) ls (.int v :: st) h Q) := by
  simp only [tm_bld, x_bld]
  split
  · rename_i n f heq
    simp only [heq]
    split
    · rename_i hc; simp only [hc, not_true, false_and]; exact Iff.rfl
    · rename_i hc; simp only [hc, not_false_eq_true, true_and]; exact Iff.rfl
  · rename_i n f heq
    simp only [heq]
    split
    · rename_i hc; simp only [hc, not_true, false_and]; exact Iff.rfl
    · rename_i hc; simp only [hc, not_false_eq_true, true_and]; exact Iff.rfl
  · rename_i h1 h2
    split
    · rename_i n f heq
      exact absurd heq (h1 n f)
    · rename_i n f heq
      exact absurd heq (h2 n f)
    · exact Iff.rfl
theorem x_cld_e {o : Nat} {i : Int32} : tm_Y G d M pc ls h Q (tm_cld pc' ls (.int i :: .ref o :: st) h) ↔ x_cld (h.2.2 o) i (fun v => tm_X G d M (pc' + 1) ls (.int v :: st) h Q) := by
  simp only [tm_cld, x_cld]
  split
  · rename_i n f heq
    simp only [heq]
    split
    · rename_i hc; simp only [hc, not_true, false_and]; exact Iff.rfl
    · rename_i hc; simp only [hc, not_false_eq_true, true_and]; exact Iff.rfl
  · rename_i h1
    split
    · rename_i n f heq
      exact absurd heq (h1 n f)
    · exact Iff.rfl
theorem x_lld_e {o : Nat} {i : Int32} : tm_Y G d M pc ls h Q (tm_lld pc' ls (.int i :: .ref o :: st) h) ↔ x_lld (h.2.2 o) i (fun v => tm_X G d M (pc' + 1) ls (.long v :: st) h Q) := by
  simp only [tm_lld, x_lld]
  split
  · rename_i n f heq
    simp only [heq]
    split
    · rename_i hc; simp only [hc, not_true, false_and]; exact Iff.rfl
    · rename_i hc; simp only [hc, not_false_eq_true, true_and]; exact Iff.rfl
  · rename_i h1
    split
    · rename_i n f heq
      exact absurd heq (h1 n f)
    · exact Iff.rfl
theorem x_ald_e {o : Nat} {i : Int32} : tm_Y G d M pc ls h Q (tm_ald pc' ls (.int i :: .ref o :: st) h) ↔ x_ald (h.2.2 o) i (fun v => tm_X G d M (pc' + 1) ls (v :: st) h Q) := by
  simp only [tm_ald, x_ald]
  split
  · rename_i n f heq
    simp only [heq]
    split
    · rename_i hc; simp only [hc, not_true, false_and]; exact Iff.rfl
    · rename_i hc; simp only [hc, not_false_eq_true, true_and]; exact Iff.rfl
  · rename_i h1
    split
    · rename_i n f heq
      exact absurd heq (h1 n f)
    · exact Iff.rfl
theorem x_ist_e {o : Nat} {i x : Int32} : tm_Y G d M pc ls h Q (tm_isr pc' ls (.int x :: .int i :: .ref o :: st) h) ↔ x_ist (h.2.2 o) i x (fun e => tm_X G d M (pc' + 1) ls st (tm_put h o e) Q) := by
  simp only [tm_isr, x_ist]
  split
  · rename_i n f heq
    simp only [heq]
    split
    · rename_i hc; simp only [hc, not_true, false_and]; exact Iff.rfl
    · rename_i hc; simp only [hc, not_false_eq_true, true_and]; exact Iff.rfl
  · rename_i h1
    split
    · rename_i n f heq
      exact absurd heq (h1 n f)
    · exact Iff.rfl
theorem x_bst_e {o : Nat} {i x : Int32} : tm_Y G d M pc ls h Q (tm_bsr pc' ls (.int x :: .int i :: .ref o :: st) h) ↔ x_bst (h.2.2 o) i x (fun e => tm_X G d M (pc' + 1) ls st (tm_put h o e) Q) := by
  simp only [tm_bsr, x_bst]
  split
  · rename_i n f heq
    simp only [heq]
    split
    · rename_i hc; simp only [hc, not_true, false_and]; exact Iff.rfl
    · rename_i hc; simp only [hc, not_false_eq_true, true_and]; exact Iff.rfl
  · rename_i n f heq
    simp only [heq]
    split
    · rename_i hc; simp only [hc, not_true, false_and]; exact Iff.rfl
    · rename_i hc; simp only [hc, not_false_eq_true, true_and]; exact Iff.rfl
  · rename_i h1 h2
    split
    · rename_i n f heq
      exact absurd heq (h1 n f)
    · rename_i n f heq
      exact absurd heq (h2 n f)
    · exact Iff.rfl
theorem x_cst_e {o : Nat} {i x : Int32} : tm_Y G d M pc ls h Q (tm_csr pc' ls (.int x :: .int i :: .ref o :: st) h) ↔ x_cst (h.2.2 o) i x (fun e => tm_X G d M (pc' + 1) ls st (tm_put h o e) Q) := by
  simp only [tm_csr, x_cst]
  split
  · rename_i n f heq
    simp only [heq]
    split
    · rename_i hc; simp only [hc, not_true, false_and]; exact Iff.rfl
    · rename_i hc; simp only [hc, not_false_eq_true, true_and]; exact Iff.rfl
  · rename_i h1
    split
    · rename_i n f heq
      exact absurd heq (h1 n f)
    · exact Iff.rfl
theorem x_lst_e {o : Nat} {i : Int32} {x : Int64} : tm_Y G d M pc ls h Q (tm_lsr pc' ls (.long x :: .int i :: .ref o :: st) h) ↔ x_lst (h.2.2 o) i x (fun e => tm_X G d M (pc' + 1) ls st (tm_put h o e) Q) := by
  simp only [tm_lsr, x_lst]
  split
  · rename_i n f heq
    simp only [heq]
    split
    · rename_i hc; simp only [hc, not_true, false_and]; exact Iff.rfl
    · rename_i hc; simp only [hc, not_false_eq_true, true_and]; exact Iff.rfl
  · rename_i h1
    split
    · rename_i n f heq
      exact absurd heq (h1 n f)
    · exact Iff.rfl
theorem x_cv_e {o a b : Nat} {as : List Value} (ha : a < 1000) (hn : ¬ (tm_mt G a).2.2.2.2 = 200) (hp : tm_pop b (as.reverse ++ .ref o :: st) = (as, .ref o :: st)) (hl : as.length = b) : tm_Y G (d + 1) M pc ls h Q (tm_cv G a b (as.reverse ++ .ref o :: st) h) ↔ x_cv (h.2.2 o) (tm_mt G a).2.2.2.2 (tm_cs st) (tm_D G d a (.ref o :: as) h (fun r h' => tm_X G (d + 1) M (pc + 3) ls (r.toList ++ st) h' Q)) := by
  simp only [tm_cv, x_cv, hp, show ¬ 1000 ≤ a by omega, if_false]
  split
  · rename_i c q heq
    simp only [heq]
    by_cases hc : c = (tm_mt G a).2.2.2.2 ∧ as.length = b ∧ tm_cs st ≤ 8
    · rw [if_pos hc]
      constructor
      · exact fun q => ⟨hc.1, hc.2.2, q⟩
      · exact fun q => q.2.2
    · rw [if_neg hc]
      constructor
      · exact fun q => q.elim
      · rintro ⟨q1, q2, -⟩
        exact absurd ⟨q1, hl, q2⟩ hc
  · rename_i j q heq
    simp only [heq, hn, false_and, if_false]
    exact Iff.rfl
  · rename_i h1 h2
    split
    · rename_i c q heq
      exact absurd heq (h1 c q)
    · exact Iff.rfl
theorem x_cs_e {o a b : Nat} {as : List Value} (ha : a < 1000) (hn : (tm_mt G a).2.2.2.2 = 200) (hp : tm_pop b (as.reverse ++ .ref o :: st) = (as, .ref o :: st)) (hl : as.length = b) : tm_Y G (d + 1) M pc ls h Q (tm_cv G a b (as.reverse ++ .ref o :: st) h) ↔ x_cs (h.2.2 o) o (tm_sa G) (tm_cs st) (tm_D G d a (.ref o :: as) h (fun r h' => tm_X G (d + 1) M (pc + 3) ls (r.toList ++ st) h' Q)) := by
  simp only [tm_cv, x_cs, hp, hn, hl, show ¬ 1000 ≤ a by omega, if_false, true_and]
  split
  · rename_i c q heq
    simp only [heq]
    split
    · rename_i hc; simp only [hc, true_and, and_true, and_self]; exact Iff.rfl
    · rename_i hc
      constructor
      · exact fun q => q.elim
      · rintro ⟨q1, q2, -⟩
        exact absurd ⟨q1, q2⟩ hc
  · rename_i j q heq
    simp only [heq]
    split
    · rename_i hc; simp only [hc, true_and, and_true, and_self]; exact Iff.rfl
    · rename_i hc
      constructor
      · exact fun q => q.elim
      · rintro ⟨q1, q2, -⟩
        exact absurd ⟨q1, q2⟩ hc
  · rename_i h1 h2
    split
    · rename_i c q heq
      exact absurd heq (h1 c q)
    · rename_i c q heq
      exact absurd heq (h2 c q)
    · exact Iff.rfl
theorem x_ca_e {a b : Nat} {as : List Value} (hp : tm_pop b (as.reverse ++ st) = (as, st)) (hl : as.length = b) : tm_Y G (d + 1) M pc ls h Q (tm_ca a b (as.reverse ++ st)) ↔ tm_cs st ≤ 8 ∧ tm_D G d a as h (fun r h' => tm_X G (d + 1) M (pc + 3) ls (r.toList ++ st) h' Q) := by
  simp only [tm_ca, hp, hl, true_and]
  by_cases hc : tm_cs st ≤ 8
  · simp only [hc, if_true, true_and]; exact Iff.rfl
  · simp only [hc, if_false, false_and]; exact Iff.rfl
theorem x_ci_e {o a b : Nat} {as : List Value} (hp : tm_pop b (as.reverse ++ .ref o :: st) = (as, .ref o :: st)) (hl : as.length = b) : tm_Y G (d + 1) M pc ls h Q (tm_ci a b (as.reverse ++ .ref o :: st)) ↔ tm_cs st ≤ 8 ∧ tm_D G d a (.ref o :: as) h (fun r h' => tm_X G (d + 1) M (pc + 3) ls (r.toList ++ st) h' Q) := by
  simp only [tm_ci, hp, hl, true_and]
  by_cases hc : tm_cs st ≤ 8
  · simp only [hc, if_true, true_and]; exact Iff.rfl
  · simp only [hc, if_false, false_and]; exact Iff.rfl
theorem x_cx_e {o a b : Nat} {as : List Value} (ha : 1000 ≤ a) (hp : tm_pop b (as.reverse ++ .ref o :: st) = (as, .ref o :: st)) (hl : as.length = b) : tm_Y G (d + 1) M pc ls h Q (tm_cv G a b (as.reverse ++ .ref o :: st) h) ↔ tm_cs st ≤ 8 ∧ tm_D G d a (.ref o :: as) h (fun r h' => tm_X G (d + 1) M (pc + 3) ls (r.toList ++ st) h' Q) := by
  simp only [tm_cv, hp, ha, if_true, hl, true_and]
  by_cases hc : tm_cs st ≤ 8
  · simp only [hc, if_true, true_and]; exact Iff.rfl
  · simp only [hc, if_false, false_and]; exact Iff.rfl
theorem x_mx_e {x y : Int32} : tm_Y G (d + 1) M pc ls h Q (tm_mx (d + 1) pc' ls (.int y :: .int x :: st) h) ↔ tm_cs st ≤ 8 ∧ tm_X G (d + 1) M (pc' + 3) ls (.int (if x < y then y else x) :: st) h Q := by
  simp only [tm_mx, Nat.le_add_left, true_and]
  by_cases hc : tm_cs st ≤ 8
  · simp only [hc, if_true, true_and]; exact Iff.rfl
  · simp only [hc, if_false, false_and]; exact Iff.rfl
theorem x_mn_e {x y : Int32} : tm_Y G (d + 1) M pc ls h Q (tm_mn (d + 1) pc' ls (.int y :: .int x :: st) h) ↔ tm_cs st ≤ 8 ∧ tm_X G (d + 1) M (pc' + 3) ls (.int (if y < x then y else x) :: st) h Q := by
  simp only [tm_mn, Nat.le_add_left, true_and]
  by_cases hc : tm_cs st ≤ 8
  · simp only [hc, if_true, true_and]; exact Iff.rfl
  · simp only [hc, if_false, false_and]; exact Iff.rfl
theorem x_ab_e {x : Int32} : tm_Y G (d + 1) M pc ls h Q (tm_ab (d + 1) pc' ls (.int x :: st) h) ↔ tm_cs st ≤ 8 ∧ tm_X G (d + 1) M (pc' + 3) ls (.int (if 0 ≤ x then x else 0 - x) :: st) h Q := by
  simp only [tm_ab, Nat.le_add_left, true_and]
  by_cases hc : tm_cs st ≤ 8
  · simp only [hc, if_true, true_and]; exact Iff.rfl
  · simp only [hc, if_false, false_and]; exact Iff.rfl
theorem x_oi_e {o : Nat} : tm_Y G (d + 1) M pc ls h Q (tm_oi (d + 1) pc' ls (.ref o :: st) h) ↔ tm_cs st ≤ 8 ∧ tm_X G (d + 1) M (pc' + 3) ls st h Q := by
  simp only [tm_oi, Nat.le_add_left, true_and]
  by_cases hc : tm_cs st ≤ 8
  · simp only [hc, if_true, true_and]; exact Iff.rfl
  · simp only [hc, if_false, false_and]; exact Iff.rfl
theorem x_ri_e {a b : Nat} {v : Int32} : tm_Y G d M pc ls h Q (tm_stp G d (.ireturn, a, b) pc' ls [.int v] h) ↔ narrow (tm_rt a) (.int v) = .int v ∧ Q (some (.int v)) h := by
  simp only [tm_stp]
  by_cases hc : narrow (tm_rt a) (.int v) = .int v
  · simp only [hc, if_true, true_and]; exact Iff.rfl
  · simp only [hc, if_false, false_and]; exact Iff.rfl
theorem x_r0_e {b : Nat} {v : Int32} : tm_Y G d M pc ls h Q (tm_stp G d (.ireturn, 0, b) pc' ls [.int v] h) ↔ Q (some (.int v)) h := by
  rw [x_ri_e]
  exact ⟨fun q => q.2, fun q => ⟨rfl, q⟩⟩
def x_cp (e0 e1 : tm_E) (sp dp n : Int32) (φ : tm_E → Prop) : Prop := match e0, e1 with
  | .inl (0, n0, .inl f), .inl (0, n1, .inl g) => (¬ sp < 0 ∧ ¬ dp < 0 ∧ ¬ n < 0 ∧ sp.toNatClampNeg + n.toNatClampNeg ≤ n0 ∧ dp.toNatClampNeg + n.toNatClampNeg ≤ n1) ∧ φ (.inl (0, n1, .inl (if sp.toNatClampNeg = 0 ∧ dp.toNatClampNeg = 0 ∧ n.toNatClampNeg = n1 then f else va_cpy f g sp.toNatClampNeg dp.toNatClampNeg n.toNatClampNeg)))
  | _, _ => False
theorem x_cp_e {o b : Nat} {sp dp n : Int32} : tm_Y G (d + 1) M pc ls h Q (tm_cp (d + 1) pc' ls (.int n :: .int dp :: .ref b :: .int sp :: .ref o :: st) h) ↔ tm_cs st ≤ 8 ∧ x_cp (h.2.2 o) (h.2.2 b) sp dp n (fun e => tm_X G (d + 1) M (pc' + 3) ls st (tm_put h b e) Q) := by
  simp only [tm_cp, x_cp, Nat.le_add_left, true_and]
  split
  · rename_i n0 f n1 g h1 h2
    simp only [h1, h2]
    split
    · rename_i hc
      simp only [hc, not_false_eq_true, and_self, true_and]
      exact Iff.rfl
    · rename_i hc
      constructor
      · exact fun q => q.elim
      · rintro ⟨q1, q2, -⟩
        exact absurd ⟨q1, q2⟩ hc
  · rename_i h1
    constructor
    · exact fun q => q.elim
    · rintro ⟨-, q⟩
      split at q
      · rename_i n0 f n1 g h2 h3
        exact absurd h3 (h1 n0 f n1 g h2)
      · exact q
theorem x_k_e {v w : Int32} (e : v = w) : tm_X G d M pc ls (.int v :: st) h Q ↔ tm_X G d M pc ls (.int w :: st) h Q := by rw [e]
theorem x_kl_e {v w : Int64} (e : v = w) : tm_X G d M pc ls (.long v :: st) h Q ↔ tm_X G d M pc ls (.long w :: st) h Q := by rw [e]
theorem x_D_e {mi : Nat} {as ls' : List Value} (hm : mi < 1000 ∧ (tm_ex as).length ≤ (tm_mt G mi).2.2.1) (he : tm_ent as (tm_mt G mi).2.2.1 = ls') : tm_D G d mi as h Q ↔ tm_X G d mi 0 ls' [] h Q := by
  unfold tm_D
  rw [if_pos hm, he]
end XR
