/-! rows for runs, strings, what is left of Text -/
theorem x_cv_j {ci n : Nat} {fs : List Value} {P : Prop} : x_cv (.inr (ci, fs)) ci n P ↔ n ≤ 8 ∧ P := ⟨fun q => q.2, fun q => ⟨rfl, q⟩⟩
theorem cs_n : tm_cs [] = 0 := rfl
theorem cs_i {a : Int32} {l : List Value} : tm_cs (.int a :: l) = tm_cs l + 1 := by
  show (1 + (l.map fun v => v.category).sum) = _
  rw [Nat.add_comm]; rfl
theorem cs_r {a : Nat} {l : List Value} : tm_cs (.ref a :: l) = tm_cs l + 1 := by
  show (1 + (l.map fun v => v.category).sum) = _
  rw [Nat.add_comm]; rfl
theorem cs_l {a : Int64} {l : List Value} : tm_cs (.long a :: l) = tm_cs l + 2 := by
  show (2 + (l.map fun v => v.category).sum) = _
  rw [Nat.add_comm]; rfl
theorem x_setJ {ci k : Nat} {x : Int32} {fs : List Value} {φ : tm_E → Prop} : x_set (.inr (ci, fs)) ci k .int (.int x) φ ↔ k < fs.length ∧ φ (.inr (ci, fs.set k (.int x))) := ⟨fun q => ⟨q.1.2.1, q.2⟩, fun q => ⟨⟨rfl, q.1, rfl, rfl⟩, q.2⟩⟩
theorem x_setZ0 {ci k : Nat} {fs : List Value} {φ : tm_E → Prop} : x_set (.inr (ci, fs)) ci k .boolean (.int 0) φ ↔ k < fs.length ∧ φ (.inr (ci, fs.set k (.int 0))) := ⟨fun q => ⟨q.1.2.1, q.2⟩, fun q => ⟨⟨rfl, q.1, nb0, rfl⟩, q.2⟩⟩
theorem x_setZ1 {ci k : Nat} {fs : List Value} {φ : tm_E → Prop} : x_set (.inr (ci, fs)) ci k .boolean (.int 1) φ ↔ k < fs.length ∧ φ (.inr (ci, fs.set k (.int 1))) := ⟨fun q => ⟨q.1.2.1, q.2⟩, fun q => ⟨⟨rfl, q.1, nb1, rfl⟩, q.2⟩⟩
theorem x_setA {ci k a : Nat} {t : FieldType} {fs : List Value} {φ : tm_E → Prop} : x_set (.inr (ci, fs)) ci k (.array t) (.ref a) φ ↔ k < fs.length ∧ φ (.inr (ci, fs.set k (.ref a))) := ⟨fun q => ⟨q.1.2.1, q.2⟩, fun q => ⟨⟨rfl, q.1, rfl, rfl⟩, q.2⟩⟩
theorem x_setO {ci k a : Nat} {t : String} {fs : List Value} {φ : tm_E → Prop} : x_set (.inr (ci, fs)) ci k (.object t) (.ref a) φ ↔ k < fs.length ∧ φ (.inr (ci, fs.set k (.ref a))) := ⟨fun q => ⟨q.1.2.1, q.2⟩, fun q => ⟨⟨rfl, q.1, rfl, rfl⟩, q.2⟩⟩
/-- the strings stand where they stood -/
def SH (sa : g_SA) (h : tm_H) : Prop := ∀ j, j < 13 → (∃ e, h.2.2 (sa.1 j) = .inl (100, j, e)) ∧ ∃ e, h.2.2 (sa.2.1 j) = .inl (102, j, e)
theorem x_gsf_i {j o : Nat} {f : (Nat → Int32) ⊕ (Nat → Int64) ⊕ (Nat → UInt32) ⊕ (Nat → UInt64) ⊕ (Nat → Option Nat)} {sa : Nat → Nat} {φ : Nat → Prop} : x_gsf (.inl (100, j, f)) o sa φ ↔ (o = sa j ∧ j < 13) ∧ φ j := Iff.rfl
theorem x_sal_i {j o : Nat} {f : (Nat → Int32) ⊕ (Nat → Int64) ⊕ (Nat → UInt32) ⊕ (Nat → UInt64) ⊕ (Nat → Option Nat)} {sv : Nat → Nat} {φ : Nat → Prop} : x_sal (.inl (102, j, f)) o sv φ ↔ (o = sv j ∧ j < 13) ∧ φ j := Iff.rfl
theorem x_cs_i {j o n : Nat} {f : (Nat → Int32) ⊕ (Nat → Int64) ⊕ (Nat → UInt32) ⊕ (Nat → UInt64) ⊕ (Nat → Option Nat)} {sa : Nat → Nat} {P : Prop} : x_cs (.inl (100, j, f)) o sa n P ↔ (o = sa j ∧ j < 13) ∧ n ≤ 8 ∧ P := Iff.rfl
theorem ncb {x : Int32} (hx : x = 0) : narrow .byte (.int x) = .int x := by subst hx; decide
section
variable {sa : g_SA} {sc : Nat × Nat × (Nat → Int32)} {xt : Nat → Nat → List Value → tm_H → Option (Option Value × tm_H)} {d : Nat} {h : tm_H} {Q : Option Value → tm_H → Prop}
theorem sr0 {x : Int32} : x >>> ((0 : Int32) &&& 31) = x := by
  rw [show (0 : Int32) &&& 31 = 0 by decide]
  apply Int32.toBitVec_inj.mp
  rw [Int32.toBitVec_shiftRight]
  rw [show (0 : Int32).toBitVec.smod 32 = 0#32 by decide]
  rw [BitVec.sshiftRight_eq']
  exact BitVec.sshiftRight_zero
theorem st_coder (hS : SH sa h) {j : Nat} (hj : j < 13) : tm_D (g_G sa sc xt) d 293 [.ref (sa.1 j)] h Q ↔ Q (some (.int 0)) h := by
  obtain ⟨⟨e, h1⟩, ⟨e', h2⟩⟩ := hS j hj
  rw [e_293]
  simp only [s_293_0, s_293_3, s_293_6, s_293_7, s_293_10, s_293_13, s_293_14, x_get_i, List.getElem?_cons_succ, List.getElem?_cons_zero, x_cv_j, cs_n, cs_i, cs_r, cs_l, Nat.reduceAdd, Nat.reduceLeDiff, true_and, Option.toList_some, Option.toList_none, List.cons_append, List.nil_append, if_true, if_false, nb0, nb1, x_setJ, x_setZ0, x_setZ1, x_setA, x_setO, List.length_cons, List.length_nil, Nat.reduceLT, List.set_cons_succ, List.set_cons_zero, h1, x_gsf_i, hj, and_self, show ¬ (1 : Int32) = 0 by decide, ncb]
theorem st_length (hS : SH sa h) {j : Nat} (hj : j < 13) : tm_D (g_G sa sc xt) (d + 1) 292 [.ref (sa.1 j)] h Q ↔ Q (some (.int (nI (g_sb j).length))) h := by
  have hS0 := hS
  obtain ⟨⟨e, h1⟩, ⟨e', h2⟩⟩ := hS j hj
  rw [e_292]
  simp only [s_292_0, s_292_1, s_292_4, s_292_5, s_292_6, s_292_9, s_292_10, x_get_i, List.getElem?_cons_succ, List.getElem?_cons_zero, x_cv_j, cs_n, cs_i, cs_r, cs_l, Nat.reduceAdd, Nat.reduceLeDiff, true_and, Option.toList_some, Option.toList_none, List.cons_append, List.nil_append, if_true, if_false, nb0, nb1, x_setJ, x_setZ0, x_setZ1, x_setA, x_setO, List.length_cons, List.length_nil, Nat.reduceLT, List.set_cons_succ, List.set_cons_zero, h1, h2, x_gsf_i, x_sal_i, x_cs_i, hj, and_self, st_coder hS0 hj, sr0]
  exact Iff.rfl
theorem st_isEmpty (hS : SH sa h) {j : Nat} (hj : j < 13) : tm_D (g_G sa sc xt) d 294 [.ref (sa.1 j)] h Q ↔ if nI (g_sb j).length = 0 then Q (some (.int 1)) h else Q (some (.int 0)) h := by
  obtain ⟨⟨e, h1⟩, ⟨e', h2⟩⟩ := hS j hj
  rw [e_294]
  simp only [s_294_0, s_294_1, s_294_4, s_294_5, s_294_8, s_294_9, s_294_12, s_294_13, x_get_i, List.getElem?_cons_succ, List.getElem?_cons_zero, x_cv_j, cs_n, cs_i, cs_r, cs_l, Nat.reduceAdd, Nat.reduceLeDiff, true_and, Option.toList_some, Option.toList_none, List.cons_append, List.nil_append, if_true, if_false, nb0, nb1, x_setJ, x_setZ0, x_setZ1, x_setA, x_setO, List.length_cons, List.length_nil, Nat.reduceLT, List.set_cons_succ, List.set_cons_zero, h1, h2, x_gsf_i, x_sal_i, hj, and_self]
  exact Iff.rfl
theorem st_isLatin1 (hS : SH sa h) {j : Nat} (hj : j < 13) : tm_D (g_G sa sc xt) d 295 [.ref (sa.1 j)] h Q ↔ Q (some (.int 1)) h := by
  obtain ⟨⟨e, h1⟩, ⟨e', h2⟩⟩ := hS j hj
  rw [e_295]
  simp only [s_295_0, s_295_3, s_295_6, s_295_7, s_295_10, s_295_13, s_295_14, s_295_17, s_295_18, x_get_i, List.getElem?_cons_succ, List.getElem?_cons_zero, x_cv_j, cs_n, cs_i, cs_r, cs_l, Nat.reduceAdd, Nat.reduceLeDiff, true_and, Option.toList_some, Option.toList_none, List.cons_append, List.nil_append, if_true, if_false, nb0, nb1, x_setJ, x_setZ0, x_setZ1, x_setA, x_setO, List.length_cons, List.length_nil, Nat.reduceLT, List.set_cons_succ, List.set_cons_zero, h1, x_gsf_i, hj, and_self, show ¬ (1 : Int32) = 0 by decide]
theorem st_check {i n : Nat} (hi : i < n) (hn : n < 2 ^ 31) : tm_D (g_G sa sc xt) (d + 1) 297 [.int (nI i), .int (nI n)] h Q ↔ Q none h := by
  have c1 : ¬ nI i < 0 := nI_pos (by omega)
  have c2 : nI i < nI n := nI_lt hi hn
  rw [e_297]
  simp only [s_297_0, s_297_1, s_297_2, s_297_5, s_297_8, s_297_9, x_get_i, List.getElem?_cons_succ, List.getElem?_cons_zero, x_cv_j, cs_n, cs_i, cs_r, cs_l, Nat.reduceAdd, Nat.reduceLeDiff, true_and, Option.toList_some, Option.toList_none, List.cons_append, List.nil_append, if_true, if_false, nb0, nb1, x_setJ, x_setZ0, x_setZ1, x_setA, x_setO, List.length_cons, List.length_nil, Nat.reduceLT, List.set_cons_succ, List.set_cons_zero, e_304, s_304_0, s_304_1, s_304_4, s_304_5, s_304_6, s_304_16, s_304_17, c1, c2]
/-- the sign of a string at i -/
def sgn (j i : Nat) : Int32 := (((g_sb j).getD i 0 &&& 255).toUInt32 % 65536).toInt32
theorem st_charAt (hS : SH sa h) {j i : Nat} (hj : j < 13) (hi : i < (g_sb j).length) (hl : (g_sb j).length < 2 ^ 31) (hv : narrow .char (.int (sgn j i)) = .int (sgn j i)) : tm_D (g_G sa sc xt) (d + 3) 296 [.ref (sa.1 j), .int (nI i)] h Q ↔ Q (some (.int (sgn j i))) h := by
  have hS0 := hS
  obtain ⟨⟨e, h1⟩, ⟨e', h2⟩⟩ := hS j hj
  have c1 : ¬ (nI i < 0 ∨ (g_sb j).length ≤ (nI i).toNatClampNeg) := nI_in hi hl
  have c2 : (nI i).toNatClampNeg = i := nI_clamp (by omega)
  rw [c2] at c1
  rw [e_296]
  simp only [s_296_0, s_296_1, s_296_4, s_296_7, s_296_8, s_296_11, s_296_12, s_296_15, s_296_16, s_296_17, s_296_20, x_get_i, List.getElem?_cons_succ, List.getElem?_cons_zero, x_cv_j, cs_n, cs_i, cs_r, cs_l, Nat.reduceAdd, Nat.reduceLeDiff, true_and, Option.toList_some, Option.toList_none, List.cons_append, List.nil_append, if_true, if_false, nb0, nb1, x_setJ, x_setZ0, x_setZ1, x_setA, x_setO, List.length_cons, List.length_nil, Nat.reduceLT, List.set_cons_succ, List.set_cons_zero, h1, h2, x_gsf_i, x_sal_i, x_cs_i, hj, and_self, st_isLatin1 hS0 hj, show ¬ (1 : Int32) = 0 by decide, e_300, s_300_0, s_300_1, s_300_2, s_300_3, s_300_6, s_300_7, s_300_8, s_300_9, s_300_12, s_300_13, s_300_14]
  rw [show Int32.ofNat (g_sb j).length = nI (g_sb j).length from rfl, st_check hi hl]
  simp only [s_300_0, s_300_1, s_300_2, s_300_3, s_300_6, s_300_7, s_300_8, s_300_9, s_300_12, s_300_13, s_300_14, x_get_i, List.getElem?_cons_succ, List.getElem?_cons_zero, x_cv_j, cs_n, cs_i, cs_r, cs_l, Nat.reduceAdd, Nat.reduceLeDiff, true_and, Option.toList_some, Option.toList_none, List.cons_append, List.nil_append, if_true, if_false, nb0, nb1, x_setJ, x_setZ0, x_setZ1, x_setA, x_setO, List.length_cons, List.length_nil, Nat.reduceLT, List.set_cons_succ, List.set_cons_zero, h2, x_sal_i, hj, and_self, c1, c2, not_false_eq_true]
  rw [show (((g_sb j).getD i 0 &&& 255).toUInt32 % 65536).toInt32 = sgn j i from rfl]
  simp only [hv, true_and, s_296_0, s_296_1, s_296_4, s_296_7, s_296_8, s_296_11, s_296_12, s_296_15, s_296_16, s_296_17, s_296_20, x_get_i, List.getElem?_cons_succ, List.getElem?_cons_zero, x_cv_j, cs_n, cs_i, cs_r, cs_l, Nat.reduceAdd, Nat.reduceLeDiff, true_and, Option.toList_some, Option.toList_none, List.cons_append, List.nil_append, if_true, if_false, nb0, nb1, x_setJ, x_setZ0, x_setZ1, x_setA, x_setO, List.length_cons, List.length_nil, Nat.reduceLT, List.set_cons_succ, List.set_cons_zero]
end
section
variable {sa : g_SA} {sc : Nat × Nat × (Nat → Int32)} {xt : Nat → Nat → List Value → tm_H → Option (Option Value × tm_H)} {d : Nat} {h : tm_H} {Q : Option Value → tm_H → Prop}
variable {q c : Nat} {F : Nat → Int32} {z : Int32}
def tx_in (h : tm_H) (q c : Nat) (F : Nat → Int32) : Prop := h.2.2 q = .inr (8, [.ref (q + 1), .int (nI c)]) ∧ h.2.2 (q + 1) = .inl (2, 80, .inl F)
theorem tx_eta (hx : tx_in h q c F) : wrl h q (txc q (nI c) F) = h := by
  apply wrl_eta
  intro i x hi
  match i, hi with
  | 0, hi => cases hi; exact hx.1
  | 1, hi => cases hi; exact hx.2
theorem tx_at' (hx : tx_in h q c F) (hc : c ≤ 80) (p : Int32) : tm_D (g_G sa sc xt) d 68 [.ref q, .int p] h Q ↔ Q (some (.int (txa F c p))) h := by
  have := tx_at (sa := sa) (sc := sc) (xt := xt) (d := d) (h := h) (Q := Q) (q := q) (F := F) hc p
  rwa [tx_eta hx] at this
theorem tx_size' (hx : tx_in h q c F) : tm_D (g_G sa sc xt) d 67 [.ref q] h Q ↔ Q (some (.int (nI c))) h := by
  have := tx_size (sa := sa) (sc := sc) (xt := xt) (d := d) (h := h) (Q := Q) (q := q) (F := F) (z := nI c)
  rwa [tx_eta hx] at this
theorem tx_letterAt' (hx : tx_in h q c F) (hc : c ≤ 80) (p : Int32) : tm_D (g_G sa sc xt) (d + 1) 69 [.ref q, .int p] h Q ↔ Q (some (.int (txa F c p - 97))) h := by
  have := tx_letterAt (sa := sa) (sc := sc) (xt := xt) (d := d) (h := h) (Q := Q) (q := q) (F := F) hc p
  rwa [tx_eta hx] at this
theorem tx_digitAt' (hx : tx_in h q c F) (hc : c ≤ 80) (p : Int32) : tm_D (g_G sa sc xt) (d + 1) 70 [.ref q, .int p] h Q ↔ Q (some (.int (txa F c p - 48))) h := by
  have := tx_digitAt (sa := sa) (sc := sc) (xt := xt) (d := d) (h := h) (Q := Q) (q := q) (F := F) hc p
  rwa [tx_eta hx] at this
theorem tx_twoDigitsAt' (hx : tx_in h q c F) (hc : c ≤ 80) (p : Int32) : tm_D (g_G sa sc xt) (d + 2) 71 [.ref q, .int p] h Q ↔ Q (some (.int (10 * (txa F c p - 48) + (txa F c (p + 1) - 48)))) h := by
  have := tx_twoDigitsAt (sa := sa) (sc := sc) (xt := xt) (d := d) (h := h) (Q := Q) (q := q) (F := F) hc p
  rwa [tx_eta hx] at this
theorem tx_signedDigitAt' (hx : tx_in h q c F) (hc : c ≤ 80) (p : Int32) : tm_D (g_G sa sc xt) (d + 2) 72 [.ref q, .int p] h Q ↔ Q (some (.int (if txa F c p = 45 then -(txa F c (p + 1) - 48) else txa F c (p + 1) - 48))) h := by
  have := tx_signedDigitAt (sa := sa) (sc := sc) (xt := xt) (d := d) (h := h) (Q := Q) (q := q) (F := F) hc p
  rwa [tx_eta hx] at this
theorem tx_clear' (hx : tx_in h q c F) : tm_D (g_G sa sc xt) d 66 [.ref q] h Q ↔ Q none (wrl h q (txc q 0 F)) := by
  have := tx_clear (sa := sa) (sc := sc) (xt := xt) (d := d) (h := h) (Q := Q) (q := q) (F := F) (z := nI c)
  rwa [tx_eta hx] at this
theorem tx_cut' (hx : tx_in h q c F) (hc : c ≤ 80) (p : Int32) : tm_D (g_G sa sc xt) d 65 [.ref q, .int p] h Q ↔ if p < 0 then Q (some (.int 0)) h else if nI c < p then Q (some (.int 0)) h else Q (some (.int 1)) (wrl h q (txc q p F)) := by
  have := tx_cut (sa := sa) (sc := sc) (xt := xt) (d := d) (h := h) (Q := Q) (q := q) (F := F) hc p
  rwa [tx_eta hx] at this
theorem m_stands (k x : Int32) : tm_D (g_G sa sc xt) d 74 [.int k, .int x] h Q ↔ Q (some (.int (txs k x))) h := by
  rw [e_74]
  simp only [s_74_0, s_74_1, s_74_44, s_74_45, s_74_47, s_74_50, s_74_51, s_74_53, s_74_56, s_74_57, s_74_60, s_74_61, s_74_62, s_74_63, s_74_65, s_74_68, s_74_69, s_74_71, s_74_74, s_74_75, s_74_78, s_74_79, s_74_80, s_74_81, s_74_83, s_74_86, s_74_87, s_74_89, s_74_92, s_74_93, s_74_96, s_74_97, s_74_98, s_74_99, s_74_101, s_74_104, s_74_105, s_74_107, s_74_110, s_74_111, s_74_114, s_74_115, s_74_116, s_74_117, x_get_i, List.getElem?_cons_succ, List.getElem?_cons_zero, x_cv_j, cs_n, cs_i, cs_r, cs_l, Nat.reduceAdd, Nat.reduceLeDiff, true_and, Option.toList_some, Option.toList_none, List.cons_append, List.nil_append, if_true, if_false, nb0, nb1, x_setJ, x_setZ0, x_setZ1, x_setA, x_setO, List.length_cons, List.length_nil, Nat.reduceLT, List.set_cons_succ, List.set_cons_zero]
  unfold txs
  have c1 : ∀ a : Int32, (a < 97) = ¬ (97 ≤ a) := fun a => by rw [Int32.not_le]
  by_cases k1 : k = 98
  · subst k1
    simp only [show ¬ (98 : Int32) = 108 by decide, show ¬ (98 : Int32) = 100 by decide, if_true, if_false]
    by_cases a1 : x < 48
    · simp only [a1, if_true]
    · by_cases a2 : 55 < x
      · simp only [a1, a2, if_true, if_false]
      · simp only [a1, a2, if_false]
  · by_cases k2 : k = 100
    · subst k2
      simp only [show ¬ (100 : Int32) = 108 by decide, show ¬ (100 : Int32) = 98 by decide, if_true, if_false]
      by_cases a1 : x < 48
      · simp only [a1, if_true]
      · by_cases a2 : 57 < x
        · simp only [a1, a2, if_true, if_false]
        · simp only [a1, a2, if_false]
    · by_cases k3 : k = 108
      · subst k3
        simp only [show ¬ (108 : Int32) = 100 by decide, show ¬ (108 : Int32) = 98 by decide, if_true, if_false]
        by_cases a1 : x < 97
        · simp only [a1, if_true]
        · by_cases a2 : 104 < x
          · simp only [a1, a2, if_true, if_false]
          · simp only [a1, a2, if_false]
      · by_cases k4 : k = 115
        · subst k4
          simp only [show ¬ (115 : Int32) = 100 by decide, show ¬ (115 : Int32) = 98 by decide, show ¬ (115 : Int32) = 108 by decide, if_true, if_false]
          by_cases a1 : x = 43
          · simp only [a1, if_true]
          · by_cases a2 : x = 45
            · subst a2
              simp only [show ¬ (45 : Int32) = 43 by decide, if_true, if_false]
            · simp only [a1, a2, if_false]
        · simp only [k1, k2, k3, k4, if_false]
/-- the first place that leaves a shape; -1: none -/
def mfit (F : Nat → Int32) (c : Nat) (e : Int32) : List Int32 → Int32 → Int32
  | [], _ => -1
  | k :: r, p => if e ≤ p then p else if txs k (txa F c p) = 0 then p else mfit F c e r (p + 1)
theorem tx_misfit {j : Nat} (hx : tx_in h q c F) (hc : c ≤ 80) (hS : SH sa h) (hj : j < 8) (p e : Int32) : tm_D (g_G sa sc xt) (d + 4) 73 [.ref q, .ref (sa.1 j), .int p, .int e] h Q ↔ Q (some (.int (mfit F c e (g_sb j) p))) h := by
  have hj13 : j < 13 := by omega
  have hg : ∀ j : Fin 8, (g_sb j.1).length < 10 ∧ ∀ i : Fin 10, i.1 < (g_sb j.1).length → sgn j.1 i.1 = (g_sb j.1).getD i.1 0 ∧ narrow .char (.int (sgn j.1 i.1)) = .int (sgn j.1 i.1) := by decide +kernel
  obtain ⟨hl, hv⟩ := hg ⟨j, hj⟩
  have hl : (g_sb j).length < 10 := hl
  have hv : ∀ i, i < (g_sb j).length → sgn j i = (g_sb j).getD i 0 ∧ narrow .char (.int (sgn j i)) = .int (sgn j i) := fun i hi => hv ⟨i, by omega⟩ hi
  obtain ⟨⟨e1, h1⟩, -⟩ := hS j hj13
  have c0 : ¬ (0 : Int32) = 1 := by decide
  have loop : ∀ r i, i + r = (g_sb j).length → (tm_X (g_G sa sc xt) (d + 4) 73 3 [.ref q, .ref (sa.1 j), .int p, .int e, .int (nI i)] [] h Q ↔ Q (some (.int (mfit F c e ((g_sb j).drop i) (p + nI i)))) h) := by
    intro r
    induction r with
    | zero =>
      intro i hi
      have hi : i = (g_sb j).length := by omega
      rw [s_73_3]
      simp only [s_73_0, s_73_1, s_73_5, s_73_6, s_73_9, s_73_12, s_73_13, s_73_15, s_73_16, s_73_17, s_73_20, s_73_21, s_73_23, s_73_26, s_73_27, s_73_28, s_73_30, s_73_31, s_73_34, s_73_37, s_73_40, s_73_41, s_73_43, s_73_44, s_73_45, s_73_48, s_73_51, s_73_52, x_get_i, List.getElem?_cons_succ, List.getElem?_cons_zero, x_cv_j, cs_n, cs_i, cs_r, cs_l, Nat.reduceAdd, Nat.reduceLeDiff, true_and, Option.toList_some, Option.toList_none, List.cons_append, List.nil_append, if_true, if_false, nb0, nb1, x_setJ, x_setZ0, x_setZ1, x_setA, x_setO, List.length_cons, List.length_nil, Nat.reduceLT, List.set_cons_succ, List.set_cons_zero, h1, x_cs_i, hj13, and_self, st_length hS hj13, hi, Int32.le_refl]
      rw [List.drop_length]
      exact Iff.rfl
    | succ r ih =>
      intro i hi
      have hin : i < (g_sb j).length := by omega
      have c1 : ¬ nI (g_sb j).length ≤ nI i := nI_ge hin (by omega)
      obtain ⟨v1, v2⟩ := hv i hin
      rw [s_73_3]
      simp only [s_73_0, s_73_1, s_73_5, s_73_6, s_73_9, s_73_12, s_73_13, s_73_15, s_73_16, s_73_17, s_73_20, s_73_21, s_73_23, s_73_26, s_73_27, s_73_28, s_73_30, s_73_31, s_73_34, s_73_37, s_73_40, s_73_41, s_73_43, s_73_44, s_73_45, s_73_48, s_73_51, s_73_52, x_get_i, List.getElem?_cons_succ, List.getElem?_cons_zero, x_cv_j, cs_n, cs_i, cs_r, cs_l, Nat.reduceAdd, Nat.reduceLeDiff, true_and, Option.toList_some, Option.toList_none, List.cons_append, List.nil_append, if_true, if_false, nb0, nb1, x_setJ, x_setZ0, x_setZ1, x_setA, x_setO, List.length_cons, List.length_nil, Nat.reduceLT, List.set_cons_succ, List.set_cons_zero, h1, hx.1, x_cs_i, hj13, and_self, st_length hS hj13, c1, st_charAt hS hj13 hin (by omega) v2, tx_at' hx hc, m_stands]
      rw [List.drop_eq_getElem_cons hin]
      have hgd : (g_sb j).getD i 0 = (g_sb j)[i] := by rw [List.getD_eq_getElem?_getD, List.getElem?_eq_getElem hin]; rfl
      rw [v1, hgd]
      show _ ↔ Q (some (.int (if e ≤ p + nI i then p + nI i else if txs (g_sb j)[i] (txa F c (p + nI i)) = 0 then p + nI i else mfit F c e ((g_sb j).drop (i + 1)) (p + nI i + 1)))) h
      by_cases b1 : e ≤ p + nI i
      · simp only [b1, if_true]
      · by_cases b2 : txs (g_sb j)[i] (txa F c (p + nI i)) = 0
        · simp only [b1, b2, if_true, if_false]
        · simp only [b1, b2, if_false, nI_1]
          rw [ih (i + 1) (by omega), Int32.add_assoc, nI_1]
  rw [e_73]
  simp only [s_73_0, s_73_1, s_73_5, s_73_6, s_73_9, s_73_12, s_73_13, s_73_15, s_73_16, s_73_17, s_73_20, s_73_21, s_73_23, s_73_26, s_73_27, s_73_28, s_73_30, s_73_31, s_73_34, s_73_37, s_73_40, s_73_41, s_73_43, s_73_44, s_73_45, s_73_48, s_73_51, s_73_52]
  have := loop (g_sb j).length 0 (by omega)
  rw [nI_0, Int32.add_zero] at this
  exact this
/-- the sign that v brings at a shift -/
def tx_sg (v k : Int32) : Int32 := vp_nar .char (((v.toUInt32 >>> (k.toUInt32 &&& Int32.toUInt32 31)).toInt32 &&& 255).toUInt32 % 65536).toInt32
def tx_ap (F : Nat → Int32) (c : Nat) (v : Int32) : Nat → Int32 := upd (upd (upd (upd F c (tx_sg v 24)) (c + 1) (tx_sg v 16)) (c + 2) (tx_sg v 8)) (c + 3) (tx_sg v 0)
theorem tx_append (hc : c ≤ 80) (v : Int32) : tm_D (g_G sa sc xt) d 64 [.ref q, .int v] (wrl h q (txc q (nI c) F)) Q ↔ if c ≤ 76 then Q (some (.int (nI (c + 4)))) (wrl h q (txc q (nI (c + 4)) (tx_ap F c v))) else Q (some (.int (-1))) (wrl h q (txc q (nI c) F)) := by
  have e76 : (76 : Int32) = nI 76 := rfl
  rw [e_64]
  by_cases hc7 : c ≤ 76
  · have b1 : nI c ≤ (76 : Int32) := nI_le (b := 76) hc7 (by decide)
    simp only [s_64_0, s_64_1, s_64_4, s_64_6, s_64_9, s_64_10, s_64_11, s_64_13, s_64_15, s_64_18, s_64_19, s_64_22, s_64_23, s_64_26, s_64_27, s_64_28, s_64_29, s_64_32, s_64_33, s_64_34, s_64_35, s_64_36, s_64_37, s_64_40, s_64_41, s_64_42, s_64_45, s_64_48, s_64_51, s_64_52, s_64_55, x_get_i, List.getElem?_cons_succ, List.getElem?_cons_zero, x_cv_j, cs_n, cs_i, cs_r, cs_l, Nat.reduceAdd, Nat.reduceLeDiff, true_and, Option.toList_some, Option.toList_none, List.cons_append, List.nil_append, if_true, if_false, nb0, nb1, x_setJ, x_setZ0, x_setZ1, x_setA, x_setO, List.length_cons, List.length_nil, Nat.reduceLT, List.set_cons_succ, List.set_cons_zero, wrl_0, b1, hc7]
    rw [s_64_14]
    simp only [s_64_0, s_64_1, s_64_4, s_64_6, s_64_9, s_64_10, s_64_11, s_64_13, s_64_15, s_64_18, s_64_19, s_64_22, s_64_23, s_64_26, s_64_27, s_64_28, s_64_29, s_64_32, s_64_33, s_64_34, s_64_35, s_64_36, s_64_37, s_64_40, s_64_41, s_64_42, s_64_45, s_64_48, s_64_51, s_64_52, s_64_55, x_get_i, List.getElem?_cons_succ, List.getElem?_cons_zero, x_cv_j, cs_n, cs_i, cs_r, cs_l, Nat.reduceAdd, Nat.reduceLeDiff, true_and, Option.toList_some, Option.toList_none, List.cons_append, List.nil_append, if_true, if_false, nb0, nb1, x_setJ, x_setZ0, x_setZ1, x_setA, x_setO, List.length_cons, List.length_nil, Nat.reduceLT, List.set_cons_succ, List.set_cons_zero, wrl_0, wrl_1, wrl_p0, wrl_p1, show ¬ (24 : Int32) < 0 by decide, x_cst_n (show c < 80 by omega) n80, nI_1, show (24 : Int32) + -8 = 16 by decide]
    rw [s_64_14]
    simp only [s_64_0, s_64_1, s_64_4, s_64_6, s_64_9, s_64_10, s_64_11, s_64_13, s_64_15, s_64_18, s_64_19, s_64_22, s_64_23, s_64_26, s_64_27, s_64_28, s_64_29, s_64_32, s_64_33, s_64_34, s_64_35, s_64_36, s_64_37, s_64_40, s_64_41, s_64_42, s_64_45, s_64_48, s_64_51, s_64_52, s_64_55, x_get_i, List.getElem?_cons_succ, List.getElem?_cons_zero, x_cv_j, cs_n, cs_i, cs_r, cs_l, Nat.reduceAdd, Nat.reduceLeDiff, true_and, Option.toList_some, Option.toList_none, List.cons_append, List.nil_append, if_true, if_false, nb0, nb1, x_setJ, x_setZ0, x_setZ1, x_setA, x_setO, List.length_cons, List.length_nil, Nat.reduceLT, List.set_cons_succ, List.set_cons_zero, wrl_0, wrl_1, wrl_p0, wrl_p1, show ¬ (16 : Int32) < 0 by decide, x_cst_n (show c + 1 < 80 by omega) n80, nI_1, show (16 : Int32) + -8 = 8 by decide, Nat.add_assoc]
    rw [s_64_14]
    simp only [s_64_0, s_64_1, s_64_4, s_64_6, s_64_9, s_64_10, s_64_11, s_64_13, s_64_15, s_64_18, s_64_19, s_64_22, s_64_23, s_64_26, s_64_27, s_64_28, s_64_29, s_64_32, s_64_33, s_64_34, s_64_35, s_64_36, s_64_37, s_64_40, s_64_41, s_64_42, s_64_45, s_64_48, s_64_51, s_64_52, s_64_55, x_get_i, List.getElem?_cons_succ, List.getElem?_cons_zero, x_cv_j, cs_n, cs_i, cs_r, cs_l, Nat.reduceAdd, Nat.reduceLeDiff, true_and, Option.toList_some, Option.toList_none, List.cons_append, List.nil_append, if_true, if_false, nb0, nb1, x_setJ, x_setZ0, x_setZ1, x_setA, x_setO, List.length_cons, List.length_nil, Nat.reduceLT, List.set_cons_succ, List.set_cons_zero, wrl_0, wrl_1, wrl_p0, wrl_p1, show ¬ (8 : Int32) < 0 by decide, x_cst_n (show c + 2 < 80 by omega) n80, nI_1, show (8 : Int32) + -8 = 0 by decide, Nat.add_assoc]
    rw [s_64_14]
    simp only [s_64_0, s_64_1, s_64_4, s_64_6, s_64_9, s_64_10, s_64_11, s_64_13, s_64_15, s_64_18, s_64_19, s_64_22, s_64_23, s_64_26, s_64_27, s_64_28, s_64_29, s_64_32, s_64_33, s_64_34, s_64_35, s_64_36, s_64_37, s_64_40, s_64_41, s_64_42, s_64_45, s_64_48, s_64_51, s_64_52, s_64_55, x_get_i, List.getElem?_cons_succ, List.getElem?_cons_zero, x_cv_j, cs_n, cs_i, cs_r, cs_l, Nat.reduceAdd, Nat.reduceLeDiff, true_and, Option.toList_some, Option.toList_none, List.cons_append, List.nil_append, if_true, if_false, nb0, nb1, x_setJ, x_setZ0, x_setZ1, x_setA, x_setO, List.length_cons, List.length_nil, Nat.reduceLT, List.set_cons_succ, List.set_cons_zero, wrl_0, wrl_1, wrl_p0, wrl_p1, show ¬ (0 : Int32) < 0 by decide, x_cst_n (show c + 3 < 80 by omega) n80, nI_1, show (0 : Int32) + -8 = -8 by decide, Nat.add_assoc]
    rw [s_64_14]
    simp only [s_64_0, s_64_1, s_64_4, s_64_6, s_64_9, s_64_10, s_64_11, s_64_13, s_64_15, s_64_18, s_64_19, s_64_22, s_64_23, s_64_26, s_64_27, s_64_28, s_64_29, s_64_32, s_64_33, s_64_34, s_64_35, s_64_36, s_64_37, s_64_40, s_64_41, s_64_42, s_64_45, s_64_48, s_64_51, s_64_52, s_64_55, x_get_i, List.getElem?_cons_succ, List.getElem?_cons_zero, x_cv_j, cs_n, cs_i, cs_r, cs_l, Nat.reduceAdd, Nat.reduceLeDiff, true_and, Option.toList_some, Option.toList_none, List.cons_append, List.nil_append, if_true, if_false, nb0, nb1, x_setJ, x_setZ0, x_setZ1, x_setA, x_setO, List.length_cons, List.length_nil, Nat.reduceLT, List.set_cons_succ, List.set_cons_zero, wrl_0, show (-8 : Int32) < 0 by decide]
    exact Iff.rfl
  · have b1 : ¬ nI c ≤ (76 : Int32) := nI_ge (a := 76) (by omega) (by omega)
    simp only [s_64_0, s_64_1, s_64_4, s_64_6, s_64_9, s_64_10, s_64_11, s_64_13, s_64_15, s_64_18, s_64_19, s_64_22, s_64_23, s_64_26, s_64_27, s_64_28, s_64_29, s_64_32, s_64_33, s_64_34, s_64_35, s_64_36, s_64_37, s_64_40, s_64_41, s_64_42, s_64_45, s_64_48, s_64_51, s_64_52, s_64_55, x_get_i, List.getElem?_cons_succ, List.getElem?_cons_zero, x_cv_j, cs_n, cs_i, cs_r, cs_l, Nat.reduceAdd, Nat.reduceLeDiff, true_and, Option.toList_some, Option.toList_none, List.cons_append, List.nil_append, if_true, if_false, nb0, nb1, x_setJ, x_setZ0, x_setZ1, x_setA, x_setO, List.length_cons, List.length_nil, Nat.reduceLT, List.set_cons_succ, List.set_cons_zero, wrl_0, b1, hc7]
end
