theorem n12 : 12 < 2 ^ 31 := by decide
theorem n8 : 8 < 2 ^ 31 := by decide
theorem x_set_i {ci k : Nat} {ty : FieldType} {v : Value} {fs : List Value} {φ : tm_E → Prop} (h1 : k < fs.length) (h2 : narrow ty v = v) (h3 : fits ty v = true) : x_set (.inr (ci, fs)) ci k ty v φ ↔ φ (.inr (ci, fs.set k v)) := ⟨fun q => q.2, fun q => ⟨⟨rfl, h1, h2, h3⟩, q⟩⟩
theorem x_cv_i {ci n : Nat} {fs : List Value} {P : Prop} (hn : n ≤ 8) : x_cv (.inr (ci, fs)) ci n P ↔ P := ⟨fun q => q.2.2, fun q => ⟨rfl, hn, q⟩⟩
theorem x_len_i {t n : Nat} {f : (Nat → Int32) ⊕ (Nat → Int64) ⊕ (Nat → UInt32) ⊕ (Nat → UInt64) ⊕ (Nat → Option Nat)} {φ : Nat → Prop} (ht : t < 6) : x_len (.inl (t, n, f)) φ ↔ φ n := ⟨fun q => q.2, fun q => ⟨ht, q⟩⟩
theorem x_ist_n {n j : Nat} {f : Nat → Int32} {x : Int32} {φ : tm_E → Prop} (h : j < n) (hn : n < 2 ^ 31) : x_ist (.inl (0, n, .inl f)) (nI j) x φ ↔ φ (.inl (0, n, .inl (upd f j x))) := by
  have h1 := nI_in h hn
  have h2 := nI_clamp (n := j) (by omega)
  rw [h2] at h1
  show (¬ (nI j < 0 ∨ n ≤ (nI j).toNatClampNeg) ∧ φ (.inl (0, n, .inl (upd f (nI j).toNatClampNeg x)))) ↔ _
  rw [h2]
  exact ⟨fun q => q.2, fun q => ⟨h1, q⟩⟩
theorem cs1 {a : Int32} : tm_cs [.int a] ≤ 8 := by simp [tm_cs, Value.category]
theorem cs2 {a b : Int32} : tm_cs [.int a, .int b] ≤ 8 := by simp [tm_cs, Value.category]
theorem cs1r {a : Nat} : tm_cs [.ref a] ≤ 8 := by simp [tm_cs, Value.category]
theorem cs2r {a b : Nat} : tm_cs [.ref a, .ref b] ≤ 8 := by simp [tm_cs, Value.category]
theorem csir {a : Int32} {b : Nat} : tm_cs [.int a, .ref b] ≤ 8 := by simp [tm_cs, Value.category]
theorem csri {a : Nat} {b : Int32} : tm_cs [.ref a, .int b] ≤ 8 := by simp [tm_cs, Value.category]
theorem nb0 : narrow .boolean (.int 0) = .int 0 := by decide
theorem nb1 : narrow .boolean (.int 1) = .int 1 := by decide
/-- |x| as Math.abs has it -/
def iabs (x : Int32) : Int32 := if 0 ≤ x then x else 0 - x
section
variable {sa : g_SA} {sc : Nat × Nat × (Nat → Int32)} {xt : Nat → Nat → List Value → tm_H → Option (Option Value × tm_H)} {d : Nat} {h : tm_H} {Q : Option Value → tm_H → Prop}
variable {k n : Nat} {L W M B : Nat → Int32} {s g z : Int32}
/-- Integer.bitCount, as its code has it -/
def ibc1 (x : Int32) : Int32 := x - ((x.toUInt32 >>> ((1 : Int32).toUInt32 &&& Int32.toUInt32 31)).toInt32 &&& 1431655765)
def ibc2 (x : Int32) : Int32 := (x &&& 858993459) + ((x.toUInt32 >>> ((2 : Int32).toUInt32 &&& Int32.toUInt32 31)).toInt32 &&& 858993459)
def ibc3 (x : Int32) : Int32 := (x + (x.toUInt32 >>> ((4 : Int32).toUInt32 &&& Int32.toUInt32 31)).toInt32) &&& 252645135
def ibc4 (x : Int32) : Int32 := x + (x.toUInt32 >>> ((8 : Int32).toUInt32 &&& Int32.toUInt32 31)).toInt32
def ibc5 (x : Int32) : Int32 := x + (x.toUInt32 >>> ((16 : Int32).toUInt32 &&& Int32.toUInt32 31)).toInt32
def ibc (x : Int32) : Int32 := ibc5 (ibc4 (ibc3 (ibc2 (ibc1 x)))) &&& 63
theorem m_bitCount (x : Int32) : tm_D (g_G sa sc xt) d 289 [.int x] h Q ↔ Q (some (.int (ibc x))) h := by
  rw [e_289]
  simp only [s_289_0, s_289_1, s_289_2, s_289_3, s_289_4, s_289_7, s_289_8, s_289_9, s_289_10, s_289_11, s_289_14, s_289_15, s_289_16, s_289_17, s_289_18, s_289_21, s_289_22, s_289_23, s_289_24, s_289_25, s_289_26, s_289_27, s_289_28, s_289_29, s_289_32, s_289_33, s_289_34, s_289_35, s_289_36, s_289_38, s_289_39, s_289_40, s_289_41, s_289_42, s_289_43, s_289_45, s_289_46, s_289_47, s_289_48, s_289_49, s_289_51, s_289_52]
  exact Iff.rfl
theorem tc_has (hT : tc_at h k L W M B z s g) (x : Int32) : tm_D (g_G sa sc xt) d 78 [.ref k, .int x] h Q ↔ Q (some (.int (if x < 0 then 0 else if z ≤ x then 0 else 1))) h := by
  obtain ⟨h0, -⟩ := hT
  rw [e_78]
  simp only [s_78_0, s_78_1, s_78_4, s_78_5, s_78_6, s_78_9, s_78_12, s_78_13, s_78_16, s_78_17, h0, x_get_i, List.getElem?_cons_succ, List.getElem?_cons_zero, nb0, nb1, true_and]
  by_cases c1 : x < 0
  · simp only [c1, if_true]
  · by_cases c2 : z ≤ x
    · simp only [c1, c2, if_true, if_false]
    · simp only [c1, c2, if_false]
def tc_allv (z : Int32) : Int32 := (1 <<< (z &&& 31)) - 1
theorem tc_all (hT : tc_at h k L W M B z s g) : tm_D (g_G sa sc xt) d 79 [.ref k] h Q ↔ Q (some (.int (tc_allv z))) h := by
  obtain ⟨h0, -⟩ := hT
  rw [e_79]
  simp only [s_79_0, s_79_1, s_79_2, s_79_5, s_79_6, s_79_7, s_79_8, h0, x_get_i, List.getElem?_cons_succ, List.getElem?_cons_zero]
  exact Iff.rfl
theorem tc_free (hT : tc_at h k L W M B z s g) : tm_D (g_G sa sc xt) (d + 1) 80 [.ref k] h Q ↔ Q (some (.int (tc_allv z &&& (s ^^^ (-1))))) h := by
  have hT0 := hT
  obtain ⟨h0, -⟩ := hT
  rw [e_80]
  simp only [s_80_0, s_80_1, s_80_4, s_80_5, s_80_8, s_80_9, s_80_10, s_80_11, h0, x_get_i, List.getElem?_cons_succ, List.getElem?_cons_zero, x_cv_i x_cs0, tc_all hT0, Option.toList_some, List.cons_append, List.nil_append]
/-- of n numbers those that are the told one, as bits -/
def tc_wh (A : Nat → Int32) (x : Int32) : Nat → Int32 := fo (fun i a => a ||| (if A i = x then 1 <<< (nI i &&& 31) else 0)) 0
theorem tc_whose {a : Nat} {A : Nat → Int32} (hT : tc_at h k L W M B (nI n) s g) (hn : n ≤ 12) (hA : h.2.2 a = .inl (0, 12, .inl A)) (x : Int32) : tm_D (g_G sa sc xt) d 84 [.ref k, .ref a, .int x] h Q ↔ Q (some (.int (tc_wh A x n))) h := by
  obtain ⟨h0, h1, h2, h3, h4, h5, h6⟩ := hT
  have loop : ∀ j i, i + j = n → (tm_X (g_G sa sc xt) d 84 5 [.ref k, .ref a, .int x, .int (tc_wh A x i), .int (nI i)] [] h Q ↔ Q (some (.int (tc_wh A x n))) h) := by
    intro j
    induction j with
    | zero =>
      intro i hi
      have hi : i = n := by omega
      subst hi
      rw [s_84_5]
      simp only [s_84_0, s_84_1, s_84_2, s_84_3, s_84_7, s_84_8, s_84_11, s_84_14, s_84_16, s_84_17, s_84_18, s_84_21, s_84_22, s_84_23, s_84_25, s_84_26, s_84_27, s_84_30, s_84_31, s_84_33, s_84_34, s_84_37, s_84_38, s_84_39, s_84_40, s_84_43, s_84_46, s_84_47, h0, x_get_i, List.getElem?_cons_succ, List.getElem?_cons_zero, Int32.le_refl, if_true]
    | succ j ih =>
      intro i hi
      have hin : i < n := by omega
      have c1 : ¬ nI n ≤ nI i := nI_ge hin (by omega)
      have c2 : i < 12 := by omega
      have c3 : ¬ Int32.ofNat 12 ≤ nI i := nI_ge c2 (by omega)
      have es : tc_wh A x (i + 1) = tc_wh A x i ||| (if A i = x then 1 <<< (nI i &&& 31) else 0) := rfl
      rw [← ih (i + 1) (by omega), s_84_5]
      simp only [s_84_0, s_84_1, s_84_2, s_84_3, s_84_7, s_84_8, s_84_11, s_84_14, s_84_16, s_84_17, s_84_18, s_84_21, s_84_22, s_84_23, s_84_25, s_84_26, s_84_27, s_84_30, s_84_31, s_84_33, s_84_34, s_84_37, s_84_38, s_84_39, s_84_40, s_84_43, s_84_46, s_84_47, h0, hA, x_get_i, List.getElem?_cons_succ, List.getElem?_cons_zero, c1, c3, if_false, x_len_i (show 0 < 6 by decide), x_ild_n c2 n12, nI_1, es]
      by_cases hb : A i = x
      · simp only [hb, if_true]
      · simp only [hb, if_false]
  rw [e_84]
  simp only [s_84_0, s_84_1, s_84_2, s_84_3, s_84_7, s_84_8, s_84_11, s_84_14, s_84_16, s_84_17, s_84_18, s_84_21, s_84_22, s_84_23, s_84_25, s_84_26, s_84_27, s_84_30, s_84_31, s_84_33, s_84_34, s_84_37, s_84_38, s_84_39, s_84_40, s_84_43, s_84_46, s_84_47]
  exact loop n 0 (by omega)
theorem tc_ofLetter (hT : tc_at h k L W M B (nI n) s g) (hn : n ≤ 12) (x : Int32) : tm_D (g_G sa sc xt) (d + 1) 81 [.ref k, .int x] h Q ↔ Q (some (.int (tc_wh L x n))) h := by
  have hT0 := hT
  obtain ⟨h0, h1, -⟩ := hT
  rw [e_81]
  simp only [s_81_0, s_81_1, s_81_2, s_81_5, s_81_6, s_81_9, h0, x_get_i, List.getElem?_cons_succ, List.getElem?_cons_zero, x_cv_i x_cs0, tc_whose hT0 hn h1, Option.toList_some, List.cons_append, List.nil_append]
theorem tc_inBox (hT : tc_at h k L W M B (nI n) s g) (hn : n ≤ 12) (x : Int32) : tm_D (g_G sa sc xt) (d + 1) 83 [.ref k, .int x] h Q ↔ Q (some (.int (tc_wh B x n))) h := by
  have hT0 := hT
  obtain ⟨h0, h1, h2, h3, h4, -⟩ := hT
  rw [e_83]
  simp only [s_83_0, s_83_1, s_83_2, s_83_5, s_83_6, s_83_9, h0, x_get_i, List.getElem?_cons_succ, List.getElem?_cons_zero, x_cv_i x_cs0, tc_whose hT0 hn h4, Option.toList_some, List.cons_append, List.nil_append]
theorem tc_freeOf (hT : tc_at h k L W M B (nI n) s g) (hn : n ≤ 12) (x : Int32) : tm_D (g_G sa sc xt) (d + 2) 82 [.ref k, .int x] h Q ↔ Q (some (.int (ibc (tc_wh L x n &&& (s ^^^ (-1)))))) h := by
  have hT0 := hT
  obtain ⟨h0, h1, -⟩ := hT
  rw [e_82]
  simp only [s_82_0, s_82_1, s_82_2, s_82_5, s_82_6, s_82_9, s_82_10, s_82_11, s_82_12, s_82_15, h0, x_get_i, List.getElem?_cons_succ, List.getElem?_cons_zero, x_cv_i x_cs0, x_cs0, true_and, tc_ofLetter hT0 hn, m_bitCount, Option.toList_some, List.cons_append, List.nil_append]
theorem tc_moodsOfAll (hT : tc_at h k L W M B (nI n) s g) (hn : n ≤ 12) : tm_D (g_G sa sc xt) (d + 1) 86 [.ref k] h Q ↔ Q (some (.int (tc_mo M (tc_allv (nI n)) n))) h := by
  have hT0 := hT
  obtain ⟨h0, h1, -⟩ := hT
  rw [e_86]
  simp only [s_86_0, s_86_1, s_86_2, s_86_5, s_86_8, h0, x_cv_i x_cs0, x_cv_i cs1r, tc_all hT0, tc_moodsOf hT0 hn, Option.toList_some, List.cons_append, List.nil_append]
def tc_far (M : Nat → Int32) : Nat → Int32 := fo (fun i a => a + iabs (M i)) 0
theorem tc_farFromRest (hT : tc_at h k L W M B (nI n) s g) (hn : n ≤ 12)  : tm_D (g_G sa sc xt) (d + 1) 87 [.ref k] h Q ↔ Q (some (.int (tc_far M n))) h := by
  obtain ⟨h0, h1, h2, h3, h4, h5, h6⟩ := hT
  have loop : ∀ j i, i + j = n → (tm_X (g_G sa sc xt) (d + 1) 87 4 [.ref k, .int (tc_far M i), .int (nI i)] [] h Q ↔ Q (some (.int (tc_far M n))) h) := by
    intro j
    induction j with
    | zero =>
      intro i hi
      have hi : i = n := by omega
      subst hi
      rw [s_87_4]
      simp only [s_87_0, s_87_1, s_87_2, s_87_3, s_87_5, s_87_6, s_87_9, s_87_12, s_87_13, s_87_14, s_87_17, s_87_18, s_87_19, s_87_22, s_87_23, s_87_24, s_87_27, s_87_30, s_87_31, h0, h3, x_get_i, List.getElem?_cons_succ, List.getElem?_cons_zero, Int32.le_refl, if_true, cs1, true_and]
    | succ j ih =>
      intro i hi
      have hin : i < n := by omega
      have c1 : ¬ nI n ≤ nI i := nI_ge hin (by omega)
      have c2 : i < 12 := by omega
      rw [← ih (i + 1) (by omega), s_87_4]
      have es : tc_far M (i + 1) = tc_far M i + (if 0 ≤ M i then M i else 0 - M i) := rfl
      simp only [s_87_0, s_87_1, s_87_2, s_87_3, s_87_5, s_87_6, s_87_9, s_87_12, s_87_13, s_87_14, s_87_17, s_87_18, s_87_19, s_87_22, s_87_23, s_87_24, s_87_27, s_87_30, s_87_31, h0, h3, x_get_i, List.getElem?_cons_succ, List.getElem?_cons_zero, c1, if_false, x_ild_n c2 n12, nI_1, es, cs1, true_and]
  rw [e_87]
  simp only [s_87_0, s_87_1, s_87_2, s_87_3, s_87_5, s_87_6, s_87_9, s_87_12, s_87_13, s_87_14, s_87_17, s_87_18, s_87_19, s_87_22, s_87_23, s_87_24, s_87_27, s_87_30, s_87_31]
  exact loop n 0 (by omega)
def tc_sum (W : Nat → Int32) : Nat → Int32 := fo (fun i a => a + W i) 0
theorem tc_wearOfAll (hT : tc_at h k L W M B (nI n) s g) (hn : n ≤ 12)  : tm_D (g_G sa sc xt) (d) 88 [.ref k] h Q ↔ Q (some (.int (tc_sum W n))) h := by
  obtain ⟨h0, h1, h2, h3, h4, h5, h6⟩ := hT
  have loop : ∀ j i, i + j = n → (tm_X (g_G sa sc xt) (d) 88 4 [.ref k, .int (tc_sum W i), .int (nI i)] [] h Q ↔ Q (some (.int (tc_sum W n))) h) := by
    intro j
    induction j with
    | zero =>
      intro i hi
      have hi : i = n := by omega
      subst hi
      rw [s_88_4]
      simp only [s_88_0, s_88_1, s_88_2, s_88_3, s_88_5, s_88_6, s_88_9, s_88_12, s_88_13, s_88_14, s_88_17, s_88_18, s_88_19, s_88_20, s_88_21, s_88_24, s_88_27, s_88_28, h0, h2, x_get_i, List.getElem?_cons_succ, List.getElem?_cons_zero, Int32.le_refl, if_true]
    | succ j ih =>
      intro i hi
      have hin : i < n := by omega
      have c1 : ¬ nI n ≤ nI i := nI_ge hin (by omega)
      have c2 : i < 12 := by omega
      rw [← ih (i + 1) (by omega), s_88_4]
      have es : tc_sum W (i + 1) = tc_sum W i + W i := rfl
      simp only [s_88_0, s_88_1, s_88_2, s_88_3, s_88_5, s_88_6, s_88_9, s_88_12, s_88_13, s_88_14, s_88_17, s_88_18, s_88_19, s_88_20, s_88_21, s_88_24, s_88_27, s_88_28, h0, h2, x_get_i, List.getElem?_cons_succ, List.getElem?_cons_zero, c1, if_false, x_ild_n c2 n12, nI_1, es]
  rw [e_88]
  simp only [s_88_0, s_88_1, s_88_2, s_88_3, s_88_5, s_88_6, s_88_9, s_88_12, s_88_13, s_88_14, s_88_17, s_88_18, s_88_19, s_88_20, s_88_21, s_88_24, s_88_27, s_88_28]
  exact loop n 0 (by omega)
def tc_home (L B : Nat → Int32) : Nat → Int32 := fo (fun i a => a + (if B i = L i then 1 else 0)) 0
theorem tc_atHome (hT : tc_at h k L W M B (nI n) s g) (hn : n ≤ 12)  : tm_D (g_G sa sc xt) (d) 89 [.ref k] h Q ↔ Q (some (.int (tc_home L B n))) h := by
  obtain ⟨h0, h1, h2, h3, h4, h5, h6⟩ := hT
  have loop : ∀ j i, i + j = n → (tm_X (g_G sa sc xt) (d) 89 4 [.ref k, .int (tc_home L B i), .int (nI i)] [] h Q ↔ Q (some (.int (tc_home L B n))) h) := by
    intro j
    induction j with
    | zero =>
      intro i hi
      have hi : i = n := by omega
      subst hi
      rw [s_89_4]
      simp only [s_89_0, s_89_1, s_89_2, s_89_3, s_89_5, s_89_6, s_89_9, s_89_12, s_89_13, s_89_14, s_89_17, s_89_18, s_89_19, s_89_20, s_89_23, s_89_24, s_89_25, s_89_28, s_89_29, s_89_32, s_89_33, s_89_34, s_89_35, s_89_38, s_89_41, s_89_42, h0, h1, h4, x_get_i, List.getElem?_cons_succ, List.getElem?_cons_zero, Int32.le_refl, if_true]
    | succ j ih =>
      intro i hi
      have hin : i < n := by omega
      have c1 : ¬ nI n ≤ nI i := nI_ge hin (by omega)
      have c2 : i < 12 := by omega
      rw [← ih (i + 1) (by omega), s_89_4]
      have es : tc_home L B (i + 1) = tc_home L B i + (if B i = L i then 1 else 0) := rfl
      simp only [s_89_0, s_89_1, s_89_2, s_89_3, s_89_5, s_89_6, s_89_9, s_89_12, s_89_13, s_89_14, s_89_17, s_89_18, s_89_19, s_89_20, s_89_23, s_89_24, s_89_25, s_89_28, s_89_29, s_89_32, s_89_33, s_89_34, s_89_35, s_89_38, s_89_41, s_89_42, h0, h1, h4, x_get_i, List.getElem?_cons_succ, List.getElem?_cons_zero, c1, if_false, x_ild_n c2 n12, nI_1, es]
      by_cases hb0 : B i = L i
      · simp only [hb0, if_true, if_false]
      · simp only [hb0, if_false]
  rw [e_89]
  simp only [s_89_0, s_89_1, s_89_2, s_89_3, s_89_5, s_89_6, s_89_9, s_89_12, s_89_13, s_89_14, s_89_17, s_89_18, s_89_19, s_89_20, s_89_23, s_89_24, s_89_25, s_89_28, s_89_29, s_89_32, s_89_33, s_89_34, s_89_35, s_89_38, s_89_41, s_89_42]
  exact loop n 0 (by omega)
def tc_let (L : Nat → Int32) (set : Int32) : Nat → Int32 := fo (fun i a => a ||| (if (set >>> (nI i &&& 31)) &&& 1 = 1 then 1 <<< (L i &&& 31) else 0)) 0
theorem tc_lettersOf (hT : tc_at h k L W M B (nI n) s g) (hn : n ≤ 12) (set : Int32) : tm_D (g_G sa sc xt) (d + 1) 91 [.ref k, .int set] h Q ↔ Q (some (.int (ibc (tc_let L set n)))) h := by
  obtain ⟨h0, h1, h2, h3, h4, h5, h6⟩ := hT
  have loop : ∀ j i, i + j = n → (tm_X (g_G sa sc xt) (d + 1) 91 4 [.ref k, .int set, .int (tc_let L set i), .int (nI i)] [] h Q ↔ Q (some (.int (ibc (tc_let L set n)))) h) := by
    intro j
    induction j with
    | zero =>
      intro i hi
      have hi : i = n := by omega
      subst hi
      rw [s_91_4]
      simp only [s_91_0, s_91_1, s_91_2, s_91_3, s_91_5, s_91_6, s_91_9, s_91_12, s_91_13, s_91_14, s_91_15, s_91_16, s_91_17, s_91_18, s_91_19, s_91_22, s_91_23, s_91_24, s_91_27, s_91_28, s_91_29, s_91_30, s_91_33, s_91_34, s_91_35, s_91_36, s_91_39, s_91_42, s_91_43, s_91_46, h0, h1, x_get_i, List.getElem?_cons_succ, List.getElem?_cons_zero, Int32.le_refl, if_true, x_cs0, true_and, m_bitCount, Option.toList_some, List.cons_append, List.nil_append]
    | succ j ih =>
      intro i hi
      have hin : i < n := by omega
      have c1 : ¬ nI n ≤ nI i := nI_ge hin (by omega)
      have c2 : i < 12 := by omega
      rw [← ih (i + 1) (by omega), s_91_4]
      have es : tc_let L set (i + 1) = tc_let L set i ||| (if (set >>> (nI i &&& 31)) &&& 1 = 1 then 1 <<< (L i &&& 31) else 0) := rfl
      simp only [s_91_0, s_91_1, s_91_2, s_91_3, s_91_5, s_91_6, s_91_9, s_91_12, s_91_13, s_91_14, s_91_15, s_91_16, s_91_17, s_91_18, s_91_19, s_91_22, s_91_23, s_91_24, s_91_27, s_91_28, s_91_29, s_91_30, s_91_33, s_91_34, s_91_35, s_91_36, s_91_39, s_91_42, s_91_43, s_91_46, h0, h1, x_get_i, List.getElem?_cons_succ, List.getElem?_cons_zero, c1, if_false, x_ild_n c2 n12, nI_1, es, x_cs0, true_and, m_bitCount, Option.toList_some, List.cons_append, List.nil_append]
      by_cases hb0 : (set >>> (nI i &&& 31)) &&& 1 = 1
      · simp only [hb0, if_true, if_false, x_cs0, true_and, m_bitCount, Option.toList_some, List.cons_append, List.nil_append]
      · simp only [hb0, if_false, x_cs0, true_and, m_bitCount, Option.toList_some, List.cons_append, List.nil_append]
  rw [e_91]
  simp only [s_91_0, s_91_1, s_91_2, s_91_3, s_91_5, s_91_6, s_91_9, s_91_12, s_91_13, s_91_14, s_91_15, s_91_16, s_91_17, s_91_18, s_91_19, s_91_22, s_91_23, s_91_24, s_91_27, s_91_28, s_91_29, s_91_30, s_91_33, s_91_34, s_91_35, s_91_36, s_91_39, s_91_42, s_91_43, s_91_46]
  exact loop n 0 (by omega)
end
