/-! trailing zeros; Galley -/
def ush (x k : Int32) : Int32 := (x.toUInt32 >>> (k.toUInt32 &&& Int32.toUInt32 31)).toInt32
def itA (b k : Int32) (p : Int32 × Int32) : Int32 × Int32 := if p.2 ≤ b then p else (p.1 + k, ush p.2 k)
def itB (y : Int32) : Int32 := (itA 4 2 (itA 16 4 (itA 256 8 (itA 65536 16 (1, y))))).1 + ush (itA 4 2 (itA 16 4 (itA 256 8 (itA 65536 16 (1, y))))).2 1
def itC (y : Int32) : Int32 := if 0 < y then itB y else y &&& 32
/-- Integer.numberOfTrailingZeros, Long's -/
def itz (x : Int32) : Int32 := itC ((x ^^^ (-1)) &&& (x - 1))
def ltz (x : Int64) : Int32 := if x.toInt32 = 0 then 32 + itz (x.toUInt64 >>> ((32 : Int32).toInt64.toUInt64 &&& Int64.toUInt64 63)).toInt64.toInt32 else itz x.toInt32
section
variable {sa : g_SA} {sc : Nat × Nat × (Nat → Int32)} {xt : Nat → Nat → List Value → tm_H → Option (Option Value × tm_H)} {d : Nat} {h : tm_H} {Q : Option Value → tm_H → Prop}
theorem m_itz (x : Int32) : tm_D (g_G sa sc xt) d 288 [.int x] h Q ↔ Q (some (.int (itz x))) h := by
  have s0 : ∀ y n : Int32, tm_X (g_G sa sc xt) d 288 19 [.int y, .int n] [] h Q ↔ tm_X (g_G sa sc xt) d 288 34 [.int (itA 65536 16 (n, y)).2, .int (itA 65536 16 (n, y)).1] [] h Q := by
    intro y n
    rw [s_288_19]
    simp only [s_288_0, s_288_1, s_288_2, s_288_3, s_288_4, s_288_5, s_288_6, s_288_7, s_288_8, s_288_9, s_288_12, s_288_13, s_288_15, s_288_16, s_288_17, s_288_18, s_288_20, s_288_23, s_288_26, s_288_29, s_288_30, s_288_32, s_288_33, s_288_35, s_288_38, s_288_41, s_288_44, s_288_45, s_288_47, s_288_48, s_288_50, s_288_52, s_288_55, s_288_58, s_288_59, s_288_60, s_288_61, s_288_63, s_288_64, s_288_67, s_288_70, s_288_71, s_288_72, s_288_73, s_288_75, s_288_76, s_288_77, s_288_78, s_288_79]
    by_cases c : y ≤ 65536
    · simp only [c, if_true, show itA 65536 16 (n, y) = (n, y) from if_pos c]
    · simp only [c, if_false, show itA 65536 16 (n, y) = (n + 16, ush y 16) from if_neg c]
      exact Iff.rfl
  have s1 : ∀ y n : Int32, tm_X (g_G sa sc xt) d 288 34 [.int y, .int n] [] h Q ↔ tm_X (g_G sa sc xt) d 288 49 [.int (itA 256 8 (n, y)).2, .int (itA 256 8 (n, y)).1] [] h Q := by
    intro y n
    rw [s_288_34]
    simp only [s_288_0, s_288_1, s_288_2, s_288_3, s_288_4, s_288_5, s_288_6, s_288_7, s_288_8, s_288_9, s_288_12, s_288_13, s_288_15, s_288_16, s_288_17, s_288_18, s_288_20, s_288_23, s_288_26, s_288_29, s_288_30, s_288_32, s_288_33, s_288_35, s_288_38, s_288_41, s_288_44, s_288_45, s_288_47, s_288_48, s_288_50, s_288_52, s_288_55, s_288_58, s_288_59, s_288_60, s_288_61, s_288_63, s_288_64, s_288_67, s_288_70, s_288_71, s_288_72, s_288_73, s_288_75, s_288_76, s_288_77, s_288_78, s_288_79]
    by_cases c : y ≤ 256
    · simp only [c, if_true, show itA 256 8 (n, y) = (n, y) from if_pos c]
    · simp only [c, if_false, show itA 256 8 (n, y) = (n + 8, ush y 8) from if_neg c]
      exact Iff.rfl
  have s2 : ∀ y n : Int32, tm_X (g_G sa sc xt) d 288 49 [.int y, .int n] [] h Q ↔ tm_X (g_G sa sc xt) d 288 62 [.int (itA 16 4 (n, y)).2, .int (itA 16 4 (n, y)).1] [] h Q := by
    intro y n
    rw [s_288_49]
    simp only [s_288_0, s_288_1, s_288_2, s_288_3, s_288_4, s_288_5, s_288_6, s_288_7, s_288_8, s_288_9, s_288_12, s_288_13, s_288_15, s_288_16, s_288_17, s_288_18, s_288_20, s_288_23, s_288_26, s_288_29, s_288_30, s_288_32, s_288_33, s_288_35, s_288_38, s_288_41, s_288_44, s_288_45, s_288_47, s_288_48, s_288_50, s_288_52, s_288_55, s_288_58, s_288_59, s_288_60, s_288_61, s_288_63, s_288_64, s_288_67, s_288_70, s_288_71, s_288_72, s_288_73, s_288_75, s_288_76, s_288_77, s_288_78, s_288_79]
    by_cases c : y ≤ 16
    · simp only [c, if_true, show itA 16 4 (n, y) = (n, y) from if_pos c]
    · simp only [c, if_false, show itA 16 4 (n, y) = (n + 4, ush y 4) from if_neg c]
      exact Iff.rfl
  have s3 : ∀ y n : Int32, tm_X (g_G sa sc xt) d 288 62 [.int y, .int n] [] h Q ↔ tm_X (g_G sa sc xt) d 288 74 [.int (itA 4 2 (n, y)).2, .int (itA 4 2 (n, y)).1] [] h Q := by
    intro y n
    rw [s_288_62]
    simp only [s_288_0, s_288_1, s_288_2, s_288_3, s_288_4, s_288_5, s_288_6, s_288_7, s_288_8, s_288_9, s_288_12, s_288_13, s_288_15, s_288_16, s_288_17, s_288_18, s_288_20, s_288_23, s_288_26, s_288_29, s_288_30, s_288_32, s_288_33, s_288_35, s_288_38, s_288_41, s_288_44, s_288_45, s_288_47, s_288_48, s_288_50, s_288_52, s_288_55, s_288_58, s_288_59, s_288_60, s_288_61, s_288_63, s_288_64, s_288_67, s_288_70, s_288_71, s_288_72, s_288_73, s_288_75, s_288_76, s_288_77, s_288_78, s_288_79]
    by_cases c : y ≤ 4
    · simp only [c, if_true, show itA 4 2 (n, y) = (n, y) from if_pos c]
    · simp only [c, if_false, show itA 4 2 (n, y) = (n + 2, ush y 2) from if_neg c]
      exact Iff.rfl
  rw [e_288]
  simp only [s_288_0, s_288_1, s_288_2, s_288_3, s_288_4, s_288_5, s_288_6, s_288_7, s_288_8, s_288_9, s_288_12, s_288_13, s_288_15, s_288_16, s_288_17, s_288_18, s_288_20, s_288_23, s_288_26, s_288_29, s_288_30, s_288_32, s_288_33, s_288_35, s_288_38, s_288_41, s_288_44, s_288_45, s_288_47, s_288_48, s_288_50, s_288_52, s_288_55, s_288_58, s_288_59, s_288_60, s_288_61, s_288_63, s_288_64, s_288_67, s_288_70, s_288_71, s_288_72, s_288_73, s_288_75, s_288_76, s_288_77, s_288_78, s_288_79]
  unfold itz itC
  generalize (x ^^^ (-1)) &&& (x - 1) = y
  by_cases c0 : 0 < y
  · simp only [c0, if_true]
    rw [s0, s1, s2, s3, s_288_74]
    simp only [s_288_0, s_288_1, s_288_2, s_288_3, s_288_4, s_288_5, s_288_6, s_288_7, s_288_8, s_288_9, s_288_12, s_288_13, s_288_15, s_288_16, s_288_17, s_288_18, s_288_20, s_288_23, s_288_26, s_288_29, s_288_30, s_288_32, s_288_33, s_288_35, s_288_38, s_288_41, s_288_44, s_288_45, s_288_47, s_288_48, s_288_50, s_288_52, s_288_55, s_288_58, s_288_59, s_288_60, s_288_61, s_288_63, s_288_64, s_288_67, s_288_70, s_288_71, s_288_72, s_288_73, s_288_75, s_288_76, s_288_77, s_288_78, s_288_79]
    exact Iff.rfl
  · simp only [c0, if_false]
theorem m_ltz (x : Int64) : tm_D (g_G sa sc xt) (d + 1) 290 [.long x] h Q ↔ Q (some (.int (ltz x))) h := by
  rw [e_290]
  simp only [s_290_0, s_290_1, s_290_2, s_290_3, s_290_4, s_290_7, s_290_9, s_290_10, s_290_12, s_290_13, s_290_14, s_290_17, s_290_18, s_290_21, s_290_22, s_290_25, x_get_i, List.getElem?_cons_succ, List.getElem?_cons_zero, x_cv_j, cs_n, cs_i, cs_r, cs_l, Nat.reduceAdd, Nat.reduceLeDiff, true_and, Option.toList_some, Option.toList_none, List.cons_append, List.nil_append, if_true, if_false, nb0, nb1, x_setJ, x_setZ0, x_setZ1, x_setA, x_setO, List.length_cons, List.length_nil, Nat.reduceLT, List.set_cons_succ, List.set_cons_zero, wrl_0, wrl_1, wrl_2, wrl_3, wrl_4, wrl_5, wrl_p0, wrl_p1, wrl_p2, wrl_p3, wrl_p4, m_itz]
  unfold ltz
  by_cases c0 : x.toInt32 = 0
  · simp only [c0, if_true]
  · simp only [c0, if_false]
end
/-- worths of rows -/
def gwL : List Int32 := [0, 1, 1, 0, 2, 1, 3, 0, 1, 1, 3, 2, 2, 3, 4, 1, 5, 3, 2, 2, 3, 1, 1, 0, 3, 1, 2, 0, 1, 1, 4, 4, 2, 6, 4, 1, 1, 0, 2, 1, 3, 0, 1, 1, 3, 2, 2, 3, 4, 4, 5, 7, 2, 2, 3, 1, 1, 0, 3, 1, 2]
def gw (i : Nat) : Int32 := gwL.getD i 0
def gwt (z : Nat) : Nat → Int32 := fun i => if i ≤ z then gw i else 0
/-- what can be reached from a row of k by the first l moves -/
def gwr (k : Nat) : Nat → Int64 := fo (fun l a => a ||| ((1 : Int64) <<< ((gw l ^^^ gw (k - 2 - l)).toInt64 &&& 63))) (if k = 1 then 1 else 0)
set_option maxRecDepth 20000 in
theorem gw_ok : ∀ k : Fin 61, ltz (gwr k.1 (k.1 - 1) ^^^ (-1)) = gw k.1 := by decide +kernel
/-- the first l of j from l on with like worths left and right -/
def gwf (n : Nat) : Nat → Nat → Int32
  | 0, _ => -1
  | j + 1, l => if gw l = gw (n - 2 - l) then nI l else gwf n j (l + 1)
/-- how many stay to the left; -1: he can't win -/
def gwl (n : Nat) : Int32 := if n = 1 then 0 else gwf n (n - 1) 0
theorem gwt_s {z : Nat} : upd (gwt z) (z + 1) (gw (z + 1)) = gwt (z + 1) := by
  funext i
  unfold upd gwt
  by_cases h1 : i = z + 1
  · subst h1
    rw [if_pos rfl, if_pos (Nat.le_refl _)]
  · rw [if_neg h1]
    by_cases h2 : i ≤ z
    · rw [if_pos h2, if_pos (by omega)]
    · rw [if_neg h2, if_neg (by omega)]
theorem gwt_i {z i : Nat} (h : i ≤ z) : gwt z i = gw i := if_pos h
theorem n61 : 61 < 2 ^ 31 := by decide
theorem nI_s {a b : Nat} (h : b ≤ a) : nI a - nI b = nI (a - b) := by
  conv => lhs; rw [show a = (a - b) + b by omega]
  rw [← nI_add, Int32.add_sub_cancel]
abbrev gac (q : Nat) (A : Nat → Int32) (z : Int32) : List tm_E := [.inr (1, [.ref (q + 1), .int z]), .inl (0, 61, .inl A)]
section
variable {sa : g_SA} {sc : Nat × Nat × (Nat → Int32)} {xt : Nat → Nat → List Value → tm_H → Option (Option Value × tm_H)} {d : Nat} {h : tm_H} {Q : Option Value → tm_H → Prop}
variable {q n z : Nat}
theorem ga_learn (hn : n ≤ 60) (hz : z ≤ 60) : tm_D (g_G sa sc xt) (d + 2) 9 [.ref q, .int (nI n)] (wrl h q (gac q (gwt z) (nI z))) Q ↔ Q none (wrl h q (gac q (gwt (max n z)) (nI (max n z)))) := by
  have e2 : ∀ l, nI l + 2 = nI (l + 2) := fun l => nI_add l 2
  have outer : ∀ (j i : Nat) (x3 x4 x5 : Value), i ≤ 60 → max n z = i + j → z ≤ i → (tm_X (g_G sa sc xt) (d + 2) 9 7 [.ref q, .int (nI n), .int (nI (i + 1)), x3, x4, x5] [] (wrl h q (gac q (gwt i) (nI i))) Q ↔ Q none (wrl h q (gac q (gwt (max n z)) (nI (max n z))))) := by
    intro j
    induction j with
    | zero =>
      intro i x3 x4 x5 h1 h2 h3
      have hi : max n z = i := by omega
      rw [hi, s_9_7]
      simp only [s_9_0, s_9_1, s_9_4, s_9_5, s_9_6, s_9_8, s_9_9, s_9_12, s_9_13, s_9_15, s_9_18, s_9_19, s_9_20, s_9_23, s_9_24, s_9_27, s_9_28, s_9_29, s_9_30, s_9_34, s_9_35, s_9_36, s_9_37, s_9_40, s_9_41, s_9_42, s_9_43, s_9_46, s_9_48, s_9_49, s_9_50, s_9_53, s_9_54, s_9_55, s_9_56, s_9_58, s_9_59, s_9_60, s_9_61, s_9_62, s_9_63, s_9_64, s_9_67, s_9_70, s_9_71, s_9_74, s_9_75, s_9_76, s_9_79, s_9_80, s_9_83, s_9_84, s_9_85, s_9_86, s_9_89, s_9_92, s_9_95, x_get_i, List.getElem?_cons_succ, List.getElem?_cons_zero, x_cv_j, cs_n, cs_i, cs_r, cs_l, Nat.reduceAdd, Nat.reduceLeDiff, true_and, Option.toList_some, Option.toList_none, List.cons_append, List.nil_append, if_true, if_false, nb0, nb1, x_setJ, x_setZ0, x_setZ1, x_setA, x_setO, List.length_cons, List.length_nil, Nat.reduceLT, List.set_cons_succ, List.set_cons_zero, wrl_0, wrl_1, wrl_2, wrl_3, wrl_4, wrl_5, wrl_p0, wrl_p1, wrl_p2, wrl_p3, wrl_p4, show nI n < nI (i + 1) from nI_lt (by omega) (by omega)]
    | succ j ih =>
      intro i x3 x4 x5 h1 h2 h3
      have hin : i + 1 ≤ n := by omega
      rw [← ih (i + 1) (.long 0) tm_z (.int 0) (by omega) (by omega) (by omega)]
      have inner : ∀ (m l : Nat), l + m = i → (tm_X (g_G sa sc xt) (d + 2) 9 32 [.ref q, .int (nI n), .int (nI (i + 1)), .long (gwr (i + 1) l), tm_z, .int (nI l)] [] (wrl h q (gac q (gwt i) (nI i))) Q ↔ tm_X (g_G sa sc xt) (d + 2) 9 7 [.ref q, .int (nI n), .int (nI (i + 1 + 1)), .long (gwr (i + 1) i), tm_z, .int (nI i)] [] (wrl h q (gac q (gwt (i + 1)) (nI (i + 1)))) Q) := by
        intro m
        induction m with
        | zero =>
          intro l hl
          have hl : l = i := by omega
          subst hl
          rw [s_9_32]
          have g0 := gw_ok ⟨l + 1, by omega⟩
          have g0 : ltz (gwr (l + 1) l ^^^ (-1)) = gw (l + 1) := g0
          simp only [s_9_0, s_9_1, s_9_4, s_9_5, s_9_6, s_9_8, s_9_9, s_9_12, s_9_13, s_9_15, s_9_18, s_9_19, s_9_20, s_9_23, s_9_24, s_9_27, s_9_28, s_9_29, s_9_30, s_9_34, s_9_35, s_9_36, s_9_37, s_9_40, s_9_41, s_9_42, s_9_43, s_9_46, s_9_48, s_9_49, s_9_50, s_9_53, s_9_54, s_9_55, s_9_56, s_9_58, s_9_59, s_9_60, s_9_61, s_9_62, s_9_63, s_9_64, s_9_67, s_9_70, s_9_71, s_9_74, s_9_75, s_9_76, s_9_79, s_9_80, s_9_83, s_9_84, s_9_85, s_9_86, s_9_89, s_9_92, s_9_95, x_get_i, List.getElem?_cons_succ, List.getElem?_cons_zero, x_cv_j, cs_n, cs_i, cs_r, cs_l, Nat.reduceAdd, Nat.reduceLeDiff, true_and, Option.toList_some, Option.toList_none, List.cons_append, List.nil_append, if_true, if_false, nb0, nb1, x_setJ, x_setZ0, x_setZ1, x_setA, x_setO, List.length_cons, List.length_nil, Nat.reduceLT, List.set_cons_succ, List.set_cons_zero, wrl_0, wrl_1, wrl_2, wrl_3, wrl_4, wrl_5, wrl_p0, wrl_p1, wrl_p2, wrl_p3, wrl_p4, e2, show nI (l + 1) < nI (l + 2) from nI_lt (by omega) (by omega), wrl_0, wrl_1, m_ltz, g0, x_ist_n (show l + 1 < 61 by omega) n61, wrl_p1, wrl_p0, gwt_s, nI_1]
        | succ m ihm =>
          intro l hl
          have es : gwr (i + 1) (l + 1) = gwr (i + 1) l ||| ((1 : Int64) <<< ((gw l ^^^ gw (i + 1 - 2 - l)).toInt64 &&& 63)) := rfl
          rw [← ihm (l + 1) (by omega), s_9_32, es]
          have e3 : nI (i + 1) - 2 - nI l = nI (i + 1 - 2 - l) := by
            rw [show (2 : Int32) = nI 2 from rfl, nI_s (by omega), nI_s (by omega)]
          simp only [s_9_0, s_9_1, s_9_4, s_9_5, s_9_6, s_9_8, s_9_9, s_9_12, s_9_13, s_9_15, s_9_18, s_9_19, s_9_20, s_9_23, s_9_24, s_9_27, s_9_28, s_9_29, s_9_30, s_9_34, s_9_35, s_9_36, s_9_37, s_9_40, s_9_41, s_9_42, s_9_43, s_9_46, s_9_48, s_9_49, s_9_50, s_9_53, s_9_54, s_9_55, s_9_56, s_9_58, s_9_59, s_9_60, s_9_61, s_9_62, s_9_63, s_9_64, s_9_67, s_9_70, s_9_71, s_9_74, s_9_75, s_9_76, s_9_79, s_9_80, s_9_83, s_9_84, s_9_85, s_9_86, s_9_89, s_9_92, s_9_95, x_get_i, List.getElem?_cons_succ, List.getElem?_cons_zero, x_cv_j, cs_n, cs_i, cs_r, cs_l, Nat.reduceAdd, Nat.reduceLeDiff, true_and, Option.toList_some, Option.toList_none, List.cons_append, List.nil_append, if_true, if_false, nb0, nb1, x_setJ, x_setZ0, x_setZ1, x_setA, x_setO, List.length_cons, List.length_nil, Nat.reduceLT, List.set_cons_succ, List.set_cons_zero, wrl_0, wrl_1, wrl_2, wrl_3, wrl_4, wrl_5, wrl_p0, wrl_p1, wrl_p2, wrl_p3, wrl_p4, e2, show ¬ nI (i + 1) < nI (l + 2) from nI_nlt (by omega) (by omega), wrl_0, wrl_1, e3, x_ild_n (show l < 61 by omega) n61, x_ild_n (show i + 1 - 2 - l < 61 by omega) n61, gwt_i (show l ≤ i by omega), gwt_i (show i + 1 - 2 - l ≤ i by omega), nI_1]
      rw [s_9_7]
      have c1 : ¬ nI n < nI (i + 1) := nI_nlt hin (by omega)
      have c2 : ¬ (60 : Int32) < nI (i + 1) := nI_nlt (b := i + 1) (a := 60) (by omega) (by decide)
      have e1 : nI (i + 1) = 1 ↔ i = 0 := by
        rw [show (1 : Int32) = nI 1 from rfl, nI_eq (by omega) (by decide)]
        omega
      simp only [s_9_0, s_9_1, s_9_4, s_9_5, s_9_6, s_9_8, s_9_9, s_9_12, s_9_13, s_9_15, s_9_18, s_9_19, s_9_20, s_9_23, s_9_24, s_9_27, s_9_28, s_9_29, s_9_30, s_9_34, s_9_35, s_9_36, s_9_37, s_9_40, s_9_41, s_9_42, s_9_43, s_9_46, s_9_48, s_9_49, s_9_50, s_9_53, s_9_54, s_9_55, s_9_56, s_9_58, s_9_59, s_9_60, s_9_61, s_9_62, s_9_63, s_9_64, s_9_67, s_9_70, s_9_71, s_9_74, s_9_75, s_9_76, s_9_79, s_9_80, s_9_83, s_9_84, s_9_85, s_9_86, s_9_89, s_9_92, s_9_95, x_get_i, List.getElem?_cons_succ, List.getElem?_cons_zero, x_cv_j, cs_n, cs_i, cs_r, cs_l, Nat.reduceAdd, Nat.reduceLeDiff, true_and, Option.toList_some, Option.toList_none, List.cons_append, List.nil_append, if_true, if_false, nb0, nb1, x_setJ, x_setZ0, x_setZ1, x_setA, x_setO, List.length_cons, List.length_nil, Nat.reduceLT, List.set_cons_succ, List.set_cons_zero, wrl_0, wrl_1, wrl_2, wrl_3, wrl_4, wrl_5, wrl_p0, wrl_p1, wrl_p2, wrl_p3, wrl_p4, c1, c2, e1]
      have e0 : gwr (i + 1) 0 = if i = 0 then 1 else 0 := by
        show (if i + 1 = 1 then (1 : Int64) else 0) = _
        by_cases h0 : i = 0
        · rw [if_pos h0, if_pos (by omega)]
        · rw [if_neg h0, if_neg (by omega)]
      have hin0 := inner i 0 (by omega)
      rw [e0, nI_0] at hin0
      have step : ∀ (v w : Int64) (x y : Int32), tm_X (g_G sa sc xt) (d + 2) 9 7 [.ref q, .int (nI n), .int (nI (i + 1 + 1)), .long v, tm_z, .int x] [] (wrl h q (gac q (gwt (i + 1)) (nI (i + 1)))) Q ↔ tm_X (g_G sa sc xt) (d + 2) 9 7 [.ref q, .int (nI n), .int (nI (i + 1 + 1)), .long w, tm_z, .int y] [] (wrl h q (gac q (gwt (i + 1)) (nI (i + 1)))) Q := fun v w x y => (ih (i + 1) _ _ _ (by omega) (by omega) (by omega)).trans (ih (i + 1) _ _ _ (by omega) (by omega) (by omega)).symm
      rw [step 0 (gwr (i + 1) i) 0 (nI i), ← hin0]
      by_cases h0 : i = 0
      · simp only [h0, if_true]
      · simp only [h0, if_false]
  rw [e_9]
  simp only [s_9_0, s_9_1, s_9_4, s_9_5, s_9_6, s_9_8, s_9_9, s_9_12, s_9_13, s_9_15, s_9_18, s_9_19, s_9_20, s_9_23, s_9_24, s_9_27, s_9_28, s_9_29, s_9_30, s_9_34, s_9_35, s_9_36, s_9_37, s_9_40, s_9_41, s_9_42, s_9_43, s_9_46, s_9_48, s_9_49, s_9_50, s_9_53, s_9_54, s_9_55, s_9_56, s_9_58, s_9_59, s_9_60, s_9_61, s_9_62, s_9_63, s_9_64, s_9_67, s_9_70, s_9_71, s_9_74, s_9_75, s_9_76, s_9_79, s_9_80, s_9_83, s_9_84, s_9_85, s_9_86, s_9_89, s_9_92, s_9_95, x_get_i, List.getElem?_cons_succ, List.getElem?_cons_zero, x_cv_j, cs_n, cs_i, cs_r, cs_l, Nat.reduceAdd, Nat.reduceLeDiff, true_and, Option.toList_some, Option.toList_none, List.cons_append, List.nil_append, if_true, if_false, nb0, nb1, x_setJ, x_setZ0, x_setZ1, x_setA, x_setO, List.length_cons, List.length_nil, Nat.reduceLT, List.set_cons_succ, List.set_cons_zero, wrl_0, wrl_1, wrl_2, wrl_3, wrl_4, wrl_5, wrl_p0, wrl_p1, wrl_p2, wrl_p3, wrl_p4, wrl_0, nI_1]
  exact outer (max n z - z) z _ _ _ (by omega) (by omega) (by omega)
theorem ga_left (hn : n ≤ 60) (hz : z ≤ 60) : tm_D (g_G sa sc xt) (d + 3) 8 [.ref q, .int (nI n)] (wrl h q (gac q (gwt z) (nI z))) Q ↔ Q (some (.int (gwl n))) (wrl h q (gac q (gwt (max n z)) (nI (max n z)))) := by
  have e2 : ∀ l, nI l + 2 = nI (l + 2) := fun l => nI_add l 2
  rw [e_8]
  simp only [s_8_0, s_8_1, s_8_2, s_8_5, s_8_6, s_8_7, s_8_10, s_8_11, s_8_12, s_8_13, s_8_15, s_8_16, s_8_17, s_8_18, s_8_21, s_8_22, s_8_25, s_8_26, s_8_27, s_8_28, s_8_31, s_8_32, s_8_33, s_8_34, s_8_35, s_8_36, s_8_37, s_8_40, s_8_41, s_8_42, s_8_45, s_8_48, s_8_49, x_get_i, List.getElem?_cons_succ, List.getElem?_cons_zero, x_cv_j, cs_n, cs_i, cs_r, cs_l, Nat.reduceAdd, Nat.reduceLeDiff, true_and, Option.toList_some, Option.toList_none, List.cons_append, List.nil_append, if_true, if_false, nb0, nb1, x_setJ, x_setZ0, x_setZ1, x_setA, x_setO, List.length_cons, List.length_nil, Nat.reduceLT, List.set_cons_succ, List.set_cons_zero, wrl_0, wrl_1, wrl_2, wrl_3, wrl_4, wrl_5, wrl_p0, wrl_p1, wrl_p2, wrl_p3, wrl_p4, wrl_0]
  rw [ga_learn hn hz]
  have loop : ∀ (j l : Nat), n ≠ 1 → (l + j = n - 1) → (tm_X (g_G sa sc xt) (d + 3) 8 14 [.ref q, .int (nI n), .int (nI l)] [] (wrl h q (gac q (gwt (max n z)) (nI (max n z)))) Q ↔ Q (some (.int (gwf n j l))) (wrl h q (gac q (gwt (max n z)) (nI (max n z))))) := by
    intro j
    induction j with
    | zero =>
      intro l h1 h2
      rw [s_8_14]
      simp only [s_8_0, s_8_1, s_8_2, s_8_5, s_8_6, s_8_7, s_8_10, s_8_11, s_8_12, s_8_13, s_8_15, s_8_16, s_8_17, s_8_18, s_8_21, s_8_22, s_8_25, s_8_26, s_8_27, s_8_28, s_8_31, s_8_32, s_8_33, s_8_34, s_8_35, s_8_36, s_8_37, s_8_40, s_8_41, s_8_42, s_8_45, s_8_48, s_8_49, x_get_i, List.getElem?_cons_succ, List.getElem?_cons_zero, x_cv_j, cs_n, cs_i, cs_r, cs_l, Nat.reduceAdd, Nat.reduceLeDiff, true_and, Option.toList_some, Option.toList_none, List.cons_append, List.nil_append, if_true, if_false, nb0, nb1, x_setJ, x_setZ0, x_setZ1, x_setA, x_setO, List.length_cons, List.length_nil, Nat.reduceLT, List.set_cons_succ, List.set_cons_zero, wrl_0, wrl_1, wrl_2, wrl_3, wrl_4, wrl_5, wrl_p0, wrl_p1, wrl_p2, wrl_p3, wrl_p4, e2, show nI n < nI (l + 2) from nI_lt (by omega) (by omega)]
      exact Iff.rfl
    | succ j ih =>
      intro l h1 h2
      have e3 : nI n - 2 - nI l = nI (n - 2 - l) := by
        rw [show (2 : Int32) = nI 2 from rfl, nI_s (by omega), nI_s (by omega)]
      rw [s_8_14]
      simp only [s_8_0, s_8_1, s_8_2, s_8_5, s_8_6, s_8_7, s_8_10, s_8_11, s_8_12, s_8_13, s_8_15, s_8_16, s_8_17, s_8_18, s_8_21, s_8_22, s_8_25, s_8_26, s_8_27, s_8_28, s_8_31, s_8_32, s_8_33, s_8_34, s_8_35, s_8_36, s_8_37, s_8_40, s_8_41, s_8_42, s_8_45, s_8_48, s_8_49, x_get_i, List.getElem?_cons_succ, List.getElem?_cons_zero, x_cv_j, cs_n, cs_i, cs_r, cs_l, Nat.reduceAdd, Nat.reduceLeDiff, true_and, Option.toList_some, Option.toList_none, List.cons_append, List.nil_append, if_true, if_false, nb0, nb1, x_setJ, x_setZ0, x_setZ1, x_setA, x_setO, List.length_cons, List.length_nil, Nat.reduceLT, List.set_cons_succ, List.set_cons_zero, wrl_0, wrl_1, wrl_2, wrl_3, wrl_4, wrl_5, wrl_p0, wrl_p1, wrl_p2, wrl_p3, wrl_p4, e2, show ¬ nI n < nI (l + 2) from nI_nlt (by omega) (by omega), wrl_0, wrl_1, e3, x_ild_n (show l < 61 by omega) n61, x_ild_n (show n - 2 - l < 61 by omega) n61, gwt_i (show l ≤ max n z by omega), gwt_i (show n - 2 - l ≤ max n z by omega), nI_1]
      unfold gwf
      by_cases c : gw l = gw (n - 2 - l)
      · simp only [c, if_true]
      · simp only [c, if_false]
        exact ih (l + 1) h1 (by omega)
  have e1 : nI n = 1 ↔ n = 1 := by
    rw [show (1 : Int32) = nI 1 from rfl, nI_eq (by omega) (by decide)]
  simp only [s_8_0, s_8_1, s_8_2, s_8_5, s_8_6, s_8_7, s_8_10, s_8_11, s_8_12, s_8_13, s_8_15, s_8_16, s_8_17, s_8_18, s_8_21, s_8_22, s_8_25, s_8_26, s_8_27, s_8_28, s_8_31, s_8_32, s_8_33, s_8_34, s_8_35, s_8_36, s_8_37, s_8_40, s_8_41, s_8_42, s_8_45, s_8_48, s_8_49, x_get_i, List.getElem?_cons_succ, List.getElem?_cons_zero, x_cv_j, cs_n, cs_i, cs_r, cs_l, Nat.reduceAdd, Nat.reduceLeDiff, true_and, Option.toList_some, Option.toList_none, List.cons_append, List.nil_append, if_true, if_false, nb0, nb1, x_setJ, x_setZ0, x_setZ1, x_setA, x_setO, List.length_cons, List.length_nil, Nat.reduceLT, List.set_cons_succ, List.set_cons_zero, wrl_0, wrl_1, wrl_2, wrl_3, wrl_4, wrl_5, wrl_p0, wrl_p1, wrl_p2, wrl_p3, wrl_p4, e1]
  unfold gwl
  by_cases h1 : n = 1
  · simp only [h1, if_true]
  · simp only [h1, if_false]
    exact loop (n - 1) 0 h1 (by omega)
end
