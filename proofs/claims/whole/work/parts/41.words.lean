/-! Words -/
theorem n64 : 64 < 2 ^ 31 := by decide
theorem nI_mul {a b : Nat} : nI a * nI b = nI (a * b) := (Int32.ofNat_mul a b).symm
abbrev woc (q : Nat) (N T : Nat → Int32) (z : Int32) : List tm_E := [.inr (10, [.ref (q + 1), .ref (q + 2), .int z]), .inl (0, 64, .inl N), .inl (0, 8, .inl T)]
abbrev WS : Type := (Nat → Int32) × Nat × Bool
/-- words are read: j signs from p on; the place of the fault -/
def wrun (F : Nat → Int32) : Nat → Nat → WS → Option Nat × WS
  | 0, _, s => (none, s)
  | j + 1, p, s => if ¬ txs 108 (F p) = 0 ∧ s.2.1 < 8 then wrun F j (p + 1) (upd s.1 (s.2.1 * 8 + (F p - 97).toNatClampNeg) (s.1 (s.2.1 * 8 + (F p - 97).toNatClampNeg) + 1), s.2.1, true)
    else if F p = 59 ∧ s.2.2 = true then wrun F j (p + 1) (s.1, s.2.1 + 1, false)
    else (some p, s)
/-- what read() answers, and the state behind it -/
def wread (F : Nat → Int32) (c : Nat) (N : Nat → Int32) : Option Nat × WS :=
  match wrun F (min c 60) 0 (fl N 0 64, 0, false) with
  | (some p, s) => (some p, s)
  | (none, s) => if s.2.2 then (if 60 < c then (some 60, (s.1, s.2.1 + 1, s.2.2)) else (none, (s.1, s.2.1 + 1, s.2.2))) else (some (min c 60), s)
/-- how many of letter x the words of a set need -/
def wnd (N : Nat → Int32) (set : Int32) (x : Nat) : Nat → Int32 := fo (fun w a => a + ((set >>> (nI w &&& 31)) &&& 1) * N (w * 8 + x)) 0
def wcs (N T : Nat → Int32) (z : Nat) (set : Int32) : Nat → Nat → Bool
  | 0, _ => true
  | j + 1, x => if wnd N set x z ≤ T x then wcs N T z set j (x + 1) else false
def wbs (N T : Nat → Int32) (z : Nat) : Nat → Nat → Int32 → Int32
  | 0, _, b => b
  | j + 1, i, b => wbs N T z j (i + 1) (if ibc (nI i) ≤ ibc b then b else if wcs N T z (nI i) 8 0 then nI i else b)
def wT (T L : Nat → Int32) (n : Nat) (s : Int32) (i : Nat) : Nat → Int32 := fun x => if x < i then ibc (tc_wh L (nI x) n &&& (s ^^^ (-1))) else T x
theorem wT_s {T L : Nat → Int32} {n : Nat} {s : Int32} {i : Nat} : upd (wT T L n s i) i (ibc (tc_wh L (nI i) n &&& (s ^^^ (-1)))) = wT T L n s (i + 1) := by
  funext j
  unfold upd wT
  by_cases h1 : j = i
  · subst h1
    rw [if_pos rfl, if_pos (by omega)]
  · rw [if_neg h1]
    by_cases h2 : j < i
    · rw [if_pos h2, if_pos (by omega)]
    · rw [if_neg h2, if_neg (by omega)]
section
variable {sa : g_SA} {sc : Nat × Nat × (Nat → Int32)} {xt : Nat → Nat → List Value → tm_H → Option (Option Value × tm_H)} {d : Nat} {h : tm_H} {Q : Option Value → tm_H → Prop}
variable {q t c k n : Nat} {F N T L W M B : Nat → Int32} {z s g : Int32}
set_option maxHeartbeats 1000000 in
theorem wo_read (hx : tx_in h t c F) (hc : c ≤ 80) (hd : t + 2 ≤ q ∨ q + 3 ≤ t) : tm_D (g_G sa sc xt) (d + 2) 106 [.ref q, .ref t] (wrl h q (woc q N T z)) Q ↔ Q (some (.int (oI (wread F c N).1))) (wrl h q (woc q (wread F c N).2.1 T (nI (wread F c N).2.2.1))) := by
  have ht : ∀ {N T : Nat → Int32} {z : Int32}, tx_in (wrl h q (woc q N T z)) t c F := fun {N T z} => tx_in_same (fun x h1 h2 => wrl_o (by show _ ∨ q + 3 ≤ x; omega)) hx
  have ht0 : ∀ {N T : Nat → Int32} {z : Int32}, (wrl h q (woc q N T z)).2.2 t = .inr (8, [.ref (t + 1), .int (nI c)]) := fun {N T z} => (ht (N := N) (T := T) (z := z)).1
  have em : (if (60 : Int32) < nI c then (60 : Int32) else nI c) = nI (min c 60) := by
    by_cases h1 : 60 < c
    · rw [if_pos (show (60 : Int32) < nI c from nI_lt (a := 60) h1 (by omega)), show min c 60 = 60 by omega]; rfl
    · rw [if_neg (show ¬ (60 : Int32) < nI c from nI_nlt (a := 60) (by omega) (by decide)), show min c 60 = c by omega]
  have loop : ∀ (j p : Nat) (S : WS), p + j = min c 60 → S.2.1 ≤ 8 ∧ (S.2.2 = true → S.2.1 < 8) → (tm_X (g_G sa sc xt) (d + 2) 106 28 [.ref q, .ref t, .int (nI (min c 60)), .int (bI S.2.2), .int (nI p)] [] (wrl h q (woc q S.1 T (nI S.2.1))) Q ↔
      match wrun F j p S with
      | (some p, s) => Q (some (.int (nI p))) (wrl h q (woc q s.1 T (nI s.2.1)))
      | (none, s) => if s.2.2 then (if 60 < c then Q (some (.int (nI 60))) (wrl h q (woc q s.1 T (nI (s.2.1 + 1)))) else Q (some (.int (-1))) (wrl h q (woc q s.1 T (nI (s.2.1 + 1))))) else Q (some (.int (nI (min c 60)))) (wrl h q (woc q s.1 T (nI s.2.1)))) := by
    intro j
    induction j with
    | zero =>
      intro p S hp hS
      have hp : p = min c 60 := by omega
      subst hp
      rw [s_106_28]
      simp only [s_106_0, s_106_1, s_106_4, s_106_5, s_106_8, s_106_9, s_106_10, s_106_13, s_106_14, s_106_17, s_106_19, s_106_22, s_106_23, s_106_24, s_106_25, s_106_26, s_106_30, s_106_31, s_106_34, s_106_36, s_106_37, s_106_39, s_106_42, s_106_45, s_106_48, s_106_49, s_106_52, s_106_54, s_106_57, s_106_58, s_106_61, s_106_62, s_106_65, s_106_67, s_106_68, s_106_69, s_106_71, s_106_74, s_106_75, s_106_76, s_106_77, s_106_78, s_106_79, s_106_80, s_106_81, s_106_82, s_106_85, s_106_86, s_106_88, s_106_91, s_106_93, s_106_96, s_106_97, s_106_100, s_106_101, s_106_102, s_106_105, s_106_106, s_106_107, s_106_110, s_106_111, s_106_112, s_106_115, s_106_117, s_106_118, s_106_121, s_106_124, s_106_125, s_106_128, s_106_129, s_106_130, s_106_131, s_106_132, s_106_135, s_106_136, s_106_137, s_106_140, s_106_141, s_106_144, s_106_145, s_106_148, s_106_149, s_106_152, s_106_153, x_get_i, List.getElem?_cons_succ, List.getElem?_cons_zero, x_cv_j, cs_n, cs_i, cs_r, cs_l, Nat.reduceAdd, Nat.reduceLeDiff, true_and, Option.toList_some, Option.toList_none, List.cons_append, List.nil_append, if_true, if_false, nb0, nb1, x_setJ, x_setZ0, x_setZ1, x_setA, x_setO, List.length_cons, List.length_nil, Nat.reduceLT, List.set_cons_succ, List.set_cons_zero, wrl_0, wrl_1, wrl_2, wrl_3, wrl_4, wrl_5, wrl_p0, wrl_p1, wrl_p2, wrl_p3, wrl_p4, wrl_0, Int32.le_refl]
      show _ ↔ if S.2.2 then (if 60 < c then Q (some (.int (nI 60))) (wrl h q (woc q S.1 T (nI (S.2.1 + 1)))) else Q (some (.int (-1))) (wrl h q (woc q S.1 T (nI (S.2.1 + 1))))) else Q (some (.int (nI (min c 60)))) (wrl h q (woc q S.1 T (nI S.2.1)))
      cases hw : S.2.2 with
      | false => simp only [show bI false = 0 by decide, if_true, Bool.false_eq_true, if_false]
      | true =>
        simp only [show ¬ bI true = 0 by decide, if_false, wrl_p0, s_106_0, s_106_1, s_106_4, s_106_5, s_106_8, s_106_9, s_106_10, s_106_13, s_106_14, s_106_17, s_106_19, s_106_22, s_106_23, s_106_24, s_106_25, s_106_26, s_106_30, s_106_31, s_106_34, s_106_36, s_106_37, s_106_39, s_106_42, s_106_45, s_106_48, s_106_49, s_106_52, s_106_54, s_106_57, s_106_58, s_106_61, s_106_62, s_106_65, s_106_67, s_106_68, s_106_69, s_106_71, s_106_74, s_106_75, s_106_76, s_106_77, s_106_78, s_106_79, s_106_80, s_106_81, s_106_82, s_106_85, s_106_86, s_106_88, s_106_91, s_106_93, s_106_96, s_106_97, s_106_100, s_106_101, s_106_102, s_106_105, s_106_106, s_106_107, s_106_110, s_106_111, s_106_112, s_106_115, s_106_117, s_106_118, s_106_121, s_106_124, s_106_125, s_106_128, s_106_129, s_106_130, s_106_131, s_106_132, s_106_135, s_106_136, s_106_137, s_106_140, s_106_141, s_106_144, s_106_145, s_106_148, s_106_149, s_106_152, s_106_153, x_get_i, List.getElem?_cons_succ, List.getElem?_cons_zero, x_cv_j, cs_n, cs_i, cs_r, cs_l, Nat.reduceAdd, Nat.reduceLeDiff, true_and, Option.toList_some, Option.toList_none, List.cons_append, List.nil_append, if_true, if_false, nb0, nb1, x_setJ, x_setZ0, x_setZ1, x_setA, x_setO, List.length_cons, List.length_nil, Nat.reduceLT, List.set_cons_succ, List.set_cons_zero, wrl_0, wrl_1, wrl_2, wrl_3, wrl_4, wrl_5, wrl_p0, wrl_p1, wrl_p2, wrl_p3, wrl_p4, ht0, tx_size' ht, nI_1]
        by_cases h1 : 60 < c
        · have e1 : min c 60 = 60 := by omega
          rw [e1]
          simp only [show ¬ nI c ≤ nI 60 from nI_ge h1 (by omega), h1, if_true, if_false]
        · have e1 : min c 60 = c := by omega
          rw [e1]
          simp only [Int32.le_refl, h1, if_true, if_false]
    | succ j ih =>
      intro p S hp hS
      have c1 : ¬ nI (min c 60) ≤ nI p := nI_ge (by omega) (by omega)
      have hpc : p < c := by omega
      rw [s_106_28]
      simp only [s_106_0, s_106_1, s_106_4, s_106_5, s_106_8, s_106_9, s_106_10, s_106_13, s_106_14, s_106_17, s_106_19, s_106_22, s_106_23, s_106_24, s_106_25, s_106_26, s_106_30, s_106_31, s_106_34, s_106_36, s_106_37, s_106_39, s_106_42, s_106_45, s_106_48, s_106_49, s_106_52, s_106_54, s_106_57, s_106_58, s_106_61, s_106_62, s_106_65, s_106_67, s_106_68, s_106_69, s_106_71, s_106_74, s_106_75, s_106_76, s_106_77, s_106_78, s_106_79, s_106_80, s_106_81, s_106_82, s_106_85, s_106_86, s_106_88, s_106_91, s_106_93, s_106_96, s_106_97, s_106_100, s_106_101, s_106_102, s_106_105, s_106_106, s_106_107, s_106_110, s_106_111, s_106_112, s_106_115, s_106_117, s_106_118, s_106_121, s_106_124, s_106_125, s_106_128, s_106_129, s_106_130, s_106_131, s_106_132, s_106_135, s_106_136, s_106_137, s_106_140, s_106_141, s_106_144, s_106_145, s_106_148, s_106_149, s_106_152, s_106_153, x_get_i, List.getElem?_cons_succ, List.getElem?_cons_zero, x_cv_j, cs_n, cs_i, cs_r, cs_l, Nat.reduceAdd, Nat.reduceLeDiff, true_and, Option.toList_some, Option.toList_none, List.cons_append, List.nil_append, if_true, if_false, nb0, nb1, x_setJ, x_setZ0, x_setZ1, x_setA, x_setO, List.length_cons, List.length_nil, Nat.reduceLT, List.set_cons_succ, List.set_cons_zero, wrl_0, wrl_1, wrl_2, wrl_3, wrl_4, wrl_5, wrl_p0, wrl_p1, wrl_p2, wrl_p3, wrl_p4, wrl_0, wrl_1, c1, ht0, tx_at' ht hc, m_stands, txa_n hpc hc]
      unfold wrun
      by_cases c2 : txs 108 (F p) = 0
      · simp only [c2, if_true, not_true_eq_false, false_and, if_false]
        by_cases c3 : F p = 59
        · simp only [c3, if_true, true_and]
          cases hw : S.2.2 with
          | false => simp only [show bI false = 0 by decide, if_true, Bool.false_eq_true, if_false]
          | true =>
            simp only [show ¬ bI true = 0 by decide, if_true, if_false, wrl_p0, nI_1]
            exact ih (p + 1) (S.1, S.2.1 + 1, false) (by omega) ⟨hS.2 hw, fun e => nomatch e⟩
        · simp only [c3, if_false, false_and]
      · by_cases c4 : S.2.1 < 8
        · obtain ⟨y, hy, ey⟩ := txs_l0 c2
          have c5 : ¬ (8 : Int32) ≤ nI S.2.1 := nI_ge (b := 8) c4 (by decide)
          have ei : nI S.2.1 * 8 + nI y = nI (S.2.1 * 8 + y) := by
            rw [show (8 : Int32) = nI 8 from rfl, nI_mul, nI_add]
          simp only [c2, c4, c5, if_true, if_false, not_false_eq_true, true_and, ht0, s_106_0, s_106_1, s_106_4, s_106_5, s_106_8, s_106_9, s_106_10, s_106_13, s_106_14, s_106_17, s_106_19, s_106_22, s_106_23, s_106_24, s_106_25, s_106_26, s_106_30, s_106_31, s_106_34, s_106_36, s_106_37, s_106_39, s_106_42, s_106_45, s_106_48, s_106_49, s_106_52, s_106_54, s_106_57, s_106_58, s_106_61, s_106_62, s_106_65, s_106_67, s_106_68, s_106_69, s_106_71, s_106_74, s_106_75, s_106_76, s_106_77, s_106_78, s_106_79, s_106_80, s_106_81, s_106_82, s_106_85, s_106_86, s_106_88, s_106_91, s_106_93, s_106_96, s_106_97, s_106_100, s_106_101, s_106_102, s_106_105, s_106_106, s_106_107, s_106_110, s_106_111, s_106_112, s_106_115, s_106_117, s_106_118, s_106_121, s_106_124, s_106_125, s_106_128, s_106_129, s_106_130, s_106_131, s_106_132, s_106_135, s_106_136, s_106_137, s_106_140, s_106_141, s_106_144, s_106_145, s_106_148, s_106_149, s_106_152, s_106_153, x_get_i, List.getElem?_cons_succ, List.getElem?_cons_zero, x_cv_j, cs_n, cs_i, cs_r, cs_l, Nat.reduceAdd, Nat.reduceLeDiff, true_and, Option.toList_some, Option.toList_none, List.cons_append, List.nil_append, if_true, if_false, nb0, nb1, x_setJ, x_setZ0, x_setZ1, x_setA, x_setO, List.length_cons, List.length_nil, Nat.reduceLT, List.set_cons_succ, List.set_cons_zero, wrl_0, wrl_1, wrl_2, wrl_3, wrl_4, wrl_5, wrl_p0, wrl_p1, wrl_p2, wrl_p3, wrl_p4, tx_letterAt' ht hc, txa_n hpc hc, wrl_1]
          rw [ey, nI_97, ei, nI_clamp (show y < 2 ^ 31 by omega)]
          simp only [x_ild_n (show S.2.1 * 8 + y < 64 by omega) n64, x_ist_n (show S.2.1 * 8 + y < 64 by omega) n64, wrl_p1, nI_1]
          exact ih (p + 1) (upd S.1 (S.2.1 * 8 + y) (S.1 (S.2.1 * 8 + y) + 1), S.2.1, true) (by omega) ⟨hS.1, fun _ => c4⟩
        · have c5 : (8 : Int32) ≤ nI S.2.1 := nI_le (a := 8) (by omega) (by omega)
          have c6 : ¬ F p = 59 := by
            intro e
            rw [e] at c2
            exact c2 (by decide)
          simp only [c2, c4, c5, c6, if_true, if_false, and_false, false_and]
  rw [e_106]
  simp only [s_106_0, s_106_1, s_106_4, s_106_5, s_106_8, s_106_9, s_106_10, s_106_13, s_106_14, s_106_17, s_106_19, s_106_22, s_106_23, s_106_24, s_106_25, s_106_26, s_106_30, s_106_31, s_106_34, s_106_36, s_106_37, s_106_39, s_106_42, s_106_45, s_106_48, s_106_49, s_106_52, s_106_54, s_106_57, s_106_58, s_106_61, s_106_62, s_106_65, s_106_67, s_106_68, s_106_69, s_106_71, s_106_74, s_106_75, s_106_76, s_106_77, s_106_78, s_106_79, s_106_80, s_106_81, s_106_82, s_106_85, s_106_86, s_106_88, s_106_91, s_106_93, s_106_96, s_106_97, s_106_100, s_106_101, s_106_102, s_106_105, s_106_106, s_106_107, s_106_110, s_106_111, s_106_112, s_106_115, s_106_117, s_106_118, s_106_121, s_106_124, s_106_125, s_106_128, s_106_129, s_106_130, s_106_131, s_106_132, s_106_135, s_106_136, s_106_137, s_106_140, s_106_141, s_106_144, s_106_145, s_106_148, s_106_149, s_106_152, s_106_153, x_get_i, List.getElem?_cons_succ, List.getElem?_cons_zero, x_cv_j, cs_n, cs_i, cs_r, cs_l, Nat.reduceAdd, Nat.reduceLeDiff, true_and, Option.toList_some, Option.toList_none, List.cons_append, List.nil_append, if_true, if_false, nb0, nb1, x_setJ, x_setZ0, x_setZ1, x_setA, x_setO, List.length_cons, List.length_nil, Nat.reduceLT, List.set_cons_succ, List.set_cons_zero, wrl_0, wrl_1, wrl_2, wrl_3, wrl_4, wrl_5, wrl_p0, wrl_p1, wrl_p2, wrl_p3, wrl_p4, wrl_0, wrl_1]
  rw [m_fill n64 wrl_1]
  simp only [s_106_0, s_106_1, s_106_4, s_106_5, s_106_8, s_106_9, s_106_10, s_106_13, s_106_14, s_106_17, s_106_19, s_106_22, s_106_23, s_106_24, s_106_25, s_106_26, s_106_30, s_106_31, s_106_34, s_106_36, s_106_37, s_106_39, s_106_42, s_106_45, s_106_48, s_106_49, s_106_52, s_106_54, s_106_57, s_106_58, s_106_61, s_106_62, s_106_65, s_106_67, s_106_68, s_106_69, s_106_71, s_106_74, s_106_75, s_106_76, s_106_77, s_106_78, s_106_79, s_106_80, s_106_81, s_106_82, s_106_85, s_106_86, s_106_88, s_106_91, s_106_93, s_106_96, s_106_97, s_106_100, s_106_101, s_106_102, s_106_105, s_106_106, s_106_107, s_106_110, s_106_111, s_106_112, s_106_115, s_106_117, s_106_118, s_106_121, s_106_124, s_106_125, s_106_128, s_106_129, s_106_130, s_106_131, s_106_132, s_106_135, s_106_136, s_106_137, s_106_140, s_106_141, s_106_144, s_106_145, s_106_148, s_106_149, s_106_152, s_106_153, x_get_i, List.getElem?_cons_succ, List.getElem?_cons_zero, x_cv_j, cs_n, cs_i, cs_r, cs_l, Nat.reduceAdd, Nat.reduceLeDiff, true_and, Option.toList_some, Option.toList_none, List.cons_append, List.nil_append, if_true, if_false, nb0, nb1, x_setJ, x_setZ0, x_setZ1, x_setA, x_setO, List.length_cons, List.length_nil, Nat.reduceLT, List.set_cons_succ, List.set_cons_zero, wrl_0, wrl_1, wrl_2, wrl_3, wrl_4, wrl_5, wrl_p0, wrl_p1, wrl_p2, wrl_p3, wrl_p4, wrl_0, wrl_p1, wrl_p0, ht0, tx_size' ht, em]
  have := loop (min c 60) 0 (fl N 0 64, 0, false) (by omega) ⟨Nat.zero_le _, fun e => nomatch e⟩
  rw [show bI (false : Bool) = 0 by decide, nI_0] at this
  rw [this]
  unfold wread
  split
  · exact Iff.rfl
  · rename_i s heq
    cases s.2.2 with
    | false => simp only [Bool.false_eq_true, if_false]; exact Iff.rfl
    | true =>
      simp only [if_true]
      split <;> exact Iff.rfl
theorem wo_can {z : Nat} (hz : z ≤ 8) (set : Int32) : tm_D (g_G sa sc xt) d 108 [.ref q, .int set] (wrl h q (woc q N T (nI z))) Q ↔ Q (some (.int (bI (wcs N T z set 8 0)))) (wrl h q (woc q N T (nI z))) := by
  have outer : ∀ (j x : Nat) (x3 x4 : Value), x + j = 8 → (tm_X (g_G sa sc xt) d 108 2 [.ref q, .int set, .int (nI x), x3, x4] [] (wrl h q (woc q N T (nI z))) Q ↔ Q (some (.int (bI (wcs N T z set j x)))) (wrl h q (woc q N T (nI z)))) := by
    intro j
    induction j with
    | zero =>
      intro x x3 x4 hx
      have hx : x = 8 := by omega
      subst hx
      rw [s_108_2]
      simp only [s_108_0, s_108_1, s_108_3, s_108_5, s_108_8, s_108_9, s_108_10, s_108_11, s_108_15, s_108_16, s_108_19, s_108_22, s_108_23, s_108_24, s_108_26, s_108_27, s_108_28, s_108_29, s_108_30, s_108_33, s_108_35, s_108_37, s_108_38, s_108_39, s_108_40, s_108_41, s_108_42, s_108_43, s_108_44, s_108_47, s_108_50, s_108_51, s_108_52, s_108_55, s_108_56, s_108_57, s_108_60, s_108_61, s_108_62, s_108_65, s_108_68, s_108_69, x_get_i, List.getElem?_cons_succ, List.getElem?_cons_zero, x_cv_j, cs_n, cs_i, cs_r, cs_l, Nat.reduceAdd, Nat.reduceLeDiff, true_and, Option.toList_some, Option.toList_none, List.cons_append, List.nil_append, if_true, if_false, nb0, nb1, x_setJ, x_setZ0, x_setZ1, x_setA, x_setO, List.length_cons, List.length_nil, Nat.reduceLT, List.set_cons_succ, List.set_cons_zero, wrl_0, wrl_1, wrl_2, wrl_3, wrl_4, wrl_5, wrl_p0, wrl_p1, wrl_p2, wrl_p3, wrl_p4, show (8 : Int32) ≤ nI 8 by decide]
      exact Iff.rfl
    | succ j ih =>
      intro x x3 x4 hx
      have c1 : ¬ (8 : Int32) ≤ nI x := nI_ge (b := 8) (by omega) (by omega)
      have inner : ∀ m w, w + m = z → (tm_X (g_G sa sc xt) d 108 13 [.ref q, .int set, .int (nI x), .int (wnd N set x w), .int (nI w)] [] (wrl h q (woc q N T (nI z))) Q ↔ Q (some (.int (bI (wcs N T z set (j + 1) x)))) (wrl h q (woc q N T (nI z)))) := by
        intro m
        induction m with
        | zero =>
          intro w hw
          have hw : w = z := by omega
          subst hw
          rw [s_108_13]
          simp only [s_108_0, s_108_1, s_108_3, s_108_5, s_108_8, s_108_9, s_108_10, s_108_11, s_108_15, s_108_16, s_108_19, s_108_22, s_108_23, s_108_24, s_108_26, s_108_27, s_108_28, s_108_29, s_108_30, s_108_33, s_108_35, s_108_37, s_108_38, s_108_39, s_108_40, s_108_41, s_108_42, s_108_43, s_108_44, s_108_47, s_108_50, s_108_51, s_108_52, s_108_55, s_108_56, s_108_57, s_108_60, s_108_61, s_108_62, s_108_65, s_108_68, s_108_69, x_get_i, List.getElem?_cons_succ, List.getElem?_cons_zero, x_cv_j, cs_n, cs_i, cs_r, cs_l, Nat.reduceAdd, Nat.reduceLeDiff, true_and, Option.toList_some, Option.toList_none, List.cons_append, List.nil_append, if_true, if_false, nb0, nb1, x_setJ, x_setZ0, x_setZ1, x_setA, x_setO, List.length_cons, List.length_nil, Nat.reduceLT, List.set_cons_succ, List.set_cons_zero, wrl_0, wrl_1, wrl_2, wrl_3, wrl_4, wrl_5, wrl_p0, wrl_p1, wrl_p2, wrl_p3, wrl_p4, wrl_0, wrl_2, Int32.le_refl, x_ild_n (show x < 8 by omega) n8]
          unfold wcs
          by_cases c2 : wnd N set x w ≤ T x
          · simp only [c2, if_true, nI_1]
            exact ih (x + 1) _ _ (by omega)
          · simp only [c2, if_false]
            exact Iff.rfl
        | succ m ihm =>
          intro w hw
          have es : wnd N set x (w + 1) = wnd N set x w + ((set >>> (nI w &&& 31)) &&& 1) * N (w * 8 + x) := rfl
          have ei : nI w * 8 + nI x = nI (w * 8 + x) := by
            rw [show (8 : Int32) = nI 8 from rfl, nI_mul, nI_add]
          rw [← ihm (w + 1) (by omega), s_108_13, es]
          simp only [s_108_0, s_108_1, s_108_3, s_108_5, s_108_8, s_108_9, s_108_10, s_108_11, s_108_15, s_108_16, s_108_19, s_108_22, s_108_23, s_108_24, s_108_26, s_108_27, s_108_28, s_108_29, s_108_30, s_108_33, s_108_35, s_108_37, s_108_38, s_108_39, s_108_40, s_108_41, s_108_42, s_108_43, s_108_44, s_108_47, s_108_50, s_108_51, s_108_52, s_108_55, s_108_56, s_108_57, s_108_60, s_108_61, s_108_62, s_108_65, s_108_68, s_108_69, x_get_i, List.getElem?_cons_succ, List.getElem?_cons_zero, x_cv_j, cs_n, cs_i, cs_r, cs_l, Nat.reduceAdd, Nat.reduceLeDiff, true_and, Option.toList_some, Option.toList_none, List.cons_append, List.nil_append, if_true, if_false, nb0, nb1, x_setJ, x_setZ0, x_setZ1, x_setA, x_setO, List.length_cons, List.length_nil, Nat.reduceLT, List.set_cons_succ, List.set_cons_zero, wrl_0, wrl_1, wrl_2, wrl_3, wrl_4, wrl_5, wrl_p0, wrl_p1, wrl_p2, wrl_p3, wrl_p4, wrl_0, wrl_1, show ¬ nI z ≤ nI w from nI_ge (by omega) (by omega), ei, x_ild_n (show w * 8 + x < 64 by omega) n64, nI_1]
      rw [s_108_2]
      simp only [s_108_0, s_108_1, s_108_3, s_108_5, s_108_8, s_108_9, s_108_10, s_108_11, s_108_15, s_108_16, s_108_19, s_108_22, s_108_23, s_108_24, s_108_26, s_108_27, s_108_28, s_108_29, s_108_30, s_108_33, s_108_35, s_108_37, s_108_38, s_108_39, s_108_40, s_108_41, s_108_42, s_108_43, s_108_44, s_108_47, s_108_50, s_108_51, s_108_52, s_108_55, s_108_56, s_108_57, s_108_60, s_108_61, s_108_62, s_108_65, s_108_68, s_108_69, x_get_i, List.getElem?_cons_succ, List.getElem?_cons_zero, x_cv_j, cs_n, cs_i, cs_r, cs_l, Nat.reduceAdd, Nat.reduceLeDiff, true_and, Option.toList_some, Option.toList_none, List.cons_append, List.nil_append, if_true, if_false, nb0, nb1, x_setJ, x_setZ0, x_setZ1, x_setA, x_setO, List.length_cons, List.length_nil, Nat.reduceLT, List.set_cons_succ, List.set_cons_zero, wrl_0, wrl_1, wrl_2, wrl_3, wrl_4, wrl_5, wrl_p0, wrl_p1, wrl_p2, wrl_p3, wrl_p4, c1]
      exact inner z 0 (by omega)
  rw [e_108]
  simp only [s_108_0, s_108_1, s_108_3, s_108_5, s_108_8, s_108_9, s_108_10, s_108_11, s_108_15, s_108_16, s_108_19, s_108_22, s_108_23, s_108_24, s_108_26, s_108_27, s_108_28, s_108_29, s_108_30, s_108_33, s_108_35, s_108_37, s_108_38, s_108_39, s_108_40, s_108_41, s_108_42, s_108_43, s_108_44, s_108_47, s_108_50, s_108_51, s_108_52, s_108_55, s_108_56, s_108_57, s_108_60, s_108_61, s_108_62, s_108_65, s_108_68, s_108_69]
  exact outer 8 0 _ _ (by omega)
theorem wo_most {z : Nat} (hT : tc_at h k L W M B (nI n) s g) (hn : n ≤ 12) (hd : k + 7 ≤ q ∨ q + 3 ≤ k) (hz : z ≤ 8) : tm_D (g_G sa sc xt) (d + 3) 107 [.ref q, .ref k] (wrl h q (woc q N T (nI z))) Q ↔ Q (some (.int (wbs N (wT T L n s 8) z (2 ^ z - 1) 1 0))) (wrl h q (woc q N (wT T L n s 8) (nI z))) := by
  have ht : ∀ {T : Nat → Int32}, tc_at (wrl h q (woc q N T (nI z))) k L W M B (nI n) s g := fun {T} => tc_at_same (fun x h1 h2 => wrl_o (by show _ ∨ q + 3 ≤ x; omega)) hT
  have ht0 : ∀ {T : Nat → Int32}, (wrl h q (woc q N T (nI z))).2.2 k = _ := fun {T} => (ht (T := T)).1
  have e2 : (1 : Int32) <<< (nI z &&& 31) = nI (2 ^ z) ∧ 2 ^ z ≤ 256 ∧ 1 ≤ 2 ^ z := by
    have : ∀ z : Fin 9, (1 : Int32) <<< (nI z.1 &&& 31) = nI (2 ^ z.1) ∧ 2 ^ z.1 ≤ 256 ∧ 1 ≤ 2 ^ z.1 := by decide +kernel
    exact this ⟨z, by omega⟩
  obtain ⟨e2, e3, e4⟩ := e2
  have loop2 : ∀ (j i : Nat) (b : Int32), i + j = 2 ^ z → (tm_X (g_G sa sc xt) (d + 3) 107 29 [.ref q, .ref k, .int b, .int (nI i)] [] (wrl h q (woc q N (wT T L n s 8) (nI z))) Q ↔ Q (some (.int (wbs N (wT T L n s 8) z j i b))) (wrl h q (woc q N (wT T L n s 8) (nI z)))) := by
    intro j
    induction j with
    | zero =>
      intro i b hi
      have hi : i = 2 ^ z := by omega
      rw [s_107_29]
      simp only [s_107_0, s_107_1, s_107_3, s_107_5, s_107_8, s_107_9, s_107_12, s_107_13, s_107_14, s_107_15, s_107_18, s_107_19, s_107_22, s_107_25, s_107_26, s_107_27, s_107_28, s_107_30, s_107_31, s_107_32, s_107_35, s_107_36, s_107_39, s_107_40, s_107_43, s_107_44, s_107_47, s_107_50, s_107_51, s_107_52, s_107_55, s_107_58, s_107_59, s_107_60, s_107_63, s_107_66, s_107_67, x_get_i, List.getElem?_cons_succ, List.getElem?_cons_zero, x_cv_j, cs_n, cs_i, cs_r, cs_l, Nat.reduceAdd, Nat.reduceLeDiff, true_and, Option.toList_some, Option.toList_none, List.cons_append, List.nil_append, if_true, if_false, nb0, nb1, x_setJ, x_setZ0, x_setZ1, x_setA, x_setO, List.length_cons, List.length_nil, Nat.reduceLT, List.set_cons_succ, List.set_cons_zero, wrl_0, wrl_1, wrl_2, wrl_3, wrl_4, wrl_5, wrl_p0, wrl_p1, wrl_p2, wrl_p3, wrl_p4, wrl_0, e2, hi, Int32.le_refl]
      exact Iff.rfl
    | succ j ih =>
      intro i b hi
      rw [s_107_29]
      simp only [s_107_0, s_107_1, s_107_3, s_107_5, s_107_8, s_107_9, s_107_12, s_107_13, s_107_14, s_107_15, s_107_18, s_107_19, s_107_22, s_107_25, s_107_26, s_107_27, s_107_28, s_107_30, s_107_31, s_107_32, s_107_35, s_107_36, s_107_39, s_107_40, s_107_43, s_107_44, s_107_47, s_107_50, s_107_51, s_107_52, s_107_55, s_107_58, s_107_59, s_107_60, s_107_63, s_107_66, s_107_67, x_get_i, List.getElem?_cons_succ, List.getElem?_cons_zero, x_cv_j, cs_n, cs_i, cs_r, cs_l, Nat.reduceAdd, Nat.reduceLeDiff, true_and, Option.toList_some, Option.toList_none, List.cons_append, List.nil_append, if_true, if_false, nb0, nb1, x_setJ, x_setZ0, x_setZ1, x_setA, x_setO, List.length_cons, List.length_nil, Nat.reduceLT, List.set_cons_succ, List.set_cons_zero, wrl_0, wrl_1, wrl_2, wrl_3, wrl_4, wrl_5, wrl_p0, wrl_p1, wrl_p2, wrl_p3, wrl_p4, wrl_0, e2, show ¬ nI (2 ^ z) ≤ nI i from nI_ge (by omega) (by omega), m_bitCount, wo_can hz, nI_1]
      unfold wbs
      by_cases c1 : ibc (nI i) ≤ ibc b
      · simp only [c1, if_true]
        exact ih (i + 1) b (by omega)
      · simp only [c1, if_false]
        cases wcs N (wT T L n s 8) z (nI i) 8 0 with
        | false =>
          simp only [show bI false = 0 by decide, if_true, Bool.false_eq_true, if_false]
          exact ih (i + 1) b (by omega)
        | true =>
          simp only [show ¬ bI true = 0 by decide, if_false, if_true]
          exact ih (i + 1) (nI i) (by omega)
  have loop1 : ∀ (j i : Nat) (x3 : Value), i + j = 8 → (tm_X (g_G sa sc xt) (d + 3) 107 2 [.ref q, .ref k, .int (nI i), x3] [] (wrl h q (woc q N (wT T L n s i) (nI z))) Q ↔ Q (some (.int (wbs N (wT T L n s 8) z (2 ^ z - 1) 1 0))) (wrl h q (woc q N (wT T L n s 8) (nI z)))) := by
    intro j
    induction j with
    | zero =>
      intro i x3 hi
      have hi : i = 8 := by omega
      subst hi
      rw [s_107_2]
      simp only [s_107_0, s_107_1, s_107_3, s_107_5, s_107_8, s_107_9, s_107_12, s_107_13, s_107_14, s_107_15, s_107_18, s_107_19, s_107_22, s_107_25, s_107_26, s_107_27, s_107_28, s_107_30, s_107_31, s_107_32, s_107_35, s_107_36, s_107_39, s_107_40, s_107_43, s_107_44, s_107_47, s_107_50, s_107_51, s_107_52, s_107_55, s_107_58, s_107_59, s_107_60, s_107_63, s_107_66, s_107_67, x_get_i, List.getElem?_cons_succ, List.getElem?_cons_zero, x_cv_j, cs_n, cs_i, cs_r, cs_l, Nat.reduceAdd, Nat.reduceLeDiff, true_and, Option.toList_some, Option.toList_none, List.cons_append, List.nil_append, if_true, if_false, nb0, nb1, x_setJ, x_setZ0, x_setZ1, x_setA, x_setO, List.length_cons, List.length_nil, Nat.reduceLT, List.set_cons_succ, List.set_cons_zero, wrl_0, wrl_1, wrl_2, wrl_3, wrl_4, wrl_5, wrl_p0, wrl_p1, wrl_p2, wrl_p3, wrl_p4, show (8 : Int32) ≤ nI 8 by decide]
      exact loop2 (2 ^ z - 1) 1 0 (by omega)
    | succ j ih =>
      intro i x3 hi
      have h8 : i < 8 := by omega
      rw [← ih (i + 1) x3 (by omega), s_107_2]
      simp only [s_107_0, s_107_1, s_107_3, s_107_5, s_107_8, s_107_9, s_107_12, s_107_13, s_107_14, s_107_15, s_107_18, s_107_19, s_107_22, s_107_25, s_107_26, s_107_27, s_107_28, s_107_30, s_107_31, s_107_32, s_107_35, s_107_36, s_107_39, s_107_40, s_107_43, s_107_44, s_107_47, s_107_50, s_107_51, s_107_52, s_107_55, s_107_58, s_107_59, s_107_60, s_107_63, s_107_66, s_107_67, x_get_i, List.getElem?_cons_succ, List.getElem?_cons_zero, x_cv_j, cs_n, cs_i, cs_r, cs_l, Nat.reduceAdd, Nat.reduceLeDiff, true_and, Option.toList_some, Option.toList_none, List.cons_append, List.nil_append, if_true, if_false, nb0, nb1, x_setJ, x_setZ0, x_setZ1, x_setA, x_setO, List.length_cons, List.length_nil, Nat.reduceLT, List.set_cons_succ, List.set_cons_zero, wrl_0, wrl_1, wrl_2, wrl_3, wrl_4, wrl_5, wrl_p0, wrl_p1, wrl_p2, wrl_p3, wrl_p4, show ¬ (8 : Int32) ≤ nI i from nI_ge (b := 8) h8 (by omega), wrl_0, wrl_2, ht0, tc_freeOf ht hn, x_ist_n h8 n8, wrl_p2, wT_s, nI_1]
  rw [e_107]
  simp only [s_107_0, s_107_1, s_107_3, s_107_5, s_107_8, s_107_9, s_107_12, s_107_13, s_107_14, s_107_15, s_107_18, s_107_19, s_107_22, s_107_25, s_107_26, s_107_27, s_107_28, s_107_30, s_107_31, s_107_32, s_107_35, s_107_36, s_107_39, s_107_40, s_107_43, s_107_44, s_107_47, s_107_50, s_107_51, s_107_52, s_107_55, s_107_58, s_107_59, s_107_60, s_107_63, s_107_66, s_107_67]
  exact loop1 8 0 _ (by omega)
end
