/-! calls of the class: years, blows -/
theorem yst_wf {cd : List Int32} {a : TN × Int32} (h : WFT a.1) : WFT (yst cd a).1 ∧ (yst cd a).1.2.2.2.2.1 = a.1.2.2.2.2.1 := by
  unfold yst
  split
  · exact ⟨WFT_nXT h, rfl⟩
  split
  · exact ⟨h, rfl⟩
  split
  · exact ⟨h, rfl⟩
  split
  · exact ⟨h, rfl⟩
  · obtain ⟨y, hy, e⟩ := dof_n (x := drw (drw (drw a.2))) (n := 8) (by decide) (by decide)
    refine ⟨⟨h.1, h.2.1, ?_⟩, rfl⟩
    have e : dof (drw (drw (drw a.2))) 8 = nI y := e
    show BX _ (upd _ _ (dof (drw (drw (drw a.2))) 8))
    rw [e]
    exact BX_upd h.2.2 hy
/-- sorts of a set are cleaned -/
def clM (set : Int32) (M : Nat → Int32) : Nat → Nat → Int32 := fo (fun i X => if (set >>> (nI i &&& 31)) &&& 1 = 1 then upd X i 0 else X) M
/-- are the moods of members at most v from 0 -/
def cal (mem v : Int32) (M : Nat → Int32) : Nat → Nat → Bool
  | 0, _ => true
  | j + 1, i => if (mem >>> (nI i &&& 31)) &&& 1 = 1 then (if iabs (M i) ≤ v then cal mem v M j (i + 1) else false) else cal mem v M j (i + 1)
/-- does it calm: members, a set to be cleaned, nights -/
def clm (cd : List Int32) (mem v : Int32) (m : Nat) (X : TN) (set : Int32) : Bool := cal mem v (nXT cd mem m (X.1, X.2.1, clM set X.2.2.1 X.2.2.2.2.1, X.2.2.2)).2.2.1 X.2.2.2.2.1 0
def moo (mem : Int32) (M : Nat → Int32) : Nat → Int32 := fo (fun i a => if (mem >>> (nI i &&& 31)) &&& 1 = 1 then (if M i = 0 then a else a ||| (1 <<< (nI i &&& 31))) else a) 0
theorem moo_low {mem : Int32} {M : Nat → Int32} {i : Nat} (h1 : 12 ≤ i) (h2 : i < 32) : ∀ n, n ≤ 12 → bt (moo mem M n) i = false
  | 0, _ => bt_0
  | n + 1, hn => by
    have es : moo mem M (n + 1) = if (mem >>> (nI n &&& 31)) &&& 1 = 1 then (if M n = 0 then moo mem M n else moo mem M n ||| (1 <<< (nI n &&& 31))) else moo mem M n := rfl
    have ih := moo_low (mem := mem) (M := M) h1 h2 n (by omega)
    rw [es]
    split
    · split
      · exact ih
      · rw [bt_or, ih, bt_one (by omega) h2, decide_eq_false (by omega)]; rfl
    · exact ih
/-- the first set of j from x on with k bits that calms -/
def few1 (ok : Nat → Bool) (mo : Int32) (k : Int32) : Nat → Nat → Option Nat
  | 0, _ => none
  | j + 1, x => if nI x &&& (mo ^^^ (-1)) = 0 then (if ibc (nI x) = k then (if ok x then some x else few1 ok mo k j (x + 1)) else few1 ok mo k j (x + 1)) else few1 ok mo k j (x + 1)
def few2 (ok : Nat → Bool) (mo : Int32) (q : Nat) : Nat → Nat → Option Nat
  | 0, _ => none
  | j + 1, k => match few1 ok mo (nI k) (q + 1) 0 with
    | some x => some x
    | none => few2 ok mo q j (k + 1)
/-- how many of the first bits are there -/
def pcn (q : Nat) : Nat → Nat := fo (fun i c => c + (if q.testBit i then 1 else 0)) 0
theorem pcn_le {q : Nat} : ∀ i, pcn q i ≤ i
  | 0 => Nat.le_refl _
  | i + 1 => by
    have := pcn_le (q := q) i
    show pcn q i + (if q.testBit i then 1 else 0) ≤ i + 1
    split <;> omega
set_option maxRecDepth 10000 in
theorem ibc_64 : ∀ a : Fin 64, ∀ b : Fin 64, ibc (nI (64 * a.1 + b.1)) = nI (pcn (64 * a.1 + b.1) 12) := by decide +kernel
theorem ibc_p {q : Nat} (hq : q < 4096) : ibc (nI q) = nI (pcn q 12) := by
  have := ibc_64 ⟨q / 64, by omega⟩ ⟨q % 64, Nat.mod_lt _ (by decide)⟩
  have e : 64 * (q / 64) + q % 64 = q := Nat.div_add_mod q 64
  dsimp only at this
  rwa [e] at this
theorem ibc_13 {q : Nat} (hq : q < 4096) : ∃ k, k ≤ 12 ∧ ibc (nI q) = nI k := ⟨pcn q 12, pcn_le 12, ibc_p hq⟩
/-- the fewest sorts of a box to be cleaned -/
def ftc (cd : List Int32) (X : TN) (mem : Int32) (m : Nat) (v : Int32) : Option Nat := few2 (fun x => clm cd mem v m X (nI x)) (moo mem X.2.2.1 X.2.2.2.2.1) (moo mem X.2.2.1 X.2.2.2.2.1).toNatClampNeg ((ibc (moo mem X.2.2.1 X.2.2.2.2.1)).toNatClampNeg + 1) 0
/-- boxes from x on -/
def blo (cd : List Int32) (X : TN) (m : Nat) (v : Int32) : Nat → Nat → Int32 → Option Int32
  | 0, _, a => some a
  | j + 1, x, a => match ftc cd X (tc_wh X.2.2.2.1 (nI x) X.2.2.2.2.1) m v with
    | none => none
    | some q => blo cd X m v j (x + 1) (a ||| nI q)
section
variable {sa : g_SA} {sc : Nat × Nat × (Nat → Int32)} {xt : Nat → Nat → List Value → tm_H → Option (Option Value × tm_H)} {d b : Nat} {h : tm_H} {Q : Option Value → tm_H → Prop}
variable {tx : Nat × (Nat → Int32)} {rw : Nat × (Nat → Int64)} {nw : TN} {pa : Nat × Nat × (Nat → TN) × (Nat → TN) × (Nat → Int32)} {ru : Nat × Nat × List Int32} {he : Nat × (Nat → Int32)} {mi : Nat × (Nat → Int32) × (Nat → Int32) × (Nat → Int32)} {ga : Nat}
variable {c n m : Nat} {F L W M B H Ms Bs Os : Nat → Int32} {s g : Int32} {rc hc mc : Nat} {R : Nat → Int64} {r1 r2 : Nat} {cd0 : List Int32}
set_option maxHeartbeats 1000000 in
theorem c_year {i : Nat} {v dr : Int32} {hz : tm_H} {x5 x6 : Value} (hn : nw.2.2.2.2.1 ≤ 12) (hm : m ≤ 60) (hWz : CW sa hz b tx (rc, R) nw pa ru he mi ga) (tz : tca hz (b + 12) (tcT (L, W, M, B, nw.2.2.2.2.1, s, g))) (wf : WFT (L, W, M, B, nw.2.2.2.2.1, s, g)) (him : i < m) (go : ∀ (a' : TN × Int32) (hy : tm_H) (x5 x6 : Value), a' = yst ru.2.2 ((L, W, M, B, nw.2.2.2.2.1, s, g), dr) → sm b (b + 162) hz hy → CW sa hy b tx (rc, R) nw pa ru he mi ga → tca hy (b + 12) (tcT a'.1) → tm_X (g_G sa sc xt) (d + 4) 151 29 [.ref b, .int v, .int (nI m), .int a'.2, .int (nI (i + 1)), x5, x6] [] hy Q) : tm_X (g_G sa sc xt) (d + 4) 151 29 [.ref b, .int v, .int (nI m), .int dr, .int (nI i), x5, x6] [] hz Q := by
  have o_z := hWz.1
  have hTz : tc_at hz (b + 12) L W M B (nI nw.2.2.2.2.1) s g := tz
  obtain ⟨y0, y1, y2, y3, y4, -, -⟩ := id hTz
  unfold yst at go
  dsimp only at go
  rw [s_151_29]
  simp only [s_151_0, s_151_1, s_151_2, s_151_5, s_151_6, s_151_8, s_151_11, s_151_12, s_151_13, s_151_14, s_151_17, s_151_18, s_151_21, s_151_24, s_151_25, s_151_26, s_151_27, s_151_31, s_151_32, s_151_35, s_151_36, s_151_39, s_151_40, s_151_41, s_151_42, s_151_45, s_151_47, s_151_49, s_151_50, s_151_53, s_151_54, s_151_57, s_151_58, s_151_61, s_151_62, s_151_65, s_151_68, s_151_71, s_151_72, s_151_75, s_151_76, s_151_79, s_151_82, s_151_85, s_151_86, s_151_89, s_151_90, s_151_91, s_151_92, s_151_95, s_151_98, s_151_101, s_151_103, s_151_104, s_151_107, s_151_108, s_151_110, s_151_111, s_151_114, s_151_115, s_151_118, s_151_121, s_151_123, s_151_124, s_151_126, s_151_129, s_151_131, s_151_132, s_151_133, s_151_136, s_151_137, s_151_140, s_151_142, s_151_143, s_151_145, s_151_148, s_151_151, s_151_152, s_151_155, s_151_158, s_151_159, s_151_162, s_151_165, s_151_166, s_151_169, s_151_172, s_151_173, s_151_174, s_151_177, s_151_178, s_151_181, s_151_184, x_get_i, List.getElem?_cons_succ, List.getElem?_cons_zero, x_cv_j, cs_n, cs_i, cs_r, cs_l, Nat.reduceAdd, Nat.reduceLeDiff, true_and, Option.toList_some, Option.toList_none, List.cons_append, List.nil_append, if_true, if_false, nb0, nb1, x_setJ, x_setZ0, x_setZ1, x_setA, x_setO, List.length_cons, List.length_nil, Nat.reduceLT, List.set_cons_succ, List.set_cons_zero, wrl_0, wrl_1, wrl_2, wrl_3, wrl_4, wrl_5, wrl_p0, wrl_p1, wrl_p2, wrl_p3, wrl_p4, show ¬ nI m ≤ nI i from nI_ge (by omega) (by omega), c_draw, c_dof, o_z, y0]
  by_cases d1 : dof (drw dr) 4 < 2
  · simp only [show ¬ 2 ≤ dof (drw dr) 4 from Int32.not_le.mpr d1, if_false, tc_all hTz, s_151_0, s_151_1, s_151_2, s_151_5, s_151_6, s_151_8, s_151_11, s_151_12, s_151_13, s_151_14, s_151_17, s_151_18, s_151_21, s_151_24, s_151_25, s_151_26, s_151_27, s_151_31, s_151_32, s_151_35, s_151_36, s_151_39, s_151_40, s_151_41, s_151_42, s_151_45, s_151_47, s_151_49, s_151_50, s_151_53, s_151_54, s_151_57, s_151_58, s_151_61, s_151_62, s_151_65, s_151_68, s_151_71, s_151_72, s_151_75, s_151_76, s_151_79, s_151_82, s_151_85, s_151_86, s_151_89, s_151_90, s_151_91, s_151_92, s_151_95, s_151_98, s_151_101, s_151_103, s_151_104, s_151_107, s_151_108, s_151_110, s_151_111, s_151_114, s_151_115, s_151_118, s_151_121, s_151_123, s_151_124, s_151_126, s_151_129, s_151_131, s_151_132, s_151_133, s_151_136, s_151_137, s_151_140, s_151_142, s_151_143, s_151_145, s_151_148, s_151_151, s_151_152, s_151_155, s_151_158, s_151_159, s_151_162, s_151_165, s_151_166, s_151_169, s_151_172, s_151_173, s_151_174, s_151_177, s_151_178, s_151_181, s_151_184, x_get_i, List.getElem?_cons_succ, List.getElem?_cons_zero, x_cv_j, cs_n, cs_i, cs_r, cs_l, Nat.reduceAdd, Nat.reduceLeDiff, true_and, Option.toList_some, Option.toList_none, List.cons_append, List.nil_append, if_true, if_false, nb0, nb1, x_setJ, x_setZ0, x_setZ1, x_setA, x_setO, List.length_cons, List.length_nil, Nat.reduceLT, List.set_cons_succ, List.set_cons_zero, wrl_0, wrl_1, wrl_2, wrl_3, wrl_4, wrl_5, wrl_p0, wrl_p1, wrl_p2, wrl_p3, wrl_p4, y0]
    rw [if_pos d1] at go
    refine c_nightH hWz tz wf (fun hy sy hWy ty _ => ?_)
    simp only [s_151_0, s_151_1, s_151_2, s_151_5, s_151_6, s_151_8, s_151_11, s_151_12, s_151_13, s_151_14, s_151_17, s_151_18, s_151_21, s_151_24, s_151_25, s_151_26, s_151_27, s_151_31, s_151_32, s_151_35, s_151_36, s_151_39, s_151_40, s_151_41, s_151_42, s_151_45, s_151_47, s_151_49, s_151_50, s_151_53, s_151_54, s_151_57, s_151_58, s_151_61, s_151_62, s_151_65, s_151_68, s_151_71, s_151_72, s_151_75, s_151_76, s_151_79, s_151_82, s_151_85, s_151_86, s_151_89, s_151_90, s_151_91, s_151_92, s_151_95, s_151_98, s_151_101, s_151_103, s_151_104, s_151_107, s_151_108, s_151_110, s_151_111, s_151_114, s_151_115, s_151_118, s_151_121, s_151_123, s_151_124, s_151_126, s_151_129, s_151_131, s_151_132, s_151_133, s_151_136, s_151_137, s_151_140, s_151_142, s_151_143, s_151_145, s_151_148, s_151_151, s_151_152, s_151_155, s_151_158, s_151_159, s_151_162, s_151_165, s_151_166, s_151_169, s_151_172, s_151_173, s_151_174, s_151_177, s_151_178, s_151_181, s_151_184, x_get_i, List.getElem?_cons_succ, List.getElem?_cons_zero, x_cv_j, cs_n, cs_i, cs_r, cs_l, Nat.reduceAdd, Nat.reduceLeDiff, true_and, Option.toList_some, Option.toList_none, List.cons_append, List.nil_append, if_true, if_false, nb0, nb1, x_setJ, x_setZ0, x_setZ1, x_setA, x_setO, List.length_cons, List.length_nil, Nat.reduceLT, List.set_cons_succ, List.set_cons_zero, wrl_0, wrl_1, wrl_2, wrl_3, wrl_4, wrl_5, wrl_p0, wrl_p1, wrl_p2, wrl_p3, wrl_p4, nI_1]
    exact go (nXT ru.2.2 (tc_allv (nI nw.2.2.2.2.1)) 1 (L, W, M, B, nw.2.2.2.2.1, s, g), drw dr) hy _ _ rfl (sy) hWy ty
  rw [if_neg d1] at go
  simp only [show 2 ≤ dof (drw dr) 4 from Int32.not_lt.mp d1, if_true]
  by_cases d2 : nw.2.2.2.2.1 = 0
  · rw [if_pos d2] at go
    simp only [show nI nw.2.2.2.2.1 ≤ 0 by rw [d2]; decide, if_true, nI_1]
    exact go ((L, W, M, B, nw.2.2.2.2.1, s, g), drw dr) hz _ _ rfl sm.rfl hWz tz
  rw [if_neg d2] at go
  obtain ⟨k, hk, ek⟩ := dof_n (x := drw (drw dr)) (n := nw.2.2.2.2.1) (by omega) (by omega)
  rw [ek, nI_clamp (by omega)] at go
  simp only [show ¬ nI nw.2.2.2.2.1 ≤ 0 from nI_nle (by omega) (by omega), if_false, s_151_0, s_151_1, s_151_2, s_151_5, s_151_6, s_151_8, s_151_11, s_151_12, s_151_13, s_151_14, s_151_17, s_151_18, s_151_21, s_151_24, s_151_25, s_151_26, s_151_27, s_151_31, s_151_32, s_151_35, s_151_36, s_151_39, s_151_40, s_151_41, s_151_42, s_151_45, s_151_47, s_151_49, s_151_50, s_151_53, s_151_54, s_151_57, s_151_58, s_151_61, s_151_62, s_151_65, s_151_68, s_151_71, s_151_72, s_151_75, s_151_76, s_151_79, s_151_82, s_151_85, s_151_86, s_151_89, s_151_90, s_151_91, s_151_92, s_151_95, s_151_98, s_151_101, s_151_103, s_151_104, s_151_107, s_151_108, s_151_110, s_151_111, s_151_114, s_151_115, s_151_118, s_151_121, s_151_123, s_151_124, s_151_126, s_151_129, s_151_131, s_151_132, s_151_133, s_151_136, s_151_137, s_151_140, s_151_142, s_151_143, s_151_145, s_151_148, s_151_151, s_151_152, s_151_155, s_151_158, s_151_159, s_151_162, s_151_165, s_151_166, s_151_169, s_151_172, s_151_173, s_151_174, s_151_177, s_151_178, s_151_181, s_151_184, x_get_i, List.getElem?_cons_succ, List.getElem?_cons_zero, x_cv_j, cs_n, cs_i, cs_r, cs_l, Nat.reduceAdd, Nat.reduceLeDiff, true_and, Option.toList_some, Option.toList_none, List.cons_append, List.nil_append, if_true, if_false, nb0, nb1, x_setJ, x_setZ0, x_setZ1, x_setA, x_setO, List.length_cons, List.length_nil, Nat.reduceLT, List.set_cons_succ, List.set_cons_zero, wrl_0, wrl_1, wrl_2, wrl_3, wrl_4, wrl_5, wrl_p0, wrl_p1, wrl_p2, wrl_p3, wrl_p4, c_draw, c_dof, o_z, y0, ek]
  by_cases d3 : dof (drw dr) 4 = 2
  · rw [if_pos d3] at go
    simp only [d3, if_true, s_151_0, s_151_1, s_151_2, s_151_5, s_151_6, s_151_8, s_151_11, s_151_12, s_151_13, s_151_14, s_151_17, s_151_18, s_151_21, s_151_24, s_151_25, s_151_26, s_151_27, s_151_31, s_151_32, s_151_35, s_151_36, s_151_39, s_151_40, s_151_41, s_151_42, s_151_45, s_151_47, s_151_49, s_151_50, s_151_53, s_151_54, s_151_57, s_151_58, s_151_61, s_151_62, s_151_65, s_151_68, s_151_71, s_151_72, s_151_75, s_151_76, s_151_79, s_151_82, s_151_85, s_151_86, s_151_89, s_151_90, s_151_91, s_151_92, s_151_95, s_151_98, s_151_101, s_151_103, s_151_104, s_151_107, s_151_108, s_151_110, s_151_111, s_151_114, s_151_115, s_151_118, s_151_121, s_151_123, s_151_124, s_151_126, s_151_129, s_151_131, s_151_132, s_151_133, s_151_136, s_151_137, s_151_140, s_151_142, s_151_143, s_151_145, s_151_148, s_151_151, s_151_152, s_151_155, s_151_158, s_151_159, s_151_162, s_151_165, s_151_166, s_151_169, s_151_172, s_151_173, s_151_174, s_151_177, s_151_178, s_151_181, s_151_184, x_get_i, List.getElem?_cons_succ, List.getElem?_cons_zero, x_cv_j, cs_n, cs_i, cs_r, cs_l, Nat.reduceAdd, Nat.reduceLeDiff, true_and, Option.toList_some, Option.toList_none, List.cons_append, List.nil_append, if_true, if_false, nb0, nb1, x_setJ, x_setZ0, x_setZ1, x_setA, x_setO, List.length_cons, List.length_nil, Nat.reduceLT, List.set_cons_succ, List.set_cons_zero, wrl_0, wrl_1, wrl_2, wrl_3, wrl_4, wrl_5, wrl_p0, wrl_p1, wrl_p2, wrl_p3, wrl_p4, c_dof, o_z, y0, y3, x_ist_n (show k < 12 by omega) n12, nI_1]
    obtain ⟨a0, b0, e0⟩ := tcp_eta hTz
    have e3 : tm_put hz (b + 12 + 3) (.inl (0, 12, .inl (upd M k (dof (drw (drw (drw dr))) 19 - 9)))) = tcp hz (b + 12) L W (upd M k (dof (drw (drw (drw dr))) 19 - 9)) B (nI nw.2.2.2.2.1) s g a0 b0 := by
      conv => lhs; rw [e0]
      exact tcp_p3
    rw [e3]
    have s1 : sm (b + 12) (b + 19) hz (tcp hz (b + 12) L W (upd M k (dof (drw (drw (drw dr))) 19 - 9)) B (nI nw.2.2.2.2.1) s g a0 b0) := sm_tcp (Nat.le_refl _) (Nat.le_refl _)
    have t1 : tca (tcp hz (b + 12) L W (upd M k (dof (drw (drw (drw dr))) 19 - 9)) B (nI nw.2.2.2.2.1) s g a0 b0) (b + 12) (tcT (L, W, upd M k (dof (drw (drw (drw dr))) 19 - 9), B, nw.2.2.2.2.1, s, g)) := tcp_at
    exact go ((L, W, upd M k (dof (drw (drw (drw dr))) 19 - 9), B, nw.2.2.2.2.1, s, g), drw (drw (drw dr))) _ _ _ rfl (s1.mono (by omega) (by omega)) (CW_h hWz s1 ⟨_, t1⟩) t1
  rw [if_neg d3] at go
  simp only [d3, if_false, s_151_0, s_151_1, s_151_2, s_151_5, s_151_6, s_151_8, s_151_11, s_151_12, s_151_13, s_151_14, s_151_17, s_151_18, s_151_21, s_151_24, s_151_25, s_151_26, s_151_27, s_151_31, s_151_32, s_151_35, s_151_36, s_151_39, s_151_40, s_151_41, s_151_42, s_151_45, s_151_47, s_151_49, s_151_50, s_151_53, s_151_54, s_151_57, s_151_58, s_151_61, s_151_62, s_151_65, s_151_68, s_151_71, s_151_72, s_151_75, s_151_76, s_151_79, s_151_82, s_151_85, s_151_86, s_151_89, s_151_90, s_151_91, s_151_92, s_151_95, s_151_98, s_151_101, s_151_103, s_151_104, s_151_107, s_151_108, s_151_110, s_151_111, s_151_114, s_151_115, s_151_118, s_151_121, s_151_123, s_151_124, s_151_126, s_151_129, s_151_131, s_151_132, s_151_133, s_151_136, s_151_137, s_151_140, s_151_142, s_151_143, s_151_145, s_151_148, s_151_151, s_151_152, s_151_155, s_151_158, s_151_159, s_151_162, s_151_165, s_151_166, s_151_169, s_151_172, s_151_173, s_151_174, s_151_177, s_151_178, s_151_181, s_151_184, x_get_i, List.getElem?_cons_succ, List.getElem?_cons_zero, x_cv_j, cs_n, cs_i, cs_r, cs_l, Nat.reduceAdd, Nat.reduceLeDiff, true_and, Option.toList_some, Option.toList_none, List.cons_append, List.nil_append, if_true, if_false, nb0, nb1, x_setJ, x_setZ0, x_setZ1, x_setA, x_setO, List.length_cons, List.length_nil, Nat.reduceLT, List.set_cons_succ, List.set_cons_zero, wrl_0, wrl_1, wrl_2, wrl_3, wrl_4, wrl_5, wrl_p0, wrl_p1, wrl_p2, wrl_p3, wrl_p4, c_dof, o_z, y0]
  obtain ⟨y, hy8, ey⟩ := dof_n (x := drw (drw (drw dr))) (n := 8) (by decide) (by decide)
  have ey : dof (drw (drw (drw dr))) 8 = nI y := ey
  rw [ey] at go ⊢
  have hbx := boxI.mpr ⟨y, hy8, rfl⟩
  by_cases d4 : (s >>> (nI k &&& 31)) &&& 1 = 1
  · rw [if_pos d4] at go
    refine tca_call (T := tcT (L, W, M, B, nw.2.2.2.2.1, s, g)) (T' := tcT (L, W, M, B, nw.2.2.2.2.1, s, g)) (r := some (.int (-2))) tz (fun a b' Q => ?_) (fun hy s1 t1 => ?_)
    · have hm := tc_move1 (sa := sa) (sc := sc) (xt := xt) (d := d + 2) (h := hz) (k := b + 12) (L := L) (W := W) (M := M) (B := B) (s := s) (g := g) (a := a) (b := b') (Q := Q) hn hk hbx
      rw [if_pos d4] at hm
      exact hm
    · simp only [s_151_0, s_151_1, s_151_2, s_151_5, s_151_6, s_151_8, s_151_11, s_151_12, s_151_13, s_151_14, s_151_17, s_151_18, s_151_21, s_151_24, s_151_25, s_151_26, s_151_27, s_151_31, s_151_32, s_151_35, s_151_36, s_151_39, s_151_40, s_151_41, s_151_42, s_151_45, s_151_47, s_151_49, s_151_50, s_151_53, s_151_54, s_151_57, s_151_58, s_151_61, s_151_62, s_151_65, s_151_68, s_151_71, s_151_72, s_151_75, s_151_76, s_151_79, s_151_82, s_151_85, s_151_86, s_151_89, s_151_90, s_151_91, s_151_92, s_151_95, s_151_98, s_151_101, s_151_103, s_151_104, s_151_107, s_151_108, s_151_110, s_151_111, s_151_114, s_151_115, s_151_118, s_151_121, s_151_123, s_151_124, s_151_126, s_151_129, s_151_131, s_151_132, s_151_133, s_151_136, s_151_137, s_151_140, s_151_142, s_151_143, s_151_145, s_151_148, s_151_151, s_151_152, s_151_155, s_151_158, s_151_159, s_151_162, s_151_165, s_151_166, s_151_169, s_151_172, s_151_173, s_151_174, s_151_177, s_151_178, s_151_181, s_151_184, x_get_i, List.getElem?_cons_succ, List.getElem?_cons_zero, x_cv_j, cs_n, cs_i, cs_r, cs_l, Nat.reduceAdd, Nat.reduceLeDiff, true_and, Option.toList_some, Option.toList_none, List.cons_append, List.nil_append, if_true, if_false, nb0, nb1, x_setJ, x_setZ0, x_setZ1, x_setA, x_setO, List.length_cons, List.length_nil, Nat.reduceLT, List.set_cons_succ, List.set_cons_zero, wrl_0, wrl_1, wrl_2, wrl_3, wrl_4, wrl_5, wrl_p0, wrl_p1, wrl_p2, wrl_p3, wrl_p4, nI_1]
      exact go ((L, W, M, B, nw.2.2.2.2.1, s, g), drw (drw (drw dr))) hy _ _ rfl (s1.mono (by omega) (by omega)) (CW_h hWz s1 ⟨_, t1⟩) t1
  · rw [if_neg d4] at go
    by_cases d5 : B k = nI y
    · refine tca_call (T := tcT (L, W, M, B, nw.2.2.2.2.1, s, g)) (T' := tcT (L, W, M, B, nw.2.2.2.2.1, s, g)) (r := some (.int (-3))) tz (fun a b' Q => ?_) (fun hy s1 t1 => ?_)
      · have hm := tc_move1 (sa := sa) (sc := sc) (xt := xt) (d := d + 2) (h := hz) (k := b + 12) (L := L) (W := W) (M := M) (B := B) (s := s) (g := g) (a := a) (b := b') (Q := Q) hn hk hbx
        rw [if_neg d4, if_pos d5] at hm
        exact hm
      · simp only [s_151_0, s_151_1, s_151_2, s_151_5, s_151_6, s_151_8, s_151_11, s_151_12, s_151_13, s_151_14, s_151_17, s_151_18, s_151_21, s_151_24, s_151_25, s_151_26, s_151_27, s_151_31, s_151_32, s_151_35, s_151_36, s_151_39, s_151_40, s_151_41, s_151_42, s_151_45, s_151_47, s_151_49, s_151_50, s_151_53, s_151_54, s_151_57, s_151_58, s_151_61, s_151_62, s_151_65, s_151_68, s_151_71, s_151_72, s_151_75, s_151_76, s_151_79, s_151_82, s_151_85, s_151_86, s_151_89, s_151_90, s_151_91, s_151_92, s_151_95, s_151_98, s_151_101, s_151_103, s_151_104, s_151_107, s_151_108, s_151_110, s_151_111, s_151_114, s_151_115, s_151_118, s_151_121, s_151_123, s_151_124, s_151_126, s_151_129, s_151_131, s_151_132, s_151_133, s_151_136, s_151_137, s_151_140, s_151_142, s_151_143, s_151_145, s_151_148, s_151_151, s_151_152, s_151_155, s_151_158, s_151_159, s_151_162, s_151_165, s_151_166, s_151_169, s_151_172, s_151_173, s_151_174, s_151_177, s_151_178, s_151_181, s_151_184, x_get_i, List.getElem?_cons_succ, List.getElem?_cons_zero, x_cv_j, cs_n, cs_i, cs_r, cs_l, Nat.reduceAdd, Nat.reduceLeDiff, true_and, Option.toList_some, Option.toList_none, List.cons_append, List.nil_append, if_true, if_false, nb0, nb1, x_setJ, x_setZ0, x_setZ1, x_setA, x_setO, List.length_cons, List.length_nil, Nat.reduceLT, List.set_cons_succ, List.set_cons_zero, wrl_0, wrl_1, wrl_2, wrl_3, wrl_4, wrl_5, wrl_p0, wrl_p1, wrl_p2, wrl_p3, wrl_p4, nI_1]
        rw [upd_same d5] at go
        exact go ((L, W, M, B, nw.2.2.2.2.1, s, g), drw (drw (drw dr))) hy _ _ rfl (s1.mono (by omega) (by omega)) (CW_h hWz s1 ⟨_, t1⟩) t1
    · refine tca_call (T := tcT (L, W, M, B, nw.2.2.2.2.1, s, g)) (T' := tcT (L, W, M, upd B k (nI y), nw.2.2.2.2.1, s, g)) (r := some (.int (10 + B k))) tz (fun a b' Q => ?_) (fun hy s1 t1 => ?_)
      · have hm := tc_move1 (sa := sa) (sc := sc) (xt := xt) (d := d + 2) (h := hz) (k := b + 12) (L := L) (W := W) (M := M) (B := B) (s := s) (g := g) (a := a) (b := b') (Q := Q) hn hk hbx
        rw [if_neg d4, if_neg d5] at hm
        exact hm
      · simp only [s_151_0, s_151_1, s_151_2, s_151_5, s_151_6, s_151_8, s_151_11, s_151_12, s_151_13, s_151_14, s_151_17, s_151_18, s_151_21, s_151_24, s_151_25, s_151_26, s_151_27, s_151_31, s_151_32, s_151_35, s_151_36, s_151_39, s_151_40, s_151_41, s_151_42, s_151_45, s_151_47, s_151_49, s_151_50, s_151_53, s_151_54, s_151_57, s_151_58, s_151_61, s_151_62, s_151_65, s_151_68, s_151_71, s_151_72, s_151_75, s_151_76, s_151_79, s_151_82, s_151_85, s_151_86, s_151_89, s_151_90, s_151_91, s_151_92, s_151_95, s_151_98, s_151_101, s_151_103, s_151_104, s_151_107, s_151_108, s_151_110, s_151_111, s_151_114, s_151_115, s_151_118, s_151_121, s_151_123, s_151_124, s_151_126, s_151_129, s_151_131, s_151_132, s_151_133, s_151_136, s_151_137, s_151_140, s_151_142, s_151_143, s_151_145, s_151_148, s_151_151, s_151_152, s_151_155, s_151_158, s_151_159, s_151_162, s_151_165, s_151_166, s_151_169, s_151_172, s_151_173, s_151_174, s_151_177, s_151_178, s_151_181, s_151_184, x_get_i, List.getElem?_cons_succ, List.getElem?_cons_zero, x_cv_j, cs_n, cs_i, cs_r, cs_l, Nat.reduceAdd, Nat.reduceLeDiff, true_and, Option.toList_some, Option.toList_none, List.cons_append, List.nil_append, if_true, if_false, nb0, nb1, x_setJ, x_setZ0, x_setZ1, x_setA, x_setO, List.length_cons, List.length_nil, Nat.reduceLT, List.set_cons_succ, List.set_cons_zero, wrl_0, wrl_1, wrl_2, wrl_3, wrl_4, wrl_5, wrl_p0, wrl_p1, wrl_p2, wrl_p3, wrl_p4, nI_1]
        exact go ((L, W, M, upd B k (nI y), nw.2.2.2.2.1, s, g), drw (drw (drw dr))) hy _ _ rfl (s1.mono (by omega) (by omega)) (CW_h hWz s1 ⟨_, t1⟩) t1
set_option maxHeartbeats 1000000 in
theorem c_years (hW : CW sa h b tx (rc, R) nw pa ru he mi ga) (v w : Int32) (h1 : (w < 1 ∨ 60 < w) → Q (some (.int (-1))) h) (h2 : ∀ m h', 1 ≤ m → m ≤ 60 → w = nI m → sm b (b + 162) h h' → CW sa h' b tx (rw1 R (200 + tc_mo (itf (yst ru.2.2) m (nw, v)).1.2.2.1 (tc_allv (nI nw.2.2.2.2.1)) nw.2.2.2.2.1).toInt64) nw pa ru he mi ga → Q (some (.int (tc_home (itf (yst ru.2.2) m (nw, v)).1.1 (itf (yst ru.2.2) m (nw, v)).1.2.2.2.1 nw.2.2.2.2.1))) h') : tm_D (g_G sa sc xt) (d + 4) 151 [.ref b, .int v, .int w] h Q := by
  obtain ⟨w_o, w_t, w_r, w_n, w_h, w_l, w_b, w_p, w_u, w_v, w_a, w_e, w_w, w_x, w_q, w_m, w_g, w_d, w_s⟩ := id hW
  have o_0 := hW.1
  have a_0 : h.2.2 (b + 1) = .inr (8, _) := hW.2.1.1.1
  have c_0 : h.2.2 (b + 3) = .inr (5, _) := cel_0 hW.2.2.1.1
  have n_0 : h.2.2 (b + 5) = .inr (9, _) := hW.2.2.2.1.1.1
  have p_0 : h.2.2 (b + 33) = .inr (6, _) := hW.2.2.2.2.2.2.2.1.1.1
  have q_0 : h.2.2 (b + 152) = .inr (2, _) := cel_0 hW.2.2.2.2.2.2.2.2.2.2.2.2.2.2.1.1
  obtain ⟨_, mm_0⟩ := hW.2.2.2.2.2.2.2.2.2.2.2.2.2.2.2.1.1
  have m_0 : h.2.2 (b + 154) = .inr (4, _) := cel_0 mm_0
  have g_0 : h.2.2 (b + 159) = .inr (1, _) := cel_0 hW.2.2.2.2.2.2.2.2.2.2.2.2.2.2.2.2.1.1
  have hn : nw.2.2.2.2.1 ≤ 12 := w_n.2.1
  obtain ⟨Th, hTh⟩ := w_h
  have x0 : h.2.2 (b + 12) = .inr (9, _) := hTh.1
  rw [e_151]
  simp only [s_151_0, s_151_1, s_151_2, s_151_5, s_151_6, s_151_8, s_151_11, s_151_12, s_151_13, s_151_14, s_151_17, s_151_18, s_151_21, s_151_24, s_151_25, s_151_26, s_151_27, s_151_31, s_151_32, s_151_35, s_151_36, s_151_39, s_151_40, s_151_41, s_151_42, s_151_45, s_151_47, s_151_49, s_151_50, s_151_53, s_151_54, s_151_57, s_151_58, s_151_61, s_151_62, s_151_65, s_151_68, s_151_71, s_151_72, s_151_75, s_151_76, s_151_79, s_151_82, s_151_85, s_151_86, s_151_89, s_151_90, s_151_91, s_151_92, s_151_95, s_151_98, s_151_101, s_151_103, s_151_104, s_151_107, s_151_108, s_151_110, s_151_111, s_151_114, s_151_115, s_151_118, s_151_121, s_151_123, s_151_124, s_151_126, s_151_129, s_151_131, s_151_132, s_151_133, s_151_136, s_151_137, s_151_140, s_151_142, s_151_143, s_151_145, s_151_148, s_151_151, s_151_152, s_151_155, s_151_158, s_151_159, s_151_162, s_151_165, s_151_166, s_151_169, s_151_172, s_151_173, s_151_174, s_151_177, s_151_178, s_151_181, s_151_184, x_get_i, List.getElem?_cons_succ, List.getElem?_cons_zero, x_cv_j, cs_n, cs_i, cs_r, cs_l, Nat.reduceAdd, Nat.reduceLeDiff, true_and, Option.toList_some, Option.toList_none, List.cons_append, List.nil_append, if_true, if_false, nb0, nb1, x_setJ, x_setZ0, x_setZ1, x_setA, x_setO, List.length_cons, List.length_nil, Nat.reduceLT, List.set_cons_succ, List.set_cons_zero, wrl_0, wrl_1, wrl_2, wrl_3, wrl_4, wrl_5, wrl_p0, wrl_p1, wrl_p2, wrl_p3, wrl_p4, o_0, n_0, x0]
  by_cases k1 : w < 1
  · simp only [k1, if_true]
    exact h1 (Or.inl k1)
  by_cases k2 : w ≤ 60
  · have k0 : ¬ w < 0 := by
      intro q
      apply k1
      rw [Int32.lt_iff_toInt_lt] at q ⊢
      exact Int.lt_trans q (by decide)
    obtain ⟨m, hm, em⟩ := nI_of2 (n := 60) (by decide) k0 k2
    subst em
    have hm1 : 1 ≤ m := by
      apply Classical.byContradiction
      intro q
      have : m = 0 := by omega
      subst this
      exact k1 (by decide)
    simp only [k1, k2, if_true, if_false]
    refine c_copyH hW (fun ha sA hWa tA => ?_)
    have loop : ∀ (j i : Nat) (a : TN × Int32) (hz : tm_H) (x5 x6 : Value), i + j = m → WFT a.1 → a.1.2.2.2.2.1 = nw.2.2.2.2.1 → sm b (b + 162) h hz → CW sa hz b tx (rc, R) nw pa ru he mi ga → tca hz (b + 12) (tcT a.1) → itf (yst ru.2.2) m (nw, v) = itf (yst ru.2.2) j a → tm_X (g_G sa sc xt) (d + 4) 151 29 [.ref b, .int v, .int (nI m), .int a.2, .int (nI i), x5, x6] [] hz Q := by
      intro j
      induction j with
      | zero =>
        intro i a hz x5 x6 hi wf en sz hWz tz er
        have hi : i = m := by omega
        subst hi
        rw [itf_0] at er
        have h2 := h2 i
        rw [er] at h2
        obtain ⟨X, dr⟩ := a
        obtain ⟨L, W, M, B, n, s, g⟩ := X
        dsimp only at en tz wf h2
        subst en
        have o_z := hWz.1
        have a_z : hz.2.2 (b + 1) = .inr (8, _) := hWz.2.1.1.1
        have c_z : hz.2.2 (b + 3) = .inr (5, _) := cel_0 hWz.2.2.1.1
        have n_z : hz.2.2 (b + 5) = .inr (9, _) := hWz.2.2.2.1.1.1
        have p_z : hz.2.2 (b + 33) = .inr (6, _) := hWz.2.2.2.2.2.2.2.1.1.1
        have q_z : hz.2.2 (b + 152) = .inr (2, _) := cel_0 hWz.2.2.2.2.2.2.2.2.2.2.2.2.2.2.1.1
        obtain ⟨_, mm_z⟩ := hWz.2.2.2.2.2.2.2.2.2.2.2.2.2.2.2.1.1
        have m_z : hz.2.2 (b + 154) = .inr (4, _) := cel_0 mm_z
        have g_z : hz.2.2 (b + 159) = .inr (1, _) := cel_0 hWz.2.2.2.2.2.2.2.2.2.2.2.2.2.2.2.2.1.1
        have hTz : tc_at hz (b + 12) L W M B (nI nw.2.2.2.2.1) s g := tz
        have y0 := hTz.1
        rw [s_151_29]
        simp only [s_151_0, s_151_1, s_151_2, s_151_5, s_151_6, s_151_8, s_151_11, s_151_12, s_151_13, s_151_14, s_151_17, s_151_18, s_151_21, s_151_24, s_151_25, s_151_26, s_151_27, s_151_31, s_151_32, s_151_35, s_151_36, s_151_39, s_151_40, s_151_41, s_151_42, s_151_45, s_151_47, s_151_49, s_151_50, s_151_53, s_151_54, s_151_57, s_151_58, s_151_61, s_151_62, s_151_65, s_151_68, s_151_71, s_151_72, s_151_75, s_151_76, s_151_79, s_151_82, s_151_85, s_151_86, s_151_89, s_151_90, s_151_91, s_151_92, s_151_95, s_151_98, s_151_101, s_151_103, s_151_104, s_151_107, s_151_108, s_151_110, s_151_111, s_151_114, s_151_115, s_151_118, s_151_121, s_151_123, s_151_124, s_151_126, s_151_129, s_151_131, s_151_132, s_151_133, s_151_136, s_151_137, s_151_140, s_151_142, s_151_143, s_151_145, s_151_148, s_151_151, s_151_152, s_151_155, s_151_158, s_151_159, s_151_162, s_151_165, s_151_166, s_151_169, s_151_172, s_151_173, s_151_174, s_151_177, s_151_178, s_151_181, s_151_184, x_get_i, List.getElem?_cons_succ, List.getElem?_cons_zero, x_cv_j, cs_n, cs_i, cs_r, cs_l, Nat.reduceAdd, Nat.reduceLeDiff, true_and, Option.toList_some, Option.toList_none, List.cons_append, List.nil_append, if_true, if_false, nb0, nb1, x_setJ, x_setZ0, x_setZ1, x_setA, x_setO, List.length_cons, List.length_nil, Nat.reduceLT, List.set_cons_succ, List.set_cons_zero, wrl_0, wrl_1, wrl_2, wrl_3, wrl_4, wrl_5, wrl_p0, wrl_p1, wrl_p2, wrl_p3, wrl_p4, Int32.le_refl, o_z, c_z, y0, tc_moodsOfAll hTz hn]
        refine c_tell1 hWz _ (fun hy sy hWy => ?_)
        have o_y := hWy.1
        have hTy := tc_at_same (fun q h1 h2 => sy.2.2 q (by omega)) hTz
        have y1 := hTy.1
        simp only [s_151_0, s_151_1, s_151_2, s_151_5, s_151_6, s_151_8, s_151_11, s_151_12, s_151_13, s_151_14, s_151_17, s_151_18, s_151_21, s_151_24, s_151_25, s_151_26, s_151_27, s_151_31, s_151_32, s_151_35, s_151_36, s_151_39, s_151_40, s_151_41, s_151_42, s_151_45, s_151_47, s_151_49, s_151_50, s_151_53, s_151_54, s_151_57, s_151_58, s_151_61, s_151_62, s_151_65, s_151_68, s_151_71, s_151_72, s_151_75, s_151_76, s_151_79, s_151_82, s_151_85, s_151_86, s_151_89, s_151_90, s_151_91, s_151_92, s_151_95, s_151_98, s_151_101, s_151_103, s_151_104, s_151_107, s_151_108, s_151_110, s_151_111, s_151_114, s_151_115, s_151_118, s_151_121, s_151_123, s_151_124, s_151_126, s_151_129, s_151_131, s_151_132, s_151_133, s_151_136, s_151_137, s_151_140, s_151_142, s_151_143, s_151_145, s_151_148, s_151_151, s_151_152, s_151_155, s_151_158, s_151_159, s_151_162, s_151_165, s_151_166, s_151_169, s_151_172, s_151_173, s_151_174, s_151_177, s_151_178, s_151_181, s_151_184, x_get_i, List.getElem?_cons_succ, List.getElem?_cons_zero, x_cv_j, cs_n, cs_i, cs_r, cs_l, Nat.reduceAdd, Nat.reduceLeDiff, true_and, Option.toList_some, Option.toList_none, List.cons_append, List.nil_append, if_true, if_false, nb0, nb1, x_setJ, x_setZ0, x_setZ1, x_setA, x_setO, List.length_cons, List.length_nil, Nat.reduceLT, List.set_cons_succ, List.set_cons_zero, wrl_0, wrl_1, wrl_2, wrl_3, wrl_4, wrl_5, wrl_p0, wrl_p1, wrl_p2, wrl_p3, wrl_p4, o_y, y1, tc_atHome hTy hn]
        exact h2 hy hm1 hm rfl (sz.trans (sy.mono (by omega) (by omega))) hWy
      | succ j ih =>
        intro i a hz x5 x6 hi wf en sz hWz tz er
        rw [itf_s] at er
        have hwf := yst_wf (cd := ru.2.2) wf
        have go : ∀ (a' : TN × Int32) (hy : tm_H) (x5 x6 : Value), a' = yst ru.2.2 a → sm b (b + 162) h hy → CW sa hy b tx (rc, R) nw pa ru he mi ga → tca hy (b + 12) (tcT a'.1) → tm_X (g_G sa sc xt) (d + 4) 151 29 [.ref b, .int v, .int (nI m), .int a'.2, .int (nI (i + 1)), x5, x6] [] hy Q := by
          intro a' hy x5 x6 ea sy hWy ty
          subst ea
          exact ih (i + 1) (yst ru.2.2 a) hy x5 x6 (by omega) hwf.1 (hwf.2.trans en) sy hWy ty er
        clear ih er hwf
        obtain ⟨X, dr⟩ := a
        obtain ⟨L, W, M, B, n, s, g⟩ := X
        dsimp only at en tz wf go
        subst en
        exact c_year (m := m) hn hm hWz tz wf (by omega) (fun a' hy x5 x6 ea sy hWy ty => go a' hy x5 x6 ea (sz.trans sy) hWy ty)
    simp only [s_151_0, s_151_1, s_151_2, s_151_5, s_151_6, s_151_8, s_151_11, s_151_12, s_151_13, s_151_14, s_151_17, s_151_18, s_151_21, s_151_24, s_151_25, s_151_26, s_151_27, s_151_31, s_151_32, s_151_35, s_151_36, s_151_39, s_151_40, s_151_41, s_151_42, s_151_45, s_151_47, s_151_49, s_151_50, s_151_53, s_151_54, s_151_57, s_151_58, s_151_61, s_151_62, s_151_65, s_151_68, s_151_71, s_151_72, s_151_75, s_151_76, s_151_79, s_151_82, s_151_85, s_151_86, s_151_89, s_151_90, s_151_91, s_151_92, s_151_95, s_151_98, s_151_101, s_151_103, s_151_104, s_151_107, s_151_108, s_151_110, s_151_111, s_151_114, s_151_115, s_151_118, s_151_121, s_151_123, s_151_124, s_151_126, s_151_129, s_151_131, s_151_132, s_151_133, s_151_136, s_151_137, s_151_140, s_151_142, s_151_143, s_151_145, s_151_148, s_151_151, s_151_152, s_151_155, s_151_158, s_151_159, s_151_162, s_151_165, s_151_166, s_151_169, s_151_172, s_151_173, s_151_174, s_151_177, s_151_178, s_151_181, s_151_184, x_get_i, List.getElem?_cons_succ, List.getElem?_cons_zero, x_cv_j, cs_n, cs_i, cs_r, cs_l, Nat.reduceAdd, Nat.reduceLeDiff, true_and, Option.toList_some, Option.toList_none, List.cons_append, List.nil_append, if_true, if_false, nb0, nb1, x_setJ, x_setZ0, x_setZ1, x_setA, x_setO, List.length_cons, List.length_nil, Nat.reduceLT, List.set_cons_succ, List.set_cons_zero, wrl_0, wrl_1, wrl_2, wrl_3, wrl_4, wrl_5, wrl_p0, wrl_p1, wrl_p2, wrl_p3, wrl_p4]
    have := loop m 0 (nw, v) ha tm_z tm_z (by omega) w_n.2 rfl (sA.mono (by omega) (by omega)) hWa tA (Eq.refl _)
    rw [nI_0] at this
    exact this
  · simp only [k1, k2, if_false]
    exact h1 (Or.inr (Int32.not_le.mp k2))
end
