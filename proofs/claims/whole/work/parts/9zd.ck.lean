/-! the catching calls do what they are said to do -/
def g_kx (M : Nat) (e : tm_N) : Bool := match e with
  | (.invokevirtual _, a, _) => Nat.blt a 1000
  | (.invokespecial _, a, _) => Nat.blt a 1000
  | (.invokestatic k, a, b) => Nat.blt a 1000 || (Nat.beq M 0 && ((Nat.beq a 1004 && Nat.beq k 45 && Nat.beq b 4) || (Nat.beq a 1005 && Nat.beq k 54 && Nat.beq b 4) || (Nat.beq a 1006 && Nat.beq k 215 && Nat.beq b 3)))
  | _ => true
set_option maxRecDepth 100000 in
theorem g_kx_t : ((List.range 306).all fun M => (g_ct M).all fun q => g_kx M q.2) = true := by decide +kernel
theorem lookup_mem {α : Type} {k : Nat} {v : α} : ∀ {l : List (Nat × α)}, l.lookup k = some v → (k, v) ∈ l
  | [], h => by cases h
  | (a, b) :: l, h => by
    rw [List.lookup_cons] at h
    split at h
    · rename_i c
      have c : k = a := by simpa using c
      cases h
      rw [c]
      exact List.mem_cons_self
    · exact List.mem_cons_of_mem _ (lookup_mem h)
theorem g_kx_all {M pc : Nat} {e : tm_N} (h : g_ft M pc = some e) : g_kx M e = true := by
  have hm : (pc, e) ∈ g_ct M := lookup_mem h
  by_cases c : M < 306
  · have h1 := List.all_eq_true.mp g_kx_t M (List.mem_range.mpr c)
    exact List.all_eq_true.mp h1 _ hm
  · exfalso
    have : g_ct M = [] := by
      unfold g_ct
      rw [show Nat.blt M 306 = false from by
        cases hb : Nat.blt M 306 with
        | false => rfl
        | true => exact absurd (Nat.le_of_ble_eq_true hb) (by omega)]
      rfl
    rw [this] at hm
    cases hm
theorem g_kx_s {M pc k a b : Nat} (h : g_ft M pc = some (.invokestatic k, a, b)) (ha : 1000 ≤ a) : M = 0 ∧ ((a = 1004 ∧ k = 45 ∧ b = 4) ∨ (a = 1005 ∧ k = 54 ∧ b = 4) ∨ (a = 1006 ∧ k = 215 ∧ b = 3)) := by
  have h1 := g_kx_all h
  have h2 : Nat.blt a 1000 = false := by
    cases hb : Nat.blt a 1000 with
    | false => rfl
    | true => exact absurd (Nat.le_of_ble_eq_true hb) (by omega)
  have h1 : (Nat.blt a 1000 || (Nat.beq M 0 && ((Nat.beq a 1004 && Nat.beq k 45 && Nat.beq b 4) || (Nat.beq a 1005 && Nat.beq k 54 && Nat.beq b 4) || (Nat.beq a 1006 && Nat.beq k 215 && Nat.beq b 3)))) = true := h1
  rw [h2, Bool.false_or, Bool.and_eq_true] at h1
  refine ⟨Nat.eq_of_beq_eq_true h1.1, ?_⟩
  have h3 := h1.2
  rw [Bool.or_eq_true, Bool.or_eq_true] at h3
  simp only [Bool.and_eq_true] at h3
  rcases h3 with (⟨⟨e1, e2⟩, e3⟩ | ⟨⟨e1, e2⟩, e3⟩) | ⟨⟨e1, e2⟩, e3⟩
  · exact Or.inl ⟨Nat.eq_of_beq_eq_true e1, Nat.eq_of_beq_eq_true e2, Nat.eq_of_beq_eq_true e3⟩
  · exact Or.inr (Or.inl ⟨Nat.eq_of_beq_eq_true e1, Nat.eq_of_beq_eq_true e2, Nat.eq_of_beq_eq_true e3⟩)
  · exact Or.inr (Or.inr ⟨Nat.eq_of_beq_eq_true e1, Nat.eq_of_beq_eq_true e2, Nat.eq_of_beq_eq_true e3⟩)
theorem g_kx_v {M pc k a b : Nat} (h : g_ft M pc = some (.invokevirtual k, a, b)) : a < 1000 := Nat.le_of_ble_eq_true (g_kx_all h)
theorem g_kx_i {M pc k a b : Nat} (h : g_ft M pc = some (.invokespecial k, a, b)) : a < 1000 := Nat.le_of_ble_eq_true (g_kx_all h)
/-- a call of a method of 1000 and on: where it stands, what it pops -/
theorem kx_where {sa : g_SA} {sc : Nat × Nat × (Nat → Int32)} {xt : Nat → Nat → List Value → tm_H → Option (Option Value × tm_H)} {d M pc mi a b : Nat} {i : Instr} {ls st as rest : List Value} {h : tm_H} (hft : tm_ft (g_G sa sc xt) M pc = some (i, a, b)) (hmi : 1000 ≤ mi) (hs : tm_stp (g_G sa sc xt) d (i, a, b) pc ls st h = some (.inr (.inr (mi, as, rest)))) : M = 0 ∧ a = mi ∧ (∃ k, i = .invokestatic k ∧ ((a = 1004 ∧ k = 45 ∧ b = 4) ∨ (a = 1005 ∧ k = 54 ∧ b = 4) ∨ (a = 1006 ∧ k = 215 ∧ b = 3))) ∧ st = as.reverse ++ rest ∧ as.length = b ∧ tm_cs rest ≤ 8 := by
  have hft : g_ft M pc = some (i, a, b) := hft
  have hpop : ∀ (n : Nat) (st : List Value), st = (tm_pop n st).1.reverse ++ (tm_pop n st).2 := fun n st => by simp [tm_pop]
  rcases tm_only hs with ⟨k, rfl⟩ | ⟨k, rfl⟩ | ⟨k, rfl⟩
  · exfalso
    have ha := g_kx_v hft
    simp only [tm_stp, tm_cv] at hs
    split at hs
    · split at hs
      · omega
      · split at hs
        · split at hs
          · cases hs
            omega
          · cases hs
        · split at hs
          · cases hs
            omega
          · cases hs
        · cases hs
    · cases hs
  · exfalso
    have ha := g_kx_i hft
    simp only [tm_stp] at hs
    split at hs
    · unfold tm_oi at hs
      split at hs
      · split at hs <;> cases hs
      · cases hs
    · unfold tm_ci at hs
      split at hs
      · split at hs
        · cases hs
          omega
        · cases hs
      · cases hs
  · simp only [tm_stp] at hs
    split at hs
    · unfold tm_cp at hs
      split at hs
      · split at hs
        · split at hs <;> cases hs
        · cases hs
      · cases hs
    split at hs
    · unfold tm_mx at hs
      split at hs
      · split at hs <;> cases hs
      · cases hs
    split at hs
    · unfold tm_mn at hs
      split at hs
      · split at hs <;> cases hs
      · cases hs
    split at hs
    · unfold tm_ab at hs
      split at hs
      · split at hs <;> cases hs
      · cases hs
    · unfold tm_ca at hs
      split at hs
      rename_i as' r' hp
      split at hs
      · rename_i hcd
        cases hs
        obtain ⟨z1, z2⟩ := g_kx_s hft hmi
        refine ⟨z1, rfl, ⟨k, rfl, z2⟩, ?_, hcd.1, hcd.2⟩
        have := hpop b st
        rw [hp] at this
        exact this
      · cases hs
section
variable {sa : g_SA} {sc : Nat × Nat × (Nat → Int32)} {xt : Nat → Nat → List Value → tm_H → Option (Option Value × tm_H)} {D : va_G} {tc : Nat → ClassId} {lo : Nat} {l : Launch} {mi d : Nat} {as : List Value} {h h' : tm_H} {r : Option Value}
def kMet (sa : g_SA) (sc : Nat × Nat × (Nat → Int32)) (D : va_G) (tc : Nat → ClassId) (lo : Nat) (l : Launch) (y : MethodName) (cc : ByteArray) (mL : Nat) (hh : List (Nat × Nat × Nat × Nat)) (d : Nat) (as : List Value) (h : tm_H) (r : Option Value) (h' : tm_H) : Prop := Met l y (Cond.codeWith y cc mL (some .int) hh :: g_tbl) (tm_rm d (h'.1 - h.1) (h'.2.1 - h.2.1)) (tm_Pc g_cl D tc lo RX9 (EXq lo sa sc) as h) (tm_Qc g_cl D tc lo r h') (h'.1 - h.1) (h'.2.1 - h.2.1) (fun q => lo ≤ q)
theorem kx_ck {y : MethodName} {cc : ByteArray} {mL k n : Nat} {hh : List (Nat × Nat × Nat × Nat)} (hmi : 1000 ≤ mi) (hy : y.cls = RL) (hdesc : (parseMethodDescriptor y.desc).map (fun d => d.parameters.length) = some n) (w5 : Cond.methodLink RL k y ∈ g_tbl) (w6 : Cond.static y ∈ g_tbl) (w7 : Cond.codeWith y cc mL (some .int) hh ∈ g_tbl) (hmL : mL ≤ 22) (hk : ∀ k' b, ((mi = 1004 ∧ k' = 45 ∧ b = 4) ∨ (mi = 1005 ∧ k' = 54 ∧ b = 4) ∨ (mi = 1006 ∧ k' = 215 ∧ b = 3)) → k' = k ∧ b = n) (hM : kMet sa sc D tc lo l y cc mL hh d as h r h') (hm : h.1 ≤ h'.1 ∧ h.2.1 ≤ h'.2.1) : tm_CK (g_G sa sc xt) g_cl g_tbl D tc lo RX9 (EXq lo sa sc) l d mi as h r h' := by
  intro p e R s m args below meth c H locs cells slots Q lsC M pc ls st rest i a b hft hok C0 hw hS hL hz hR hs hc kk
  obtain ⟨hM0, ha, ⟨k', hi, hk'⟩, hst, hlen, hcs⟩ := kx_where hft hmi hs
  subst ha
  obtain ⟨e1, e2⟩ := hk k' b hk'
  subst e1
  subst e2
  subst hi
  subst hM0
  obtain ⟨hx, hb, hml, hr, hown, hts, hK, hlk, hnm, hlo, hEX⟩ := C0
  refine tm_size hz hw (fun hH => ?_)
  have hcl : tm_cls lo (EXq lo sa sc) := g_cls X3_cls
  have hsz : lsC.size = (tm_mt (g_G sa sc xt) 0).2.2.1 := hL.2.1
  have kk' : ∀ (H1 : Heap) (locs1 : List Loc), H1.size = h'.1 → tm_HW D g_cl tc lo h' H1 → va_S (fun q => lo ≤ q) s.heap H1 locs1 → W p l e R s m args below meth c H1 locs1 (cells + (h'.1 - h.1)) (slots + (h'.2.1 - h.2.1)) Q (F0 m (pc + 3) lsC (r.toList ++ rest)) := fun H1 locs1 _ q2 q3 => kk H1 locs1 _ _ (by omega) (by omega) q2 q3
  have hwsS : GoodIn g_tbl (va_wsS RL k' y (Cond.codeWith y cc mL (some .int) hh :: g_tbl)) := tm_GI g_good (fun w hw' => by
    simp only [va_wsS, List.cons_append, List.nil_append, List.mem_cons] at hw'
    rcases hw' with rfl | rfl | rfl | rfl | hw'
    · exact w5
    · exact w6
    · rw [hy]; exact wm_y
    · exact w7
    · exact hw')
  obtain ⟨hd, -⟩ := hok
  exact tm_callW (vx_runSW (As := as) (rest := rest) ⟨hx, hb, hml, hown, hts⟩ hM (vx_cwSW b hts hwsS rfl rfl rfl ⟨by rw [hy]; decide +kernel, by rw [hy]; decide +kernel, hdesc⟩ ⟨hR.1, by show 8 + (mL + 11) + 41 * d ≤ _; omega⟩) ⟨tm_blind hcl, tm_preU hcl hK hEX hlo hw hS hH⟩ rfl hlen hsz hst (lv_room hcs) (tm_dec hd rfl) ⟨by omega, by omega⟩) hS kk'
theorem kx_r_c {w : Bool} {o : Nat} {y : Option (Option Value × tm_H)} {z : Option Value × tm_H} (e : kx_r w o y = some z) : (w = false ∧ ∃ v h1, y = some (some (.int v), h1) ∧ kx_put h1 o v.toInt64 = some z) ∨ (w = true ∧ ∃ v h1, y = some (some (.long v), h1) ∧ kx_put h1 o v = some z) ∨ ∃ x h1, y = some (some (.double x), h1) ∧ z = (some (.int 1), tm_new h1 6 (.inr (13, []))) := by
  unfold kx_r at e
  split at e
  · rename_i v h1
    cases w with
    | true => cases e
    | false => exact Or.inl ⟨rfl, v, h1, rfl, e⟩
  · rename_i v h1
    cases w with
    | true => exact Or.inr (Or.inl ⟨rfl, v, h1, rfl, e⟩)
    | false => cases e
  · rename_i x h1
    exact Or.inr (Or.inr ⟨x, h1, rfl, (Option.some.inj e).symm⟩)
  · cases e
theorem kx_put_c {h1 : tm_H} {o : Nat} {v : Int64} {z : Option Value × tm_H} (e : kx_put h1 o v = some z) : ∃ k f, h1.2.2 o = .inl (3, k, .inr (.inl f)) ∧ 1 ≤ k ∧ z = (some (.int 0), tm_put h1 o (.inl (3, k, .inr (.inl (vp_updL f 0 v))))) := by
  unfold kx_put at e
  split at e
  · rename_i k f ho
    split at e
    · rename_i hk
      exact ⟨k, f, ho, hk, (Option.some.inj e).symm⟩
    · cases e
  · cases e
theorem kx_x_c {w : Bool} {d x o : Nat} {z : Option Value × tm_H} (e : kx_x sa sc w mi d x o as h = some z) : ∃ fs, h.2.2 x = .inr (11, fs) ∧ 6 ≤ d ∧ kx_r w o (xrun (G0 sa sc) d mi as h) = some z := by
  unfold kx_x at e
  split at e
  · rename_i c fs hx
    split at e
    · rename_i hc
      obtain ⟨rfl, hd⟩ := hc
      exact ⟨fs, hx, hd, e⟩
    · cases e
  · cases e
theorem P0 : tm_prog (G0 sa sc) g_cl g_tbl D tc lo RX9 (EXq lo sa sc) l := g_prog X3_cls (fun _ _ _ _ _ _ h => by cases h)
theorem km_sort {x o : Nat} {p q : Int32} (hlt : l.stackTraces = false) (e : kx_x sa sc false 114 d x o [.ref x, .int p, .int q] h = some (r, h')) : kMet sa sc D tc lo l yL_sort cL_sort 5 [(0, 10, 13, 13)] (d + 1) [.ref x, .int p, .int q, .ref o] h r h' ∧ h.1 ≤ h'.1 ∧ h.2.1 ≤ h'.2.1 := by
  obtain ⟨fs, hx0, hd, e⟩ := kx_x_c e
  rcases kx_r_c e with ⟨hw, v, h1, hy, he⟩ | ⟨hw, v, h1, hy, he⟩ | ⟨x9, h1, hy, he⟩
  · obtain ⟨n, hrun⟩ := xrun_s hy
    obtain ⟨k, f, ho, hk, hz⟩ := kx_put_c he
    cases hz
    have g1 := tm_mono (P0 (D := D) (tc := tc) (lo := lo) (l := l)) hrun
    exact ⟨bd_sort_n P0 hrun hx0 ho hk, g1⟩
  · cases hw
  · obtain ⟨n, hrun⟩ := xrun_s hy
    cases he
    have g1 := tm_mono (P0 (D := D) (tc := tc) (lo := lo) (l := l)) hrun
    have hb := bd_sort_t (D := D) (tc := tc) (lo := lo) (o := o) hlt P0 hrun hx0 hd
    refine ⟨?_, Nat.le_succ_of_le g1.1, Nat.le_trans g1.2 (Nat.le_add_right _ _)⟩
    unfold kMet
    rw [show (tm_new h1 6 (.inr (13, []))).1 - h.1 = h1.1 - h.1 + 1 by show h1.1 + 1 - h.1 = _; omega, show (tm_new h1 6 (.inr (13, []))).2.1 - h.2.1 = h1.2.1 - h.2.1 + 6 by show h1.2.1 + 6 - h.2.1 = _; omega]
    exact hb
theorem km_box {x o : Nat} {p q : Int32} (hlt : l.stackTraces = false) (e : kx_x sa sc false 115 d x o [.ref x, .int p, .int q] h = some (r, h')) : kMet sa sc D tc lo l yL_box cL_box 5 [(0, 10, 13, 13)] (d + 1) [.ref x, .int p, .int q, .ref o] h r h' ∧ h.1 ≤ h'.1 ∧ h.2.1 ≤ h'.2.1 := by
  obtain ⟨fs, hx0, hd, e⟩ := kx_x_c e
  rcases kx_r_c e with ⟨hw, v, h1, hy, he⟩ | ⟨hw, v, h1, hy, he⟩ | ⟨x9, h1, hy, he⟩
  · obtain ⟨n, hrun⟩ := xrun_s hy
    obtain ⟨k, f, ho, hk, hz⟩ := kx_put_c he
    cases hz
    have g1 := tm_mono (P0 (D := D) (tc := tc) (lo := lo) (l := l)) hrun
    exact ⟨bd_box_n P0 hrun hx0 ho hk, g1⟩
  · cases hw
  · obtain ⟨n, hrun⟩ := xrun_s hy
    cases he
    have g1 := tm_mono (P0 (D := D) (tc := tc) (lo := lo) (l := l)) hrun
    have hb := bd_box_t (D := D) (tc := tc) (lo := lo) (o := o) hlt P0 hrun hx0 hd
    refine ⟨?_, Nat.le_succ_of_le g1.1, Nat.le_trans g1.2 (Nat.le_add_right _ _)⟩
    unfold kMet
    rw [show (tm_new h1 6 (.inr (13, []))).1 - h.1 = h1.1 - h.1 + 1 by show h1.1 + 1 - h.1 = _; omega, show (tm_new h1 6 (.inr (13, []))).2.1 - h.2.1 = h1.2.1 - h.2.1 + 6 by show h1.2.1 + 6 - h.2.1 = _; omega]
    exact hb
theorem km_row {x o : Nat} {p : Int32} (hlt : l.stackTraces = false) (e : kx_x sa sc true 155 d x o [.ref x, .int p] h = some (r, h')) : kMet sa sc D tc lo l yL_row cL_row 4 [(0, 8, 11, 13)] (d + 1) [.ref x, .int p, .ref o] h r h' ∧ h.1 ≤ h'.1 ∧ h.2.1 ≤ h'.2.1 := by
  obtain ⟨fs, hx0, hd, e⟩ := kx_x_c e
  rcases kx_r_c e with ⟨hw, v, h1, hy, he⟩ | ⟨hw, v, h1, hy, he⟩ | ⟨x9, h1, hy, he⟩
  · cases hw
  · obtain ⟨n, hrun⟩ := xrun_s hy
    obtain ⟨k, f, ho, hk, hz⟩ := kx_put_c he
    cases hz
    have g1 := tm_mono (P0 (D := D) (tc := tc) (lo := lo) (l := l)) hrun
    exact ⟨bd_row_n P0 hrun hx0 ho hk, g1⟩
  · obtain ⟨n, hrun⟩ := xrun_s hy
    cases he
    have g1 := tm_mono (P0 (D := D) (tc := tc) (lo := lo) (l := l)) hrun
    have hb := bd_row_t (D := D) (tc := tc) (lo := lo) (o := o) hlt P0 hrun hx0 hd
    refine ⟨?_, Nat.le_succ_of_le g1.1, Nat.le_trans g1.2 (Nat.le_add_right _ _)⟩
    unfold kMet
    rw [show (tm_new h1 6 (.inr (13, []))).1 - h.1 = h1.1 - h.1 + 1 by show h1.1 + 1 - h.1 = _; omega, show (tm_new h1 6 (.inr (13, []))).2.1 - h.2.1 = h1.2.1 - h.2.1 + 6 by show h1.2.1 + 6 - h.2.1 = _; omega]
    exact hb
theorem kxt_ck (hlt : l.stackTraces = false) (e : kxt sa sc mi d as h = some (r, h')) : tm_CK (g_G sa sc xt) g_cl g_tbl D tc lo RX9 (EXq lo sa sc) l d mi as h r h' ∧ h.1 ≤ h'.1 ∧ h.2.1 ≤ h'.2.1 := by
  unfold kxt at e
  split at e
  · split at e
    · rename_i hmi
      subst hmi
      have hM := km_sort (D := D) (tc := tc) (lo := lo) hlt e
      exact ⟨kx_ck (k := 45) (n := 4) (by decide) rfl (by decide +kernel) wm_sort_5 wm_sort_6 wm_sort_7 (by decide) (fun k' b z => by rcases z with ⟨z1, z2, z3⟩ | ⟨z1, z2, z3⟩ | ⟨z1, z2, z3⟩ <;> first | exact ⟨z2, z3⟩ | exact absurd z1 (by decide)) hM.1 hM.2, hM.2⟩
    · split at e
      · rename_i hmi
        subst hmi
        have hM := km_box (D := D) (tc := tc) (lo := lo) hlt e
        exact ⟨kx_ck (k := 54) (n := 4) (by decide) rfl (by decide +kernel) wm_box_5 wm_box_6 wm_box_7 (by decide) (fun k' b z => by rcases z with ⟨z1, z2, z3⟩ | ⟨z1, z2, z3⟩ | ⟨z1, z2, z3⟩ <;> first | exact ⟨z2, z3⟩ | exact absurd z1 (by decide)) hM.1 hM.2, hM.2⟩
      · cases e
  · split at e
    · rename_i hmi
      subst hmi
      have hM := km_row (D := D) (tc := tc) (lo := lo) hlt e
      exact ⟨kx_ck (k := 215) (n := 3) (by decide) rfl (by decide +kernel) wm_row_5 wm_row_6 wm_row_7 (by decide) (fun k' b z => by rcases z with ⟨z1, z2, z3⟩ | ⟨z1, z2, z3⟩ | ⟨z1, z2, z3⟩ <;> first | exact ⟨z2, z3⟩ | exact absurd z1 (by decide)) hM.1 hM.2, hM.2⟩
    · cases e
  · cases e
theorem P1 (hlt : l.stackTraces = false) : tm_prog (g_G sa sc (kxt sa sc)) g_cl g_tbl D tc lo RX9 (EXq lo sa sc) l := g_prog X3_cls (fun mi d as h r h' e => kxt_ck hlt e)
end
