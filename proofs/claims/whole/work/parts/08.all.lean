section TMR
variable {p : Program} {l : Launch} {e : Env} {R : Room} {s : State} {m : MethodId} {args : Array Value} {below : List Frame} {meth : Method} {c : Code} {H : Heap} {locs : List Loc} {cells slots : Nat} {Q : State → Prop}
variable {pc : Nat} {lsC : Array Slot}
variable {G : tm_G} {cl : List vw_C} {tbl : List Cond} {D : va_G} {tc : Nat → ClassId} {lo : Nat} {K : String} {EX : State → Prop} {M d : Nat} {ls st : List Value} {h h' : tm_H} {r : Option Value}
theorem tm_callW {mc ms : Nat} {rest : List Value} {a : Array Value} (hr : va_Run p l e R s m args below meth c H locs cells slots mc ms (F0 m pc lsC st) rest (tm_Qc cl D tc lo r h' a) (fun q => lo ≤ q)) (hS : va_S (fun q => lo ≤ q) s.heap H locs)
    (kk : ∀ (H1 : Heap) (locs1 : List Loc), H1.size = h'.1 → tm_HW D cl tc lo h' H1 → va_S (fun q => lo ≤ q) s.heap H1 locs1 → W p l e R s m args below meth c H1 locs1 (cells + mc) (slots + ms) Q (F0 m (pc + 3) lsC (r.toList ++ rest))) : W p l e R s m args below meth c H locs cells slots Q (F0 m pc lsC st) := by
  intro T hT X
  obtain ⟨v, st₀, t, T', L, h0, X', hL, e1, e2, ⟨hv, hz, hw, hF⟩, st⟩ := hr T hT X
  cases hv
  obtain ⟨f1, f2⟩ := hF
  rw [h0] at f1 f2
  obtain ⟨t2, a1, b1⟩ := kk T'.heap (locs ++ L) (by rw [e1]; exact hz) (by rw [e1]; exact hw)
    ⟨Nat.le_trans hS.1 (by rw [e1]; exact f1), fun q h1 h2 => by rw [e1, f2 q (Nat.lt_of_lt_of_le h1 hS.1) h2]; exact hS.2.1 q h1 h2, fun q hq => by
      rcases List.mem_append.mp hq with h | h
      · exact hS.2.2 q h
      · exact hL q h⟩ T' rfl X'
  exact ⟨t2, st t2 a1, b1⟩
theorem tm_blind (hcl : tm_cls lo EX) {as : List Value} : FrameBlind (tm_Pc cl D tc lo K EX as h) := by
  rintro a U g mk ⟨q1, q2, q3, q4, q5⟩
  exact ⟨q1, q2, q3, va_K.moved (u := U) (U := U.calling g mk a) (Vm.Alike.refl U.vm) q4, hcl U (U.calling g mk a) (fun _ _ => rfl) (Or.inl rfl) q5⟩
theorem tm_preU (hcl : tm_cls lo EX) (hK : va_K D cl (tm_tys K tc) s) (hEX : EX s) (hlo : lo ≤ s.heap.size) (hw : tm_HW D cl tc lo h H) (hS : va_S (fun q => lo ≤ q) s.heap H locs) (hz : H.size = h.1) {as : List Value} (U : State) (hU : U.heap = H) (hW : s.WarmedH U.vm) : tm_Pc cl D tc lo K EX as h as.toArray U :=
  ⟨rfl, by rw [hU]; exact hz, by rw [hU]; exact hw, va_K.moved hW.alike hK, hcl s U (fun q hq => by rw [hU]; exact hS.2.1 q (Nat.lt_of_lt_of_le hq hlo) (Nat.not_le.mpr hq)) (Or.inr hW) hEX⟩
/-- a call -/
theorem tm_call {i : Instr} {a b : Nat} {as rest : List Value} {d' mi : Nat} (hmi : mi < 1000) (hsc : ∀ s, EX s → tm_SC G lo s) (hcl : tm_cls lo EX) (hg : tm_good tbl) (hok : tm_ok G cl tbl K EX M pc (i, a, b)) (C0 : tm_C G cl tbl D tc lo K EX M p s m args meth c) (hw : tm_HW D cl tc lo h H) (hS : va_S (fun q => lo ≤ q) s.heap H locs) (hL : tm_LR lsC (tm_mt G M).2.2.1 ls) (hz : h.1 = s.heap.size + cells) (hR : d' + 1 ≤ R.frames ∧ 41 * (d' + 1) ≤ R.locals)
    (hs : tm_stp G (d' + 1) (i, a, b) pc ls st h = some (.inr (.inr (mi, as, rest)))) (hM : tm_Met G cl tbl D tc lo K EX l d' mi as h r h') (hm : h.1 ≤ h'.1 ∧ h.2.1 ≤ h'.2.1) (hc : cells + h'.1 ≤ R.cells + h.1 ∧ slots + h'.2.1 ≤ R.slots + h.2.1)
    (kk : ∀ (H1 : Heap) (locs1 : List Loc) (cells1 slots1 : Nat), cells1 + h.1 = cells + h'.1 → slots1 + h.2.1 = slots + h'.2.1 → tm_HW D cl tc lo h' H1 → va_S (fun q => lo ≤ q) s.heap H1 locs1 → W p l e R s m args below meth c H1 locs1 cells1 slots1 Q (F0 m (pc + 3) lsC (r.toList ++ rest))) : W p l e R s m args below meth c H locs cells slots Q (F0 m pc lsC st) := by
  obtain ⟨hx, hb, hml, hr, hown, hts, hK, hlk, hnm, hlo, hEX⟩ := C0
  refine tm_size hz hw (fun hH => ?_)
  have hsz : lsC.size = (tm_mt G M).2.2.1 := hL.2.1
  have kk' : ∀ (H1 : Heap) (locs1 : List Loc), H1.size = h'.1 → tm_HW D cl tc lo h' H1 → va_S (fun q => lo ≤ q) s.heap H1 locs1 → W p l e R s m args below meth c H1 locs1 (cells + (h'.1 - h.1)) (slots + (h'.2.1 - h.2.1)) Q (F0 m (pc + 3) lsC (r.toList ++ rest)) := fun H1 locs1 _ q2 q3 => kk H1 locs1 _ _ (by omega) (by omega) q2 q3
  have hbl : FrameBlind (tm_Pc cl D tc lo K EX as h) := tm_blind hcl
  have hpU : ∀ U : State, U.heap = H → s.WarmedH U.vm → tm_Pc cl D tc lo K EX as h as.toArray U := tm_preU hcl hK hEX hlo hw hS hH
  have hcc : cells + (h'.1 - h.1) ≤ R.cells ∧ slots + (h'.2.1 - h.2.1) ≤ R.slots := by omega
  obtain ⟨hd, hok⟩ := hok
  have hpop : ∀ (n : Nat) (st : List Value), st = (tm_pop n st).1.reverse ++ (tm_pop n st).2 := fun n st => by simp [tm_pop]
  rcases tm_only hs with ⟨k, rfl⟩ | ⟨k, rfl⟩ | ⟨k, rfl⟩
  · simp only [tm_stp, tm_cv] at hs
    split at hs
    · rename_i as' o r' hp
      split at hs
      · split at hs <;> cases hs
        omega
      split at hs
      · rename_i ho
        split at hs
        · rename_i hcd
          cases hs
          simp only [tm_okr, show ¬ 1000 ≤ a by omega, if_false] at hok
          obtain ⟨⟨o1, o2, o3, o4, o5, o6, -⟩, o7, o8, o9, o10, o11⟩ := hok
          obtain ⟨hc1, hc2, hc3⟩ := hcd
          subst hc1
          obtain ⟨-, -, q3⟩ := hw.obj ho
          have o10 : ∃ (T : u_T) (N : Nat), cl[(tm_mt G a).2.2.2.2]? = some ((tm_mt G a).1.cls, T, N) := by
            rcases o10 with ⟨z1, -⟩ | o10
            · exfalso
              obtain ⟨r9, z2, -⟩ := hw.2.2.1 _ _ q3
              dsimp only at z2
              rw [z1, o11] at z2
              cases z2
            · exact o10
          obtain ⟨T, N, o10⟩ := o10
          have hst : st = as'.reverse ++ .ref o :: rest := by have := hpop b st; rw [hp] at this; exact this
          refine tm_callW (va_runV (As := as') (rest := rest) (b := o) ⟨hx, hb, hml, hown, hts⟩ hM (cwV b hts (tm_GI hg ?_) rfl rfl rfl ⟨rfl, o3, o4, o5⟩ ⟨hR.1, by show 8 + (_ + 11) + 41 * d' ≤ _; omega⟩) ⟨hbl, va_recv hK hw.2.2.1 o10 q3, hpU⟩ rfl hc2 hsz hst (lv_room hc3) (tm_dec hd rfl) hcc) hS kk'
          intro w hw'
          simp only [wsV, tm_ws, List.cons_append, List.nil_append, List.mem_cons] at hw'
          rcases hw' with rfl | rfl | rfl | rfl | rfl | hw'
          · exact o7
          · exact o8
          · exact o9
          · exact o2
          · exact o1
          · exact hw'
        · cases hs
      · split at hs
        · rename_i hcd
          cases hs
          simp only [tm_okr, show ¬ 1000 ≤ a by omega, if_false] at hok
          obtain ⟨⟨o1, o2, o3, o4, o5, o6, -⟩, o7, o8, o9, o10, o11⟩ := hok
          obtain ⟨⟨hc0, hc1, hc4⟩, hc2, hc3⟩ := hcd
          have o10 : (tm_mt G a).1.cls = "java/lang/String" := by
            rcases o10 with ⟨-, z1⟩ | ⟨T, N, z1⟩
            · exact z1
            · rw [hc0, o11] at z1; cases z1
          have hst : st = as'.reverse ++ .ref o :: rest := by have := hpop b st; rw [hp] at this; exact this
          have hrc := va_Orecv ((hsc s hEX).2.1 _ hc4).1 hS
          rw [← hc1, ← o10] at hrc
          refine tm_callW (va_runV (As := as') (rest := rest) (b := o) ⟨hx, hb, hml, hown, hts⟩ hM (cwV b hts (tm_GI hg ?_) rfl rfl rfl ⟨rfl, o3, o4, o5⟩ ⟨hR.1, by show 8 + (_ + 11) + 41 * d' ≤ _; omega⟩) ⟨hbl, hrc, hpU⟩ rfl hc2 hsz hst (lv_room hc3) (tm_dec hd rfl) hcc) hS kk'
          intro w hw'
          simp only [wsV, tm_ws, List.cons_append, List.nil_append, List.mem_cons] at hw'
          rcases hw' with rfl | rfl | rfl | rfl | rfl | hw'
          · exact o7
          · exact o8
          · exact o9
          · exact o2
          · exact o1
          · exact hw'
        · cases hs
      · cases hs
    · cases hs
  · simp only [tm_stp] at hs
    split at hs
    · unfold tm_oi at hs
      split at hs
      · split at hs <;> cases hs
      · cases hs
    · rename_i hb0
      simp only [tm_okr, hb0, if_false] at hok
      obtain ⟨⟨o1, o2, o3, o4, o5, o6, -⟩, o7, o8, o9, o10⟩ := hok
      unfold tm_ci at hs
      split at hs
      · rename_i as' o r' hp
        split at hs
        · rename_i hcd
          cases hs
          obtain ⟨hc2, hc3⟩ := hcd
          have hst : st = as'.reverse ++ .ref o :: rest := by have := hpop b st; rw [hp] at this; exact this
          have hG : GoodIn tbl (tm_ws G tbl a) := tm_GI hg (fun w hw' => by
            rcases List.mem_cons.mp hw' with rfl | hw'
            · exact o1
            · exact hw')
          rcases o7 with o7 | ⟨host, o7⟩
          · exact tm_callW (va_runI (As := as') (rest := rest) (b := o) ⟨hx, hb, hml, hown, hts⟩ hM (cwI b hts hG (by unfold tm_ws; rw [o10]) rfl rfl (hts _ o2) (hts _ o7) (hts _ o9) o8 ⟨o3, o4, o5⟩ ⟨hR.1, by show 8 + (_ + 11) + 41 * d' ≤ _; omega⟩) ⟨hbl, hpU⟩ rfl hc2 hsz hst (lv_room hc3) (tm_dec hd rfl) hcc) hS kk'
          · exact tm_callW (va_runIN (As := as') (rest := rest) (b := o) ⟨hx, hb, hml, hown, hts⟩ hM ⟨va_cnB b hts hG (by unfold tm_ws; rw [o10]) rfl rfl (o7 s hEX) (hts _ o2) ⟨o3, o4, o5⟩ ⟨hR.1, by show 8 + (_ + 11) + 41 * d' ≤ _; omega⟩, o8, hts _ o9⟩ ⟨hbl, hpU⟩ rfl hc2 hsz hst (lv_room hc3) (tm_dec hd rfl) hcc) hS kk'
        · cases hs
      · cases hs
  · simp only [tm_stp] at hs
    split at hs
    · unfold tm_cp at hs
      split at hs
      · split at hs
        · split at hs <;> cases hs
        · cases hs
      · cases hs
    split at hs
    · unfold tm_mx at hs
      split at hs
      · split at hs <;> cases hs
      · cases hs
    split at hs
    · unfold tm_mn at hs
      split at hs
      · split at hs <;> cases hs
      · cases hs
    split at hs
    · unfold tm_ab at hs
      split at hs
      · split at hs <;> cases hs
      · cases hs
    · rename_i hb0 hb1 hb2 hb3
      unfold tm_ca at hs
      split at hs
      rename_i as' r' hp
      split at hs
      · rename_i hcd
        cases hs
        simp only [tm_okr, hb0, hb1, hb2, hb3, if_false, show ¬ 1000 ≤ a by omega] at hok
        obtain ⟨⟨o1, o2, o3, o4, o5, o6, -⟩, o7, o8⟩ := hok
        obtain ⟨hc2, hc3⟩ := hcd
        have hst : st = as.reverse ++ rest := by have := hpop b st; rw [hp] at this; exact this
        have hG : GoodIn tbl (tm_ws G tbl a) := tm_GI hg (fun w hw' => by
            rcases List.mem_cons.mp hw' with rfl | hw'
            · exact o1
            · exact hw')
        rcases o7 with o7 | ⟨host, o7⟩
        · refine tm_callW (va_runS (As := as) (rest := rest) ⟨hx, hb, hml, hown, hts⟩ hM (va_cwS b hts (tm_GI hg ?_) rfl rfl rfl ⟨o3, o4, o5⟩ ⟨hR.1, by show 8 + (_ + 11) + 41 * d' ≤ _; omega⟩) ⟨hbl, hpU⟩ rfl hc2 hsz hst (lv_room hc3) (tm_dec hd rfl) hcc) hS kk'
          intro w hw'
          simp only [va_wsS, tm_ws, List.cons_append, List.nil_append, List.mem_cons] at hw'
          rcases hw' with rfl | rfl | rfl | rfl | hw'
          · exact o7
          · exact o8
          · exact o2
          · exact o1
          · exact hw'
        · exact tm_callW (va_runSN (As := as) (rest := rest) ⟨hx, hb, hml, hown, hts⟩ hM ⟨va_cnB b hts hG rfl rfl rfl (o7 s hEX) (hts _ o2) ⟨o3, o4, o5⟩ ⟨hR.1, by show 8 + (_ + 11) + 41 * d' ≤ _; omega⟩, hts _ o8, trivial⟩ ⟨hbl, hpU⟩ rfl hc2 hsz hst (lv_room hc3) (tm_dec hd rfl) hcc) hS kk'
      · cases hs
/-- the rule of a call of mi that leaves h' and answers r -/
def tm_CK (G : tm_G) (cl : List vw_C) (tbl : List Cond) (D : va_G) (tc : Nat → ClassId) (lo : Nat) (K : String) (EX : State → Prop) (l : Launch) (d' mi : Nat) (as : List Value) (h : tm_H) (r : Option Value) (h' : tm_H) : Prop :=
  ∀ {p : Program} {e : Env} {R : Room} {s : State} {m : MethodId} {args : Array Value} {below : List Frame} {meth : Method} {c : Code} {H : Heap} {locs : List Loc} {cells slots : Nat} {Q : State → Prop} {lsC : Array Slot} {M pc : Nat} {ls st rest : List Value} {i : Instr} {a b : Nat},
    tm_ft G M pc = some (i, a, b) → tm_ok G cl tbl K EX M pc (i, a, b) → tm_C G cl tbl D tc lo K EX M p s m args meth c → tm_HW D cl tc lo h H → va_S (fun q => lo ≤ q) s.heap H locs → tm_LR lsC (tm_mt G M).2.2.1 ls → h.1 = s.heap.size + cells → (d' + 1 ≤ R.frames ∧ 41 * (d' + 1) ≤ R.locals) → tm_stp G (d' + 1) (i, a, b) pc ls st h = some (.inr (.inr (mi, as, rest))) → (cells + h'.1 ≤ R.cells + h.1 ∧ slots + h'.2.1 ≤ R.slots + h.2.1) →
    (∀ (H1 : Heap) (locs1 : List Loc) (cells1 slots1 : Nat), cells1 + h.1 = cells + h'.1 → slots1 + h.2.1 = slots + h'.2.1 → tm_HW D cl tc lo h' H1 → va_S (fun q => lo ≤ q) s.heap H1 locs1 → W p l e R s m args below meth c H1 locs1 cells1 slots1 Q (F0 m (pc + 3) lsC (r.toList ++ rest))) → W p l e R s m args below meth c H locs cells slots Q (F0 m pc lsC st)
theorem tm_CK.ofMet {d' mi : Nat} {as : List Value} (hmi : mi < 1000) (hsc : ∀ s, EX s → tm_SC G lo s) (hcl : tm_cls lo EX) (hg : tm_good tbl) (hM : tm_Met G cl tbl D tc lo K EX l d' mi as h r h') (hm : h.1 ≤ h'.1 ∧ h.2.1 ≤ h'.2.1) : tm_CK G cl tbl D tc lo K EX l d' mi as h r h' :=
  fun _ hok C0 hw hS hL hz hR hs hc kk => tm_call hmi hsc hcl hg hok C0 hw hS hL hz hR hs hM hm hc kk
/-- what every program must keep: its tables are the class files', what it is said to do it does -/
def tm_prog (G : tm_G) (cl : List vw_C) (tbl : List Cond) (D : va_G) (tc : Nat → ClassId) (lo : Nat) (K : String) (EX : State → Prop) (l : Launch) : Prop :=
  tm_cls lo EX ∧ tm_good tbl ∧ (∀ s, EX s → tm_SC G lo s) ∧ (∀ M pc en, tm_ft G M pc = some en → tm_ok G cl tbl K EX M pc en) ∧ (∀ M, M < 1000 → plainName (tm_mt G M).1.cls = true) ∧
  (∀ mi d as h r h', tm_xt G mi d as h = some (r, h') → tm_CK G cl tbl D tc lo K EX l d mi as h r h' ∧ h.1 ≤ h'.1 ∧ h.2.1 ≤ h'.2.1)
theorem tm_mono (hP : tm_prog G cl tbl D tc lo K EX l) : ∀ {n d M pc : Nat} {ls st : List Value} {h h' : tm_H} {r : Option Value}, tm_run G n d M pc ls st h = some (r, h') → h.1 ≤ h'.1 ∧ h.2.1 ≤ h'.2.1 := by
  obtain ⟨-, -, -, -, -, hX⟩ := hP
  intro n
  induction n with
  | zero => intro d M pc ls st h h' r hr; cases hr
  | succ n ih =>
    intro d M pc ls st h h' r hr
    unfold tm_run at hr
    split at hr
    · cases hr
    · split at hr
      · cases hr
      · rename_i hs
        have h1 := tm_mono1 hs
        have h2 := ih hr
        omega
      · cases hr
        exact ⟨Nat.le_refl _, Nat.le_refl _⟩
      · split at hr
        · cases hr
        · split at hr
          · cases hr
          · rename_i hq
            have h2 := ih hr
            split at hq
            · have h1 := ih hq
              omega
            · have h1 := (hX _ _ _ _ _ _ hq).2
              omega
/-- a method that is called here throws nothing -/
theorem tm_notthr {i : Instr} {a b : Nat} {as rest : List Value} {mi : Nat} (hmi : mi < 1000) (hok : tm_ok G cl tbl K EX M pc (i, a, b)) (hs : tm_stp G d (i, a, b) pc ls st h = some (.inr (.inr (mi, as, rest)))) : (tm_mt G mi).2.2.2.2 ≠ 311 := by
  obtain ⟨-, hok⟩ := hok
  rcases tm_only hs with ⟨k, rfl⟩ | ⟨k, rfl⟩ | ⟨k, rfl⟩
  · simp only [tm_stp, tm_cv] at hs
    have ha : a = mi := by
      repeat' (split at hs)
      all_goals first | (cases hs; rfl) | cases hs
    subst ha
    simp only [tm_okr, show ¬ 1000 ≤ a by omega, if_false] at hok
    exact hok.1.2.2.2.2.2.2
  · simp only [tm_stp, tm_ci, tm_oi, tm_nx] at hs
    by_cases hb0 : b = 1000
    · simp only [hb0, if_true] at hs
      repeat' (split at hs)
      all_goals cases hs
    · simp only [hb0, if_false] at hs
      have ha : a = mi := by
        repeat' (split at hs)
        all_goals first | (cases hs; rfl) | cases hs
      subst ha
      simp only [tm_okr, hb0, if_false] at hok
      exact hok.1.2.2.2.2.2.2
  · simp only [tm_stp, tm_ca, tm_cp, tm_mx, tm_mn, tm_ab, tm_nx] at hs
    by_cases hb0 : b = 1000
    · simp only [hb0, if_true] at hs
      repeat' (split at hs)
      all_goals cases hs
    by_cases hb1 : b = 1001
    · simp only [hb0, hb1, if_true, if_false] at hs
      repeat' (split at hs)
      all_goals cases hs
    by_cases hb2 : b = 1002
    · simp only [hb0, hb1, hb2, if_true, if_false] at hs
      repeat' (split at hs)
      all_goals cases hs
    by_cases hb3 : b = 1003
    · simp only [hb0, hb1, hb2, hb3, if_true, if_false] at hs
      repeat' (split at hs)
      all_goals cases hs
    simp only [hb0, hb1, hb2, hb3, if_false] at hs
    have ha : a = mi := by
      repeat' (split at hs)
      all_goals first | (cases hs; rfl) | cases hs
    subst ha
    simp only [tm_okr, hb0, hb1, hb2, hb3, show ¬ 1000 ≤ a by omega, if_false] at hok
    exact hok.1.2.2.2.2.2.2
/-- what stands on the stack where a method returns; a double marks a throw -/
def tm_rl : Option Value → List Value
  | some (.double _) => []
  | r => r.toList
theorem tm_nodbl : ∀ {n d M pc : Nat} {ls st : List Value} {h h' : tm_H} {r : Option Value}, (∀ M pc en, tm_ft G M pc = some en → tm_ok G cl tbl K EX M pc en) → tm_run G n d M pc ls st h = some (r, h') → (∃ x, r = some (.double x)) → (tm_mt G M).2.2.2.2 = 311 := by
  intro n
  induction n with
  | zero => intro d M pc ls st h h' r _ hr; cases hr
  | succ n ih =>
    intro d M pc ls st h h' r hft hr hx
    unfold tm_run at hr
    split at hr
    · cases hr
    · rename_i en hen
      split at hr
      · cases hr
      · exact ih hft hr hx
      · rename_i r' hs
        cases hr
        obtain ⟨i, a, b⟩ := en
        obtain ⟨t1, t2, -⟩ := tm_rets (hft M pc _ hen) hs
        rcases t2 with t2 | ⟨x, -, -, t2⟩
        · obtain ⟨x, rfl⟩ := hx
          obtain ⟨k, rfl⟩ := t1
          have hok := (hft M pc _ hen).2
          simp only [tm_stp] at hs
          split at hs
          · rename_i ha
            simp only [tm_okr, ha, if_true] at hok
            exact hok
          · unfold tm_nw at hs
            cases hs
        · exact t2
      · split at hr
        · cases hr
        · split at hr
          · cases hr
          · exact ih hft hr hx
/-- A RUN OF THE THIN MACHINE IS A RUN OF THE MACHINE -/
theorem tm_sound (hP : tm_prog G cl tbl D tc lo K EX l) : ∀ {n d M pc : Nat} {ls st : List Value} {h h' : tm_H} {r : Option Value}, tm_run G n d M pc ls st h = some (r, h') →
    ∀ {p : Program} {e : Env} {R : Room} {s : State} {m : MethodId} {args : Array Value} {below : List Frame} {meth : Method} {c : Code} {H : Heap} {locs : List Loc} {cells slots : Nat} {Q : State → Prop} {lsC : Array Slot}, tm_C G cl tbl D tc lo K EX M p s m args meth c → tm_HW D cl tc lo h H → va_S (fun q => lo ≤ q) s.heap H locs → tm_LR lsC (tm_mt G M).2.2.1 ls → h.1 = s.heap.size + cells → (d ≤ R.frames ∧ 41 * d ≤ R.locals) → (cells + h'.1 ≤ R.cells + h.1 ∧ slots + h'.2.1 ≤ R.slots + h.2.1) →
      (∀ (pcR : Nat) (i : Instr) (H1 : Heap) (locs1 : List Loc) (lsD : Array Slot) (cells1 slots1 : Nat), decode (tm_mt G M).2.1 pcR = .ok (i, tm_len i) → tm_ret (tm_mt G M).2.2.2.1 i r → cells1 + h.1 = cells + h'.1 → slots1 + h.2.1 = slots + h'.2.1 → H1.size = h'.1 → tm_HW D cl tc lo h' H1 → va_S (fun q => lo ≤ q) s.heap H1 locs1 → lsD.size = (tm_mt G M).2.2.1 → W p l e R s m args below meth c H1 locs1 cells1 slots1 Q (F0 m pcR lsD (tm_rl r))) →
      W p l e R s m args below meth c H locs cells slots Q (F0 m pc lsC st) := by
  have hP0 := hP
  obtain ⟨hcl, hg, hsc, hft, hpl, hX⟩ := hP
  intro n
  induction n with
  | zero => intro d M pc ls st h h' r hr; cases hr
  | succ n ih =>
    intro d M pc ls st h h' r hr p e R s m args below meth c H locs cells slots Q lsC C0 hw hS hL hz hR hc hQ
    unfold tm_run at hr
    split at hr
    · cases hr
    · rename_i en hen
      have hok := hft M pc en hen
      split at hr
      · cases hr
      · rename_i pc' ls' st' h1 hs
        have g1 := tm_mono1 hs
        have g2 := tm_mono hP0 hr
        refine tm_next hsc hok C0 hw hS hL hz hR hs (by omega) (fun H1 locs1 lsD cells1 slots1 e1 e2 hw1 hS1 hL1 => ?_)
        exact ih hr C0 hw1 hS1 hL1 (by omega) hR (by omega) (fun pcR i H2 locs2 lsE cells2 slots2 q1 q2 q3 q4 q5 q6 q7 q8 => hQ pcR i H2 locs2 lsE cells2 slots2 q1 q2 (by omega) (by omega) q5 q6 q7 q8)
      · rename_i r' hs
        cases hr
        obtain ⟨i, a, b⟩ := en
        obtain ⟨t1, t2, kl, t3⟩ := tm_rets hok hs
        refine tm_size hz hw (fun hH => ?_)
        have hst : st = tm_rl r := by
          rcases t2 with t2 | ⟨x, rfl, t2, -⟩
          · rw [t2]
            cases r with
            | none => rfl
            | some v =>
              cases v with
              | double x =>
                exfalso
                obtain ⟨k, rfl⟩ := t1
                simp only [tm_stp] at hs
                split at hs
                · split at hs
                  · cases t2
                  · cases hs
                · unfold tm_nw at hs
                  cases hs
              | _ => rfl
          · exact t2
        rw [hst]
        exact hQ pc i H locs lsC cells slots (by rw [t3]; exact tm_dec hok.1 t3) t1 rfl rfl hH hw hS hL.2.1
      · rename_i mi as rest hs
        split at hr
        · cases hr
        · rename_i d'
          split at hr
          · cases hr
          · rename_i r1 h1 hq
            obtain ⟨i, a, b⟩ := en
            have g2 := tm_mono hP0 hr
            have hnt9 : mi < 1000 → (tm_mt G mi).2.2.2.2 ≠ 311 := fun hmi => tm_notthr hmi hok hs
            have hM : tm_CK G cl tbl D tc lo K EX l d' mi as h r1 h1 ∧ h.1 ≤ h1.1 ∧ h.2.1 ≤ h1.2.1 := by
              split at hq
              · rename_i hmi
                have g1 := tm_mono hP0 hq
                refine ⟨tm_CK.ofMet hmi.1 hsc hcl hg ?_ g1, g1⟩
                unfold tm_Met
                refine Met.ofW (cc := (tm_mt G mi).2.1) (maxL := (tm_mt G mi).2.2.1) (ret := (tm_mt G mi).2.2.2.1) (hpl mi hmi.1) rfl ?_
                intro p2 e2 s2 m2 args2 below2 meth2 c2 s₁ B hml hv
                obtain ⟨rfl, v1, v2, v3, v4⟩ := hv
                have hts2 := atoms_spec (ws := tm_ws G tbl mi) B.pre
                have hn := name_of_methodNamed B.named B.method
                rw [lg_entry_eq]
                refine ih hq (R := tm_rm d' (h1.1 - h.1) (h1.2.1 - h.2.1)) ⟨B.exec, B.bytes, hml, B.returns, findClass_of_methodNamed B.named, fun w hw' => hts2 w (List.mem_cons_of_mem _ hw'), v3, B.notSynchronized, hn.1, by rw [v1]; exact v2.1, v4⟩ v2 va_S.rf (tm_LR.ent hmi.2) (by rw [v1]; rfl) ⟨Nat.le_refl _, Nat.le_refl _⟩ ⟨by show 0 + h1.1 ≤ (h1.1 - h.1) + h.1; omega, by show 0 + h1.2.1 ≤ (h1.2.1 - h.2.1) + h.2.1; omega⟩ ?_
                intro pcR i2 H2 locs2 lsE cells2 slots2 q1 q2 q3 q4 q5 q6 q7 _
                have hc2 : cells2 = h1.1 - h.1 := by omega
                have hs2 : slots2 = h1.2.1 - h.2.1 := by omega
                rw [hc2, hs2]
                have hend : ∀ t : State, t.heap = H2 → s2.WarmedH t.vm → tm_Qc cl D tc lo r1 h1 as.toArray s2 (.returned r1) t := fun t ht _ => ⟨rfl, by rw [ht]; exact q5, by rw [ht]; exact q6, q7.F ht⟩
                have hret := B.returns
                have hlk := B.notSynchronized
                have hfr : ∀ q ∈ locs2, lo ≤ q.base := q7.2.2
                have hnt : (tm_mt G mi).2.2.2.2 ≠ 311 := hnt9 hmi.1
                cases r1 with
                | none =>
                  obtain ⟨rfl, q9⟩ := q2
                  exact W.vret B.exec B.bytes (hret.trans q9) hend hfr q1 hlk
                | some v =>
                  cases v with
                  | int v =>
                    obtain ⟨rfl, rt, q9, q10⟩ := q2
                    exact W.zret B.exec B.bytes (hret.trans q9) q10 hend hfr q1 hlk
                  | long v =>
                    obtain ⟨rfl, q9⟩ := q2
                    exact W.lret B.exec B.bytes (hret.trans q9) hend hfr q1 hlk
                  | ref v =>
                    obtain ⟨rfl, rt, q9, q10⟩ := q2
                    exact W.aret B.exec B.bytes (hret.trans q9) q10 (Or.inr ⟨v, rfl⟩) hend hfr q1 hlk
                  | double v => exact absurd (tm_nodbl hft hq ⟨v, rfl⟩) hnt
                  | _ => exact q2.elim
              · exact hX _ _ _ _ _ _ hq
            have hm := hM.2
            refine hM.1 hen hok C0 hw hS hL hz hR hs (by omega) (fun H1 locs1 cells1 slots1 e1 e2 hw1 hS1 => ?_)
            exact ih hr C0 hw1 hS1 hL (by omega) hR (by omega) (fun pcR i2 H2 locs2 lsE cells2 slots2 q1 q2 q3 q4 q5 q6 q7 q8 => hQ pcR i2 H2 locs2 lsE cells2 slots2 q1 q2 (by omega) (by omega) q5 q6 q7 q8)
end TMR
