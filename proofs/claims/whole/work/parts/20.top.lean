/-- what is known of the script -/
def g_X2 (lo : Nat) (sc : Nat × Nat × (Nat → Int32)) (X3 : State → Prop) (s : State) : Prop := (va_X sc.1 sc.2.1 sc.2.2 s s.heap ∧ sc.1 < s.heap.size ∧ sc.1 < lo) ∧ X3 s
theorem g_cls {lo : Nat} {sa : Nat → Nat} {sc : Nat × Nat × (Nat → Int32)} {X3 : State → Prop} (h3 : tm_cls lo X3) : tm_cls lo (g_EX sa (g_X2 lo sc X3)) := by
  rintro U U' hh hv ⟨h1, h2, h4, ⟨h5, h6, h7⟩, h8⟩
  have hal : U.vm.Alike U'.vm := by
    rcases hv with hv | hv
    · rw [hv]; exact Vm.Alike.refl _
    · exact hv.alike
  refine ⟨fun w hw => ?_, va_AO.moved hal h2, fun q hq => ?_, ⟨?_, ?_, h7⟩, h3 U U' hh hv h8⟩
  · obtain ⟨a, i, x, hn, rfl⟩ := g_nestf w hw
    rcases hv with hv | hv
    · exact va_Nw.same rfl hv.symm (h1 _ hw)
    · exact va_Nw.warmM hv (h1 _ hw)
  · rcases hv with hv | hv
    · exact vk_R.same hv (h4 q hq)
    · exact vk_R.warm hv (h4 q hq)
  · exact va_X.moved hal (h5.kept (hh _ h7))
  · obtain ⟨scr, q1, -⟩ := h5
    have : U'.heap[sc.1]? = some scr := by rw [hh _ h7]; exact q1
    exact (Array.getElem?_eq_some_iff.mp this).1
theorem g_prog {lo : Nat} {D : va_G} {tc : Nat → ClassId} {sa : Nat → Nat} {sc : Nat × Nat × (Nat → Int32)} {xt : Nat → Nat → List Value → tm_H → Option (Option Value × tm_H)} {X3 : State → Prop} {l : Launch} (h3 : tm_cls lo X3)
    (hX : ∀ mi d as h r h', xt mi d as h = some (r, h') → tm_CK (g_G sa sc xt) vwCl g_tbl D tc lo RX9 (g_EX sa (g_X2 lo sc X3)) l d mi as h r h' ∧ h.1 ≤ h'.1 ∧ h.2.1 ≤ h'.2.1) : tm_prog (g_G sa sc xt) vwCl g_tbl D tc lo RX9 (g_EX sa (g_X2 lo sc X3)) l :=
  ⟨g_cls h3, g_good, fun s hs => hs.2.2.2.1, g_ft_ok sa sc xt _, g_plain, hX⟩
