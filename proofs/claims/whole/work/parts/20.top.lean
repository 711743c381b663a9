/-- what is known of the script, the strings and the statics -/
def g_X2 (lo : Nat) (sa : g_SA) (sc : Nat × Nat × (Nat → Int32)) (X3 : State → Prop) (s : State) : Prop := tm_SC (g_G sa sc (fun _ _ _ _ => none)) lo s ∧ X3 s
theorem g_cls {lo : Nat} {sa : g_SA} {sc : Nat × Nat × (Nat → Int32)} {X3 : State → Prop} (h3 : tm_cls lo X3) : tm_cls lo (g_EX sa (g_X2 lo sa sc X3)) := by
  rintro U U' hh hv ⟨h1, h2, h4, ⟨⟨h5, h6, h7⟩, h9, h10, h11⟩, h8⟩
  have hal : U.vm.Alike U'.vm := by
    rcases hv with hv | hv
    · rw [hv]; exact Vm.Alike.refl _
    · exact hv.alike
  have hq : ∀ a : Nat, a < U.heap.size → ¬ (lo ≤ a) → U'.heap[a]? = U.heap[a]? := fun a _ ha => hh a (Nat.lt_of_not_le ha)
  refine ⟨fun w hw => ?_, va_AO.moved hal h2, fun q hq => ?_, ⟨⟨?_, ?_, h7⟩, fun j hj => ?_, va_Z.moved hal (h10.kept hq), va_Z.moved hal (h11.kept hq)⟩, h3 U U' hh hv h8⟩
  · obtain ⟨a, i, x, hn, rfl⟩ := g_nestf w hw
    rcases hv with hv | hv
    · exact va_Nw.same rfl hv.symm (h1 _ hw)
    · exact va_Nw.warmM hv (h1 _ hw)
  · rcases hv with hv | hv
    · exact vk_R.same hv (h4 q hq)
    · exact vk_R.warm hv (h4 q hq)
  · exact va_X.moved hal (h5.kept (hh _ h7))
  · obtain ⟨scr, q1, -⟩ := h5
    have : U'.heap[sc.1]? = some scr := (hh _ h7).trans q1
    exact (Array.getElem?_eq_some_iff.mp this).1
  · obtain ⟨q1, q2, q3, q4⟩ := h9 j hj
    exact ⟨va_O.moved hal (q1.kept hq), va_OF.moved hal (q2.kept hq), va_OF.moved hal (q3.kept hq), va_T.moved hal (q4.kept hq)⟩
theorem g_prog {lo : Nat} {D : va_G} {tc : Nat → ClassId} {sa : g_SA} {sc : Nat × Nat × (Nat → Int32)} {xt : Nat → Nat → List Value → tm_H → Option (Option Value × tm_H)} {X3 : State → Prop} {l : Launch} (h3 : tm_cls lo X3)
    (hX : ∀ mi d as h r h', xt mi d as h = some (r, h') → tm_CK (g_G sa sc xt) g_cl g_tbl D tc lo RX9 (g_EX sa (g_X2 lo sa sc X3)) l d mi as h r h' ∧ h.1 ≤ h'.1 ∧ h.2.1 ≤ h'.2.1) : tm_prog (g_G sa sc xt) g_cl g_tbl D tc lo RX9 (g_EX sa (g_X2 lo sa sc X3)) l :=
  ⟨g_cls h3, g_good, fun s hs => hs.2.2.2.1, g_ft_ok sa sc xt _, g_plain, hX⟩
