theorem g_ft_ok (sa : g_SA) (sc : Nat × Nat × (Nat → Int32)) (xt : Nat → Nat → List Value → tm_H → Option (Option Value × tm_H)) (X2 : State → Prop) : ∀ M pc en, tm_ft (g_G sa sc xt) M pc = some en → tm_ok (g_G sa sc xt) g_cl g_tbl RX9 (g_EX sa X2) M pc en := by
  intro M pc en h
  have h : (g_ct M).lookup pc = some en := h
  have hm : (pc, en) ∈ g_ct M := by
    obtain ⟨l1, l2, h1, -⟩ := List.lookup_eq_some_iff.mp h
    rw [h1]
    exact List.mem_append_right _ List.mem_cons_self
  by_cases hM : M < 306
  · have hp : g_P sa sc xt X2 M := ol_306 sa sc xt X2 M hM
    unfold g_P at hp
    exact hp (pc, en) hm
  · exfalso
    unfold g_ct at hm
    have hb : Nat.blt M 306 = false := by
      cases hb : Nat.blt M 306 with
      | false => rfl
      | true => exact absurd (Nat.le_of_ble_eq_true hb) (by omega)
    rw [hb] at hm
    cases hm
