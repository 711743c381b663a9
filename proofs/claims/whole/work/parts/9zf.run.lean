/-! the law's whole run, from its entry to its end -/
theorem tw_run {sa : g_SA} {b L lo : Nat} {xs : Nat → Int32} (hL : L ≤ 2560) (hSo : SHo sa lo) (hS : SH sa (lo, 0, ts_h sa)) : tm_X (g_G sa (b, L, xs) (kxt sa (b, L, xs))) (0 + 301) 0 0 [.ref b, tm_z, tm_z, tm_z, tm_z, tm_z, tm_z, tm_z] [] (lo, 0, ts_h sa) (fun r h' => r = some (.int 1) ∧ h'.1 ≤ lo + 2753 ∧ h'.2.1 ≤ 35360) := by
  have h30 : L < 2 ^ 30 := Nat.lt_of_le_of_lt hL (Nat.le_of_ble_eq_true rfl)
  have h31 : L < 2 ^ 31 := Nat.lt_of_le_of_lt hL (Nat.le_of_ble_eq_true rfl)
  refine law_start (d := 0) (sa := sa) (sc := (b, L, xs)) (h := (lo, 0, ts_h sa)) hS hSo (fun hh s' hs' hR => ?_)
  exact law_loop (d := 0) (b := lo) (o := lo + 192) (sc := (b, L, xs)) (K := (lo + 2753, 35360)) h30 (fun i zk hh x5 x6 x7 hR hi hN => l_sort hR hi h31 hN) (fun i zk hh x5 x6 x7 hR hi hN => l_box hR hi h31 hN) (fun i zk hh x5 x6 x7 hR hi hN => l_row hR hi h31 hN) (fun hh h1 h2 => ⟨rfl, h1, h2⟩) L 0 (lo + 193, 0 + s') hh _ _ _ (by show L ≤ 0 + L; omega) (by omega) (by show lo + 193 + L ≤ lo + 2753; omega) (by show 0 + s' + 6 * L ≤ 35360; omega) hR
theorem tw_pl : ∀ (sa : g_SA) (sc : Nat × Nat × (Nat → Int32)) (xt : Nat → Nat → List Value → tm_H → Option (Option Value × tm_H)), tm_mt (g_G sa sc xt) 0 = (yL_law, code, 8, some .boolean, 99) := fun _ _ _ => rfl
