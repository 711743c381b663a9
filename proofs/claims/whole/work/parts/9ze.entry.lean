/-! the start: what the premises say of the tables, the strings and the statics -/
theorem gq_1_0 {w : Cond} (h : w ∈ cw1_0) : w ∈ lw_tbl := ct_1 (by rw [ce_1]; exact List.mem_append_left _ h)
theorem gq_1_1 {w : Cond} (h : w ∈ cw1_1) : w ∈ lw_tbl := ct_1 (by rw [ce_1]; exact List.mem_append_right _ (List.mem_append_left _ h))
theorem gq_1_2 {w : Cond} (h : w ∈ cw1_2) : w ∈ lw_tbl := ct_1 (by rw [ce_1]; exact List.mem_append_right _ (List.mem_append_right _ (List.mem_append_left _ h)))
theorem gq_1_3 {w : Cond} (h : w ∈ cw1_3) : w ∈ lw_tbl := ct_1 (by rw [ce_1]; exact List.mem_append_right _ (List.mem_append_right _ (List.mem_append_right _ (List.mem_append_left _ h))))
theorem gq_1_4 {w : Cond} (h : w ∈ cw1_4) : w ∈ lw_tbl := ct_1 (by rw [ce_1]; exact List.mem_append_right _ (List.mem_append_right _ (List.mem_append_right _ (List.mem_append_right _ (List.mem_append_left _ h)))))
theorem gq_1_7 {w : Cond} (h : w ∈ cw1_7) : w ∈ lw_tbl := ct_1 (by rw [ce_1]; exact List.mem_append_right _ (List.mem_append_right _ (List.mem_append_right _ (List.mem_append_right _ (List.mem_append_right _ (List.mem_append_right _ (List.mem_append_right _ (List.mem_append_left _ h))))))))
theorem gq_1_8 {w : Cond} (h : w ∈ cw1_8) : w ∈ lw_tbl := ct_1 (by rw [ce_1]; exact List.mem_append_right _ (List.mem_append_right _ (List.mem_append_right _ (List.mem_append_right _ (List.mem_append_right _ (List.mem_append_right _ (List.mem_append_right _ (List.mem_append_right _ (List.mem_append_left _ h)))))))))
theorem gq_1_11 {w : Cond} (h : w ∈ cw1_11) : w ∈ lw_tbl := ct_1 (by rw [ce_1]; exact List.mem_append_right _ (List.mem_append_right _ (List.mem_append_right _ (List.mem_append_right _ (List.mem_append_right _ (List.mem_append_right _ (List.mem_append_right _ (List.mem_append_right _ (List.mem_append_right _ (List.mem_append_right _ (List.mem_append_right _ (List.mem_append_left _ h))))))))))))
theorem gq_1_12 {w : Cond} (h : w ∈ cw1_12) : w ∈ lw_tbl := ct_1 (by rw [ce_1]; exact List.mem_append_right _ (List.mem_append_right _ (List.mem_append_right _ (List.mem_append_right _ (List.mem_append_right _ (List.mem_append_right _ (List.mem_append_right _ (List.mem_append_right _ (List.mem_append_right _ (List.mem_append_right _ (List.mem_append_right _ (List.mem_append_right _ (List.mem_append_left _ h)))))))))))))
theorem gq_1_13 {w : Cond} (h : w ∈ cw1_13) : w ∈ lw_tbl := ct_1 (by rw [ce_1]; exact List.mem_append_right _ (List.mem_append_right _ (List.mem_append_right _ (List.mem_append_right _ (List.mem_append_right _ (List.mem_append_right _ (List.mem_append_right _ (List.mem_append_right _ (List.mem_append_right _ (List.mem_append_right _ (List.mem_append_right _ (List.mem_append_right _ (List.mem_append_right _ (List.mem_append_left _ h))))))))))))))
theorem gq_1_14 {w : Cond} (h : w ∈ cw1_14) : w ∈ lw_tbl := ct_1 (by rw [ce_1]; exact List.mem_append_right _ (List.mem_append_right _ (List.mem_append_right _ (List.mem_append_right _ (List.mem_append_right _ (List.mem_append_right _ (List.mem_append_right _ (List.mem_append_right _ (List.mem_append_right _ (List.mem_append_right _ (List.mem_append_right _ (List.mem_append_right _ (List.mem_append_right _ (List.mem_append_right _ (h)))))))))))))))
theorem gq_2_0 {w : Cond} (h : w ∈ cw2_0) : w ∈ lw_tbl := ct_2 (by rw [ce_2]; exact List.mem_append_left _ h)
theorem gq_2_1 {w : Cond} (h : w ∈ cw2_1) : w ∈ lw_tbl := ct_2 (by rw [ce_2]; exact List.mem_append_right _ (List.mem_append_left _ h))
theorem gq_2_7 {w : Cond} (h : w ∈ cw2_7) : w ∈ lw_tbl := ct_2 (by rw [ce_2]; exact List.mem_append_right _ (List.mem_append_right _ (List.mem_append_right _ (List.mem_append_right _ (List.mem_append_right _ (List.mem_append_right _ (List.mem_append_right _ (List.mem_append_left _ h))))))))
theorem gq_2_8 {w : Cond} (h : w ∈ cw2_8) : w ∈ lw_tbl := ct_2 (by rw [ce_2]; exact List.mem_append_right _ (List.mem_append_right _ (List.mem_append_right _ (List.mem_append_right _ (List.mem_append_right _ (List.mem_append_right _ (List.mem_append_right _ (List.mem_append_right _ (List.mem_append_left _ h)))))))))
theorem gq_2_9 {w : Cond} (h : w ∈ cw2_9) : w ∈ lw_tbl := ct_2 (by rw [ce_2]; exact List.mem_append_right _ (List.mem_append_right _ (List.mem_append_right _ (List.mem_append_right _ (List.mem_append_right _ (List.mem_append_right _ (List.mem_append_right _ (List.mem_append_right _ (List.mem_append_right _ (List.mem_append_left _ h))))))))))
theorem gq_2_13 {w : Cond} (h : w ∈ cw2_13) : w ∈ lw_tbl := ct_2 (by rw [ce_2]; exact List.mem_append_right _ (List.mem_append_right _ (List.mem_append_right _ (List.mem_append_right _ (List.mem_append_right _ (List.mem_append_right _ (List.mem_append_right _ (List.mem_append_right _ (List.mem_append_right _ (List.mem_append_right _ (List.mem_append_right _ (List.mem_append_right _ (List.mem_append_right _ (List.mem_append_left _ h))))))))))))))
theorem gq_2_14 {w : Cond} (h : w ∈ cw2_14) : w ∈ lw_tbl := ct_2 (by rw [ce_2]; exact List.mem_append_right _ (List.mem_append_right _ (List.mem_append_right _ (List.mem_append_right _ (List.mem_append_right _ (List.mem_append_right _ (List.mem_append_right _ (List.mem_append_right _ (List.mem_append_right _ (List.mem_append_right _ (List.mem_append_right _ (List.mem_append_right _ (List.mem_append_right _ (List.mem_append_right _ (h)))))))))))))))
theorem gq_3_8 {w : Cond} (h : w ∈ cw3_8) : w ∈ lw_tbl := ct_3 (by rw [ce_3]; exact List.mem_append_right _ (List.mem_append_right _ (List.mem_append_right _ (List.mem_append_right _ (List.mem_append_right _ (List.mem_append_right _ (List.mem_append_right _ (List.mem_append_right _ (List.mem_append_left _ h)))))))))
theorem gq_3_13 {w : Cond} (h : w ∈ cw3_13) : w ∈ lw_tbl := ct_3 (by rw [ce_3]; exact List.mem_append_right _ (List.mem_append_right _ (List.mem_append_right _ (List.mem_append_right _ (List.mem_append_right _ (List.mem_append_right _ (List.mem_append_right _ (List.mem_append_right _ (List.mem_append_right _ (List.mem_append_right _ (List.mem_append_right _ (List.mem_append_right _ (List.mem_append_right _ (List.mem_append_left _ h))))))))))))))
theorem gq_4_0 {w : Cond} (h : w ∈ cw4_0) : w ∈ lw_tbl := ct_4 (by rw [ce_4]; exact List.mem_append_left _ h)
theorem gq_4_1 {w : Cond} (h : w ∈ cw4_1) : w ∈ lw_tbl := ct_4 (by rw [ce_4]; exact List.mem_append_right _ (List.mem_append_left _ h))
theorem gq_4_11 {w : Cond} (h : w ∈ cw4_11) : w ∈ lw_tbl := ct_4 (by rw [ce_4]; exact List.mem_append_right _ (List.mem_append_right _ (List.mem_append_right _ (List.mem_append_right _ (List.mem_append_right _ (List.mem_append_right _ (List.mem_append_right _ (List.mem_append_right _ (List.mem_append_right _ (List.mem_append_right _ (List.mem_append_right _ (List.mem_append_left _ h))))))))))))
theorem gq_5_4 {w : Cond} (h : w ∈ cw5_4) : w ∈ lw_tbl := ct_5 (by rw [ce_5]; exact List.mem_append_right _ (List.mem_append_right _ (List.mem_append_right _ (List.mem_append_right _ (List.mem_append_left _ h)))))
theorem gq_5_11 {w : Cond} (h : w ∈ cw5_11) : w ∈ lw_tbl := ct_5 (by rw [ce_5]; exact List.mem_append_right _ (List.mem_append_right _ (List.mem_append_right _ (List.mem_append_right _ (List.mem_append_right _ (List.mem_append_right _ (List.mem_append_right _ (List.mem_append_right _ (List.mem_append_right _ (List.mem_append_right _ (List.mem_append_right _ (List.mem_append_left _ h))))))))))))
theorem gq_5_12 {w : Cond} (h : w ∈ cw5_12) : w ∈ lw_tbl := ct_5 (by rw [ce_5]; exact List.mem_append_right _ (List.mem_append_right _ (List.mem_append_right _ (List.mem_append_right _ (List.mem_append_right _ (List.mem_append_right _ (List.mem_append_right _ (List.mem_append_right _ (List.mem_append_right _ (List.mem_append_right _ (List.mem_append_right _ (List.mem_append_right _ (List.mem_append_left _ h)))))))))))))
theorem gq_5_13 {w : Cond} (h : w ∈ cw5_13) : w ∈ lw_tbl := ct_5 (by rw [ce_5]; exact List.mem_append_right _ (List.mem_append_right _ (List.mem_append_right _ (List.mem_append_right _ (List.mem_append_right _ (List.mem_append_right _ (List.mem_append_right _ (List.mem_append_right _ (List.mem_append_right _ (List.mem_append_right _ (List.mem_append_right _ (List.mem_append_right _ (List.mem_append_right _ (List.mem_append_left _ h))))))))))))))
theorem gq_6_0 {w : Cond} (h : w ∈ cw6_0) : w ∈ lw_tbl := ct_6 (by rw [ce_6]; exact List.mem_append_left _ h)
theorem gq_6_1 {w : Cond} (h : w ∈ cw6_1) : w ∈ lw_tbl := ct_6 (by rw [ce_6]; exact List.mem_append_right _ (List.mem_append_left _ h))
theorem gq_6_2 {w : Cond} (h : w ∈ cw6_2) : w ∈ lw_tbl := ct_6 (by rw [ce_6]; exact List.mem_append_right _ (List.mem_append_right _ (List.mem_append_left _ h)))
def ts_T : Cond := Jvm.Cond.and given_1 narrow_1
def ts_tm (i : Nat) : Term := match g_strs[i]? with
  | some q => .string q.1 q.2.1
  | none => .string "" 0
def ts_len : List Nat := (List.range 13).map fun j => (g_sb j).length
def ts_byt : List (List Int32) := (List.range 13).map g_sb
theorem ts_0 : ∀ i, i < 13 → ts_len.getD i 0 < 4000 ∧ ts_len.getD i 0 = (g_sb i).length ∧ ts_byt.getD i [] = g_sb i := by decide +kernel
def ts_eb (i : Nat) : Nat := [24, 32, 44, 51, 61, 72, 83, 93, 106, 130, 166, 191, 228].getD i 0
def ts_nb (i : Nat) : Nat := [0, 43, 49, 58, 68, 78, 87, 99, 122, 157, 181, 217, 257].getD i 0
theorem ts_1a : ∀ i, i < 13 → (flatC ts_T)[ts_eb i]? = some (Cond.exactly (ts_tm i) "java/lang/String") ∧ (flatC ts_T)[ts_eb i + 1]? = some (Cond.eq (.field (ts_tm i) "java/lang/String" "coder" "B") (.int 0)) ∧ (flatC ts_T)[ts_eb i + 2]? = some (Cond.arrayOf (.field (ts_tm i) "java/lang/String" "value" "[B") .byte) ∧ (flatC ts_T)[ts_eb i + 3]? = some (Cond.eq (.length (.field (ts_tm i) "java/lang/String" "value" "[B")) (.int (Int32.ofNat (ts_len.getD i 0)))) := by decide +kernel
theorem ts_1 (i : Nat) (hi : i < 13) : Cond.exactly (ts_tm i) "java/lang/String" ∈ flatC ts_T ∧ Cond.eq (.field (ts_tm i) "java/lang/String" "coder" "B") (.int 0) ∈ flatC ts_T ∧ Cond.arrayOf (.field (ts_tm i) "java/lang/String" "value" "[B") .byte ∈ flatC ts_T ∧ Cond.eq (.length (.field (ts_tm i) "java/lang/String" "value" "[B")) (.int (Int32.ofNat (ts_len.getD i 0))) ∈ flatC ts_T := ⟨List.mem_of_getElem? (ts_1a i hi).1, List.mem_of_getElem? (ts_1a i hi).2.1, List.mem_of_getElem? (ts_1a i hi).2.2.1, List.mem_of_getElem? (ts_1a i hi).2.2.2⟩
theorem ts_2a : ∀ i, i < 13 → ∀ j, j < ts_len.getD i 0 → (flatC ts_T)[ts_eb i + 4 + j]? = some (Cond.eq (.elem (.field (ts_tm i) "java/lang/String" "value" "[B") (.int (Int32.ofNat j))) (.int ((ts_byt.getD i []).getD j 0))) := by decide +kernel
theorem ts_2 (i : Nat) (hi : i < 13) (j : Nat) (hj : j < ts_len.getD i 0) : Cond.eq (.elem (.field (ts_tm i) "java/lang/String" "value" "[B") (.int (Int32.ofNat j))) (.int ((ts_byt.getD i []).getD j 0)) ∈ flatC ts_T := List.mem_of_getElem? (ts_2a i hi j hj)
theorem ts_3a : ∀ j, j < 13 → ∀ i, i < j → (flatC ts_T)[ts_nb j + i]? = some (Cond.not (Cond.eq (ts_tm i) (ts_tm j))) := by decide +kernel
theorem ts_3 (i : Nat) (hi : i < 13) (j : Nat) (hj : j < 13) (hn : i ≠ j) : Cond.not (Cond.eq (ts_tm i) (ts_tm j)) ∈ flatC ts_T ∨ Cond.not (Cond.eq (ts_tm j) (ts_tm i)) ∈ flatC ts_T := by
  by_cases c : i < j
  · exact Or.inl (List.mem_of_getElem? (ts_3a j hj i c))
  · exact Or.inr (List.mem_of_getElem? (ts_3a i hi j (by omega)))
theorem ts_4 : ∀ i, i < 13 → ∀ j, j < 13 → g_sb i = g_sb j → i = j := by decide +kernel
theorem ts_5 : ∀ q ∈ g_strs, q.2.2.2 < 13 ∧ ts_tm q.2.2.2 = .string q.1 q.2.1 ∧ Cond.stringRef q.1 q.2.1 q.2.2.1 ∈ lw_tbl := by
  refine List.forall_mem_cons.mpr ⟨⟨by decide, rfl, gq_2_7 (List.mem_of_getElem? (i := 9) rfl)⟩, ?_⟩
  refine List.forall_mem_cons.mpr ⟨⟨by decide, rfl, gq_2_14 (List.mem_of_getElem? (i := 15) rfl)⟩, ?_⟩
  refine List.forall_mem_cons.mpr ⟨⟨by decide, rfl, gq_4_0 (List.mem_of_getElem? (i := 14) rfl)⟩, ?_⟩
  refine List.forall_mem_cons.mpr ⟨⟨by decide, rfl, gq_4_0 (List.mem_of_getElem? (i := 15) rfl)⟩, ?_⟩
  refine List.forall_mem_cons.mpr ⟨⟨by decide, rfl, gq_4_1 (List.mem_of_getElem? (i := 0) rfl)⟩, ?_⟩
  refine List.forall_mem_cons.mpr ⟨⟨by decide, rfl, gq_4_1 (List.mem_of_getElem? (i := 1) rfl)⟩, ?_⟩
  refine List.forall_mem_cons.mpr ⟨⟨by decide, rfl, gq_4_1 (List.mem_of_getElem? (i := 2) rfl)⟩, ?_⟩
  refine List.forall_mem_cons.mpr ⟨⟨by decide, rfl, gq_4_11 (List.mem_of_getElem? (i := 1) rfl)⟩, ?_⟩
  refine List.forall_mem_cons.mpr ⟨⟨by decide, rfl, gq_5_13 (List.mem_of_getElem? (i := 15) rfl)⟩, ?_⟩
  refine List.forall_mem_cons.mpr ⟨⟨by decide, rfl, gq_6_0 (List.mem_of_getElem? (i := 13) rfl)⟩, ?_⟩
  refine List.forall_mem_cons.mpr ⟨⟨by decide, rfl, gq_6_1 (List.mem_of_getElem? (i := 6) rfl)⟩, ?_⟩
  refine List.forall_mem_cons.mpr ⟨⟨by decide, rfl, gq_6_1 (List.mem_of_getElem? (i := 7) rfl)⟩, ?_⟩
  refine List.forall_mem_cons.mpr ⟨⟨by decide, rfl, gq_6_2 (List.mem_of_getElem? (i := 3) rfl)⟩, ?_⟩
  exact fun _ h => absurd h List.not_mem_nil
theorem ts_6 : ∀ w ∈ g_nest, w ∈ lw_tbl ∧ w.onTables = true := by
  refine List.forall_mem_cons.mpr ⟨⟨gq_1_2 (List.mem_of_getElem? (i := 7) rfl), rfl⟩, ?_⟩
  refine List.forall_mem_cons.mpr ⟨⟨gq_1_3 (List.mem_of_getElem? (i := 5) rfl), rfl⟩, ?_⟩
  refine List.forall_mem_cons.mpr ⟨⟨gq_1_4 (List.mem_of_getElem? (i := 3) rfl), rfl⟩, ?_⟩
  refine List.forall_mem_cons.mpr ⟨⟨gq_1_7 (List.mem_of_getElem? (i := 10) rfl), rfl⟩, ?_⟩
  refine List.forall_mem_cons.mpr ⟨⟨gq_1_11 (List.mem_of_getElem? (i := 7) rfl), rfl⟩, ?_⟩
  refine List.forall_mem_cons.mpr ⟨⟨gq_1_12 (List.mem_of_getElem? (i := 13) rfl), rfl⟩, ?_⟩
  refine List.forall_mem_cons.mpr ⟨⟨gq_1_13 (List.mem_of_getElem? (i := 13) rfl), rfl⟩, ?_⟩
  refine List.forall_mem_cons.mpr ⟨⟨gq_1_14 (List.mem_of_getElem? (i := 11) rfl), rfl⟩, ?_⟩
  refine List.forall_mem_cons.mpr ⟨⟨gq_2_0 (List.mem_of_getElem? (i := 8) rfl), rfl⟩, ?_⟩
  refine List.forall_mem_cons.mpr ⟨⟨gq_2_1 (List.mem_of_getElem? (i := 14) rfl), rfl⟩, ?_⟩
  refine List.forall_mem_cons.mpr ⟨⟨gq_3_8 (List.mem_of_getElem? (i := 9) rfl), rfl⟩, ?_⟩
  refine List.forall_mem_cons.mpr ⟨⟨gq_3_13 (List.mem_of_getElem? (i := 8) rfl), rfl⟩, ?_⟩
  refine List.forall_mem_cons.mpr ⟨⟨gq_5_4 (List.mem_of_getElem? (i := 2) rfl), rfl⟩, ?_⟩
  exact fun _ h => absurd h List.not_mem_nil
theorem ts_7 : ∀ w ∈ [Cond.arrayOver (.object RX9), .castable NSE NSE, .declares (Bundle.initS "java/lang/RuntimeException"), .declares (Bundle.initS "java/lang/Exception"), .declares (Bundle.initS Bundle.tN), .laysStatic Bundle.tN "UNASSIGNED_STACK" Bundle.steD, .laysStatic Bundle.tN "SUPPRESSED_SENTINEL" Bundle.listD, .initialized Bundle.tN, .laysStatic "java/lang/String" "COMPACT_STRINGS" "Z", .initialized "java/lang/String", .laysStatic "jdk/internal/util/Preconditions" "SIOOBE_FORMATTER" "Ljava/util/function/BiFunction;", .initialized "jdk/internal/util/Preconditions", .arrayClass .int, .arrayClass .byte, .arrayClass .char, .arrayClass .long, .arrayClass .boolean], w ∈ lw_tbl := by
  refine List.forall_mem_cons.mpr ⟨gq_1_7 (List.mem_of_getElem? (i := 9) rfl), ?_⟩
  refine List.forall_mem_cons.mpr ⟨gq_5_11 (List.mem_of_getElem? (i := 10) rfl), ?_⟩
  refine List.forall_mem_cons.mpr ⟨gq_5_11 (List.mem_of_getElem? (i := 12) rfl), ?_⟩
  refine List.forall_mem_cons.mpr ⟨gq_5_11 (List.mem_of_getElem? (i := 14) rfl), ?_⟩
  refine List.forall_mem_cons.mpr ⟨gq_5_12 (List.mem_of_getElem? (i := 0) rfl), ?_⟩
  refine List.forall_mem_cons.mpr ⟨gq_5_13 (List.mem_of_getElem? (i := 3) rfl), ?_⟩
  refine List.forall_mem_cons.mpr ⟨gq_5_13 (List.mem_of_getElem? (i := 5) rfl), ?_⟩
  refine List.forall_mem_cons.mpr ⟨gq_1_1 (List.mem_of_getElem? (i := 4) rfl), ?_⟩
  refine List.forall_mem_cons.mpr ⟨gq_2_8 (List.mem_of_getElem? (i := 7) rfl), ?_⟩
  refine List.forall_mem_cons.mpr ⟨gq_1_0 (List.mem_of_getElem? (i := 15) rfl), ?_⟩
  refine List.forall_mem_cons.mpr ⟨gq_2_9 (List.mem_of_getElem? (i := 7) rfl), ?_⟩
  refine List.forall_mem_cons.mpr ⟨gq_1_1 (List.mem_of_getElem? (i := 1) rfl), ?_⟩
  refine List.forall_mem_cons.mpr ⟨gq_1_7 (List.mem_of_getElem? (i := 1) rfl), ?_⟩
  refine List.forall_mem_cons.mpr ⟨gq_2_13 (List.mem_of_getElem? (i := 3) rfl), ?_⟩
  refine List.forall_mem_cons.mpr ⟨gq_1_3 (List.mem_of_getElem? (i := 2) rfl), ?_⟩
  refine List.forall_mem_cons.mpr ⟨gq_1_4 (List.mem_of_getElem? (i := 0) rfl), ?_⟩
  refine List.forall_mem_cons.mpr ⟨gq_1_8 (List.mem_of_getElem? (i := 11) rfl), ?_⟩
  exact fun _ h => absurd h List.not_mem_nil
theorem ts_8 : ∀ w ∈ [Cond.eq (.static "java/lang/String" "COMPACT_STRINGS" "Z") (.int 1), .isRef (.static "jdk/internal/util/Preconditions" "SIOOBE_FORMATTER" "Ljava/util/function/BiFunction;"), .isRef (.static Bundle.tN "UNASSIGNED_STACK" Bundle.steD), .isRef (.static Bundle.tN "SUPPRESSED_SENTINEL" Bundle.listD)], w ∈ flatC ts_T := by
  refine List.forall_mem_cons.mpr ⟨List.mem_of_getElem? (i := 4) (by decide +kernel), ?_⟩
  refine List.forall_mem_cons.mpr ⟨List.mem_of_getElem? (i := 5) (by decide +kernel), ?_⟩
  refine List.forall_mem_cons.mpr ⟨List.mem_of_getElem? (i := 9) (by decide +kernel), ?_⟩
  refine List.forall_mem_cons.mpr ⟨List.mem_of_getElem? (i := 10) (by decide +kernel), ?_⟩
  exact fun _ h => absurd h List.not_mem_nil
theorem ts_9 : ∀ q ∈ vwCl, Cond.instantiable q.1 q.2.2 ∈ lw_tbl := by
  refine List.forall_mem_cons.mpr ⟨gq_1_13 (List.mem_of_getElem? (i := 12) rfl), ?_⟩
  refine List.forall_mem_cons.mpr ⟨gq_2_1 (List.mem_of_getElem? (i := 13) rfl), ?_⟩
  refine List.forall_mem_cons.mpr ⟨gq_1_14 (List.mem_of_getElem? (i := 10) rfl), ?_⟩
  refine List.forall_mem_cons.mpr ⟨gq_1_11 (List.mem_of_getElem? (i := 6) rfl), ?_⟩
  refine List.forall_mem_cons.mpr ⟨gq_2_0 (List.mem_of_getElem? (i := 7) rfl), ?_⟩
  refine List.forall_mem_cons.mpr ⟨gq_1_3 (List.mem_of_getElem? (i := 4) rfl), ?_⟩
  refine List.forall_mem_cons.mpr ⟨gq_1_7 (List.mem_of_getElem? (i := 3) rfl), ?_⟩
  refine List.forall_mem_cons.mpr ⟨gq_1_8 (List.mem_of_getElem? (i := 13) rfl), ?_⟩
  refine List.forall_mem_cons.mpr ⟨gq_1_2 (List.mem_of_getElem? (i := 6) rfl), ?_⟩
  refine List.forall_mem_cons.mpr ⟨gq_1_4 (List.mem_of_getElem? (i := 2) rfl), ?_⟩
  refine List.forall_mem_cons.mpr ⟨gq_1_12 (List.mem_of_getElem? (i := 12) rfl), ?_⟩
  refine List.forall_mem_cons.mpr ⟨gq_1_1 (List.mem_of_getElem? (i := 14) rfl), ?_⟩
  refine List.forall_mem_cons.mpr ⟨gq_6_2 (List.mem_of_getElem? (i := 10) rfl), ?_⟩
  exact fun _ h => absurd h List.not_mem_nil
theorem ts_9x : Cond.instantiable NSE 6 ∈ lw_tbl := gq_5_11 (List.mem_of_getElem? (i := 9) rfl)
theorem ts_10 : ∀ q ∈ g_cl, (∀ w ∈ u_ws q.1 q.2.1 q.2.2, w ∈ lw_tbl) ∧ ∃ n, Cond.instantiable q.1 n ∈ lw_tbl := by
  refine List.forall_mem_append.mpr ⟨?_, List.forall_mem_cons.mpr ⟨⟨fun w hw => absurd hw (by simp [u_ws]), 6, ts_9x⟩, fun _ h => absurd h List.not_mem_nil⟩⟩
  refine List.forall_mem_cons.mpr ⟨⟨fun w hw => (List.mem_filter.mp (iw_0 w hw)).1, 2, ts_9 _ (List.mem_of_getElem? (i := 0) rfl)⟩, ?_⟩
  refine List.forall_mem_cons.mpr ⟨⟨fun w hw => (List.mem_filter.mp (iw_1 w hw)).1, 2, ts_9 _ (List.mem_of_getElem? (i := 1) rfl)⟩, ?_⟩
  refine List.forall_mem_cons.mpr ⟨⟨fun w hw => (List.mem_filter.mp (iw_2 w hw)).1, 2, ts_9 _ (List.mem_of_getElem? (i := 2) rfl)⟩, ?_⟩
  refine List.forall_mem_cons.mpr ⟨⟨fun w hw => (List.mem_filter.mp (iw_3 w hw)).1, 4, ts_9 _ (List.mem_of_getElem? (i := 3) rfl)⟩, ?_⟩
  refine List.forall_mem_cons.mpr ⟨⟨fun w hw => (List.mem_filter.mp (iw_4 w hw)).1, 5, ts_9 _ (List.mem_of_getElem? (i := 4) rfl)⟩, ?_⟩
  refine List.forall_mem_cons.mpr ⟨⟨fun w hw => (List.mem_filter.mp (iw_5 w hw)).1, 2, ts_9 _ (List.mem_of_getElem? (i := 5) rfl)⟩, ?_⟩
  refine List.forall_mem_cons.mpr ⟨⟨fun w hw => (List.mem_filter.mp (iw_6 w hw)).1, 5, ts_9 _ (List.mem_of_getElem? (i := 6) rfl)⟩, ?_⟩
  refine List.forall_mem_cons.mpr ⟨⟨fun w hw => (List.mem_filter.mp (iw_7 w hw)).1, 7, ts_9 _ (List.mem_of_getElem? (i := 7) rfl)⟩, ?_⟩
  refine List.forall_mem_cons.mpr ⟨⟨fun w hw => (List.mem_filter.mp (iw_8 w hw)).1, 2, ts_9 _ (List.mem_of_getElem? (i := 8) rfl)⟩, ?_⟩
  refine List.forall_mem_cons.mpr ⟨⟨fun w hw => (List.mem_filter.mp (iw_9 w hw)).1, 9, ts_9 _ (List.mem_of_getElem? (i := 9) rfl)⟩, ?_⟩
  refine List.forall_mem_cons.mpr ⟨⟨fun w hw => (List.mem_filter.mp (iw_10 w hw)).1, 3, ts_9 _ (List.mem_of_getElem? (i := 10) rfl)⟩, ?_⟩
  refine List.forall_mem_cons.mpr ⟨⟨fun w hw => (List.mem_filter.mp (iw_11 w hw)).1, 16, ts_9 _ (List.mem_of_getElem? (i := 11) rfl)⟩, ?_⟩
  refine List.forall_mem_cons.mpr ⟨⟨fun w hw => (List.mem_filter.mp (iw_12 w hw)).1, 47, ts_9 _ (List.mem_of_getElem? (i := 12) rfl)⟩, ?_⟩
  exact fun _ h => absurd h List.not_mem_nil
section
variable {s : State} {args : Array Value}
theorem ts_K0 (hts : ∀ w ∈ lw_tbl, w.before args s = true) (c : Nat) : ∃ p : ClassId × (Nat → Nat), ∀ q, g_cl[c]? = some q → u_Kn s q.1 q.2.1 q.2.2 p.1 p.2 := by
  cases hq : g_cl[c]? with
  | none => exact ⟨(0, fun _ => 0), fun q h => by cases h⟩
  | some q =>
    obtain ⟨h1, n, h2⟩ := ts_10 q (List.mem_of_getElem? hq)
    obtain ⟨cC, iS, h⟩ := u_known hts h1 (hts _ h2)
    exact ⟨(cC, iS), fun q' e => by cases e; exact h⟩
theorem ts_A {ty : FieldType} (h : (Cond.arrayClass ty).before args s = true) (hb : ∀ C, ty ≠ .object C) : ∃ c : ClassId, ArrOfT s c ty ∧ va_RA s c ty := by
  obtain ⟨c, k, comp, h1, h2, h3⟩ := Cond.arrayClass_spec (show (Cond.arrayClass ty).holds args s none s [] = true from h)
  refine ⟨c, fun n z => ⟨fun k h => (by cases h), k, h2, comp, h3⟩, ?_⟩
  cases ty <;> first | exact h1 | exact absurd rfl (hb _)
theorem ts_B {C : String} (h : (Cond.arrayOver (.object C)).before args s = true) : ∃ c : ClassId, ArrOfT s c (.object C) ∧ va_RA s c (.object C) := by
  obtain ⟨comp, c, k, h1, -, h3, h4, h5⟩ := Cond.arrayOver_spec (show (Cond.arrayOver (.object C)).holds args s none s [] = true from h)
  exact ⟨c, fun n z => ⟨fun k h => (by cases h), k, h3, comp, h4⟩, k, comp, h3, h4, h1, h5⟩
theorem ts_K (hts : ∀ w ∈ lw_tbl, w.before args s = true) : ∃ (D : va_G) (tc : Nat → ClassId), va_K D g_cl (tm_tys RX9 tc) s := by
  have h0 := fun c => ts_K0 hts c
  obtain ⟨c0, a0⟩ := ts_A (ty := .int) (hts _ (ts_7 _ (List.mem_of_getElem? (i := 12) rfl))) (fun _ h => by cases h)
  obtain ⟨c1, a1⟩ := ts_A (ty := .byte) (hts _ (ts_7 _ (List.mem_of_getElem? (i := 13) rfl))) (fun _ h => by cases h)
  obtain ⟨c2, a2⟩ := ts_A (ty := .char) (hts _ (ts_7 _ (List.mem_of_getElem? (i := 14) rfl))) (fun _ h => by cases h)
  obtain ⟨c3, a3⟩ := ts_A (ty := .long) (hts _ (ts_7 _ (List.mem_of_getElem? (i := 15) rfl))) (fun _ h => by cases h)
  obtain ⟨c4, a4⟩ := ts_A (ty := .boolean) (hts _ (ts_7 _ (List.mem_of_getElem? (i := 16) rfl))) (fun _ h => by cases h)
  obtain ⟨c5, a5⟩ := ts_B (C := RX9) (hts _ (ts_7 _ (List.mem_of_getElem? (i := 0) rfl)))
  refine ⟨(fun c => (h0 c).choose.1, fun c => (h0 c).choose.2), fun k => match k with | 0 => c0 | 1 => c1 | 2 => c2 | 3 => c3 | 4 => c4 | _ => c5, fun c q hq => (h0 c).choose_spec q hq, fun k q hq => ?_⟩
  match k, hq with
  | 0, hq => have e := Option.some.inj (show some (c0, FieldType.int) = some q from hq); rw [← e]; exact a0
  | 1, hq => have e := Option.some.inj (show some (c1, FieldType.byte) = some q from hq); rw [← e]; exact a1
  | 2, hq => have e := Option.some.inj (show some (c2, FieldType.char) = some q from hq); rw [← e]; exact a2
  | 3, hq => have e := Option.some.inj (show some (c3, FieldType.long) = some q from hq); rw [← e]; exact a3
  | 4, hq => have e := Option.some.inj (show some (c4, FieldType.boolean) = some q from hq); rw [← e]; exact a4
  | 5, hq => have e := Option.some.inj (show some (c5, FieldType.object RX9) = some q from hq); rw [← e]; exact a5
  | k + 6, hq => simp [tm_tys] at hq
theorem ts_S (hgv : ts_T.before args s = true) : ∃ adK adV : Nat → Nat, vk_S 13 ts_len ts_byt adK adV (fun q => s.heap.size ≤ q) s s.heap ∧ ∀ i : Nat, i < 13 → (ts_tm i).eval args s none [] s = some (.ref (adK i)) := by
  have hf := flat_of_before ts_T hgv
  exact vk_Sof (tm := ts_tm) (fun i hi => Nat.lt_trans (ts_0 i hi).1 (by decide)) (fun i hi => hf _ (ts_1 i hi).1) (fun i hi => hf _ (ts_1 i hi).2.1) (fun i hi => hf _ (ts_1 i hi).2.2.1) (fun i hi => hf _ (ts_1 i hi).2.2.2) (fun i hi j hj => hf _ (ts_2 i hi j hj)) (fun i j hi hj hn => (ts_3 i hi j hj hn).imp (hf _) (hf _)) (fun a ha => Nat.not_le.mpr ha)
theorem ts_gd {l : List Int32} {k : Nat} (h : k < l.length) : l.getD k 0 = l[k] := by rw [List.getD_eq_getElem?_getD, List.getElem?_eq_getElem h]; rfl
theorem ts_V {t n1 n2 : Nat} {f1 f2 : Nat → Value} {A : Nat → Prop} (h1 : va_T .byte t n1 f1 A s s.heap) (h2 : va_T .byte t n2 f2 A s s.heap) (b1 : n1 < 4000) (b2 : n2 < 4000) : n1 = n2 ∧ ∀ j, j < n1 → f1 j = f2 j := by
  obtain ⟨c1, e1, -, -, l1, z1, g1, -⟩ := h1
  obtain ⟨c2, e2, -, -, l2, z2, g2, -⟩ := h2
  cases Option.some.inj (e1.symm.trans e2)
  have hz : Int32.ofNat n1 = Int32.ofNat n2 := z1.symm.trans z2
  have hn : n1 = n2 := by
    have h := congrArg Int32.toNatClampNeg hz
    rw [(z32 n1 b1).2, (z32 n2 b2).2] at h
    exact h
  exact ⟨hn, fun j hj => Option.some.inj ((g1 j hj).symm.trans (g2 j (by omega)))⟩
theorem ts_D {a v n : Nat} {f : Nat → Value} {A : Nat → Prop} (hfit : heapFits s = true) (h1 : va_OF "java/lang/String" "value" "[B" (.ref v) a A s s.heap) (h2 : va_T .byte a n f A s s.heap) : False := by
  obtain ⟨cf, k, i, fl, cell, -, -, e1, -, hs, -⟩ := h1
  obtain ⟨c2, e2, ⟨hns, k2, hk2, comp, hkind⟩, -⟩ := h2
  cases Option.some.inj (e1.symm.trans e2)
  obtain ⟨hlt, he⟩ := Array.getElem?_eq_some_iff.mp e1
  unfold heapFits at hfit
  have hc := Array.all_eq_true.mp hfit a hlt
  rw [he] at hc
  unfold cellFits at hc
  have hd := List.all_eq_true.mp hc fl.slot (List.mem_range.mpr (Array.getElem?_eq_some_iff.mp hs).1)
  simp only [hs] at hd
  cases hvm : cell.vm <;> first | exact hns _ hvm | simp [State.fitsSlot, State.slotType?, hk2, hkind, hvm, fits] at hd
noncomputable def ts_h (sa : g_SA) (q : Nat) : tm_E := by
  classical
  exact if h : ∃ j, j < 13 ∧ sa.1 j = q then .inl (100, h.choose, .inl fun _ => 0) else if h : ∃ j, j < 13 ∧ sa.2.1 j = q then .inl (102, h.choose, .inl fun _ => 0) else .inl (60, 0, .inl fun _ => 0)
theorem ts_hg (sa : g_SA) (q : Nat) : tm_gh (ts_h sa q) := by
  unfold ts_h
  split
  · exact ⟨_, _, rfl, by decide⟩
  · split
    · exact ⟨_, _, rfl, by decide⟩
    · exact ⟨_, _, rfl, by decide⟩
theorem ts_SH {sa : g_SA} {n k : Nat} (i1 : ∀ i j, i < 13 → j < 13 → sa.1 i = sa.1 j → i = j) (i2 : ∀ i j, i < 13 → j < 13 → sa.2.1 i = sa.2.1 j → i = j) (i3 : ∀ i j, i < 13 → j < 13 → sa.1 i = sa.2.1 j → False) : SH sa (n, k, ts_h sa) := by
  intro j hj
  constructor
  · have h : ∃ i, i < 13 ∧ sa.1 i = sa.1 j := ⟨j, hj, rfl⟩
    refine ⟨.inl fun _ => 0, ?_⟩
    show ts_h sa (sa.1 j) = _
    unfold ts_h
    rw [dif_pos h, show h.choose = j from i1 _ _ h.choose_spec.1 hj h.choose_spec.2]
  · have h0 : ¬ ∃ i, i < 13 ∧ sa.1 i = sa.2.1 j := fun ⟨i, hi, e⟩ => i3 i j hi hj e
    have h : ∃ i, i < 13 ∧ sa.2.1 i = sa.2.1 j := ⟨j, hj, rfl⟩
    refine ⟨.inl fun _ => 0, ?_⟩
    show ts_h sa (sa.2.1 j) = _
    unfold ts_h
    rw [dif_neg h0, dif_pos h, show h.choose = j from i2 _ _ h.choose_spec.1 hj h.choose_spec.2]
theorem ts_E {b L : Nat} {xs : Nat → Int32} (hts : ∀ w ∈ lw_tbl, w.before args s = true) (hgv : ts_T.before args s = true) (hX : va_X b L xs s s.heap) (hb : b < s.heap.size) (hfit : heapFits s = true) : ∃ sa : g_SA, EXq s.heap.size sa (b, L, xs) s ∧ SHo sa s.heap.size ∧ ∀ n k, SH sa (n, k, ts_h sa) := by
  obtain ⟨adK, adV, ⟨hS, hi⟩, hev⟩ := ts_S hgv
  have hf := flat_of_before ts_T hgv
  have hA : ∀ a : Nat, a < s.heap.size → ¬ (s.heap.size ≤ a) := fun a ha => Nat.not_le.mpr ha
  have hfm : ∃ fm : Option Nat, va_Z "jdk/internal/util/Preconditions" "SIOOBE_FORMATTER" "Ljava/util/function/BiFunction;" (va_rf fm) (fun q => s.heap.size ≤ q) s s.heap := by
    rcases va_Zqof (A := fun q => s.heap.size ≤ q) (hts _ (ts_7 _ (List.mem_of_getElem? (i := 10) rfl))) (hts _ (ts_7 _ (List.mem_of_getElem? (i := 11) rfl))) (hf _ (ts_8 _ (List.mem_of_getElem? (i := 1) rfl))) hA with h | ⟨t, h⟩
    · exact ⟨none, h⟩
    · exact ⟨some t, h⟩
  obtain ⟨fm, hfm⟩ := hfm
  have hT : ∀ j, j < 13 → va_T .byte (adV j) (g_sb j).length (fun i => .int ((g_sb j).getD i 0)) (fun q => s.heap.size ≤ q) s s.heap := fun j hj => by
    have h := (hS j hj).2.2.2
    rw [(ts_0 j hj).2.1, (ts_0 j hj).2.2] at h
    exact h
  have b2 : ∀ j, j < 13 → (g_sb j).length < 4000 := fun j hj => by rw [← (ts_0 j hj).2.1]; exact (ts_0 j hj).1
  have i2 : ∀ i j, i < 13 → j < 13 → adV i = adV j → i = j := fun i j hi' hj e => by
    have h1 := hT i hi'
    rw [e] at h1
    obtain ⟨e1, e2⟩ := ts_V h1 (hT j hj) (b2 i hi') (b2 j hj)
    refine ts_4 i hi' j hj (List.ext_getElem e1 (fun k k1 k2 => ?_))
    have h3 := Value.int.inj (e2 k k1)
    rw [ts_gd k1, ts_gd k2] at h3
    exact h3
  refine ⟨(adK, adV, fm), ?_, ?_, ?_⟩
  · unfold EXq g_EX g_X2 tm_SC tm_ST X3
    refine ⟨fun w hw => va_Nw.of (ts_6 w hw).2 (hts _ (ts_6 w hw).1), va_AO.of (hts _ (ts_7 _ (List.mem_of_getElem? (i := 0) rfl))), fun q hq => ?_, ⟨⟨hX, hb, hb⟩, fun j hj => ⟨(hS j hj).1, (hS j hj).2.1, (hS j hj).2.2.1, hT j hj⟩, va_Zof (hts _ (ts_7 _ (List.mem_of_getElem? (i := 8) rfl))) (hts _ (ts_7 _ (List.mem_of_getElem? (i := 9) rfl))) (va_eqt (hf _ (ts_8 _ (List.mem_of_getElem? (i := 0) rfl)))) hA, hfm⟩, ⟨va_Nw.of rfl (hts _ (ts_7 _ (List.mem_of_getElem? (i := 1) rfl))), va_Nw.of rfl (hts _ (ts_7 _ (List.mem_of_getElem? (i := 2) rfl))), va_Nw.of rfl (hts _ (ts_7 _ (List.mem_of_getElem? (i := 3) rfl))), va_Nw.of rfl (hts _ (ts_7 _ (List.mem_of_getElem? (i := 4) rfl)))⟩, vx_Zqof (hts _ (ts_7 _ (List.mem_of_getElem? (i := 5) rfl))) (hts _ (ts_7 _ (List.mem_of_getElem? (i := 7) rfl))) (hf _ (ts_8 _ (List.mem_of_getElem? (i := 2) rfl))) hA, vx_Zqof (hts _ (ts_7 _ (List.mem_of_getElem? (i := 6) rfl))) (hts _ (ts_7 _ (List.mem_of_getElem? (i := 7) rfl))) (hf _ (ts_8 _ (List.mem_of_getElem? (i := 3) rfl))) hA⟩
    obtain ⟨q1, q2, q3⟩ := ts_5 q hq
    have q4 := hev _ q1
    rw [q2] at q4
    exact vk_R.of (hts _ q3) q4
  · intro j hj
    obtain ⟨c1, e1, -⟩ := (hS j hj).1
    obtain ⟨c2, e2, -⟩ := hT j hj
    exact ⟨(Array.getElem?_eq_some_iff.mp e1).1, (Array.getElem?_eq_some_iff.mp e2).1⟩
  · exact fun n k => ts_SH hi i2 (fun i j hi' hj e => ts_D hfit (hS i hi').2.2.1 (by rw [show adK i = adV j from e]; exact hT j hj))
end
