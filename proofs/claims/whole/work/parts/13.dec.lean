def g_sw (i : Instr) : Bool := match i with
  | .tableswitch _ _ _ _ => true
  | .lookupswitch _ _ => true
  | _ => false
def g_c1 (S : List UInt8) (e : tm_N) : Bool := match decode ⟨⟨S⟩⟩ 0 with
  | .ok (i, n) => decide (i = e.1) && (decide (tm_len i = 0) || decide (n = tm_len i))
  | .error _ => false
def g_hd (S : List UInt8) : Bool := match S with
  | b :: _ => b != 170 && b != 171 && b != 185 && b != 186 && b != 196 && b != 197
  | [] => false
/-- the entries of a code, in their order, by the bytes from pc on -/
def g_ck : List UInt8 → Nat → List (Nat × tm_N) → Bool
  | _, _, [] => true
  | S, pc, (p, e) :: t => decide (pc ≤ p) && (g_sw e.1 || (g_hd (S.drop (p - pc)) && g_c1 ((S.drop (p - pc)).take 5) e)) && g_ck (S.drop (p - pc)) p t
theorem g_ck_ok {L : List UInt8} : ∀ (es : List (Nat × tm_N)) (S : List UInt8) (pc : Nat), S = L.drop pc → g_ck S pc es = true → ∀ q ∈ es, g_sw q.2.1 = false → ∃ n, decode ⟨⟨L⟩⟩ q.1 = .ok (q.2.1, n) ∧ (tm_len q.2.1 = 0 ∨ n = tm_len q.2.1)
  | [], _, _, _, _ => fun q hq => by cases hq
  | (p, e) :: t, S, pc, hS, h => by
    simp only [g_ck, Bool.and_eq_true, Bool.or_eq_true, decide_eq_true_eq] at h
    obtain ⟨⟨h1, h2⟩, h3⟩ := h
    have hd : S.drop (p - pc) = L.drop p := by rw [hS, List.drop_drop]; congr 1; omega
    intro q hq hs
    rcases List.mem_cons.mp hq with rfl | hq
    · rcases h2 with h2 | ⟨h2, h4⟩
      · dsimp only at hs
        rw [hs] at h2
        cases h2
      · unfold g_c1 at h4
        split at h4
        · rename_i i n hdec
          simp only [Bool.and_eq_true, Bool.or_eq_true, decide_eq_true_eq] at h4
          obtain ⟨rfl, h5⟩ := h4
          refine ⟨n, rd_decode (T := (S.drop (p - pc)).drop 5) (by rw [List.take_append_drop, hd]) ?_ hdec, h5⟩
          unfold g_hd at h2
          cases hl : S.drop (p - pc) with
          | nil => rw [hl] at h2; cases h2
          | cons b r =>
            rw [hl] at h2
            simp only [Bool.and_eq_true, bne_iff_ne, ne_eq] at h2
            obtain ⟨⟨⟨⟨⟨g1, g2⟩, g3⟩, g4⟩, g5⟩, g6⟩ := h2
            simp only [List.take_succ_cons, List.head?_cons, ne_eq, Option.some.injEq]
            exact ⟨g1, g2, g3, g4, g5, g6⟩
        · cases h4
    · exact g_ck_ok t (S.drop (p - pc)) p hd h3 q hq hs
theorem g_eta (cc : ByteArray) : cc = ⟨⟨cc.data.toList⟩⟩ := rfl

theorem q_0 : g_ck (cL_law).data.toList 0 k_0 = true := by decide +kernel
theorem q_1 : g_ck (cX0_init).data.toList 0 k_1 = true := by decide +kernel
theorem q_2 : g_ck (cX0_read).data.toList 0 k_2 = true := by decide +kernel
theorem q_3 : g_ck (cX0_putApart).data.toList 0 k_3 = true := by decide +kernel
theorem q_4 : g_ck (cX0_fewest).data.toList 0 k_4 = true := by decide +kernel
theorem q_5 : g_ck (cX0_placeFrom).data.toList 0 k_5 = true := by decide +kernel
theorem q_6 : g_ck (cX0_mayStand).data.toList 0 k_6 = true := by decide +kernel
theorem q_7 : g_ck (cX1_init).data.toList 0 k_7 = true := by decide +kernel
theorem q_8 : g_ck (cX1_leftOfWin).data.toList 0 k_8 = true := by decide +kernel
theorem q_9 : g_ck (cX1_learn).data.toList 0 k_9 = true := by decide +kernel
theorem q_10 : g_ck (cX2_init).data.toList 0 k_10 = true := by decide +kernel
theorem q_11 : g_ck (cX2_size).data.toList 0 k_11 = true := by decide +kernel
theorem q_12 : g_ck (cX2_hear).data.toList 0 k_12 = true := by decide +kernel
theorem q_13 : g_ck (cX2_clear).data.toList 0 k_13 = true := by decide +kernel
theorem q_14 : g_ck (cX2_mostOf).data.toList 0 k_14 = true := by decide +kernel
theorem q_15 : g_ck (cX2_fitting).data.toList 0 k_15 = true := by decide +kernel
theorem q_16 : g_ck (cX2_answering).data.toList 0 k_16 = true := by decide +kernel
theorem q_17 : g_ck (cX2_isSo).data.toList 0 k_17 = true := by decide +kernel
theorem q_18 : g_ck (cX2_leftAtMost).data.toList 0 k_18 = true := by decide +kernel
theorem q_19 : g_ck (cX2_bestQuestion).data.toList 0 k_19 = true := by decide +kernel
theorem q_20 : g_ck (cX3_init).data.toList 0 k_20 = true := by decide +kernel
theorem q_21 : g_ck (cX3_read).data.toList 0 k_21 = true := by decide +kernel
theorem q_22 : g_ck (cX3_gather).data.toList 0 k_22 = true := by decide +kernel
theorem q_23 : g_ck (cX3_suits).data.toList 0 k_23 = true := by decide +kernel
theorem q_24 : g_ck (cX4_init).data.toList 0 k_24 = true := by decide +kernel
theorem q_25 : g_ck (cX4_size).data.toList 0 k_25 = true := by decide +kernel
theorem q_26 : g_ck (cX4_see).data.toList 0 k_26 = true := by decide +kernel
theorem q_27 : g_ck (cX4_clear).data.toList 0 k_27 = true := by decide +kernel
theorem q_28 : g_ck (cX4_upperOf).data.toList 0 k_28 = true := by decide +kernel
theorem q_29 : g_ck (cX4_lowerOf).data.toList 0 k_29 = true := by decide +kernel
theorem q_30 : g_ck (cX4_becomes).data.toList 0 k_30 = true := by decide +kernel
theorem q_31 : g_ck (cX4_fitting).data.toList 0 k_31 = true := by decide +kernel
theorem q_32 : g_ck (cX4_fitsAll).data.toList 0 k_32 = true := by decide +kernel
theorem q_33 : g_ck (cX4_leftAtMost).data.toList 0 k_33 = true := by decide +kernel
theorem q_34 : g_ck (cX4_bestLook).data.toList 0 k_34 = true := by decide +kernel
theorem q_35 : g_ck (cX5_init).data.toList 0 k_35 = true := by decide +kernel
theorem q_36 : g_ck (cX5_clear).data.toList 0 k_36 = true := by decide +kernel
theorem q_37 : g_ck (cX5_add).data.toList 0 k_37 = true := by decide +kernel
theorem q_38 : g_ck (cX5_tell).data.toList 0 k_38 = true := by decide +kernel
theorem q_39 : g_ck (cX5_tell_).data.toList 0 k_39 = true := by decide +kernel
theorem q_40 : g_ck (cX5_tell__).data.toList 0 k_40 = true := by decide +kernel
theorem q_41 : g_ck (cX5_size).data.toList 0 k_41 = true := by decide +kernel
theorem q_42 : g_ck (cX5_has).data.toList 0 k_42 = true := by decide +kernel
theorem q_43 : g_ck (cX5_at).data.toList 0 k_43 = true := by decide +kernel
theorem q_44 : g_ck (cX6_init).data.toList 0 k_44 = true := by decide +kernel
theorem q_45 : g_ck (cX6_size).data.toList 0 k_45 = true := by decide +kernel
theorem q_46 : g_ck (cX6_clear).data.toList 0 k_46 = true := by decide +kernel
theorem q_47 : g_ck (cX6_push).data.toList 0 k_47 = true := by decide +kernel
theorem q_48 : g_ck (cX6_pop).data.toList 0 k_48 = true := by decide +kernel
theorem q_49 : g_ck (cX6_keepUnder).data.toList 0 k_49 = true := by decide +kernel
theorem q_50 : g_ck (cX6_bringBack).data.toList 0 k_50 = true := by decide +kernel
theorem q_51 : g_ck (cX7_init).data.toList 0 k_51 = true := by decide +kernel
theorem q_52 : g_ck (cX7_looksAtNight).data.toList 0 k_52 = true := by decide +kernel
theorem q_53 : g_ck (cX7_read).data.toList 0 k_53 = true := by decide +kernel
theorem q_54 : g_ck (cX7_putFirstRule).data.toList 0 k_54 = true := by decide +kernel
theorem q_55 : g_ck (cX7_put).data.toList 0 k_55 = true := by decide +kernel
theorem q_56 : g_ck (cX7_putThing).data.toList 0 k_56 = true := by decide +kernel
theorem q_57 : g_ck (cX7_readExpression).data.toList 0 k_57 = true := by decide +kernel
theorem q_58 : g_ck (cX7_readSum).data.toList 0 k_58 = true := by decide +kernel
theorem q_59 : g_ck (cX7_readThing).data.toList 0 k_59 = true := by decide +kernel
theorem q_60 : g_ck (cX7_readNumber).data.toList 0 k_60 = true := by decide +kernel
theorem q_61 : g_ck (cX7_readInner).data.toList 0 k_61 = true := by decide +kernel
theorem q_62 : g_ck (cX7_value).data.toList 0 k_62 = true := by decide +kernel
theorem q_63 : g_ck (cX8_init).data.toList 0 k_63 = true := by decide +kernel
theorem q_64 : g_ck (cX8_append).data.toList 0 k_64 = true := by decide +kernel
theorem q_65 : g_ck (cX8_cut).data.toList 0 k_65 = true := by decide +kernel
theorem q_66 : g_ck (cX8_clear).data.toList 0 k_66 = true := by decide +kernel
theorem q_67 : g_ck (cX8_size).data.toList 0 k_67 = true := by decide +kernel
theorem q_68 : g_ck (cX8_at).data.toList 0 k_68 = true := by decide +kernel
theorem q_69 : g_ck (cX8_letterAt).data.toList 0 k_69 = true := by decide +kernel
theorem q_70 : g_ck (cX8_digitAt).data.toList 0 k_70 = true := by decide +kernel
theorem q_71 : g_ck (cX8_twoDigitsAt).data.toList 0 k_71 = true := by decide +kernel
theorem q_72 : g_ck (cX8_signedDigitAt).data.toList 0 k_72 = true := by decide +kernel
theorem q_73 : g_ck (cX8_misfit).data.toList 0 k_73 = true := by decide +kernel
theorem q_74 : g_ck (cX8_stands).data.toList 0 k_74 = true := by decide +kernel
theorem q_75 : g_ck (cX9_init).data.toList 0 k_75 = true := by decide +kernel
theorem q_76 : g_ck (cX9_copy).data.toList 0 k_76 = true := by decide +kernel
theorem q_77 : g_ck (cX9_add).data.toList 0 k_77 = true := by decide +kernel
theorem q_78 : g_ck (cX9_has).data.toList 0 k_78 = true := by decide +kernel
theorem q_79 : g_ck (cX9_all).data.toList 0 k_79 = true := by decide +kernel
theorem q_80 : g_ck (cX9_free).data.toList 0 k_80 = true := by decide +kernel
theorem q_81 : g_ck (cX9_ofLetter).data.toList 0 k_81 = true := by decide +kernel
theorem q_82 : g_ck (cX9_freeOf).data.toList 0 k_82 = true := by decide +kernel
theorem q_83 : g_ck (cX9_inBox).data.toList 0 k_83 = true := by decide +kernel
theorem q_84 : g_ck (cX9_whose).data.toList 0 k_84 = true := by decide +kernel
theorem q_85 : g_ck (cX9_moodsOf).data.toList 0 k_85 = true := by decide +kernel
theorem q_86 : g_ck (cX9_moodsOfAll).data.toList 0 k_86 = true := by decide +kernel
theorem q_87 : g_ck (cX9_farFromRest).data.toList 0 k_87 = true := by decide +kernel
theorem q_88 : g_ck (cX9_wearOfAll).data.toList 0 k_88 = true := by decide +kernel
theorem q_89 : g_ck (cX9_atHome).data.toList 0 k_89 = true := by decide +kernel
theorem q_90 : g_ck (cX9_hasTwoLetters).data.toList 0 k_90 = true := by decide +kernel
theorem q_91 : g_ck (cX9_lettersOf).data.toList 0 k_91 = true := by decide +kernel
theorem q_92 : g_ck (cX9_packedMoods).data.toList 0 k_92 = true := by decide +kernel
theorem q_93 : g_ck (cX9_wouldTake).data.toList 0 k_93 = true := by decide +kernel
theorem q_94 : g_ck (cX9_leastWorn).data.toList 0 k_94 = true := by decide +kernel
theorem q_95 : g_ck (cX9_setSorts).data.toList 0 k_95 = true := by decide +kernel
theorem q_96 : g_ck (cX9_moveTo).data.toList 0 k_96 = true := by decide +kernel
theorem q_97 : g_ck (cX9_clean).data.toList 0 k_97 = true := by decide +kernel
theorem q_98 : g_ck (cX9_castAnew).data.toList 0 k_98 = true := by decide +kernel
theorem q_99 : g_ck (cX9_distribute).data.toList 0 k_99 = true := by decide +kernel
theorem q_100 : g_ck (cX9_passNights).data.toList 0 k_100 = true := by decide +kernel
theorem q_101 : g_ck (cX9_passNight).data.toList 0 k_101 = true := by decide +kernel
theorem q_102 : g_ck (cX9_turnNow).data.toList 0 k_102 = true := by decide +kernel
theorem q_103 : g_ck (cX9_weighBoxes).data.toList 0 k_103 = true := by decide +kernel
theorem q_104 : g_ck (cX9_turn).data.toList 0 k_104 = true := by decide +kernel
theorem q_105 : g_ck (cX10_init).data.toList 0 k_105 = true := by decide +kernel
theorem q_106 : g_ck (cX10_read).data.toList 0 k_106 = true := by decide +kernel
theorem q_107 : g_ck (cX10_mostAtOnce).data.toList 0 k_107 = true := by decide +kernel
theorem q_108 : g_ck (cX10_canBeSet).data.toList 0 k_108 = true := by decide +kernel
theorem q_109 : g_ck (cX11_init).data.toList 0 k_109 = true := by decide +kernel
theorem q_110 : g_ck (cX11_sign).data.toList 0 k_110 = true := by decide +kernel
theorem q_111 : g_ck (cX11_end).data.toList 0 k_111 = true := by decide +kernel
theorem q_112 : g_ck (cX11_sorts).data.toList 0 k_112 = true := by decide +kernel
theorem q_113 : g_ck (cX11_rule).data.toList 0 k_113 = true := by decide +kernel
theorem q_114 : g_ck (cX11_sort).data.toList 0 k_114 = true := by decide +kernel
theorem q_115 : g_ck (cX11_box).data.toList 0 k_115 = true := by decide +kernel
theorem q_116 : g_ck (cX11_sheet).data.toList 0 k_116 = true := by decide +kernel
theorem q_117 : g_ck (cX11_sets).data.toList 0 k_117 = true := by decide +kernel
theorem q_118 : g_ck (cX11_nights).data.toList 0 k_118 = true := by decide +kernel
theorem q_119 : g_ck (cX11_moves).data.toList 0 k_119 = true := by decide +kernel
theorem q_120 : g_ck (cX11_cleans).data.toList 0 k_120 = true := by decide +kernel
theorem q_121 : g_ck (cX11_casts).data.toList 0 k_121 = true := by decide +kernel
theorem q_122 : g_ck (cX11_week).data.toList 0 k_122 = true := by decide +kernel
theorem q_123 : g_ck (cX11_undo).data.toList 0 k_123 = true := by decide +kernel
theorem q_124 : g_ck (cX11_tells).data.toList 0 k_124 = true := by decide +kernel
theorem q_125 : g_ck (cX11_often).data.toList 0 k_125 = true := by decide +kernel
theorem q_126 : g_ck (cX11_shortest).data.toList 0 k_126 = true := by decide +kernel
theorem q_127 : g_ck (cX11_bears).data.toList 0 k_127 = true := by decide +kernel
theorem q_128 : g_ck (cX11_spans).data.toList 0 k_128 = true := by decide +kernel
theorem q_129 : g_ck (cX11_packs).data.toList 0 k_129 = true := by decide +kernel
theorem q_130 : g_ck (cX11_later).data.toList 0 k_130 = true := by decide +kernel
theorem q_131 : g_ck (cX11_settles).data.toList 0 k_131 = true := by decide +kernel
theorem q_132 : g_ck (cX11_round).data.toList 0 k_132 = true := by decide +kernel
theorem q_133 : g_ck (cX11_gravest).data.toList 0 k_133 = true := by decide +kernel
theorem q_134 : g_ck (cX11_blows).data.toList 0 k_134 = true := by decide +kernel
theorem q_135 : g_ck (cX11_parts).data.toList 0 k_135 = true := by decide +kernel
theorem q_136 : g_ck (cX11_mixed).data.toList 0 k_136 = true := by decide +kernel
theorem q_137 : g_ck (cX11_rubs).data.toList 0 k_137 = true := by decide +kernel
theorem q_138 : g_ck (cX11_chord).data.toList 0 k_138 = true := by decide +kernel
theorem q_139 : g_ck (cX11_heard).data.toList 0 k_139 = true := by decide +kernel
theorem q_140 : g_ck (cX11_forget).data.toList 0 k_140 = true := by decide +kernel
theorem q_141 : g_ck (cX11_fits).data.toList 0 k_141 = true := by decide +kernel
theorem q_142 : g_ck (cX11_asks).data.toList 0 k_142 = true := by decide +kernel
theorem q_143 : g_ck (cX11_saw).data.toList 0 k_143 = true := by decide +kernel
theorem q_144 : g_ck (cX11_denies).data.toList 0 k_144 = true := by decide +kernel
theorem q_145 : g_ck (cX11_laws).data.toList 0 k_145 = true := by decide +kernel
theorem q_146 : g_ck (cX11_looks).data.toList 0 k_146 = true := by decide +kernel
theorem q_147 : g_ck (cX11_reads).data.toList 0 k_147 = true := by decide +kernel
theorem q_148 : g_ck (cX11_galley).data.toList 0 k_148 = true := by decide +kernel
theorem q_149 : g_ck (cX11_rests).data.toList 0 k_149 = true := by decide +kernel
theorem q_150 : g_ck (cX11_law).data.toList 0 k_150 = true := by decide +kernel
theorem q_151 : g_ck (cX11_years).data.toList 0 k_151 = true := by decide +kernel
theorem q_152 : g_ck (cX11_keep).data.toList 0 k_152 = true := by decide +kernel
theorem q_153 : g_ck (cX11_again).data.toList 0 k_153 = true := by decide +kernel
theorem q_154 : g_ck (cX11_count).data.toList 0 k_154 = true := by decide +kernel
theorem q_155 : g_ck (cX11_row).data.toList 0 k_155 = true := by decide +kernel
theorem q_156 : g_ck (cX11_isMood).data.toList 0 k_156 = true := by decide +kernel
theorem q_157 : g_ck (cX11_isBox).data.toList 0 k_157 = true := by decide +kernel
theorem q_158 : g_ck (cX11_putToMood).data.toList 0 k_158 = true := by decide +kernel
theorem q_159 : g_ck (cX11_readLetters).data.toList 0 k_159 = true := by decide +kernel
theorem q_160 : g_ck (cX11_undoable).data.toList 0 k_160 = true := by decide +kernel
theorem q_161 : g_ck (cX11_faultOfLines).data.toList 0 k_161 = true := by decide +kernel
theorem q_162 : g_ck (cX11_addLines).data.toList 0 k_162 = true := by decide +kernel
theorem q_163 : g_ck (cX11_entryOf).data.toList 0 k_163 = true := by decide +kernel
theorem q_164 : g_ck (cX11_faultOfWeek).data.toList 0 k_164 = true := by decide +kernel
theorem q_165 : g_ck (cX11_behindAct).data.toList 0 k_165 = true := by decide +kernel
theorem q_166 : g_ck (cX11_shapeOfAct).data.toList 0 k_166 = true := by decide +kernel
theorem q_167 : g_ck (cX11_doAct).data.toList 0 k_167 = true := by decide +kernel
theorem q_168 : g_ck (cX11_setLetters).data.toList 0 k_168 = true := by decide +kernel
theorem q_169 : g_ck (cX11_fewestToClean).data.toList 0 k_169 = true := by decide +kernel
theorem q_170 : g_ck (cX11_calms).data.toList 0 k_170 = true := by decide +kernel
theorem q_171 : g_ck (cX11_commonDivisor).data.toList 0 k_171 = true := by decide +kernel
theorem q_172 : g_ck (cX11_sells).data.toList 0 k_172 = true := by decide +kernel
theorem q_173 : g_ck (cX11_isContent).data.toList 0 k_173 = true := by decide +kernel
theorem q_174 : g_ck (cX11_nextDraw).data.toList 0 k_174 = true := by decide +kernel
theorem q_175 : g_ck (cX11_drawOf).data.toList 0 k_175 = true := by decide +kernel
theorem q_176 : g_ck (cX12_init).data.toList 0 k_176 = true := by decide +kernel
theorem q_177 : g_ck (cX12_thrown).data.toList 0 k_177 = true := by decide +kernel
theorem q_178 : g_ck (cX12_in).data.toList 0 k_178 = true := by decide +kernel
theorem q_179 : g_ck (cX12_has).data.toList 0 k_179 = true := by decide +kernel
theorem q_180 : g_ck (cX12_put).data.toList 0 k_180 = true := by decide +kernel
theorem q_181 : g_ck (cX12_lost).data.toList 0 k_181 = true := by decide +kernel
theorem q_182 : g_ck (cX12_tell).data.toList 0 k_182 = true := by decide +kernel
theorem q_183 : g_ck (cX12_isSort).data.toList 0 k_183 = true := by decide +kernel
theorem q_184 : g_ck (cX12_all).data.toList 0 k_184 = true := by decide +kernel
theorem q_185 : g_ck (cX12_sign).data.toList 0 k_185 = true := by decide +kernel
theorem q_186 : g_ck (cX12_end).data.toList 0 k_186 = true := by decide +kernel
theorem q_187 : g_ck (cX12_begin).data.toList 0 k_187 = true := by decide +kernel
theorem q_188 : g_ck (cX12_beginText).data.toList 0 k_188 = true := by decide +kernel
theorem q_189 : g_ck (cX12_here).data.toList 0 k_189 = true := by decide +kernel
theorem q_190 : g_ck (cX12_fine).data.toList 0 k_190 = true := by decide +kernel
theorem q_191 : g_ck (cX12_fault).data.toList 0 k_191 = true := by decide +kernel
theorem q_192 : g_ck (cX12_passes).data.toList 0 k_192 = true := by decide +kernel
theorem q_193 : g_ck (cX12_need).data.toList 0 k_193 = true := by decide +kernel
theorem q_194 : g_ck (cX12_oneOf).data.toList 0 k_194 = true := by decide +kernel
theorem q_195 : g_ck (cX12_number).data.toList 0 k_195 = true := by decide +kernel
theorem q_196 : g_ck (cX12_wasRight).data.toList 0 k_196 = true := by decide +kernel
theorem q_197 : g_ck (cX12_signedOf).data.toList 0 k_197 = true := by decide +kernel
theorem q_198 : g_ck (cX12_sorts).data.toList 0 k_198 = true := by decide +kernel
theorem q_199 : g_ck (cX12_held).data.toList 0 k_199 = true := by decide +kernel
theorem q_200 : g_ck (cX12_sum).data.toList 0 k_200 = true := by decide +kernel
theorem q_201 : g_ck (cX12_product).data.toList 0 k_201 = true := by decide +kernel
theorem q_202 : g_ck (cX12_letterOf).data.toList 0 k_202 = true := by decide +kernel
theorem q_203 : g_ck (cX12_thing).data.toList 0 k_203 = true := by decide +kernel
theorem q_204 : g_ck (cX12_readRule).data.toList 0 k_204 = true := by decide +kernel
theorem q_205 : g_ck (cX12_rule).data.toList 0 k_205 = true := by decide +kernel
theorem q_206 : g_ck (cX12_turnOf).data.toList 0 k_206 = true := by decide +kernel
theorem q_207 : g_ck (cX12_sort).data.toList 0 k_207 = true := by decide +kernel
theorem q_208 : g_ck (cX12_inBox).data.toList 0 k_208 = true := by decide +kernel
theorem q_209 : g_ck (cX12_moodsOf).data.toList 0 k_209 = true := by decide +kernel
theorem q_210 : g_ck (cX12_box).data.toList 0 k_210 = true := by decide +kernel
theorem q_211 : g_ck (cX12_wears).data.toList 0 k_211 = true := by decide +kernel
theorem q_212 : g_ck (cX12_sheet).data.toList 0 k_212 = true := by decide +kernel
theorem q_213 : g_ck (cX12_lay).data.toList 0 k_213 = true := by decide +kernel
theorem q_214 : g_ck (cX12_remember).data.toList 0 k_214 = true := by decide +kernel
theorem q_215 : g_ck (cX12_layNeed).data.toList 0 k_215 = true := by decide +kernel
theorem q_216 : g_ck (cX12_readLine).data.toList 0 k_216 = true := by decide +kernel
theorem q_217 : g_ck (cX12_takes).data.toList 0 k_217 = true := by decide +kernel
theorem q_218 : g_ck (cX12_goSet).data.toList 0 k_218 = true := by decide +kernel
theorem q_219 : g_ck (cX12_wouldTake).data.toList 0 k_219 = true := by decide +kernel
theorem q_220 : g_ck (cX12_sets).data.toList 0 k_220 = true := by decide +kernel
theorem q_221 : g_ck (cX12_goNight).data.toList 0 k_221 = true := by decide +kernel
theorem q_222 : g_ck (cX12_goNights).data.toList 0 k_222 = true := by decide +kernel
theorem q_223 : g_ck (cX12_atHome).data.toList 0 k_223 = true := by decide +kernel
theorem q_224 : g_ck (cX12_nights).data.toList 0 k_224 = true := by decide +kernel
theorem q_225 : g_ck (cX12_refusesMove).data.toList 0 k_225 = true := by decide +kernel
theorem q_226 : g_ck (cX12_moves).data.toList 0 k_226 = true := by decide +kernel
theorem q_227 : g_ck (cX12_refusesClean).data.toList 0 k_227 = true := by decide +kernel
theorem q_228 : g_ck (cX12_cleans).data.toList 0 k_228 = true := by decide +kernel
theorem q_229 : g_ck (cX12_refusesCast).data.toList 0 k_229 = true := by decide +kernel
theorem q_230 : g_ck (cX12_casts).data.toList 0 k_230 = true := by decide +kernel
theorem q_231 : g_ck (cX12_week).data.toList 0 k_231 = true := by decide +kernel
theorem q_232 : g_ck (cX12_readAct).data.toList 0 k_232 = true := by decide +kernel
theorem q_233 : g_ck (cX12_act).data.toList 0 k_233 = true := by decide +kernel
theorem q_234 : g_ck (cX12_undo).data.toList 0 k_234 = true := by decide +kernel
theorem q_235 : g_ck (cX12_tells).data.toList 0 k_235 = true := by decide +kernel
theorem q_236 : g_ck (cX12_free).data.toList 0 k_236 = true := by decide +kernel
theorem q_237 : g_ck (cX12_often).data.toList 0 k_237 = true := by decide +kernel
theorem q_238 : g_ck (cX12_shortest).data.toList 0 k_238 = true := by decide +kernel
theorem q_239 : g_ck (cX12_isText).data.toList 0 k_239 = true := by decide +kernel
theorem q_240 : g_ck (cX12_bears).data.toList 0 k_240 = true := by decide +kernel
theorem q_241 : g_ck (cX12_spans).data.toList 0 k_241 = true := by decide +kernel
theorem q_242 : g_ck (cX12_canSet).data.toList 0 k_242 = true := by decide +kernel
theorem q_243 : g_ck (cX12_packs).data.toList 0 k_243 = true := by decide +kernel
theorem q_244 : g_ck (cX12_goThen).data.toList 0 k_244 = true := by decide +kernel
theorem q_245 : g_ck (cX12_later).data.toList 0 k_245 = true := by decide +kernel
theorem q_246 : g_ck (cX12_layTrail).data.toList 0 k_246 = true := by decide +kernel
theorem q_247 : g_ck (cX12_areLike).data.toList 0 k_247 = true := by decide +kernel
theorem q_248 : g_ck (cX12_settles).data.toList 0 k_248 = true := by decide +kernel
theorem q_249 : g_ck (cX12_round).data.toList 0 k_249 = true := by decide +kernel
theorem q_250 : g_ck (cX12_gravest).data.toList 0 k_250 = true := by decide +kernel
theorem q_251 : g_ck (cX12_isCalm).data.toList 0 k_251 = true := by decide +kernel
theorem q_252 : g_ck (cX12_blows).data.toList 0 k_252 = true := by decide +kernel
theorem q_253 : g_ck (cX12_canBox).data.toList 0 k_253 = true := by decide +kernel
theorem q_254 : g_ck (cX12_parts).data.toList 0 k_254 = true := by decide +kernel
theorem q_255 : g_ck (cX12_mixed).data.toList 0 k_255 = true := by decide +kernel
theorem q_256 : g_ck (cX12_rubs).data.toList 0 k_256 = true := by decide +kernel
theorem q_257 : g_ck (cX12_isChord).data.toList 0 k_257 = true := by decide +kernel
theorem q_258 : g_ck (cX12_chord).data.toList 0 k_258 = true := by decide +kernel
theorem q_259 : g_ck (cX12_highOf).data.toList 0 k_259 = true := by decide +kernel
theorem q_260 : g_ck (cX12_heard).data.toList 0 k_260 = true := by decide +kernel
theorem q_261 : g_ck (cX12_forget).data.toList 0 k_261 = true := by decide +kernel
theorem q_262 : g_ck (cX12_isSo).data.toList 0 k_262 = true := by decide +kernel
theorem q_263 : g_ck (cX12_fitting).data.toList 0 k_263 = true := by decide +kernel
theorem q_264 : g_ck (cX12_fits).data.toList 0 k_264 = true := by decide +kernel
theorem q_265 : g_ck (cX12_asks).data.toList 0 k_265 = true := by decide +kernel
theorem q_266 : g_ck (cX12_isMood).data.toList 0 k_266 = true := by decide +kernel
theorem q_267 : g_ck (cX12_saw).data.toList 0 k_267 = true := by decide +kernel
theorem q_268 : g_ck (cX12_denies).data.toList 0 k_268 = true := by decide +kernel
theorem q_269 : g_ck (cX12_becomes).data.toList 0 k_269 = true := by decide +kernel
theorem q_270 : g_ck (cX12_isLaw).data.toList 0 k_270 = true := by decide +kernel
theorem q_271 : g_ck (cX12_laws).data.toList 0 k_271 = true := by decide +kernel
theorem q_272 : g_ck (cX12_looks).data.toList 0 k_272 = true := by decide +kernel
theorem q_273 : g_ck (cX12_common).data.toList 0 k_273 = true := by decide +kernel
theorem q_274 : g_ck (cX12_power).data.toList 0 k_274 = true := by decide +kernel
theorem q_275 : g_ck (cX12_reads).data.toList 0 k_275 = true := by decide +kernel
theorem q_276 : g_ck (cX12_galley).data.toList 0 k_276 = true := by decide +kernel
theorem q_277 : g_ck (cX12_gets).data.toList 0 k_277 = true := by decide +kernel
theorem q_278 : g_ck (cX12_isBest).data.toList 0 k_278 = true := by decide +kernel
theorem q_279 : g_ck (cX12_rests).data.toList 0 k_279 = true := by decide +kernel
theorem q_280 : g_ck (cX12_farBehind5).data.toList 0 k_280 = true := by decide +kernel
theorem q_281 : g_ck (cX12_law).data.toList 0 k_281 = true := by decide +kernel
theorem q_282 : g_ck (cX12_draw).data.toList 0 k_282 = true := by decide +kernel
theorem q_283 : g_ck (cX12_years).data.toList 0 k_283 = true := by decide +kernel
theorem q_284 : g_ck (cX12_keep).data.toList 0 k_284 = true := by decide +kernel
theorem q_285 : g_ck (cX12_again).data.toList 0 k_285 = true := by decide +kernel
theorem q_286 : g_ck (cX12_count).data.toList 0 k_286 = true := by decide +kernel
theorem q_287 : g_ck (cX12_row).data.toList 0 k_287 = true := by decide +kernel
theorem q_288 : g_ck (cJ6_numberOfTrailingZeros_0f7a4).data.toList 0 k_288 = true := by decide +kernel
theorem q_289 : g_ck (cJ6_bitCount_0f7a4).data.toList 0 k_289 = true := by decide +kernel
theorem q_290 : g_ck (cJ13_numberOfTrailingZeros_95d88).data.toList 0 k_290 = true := by decide +kernel
theorem q_291 : g_ck (cJ7_fill_53178).data.toList 0 k_291 = true := by decide +kernel
theorem q_292 : g_ck (cJ0_length_8abf5).data.toList 0 k_292 = true := by decide +kernel
theorem q_293 : g_ck (cJ0_coder_7d493).data.toList 0 k_293 = true := by decide +kernel
theorem q_294 : g_ck (cJ0_isEmpty_aae02).data.toList 0 k_294 = true := by decide +kernel
theorem q_295 : g_ck (cJ0_isLatin1_aae02).data.toList 0 k_295 = true := by decide +kernel
theorem q_296 : g_ck (cJ0_charAt_5068e).data.toList 0 k_296 = true := by decide +kernel
theorem q_297 : g_ck (cJ0_checkIndex_df160).data.toList 0 k_297 = true := by decide +kernel
theorem q_298 : g_ck (cJ0_indexOf_0f7a4).data.toList 0 k_298 = true := by decide +kernel
theorem q_299 : g_ck (cJ0_indexOf_7cf53).data.toList 0 k_299 = true := by decide +kernel
theorem q_300 : g_ck (cJ1_charAt_3b067).data.toList 0 k_300 = true := by decide +kernel
theorem q_301 : g_ck (cJ1_canEncode_9a6ad).data.toList 0 k_301 = true := by decide +kernel
theorem q_302 : g_ck (cJ1_indexOf_4cfef).data.toList 0 k_302 = true := by decide +kernel
theorem q_303 : g_ck (cJ1_indexOfChar_4cfef).data.toList 0 k_303 = true := by decide +kernel
theorem q_304 : g_ck (cJ3_checkIndex_8e157).data.toList 0 k_304 = true := by decide +kernel
theorem q_305 : g_ck (cX7_readProduct).data.toList 0 k_305 = true := by decide +kernel
