theorem pl_RJ0 : plainName RJ0 = true := by decide +kernel
theorem pl_RJ1 : plainName RJ1 = true := by decide +kernel
theorem pl_RJ13 : plainName RJ13 = true := by decide +kernel
theorem pl_RJ3 : plainName RJ3 = true := by decide +kernel
theorem pl_RJ6 : plainName RJ6 = true := by decide +kernel
theorem pl_RJ7 : plainName RJ7 = true := by decide +kernel
theorem pl_RL : plainName RL = true := by decide +kernel
theorem pl_RX0 : plainName RX0 = true := by decide +kernel
theorem pl_RX1 : plainName RX1 = true := by decide +kernel
theorem pl_RX10 : plainName RX10 = true := by decide +kernel
theorem pl_RX11 : plainName RX11 = true := by decide +kernel
theorem pl_RX12 : plainName RX12 = true := by decide +kernel
theorem pl_RX2 : plainName RX2 = true := by decide +kernel
theorem pl_RX3 : plainName RX3 = true := by decide +kernel
theorem pl_RX4 : plainName RX4 = true := by decide +kernel
theorem pl_RX5 : plainName RX5 = true := by decide +kernel
theorem pl_RX6 : plainName RX6 = true := by decide +kernel
theorem pl_RX7 : plainName RX7 = true := by decide +kernel
theorem pl_RX8 : plainName RX8 = true := by decide +kernel
theorem pl_RX9 : plainName RX9 = true := by decide +kernel
theorem pn_1 : ∀ M, M < 1 → plainName (g_mt M).1.cls = true := lt_s lt_0 pl_RL
theorem pn_2 : ∀ M, M < 2 → plainName (g_mt M).1.cls = true := lt_s pn_1 pl_RX0
theorem pn_3 : ∀ M, M < 3 → plainName (g_mt M).1.cls = true := lt_s pn_2 pl_RX0
theorem pn_4 : ∀ M, M < 4 → plainName (g_mt M).1.cls = true := lt_s pn_3 pl_RX0
theorem pn_5 : ∀ M, M < 5 → plainName (g_mt M).1.cls = true := lt_s pn_4 pl_RX0
theorem pn_6 : ∀ M, M < 6 → plainName (g_mt M).1.cls = true := lt_s pn_5 pl_RX0
theorem pn_7 : ∀ M, M < 7 → plainName (g_mt M).1.cls = true := lt_s pn_6 pl_RX0
theorem pn_8 : ∀ M, M < 8 → plainName (g_mt M).1.cls = true := lt_s pn_7 pl_RX1
theorem pn_9 : ∀ M, M < 9 → plainName (g_mt M).1.cls = true := lt_s pn_8 pl_RX1
theorem pn_10 : ∀ M, M < 10 → plainName (g_mt M).1.cls = true := lt_s pn_9 pl_RX1
theorem pn_11 : ∀ M, M < 11 → plainName (g_mt M).1.cls = true := lt_s pn_10 pl_RX2
theorem pn_12 : ∀ M, M < 12 → plainName (g_mt M).1.cls = true := lt_s pn_11 pl_RX2
theorem pn_13 : ∀ M, M < 13 → plainName (g_mt M).1.cls = true := lt_s pn_12 pl_RX2
theorem pn_14 : ∀ M, M < 14 → plainName (g_mt M).1.cls = true := lt_s pn_13 pl_RX2
theorem pn_15 : ∀ M, M < 15 → plainName (g_mt M).1.cls = true := lt_s pn_14 pl_RX2
theorem pn_16 : ∀ M, M < 16 → plainName (g_mt M).1.cls = true := lt_s pn_15 pl_RX2
theorem pn_17 : ∀ M, M < 17 → plainName (g_mt M).1.cls = true := lt_s pn_16 pl_RX2
theorem pn_18 : ∀ M, M < 18 → plainName (g_mt M).1.cls = true := lt_s pn_17 pl_RX2
theorem pn_19 : ∀ M, M < 19 → plainName (g_mt M).1.cls = true := lt_s pn_18 pl_RX2
theorem pn_20 : ∀ M, M < 20 → plainName (g_mt M).1.cls = true := lt_s pn_19 pl_RX2
theorem pn_21 : ∀ M, M < 21 → plainName (g_mt M).1.cls = true := lt_s pn_20 pl_RX3
theorem pn_22 : ∀ M, M < 22 → plainName (g_mt M).1.cls = true := lt_s pn_21 pl_RX3
theorem pn_23 : ∀ M, M < 23 → plainName (g_mt M).1.cls = true := lt_s pn_22 pl_RX3
theorem pn_24 : ∀ M, M < 24 → plainName (g_mt M).1.cls = true := lt_s pn_23 pl_RX3
theorem pn_25 : ∀ M, M < 25 → plainName (g_mt M).1.cls = true := lt_s pn_24 pl_RX4
theorem pn_26 : ∀ M, M < 26 → plainName (g_mt M).1.cls = true := lt_s pn_25 pl_RX4
theorem pn_27 : ∀ M, M < 27 → plainName (g_mt M).1.cls = true := lt_s pn_26 pl_RX4
theorem pn_28 : ∀ M, M < 28 → plainName (g_mt M).1.cls = true := lt_s pn_27 pl_RX4
theorem pn_29 : ∀ M, M < 29 → plainName (g_mt M).1.cls = true := lt_s pn_28 pl_RX4
theorem pn_30 : ∀ M, M < 30 → plainName (g_mt M).1.cls = true := lt_s pn_29 pl_RX4
theorem pn_31 : ∀ M, M < 31 → plainName (g_mt M).1.cls = true := lt_s pn_30 pl_RX4
theorem pn_32 : ∀ M, M < 32 → plainName (g_mt M).1.cls = true := lt_s pn_31 pl_RX4
theorem pn_33 : ∀ M, M < 33 → plainName (g_mt M).1.cls = true := lt_s pn_32 pl_RX4
theorem pn_34 : ∀ M, M < 34 → plainName (g_mt M).1.cls = true := lt_s pn_33 pl_RX4
theorem pn_35 : ∀ M, M < 35 → plainName (g_mt M).1.cls = true := lt_s pn_34 pl_RX4
theorem pn_36 : ∀ M, M < 36 → plainName (g_mt M).1.cls = true := lt_s pn_35 pl_RX5
theorem pn_37 : ∀ M, M < 37 → plainName (g_mt M).1.cls = true := lt_s pn_36 pl_RX5
theorem pn_38 : ∀ M, M < 38 → plainName (g_mt M).1.cls = true := lt_s pn_37 pl_RX5
theorem pn_39 : ∀ M, M < 39 → plainName (g_mt M).1.cls = true := lt_s pn_38 pl_RX5
theorem pn_40 : ∀ M, M < 40 → plainName (g_mt M).1.cls = true := lt_s pn_39 pl_RX5
theorem pn_41 : ∀ M, M < 41 → plainName (g_mt M).1.cls = true := lt_s pn_40 pl_RX5
theorem pn_42 : ∀ M, M < 42 → plainName (g_mt M).1.cls = true := lt_s pn_41 pl_RX5
theorem pn_43 : ∀ M, M < 43 → plainName (g_mt M).1.cls = true := lt_s pn_42 pl_RX5
theorem pn_44 : ∀ M, M < 44 → plainName (g_mt M).1.cls = true := lt_s pn_43 pl_RX5
theorem pn_45 : ∀ M, M < 45 → plainName (g_mt M).1.cls = true := lt_s pn_44 pl_RX6
theorem pn_46 : ∀ M, M < 46 → plainName (g_mt M).1.cls = true := lt_s pn_45 pl_RX6
theorem pn_47 : ∀ M, M < 47 → plainName (g_mt M).1.cls = true := lt_s pn_46 pl_RX6
theorem pn_48 : ∀ M, M < 48 → plainName (g_mt M).1.cls = true := lt_s pn_47 pl_RX6
theorem pn_49 : ∀ M, M < 49 → plainName (g_mt M).1.cls = true := lt_s pn_48 pl_RX6
theorem pn_50 : ∀ M, M < 50 → plainName (g_mt M).1.cls = true := lt_s pn_49 pl_RX6
theorem pn_51 : ∀ M, M < 51 → plainName (g_mt M).1.cls = true := lt_s pn_50 pl_RX6
theorem pn_52 : ∀ M, M < 52 → plainName (g_mt M).1.cls = true := lt_s pn_51 pl_RX7
theorem pn_53 : ∀ M, M < 53 → plainName (g_mt M).1.cls = true := lt_s pn_52 pl_RX7
theorem pn_54 : ∀ M, M < 54 → plainName (g_mt M).1.cls = true := lt_s pn_53 pl_RX7
theorem pn_55 : ∀ M, M < 55 → plainName (g_mt M).1.cls = true := lt_s pn_54 pl_RX7
theorem pn_56 : ∀ M, M < 56 → plainName (g_mt M).1.cls = true := lt_s pn_55 pl_RX7
theorem pn_57 : ∀ M, M < 57 → plainName (g_mt M).1.cls = true := lt_s pn_56 pl_RX7
theorem pn_58 : ∀ M, M < 58 → plainName (g_mt M).1.cls = true := lt_s pn_57 pl_RX7
theorem pn_59 : ∀ M, M < 59 → plainName (g_mt M).1.cls = true := lt_s pn_58 pl_RX7
theorem pn_60 : ∀ M, M < 60 → plainName (g_mt M).1.cls = true := lt_s pn_59 pl_RX7
theorem pn_61 : ∀ M, M < 61 → plainName (g_mt M).1.cls = true := lt_s pn_60 pl_RX7
theorem pn_62 : ∀ M, M < 62 → plainName (g_mt M).1.cls = true := lt_s pn_61 pl_RX7
theorem pn_63 : ∀ M, M < 63 → plainName (g_mt M).1.cls = true := lt_s pn_62 pl_RX7
theorem pn_64 : ∀ M, M < 64 → plainName (g_mt M).1.cls = true := lt_s pn_63 pl_RX8
theorem pn_65 : ∀ M, M < 65 → plainName (g_mt M).1.cls = true := lt_s pn_64 pl_RX8
theorem pn_66 : ∀ M, M < 66 → plainName (g_mt M).1.cls = true := lt_s pn_65 pl_RX8
theorem pn_67 : ∀ M, M < 67 → plainName (g_mt M).1.cls = true := lt_s pn_66 pl_RX8
theorem pn_68 : ∀ M, M < 68 → plainName (g_mt M).1.cls = true := lt_s pn_67 pl_RX8
theorem pn_69 : ∀ M, M < 69 → plainName (g_mt M).1.cls = true := lt_s pn_68 pl_RX8
theorem pn_70 : ∀ M, M < 70 → plainName (g_mt M).1.cls = true := lt_s pn_69 pl_RX8
theorem pn_71 : ∀ M, M < 71 → plainName (g_mt M).1.cls = true := lt_s pn_70 pl_RX8
theorem pn_72 : ∀ M, M < 72 → plainName (g_mt M).1.cls = true := lt_s pn_71 pl_RX8
theorem pn_73 : ∀ M, M < 73 → plainName (g_mt M).1.cls = true := lt_s pn_72 pl_RX8
theorem pn_74 : ∀ M, M < 74 → plainName (g_mt M).1.cls = true := lt_s pn_73 pl_RX8
theorem pn_75 : ∀ M, M < 75 → plainName (g_mt M).1.cls = true := lt_s pn_74 pl_RX8
theorem pn_76 : ∀ M, M < 76 → plainName (g_mt M).1.cls = true := lt_s pn_75 pl_RX9
theorem pn_77 : ∀ M, M < 77 → plainName (g_mt M).1.cls = true := lt_s pn_76 pl_RX9
theorem pn_78 : ∀ M, M < 78 → plainName (g_mt M).1.cls = true := lt_s pn_77 pl_RX9
theorem pn_79 : ∀ M, M < 79 → plainName (g_mt M).1.cls = true := lt_s pn_78 pl_RX9
theorem pn_80 : ∀ M, M < 80 → plainName (g_mt M).1.cls = true := lt_s pn_79 pl_RX9
theorem pn_81 : ∀ M, M < 81 → plainName (g_mt M).1.cls = true := lt_s pn_80 pl_RX9
theorem pn_82 : ∀ M, M < 82 → plainName (g_mt M).1.cls = true := lt_s pn_81 pl_RX9
theorem pn_83 : ∀ M, M < 83 → plainName (g_mt M).1.cls = true := lt_s pn_82 pl_RX9
theorem pn_84 : ∀ M, M < 84 → plainName (g_mt M).1.cls = true := lt_s pn_83 pl_RX9
theorem pn_85 : ∀ M, M < 85 → plainName (g_mt M).1.cls = true := lt_s pn_84 pl_RX9
theorem pn_86 : ∀ M, M < 86 → plainName (g_mt M).1.cls = true := lt_s pn_85 pl_RX9
theorem pn_87 : ∀ M, M < 87 → plainName (g_mt M).1.cls = true := lt_s pn_86 pl_RX9
theorem pn_88 : ∀ M, M < 88 → plainName (g_mt M).1.cls = true := lt_s pn_87 pl_RX9
theorem pn_89 : ∀ M, M < 89 → plainName (g_mt M).1.cls = true := lt_s pn_88 pl_RX9
theorem pn_90 : ∀ M, M < 90 → plainName (g_mt M).1.cls = true := lt_s pn_89 pl_RX9
theorem pn_91 : ∀ M, M < 91 → plainName (g_mt M).1.cls = true := lt_s pn_90 pl_RX9
theorem pn_92 : ∀ M, M < 92 → plainName (g_mt M).1.cls = true := lt_s pn_91 pl_RX9
theorem pn_93 : ∀ M, M < 93 → plainName (g_mt M).1.cls = true := lt_s pn_92 pl_RX9
theorem pn_94 : ∀ M, M < 94 → plainName (g_mt M).1.cls = true := lt_s pn_93 pl_RX9
theorem pn_95 : ∀ M, M < 95 → plainName (g_mt M).1.cls = true := lt_s pn_94 pl_RX9
theorem pn_96 : ∀ M, M < 96 → plainName (g_mt M).1.cls = true := lt_s pn_95 pl_RX9
theorem pn_97 : ∀ M, M < 97 → plainName (g_mt M).1.cls = true := lt_s pn_96 pl_RX9
theorem pn_98 : ∀ M, M < 98 → plainName (g_mt M).1.cls = true := lt_s pn_97 pl_RX9
theorem pn_99 : ∀ M, M < 99 → plainName (g_mt M).1.cls = true := lt_s pn_98 pl_RX9
theorem pn_100 : ∀ M, M < 100 → plainName (g_mt M).1.cls = true := lt_s pn_99 pl_RX9
theorem pn_101 : ∀ M, M < 101 → plainName (g_mt M).1.cls = true := lt_s pn_100 pl_RX9
theorem pn_102 : ∀ M, M < 102 → plainName (g_mt M).1.cls = true := lt_s pn_101 pl_RX9
theorem pn_103 : ∀ M, M < 103 → plainName (g_mt M).1.cls = true := lt_s pn_102 pl_RX9
theorem pn_104 : ∀ M, M < 104 → plainName (g_mt M).1.cls = true := lt_s pn_103 pl_RX9
theorem pn_105 : ∀ M, M < 105 → plainName (g_mt M).1.cls = true := lt_s pn_104 pl_RX9
theorem pn_106 : ∀ M, M < 106 → plainName (g_mt M).1.cls = true := lt_s pn_105 pl_RX10
theorem pn_107 : ∀ M, M < 107 → plainName (g_mt M).1.cls = true := lt_s pn_106 pl_RX10
theorem pn_108 : ∀ M, M < 108 → plainName (g_mt M).1.cls = true := lt_s pn_107 pl_RX10
theorem pn_109 : ∀ M, M < 109 → plainName (g_mt M).1.cls = true := lt_s pn_108 pl_RX10
theorem pn_110 : ∀ M, M < 110 → plainName (g_mt M).1.cls = true := lt_s pn_109 pl_RX11
theorem pn_111 : ∀ M, M < 111 → plainName (g_mt M).1.cls = true := lt_s pn_110 pl_RX11
theorem pn_112 : ∀ M, M < 112 → plainName (g_mt M).1.cls = true := lt_s pn_111 pl_RX11
theorem pn_113 : ∀ M, M < 113 → plainName (g_mt M).1.cls = true := lt_s pn_112 pl_RX11
theorem pn_114 : ∀ M, M < 114 → plainName (g_mt M).1.cls = true := lt_s pn_113 pl_RX11
theorem pn_115 : ∀ M, M < 115 → plainName (g_mt M).1.cls = true := lt_s pn_114 pl_RX11
theorem pn_116 : ∀ M, M < 116 → plainName (g_mt M).1.cls = true := lt_s pn_115 pl_RX11
theorem pn_117 : ∀ M, M < 117 → plainName (g_mt M).1.cls = true := lt_s pn_116 pl_RX11
theorem pn_118 : ∀ M, M < 118 → plainName (g_mt M).1.cls = true := lt_s pn_117 pl_RX11
theorem pn_119 : ∀ M, M < 119 → plainName (g_mt M).1.cls = true := lt_s pn_118 pl_RX11
theorem pn_120 : ∀ M, M < 120 → plainName (g_mt M).1.cls = true := lt_s pn_119 pl_RX11
theorem pn_121 : ∀ M, M < 121 → plainName (g_mt M).1.cls = true := lt_s pn_120 pl_RX11
theorem pn_122 : ∀ M, M < 122 → plainName (g_mt M).1.cls = true := lt_s pn_121 pl_RX11
theorem pn_123 : ∀ M, M < 123 → plainName (g_mt M).1.cls = true := lt_s pn_122 pl_RX11
theorem pn_124 : ∀ M, M < 124 → plainName (g_mt M).1.cls = true := lt_s pn_123 pl_RX11
theorem pn_125 : ∀ M, M < 125 → plainName (g_mt M).1.cls = true := lt_s pn_124 pl_RX11
theorem pn_126 : ∀ M, M < 126 → plainName (g_mt M).1.cls = true := lt_s pn_125 pl_RX11
theorem pn_127 : ∀ M, M < 127 → plainName (g_mt M).1.cls = true := lt_s pn_126 pl_RX11
theorem pn_128 : ∀ M, M < 128 → plainName (g_mt M).1.cls = true := lt_s pn_127 pl_RX11
theorem pn_129 : ∀ M, M < 129 → plainName (g_mt M).1.cls = true := lt_s pn_128 pl_RX11
theorem pn_130 : ∀ M, M < 130 → plainName (g_mt M).1.cls = true := lt_s pn_129 pl_RX11
theorem pn_131 : ∀ M, M < 131 → plainName (g_mt M).1.cls = true := lt_s pn_130 pl_RX11
theorem pn_132 : ∀ M, M < 132 → plainName (g_mt M).1.cls = true := lt_s pn_131 pl_RX11
theorem pn_133 : ∀ M, M < 133 → plainName (g_mt M).1.cls = true := lt_s pn_132 pl_RX11
theorem pn_134 : ∀ M, M < 134 → plainName (g_mt M).1.cls = true := lt_s pn_133 pl_RX11
theorem pn_135 : ∀ M, M < 135 → plainName (g_mt M).1.cls = true := lt_s pn_134 pl_RX11
theorem pn_136 : ∀ M, M < 136 → plainName (g_mt M).1.cls = true := lt_s pn_135 pl_RX11
theorem pn_137 : ∀ M, M < 137 → plainName (g_mt M).1.cls = true := lt_s pn_136 pl_RX11
theorem pn_138 : ∀ M, M < 138 → plainName (g_mt M).1.cls = true := lt_s pn_137 pl_RX11
theorem pn_139 : ∀ M, M < 139 → plainName (g_mt M).1.cls = true := lt_s pn_138 pl_RX11
theorem pn_140 : ∀ M, M < 140 → plainName (g_mt M).1.cls = true := lt_s pn_139 pl_RX11
theorem pn_141 : ∀ M, M < 141 → plainName (g_mt M).1.cls = true := lt_s pn_140 pl_RX11
theorem pn_142 : ∀ M, M < 142 → plainName (g_mt M).1.cls = true := lt_s pn_141 pl_RX11
theorem pn_143 : ∀ M, M < 143 → plainName (g_mt M).1.cls = true := lt_s pn_142 pl_RX11
theorem pn_144 : ∀ M, M < 144 → plainName (g_mt M).1.cls = true := lt_s pn_143 pl_RX11
theorem pn_145 : ∀ M, M < 145 → plainName (g_mt M).1.cls = true := lt_s pn_144 pl_RX11
theorem pn_146 : ∀ M, M < 146 → plainName (g_mt M).1.cls = true := lt_s pn_145 pl_RX11
theorem pn_147 : ∀ M, M < 147 → plainName (g_mt M).1.cls = true := lt_s pn_146 pl_RX11
theorem pn_148 : ∀ M, M < 148 → plainName (g_mt M).1.cls = true := lt_s pn_147 pl_RX11
theorem pn_149 : ∀ M, M < 149 → plainName (g_mt M).1.cls = true := lt_s pn_148 pl_RX11
theorem pn_150 : ∀ M, M < 150 → plainName (g_mt M).1.cls = true := lt_s pn_149 pl_RX11
theorem pn_151 : ∀ M, M < 151 → plainName (g_mt M).1.cls = true := lt_s pn_150 pl_RX11
theorem pn_152 : ∀ M, M < 152 → plainName (g_mt M).1.cls = true := lt_s pn_151 pl_RX11
theorem pn_153 : ∀ M, M < 153 → plainName (g_mt M).1.cls = true := lt_s pn_152 pl_RX11
theorem pn_154 : ∀ M, M < 154 → plainName (g_mt M).1.cls = true := lt_s pn_153 pl_RX11
theorem pn_155 : ∀ M, M < 155 → plainName (g_mt M).1.cls = true := lt_s pn_154 pl_RX11
theorem pn_156 : ∀ M, M < 156 → plainName (g_mt M).1.cls = true := lt_s pn_155 pl_RX11
theorem pn_157 : ∀ M, M < 157 → plainName (g_mt M).1.cls = true := lt_s pn_156 pl_RX11
theorem pn_158 : ∀ M, M < 158 → plainName (g_mt M).1.cls = true := lt_s pn_157 pl_RX11
theorem pn_159 : ∀ M, M < 159 → plainName (g_mt M).1.cls = true := lt_s pn_158 pl_RX11
theorem pn_160 : ∀ M, M < 160 → plainName (g_mt M).1.cls = true := lt_s pn_159 pl_RX11
theorem pn_161 : ∀ M, M < 161 → plainName (g_mt M).1.cls = true := lt_s pn_160 pl_RX11
theorem pn_162 : ∀ M, M < 162 → plainName (g_mt M).1.cls = true := lt_s pn_161 pl_RX11
theorem pn_163 : ∀ M, M < 163 → plainName (g_mt M).1.cls = true := lt_s pn_162 pl_RX11
theorem pn_164 : ∀ M, M < 164 → plainName (g_mt M).1.cls = true := lt_s pn_163 pl_RX11
theorem pn_165 : ∀ M, M < 165 → plainName (g_mt M).1.cls = true := lt_s pn_164 pl_RX11
theorem pn_166 : ∀ M, M < 166 → plainName (g_mt M).1.cls = true := lt_s pn_165 pl_RX11
theorem pn_167 : ∀ M, M < 167 → plainName (g_mt M).1.cls = true := lt_s pn_166 pl_RX11
theorem pn_168 : ∀ M, M < 168 → plainName (g_mt M).1.cls = true := lt_s pn_167 pl_RX11
theorem pn_169 : ∀ M, M < 169 → plainName (g_mt M).1.cls = true := lt_s pn_168 pl_RX11
theorem pn_170 : ∀ M, M < 170 → plainName (g_mt M).1.cls = true := lt_s pn_169 pl_RX11
theorem pn_171 : ∀ M, M < 171 → plainName (g_mt M).1.cls = true := lt_s pn_170 pl_RX11
theorem pn_172 : ∀ M, M < 172 → plainName (g_mt M).1.cls = true := lt_s pn_171 pl_RX11
theorem pn_173 : ∀ M, M < 173 → plainName (g_mt M).1.cls = true := lt_s pn_172 pl_RX11
theorem pn_174 : ∀ M, M < 174 → plainName (g_mt M).1.cls = true := lt_s pn_173 pl_RX11
theorem pn_175 : ∀ M, M < 175 → plainName (g_mt M).1.cls = true := lt_s pn_174 pl_RX11
theorem pn_176 : ∀ M, M < 176 → plainName (g_mt M).1.cls = true := lt_s pn_175 pl_RX11
theorem pn_177 : ∀ M, M < 177 → plainName (g_mt M).1.cls = true := lt_s pn_176 pl_RX12
theorem pn_178 : ∀ M, M < 178 → plainName (g_mt M).1.cls = true := lt_s pn_177 pl_RX12
theorem pn_179 : ∀ M, M < 179 → plainName (g_mt M).1.cls = true := lt_s pn_178 pl_RX12
theorem pn_180 : ∀ M, M < 180 → plainName (g_mt M).1.cls = true := lt_s pn_179 pl_RX12
theorem pn_181 : ∀ M, M < 181 → plainName (g_mt M).1.cls = true := lt_s pn_180 pl_RX12
theorem pn_182 : ∀ M, M < 182 → plainName (g_mt M).1.cls = true := lt_s pn_181 pl_RX12
theorem pn_183 : ∀ M, M < 183 → plainName (g_mt M).1.cls = true := lt_s pn_182 pl_RX12
theorem pn_184 : ∀ M, M < 184 → plainName (g_mt M).1.cls = true := lt_s pn_183 pl_RX12
theorem pn_185 : ∀ M, M < 185 → plainName (g_mt M).1.cls = true := lt_s pn_184 pl_RX12
theorem pn_186 : ∀ M, M < 186 → plainName (g_mt M).1.cls = true := lt_s pn_185 pl_RX12
theorem pn_187 : ∀ M, M < 187 → plainName (g_mt M).1.cls = true := lt_s pn_186 pl_RX12
theorem pn_188 : ∀ M, M < 188 → plainName (g_mt M).1.cls = true := lt_s pn_187 pl_RX12
theorem pn_189 : ∀ M, M < 189 → plainName (g_mt M).1.cls = true := lt_s pn_188 pl_RX12
theorem pn_190 : ∀ M, M < 190 → plainName (g_mt M).1.cls = true := lt_s pn_189 pl_RX12
theorem pn_191 : ∀ M, M < 191 → plainName (g_mt M).1.cls = true := lt_s pn_190 pl_RX12
theorem pn_192 : ∀ M, M < 192 → plainName (g_mt M).1.cls = true := lt_s pn_191 pl_RX12
theorem pn_193 : ∀ M, M < 193 → plainName (g_mt M).1.cls = true := lt_s pn_192 pl_RX12
theorem pn_194 : ∀ M, M < 194 → plainName (g_mt M).1.cls = true := lt_s pn_193 pl_RX12
theorem pn_195 : ∀ M, M < 195 → plainName (g_mt M).1.cls = true := lt_s pn_194 pl_RX12
theorem pn_196 : ∀ M, M < 196 → plainName (g_mt M).1.cls = true := lt_s pn_195 pl_RX12
theorem pn_197 : ∀ M, M < 197 → plainName (g_mt M).1.cls = true := lt_s pn_196 pl_RX12
theorem pn_198 : ∀ M, M < 198 → plainName (g_mt M).1.cls = true := lt_s pn_197 pl_RX12
theorem pn_199 : ∀ M, M < 199 → plainName (g_mt M).1.cls = true := lt_s pn_198 pl_RX12
theorem pn_200 : ∀ M, M < 200 → plainName (g_mt M).1.cls = true := lt_s pn_199 pl_RX12
theorem pn_201 : ∀ M, M < 201 → plainName (g_mt M).1.cls = true := lt_s pn_200 pl_RX12
theorem pn_202 : ∀ M, M < 202 → plainName (g_mt M).1.cls = true := lt_s pn_201 pl_RX12
theorem pn_203 : ∀ M, M < 203 → plainName (g_mt M).1.cls = true := lt_s pn_202 pl_RX12
theorem pn_204 : ∀ M, M < 204 → plainName (g_mt M).1.cls = true := lt_s pn_203 pl_RX12
theorem pn_205 : ∀ M, M < 205 → plainName (g_mt M).1.cls = true := lt_s pn_204 pl_RX12
theorem pn_206 : ∀ M, M < 206 → plainName (g_mt M).1.cls = true := lt_s pn_205 pl_RX12
theorem pn_207 : ∀ M, M < 207 → plainName (g_mt M).1.cls = true := lt_s pn_206 pl_RX12
theorem pn_208 : ∀ M, M < 208 → plainName (g_mt M).1.cls = true := lt_s pn_207 pl_RX12
theorem pn_209 : ∀ M, M < 209 → plainName (g_mt M).1.cls = true := lt_s pn_208 pl_RX12
theorem pn_210 : ∀ M, M < 210 → plainName (g_mt M).1.cls = true := lt_s pn_209 pl_RX12
theorem pn_211 : ∀ M, M < 211 → plainName (g_mt M).1.cls = true := lt_s pn_210 pl_RX12
theorem pn_212 : ∀ M, M < 212 → plainName (g_mt M).1.cls = true := lt_s pn_211 pl_RX12
theorem pn_213 : ∀ M, M < 213 → plainName (g_mt M).1.cls = true := lt_s pn_212 pl_RX12
theorem pn_214 : ∀ M, M < 214 → plainName (g_mt M).1.cls = true := lt_s pn_213 pl_RX12
theorem pn_215 : ∀ M, M < 215 → plainName (g_mt M).1.cls = true := lt_s pn_214 pl_RX12
theorem pn_216 : ∀ M, M < 216 → plainName (g_mt M).1.cls = true := lt_s pn_215 pl_RX12
theorem pn_217 : ∀ M, M < 217 → plainName (g_mt M).1.cls = true := lt_s pn_216 pl_RX12
theorem pn_218 : ∀ M, M < 218 → plainName (g_mt M).1.cls = true := lt_s pn_217 pl_RX12
theorem pn_219 : ∀ M, M < 219 → plainName (g_mt M).1.cls = true := lt_s pn_218 pl_RX12
theorem pn_220 : ∀ M, M < 220 → plainName (g_mt M).1.cls = true := lt_s pn_219 pl_RX12
theorem pn_221 : ∀ M, M < 221 → plainName (g_mt M).1.cls = true := lt_s pn_220 pl_RX12
theorem pn_222 : ∀ M, M < 222 → plainName (g_mt M).1.cls = true := lt_s pn_221 pl_RX12
theorem pn_223 : ∀ M, M < 223 → plainName (g_mt M).1.cls = true := lt_s pn_222 pl_RX12
theorem pn_224 : ∀ M, M < 224 → plainName (g_mt M).1.cls = true := lt_s pn_223 pl_RX12
theorem pn_225 : ∀ M, M < 225 → plainName (g_mt M).1.cls = true := lt_s pn_224 pl_RX12
theorem pn_226 : ∀ M, M < 226 → plainName (g_mt M).1.cls = true := lt_s pn_225 pl_RX12
theorem pn_227 : ∀ M, M < 227 → plainName (g_mt M).1.cls = true := lt_s pn_226 pl_RX12
theorem pn_228 : ∀ M, M < 228 → plainName (g_mt M).1.cls = true := lt_s pn_227 pl_RX12
theorem pn_229 : ∀ M, M < 229 → plainName (g_mt M).1.cls = true := lt_s pn_228 pl_RX12
theorem pn_230 : ∀ M, M < 230 → plainName (g_mt M).1.cls = true := lt_s pn_229 pl_RX12
theorem pn_231 : ∀ M, M < 231 → plainName (g_mt M).1.cls = true := lt_s pn_230 pl_RX12
theorem pn_232 : ∀ M, M < 232 → plainName (g_mt M).1.cls = true := lt_s pn_231 pl_RX12
theorem pn_233 : ∀ M, M < 233 → plainName (g_mt M).1.cls = true := lt_s pn_232 pl_RX12
theorem pn_234 : ∀ M, M < 234 → plainName (g_mt M).1.cls = true := lt_s pn_233 pl_RX12
theorem pn_235 : ∀ M, M < 235 → plainName (g_mt M).1.cls = true := lt_s pn_234 pl_RX12
theorem pn_236 : ∀ M, M < 236 → plainName (g_mt M).1.cls = true := lt_s pn_235 pl_RX12
theorem pn_237 : ∀ M, M < 237 → plainName (g_mt M).1.cls = true := lt_s pn_236 pl_RX12
theorem pn_238 : ∀ M, M < 238 → plainName (g_mt M).1.cls = true := lt_s pn_237 pl_RX12
theorem pn_239 : ∀ M, M < 239 → plainName (g_mt M).1.cls = true := lt_s pn_238 pl_RX12
theorem pn_240 : ∀ M, M < 240 → plainName (g_mt M).1.cls = true := lt_s pn_239 pl_RX12
theorem pn_241 : ∀ M, M < 241 → plainName (g_mt M).1.cls = true := lt_s pn_240 pl_RX12
theorem pn_242 : ∀ M, M < 242 → plainName (g_mt M).1.cls = true := lt_s pn_241 pl_RX12
theorem pn_243 : ∀ M, M < 243 → plainName (g_mt M).1.cls = true := lt_s pn_242 pl_RX12
theorem pn_244 : ∀ M, M < 244 → plainName (g_mt M).1.cls = true := lt_s pn_243 pl_RX12
theorem pn_245 : ∀ M, M < 245 → plainName (g_mt M).1.cls = true := lt_s pn_244 pl_RX12
theorem pn_246 : ∀ M, M < 246 → plainName (g_mt M).1.cls = true := lt_s pn_245 pl_RX12
theorem pn_247 : ∀ M, M < 247 → plainName (g_mt M).1.cls = true := lt_s pn_246 pl_RX12
theorem pn_248 : ∀ M, M < 248 → plainName (g_mt M).1.cls = true := lt_s pn_247 pl_RX12
theorem pn_249 : ∀ M, M < 249 → plainName (g_mt M).1.cls = true := lt_s pn_248 pl_RX12
theorem pn_250 : ∀ M, M < 250 → plainName (g_mt M).1.cls = true := lt_s pn_249 pl_RX12
theorem pn_251 : ∀ M, M < 251 → plainName (g_mt M).1.cls = true := lt_s pn_250 pl_RX12
theorem pn_252 : ∀ M, M < 252 → plainName (g_mt M).1.cls = true := lt_s pn_251 pl_RX12
theorem pn_253 : ∀ M, M < 253 → plainName (g_mt M).1.cls = true := lt_s pn_252 pl_RX12
theorem pn_254 : ∀ M, M < 254 → plainName (g_mt M).1.cls = true := lt_s pn_253 pl_RX12
theorem pn_255 : ∀ M, M < 255 → plainName (g_mt M).1.cls = true := lt_s pn_254 pl_RX12
theorem pn_256 : ∀ M, M < 256 → plainName (g_mt M).1.cls = true := lt_s pn_255 pl_RX12
theorem pn_257 : ∀ M, M < 257 → plainName (g_mt M).1.cls = true := lt_s pn_256 pl_RX12
theorem pn_258 : ∀ M, M < 258 → plainName (g_mt M).1.cls = true := lt_s pn_257 pl_RX12
theorem pn_259 : ∀ M, M < 259 → plainName (g_mt M).1.cls = true := lt_s pn_258 pl_RX12
theorem pn_260 : ∀ M, M < 260 → plainName (g_mt M).1.cls = true := lt_s pn_259 pl_RX12
theorem pn_261 : ∀ M, M < 261 → plainName (g_mt M).1.cls = true := lt_s pn_260 pl_RX12
theorem pn_262 : ∀ M, M < 262 → plainName (g_mt M).1.cls = true := lt_s pn_261 pl_RX12
theorem pn_263 : ∀ M, M < 263 → plainName (g_mt M).1.cls = true := lt_s pn_262 pl_RX12
theorem pn_264 : ∀ M, M < 264 → plainName (g_mt M).1.cls = true := lt_s pn_263 pl_RX12
theorem pn_265 : ∀ M, M < 265 → plainName (g_mt M).1.cls = true := lt_s pn_264 pl_RX12
theorem pn_266 : ∀ M, M < 266 → plainName (g_mt M).1.cls = true := lt_s pn_265 pl_RX12
theorem pn_267 : ∀ M, M < 267 → plainName (g_mt M).1.cls = true := lt_s pn_266 pl_RX12
theorem pn_268 : ∀ M, M < 268 → plainName (g_mt M).1.cls = true := lt_s pn_267 pl_RX12
theorem pn_269 : ∀ M, M < 269 → plainName (g_mt M).1.cls = true := lt_s pn_268 pl_RX12
theorem pn_270 : ∀ M, M < 270 → plainName (g_mt M).1.cls = true := lt_s pn_269 pl_RX12
theorem pn_271 : ∀ M, M < 271 → plainName (g_mt M).1.cls = true := lt_s pn_270 pl_RX12
theorem pn_272 : ∀ M, M < 272 → plainName (g_mt M).1.cls = true := lt_s pn_271 pl_RX12
theorem pn_273 : ∀ M, M < 273 → plainName (g_mt M).1.cls = true := lt_s pn_272 pl_RX12
theorem pn_274 : ∀ M, M < 274 → plainName (g_mt M).1.cls = true := lt_s pn_273 pl_RX12
theorem pn_275 : ∀ M, M < 275 → plainName (g_mt M).1.cls = true := lt_s pn_274 pl_RX12
theorem pn_276 : ∀ M, M < 276 → plainName (g_mt M).1.cls = true := lt_s pn_275 pl_RX12
theorem pn_277 : ∀ M, M < 277 → plainName (g_mt M).1.cls = true := lt_s pn_276 pl_RX12
theorem pn_278 : ∀ M, M < 278 → plainName (g_mt M).1.cls = true := lt_s pn_277 pl_RX12
theorem pn_279 : ∀ M, M < 279 → plainName (g_mt M).1.cls = true := lt_s pn_278 pl_RX12
theorem pn_280 : ∀ M, M < 280 → plainName (g_mt M).1.cls = true := lt_s pn_279 pl_RX12
theorem pn_281 : ∀ M, M < 281 → plainName (g_mt M).1.cls = true := lt_s pn_280 pl_RX12
theorem pn_282 : ∀ M, M < 282 → plainName (g_mt M).1.cls = true := lt_s pn_281 pl_RX12
theorem pn_283 : ∀ M, M < 283 → plainName (g_mt M).1.cls = true := lt_s pn_282 pl_RX12
theorem pn_284 : ∀ M, M < 284 → plainName (g_mt M).1.cls = true := lt_s pn_283 pl_RX12
theorem pn_285 : ∀ M, M < 285 → plainName (g_mt M).1.cls = true := lt_s pn_284 pl_RX12
theorem pn_286 : ∀ M, M < 286 → plainName (g_mt M).1.cls = true := lt_s pn_285 pl_RX12
theorem pn_287 : ∀ M, M < 287 → plainName (g_mt M).1.cls = true := lt_s pn_286 pl_RX12
theorem pn_288 : ∀ M, M < 288 → plainName (g_mt M).1.cls = true := lt_s pn_287 pl_RX12
theorem pn_289 : ∀ M, M < 289 → plainName (g_mt M).1.cls = true := lt_s pn_288 pl_RJ6
theorem pn_290 : ∀ M, M < 290 → plainName (g_mt M).1.cls = true := lt_s pn_289 pl_RJ6
theorem pn_291 : ∀ M, M < 291 → plainName (g_mt M).1.cls = true := lt_s pn_290 pl_RJ13
theorem pn_292 : ∀ M, M < 292 → plainName (g_mt M).1.cls = true := lt_s pn_291 pl_RJ7
theorem pn_293 : ∀ M, M < 293 → plainName (g_mt M).1.cls = true := lt_s pn_292 pl_RJ0
theorem pn_294 : ∀ M, M < 294 → plainName (g_mt M).1.cls = true := lt_s pn_293 pl_RJ0
theorem pn_295 : ∀ M, M < 295 → plainName (g_mt M).1.cls = true := lt_s pn_294 pl_RJ0
theorem pn_296 : ∀ M, M < 296 → plainName (g_mt M).1.cls = true := lt_s pn_295 pl_RJ0
theorem pn_297 : ∀ M, M < 297 → plainName (g_mt M).1.cls = true := lt_s pn_296 pl_RJ0
theorem pn_298 : ∀ M, M < 298 → plainName (g_mt M).1.cls = true := lt_s pn_297 pl_RJ0
theorem pn_299 : ∀ M, M < 299 → plainName (g_mt M).1.cls = true := lt_s pn_298 pl_RJ0
theorem pn_300 : ∀ M, M < 300 → plainName (g_mt M).1.cls = true := lt_s pn_299 pl_RJ0
theorem pn_301 : ∀ M, M < 301 → plainName (g_mt M).1.cls = true := lt_s pn_300 pl_RJ1
theorem pn_302 : ∀ M, M < 302 → plainName (g_mt M).1.cls = true := lt_s pn_301 pl_RJ1
theorem pn_303 : ∀ M, M < 303 → plainName (g_mt M).1.cls = true := lt_s pn_302 pl_RJ1
theorem pn_304 : ∀ M, M < 304 → plainName (g_mt M).1.cls = true := lt_s pn_303 pl_RJ1
theorem pn_305 : ∀ M, M < 305 → plainName (g_mt M).1.cls = true := lt_s pn_304 pl_RJ3
theorem pn_306 : ∀ M, M < 306 → plainName (g_mt M).1.cls = true := lt_s pn_305 pl_RX7
theorem g_plain : ∀ M, M < 1000 → plainName (g_mt M).1.cls = true := by
  intro M h
  by_cases hM : M < 306
  · exact pn_306 M hM
  · have hb : Nat.blt M 306 = false := by
      cases hb : Nat.blt M 306 with
      | false => rfl
      | true => exact absurd (Nat.le_of_ble_eq_true hb) (by omega)
    have h2 : Nat.blt M 1000 = true := Nat.ble_eq_true_of_le h
    unfold g_mt
    rw [h2]
    show plainName (g_mt1 M).1.cls = true
    unfold g_mt1
    rw [hb]
    exact pl_RL
theorem g_nestf : ∀ w ∈ g_nest, ∃ (a : String) (i : Nat) (x : MethodName) (h : String), w = .methodLinkNest a i x h := List.forall_mem_cons.mpr ⟨⟨_, _, _, _, rfl⟩, List.forall_mem_cons.mpr ⟨⟨_, _, _, _, rfl⟩, List.forall_mem_cons.mpr ⟨⟨_, _, _, _, rfl⟩, List.forall_mem_cons.mpr ⟨⟨_, _, _, _, rfl⟩, List.forall_mem_cons.mpr ⟨⟨_, _, _, _, rfl⟩, List.forall_mem_cons.mpr ⟨⟨_, _, _, _, rfl⟩, List.forall_mem_cons.mpr ⟨⟨_, _, _, _, rfl⟩, List.forall_mem_cons.mpr ⟨⟨_, _, _, _, rfl⟩, List.forall_mem_cons.mpr ⟨⟨_, _, _, _, rfl⟩, List.forall_mem_cons.mpr ⟨⟨_, _, _, _, rfl⟩, List.forall_mem_cons.mpr ⟨⟨_, _, _, _, rfl⟩, List.forall_mem_cons.mpr ⟨⟨_, _, _, _, rfl⟩, List.forall_mem_cons.mpr ⟨⟨_, _, _, _, rfl⟩, fun _ h => absurd h List.not_mem_nil⟩⟩⟩⟩⟩⟩⟩⟩⟩⟩⟩⟩⟩
