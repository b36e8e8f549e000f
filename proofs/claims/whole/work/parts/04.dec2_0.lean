theorem dX2_init_0 : decode cX2_init 0 = .ok (.aload_n 0, 1) := by decide +kernel
theorem dX2_init_1 : decode cX2_init 1 = .ok (.invokespecial 1, 3) := by decide +kernel
theorem dX2_init_4 : decode cX2_init 4 = .ok (.aload_n 0, 1) := by decide +kernel
theorem dX2_init_5 : decode cX2_init 5 = .ok (.bipush 64, 2) := by decide +kernel
theorem dX2_init_7 : decode cX2_init 7 = .ok (.newarray .int, 2) := by decide +kernel
theorem dX2_init_9 : decode cX2_init 9 = .ok (.dup, 1) := by decide +kernel
theorem dX2_init_10 : decode cX2_init 10 = .ok (.iconst 0, 1) := by decide +kernel
theorem dX2_init_11 : decode cX2_init 11 = .ok (.ldc 7, 2) := by decide +kernel
theorem dX2_init_13 : decode cX2_init 13 = .ok (.iastore, 1) := by decide +kernel
theorem dX2_init_14 : decode cX2_init 14 = .ok (.dup, 1) := by decide +kernel
theorem dX2_init_15 : decode cX2_init 15 = .ok (.iconst 1, 1) := by decide +kernel
theorem dX2_init_16 : decode cX2_init 16 = .ok (.ldc 8, 2) := by decide +kernel
theorem dX2_init_18 : decode cX2_init 18 = .ok (.iastore, 1) := by decide +kernel
theorem dX2_init_19 : decode cX2_init 19 = .ok (.dup, 1) := by decide +kernel
theorem dX2_init_20 : decode cX2_init 20 = .ok (.iconst 2, 1) := by decide +kernel
theorem dX2_init_21 : decode cX2_init 21 = .ok (.ldc 9, 2) := by decide +kernel
theorem dX2_init_23 : decode cX2_init 23 = .ok (.iastore, 1) := by decide +kernel
theorem dX2_init_24 : decode cX2_init 24 = .ok (.dup, 1) := by decide +kernel
theorem dX2_init_25 : decode cX2_init 25 = .ok (.iconst 3, 1) := by decide +kernel
theorem dX2_init_26 : decode cX2_init 26 = .ok (.ldc 10, 2) := by decide +kernel
theorem dX2_init_28 : decode cX2_init 28 = .ok (.iastore, 1) := by decide +kernel
theorem dX2_init_29 : decode cX2_init 29 = .ok (.dup, 1) := by decide +kernel
theorem dX2_init_30 : decode cX2_init 30 = .ok (.iconst 4, 1) := by decide +kernel
theorem dX2_init_31 : decode cX2_init 31 = .ok (.ldc 11, 2) := by decide +kernel
theorem dX2_init_33 : decode cX2_init 33 = .ok (.iastore, 1) := by decide +kernel
theorem dX2_init_34 : decode cX2_init 34 = .ok (.dup, 1) := by decide +kernel
theorem dX2_init_35 : decode cX2_init 35 = .ok (.iconst 5, 1) := by decide +kernel
theorem dX2_init_36 : decode cX2_init 36 = .ok (.ldc 12, 2) := by decide +kernel
theorem dX2_init_38 : decode cX2_init 38 = .ok (.iastore, 1) := by decide +kernel
theorem dX2_init_39 : decode cX2_init 39 = .ok (.dup, 1) := by decide +kernel
theorem dX2_init_40 : decode cX2_init 40 = .ok (.bipush 6, 2) := by decide +kernel
theorem dX2_init_42 : decode cX2_init 42 = .ok (.ldc 13, 2) := by decide +kernel
theorem dX2_init_44 : decode cX2_init 44 = .ok (.iastore, 1) := by decide +kernel
theorem dX2_init_45 : decode cX2_init 45 = .ok (.dup, 1) := by decide +kernel
theorem dX2_init_46 : decode cX2_init 46 = .ok (.bipush 7, 2) := by decide +kernel
theorem dX2_init_48 : decode cX2_init 48 = .ok (.ldc 14, 2) := by decide +kernel
theorem dX2_init_50 : decode cX2_init 50 = .ok (.iastore, 1) := by decide +kernel
theorem dX2_init_51 : decode cX2_init 51 = .ok (.dup, 1) := by decide +kernel
theorem dX2_init_52 : decode cX2_init 52 = .ok (.bipush 8, 2) := by decide +kernel
theorem dX2_init_54 : decode cX2_init 54 = .ok (.ldc 15, 2) := by decide +kernel
theorem dX2_init_56 : decode cX2_init 56 = .ok (.iastore, 1) := by decide +kernel
theorem dX2_init_57 : decode cX2_init 57 = .ok (.dup, 1) := by decide +kernel
theorem dX2_init_58 : decode cX2_init 58 = .ok (.bipush 9, 2) := by decide +kernel
theorem dX2_init_60 : decode cX2_init 60 = .ok (.ldc 16, 2) := by decide +kernel
theorem dX2_init_62 : decode cX2_init 62 = .ok (.iastore, 1) := by decide +kernel
theorem dX2_init_63 : decode cX2_init 63 = .ok (.dup, 1) := by decide +kernel
theorem dX2_init_64 : decode cX2_init 64 = .ok (.bipush 10, 2) := by decide +kernel
theorem dX2_init_66 : decode cX2_init 66 = .ok (.ldc 17, 2) := by decide +kernel
theorem dX2_init_68 : decode cX2_init 68 = .ok (.iastore, 1) := by decide +kernel
theorem dX2_init_69 : decode cX2_init 69 = .ok (.dup, 1) := by decide +kernel
theorem dX2_init_70 : decode cX2_init 70 = .ok (.bipush 11, 2) := by decide +kernel
theorem dX2_init_72 : decode cX2_init 72 = .ok (.ldc 18, 2) := by decide +kernel
theorem dX2_init_74 : decode cX2_init 74 = .ok (.iastore, 1) := by decide +kernel
theorem dX2_init_75 : decode cX2_init 75 = .ok (.dup, 1) := by decide +kernel
theorem dX2_init_76 : decode cX2_init 76 = .ok (.bipush 12, 2) := by decide +kernel
theorem dX2_init_78 : decode cX2_init 78 = .ok (.ldc 19, 2) := by decide +kernel
theorem dX2_init_80 : decode cX2_init 80 = .ok (.iastore, 1) := by decide +kernel
theorem dX2_init_81 : decode cX2_init 81 = .ok (.dup, 1) := by decide +kernel
theorem dX2_init_82 : decode cX2_init 82 = .ok (.bipush 13, 2) := by decide +kernel
theorem dX2_init_84 : decode cX2_init 84 = .ok (.ldc 20, 2) := by decide +kernel
theorem dX2_init_86 : decode cX2_init 86 = .ok (.iastore, 1) := by decide +kernel
theorem dX2_init_87 : decode cX2_init 87 = .ok (.dup, 1) := by decide +kernel
theorem dX2_init_88 : decode cX2_init 88 = .ok (.bipush 14, 2) := by decide +kernel
theorem dX2_init_90 : decode cX2_init 90 = .ok (.ldc 21, 2) := by decide +kernel
theorem dX2_init_92 : decode cX2_init 92 = .ok (.iastore, 1) := by decide +kernel
theorem dX2_init_93 : decode cX2_init 93 = .ok (.dup, 1) := by decide +kernel
theorem dX2_init_94 : decode cX2_init 94 = .ok (.bipush 15, 2) := by decide +kernel
theorem dX2_init_96 : decode cX2_init 96 = .ok (.ldc 22, 2) := by decide +kernel
theorem dX2_init_98 : decode cX2_init 98 = .ok (.iastore, 1) := by decide +kernel
theorem dX2_init_99 : decode cX2_init 99 = .ok (.dup, 1) := by decide +kernel
theorem dX2_init_100 : decode cX2_init 100 = .ok (.bipush 16, 2) := by decide +kernel
theorem dX2_init_102 : decode cX2_init 102 = .ok (.ldc 23, 2) := by decide +kernel
theorem dX2_init_104 : decode cX2_init 104 = .ok (.iastore, 1) := by decide +kernel
theorem dX2_init_105 : decode cX2_init 105 = .ok (.dup, 1) := by decide +kernel
theorem dX2_init_106 : decode cX2_init 106 = .ok (.bipush 17, 2) := by decide +kernel
theorem dX2_init_108 : decode cX2_init 108 = .ok (.ldc 24, 2) := by decide +kernel
theorem dX2_init_110 : decode cX2_init 110 = .ok (.iastore, 1) := by decide +kernel
theorem dX2_init_111 : decode cX2_init 111 = .ok (.dup, 1) := by decide +kernel
theorem dX2_init_112 : decode cX2_init 112 = .ok (.bipush 18, 2) := by decide +kernel
theorem dX2_init_114 : decode cX2_init 114 = .ok (.ldc 25, 2) := by decide +kernel
theorem dX2_init_116 : decode cX2_init 116 = .ok (.iastore, 1) := by decide +kernel
theorem dX2_init_117 : decode cX2_init 117 = .ok (.dup, 1) := by decide +kernel
theorem dX2_init_118 : decode cX2_init 118 = .ok (.bipush 19, 2) := by decide +kernel
theorem dX2_init_120 : decode cX2_init 120 = .ok (.ldc 26, 2) := by decide +kernel
theorem dX2_init_122 : decode cX2_init 122 = .ok (.iastore, 1) := by decide +kernel
theorem dX2_init_123 : decode cX2_init 123 = .ok (.dup, 1) := by decide +kernel
theorem dX2_init_124 : decode cX2_init 124 = .ok (.bipush 20, 2) := by decide +kernel
theorem dX2_init_126 : decode cX2_init 126 = .ok (.ldc 27, 2) := by decide +kernel
theorem dX2_init_128 : decode cX2_init 128 = .ok (.iastore, 1) := by decide +kernel
theorem dX2_init_129 : decode cX2_init 129 = .ok (.dup, 1) := by decide +kernel
theorem dX2_init_130 : decode cX2_init 130 = .ok (.bipush 21, 2) := by decide +kernel
theorem dX2_init_132 : decode cX2_init 132 = .ok (.ldc 28, 2) := by decide +kernel
theorem dX2_init_134 : decode cX2_init 134 = .ok (.iastore, 1) := by decide +kernel
theorem dX2_init_135 : decode cX2_init 135 = .ok (.dup, 1) := by decide +kernel
theorem dX2_init_136 : decode cX2_init 136 = .ok (.bipush 22, 2) := by decide +kernel
theorem dX2_init_138 : decode cX2_init 138 = .ok (.ldc 29, 2) := by decide +kernel
theorem dX2_init_140 : decode cX2_init 140 = .ok (.iastore, 1) := by decide +kernel
theorem dX2_init_141 : decode cX2_init 141 = .ok (.dup, 1) := by decide +kernel
theorem dX2_init_142 : decode cX2_init 142 = .ok (.bipush 23, 2) := by decide +kernel
theorem dX2_init_144 : decode cX2_init 144 = .ok (.ldc 30, 2) := by decide +kernel
theorem dX2_init_146 : decode cX2_init 146 = .ok (.iastore, 1) := by decide +kernel
theorem dX2_init_147 : decode cX2_init 147 = .ok (.dup, 1) := by decide +kernel
theorem dX2_init_148 : decode cX2_init 148 = .ok (.bipush 24, 2) := by decide +kernel
theorem dX2_init_150 : decode cX2_init 150 = .ok (.ldc 31, 2) := by decide +kernel
theorem dX2_init_152 : decode cX2_init 152 = .ok (.iastore, 1) := by decide +kernel
theorem dX2_init_153 : decode cX2_init 153 = .ok (.dup, 1) := by decide +kernel
theorem dX2_init_154 : decode cX2_init 154 = .ok (.bipush 25, 2) := by decide +kernel
theorem dX2_init_156 : decode cX2_init 156 = .ok (.ldc 32, 2) := by decide +kernel
theorem dX2_init_158 : decode cX2_init 158 = .ok (.iastore, 1) := by decide +kernel
theorem dX2_init_159 : decode cX2_init 159 = .ok (.dup, 1) := by decide +kernel
theorem dX2_init_160 : decode cX2_init 160 = .ok (.bipush 26, 2) := by decide +kernel
theorem dX2_init_162 : decode cX2_init 162 = .ok (.ldc 33, 2) := by decide +kernel
theorem dX2_init_164 : decode cX2_init 164 = .ok (.iastore, 1) := by decide +kernel
theorem dX2_init_165 : decode cX2_init 165 = .ok (.dup, 1) := by decide +kernel
theorem dX2_init_166 : decode cX2_init 166 = .ok (.bipush 27, 2) := by decide +kernel
theorem dX2_init_168 : decode cX2_init 168 = .ok (.ldc 34, 2) := by decide +kernel
theorem dX2_init_170 : decode cX2_init 170 = .ok (.iastore, 1) := by decide +kernel
theorem dX2_init_171 : decode cX2_init 171 = .ok (.dup, 1) := by decide +kernel
theorem dX2_init_172 : decode cX2_init 172 = .ok (.bipush 28, 2) := by decide +kernel
theorem dX2_init_174 : decode cX2_init 174 = .ok (.ldc 35, 2) := by decide +kernel
