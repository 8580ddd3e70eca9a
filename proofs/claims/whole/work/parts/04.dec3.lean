theorem dX9_digest_141 : decode cX9_digest 141 = .ok (.lload_n 1, 1) := by decide +kernel
theorem dX9_digest_142 : decode cX9_digest 142 = .ok (.lreturn, 1) := by decide +kernel
theorem dX9_within_0 : decode cX9_within 0 = .ok (.iload_n 0, 1) := by decide +kernel
theorem dX9_within_1 : decode cX9_within 1 = .ok (.iload_n 1, 1) := by decide +kernel
theorem dX9_within_2 : decode cX9_within 2 = .ok (.if_icmp .lt 12, 3) := by decide +kernel
theorem dX9_within_5 : decode cX9_within 5 = .ok (.iload_n 0, 1) := by decide +kernel
theorem dX9_within_6 : decode cX9_within 6 = .ok (.iload_n 2, 1) := by decide +kernel
theorem dX9_within_7 : decode cX9_within 7 = .ok (.if_icmp .gt 7, 3) := by decide +kernel
theorem dX9_within_10 : decode cX9_within 10 = .ok (.iconst 1, 1) := by decide +kernel
theorem dX9_within_11 : decode cX9_within 11 = .ok (.goto 4, 3) := by decide +kernel
theorem dX9_within_14 : decode cX9_within 14 = .ok (.iconst 0, 1) := by decide +kernel
theorem dX9_within_15 : decode cX9_within 15 = .ok (.ireturn, 1) := by decide +kernel
set_option maxRecDepth 20000 in
theorem ggX9_isPiece_X9_within : GoodIn wsX9_isPiece wsX9_within := goodIn_r _ [4] (by decide +kernel) (by decide +kernel)
set_option maxRecDepth 20000 in
theorem gX9_isPiece_X9_within : GoodIn wsX9_isPiece (va_wsS RX9 81 yX9_within wsX9_within) := goodIn_app (goodIn_of _ (by decide +kernel)) ggX9_isPiece_X9_within
theorem dX9_isPiece_0 : decode cX9_isPiece 0 = .ok (.iload_n 0, 1) := by decide +kernel
theorem dX9_isPiece_1 : decode cX9_isPiece 1 = .ok (.iconst 0, 1) := by decide +kernel
theorem dX9_isPiece_2 : decode cX9_isPiece 2 = .ok (.bipush 49, 2) := by decide +kernel
theorem dX9_isPiece_4 : decode cX9_isPiece 4 = .ok (.invokestatic 81, 3) := by decide +kernel
theorem dX9_isPiece_7 : decode cX9_isPiece 7 = .ok (.ireturn, 1) := by decide +kernel
set_option maxRecDepth 20000 in
theorem ggX9_isMud_X9_within : GoodIn wsX9_isMud wsX9_within := goodIn_r _ [4] (by decide +kernel) (by decide +kernel)
set_option maxRecDepth 20000 in
theorem gX9_isMud_X9_within : GoodIn wsX9_isMud (va_wsS RX9 81 yX9_within wsX9_within) := goodIn_app (goodIn_of _ (by decide +kernel)) ggX9_isMud_X9_within
theorem dX9_isMud_0 : decode cX9_isMud 0 = .ok (.iload_n 0, 1) := by decide +kernel
theorem dX9_isMud_1 : decode cX9_isMud 1 = .ok (.iconst 0, 1) := by decide +kernel
theorem dX9_isMud_2 : decode cX9_isMud 2 = .ok (.sipush 3000, 3) := by decide +kernel
theorem dX9_isMud_5 : decode cX9_isMud 5 = .ok (.invokestatic 81, 3) := by decide +kernel
theorem dX9_isMud_8 : decode cX9_isMud 8 = .ok (.ireturn, 1) := by decide +kernel
set_option maxRecDepth 20000 in
theorem ggX9_isWeight_X9_within : GoodIn wsX9_isWeight wsX9_within := goodIn_r _ [4] (by decide +kernel) (by decide +kernel)
set_option maxRecDepth 20000 in
theorem gX9_isWeight_X9_within : GoodIn wsX9_isWeight (va_wsS RX9 81 yX9_within wsX9_within) := goodIn_app (goodIn_of _ (by decide +kernel)) ggX9_isWeight_X9_within
theorem dX9_isWeight_0 : decode cX9_isWeight 0 = .ok (.iload_n 0, 1) := by decide +kernel
theorem dX9_isWeight_1 : decode cX9_isWeight 1 = .ok (.iconst 1, 1) := by decide +kernel
theorem dX9_isWeight_2 : decode cX9_isWeight 2 = .ok (.sipush 3000, 3) := by decide +kernel
theorem dX9_isWeight_5 : decode cX9_isWeight 5 = .ok (.invokestatic 81, 3) := by decide +kernel
theorem dX9_isWeight_8 : decode cX9_isWeight 8 = .ok (.ireturn, 1) := by decide +kernel
set_option maxRecDepth 20000 in
theorem ggX9_isHole_X9_within : GoodIn wsX9_isHole wsX9_within := goodIn_r _ [4] (by decide +kernel) (by decide +kernel)
set_option maxRecDepth 20000 in
theorem gX9_isHole_X9_within : GoodIn wsX9_isHole (va_wsS RX9 81 yX9_within wsX9_within) := goodIn_app (goodIn_of _ (by decide +kernel)) ggX9_isHole_X9_within
theorem dX9_isHole_0 : decode cX9_isHole 0 = .ok (.iload_n 0, 1) := by decide +kernel
theorem dX9_isHole_1 : decode cX9_isHole 1 = .ok (.iconst 0, 1) := by decide +kernel
theorem dX9_isHole_2 : decode cX9_isHole 2 = .ok (.iconst 1, 1) := by decide +kernel
theorem dX9_isHole_3 : decode cX9_isHole 3 = .ok (.invokestatic 81, 3) := by decide +kernel
theorem dX9_isHole_6 : decode cX9_isHole 6 = .ok (.ireturn, 1) := by decide +kernel
set_option maxRecDepth 20000 in
theorem ggX9_isSheet_X9_within : GoodIn wsX9_isSheet wsX9_within := goodIn_r _ [4] (by decide +kernel) (by decide +kernel)
set_option maxRecDepth 20000 in
theorem gX9_isSheet_X9_within : GoodIn wsX9_isSheet (va_wsS RX9 81 yX9_within wsX9_within) := goodIn_app (goodIn_of _ (by decide +kernel)) ggX9_isSheet_X9_within
theorem dX9_isSheet_0 : decode cX9_isSheet 0 = .ok (.iload_n 0, 1) := by decide +kernel
theorem dX9_isSheet_1 : decode cX9_isSheet 1 = .ok (.iconst 0, 1) := by decide +kernel
theorem dX9_isSheet_2 : decode cX9_isSheet 2 = .ok (.iconst 3, 1) := by decide +kernel
theorem dX9_isSheet_3 : decode cX9_isSheet 3 = .ok (.invokestatic 81, 3) := by decide +kernel
theorem dX9_isSheet_6 : decode cX9_isSheet 6 = .ok (.ireturn, 1) := by decide +kernel
set_option maxRecDepth 20000 in
theorem ggX9_isForm_X9_within : GoodIn wsX9_isForm wsX9_within := goodIn_r _ [4] (by decide +kernel) (by decide +kernel)
set_option maxRecDepth 20000 in
theorem gX9_isForm_X9_within : GoodIn wsX9_isForm (va_wsS RX9 81 yX9_within wsX9_within) := goodIn_app (goodIn_of _ (by decide +kernel)) ggX9_isForm_X9_within
theorem dX9_isForm_0 : decode cX9_isForm 0 = .ok (.iload_n 0, 1) := by decide +kernel
theorem dX9_isForm_1 : decode cX9_isForm 1 = .ok (.iconst 0, 1) := by decide +kernel
theorem dX9_isForm_2 : decode cX9_isForm 2 = .ok (.iconst 2, 1) := by decide +kernel
theorem dX9_isForm_3 : decode cX9_isForm 3 = .ok (.invokestatic 81, 3) := by decide +kernel
theorem dX9_isForm_6 : decode cX9_isForm 6 = .ok (.ireturn, 1) := by decide +kernel
theorem dX9_refusal_0 : decode cX9_refusal 0 = .ok (.ldc2_w 318, 3) := by decide +kernel
theorem dX9_refusal_3 : decode cX9_refusal 3 = .ok (.iload_n 0, 1) := by decide +kernel
theorem dX9_refusal_4 : decode cX9_refusal 4 = .ok (.i2l, 1) := by decide +kernel
theorem dX9_refusal_5 : decode cX9_refusal 5 = .ok (.lsub, 1) := by decide +kernel
theorem dX9_refusal_6 : decode cX9_refusal 6 = .ok (.lreturn, 1) := by decide +kernel
theorem dX9_found_0 : decode cX9_found 0 = .ok (.aload_n 0, 1) := by decide +kernel
theorem dX9_found_1 : decode cX9_found 1 = .ok (.iload_n 1, 1) := by decide +kernel
theorem dX9_found_2 : decode cX9_found 2 = .ok (.putfield 308, 3) := by decide +kernel
theorem dX9_found_5 : decode cX9_found 5 = .ok (.bipush (-10), 2) := by decide +kernel
theorem dX9_found_7 : decode cX9_found 7 = .ok (.iload_n 1, 1) := by decide +kernel
theorem dX9_found_8 : decode cX9_found 8 = .ok (.isub, 1) := by decide +kernel
theorem dX9_found_9 : decode cX9_found 9 = .ok (.ireturn, 1) := by decide +kernel
theorem dX9_cut_0 : decode cX9_cut 0 = .ok (.lload_n 2, 1) := by decide +kernel
theorem dX9_cut_1 : decode cX9_cut 1 = .ok (.lconst 1, 1) := by decide +kernel
theorem dX9_cut_2 : decode cX9_cut 2 = .ok (.lcmp, 1) := by decide +kernel
theorem dX9_cut_3 : decode cX9_cut 3 = .ok (.ifCond .ge 7, 3) := by decide +kernel
theorem dX9_cut_6 : decode cX9_cut 6 = .ok (.lconst 0, 1) := by decide +kernel
theorem dX9_cut_7 : decode cX9_cut 7 = .ok (.goto 6, 3) := by decide +kernel
theorem dX9_cut_10 : decode cX9_cut 10 = .ok (.lload_n 0, 1) := by decide +kernel
theorem dX9_cut_11 : decode cX9_cut 11 = .ok (.lload_n 2, 1) := by decide +kernel
theorem dX9_cut_12 : decode cX9_cut 12 = .ok (.ldiv, 1) := by decide +kernel
theorem dX9_cut_13 : decode cX9_cut 13 = .ok (.lreturn, 1) := by decide +kernel
set_option maxRecDepth 20000 in
theorem ggX9_roundedUp_X9_cut : GoodIn wsX9_roundedUp wsX9_cut := goodIn_r _ [4] (by decide +kernel) (by decide +kernel)
set_option maxRecDepth 20000 in
theorem gX9_roundedUp_X9_cut : GoodIn wsX9_roundedUp (va_wsS RX9 320 yX9_cut wsX9_cut) := goodIn_app (goodIn_of _ (by decide +kernel)) ggX9_roundedUp_X9_cut
theorem dX9_roundedUp_0 : decode cX9_roundedUp 0 = .ok (.lload_n 0, 1) := by decide +kernel
theorem dX9_roundedUp_1 : decode cX9_roundedUp 1 = .ok (.lload_n 2, 1) := by decide +kernel
theorem dX9_roundedUp_2 : decode cX9_roundedUp 2 = .ok (.ladd, 1) := by decide +kernel
theorem dX9_roundedUp_3 : decode cX9_roundedUp 3 = .ok (.lconst 1, 1) := by decide +kernel
theorem dX9_roundedUp_4 : decode cX9_roundedUp 4 = .ok (.lsub, 1) := by decide +kernel
theorem dX9_roundedUp_5 : decode cX9_roundedUp 5 = .ok (.lload_n 2, 1) := by decide +kernel
theorem dX9_roundedUp_6 : decode cX9_roundedUp 6 = .ok (.invokestatic 320, 3) := by decide +kernel
theorem dX9_roundedUp_9 : decode cX9_roundedUp 9 = .ok (.lreturn, 1) := by decide +kernel
theorem dX9_lowestBits_0 : decode cX9_lowestBits 0 = .ok (.iload_n 0, 1) := by decide +kernel
theorem dX9_lowestBits_1 : decode cX9_lowestBits 1 = .ok (.lookupswitch 33 #[(0, 27), (1, 30)], 27) := by decide +kernel
theorem dX9_lowestBits_28 : decode cX9_lowestBits 28 = .ok (.iload_n 1, 1) := by decide +kernel
theorem dX9_lowestBits_29 : decode cX9_lowestBits 29 = .ok (.i2b, 1) := by decide +kernel
theorem dX9_lowestBits_30 : decode cX9_lowestBits 30 = .ok (.ireturn, 1) := by decide +kernel
theorem dX9_lowestBits_31 : decode cX9_lowestBits 31 = .ok (.iload_n 1, 1) := by decide +kernel
theorem dX9_lowestBits_32 : decode cX9_lowestBits 32 = .ok (.i2s, 1) := by decide +kernel
theorem dX9_lowestBits_33 : decode cX9_lowestBits 33 = .ok (.ireturn, 1) := by decide +kernel
theorem dX9_lowestBits_34 : decode cX9_lowestBits 34 = .ok (.iload_n 1, 1) := by decide +kernel
theorem dX9_lowestBits_35 : decode cX9_lowestBits 35 = .ok (.ireturn, 1) := by decide +kernel
theorem dX10_init_0 : decode cX10_init 0 = .ok (.aload_n 0, 1) := by decide +kernel
theorem dX10_init_1 : decode cX10_init 1 = .ok (.invokespecial 1, 3) := by decide +kernel
theorem dX10_init_4 : decode cX10_init 4 = .ok (.aload_n 0, 1) := by decide +kernel
theorem dX10_init_5 : decode cX10_init 5 = .ok (.bipush 10, 2) := by decide +kernel
theorem dX10_init_7 : decode cX10_init 7 = .ok (.newarray .int, 2) := by decide +kernel
theorem dX10_init_9 : decode cX10_init 9 = .ok (.putfield 7, 3) := by decide +kernel
theorem dX10_init_12 : decode cX10_init 12 = .ok (.aload_n 0, 1) := by decide +kernel
theorem dX10_init_13 : decode cX10_init 13 = .ok (.bipush 6, 2) := by decide +kernel
theorem dX10_init_15 : decode cX10_init 15 = .ok (.newarray .int, 2) := by decide +kernel
theorem dX10_init_17 : decode cX10_init 17 = .ok (.putfield 13, 3) := by decide +kernel
theorem dX10_init_20 : decode cX10_init 20 = .ok (.aload_n 0, 1) := by decide +kernel
theorem dX10_init_21 : decode cX10_init 21 = .ok (.bipush 6, 2) := by decide +kernel
theorem dX10_init_23 : decode cX10_init 23 = .ok (.newarray .int, 2) := by decide +kernel
theorem dX10_init_25 : decode cX10_init 25 = .ok (.putfield 16, 3) := by decide +kernel
theorem dX10_init_28 : decode cX10_init 28 = .ok (.aload_n 0, 1) := by decide +kernel
theorem dX10_init_29 : decode cX10_init 29 = .ok (.sipush 357, 3) := by decide +kernel
theorem dX10_init_32 : decode cX10_init 32 = .ok (.newarray .int, 2) := by decide +kernel
theorem dX10_init_34 : decode cX10_init 34 = .ok (.putfield 19, 3) := by decide +kernel
theorem dX10_init_37 : decode cX10_init 37 = .ok (.aload_n 0, 1) := by decide +kernel
theorem dX10_init_38 : decode cX10_init 38 = .ok (.sipush 357, 3) := by decide +kernel
theorem dX10_init_41 : decode cX10_init 41 = .ok (.newarray .int, 2) := by decide +kernel
theorem dX10_init_43 : decode cX10_init 43 = .ok (.putfield 22, 3) := by decide +kernel
theorem dX10_init_46 : decode cX10_init 46 = .ok (.aload_n 0, 1) := by decide +kernel
theorem dX10_init_47 : decode cX10_init 47 = .ok (.sipush 357, 3) := by decide +kernel
theorem dX10_init_50 : decode cX10_init 50 = .ok (.newarray .int, 2) := by decide +kernel
theorem dX10_init_52 : decode cX10_init 52 = .ok (.putfield 25, 3) := by decide +kernel
theorem dX10_init_55 : decode cX10_init 55 = .ok (.aload_n 0, 1) := by decide +kernel
theorem dX10_init_56 : decode cX10_init 56 = .ok (.bipush 10, 2) := by decide +kernel
theorem dX10_init_58 : decode cX10_init 58 = .ok (.putfield 28, 3) := by decide +kernel
theorem dX10_init_61 : decode cX10_init 61 = .ok (.aload_n 0, 1) := by decide +kernel
theorem dX10_init_62 : decode cX10_init 62 = .ok (.bipush 100, 2) := by decide +kernel
theorem dX10_init_64 : decode cX10_init 64 = .ok (.putfield 32, 3) := by decide +kernel
theorem dX10_init_67 : decode cX10_init 67 = .ok (.aload_n 0, 1) := by decide +kernel
theorem dX10_init_68 : decode cX10_init 68 = .ok (.bipush 20, 2) := by decide +kernel
theorem dX10_init_70 : decode cX10_init 70 = .ok (.newarray .int, 2) := by decide +kernel
theorem dX10_init_72 : decode cX10_init 72 = .ok (.putfield 35, 3) := by decide +kernel
theorem dX10_init_75 : decode cX10_init 75 = .ok (.aload_n 0, 1) := by decide +kernel
theorem dX10_init_76 : decode cX10_init 76 = .ok (.bipush 20, 2) := by decide +kernel
theorem dX10_init_78 : decode cX10_init 78 = .ok (.newarray .int, 2) := by decide +kernel
theorem dX10_init_80 : decode cX10_init 80 = .ok (.putfield 38, 3) := by decide +kernel
theorem dX10_init_83 : decode cX10_init 83 = .ok (.aload_n 0, 1) := by decide +kernel
theorem dX10_init_84 : decode cX10_init 84 = .ok (.bipush 100, 2) := by decide +kernel
theorem dX10_init_86 : decode cX10_init 86 = .ok (.putfield 41, 3) := by decide +kernel
theorem dX10_init_89 : decode cX10_init 89 = .ok (.aload_n 0, 1) := by decide +kernel
theorem dX10_init_90 : decode cX10_init 90 = .ok (.iconst 2, 1) := by decide +kernel
theorem dX10_init_91 : decode cX10_init 91 = .ok (.newarray .int, 2) := by decide +kernel
theorem dX10_init_93 : decode cX10_init 93 = .ok (.putfield 44, 3) := by decide +kernel
theorem dX10_init_96 : decode cX10_init 96 = .ok (.aload_n 0, 1) := by decide +kernel
theorem dX10_init_97 : decode cX10_init 97 = .ok (.bipush 82, 2) := by decide +kernel
theorem dX10_init_99 : decode cX10_init 99 = .ok (.newarray .int, 2) := by decide +kernel
theorem dX10_init_101 : decode cX10_init 101 = .ok (.putfield 47, 3) := by decide +kernel
theorem dX10_init_104 : decode cX10_init 104 = .ok (.aload_n 0, 1) := by decide +kernel
theorem dX10_init_105 : decode cX10_init 105 = .ok (.bipush 82, 2) := by decide +kernel
theorem dX10_init_107 : decode cX10_init 107 = .ok (.newarray .int, 2) := by decide +kernel
theorem dX10_init_109 : decode cX10_init 109 = .ok (.putfield 50, 3) := by decide +kernel
theorem dX10_init_112 : decode cX10_init 112 = .ok (.aload_n 0, 1) := by decide +kernel
theorem dX10_init_113 : decode cX10_init 113 = .ok (.iconst 4, 1) := by decide +kernel
theorem dX10_init_114 : decode cX10_init 114 = .ok (.newarray .int, 2) := by decide +kernel
theorem dX10_init_116 : decode cX10_init 116 = .ok (.putfield 53, 3) := by decide +kernel
theorem dX10_init_119 : decode cX10_init 119 = .ok (.aload_n 0, 1) := by decide +kernel
theorem dX10_init_120 : decode cX10_init 120 = .ok (.iconst 4, 1) := by decide +kernel
theorem dX10_init_121 : decode cX10_init 121 = .ok (.newarray .int, 2) := by decide +kernel
theorem dX10_init_123 : decode cX10_init 123 = .ok (.putfield 56, 3) := by decide +kernel
theorem dX10_init_126 : decode cX10_init 126 = .ok (.aload_n 0, 1) := by decide +kernel
theorem dX10_init_127 : decode cX10_init 127 = .ok (.sipush 240, 3) := by decide +kernel
theorem dX10_init_130 : decode cX10_init 130 = .ok (.newarray .int, 2) := by decide +kernel
theorem dX10_init_132 : decode cX10_init 132 = .ok (.putfield 59, 3) := by decide +kernel
theorem dX10_init_135 : decode cX10_init 135 = .ok (.aload_n 0, 1) := by decide +kernel
theorem dX10_init_136 : decode cX10_init 136 = .ok (.bipush 60, 2) := by decide +kernel
theorem dX10_init_138 : decode cX10_init 138 = .ok (.newarray .int, 2) := by decide +kernel
theorem dX10_init_140 : decode cX10_init 140 = .ok (.putfield 62, 3) := by decide +kernel
theorem dX10_init_143 : decode cX10_init 143 = .ok (.aload_n 0, 1) := by decide +kernel
theorem dX10_init_144 : decode cX10_init 144 = .ok (.getfield 7, 3) := by decide +kernel
theorem dX10_init_147 : decode cX10_init 147 = .ok (.iconst 0, 1) := by decide +kernel
theorem dX10_init_148 : decode cX10_init 148 = .ok (.bipush 65, 2) := by decide +kernel
theorem dX10_init_150 : decode cX10_init 150 = .ok (.iastore, 1) := by decide +kernel
theorem dX10_init_151 : decode cX10_init 151 = .ok (.aload_n 0, 1) := by decide +kernel
theorem dX10_init_152 : decode cX10_init 152 = .ok (.getfield 7, 3) := by decide +kernel
theorem dX10_init_155 : decode cX10_init 155 = .ok (.iconst 1, 1) := by decide +kernel
theorem dX10_init_156 : decode cX10_init 156 = .ok (.bipush 63, 2) := by decide +kernel
theorem dX10_init_158 : decode cX10_init 158 = .ok (.iastore, 1) := by decide +kernel
theorem dX10_init_159 : decode cX10_init 159 = .ok (.aload_n 0, 1) := by decide +kernel
theorem dX10_init_160 : decode cX10_init 160 = .ok (.getfield 7, 3) := by decide +kernel
theorem dX10_init_163 : decode cX10_init 163 = .ok (.iconst 2, 1) := by decide +kernel
theorem dX10_init_164 : decode cX10_init 164 = .ok (.bipush 60, 2) := by decide +kernel
theorem dX10_init_166 : decode cX10_init 166 = .ok (.iastore, 1) := by decide +kernel
theorem dX10_init_167 : decode cX10_init 167 = .ok (.aload_n 0, 1) := by decide +kernel
theorem dX10_init_168 : decode cX10_init 168 = .ok (.getfield 7, 3) := by decide +kernel
theorem dX10_init_171 : decode cX10_init 171 = .ok (.iconst 3, 1) := by decide +kernel
theorem dX10_init_172 : decode cX10_init 172 = .ok (.bipush 56, 2) := by decide +kernel
theorem dX10_init_174 : decode cX10_init 174 = .ok (.iastore, 1) := by decide +kernel
theorem dX10_init_175 : decode cX10_init 175 = .ok (.aload_n 0, 1) := by decide +kernel
theorem dX10_init_176 : decode cX10_init 176 = .ok (.getfield 7, 3) := by decide +kernel
theorem dX10_init_179 : decode cX10_init 179 = .ok (.iconst 4, 1) := by decide +kernel
theorem dX10_init_180 : decode cX10_init 180 = .ok (.bipush 52, 2) := by decide +kernel
theorem dX10_init_182 : decode cX10_init 182 = .ok (.iastore, 1) := by decide +kernel
theorem dX10_init_183 : decode cX10_init 183 = .ok (.aload_n 0, 1) := by decide +kernel
theorem dX10_init_184 : decode cX10_init 184 = .ok (.getfield 7, 3) := by decide +kernel
theorem dX10_init_187 : decode cX10_init 187 = .ok (.iconst 5, 1) := by decide +kernel
theorem dX10_init_188 : decode cX10_init 188 = .ok (.bipush 39, 2) := by decide +kernel
theorem dX10_init_190 : decode cX10_init 190 = .ok (.iastore, 1) := by decide +kernel
theorem dX10_init_191 : decode cX10_init 191 = .ok (.aload_n 0, 1) := by decide +kernel
theorem dX10_init_192 : decode cX10_init 192 = .ok (.getfield 7, 3) := by decide +kernel
theorem dX10_init_195 : decode cX10_init 195 = .ok (.bipush 6, 2) := by decide +kernel
theorem dX10_init_197 : decode cX10_init 197 = .ok (.bipush 33, 2) := by decide +kernel
theorem dX10_init_199 : decode cX10_init 199 = .ok (.iastore, 1) := by decide +kernel
theorem dX10_init_200 : decode cX10_init 200 = .ok (.aload_n 0, 1) := by decide +kernel
theorem dX10_init_201 : decode cX10_init 201 = .ok (.getfield 7, 3) := by decide +kernel
theorem dX10_init_204 : decode cX10_init 204 = .ok (.bipush 7, 2) := by decide +kernel
theorem dX10_init_206 : decode cX10_init 206 = .ok (.bipush 25, 2) := by decide +kernel
theorem dX10_init_208 : decode cX10_init 208 = .ok (.iastore, 1) := by decide +kernel
theorem dX10_init_209 : decode cX10_init 209 = .ok (.aload_n 0, 1) := by decide +kernel
theorem dX10_init_210 : decode cX10_init 210 = .ok (.getfield 7, 3) := by decide +kernel
theorem dX10_init_213 : decode cX10_init 213 = .ok (.bipush 8, 2) := by decide +kernel
theorem dX10_init_215 : decode cX10_init 215 = .ok (.bipush 16, 2) := by decide +kernel
theorem dX10_init_217 : decode cX10_init 217 = .ok (.iastore, 1) := by decide +kernel
theorem dX10_init_218 : decode cX10_init 218 = .ok (.aload_n 0, 1) := by decide +kernel
theorem dX10_init_219 : decode cX10_init 219 = .ok (.getfield 7, 3) := by decide +kernel
theorem dX10_init_222 : decode cX10_init 222 = .ok (.bipush 9, 2) := by decide +kernel
theorem dX10_init_224 : decode cX10_init 224 = .ok (.iconst 0, 1) := by decide +kernel
theorem dX10_init_225 : decode cX10_init 225 = .ok (.iastore, 1) := by decide +kernel
theorem dX10_init_226 : decode cX10_init 226 = .ok (.iconst 0, 1) := by decide +kernel
theorem dX10_init_227 : decode cX10_init 227 = .ok (.istore_n 1, 1) := by decide +kernel
theorem dX10_init_228 : decode cX10_init 228 = .ok (.iload_n 1, 1) := by decide +kernel
theorem dX10_init_229 : decode cX10_init 229 = .ok (.iconst 4, 1) := by decide +kernel
theorem dX10_init_230 : decode cX10_init 230 = .ok (.if_icmp .ge 16, 3) := by decide +kernel
theorem dX10_init_233 : decode cX10_init 233 = .ok (.aload_n 0, 1) := by decide +kernel
theorem dX10_init_234 : decode cX10_init 234 = .ok (.getfield 53, 3) := by decide +kernel
theorem dX10_init_237 : decode cX10_init 237 = .ok (.iload_n 1, 1) := by decide +kernel
theorem dX10_init_238 : decode cX10_init 238 = .ok (.iconst (-1), 1) := by decide +kernel
theorem dX10_init_239 : decode cX10_init 239 = .ok (.iastore, 1) := by decide +kernel
theorem dX10_init_240 : decode cX10_init 240 = .ok (.iinc 1 1, 3) := by decide +kernel
theorem dX10_init_243 : decode cX10_init 243 = .ok (.goto (-15), 3) := by decide +kernel
theorem dX10_init_246 : decode cX10_init 246 = .ok (.return_, 1) := by decide +kernel
theorem dX10_in_0 : decode cX10_in 0 = .ok (.lload_n 0, 1) := by decide +kernel
theorem dX10_in_1 : decode cX10_in 1 = .ok (.lload_n 2, 1) := by decide +kernel
theorem dX10_in_2 : decode cX10_in 2 = .ok (.lcmp, 1) := by decide +kernel
theorem dX10_in_3 : decode cX10_in 3 = .ok (.ifCond .lt 14, 3) := by decide +kernel
theorem dX10_in_6 : decode cX10_in 6 = .ok (.lload_n 0, 1) := by decide +kernel
theorem dX10_in_7 : decode cX10_in 7 = .ok (.lload 4, 2) := by decide +kernel
theorem dX10_in_9 : decode cX10_in 9 = .ok (.lcmp, 1) := by decide +kernel
theorem dX10_in_10 : decode cX10_in 10 = .ok (.ifCond .gt 7, 3) := by decide +kernel
theorem dX10_in_13 : decode cX10_in 13 = .ok (.iconst 1, 1) := by decide +kernel
theorem dX10_in_14 : decode cX10_in 14 = .ok (.goto 4, 3) := by decide +kernel
theorem dX10_in_17 : decode cX10_in 17 = .ok (.iconst 0, 1) := by decide +kernel
theorem dX10_in_18 : decode cX10_in 18 = .ok (.ireturn, 1) := by decide +kernel
theorem dX10_no_0 : decode cX10_no 0 = .ok (.ldc2_w 65, 3) := by decide +kernel
theorem dX10_no_3 : decode cX10_no 3 = .ok (.iload_n 0, 1) := by decide +kernel
theorem dX10_no_4 : decode cX10_no 4 = .ok (.i2l, 1) := by decide +kernel
theorem dX10_no_5 : decode cX10_no 5 = .ok (.lsub, 1) := by decide +kernel
theorem dX10_no_6 : decode cX10_no 6 = .ok (.lreturn, 1) := by decide +kernel
set_option maxRecDepth 20000 in
theorem ggX10_hole_X10_in : GoodIn wsX10_hole wsX10_in := goodIn_r _ [7] (by decide +kernel) (by decide +kernel)
set_option maxRecDepth 20000 in
theorem gX10_hole_X10_in : GoodIn wsX10_hole (va_wsS RX10 69 yX10_in wsX10_in) := goodIn_app (goodIn_of _ (by decide +kernel)) ggX10_hole_X10_in
theorem dX10_hole_0 : decode cX10_hole 0 = .ok (.iload_n 1, 1) := by decide +kernel
theorem dX10_hole_1 : decode cX10_hole 1 = .ok (.i2l, 1) := by decide +kernel
theorem dX10_hole_2 : decode cX10_hole 2 = .ok (.lconst 0, 1) := by decide +kernel
theorem dX10_hole_3 : decode cX10_hole 3 = .ok (.ldc2_w 67, 3) := by decide +kernel
theorem dX10_hole_6 : decode cX10_hole 6 = .ok (.invokestatic 69, 3) := by decide +kernel
theorem dX10_hole_9 : decode cX10_hole 9 = .ok (.ifCond .eq 14, 3) := by decide +kernel
theorem dX10_hole_12 : decode cX10_hole 12 = .ok (.iload_n 2, 1) := by decide +kernel
theorem dX10_hole_13 : decode cX10_hole 13 = .ok (.i2l, 1) := by decide +kernel
theorem dX10_hole_14 : decode cX10_hole 14 = .ok (.lconst 0, 1) := by decide +kernel
theorem dX10_hole_15 : decode cX10_hole 15 = .ok (.iload_n 1, 1) := by decide +kernel
theorem dX10_hole_16 : decode cX10_hole 16 = .ok (.i2l, 1) := by decide +kernel
theorem dX10_hole_17 : decode cX10_hole 17 = .ok (.invokestatic 69, 3) := by decide +kernel
theorem dX10_hole_20 : decode cX10_hole 20 = .ok (.ifCond .ne 6, 3) := by decide +kernel
theorem dX10_hole_23 : decode cX10_hole 23 = .ok (.bipush (-2), 2) := by decide +kernel
theorem dX10_hole_25 : decode cX10_hole 25 = .ok (.ireturn, 1) := by decide +kernel
theorem dX10_hole_26 : decode cX10_hole 26 = .ok (.aload_n 0, 1) := by decide +kernel
theorem dX10_hole_27 : decode cX10_hole 27 = .ok (.iload_n 1, 1) := by decide +kernel
theorem dX10_hole_28 : decode cX10_hole 28 = .ok (.putfield 73, 3) := by decide +kernel
theorem dX10_hole_31 : decode cX10_hole 31 = .ok (.aload_n 0, 1) := by decide +kernel
theorem dX10_hole_32 : decode cX10_hole 32 = .ok (.iload_n 2, 1) := by decide +kernel
theorem dX10_hole_33 : decode cX10_hole 33 = .ok (.putfield 76, 3) := by decide +kernel
theorem dX10_hole_36 : decode cX10_hole 36 = .ok (.iconst 1, 1) := by decide +kernel
theorem dX10_hole_37 : decode cX10_hole 37 = .ok (.ireturn, 1) := by decide +kernel
set_option maxRecDepth 20000 in
theorem ggX10_margins_X10_in : GoodIn wsX10_margins wsX10_in := goodIn_r _ [7] (by decide +kernel) (by decide +kernel)
set_option maxRecDepth 20000 in
theorem gX10_margins_X10_in : GoodIn wsX10_margins (va_wsS RX10 69 yX10_in wsX10_in) := goodIn_app (goodIn_of _ (by decide +kernel)) ggX10_margins_X10_in
theorem dX10_margins_0 : decode cX10_margins 0 = .ok (.iload_n 1, 1) := by decide +kernel
theorem dX10_margins_1 : decode cX10_margins 1 = .ok (.i2l, 1) := by decide +kernel
theorem dX10_margins_2 : decode cX10_margins 2 = .ok (.lconst 0, 1) := by decide +kernel
theorem dX10_margins_3 : decode cX10_margins 3 = .ok (.ldc2_w 79, 3) := by decide +kernel
theorem dX10_margins_6 : decode cX10_margins 6 = .ok (.invokestatic 69, 3) := by decide +kernel
theorem dX10_margins_9 : decode cX10_margins 9 = .ok (.ifCond .eq 15, 3) := by decide +kernel
theorem dX10_margins_12 : decode cX10_margins 12 = .ok (.iload_n 2, 1) := by decide +kernel
theorem dX10_margins_13 : decode cX10_margins 13 = .ok (.i2l, 1) := by decide +kernel
theorem dX10_margins_14 : decode cX10_margins 14 = .ok (.lconst 0, 1) := by decide +kernel
theorem dX10_margins_15 : decode cX10_margins 15 = .ok (.ldc2_w 79, 3) := by decide +kernel
theorem dX10_margins_18 : decode cX10_margins 18 = .ok (.invokestatic 69, 3) := by decide +kernel
theorem dX10_margins_21 : decode cX10_margins 21 = .ok (.ifCond .ne 6, 3) := by decide +kernel
theorem dX10_margins_24 : decode cX10_margins 24 = .ok (.bipush (-2), 2) := by decide +kernel
theorem dX10_margins_26 : decode cX10_margins 26 = .ok (.ireturn, 1) := by decide +kernel
theorem dX10_margins_27 : decode cX10_margins 27 = .ok (.aload_n 0, 1) := by decide +kernel
theorem dX10_margins_28 : decode cX10_margins 28 = .ok (.iload_n 1, 1) := by decide +kernel
theorem dX10_margins_29 : decode cX10_margins 29 = .ok (.putfield 81, 3) := by decide +kernel
theorem dX10_margins_32 : decode cX10_margins 32 = .ok (.aload_n 0, 1) := by decide +kernel
theorem dX10_margins_33 : decode cX10_margins 33 = .ok (.iload_n 2, 1) := by decide +kernel
theorem dX10_margins_34 : decode cX10_margins 34 = .ok (.putfield 84, 3) := by decide +kernel
theorem dX10_margins_37 : decode cX10_margins 37 = .ok (.iconst 1, 1) := by decide +kernel
theorem dX10_margins_38 : decode cX10_margins 38 = .ok (.ireturn, 1) := by decide +kernel
set_option maxRecDepth 20000 in
theorem ggX10_groundOf_X10_in : GoodIn wsX10_groundOf wsX10_in := goodIn_r _ [8] (by decide +kernel) (by decide +kernel)
set_option maxRecDepth 20000 in
theorem gX10_groundOf_X10_in : GoodIn wsX10_groundOf (va_wsS RX10 69 yX10_in wsX10_in) := goodIn_app (goodIn_of _ (by decide +kernel)) ggX10_groundOf_X10_in
theorem dX10_groundOf_0 : decode cX10_groundOf 0 = .ok (.iload_n 2, 1) := by decide +kernel
theorem dX10_groundOf_1 : decode cX10_groundOf 1 = .ok (.istore_n 3, 1) := by decide +kernel
theorem dX10_groundOf_2 : decode cX10_groundOf 2 = .ok (.iload_n 3, 1) := by decide +kernel
theorem dX10_groundOf_3 : decode cX10_groundOf 3 = .ok (.ifCond .lt 61, 3) := by decide +kernel
theorem dX10_groundOf_6 : decode cX10_groundOf 6 = .ok (.aload_n 0, 1) := by decide +kernel
theorem dX10_groundOf_7 : decode cX10_groundOf 7 = .ok (.getfield 53, 3) := by decide +kernel
theorem dX10_groundOf_10 : decode cX10_groundOf 10 = .ok (.iload_n 1, 1) := by decide +kernel
theorem dX10_groundOf_11 : decode cX10_groundOf 11 = .ok (.iaload, 1) := by decide +kernel
theorem dX10_groundOf_12 : decode cX10_groundOf 12 = .ok (.ifCond .lt 13, 3) := by decide +kernel
theorem dX10_groundOf_15 : decode cX10_groundOf 15 = .ok (.iload_n 3, 1) := by decide +kernel
theorem dX10_groundOf_16 : decode cX10_groundOf 16 = .ok (.aload_n 0, 1) := by decide +kernel
theorem dX10_groundOf_17 : decode cX10_groundOf 17 = .ok (.getfield 56, 3) := by decide +kernel
theorem dX10_groundOf_20 : decode cX10_groundOf 20 = .ok (.iload_n 1, 1) := by decide +kernel
theorem dX10_groundOf_21 : decode cX10_groundOf 21 = .ok (.iaload, 1) := by decide +kernel
theorem dX10_groundOf_22 : decode cX10_groundOf 22 = .ok (.if_icmp .lt 7, 3) := by decide +kernel
theorem dX10_groundOf_25 : decode cX10_groundOf 25 = .ok (.iconst (-1), 1) := by decide +kernel
theorem dX10_groundOf_26 : decode cX10_groundOf 26 = .ok (.goto 14, 3) := by decide +kernel
theorem dX10_groundOf_29 : decode cX10_groundOf 29 = .ok (.aload_n 0, 1) := by decide +kernel
theorem dX10_groundOf_30 : decode cX10_groundOf 30 = .ok (.getfield 59, 3) := by decide +kernel
theorem dX10_groundOf_33 : decode cX10_groundOf 33 = .ok (.bipush 60, 2) := by decide +kernel
theorem dX10_groundOf_35 : decode cX10_groundOf 35 = .ok (.iload_n 1, 1) := by decide +kernel
theorem dX10_groundOf_36 : decode cX10_groundOf 36 = .ok (.imul, 1) := by decide +kernel
theorem dX10_groundOf_37 : decode cX10_groundOf 37 = .ok (.iload_n 3, 1) := by decide +kernel
theorem dX10_groundOf_38 : decode cX10_groundOf 38 = .ok (.iadd, 1) := by decide +kernel
theorem dX10_groundOf_39 : decode cX10_groundOf 39 = .ok (.iaload, 1) := by decide +kernel
theorem dX10_groundOf_40 : decode cX10_groundOf 40 = .ok (.istore 4, 2) := by decide +kernel
theorem dX10_groundOf_42 : decode cX10_groundOf 42 = .ok (.iload 4, 2) := by decide +kernel
theorem dX10_groundOf_44 : decode cX10_groundOf 44 = .ok (.i2l, 1) := by decide +kernel
theorem dX10_groundOf_45 : decode cX10_groundOf 45 = .ok (.lconst 0, 1) := by decide +kernel
theorem dX10_groundOf_46 : decode cX10_groundOf 46 = .ok (.ldc2_w 87, 3) := by decide +kernel
theorem dX10_groundOf_49 : decode cX10_groundOf 49 = .ok (.invokestatic 69, 3) := by decide +kernel
theorem dX10_groundOf_52 : decode cX10_groundOf 52 = .ok (.ifCond .eq 6, 3) := by decide +kernel
theorem dX10_groundOf_55 : decode cX10_groundOf 55 = .ok (.iload 4, 2) := by decide +kernel
theorem dX10_groundOf_57 : decode cX10_groundOf 57 = .ok (.ireturn, 1) := by decide +kernel
theorem dX10_groundOf_58 : decode cX10_groundOf 58 = .ok (.iinc 3 (-1), 3) := by decide +kernel
theorem dX10_groundOf_61 : decode cX10_groundOf 61 = .ok (.goto (-59), 3) := by decide +kernel
theorem dX10_groundOf_64 : decode cX10_groundOf 64 = .ok (.iload_n 1, 1) := by decide +kernel
theorem dX10_groundOf_65 : decode cX10_groundOf 65 = .ok (.ifCond .ne 7, 3) := by decide +kernel
theorem dX10_groundOf_68 : decode cX10_groundOf 68 = .ok (.iconst 0, 1) := by decide +kernel
theorem dX10_groundOf_69 : decode cX10_groundOf 69 = .ok (.goto 6, 3) := by decide +kernel
theorem dX10_groundOf_72 : decode cX10_groundOf 72 = .ok (.sipush 3000, 3) := by decide +kernel
theorem dX10_groundOf_75 : decode cX10_groundOf 75 = .ok (.ireturn, 1) := by decide +kernel
set_option maxRecDepth 20000 in
theorem ggX10_ground_X10_in : GoodIn wsX10_ground wsX10_in := goodIn_r _ [5] (by decide +kernel) (by decide +kernel)
set_option maxRecDepth 20000 in
theorem gX10_ground_X10_in : GoodIn wsX10_ground (va_wsS RX10 69 yX10_in wsX10_in) := goodIn_app (goodIn_of _ (by decide +kernel)) ggX10_ground_X10_in
set_option maxRecDepth 20000 in
theorem ggX10_ground_X10_groundOf : GoodIn wsX10_ground wsX10_groundOf := goodIn_r _ [9, 10, 11, 12, 13, 2, 3, 4, 5, 14, 15, 16, 17, 18, 19, 20, 21, 22, 23, 24, 25, 26, 27, 28, 29, 30, 31, 32, 33, 34, 35, 36, 37, 38, 39, 40, 41, 42, 43, 44, 45, 46, 47, 48, 49, 50, 51, 52, 53] (by decide +kernel) (by decide +kernel)
set_option maxRecDepth 20000 in
theorem gX10_ground_X10_groundOf : GoodIn wsX10_ground (wsV RX10 91 RX10 yX10_groundOf wsX10_groundOf) := goodIn_app (goodIn_of _ (by decide +kernel)) ggX10_ground_X10_groundOf
theorem dX10_ground_0 : decode cX10_ground 0 = .ok (.iload_n 1, 1) := by decide +kernel
theorem dX10_ground_1 : decode cX10_ground 1 = .ok (.i2l, 1) := by decide +kernel
theorem dX10_ground_2 : decode cX10_ground 2 = .ok (.lconst 0, 1) := by decide +kernel
theorem dX10_ground_3 : decode cX10_ground 3 = .ok (.lconst 1, 1) := by decide +kernel
theorem dX10_ground_4 : decode cX10_ground 4 = .ok (.invokestatic 69, 3) := by decide +kernel
theorem dX10_ground_7 : decode cX10_ground 7 = .ok (.ifCond .eq 24, 3) := by decide +kernel
theorem dX10_ground_10 : decode cX10_ground 10 = .ok (.iload_n 2, 1) := by decide +kernel
theorem dX10_ground_11 : decode cX10_ground 11 = .ok (.i2l, 1) := by decide +kernel
theorem dX10_ground_12 : decode cX10_ground 12 = .ok (.lconst 0, 1) := by decide +kernel
theorem dX10_ground_13 : decode cX10_ground 13 = .ok (.ldc2_w 89, 3) := by decide +kernel
theorem dX10_ground_16 : decode cX10_ground 16 = .ok (.invokestatic 69, 3) := by decide +kernel
theorem dX10_ground_19 : decode cX10_ground 19 = .ok (.ifCond .eq 12, 3) := by decide +kernel
theorem dX10_ground_22 : decode cX10_ground 22 = .ok (.aload_n 0, 1) := by decide +kernel
theorem dX10_ground_23 : decode cX10_ground 23 = .ok (.iload_n 1, 1) := by decide +kernel
theorem dX10_ground_24 : decode cX10_ground 24 = .ok (.iload_n 2, 1) := by decide +kernel
theorem dX10_ground_25 : decode cX10_ground 25 = .ok (.invokevirtual 91, 3) := by decide +kernel
theorem dX10_ground_28 : decode cX10_ground 28 = .ok (.goto 5, 3) := by decide +kernel
theorem dX10_ground_31 : decode cX10_ground 31 = .ok (.bipush (-2), 2) := by decide +kernel
theorem dX10_ground_33 : decode cX10_ground 33 = .ok (.ireturn, 1) := by decide +kernel
set_option maxRecDepth 20000 in
theorem ggX10_holds_X10_groundOf : GoodIn wsX10_holds wsX10_groundOf := goodIn_r _ [7, 8, 9, 10, 11, 12, 13, 6, 14, 15, 16, 17, 18, 19, 20, 21, 22, 23, 24, 25, 26, 27, 28, 29, 30, 31, 32, 33, 34, 35, 36, 37, 38, 39, 40, 41, 42, 43, 44, 45, 46, 47, 48, 49, 50, 51, 52, 53, 54] (by decide +kernel) (by decide +kernel)
set_option maxRecDepth 20000 in
theorem gX10_holds_X10_groundOf : GoodIn wsX10_holds (wsV RX10 91 RX10 yX10_groundOf wsX10_groundOf) := goodIn_app (goodIn_of _ (by decide +kernel)) ggX10_holds_X10_groundOf
theorem dX10_holds_0 : decode cX10_holds 0 = .ok (.iload_n 1, 1) := by decide +kernel
theorem dX10_holds_1 : decode cX10_holds 1 = .ok (.aload_n 0, 1) := by decide +kernel
theorem dX10_holds_2 : decode cX10_holds 2 = .ok (.iconst 0, 1) := by decide +kernel
theorem dX10_holds_3 : decode cX10_holds 3 = .ok (.iload_n 2, 1) := by decide +kernel
theorem dX10_holds_4 : decode cX10_holds 4 = .ok (.invokevirtual 91, 3) := by decide +kernel
theorem dX10_holds_7 : decode cX10_holds 7 = .ok (.aload_n 0, 1) := by decide +kernel
theorem dX10_holds_8 : decode cX10_holds 8 = .ok (.getfield 81, 3) := by decide +kernel
theorem dX10_holds_11 : decode cX10_holds 11 = .ok (.iadd, 1) := by decide +kernel
theorem dX10_holds_12 : decode cX10_holds 12 = .ok (.if_icmp .lt 22, 3) := by decide +kernel
theorem dX10_holds_15 : decode cX10_holds 15 = .ok (.iload_n 1, 1) := by decide +kernel
theorem dX10_holds_16 : decode cX10_holds 16 = .ok (.aload_n 0, 1) := by decide +kernel
theorem dX10_holds_17 : decode cX10_holds 17 = .ok (.iconst 1, 1) := by decide +kernel
theorem dX10_holds_18 : decode cX10_holds 18 = .ok (.iload_n 2, 1) := by decide +kernel
theorem dX10_holds_19 : decode cX10_holds 19 = .ok (.invokevirtual 91, 3) := by decide +kernel
theorem dX10_holds_22 : decode cX10_holds 22 = .ok (.aload_n 0, 1) := by decide +kernel
theorem dX10_holds_23 : decode cX10_holds 23 = .ok (.getfield 84, 3) := by decide +kernel
theorem dX10_holds_26 : decode cX10_holds 26 = .ok (.isub, 1) := by decide +kernel
theorem dX10_holds_27 : decode cX10_holds 27 = .ok (.if_icmp .gt 7, 3) := by decide +kernel
theorem dX10_holds_30 : decode cX10_holds 30 = .ok (.iconst 1, 1) := by decide +kernel
theorem dX10_holds_31 : decode cX10_holds 31 = .ok (.goto 4, 3) := by decide +kernel
theorem dX10_holds_34 : decode cX10_holds 34 = .ok (.iconst 0, 1) := by decide +kernel
theorem dX10_holds_35 : decode cX10_holds 35 = .ok (.ireturn, 1) := by decide +kernel
set_option maxRecDepth 20000 in
theorem ggX10_breaks_X10_in : GoodIn wsX10_breaks wsX10_in := goodIn_r _ [7] (by decide +kernel) (by decide +kernel)
set_option maxRecDepth 20000 in
theorem gX10_breaks_X10_in : GoodIn wsX10_breaks (va_wsS RX10 69 yX10_in wsX10_in) := goodIn_app (goodIn_of _ (by decide +kernel)) ggX10_breaks_X10_in
set_option maxRecDepth 20000 in
theorem ggX10_breaks_X10_holds : GoodIn wsX10_breaks wsX10_holds := goodIn_r _ [11, 12, 13, 14, 15, 16, 6, 17, 18, 19, 20, 1, 4, 5, 7, 21, 22, 23, 24, 25, 26, 27, 28, 29, 30, 31, 32, 33, 34, 35, 36, 37, 38, 39, 40, 41, 42, 43, 44, 45, 46, 47, 48, 49, 50, 51, 52, 53, 54, 55, 56, 57, 58, 59, 60] (by decide +kernel) (by decide +kernel)
set_option maxRecDepth 20000 in
theorem gX10_breaks_X10_holds : GoodIn wsX10_breaks (wsV RX10 95 RX10 yX10_holds wsX10_holds) := goodIn_app (goodIn_of _ (by decide +kernel)) ggX10_breaks_X10_holds
theorem dX10_breaks_0 : decode cX10_breaks 0 = .ok (.iload_n 1, 1) := by decide +kernel
theorem dX10_breaks_1 : decode cX10_breaks 1 = .ok (.i2l, 1) := by decide +kernel
theorem dX10_breaks_2 : decode cX10_breaks 2 = .ok (.lconst 0, 1) := by decide +kernel
theorem dX10_breaks_3 : decode cX10_breaks 3 = .ok (.ldc2_w 87, 3) := by decide +kernel
theorem dX10_breaks_6 : decode cX10_breaks 6 = .ok (.invokestatic 69, 3) := by decide +kernel
theorem dX10_breaks_9 : decode cX10_breaks 9 = .ok (.ifCond .ne 6, 3) := by decide +kernel
theorem dX10_breaks_12 : decode cX10_breaks 12 = .ok (.bipush (-2), 2) := by decide +kernel
theorem dX10_breaks_14 : decode cX10_breaks 14 = .ok (.ireturn, 1) := by decide +kernel
theorem dX10_breaks_15 : decode cX10_breaks 15 = .ok (.aload_n 0, 1) := by decide +kernel
theorem dX10_breaks_16 : decode cX10_breaks 16 = .ok (.getfield 76, 3) := by decide +kernel
theorem dX10_breaks_19 : decode cX10_breaks 19 = .ok (.istore_n 2, 1) := by decide +kernel
theorem dX10_breaks_20 : decode cX10_breaks 20 = .ok (.iload_n 2, 1) := by decide +kernel
theorem dX10_breaks_21 : decode cX10_breaks 21 = .ok (.aload_n 0, 1) := by decide +kernel
theorem dX10_breaks_22 : decode cX10_breaks 22 = .ok (.getfield 73, 3) := by decide +kernel
theorem dX10_breaks_25 : decode cX10_breaks 25 = .ok (.if_icmp .ge 20, 3) := by decide +kernel
theorem dX10_breaks_28 : decode cX10_breaks 28 = .ok (.aload_n 0, 1) := by decide +kernel
theorem dX10_breaks_29 : decode cX10_breaks 29 = .ok (.iload_n 1, 1) := by decide +kernel
theorem dX10_breaks_30 : decode cX10_breaks 30 = .ok (.iload_n 2, 1) := by decide +kernel
theorem dX10_breaks_31 : decode cX10_breaks 31 = .ok (.invokevirtual 95, 3) := by decide +kernel
theorem dX10_breaks_34 : decode cX10_breaks 34 = .ok (.ifCond .ne 5, 3) := by decide +kernel
theorem dX10_breaks_37 : decode cX10_breaks 37 = .ok (.iload_n 2, 1) := by decide +kernel
theorem dX10_breaks_38 : decode cX10_breaks 38 = .ok (.ireturn, 1) := by decide +kernel
theorem dX10_breaks_39 : decode cX10_breaks 39 = .ok (.iinc 2 1, 3) := by decide +kernel
theorem dX10_breaks_42 : decode cX10_breaks 42 = .ok (.goto (-22), 3) := by decide +kernel
theorem dX10_breaks_45 : decode cX10_breaks 45 = .ok (.iconst (-1), 1) := by decide +kernel
theorem dX10_breaks_46 : decode cX10_breaks 46 = .ok (.ireturn, 1) := by decide +kernel
set_option maxRecDepth 20000 in
theorem ggX10_hasWindow_X10_groundOf : GoodIn wsX10_hasWindow wsX10_groundOf := goodIn_r _ [9, 10, 11, 12, 13, 14, 15, 8, 16, 17, 18, 19, 20, 21, 22, 23, 24, 25, 26, 27, 28, 29, 30, 31, 32, 33, 34, 35, 36, 37, 38, 39, 40, 41, 42, 43, 44, 45, 46, 47, 48, 49, 50, 51, 52, 53, 54, 55, 56] (by decide +kernel) (by decide +kernel)
set_option maxRecDepth 20000 in
theorem gX10_hasWindow_X10_groundOf : GoodIn wsX10_hasWindow (wsV RX10 91 RX10 yX10_groundOf wsX10_groundOf) := goodIn_app (goodIn_of _ (by decide +kernel)) ggX10_hasWindow_X10_groundOf
theorem dX10_hasWindow_0 : decode cX10_hasWindow 0 = .ok (.aload_n 0, 1) := by decide +kernel
theorem dX10_hasWindow_1 : decode cX10_hasWindow 1 = .ok (.iconst 0, 1) := by decide +kernel
theorem dX10_hasWindow_2 : decode cX10_hasWindow 2 = .ok (.putfield 99, 3) := by decide +kernel
theorem dX10_hasWindow_5 : decode cX10_hasWindow 5 = .ok (.aload_n 0, 1) := by decide +kernel
theorem dX10_hasWindow_6 : decode cX10_hasWindow 6 = .ok (.sipush 3000, 3) := by decide +kernel
theorem dX10_hasWindow_9 : decode cX10_hasWindow 9 = .ok (.putfield 102, 3) := by decide +kernel
theorem dX10_hasWindow_12 : decode cX10_hasWindow 12 = .ok (.iload_n 1, 1) := by decide +kernel
theorem dX10_hasWindow_13 : decode cX10_hasWindow 13 = .ok (.istore_n 3, 1) := by decide +kernel
theorem dX10_hasWindow_14 : decode cX10_hasWindow 14 = .ok (.iload_n 3, 1) := by decide +kernel
theorem dX10_hasWindow_15 : decode cX10_hasWindow 15 = .ok (.iload_n 2, 1) := by decide +kernel
theorem dX10_hasWindow_16 : decode cX10_hasWindow 16 = .ok (.if_icmp .gt 79, 3) := by decide +kernel
theorem dX10_hasWindow_19 : decode cX10_hasWindow 19 = .ok (.aload_n 0, 1) := by decide +kernel
theorem dX10_hasWindow_20 : decode cX10_hasWindow 20 = .ok (.iconst 0, 1) := by decide +kernel
theorem dX10_hasWindow_21 : decode cX10_hasWindow 21 = .ok (.iload_n 3, 1) := by decide +kernel
theorem dX10_hasWindow_22 : decode cX10_hasWindow 22 = .ok (.invokevirtual 91, 3) := by decide +kernel
theorem dX10_hasWindow_25 : decode cX10_hasWindow 25 = .ok (.aload_n 0, 1) := by decide +kernel
theorem dX10_hasWindow_26 : decode cX10_hasWindow 26 = .ok (.getfield 81, 3) := by decide +kernel
theorem dX10_hasWindow_29 : decode cX10_hasWindow 29 = .ok (.iadd, 1) := by decide +kernel
theorem dX10_hasWindow_30 : decode cX10_hasWindow 30 = .ok (.istore 4, 2) := by decide +kernel
theorem dX10_hasWindow_32 : decode cX10_hasWindow 32 = .ok (.aload_n 0, 1) := by decide +kernel
theorem dX10_hasWindow_33 : decode cX10_hasWindow 33 = .ok (.iconst 1, 1) := by decide +kernel
theorem dX10_hasWindow_34 : decode cX10_hasWindow 34 = .ok (.iload_n 3, 1) := by decide +kernel
theorem dX10_hasWindow_35 : decode cX10_hasWindow 35 = .ok (.invokevirtual 91, 3) := by decide +kernel
theorem dX10_hasWindow_38 : decode cX10_hasWindow 38 = .ok (.aload_n 0, 1) := by decide +kernel
theorem dX10_hasWindow_39 : decode cX10_hasWindow 39 = .ok (.getfield 84, 3) := by decide +kernel
theorem dX10_hasWindow_42 : decode cX10_hasWindow 42 = .ok (.isub, 1) := by decide +kernel
theorem dX10_hasWindow_43 : decode cX10_hasWindow 43 = .ok (.istore 5, 2) := by decide +kernel
theorem dX10_hasWindow_45 : decode cX10_hasWindow 45 = .ok (.aload_n 0, 1) := by decide +kernel
theorem dX10_hasWindow_46 : decode cX10_hasWindow 46 = .ok (.iload 4, 2) := by decide +kernel
theorem dX10_hasWindow_48 : decode cX10_hasWindow 48 = .ok (.aload_n 0, 1) := by decide +kernel
theorem dX10_hasWindow_49 : decode cX10_hasWindow 49 = .ok (.getfield 99, 3) := by decide +kernel
theorem dX10_hasWindow_52 : decode cX10_hasWindow 52 = .ok (.if_icmp .le 8, 3) := by decide +kernel
theorem dX10_hasWindow_55 : decode cX10_hasWindow 55 = .ok (.iload 4, 2) := by decide +kernel
theorem dX10_hasWindow_57 : decode cX10_hasWindow 57 = .ok (.goto 7, 3) := by decide +kernel
theorem dX10_hasWindow_60 : decode cX10_hasWindow 60 = .ok (.aload_n 0, 1) := by decide +kernel
theorem dX10_hasWindow_61 : decode cX10_hasWindow 61 = .ok (.getfield 99, 3) := by decide +kernel
theorem dX10_hasWindow_64 : decode cX10_hasWindow 64 = .ok (.putfield 99, 3) := by decide +kernel
theorem dX10_hasWindow_67 : decode cX10_hasWindow 67 = .ok (.aload_n 0, 1) := by decide +kernel
theorem dX10_hasWindow_68 : decode cX10_hasWindow 68 = .ok (.iload 5, 2) := by decide +kernel
theorem dX10_hasWindow_70 : decode cX10_hasWindow 70 = .ok (.aload_n 0, 1) := by decide +kernel
theorem dX10_hasWindow_71 : decode cX10_hasWindow 71 = .ok (.getfield 102, 3) := by decide +kernel
theorem dX10_hasWindow_74 : decode cX10_hasWindow 74 = .ok (.if_icmp .ge 8, 3) := by decide +kernel
theorem dX10_hasWindow_77 : decode cX10_hasWindow 77 = .ok (.iload 5, 2) := by decide +kernel
theorem dX10_hasWindow_79 : decode cX10_hasWindow 79 = .ok (.goto 7, 3) := by decide +kernel
theorem dX10_hasWindow_82 : decode cX10_hasWindow 82 = .ok (.aload_n 0, 1) := by decide +kernel
theorem dX10_hasWindow_83 : decode cX10_hasWindow 83 = .ok (.getfield 102, 3) := by decide +kernel
theorem dX10_hasWindow_86 : decode cX10_hasWindow 86 = .ok (.putfield 102, 3) := by decide +kernel
theorem dX10_hasWindow_89 : decode cX10_hasWindow 89 = .ok (.iinc 3 1, 3) := by decide +kernel
theorem dX10_hasWindow_92 : decode cX10_hasWindow 92 = .ok (.goto (-78), 3) := by decide +kernel
theorem dX10_hasWindow_95 : decode cX10_hasWindow 95 = .ok (.aload_n 0, 1) := by decide +kernel
theorem dX10_hasWindow_96 : decode cX10_hasWindow 96 = .ok (.getfield 99, 3) := by decide +kernel
theorem dX10_hasWindow_99 : decode cX10_hasWindow 99 = .ok (.aload_n 0, 1) := by decide +kernel
theorem dX10_hasWindow_100 : decode cX10_hasWindow 100 = .ok (.getfield 102, 3) := by decide +kernel
theorem dX10_hasWindow_103 : decode cX10_hasWindow 103 = .ok (.if_icmp .gt 7, 3) := by decide +kernel
theorem dX10_hasWindow_106 : decode cX10_hasWindow 106 = .ok (.iconst 1, 1) := by decide +kernel
theorem dX10_hasWindow_107 : decode cX10_hasWindow 107 = .ok (.goto 4, 3) := by decide +kernel
theorem dX10_hasWindow_110 : decode cX10_hasWindow 110 = .ok (.iconst 0, 1) := by decide +kernel
theorem dX10_hasWindow_111 : decode cX10_hasWindow 111 = .ok (.ireturn, 1) := by decide +kernel
set_option maxRecDepth 20000 in
theorem ggX10_window_X10_in : GoodIn wsX10_window wsX10_in := goodIn_r _ [7] (by decide +kernel) (by decide +kernel)
set_option maxRecDepth 20000 in
theorem gX10_window_X10_in : GoodIn wsX10_window (va_wsS RX10 69 yX10_in wsX10_in) := goodIn_app (goodIn_of _ (by decide +kernel)) ggX10_window_X10_in
set_option maxRecDepth 20000 in
theorem ggX10_window_X10_hasWindow : GoodIn wsX10_window wsX10_hasWindow := goodIn_r _ [11, 2, 3, 12, 13, 14, 15, 16, 6, 17, 18, 19, 20, 21, 4, 5, 7, 22, 23, 24, 25, 26, 27, 28, 29, 30, 31, 32, 33, 34, 35, 36, 37, 38, 39, 40, 41, 42, 43, 44, 45, 46, 47, 48, 49, 50, 51, 52, 53, 54, 55, 56, 57, 58, 59, 60, 61] (by decide +kernel) (by decide +kernel)
set_option maxRecDepth 20000 in
theorem gX10_window_X10_hasWindow : GoodIn wsX10_window (wsV RX10 105 RX10 yX10_hasWindow wsX10_hasWindow) := goodIn_app (goodIn_of _ (by decide +kernel)) ggX10_window_X10_hasWindow
theorem dX10_window_0 : decode cX10_window 0 = .ok (.iload_n 1, 1) := by decide +kernel
theorem dX10_window_1 : decode cX10_window 1 = .ok (.i2l, 1) := by decide +kernel
theorem dX10_window_2 : decode cX10_window 2 = .ok (.lconst 0, 1) := by decide +kernel
theorem dX10_window_3 : decode cX10_window 3 = .ok (.ldc2_w 89, 3) := by decide +kernel
theorem dX10_window_6 : decode cX10_window 6 = .ok (.invokestatic 69, 3) := by decide +kernel
theorem dX10_window_9 : decode cX10_window 9 = .ok (.ifCond .eq 26, 3) := by decide +kernel
theorem dX10_window_12 : decode cX10_window 12 = .ok (.iload_n 2, 1) := by decide +kernel
theorem dX10_window_13 : decode cX10_window 13 = .ok (.i2l, 1) := by decide +kernel
theorem dX10_window_14 : decode cX10_window 14 = .ok (.iload_n 1, 1) := by decide +kernel
theorem dX10_window_15 : decode cX10_window 15 = .ok (.i2l, 1) := by decide +kernel
theorem dX10_window_16 : decode cX10_window 16 = .ok (.ldc2_w 89, 3) := by decide +kernel
theorem dX10_window_19 : decode cX10_window 19 = .ok (.invokestatic 69, 3) := by decide +kernel
theorem dX10_window_22 : decode cX10_window 22 = .ok (.ifCond .eq 13, 3) := by decide +kernel
theorem dX10_window_25 : decode cX10_window 25 = .ok (.iload_n 3, 1) := by decide +kernel
theorem dX10_window_26 : decode cX10_window 26 = .ok (.i2l, 1) := by decide +kernel
theorem dX10_window_27 : decode cX10_window 27 = .ok (.lconst 0, 1) := by decide +kernel
theorem dX10_window_28 : decode cX10_window 28 = .ok (.lconst 1, 1) := by decide +kernel
theorem dX10_window_29 : decode cX10_window 29 = .ok (.invokestatic 69, 3) := by decide +kernel
theorem dX10_window_32 : decode cX10_window 32 = .ok (.ifCond .ne 6, 3) := by decide +kernel
theorem dX10_window_35 : decode cX10_window 35 = .ok (.bipush (-2), 2) := by decide +kernel
theorem dX10_window_37 : decode cX10_window 37 = .ok (.ireturn, 1) := by decide +kernel
theorem dX10_window_38 : decode cX10_window 38 = .ok (.aload_n 0, 1) := by decide +kernel
theorem dX10_window_39 : decode cX10_window 39 = .ok (.iload_n 1, 1) := by decide +kernel
theorem dX10_window_40 : decode cX10_window 40 = .ok (.iload_n 2, 1) := by decide +kernel
theorem dX10_window_41 : decode cX10_window 41 = .ok (.invokevirtual 105, 3) := by decide +kernel
theorem dX10_window_44 : decode cX10_window 44 = .ok (.ifCond .ne 8, 3) := by decide +kernel
theorem dX10_window_47 : decode cX10_window 47 = .ok (.bipush (-3), 2) := by decide +kernel
theorem dX10_window_49 : decode cX10_window 49 = .ok (.goto 18, 3) := by decide +kernel
theorem dX10_window_52 : decode cX10_window 52 = .ok (.iload_n 3, 1) := by decide +kernel
theorem dX10_window_53 : decode cX10_window 53 = .ok (.ifCond .ne 10, 3) := by decide +kernel
theorem dX10_window_56 : decode cX10_window 56 = .ok (.aload_n 0, 1) := by decide +kernel
theorem dX10_window_57 : decode cX10_window 57 = .ok (.getfield 99, 3) := by decide +kernel
theorem dX10_window_60 : decode cX10_window 60 = .ok (.goto 7, 3) := by decide +kernel
theorem dX10_window_63 : decode cX10_window 63 = .ok (.aload_n 0, 1) := by decide +kernel
theorem dX10_window_64 : decode cX10_window 64 = .ok (.getfield 102, 3) := by decide +kernel
theorem dX10_window_67 : decode cX10_window 67 = .ok (.ireturn, 1) := by decide +kernel
set_option maxRecDepth 20000 in
theorem ggX10_string_X10_in : GoodIn wsX10_string wsX10_in := goodIn_r _ [9] (by decide +kernel) (by decide +kernel)
set_option maxRecDepth 20000 in
theorem gX10_string_X10_in : GoodIn wsX10_string (va_wsS RX10 69 yX10_in wsX10_in) := goodIn_app (goodIn_of _ (by decide +kernel)) ggX10_string_X10_in
theorem dX10_string_0 : decode cX10_string 0 = .ok (.iload_n 1, 1) := by decide +kernel
theorem dX10_string_1 : decode cX10_string 1 = .ok (.i2l, 1) := by decide +kernel
theorem dX10_string_2 : decode cX10_string 2 = .ok (.lconst 1, 1) := by decide +kernel
theorem dX10_string_3 : decode cX10_string 3 = .ok (.ldc2_w 108, 3) := by decide +kernel
theorem dX10_string_6 : decode cX10_string 6 = .ok (.invokestatic 69, 3) := by decide +kernel
theorem dX10_string_9 : decode cX10_string 9 = .ok (.ifCond .eq 15, 3) := by decide +kernel
theorem dX10_string_12 : decode cX10_string 12 = .ok (.iload_n 2, 1) := by decide +kernel
theorem dX10_string_13 : decode cX10_string 13 = .ok (.i2l, 1) := by decide +kernel
theorem dX10_string_14 : decode cX10_string 14 = .ok (.lconst 1, 1) := by decide +kernel
theorem dX10_string_15 : decode cX10_string 15 = .ok (.ldc2_w 67, 3) := by decide +kernel
theorem dX10_string_18 : decode cX10_string 18 = .ok (.invokestatic 69, 3) := by decide +kernel
theorem dX10_string_21 : decode cX10_string 21 = .ok (.ifCond .ne 6, 3) := by decide +kernel
theorem dX10_string_24 : decode cX10_string 24 = .ok (.bipush (-2), 2) := by decide +kernel
theorem dX10_string_26 : decode cX10_string 26 = .ok (.ireturn, 1) := by decide +kernel
theorem dX10_string_27 : decode cX10_string 27 = .ok (.aload_n 0, 1) := by decide +kernel
theorem dX10_string_28 : decode cX10_string 28 = .ok (.getfield 110, 3) := by decide +kernel
theorem dX10_string_31 : decode cX10_string 31 = .ok (.bipush 6, 2) := by decide +kernel
theorem dX10_string_33 : decode cX10_string 33 = .ok (.if_icmp .ne 6, 3) := by decide +kernel
theorem dX10_string_36 : decode cX10_string 36 = .ok (.bipush (-4), 2) := by decide +kernel
theorem dX10_string_38 : decode cX10_string 38 = .ok (.ireturn, 1) := by decide +kernel
theorem dX10_string_39 : decode cX10_string 39 = .ok (.aload_n 0, 1) := by decide +kernel
theorem dX10_string_40 : decode cX10_string 40 = .ok (.getfield 13, 3) := by decide +kernel
theorem dX10_string_43 : decode cX10_string 43 = .ok (.aload_n 0, 1) := by decide +kernel
theorem dX10_string_44 : decode cX10_string 44 = .ok (.getfield 110, 3) := by decide +kernel
theorem dX10_string_47 : decode cX10_string 47 = .ok (.iload_n 1, 1) := by decide +kernel
theorem dX10_string_48 : decode cX10_string 48 = .ok (.iastore, 1) := by decide +kernel
theorem dX10_string_49 : decode cX10_string 49 = .ok (.aload_n 0, 1) := by decide +kernel
theorem dX10_string_50 : decode cX10_string 50 = .ok (.getfield 16, 3) := by decide +kernel
theorem dX10_string_53 : decode cX10_string 53 = .ok (.aload_n 0, 1) := by decide +kernel
theorem dX10_string_54 : decode cX10_string 54 = .ok (.getfield 110, 3) := by decide +kernel
theorem dX10_string_57 : decode cX10_string 57 = .ok (.iload_n 2, 1) := by decide +kernel
theorem dX10_string_58 : decode cX10_string 58 = .ok (.iastore, 1) := by decide +kernel
theorem dX10_string_59 : decode cX10_string 59 = .ok (.aload_n 0, 1) := by decide +kernel
theorem dX10_string_60 : decode cX10_string 60 = .ok (.dup, 1) := by decide +kernel
theorem dX10_string_61 : decode cX10_string 61 = .ok (.getfield 110, 3) := by decide +kernel
theorem dX10_string_64 : decode cX10_string 64 = .ok (.iconst 1, 1) := by decide +kernel
theorem dX10_string_65 : decode cX10_string 65 = .ok (.iadd, 1) := by decide +kernel
theorem dX10_string_66 : decode cX10_string 66 = .ok (.putfield 110, 3) := by decide +kernel
theorem dX10_string_69 : decode cX10_string 69 = .ok (.aload_n 0, 1) := by decide +kernel
theorem dX10_string_70 : decode cX10_string 70 = .ok (.getfield 110, 3) := by decide +kernel
theorem dX10_string_73 : decode cX10_string 73 = .ok (.ireturn, 1) := by decide +kernel
theorem dX10_bare_0 : decode cX10_bare 0 = .ok (.aload_n 0, 1) := by decide +kernel
theorem dX10_bare_1 : decode cX10_bare 1 = .ok (.getfield 110, 3) := by decide +kernel
theorem dX10_bare_4 : decode cX10_bare 4 = .ok (.istore_n 1, 1) := by decide +kernel
theorem dX10_bare_5 : decode cX10_bare 5 = .ok (.aload_n 0, 1) := by decide +kernel
theorem dX10_bare_6 : decode cX10_bare 6 = .ok (.iconst 0, 1) := by decide +kernel
theorem dX10_bare_7 : decode cX10_bare 7 = .ok (.putfield 110, 3) := by decide +kernel
theorem dX10_bare_10 : decode cX10_bare 10 = .ok (.iload_n 1, 1) := by decide +kernel
theorem dX10_bare_11 : decode cX10_bare 11 = .ok (.ireturn, 1) := by decide +kernel
set_option maxRecDepth 20000 in
theorem ggX10_findPlan_X10_hasWindow : GoodIn wsX10_findPlan wsX10_hasWindow := goodIn_r _ [11, 12, 13, 14, 15, 16, 17, 18, 10, 19, 20, 21, 22, 23, 24, 25, 26, 27, 28, 29, 30, 31, 32, 33, 34, 35, 36, 37, 38, 39, 40, 41, 42, 43, 44, 45, 46, 47, 48, 49, 50, 51, 52, 53, 54, 55, 56, 57, 58, 59, 60, 61, 62, 63, 64, 65, 66] (by decide +kernel) (by decide +kernel)
set_option maxRecDepth 20000 in
theorem gX10_findPlan_X10_hasWindow : GoodIn wsX10_findPlan (wsV RX10 105 RX10 yX10_hasWindow wsX10_hasWindow) := goodIn_app (goodIn_of _ (by decide +kernel)) ggX10_findPlan_X10_hasWindow
theorem dX10_findPlan_0 : decode cX10_findPlan 0 = .ok (.iconst 0, 1) := by decide +kernel
theorem dX10_findPlan_1 : decode cX10_findPlan 1 = .ok (.istore_n 2, 1) := by decide +kernel
theorem dX10_findPlan_2 : decode cX10_findPlan 2 = .ok (.iload_n 2, 1) := by decide +kernel
theorem dX10_findPlan_3 : decode cX10_findPlan 3 = .ok (.bipush 51, 2) := by decide +kernel
theorem dX10_findPlan_5 : decode cX10_findPlan 5 = .ok (.if_icmp .ge 24, 3) := by decide +kernel
theorem dX10_findPlan_8 : decode cX10_findPlan 8 = .ok (.aload_n 0, 1) := by decide +kernel
theorem dX10_findPlan_9 : decode cX10_findPlan 9 = .ok (.getfield 19, 3) := by decide +kernel
theorem dX10_findPlan_12 : decode cX10_findPlan 12 = .ok (.bipush 51, 2) := by decide +kernel
theorem dX10_findPlan_14 : decode cX10_findPlan 14 = .ok (.aload_n 0, 1) := by decide +kernel
theorem dX10_findPlan_15 : decode cX10_findPlan 15 = .ok (.getfield 110, 3) := by decide +kernel
theorem dX10_findPlan_18 : decode cX10_findPlan 18 = .ok (.imul, 1) := by decide +kernel
theorem dX10_findPlan_19 : decode cX10_findPlan 19 = .ok (.iload_n 2, 1) := by decide +kernel
theorem dX10_findPlan_20 : decode cX10_findPlan 20 = .ok (.iadd, 1) := by decide +kernel
theorem dX10_findPlan_21 : decode cX10_findPlan 21 = .ok (.iconst (-1), 1) := by decide +kernel
theorem dX10_findPlan_22 : decode cX10_findPlan 22 = .ok (.iastore, 1) := by decide +kernel
theorem dX10_findPlan_23 : decode cX10_findPlan 23 = .ok (.iinc 2 1, 3) := by decide +kernel
theorem dX10_findPlan_26 : decode cX10_findPlan 26 = .ok (.goto (-24), 3) := by decide +kernel
theorem dX10_findPlan_29 : decode cX10_findPlan 29 = .ok (.aload_n 0, 1) := by decide +kernel
theorem dX10_findPlan_30 : decode cX10_findPlan 30 = .ok (.getfield 110, 3) := by decide +kernel
theorem dX10_findPlan_33 : decode cX10_findPlan 33 = .ok (.iconst 1, 1) := by decide +kernel
theorem dX10_findPlan_34 : decode cX10_findPlan 34 = .ok (.isub, 1) := by decide +kernel
theorem dX10_findPlan_35 : decode cX10_findPlan 35 = .ok (.istore_n 2, 1) := by decide +kernel
theorem dX10_findPlan_36 : decode cX10_findPlan 36 = .ok (.iload_n 2, 1) := by decide +kernel
theorem dX10_findPlan_37 : decode cX10_findPlan 37 = .ok (.ifCond .lt 226, 3) := by decide +kernel
theorem dX10_findPlan_40 : decode cX10_findPlan 40 = .ok (.iconst 0, 1) := by decide +kernel
theorem dX10_findPlan_41 : decode cX10_findPlan 41 = .ok (.istore_n 3, 1) := by decide +kernel
theorem dX10_findPlan_42 : decode cX10_findPlan 42 = .ok (.iload_n 3, 1) := by decide +kernel
theorem dX10_findPlan_43 : decode cX10_findPlan 43 = .ok (.iload_n 1, 1) := by decide +kernel
theorem dX10_findPlan_44 : decode cX10_findPlan 44 = .ok (.if_icmp .ge 213, 3) := by decide +kernel
theorem dX10_findPlan_47 : decode cX10_findPlan 47 = .ok (.bipush 51, 2) := by decide +kernel
theorem dX10_findPlan_49 : decode cX10_findPlan 49 = .ok (.iload_n 2, 1) := by decide +kernel
theorem dX10_findPlan_50 : decode cX10_findPlan 50 = .ok (.imul, 1) := by decide +kernel
theorem dX10_findPlan_51 : decode cX10_findPlan 51 = .ok (.iload_n 3, 1) := by decide +kernel
theorem dX10_findPlan_52 : decode cX10_findPlan 52 = .ok (.iadd, 1) := by decide +kernel
theorem dX10_findPlan_53 : decode cX10_findPlan 53 = .ok (.istore 4, 2) := by decide +kernel
theorem dX10_findPlan_55 : decode cX10_findPlan 55 = .ok (.aload_n 0, 1) := by decide +kernel
theorem dX10_findPlan_56 : decode cX10_findPlan 56 = .ok (.getfield 19, 3) := by decide +kernel
theorem dX10_findPlan_59 : decode cX10_findPlan 59 = .ok (.iload 4, 2) := by decide +kernel
theorem dX10_findPlan_61 : decode cX10_findPlan 61 = .ok (.iconst (-1), 1) := by decide +kernel
theorem dX10_findPlan_62 : decode cX10_findPlan 62 = .ok (.iastore, 1) := by decide +kernel
theorem dX10_findPlan_63 : decode cX10_findPlan 63 = .ok (.iload_n 3, 1) := by decide +kernel
theorem dX10_findPlan_64 : decode cX10_findPlan 64 = .ok (.iconst 1, 1) := by decide +kernel
theorem dX10_findPlan_65 : decode cX10_findPlan 65 = .ok (.iadd, 1) := by decide +kernel
theorem dX10_findPlan_66 : decode cX10_findPlan 66 = .ok (.istore 5, 2) := by decide +kernel
theorem dX10_findPlan_68 : decode cX10_findPlan 68 = .ok (.iload 5, 2) := by decide +kernel
theorem dX10_findPlan_70 : decode cX10_findPlan 70 = .ok (.iload_n 1, 1) := by decide +kernel
theorem dX10_findPlan_71 : decode cX10_findPlan 71 = .ok (.if_icmp .gt 180, 3) := by decide +kernel
theorem dX10_findPlan_74 : decode cX10_findPlan 74 = .ok (.iload 5, 2) := by decide +kernel
theorem dX10_findPlan_76 : decode cX10_findPlan 76 = .ok (.aload_n 0, 1) := by decide +kernel
theorem dX10_findPlan_77 : decode cX10_findPlan 77 = .ok (.getfield 16, 3) := by decide +kernel
theorem dX10_findPlan_80 : decode cX10_findPlan 80 = .ok (.iload_n 2, 1) := by decide +kernel
theorem dX10_findPlan_81 : decode cX10_findPlan 81 = .ok (.iaload, 1) := by decide +kernel
theorem dX10_findPlan_82 : decode cX10_findPlan 82 = .ok (.if_icmp .gt 169, 3) := by decide +kernel
theorem dX10_findPlan_85 : decode cX10_findPlan 85 = .ok (.iload 5, 2) := by decide +kernel
theorem dX10_findPlan_87 : decode cX10_findPlan 87 = .ok (.iload_n 1, 1) := by decide +kernel
theorem dX10_findPlan_88 : decode cX10_findPlan 88 = .ok (.if_icmp .ne 7, 3) := by decide +kernel
theorem dX10_findPlan_91 : decode cX10_findPlan 91 = .ok (.iconst 0, 1) := by decide +kernel
theorem dX10_findPlan_92 : decode cX10_findPlan 92 = .ok (.goto 17, 3) := by decide +kernel
theorem dX10_findPlan_95 : decode cX10_findPlan 95 = .ok (.aload_n 0, 1) := by decide +kernel
theorem dX10_findPlan_96 : decode cX10_findPlan 96 = .ok (.getfield 19, 3) := by decide +kernel
theorem dX10_findPlan_99 : decode cX10_findPlan 99 = .ok (.bipush 51, 2) := by decide +kernel
theorem dX10_findPlan_101 : decode cX10_findPlan 101 = .ok (.iload_n 2, 1) := by decide +kernel
theorem dX10_findPlan_102 : decode cX10_findPlan 102 = .ok (.iconst 1, 1) := by decide +kernel
theorem dX10_findPlan_103 : decode cX10_findPlan 103 = .ok (.iadd, 1) := by decide +kernel
theorem dX10_findPlan_104 : decode cX10_findPlan 104 = .ok (.imul, 1) := by decide +kernel
theorem dX10_findPlan_105 : decode cX10_findPlan 105 = .ok (.iload 5, 2) := by decide +kernel
theorem dX10_findPlan_107 : decode cX10_findPlan 107 = .ok (.iadd, 1) := by decide +kernel
theorem dX10_findPlan_108 : decode cX10_findPlan 108 = .ok (.iaload, 1) := by decide +kernel
theorem dX10_findPlan_109 : decode cX10_findPlan 109 = .ok (.istore 6, 2) := by decide +kernel
theorem dX10_findPlan_111 : decode cX10_findPlan 111 = .ok (.iload 6, 2) := by decide +kernel
theorem dX10_findPlan_113 : decode cX10_findPlan 113 = .ok (.iconst (-1), 1) := by decide +kernel
theorem dX10_findPlan_114 : decode cX10_findPlan 114 = .ok (.if_icmp .eq 131, 3) := by decide +kernel
theorem dX10_findPlan_117 : decode cX10_findPlan 117 = .ok (.aload_n 0, 1) := by decide +kernel
theorem dX10_findPlan_118 : decode cX10_findPlan 118 = .ok (.iload_n 3, 1) := by decide +kernel
theorem dX10_findPlan_119 : decode cX10_findPlan 119 = .ok (.iload 5, 2) := by decide +kernel
theorem dX10_findPlan_121 : decode cX10_findPlan 121 = .ok (.iconst 1, 1) := by decide +kernel
theorem dX10_findPlan_122 : decode cX10_findPlan 122 = .ok (.isub, 1) := by decide +kernel
theorem dX10_findPlan_123 : decode cX10_findPlan 123 = .ok (.invokevirtual 105, 3) := by decide +kernel
theorem dX10_findPlan_126 : decode cX10_findPlan 126 = .ok (.ifCond .eq 119, 3) := by decide +kernel
theorem dX10_findPlan_129 : decode cX10_findPlan 129 = .ok (.iload 6, 2) := by decide +kernel
theorem dX10_findPlan_131 : decode cX10_findPlan 131 = .ok (.aload_n 0, 1) := by decide +kernel
theorem dX10_findPlan_132 : decode cX10_findPlan 132 = .ok (.getfield 13, 3) := by decide +kernel
theorem dX10_findPlan_135 : decode cX10_findPlan 135 = .ok (.iload_n 2, 1) := by decide +kernel
theorem dX10_findPlan_136 : decode cX10_findPlan 136 = .ok (.iaload, 1) := by decide +kernel
theorem dX10_findPlan_137 : decode cX10_findPlan 137 = .ok (.iload 5, 2) := by decide +kernel
theorem dX10_findPlan_139 : decode cX10_findPlan 139 = .ok (.imul, 1) := by decide +kernel
theorem dX10_findPlan_140 : decode cX10_findPlan 140 = .ok (.iadd, 1) := by decide +kernel
theorem dX10_findPlan_141 : decode cX10_findPlan 141 = .ok (.istore 7, 2) := by decide +kernel
theorem dX10_findPlan_143 : decode cX10_findPlan 143 = .ok (.iload 5, 2) := by decide +kernel
theorem dX10_findPlan_145 : decode cX10_findPlan 145 = .ok (.iload_n 1, 1) := by decide +kernel
theorem dX10_findPlan_146 : decode cX10_findPlan 146 = .ok (.if_icmp .ne 7, 3) := by decide +kernel
theorem dX10_findPlan_149 : decode cX10_findPlan 149 = .ok (.iconst 1, 1) := by decide +kernel
theorem dX10_findPlan_150 : decode cX10_findPlan 150 = .ok (.goto 19, 3) := by decide +kernel
theorem dX10_findPlan_153 : decode cX10_findPlan 153 = .ok (.iconst 1, 1) := by decide +kernel
theorem dX10_findPlan_154 : decode cX10_findPlan 154 = .ok (.aload_n 0, 1) := by decide +kernel
theorem dX10_findPlan_155 : decode cX10_findPlan 155 = .ok (.getfield 22, 3) := by decide +kernel
theorem dX10_findPlan_158 : decode cX10_findPlan 158 = .ok (.bipush 51, 2) := by decide +kernel
theorem dX10_findPlan_160 : decode cX10_findPlan 160 = .ok (.iload_n 2, 1) := by decide +kernel
theorem dX10_findPlan_161 : decode cX10_findPlan 161 = .ok (.iconst 1, 1) := by decide +kernel
theorem dX10_findPlan_162 : decode cX10_findPlan 162 = .ok (.iadd, 1) := by decide +kernel
theorem dX10_findPlan_163 : decode cX10_findPlan 163 = .ok (.imul, 1) := by decide +kernel
theorem dX10_findPlan_164 : decode cX10_findPlan 164 = .ok (.iload 5, 2) := by decide +kernel
theorem dX10_findPlan_166 : decode cX10_findPlan 166 = .ok (.iadd, 1) := by decide +kernel
theorem dX10_findPlan_167 : decode cX10_findPlan 167 = .ok (.iaload, 1) := by decide +kernel
theorem dX10_findPlan_168 : decode cX10_findPlan 168 = .ok (.iadd, 1) := by decide +kernel
theorem dX10_findPlan_169 : decode cX10_findPlan 169 = .ok (.istore 8, 2) := by decide +kernel
theorem dX10_findPlan_171 : decode cX10_findPlan 171 = .ok (.aload_n 0, 1) := by decide +kernel
theorem dX10_findPlan_172 : decode cX10_findPlan 172 = .ok (.getfield 19, 3) := by decide +kernel
theorem dX10_findPlan_175 : decode cX10_findPlan 175 = .ok (.iload 4, 2) := by decide +kernel
theorem dX10_findPlan_177 : decode cX10_findPlan 177 = .ok (.iaload, 1) := by decide +kernel
theorem dX10_findPlan_178 : decode cX10_findPlan 178 = .ok (.iconst (-1), 1) := by decide +kernel
theorem dX10_findPlan_179 : decode cX10_findPlan 179 = .ok (.if_icmp .eq 39, 3) := by decide +kernel
theorem dX10_findPlan_182 : decode cX10_findPlan 182 = .ok (.iload 7, 2) := by decide +kernel
theorem dX10_findPlan_184 : decode cX10_findPlan 184 = .ok (.aload_n 0, 1) := by decide +kernel
theorem dX10_findPlan_185 : decode cX10_findPlan 185 = .ok (.getfield 19, 3) := by decide +kernel
theorem dX10_findPlan_188 : decode cX10_findPlan 188 = .ok (.iload 4, 2) := by decide +kernel
theorem dX10_findPlan_190 : decode cX10_findPlan 190 = .ok (.iaload, 1) := by decide +kernel
theorem dX10_findPlan_191 : decode cX10_findPlan 191 = .ok (.if_icmp .lt 27, 3) := by decide +kernel
theorem dX10_findPlan_194 : decode cX10_findPlan 194 = .ok (.iload 7, 2) := by decide +kernel
theorem dX10_findPlan_196 : decode cX10_findPlan 196 = .ok (.aload_n 0, 1) := by decide +kernel
theorem dX10_findPlan_197 : decode cX10_findPlan 197 = .ok (.getfield 19, 3) := by decide +kernel
theorem dX10_findPlan_200 : decode cX10_findPlan 200 = .ok (.iload 4, 2) := by decide +kernel
theorem dX10_findPlan_202 : decode cX10_findPlan 202 = .ok (.iaload, 1) := by decide +kernel
theorem dX10_findPlan_203 : decode cX10_findPlan 203 = .ok (.if_icmp .ne 42, 3) := by decide +kernel
theorem dX10_findPlan_206 : decode cX10_findPlan 206 = .ok (.iload 8, 2) := by decide +kernel
theorem dX10_findPlan_208 : decode cX10_findPlan 208 = .ok (.aload_n 0, 1) := by decide +kernel
theorem dX10_findPlan_209 : decode cX10_findPlan 209 = .ok (.getfield 22, 3) := by decide +kernel
theorem dX10_findPlan_212 : decode cX10_findPlan 212 = .ok (.iload 4, 2) := by decide +kernel
theorem dX10_findPlan_214 : decode cX10_findPlan 214 = .ok (.iaload, 1) := by decide +kernel
theorem dX10_findPlan_215 : decode cX10_findPlan 215 = .ok (.if_icmp .ge 30, 3) := by decide +kernel
theorem dX10_findPlan_218 : decode cX10_findPlan 218 = .ok (.aload_n 0, 1) := by decide +kernel
theorem dX10_findPlan_219 : decode cX10_findPlan 219 = .ok (.getfield 19, 3) := by decide +kernel
theorem dX10_findPlan_222 : decode cX10_findPlan 222 = .ok (.iload 4, 2) := by decide +kernel
theorem dX10_findPlan_224 : decode cX10_findPlan 224 = .ok (.iload 7, 2) := by decide +kernel
theorem dX10_findPlan_226 : decode cX10_findPlan 226 = .ok (.iastore, 1) := by decide +kernel
theorem dX10_findPlan_227 : decode cX10_findPlan 227 = .ok (.aload_n 0, 1) := by decide +kernel
theorem dX10_findPlan_228 : decode cX10_findPlan 228 = .ok (.getfield 22, 3) := by decide +kernel
theorem dX10_findPlan_231 : decode cX10_findPlan 231 = .ok (.iload 4, 2) := by decide +kernel
theorem dX10_findPlan_233 : decode cX10_findPlan 233 = .ok (.iload 8, 2) := by decide +kernel
theorem dX10_findPlan_235 : decode cX10_findPlan 235 = .ok (.iastore, 1) := by decide +kernel
theorem dX10_findPlan_236 : decode cX10_findPlan 236 = .ok (.aload_n 0, 1) := by decide +kernel
theorem dX10_findPlan_237 : decode cX10_findPlan 237 = .ok (.getfield 25, 3) := by decide +kernel
theorem dX10_findPlan_240 : decode cX10_findPlan 240 = .ok (.iload 4, 2) := by decide +kernel
theorem dX10_findPlan_242 : decode cX10_findPlan 242 = .ok (.iload 5, 2) := by decide +kernel
theorem dX10_findPlan_244 : decode cX10_findPlan 244 = .ok (.iastore, 1) := by decide +kernel
theorem dX10_findPlan_245 : decode cX10_findPlan 245 = .ok (.iinc 5 1, 3) := by decide +kernel
theorem dX10_findPlan_248 : decode cX10_findPlan 248 = .ok (.goto (-180), 3) := by decide +kernel
theorem dX10_findPlan_251 : decode cX10_findPlan 251 = .ok (.iinc 3 1, 3) := by decide +kernel
theorem dX10_findPlan_254 : decode cX10_findPlan 254 = .ok (.goto (-212), 3) := by decide +kernel
theorem dX10_findPlan_257 : decode cX10_findPlan 257 = .ok (.iinc 2 (-1), 3) := by decide +kernel
theorem dX10_findPlan_260 : decode cX10_findPlan 260 = .ok (.goto (-224), 3) := by decide +kernel
theorem dX10_findPlan_263 : decode cX10_findPlan 263 = .ok (.aload_n 0, 1) := by decide +kernel
theorem dX10_findPlan_264 : decode cX10_findPlan 264 = .ok (.getfield 110, 3) := by decide +kernel
theorem dX10_findPlan_267 : decode cX10_findPlan 267 = .ok (.ifCond .ne 7, 3) := by decide +kernel
theorem dX10_findPlan_270 : decode cX10_findPlan 270 = .ok (.iconst (-1), 1) := by decide +kernel
theorem dX10_findPlan_271 : decode cX10_findPlan 271 = .ok (.goto 9, 3) := by decide +kernel
theorem dX10_findPlan_274 : decode cX10_findPlan 274 = .ok (.aload_n 0, 1) := by decide +kernel
theorem dX10_findPlan_275 : decode cX10_findPlan 275 = .ok (.getfield 19, 3) := by decide +kernel
theorem dX10_findPlan_278 : decode cX10_findPlan 278 = .ok (.iconst 0, 1) := by decide +kernel
theorem dX10_findPlan_279 : decode cX10_findPlan 279 = .ok (.iaload, 1) := by decide +kernel
theorem dX10_findPlan_280 : decode cX10_findPlan 280 = .ok (.ireturn, 1) := by decide +kernel
set_option maxRecDepth 20000 in
theorem ggX10_plan_X10_in : GoodIn wsX10_plan wsX10_in := goodIn_r _ [5] (by decide +kernel) (by decide +kernel)
set_option maxRecDepth 20000 in
theorem gX10_plan_X10_in : GoodIn wsX10_plan (va_wsS RX10 69 yX10_in wsX10_in) := goodIn_app (goodIn_of _ (by decide +kernel)) ggX10_plan_X10_in
set_option maxRecDepth 20000 in
theorem ggX10_plan_X10_findPlan : GoodIn wsX10_plan wsX10_findPlan := goodIn_r _ [9, 10, 11, 12, 13, 14, 15, 16, 17, 18, 4, 19, 20, 21, 22, 23, 24, 25, 26, 27, 28, 29, 30, 31, 2, 3, 5, 32, 33, 34, 35, 36, 37, 38, 39, 40, 41, 42, 43, 44, 45, 46, 47, 48, 49, 50, 51, 52, 53, 54, 55, 56, 57, 58, 59, 60, 61, 62, 63, 64, 65, 66, 67, 68, 69, 70, 71] (by decide +kernel) (by decide +kernel)
set_option maxRecDepth 20000 in
theorem gX10_plan_X10_findPlan : GoodIn wsX10_plan (wsV RX10 113 RX10 yX10_findPlan wsX10_findPlan) := goodIn_app (goodIn_of _ (by decide +kernel)) ggX10_plan_X10_findPlan
theorem dX10_plan_0 : decode cX10_plan 0 = .ok (.iload_n 1, 1) := by decide +kernel
theorem dX10_plan_1 : decode cX10_plan 1 = .ok (.i2l, 1) := by decide +kernel
theorem dX10_plan_2 : decode cX10_plan 2 = .ok (.lconst 1, 1) := by decide +kernel
theorem dX10_plan_3 : decode cX10_plan 3 = .ok (.ldc2_w 67, 3) := by decide +kernel
theorem dX10_plan_6 : decode cX10_plan 6 = .ok (.invokestatic 69, 3) := by decide +kernel
theorem dX10_plan_9 : decode cX10_plan 9 = .ok (.ifCond .ne 6, 3) := by decide +kernel
theorem dX10_plan_12 : decode cX10_plan 12 = .ok (.bipush (-2), 2) := by decide +kernel
theorem dX10_plan_14 : decode cX10_plan 14 = .ok (.ireturn, 1) := by decide +kernel
theorem dX10_plan_15 : decode cX10_plan 15 = .ok (.aload_n 0, 1) := by decide +kernel
theorem dX10_plan_16 : decode cX10_plan 16 = .ok (.iload_n 1, 1) := by decide +kernel
theorem dX10_plan_17 : decode cX10_plan 17 = .ok (.invokevirtual 113, 3) := by decide +kernel
theorem dX10_plan_20 : decode cX10_plan 20 = .ok (.istore_n 2, 1) := by decide +kernel
theorem dX10_plan_21 : decode cX10_plan 21 = .ok (.iload_n 2, 1) := by decide +kernel
theorem dX10_plan_22 : decode cX10_plan 22 = .ok (.iconst (-1), 1) := by decide +kernel
theorem dX10_plan_23 : decode cX10_plan 23 = .ok (.if_icmp .ne 8, 3) := by decide +kernel
theorem dX10_plan_26 : decode cX10_plan 26 = .ok (.bipush (-3), 2) := by decide +kernel
theorem dX10_plan_28 : decode cX10_plan 28 = .ok (.goto 4, 3) := by decide +kernel
theorem dX10_plan_31 : decode cX10_plan 31 = .ok (.iload_n 2, 1) := by decide +kernel
theorem dX10_plan_32 : decode cX10_plan 32 = .ok (.ireturn, 1) := by decide +kernel
set_option maxRecDepth 20000 in
theorem ggX10_shoe_X10_in : GoodIn wsX10_shoe wsX10_in := goodIn_r _ [7] (by decide +kernel) (by decide +kernel)
set_option maxRecDepth 20000 in
theorem gX10_shoe_X10_in : GoodIn wsX10_shoe (va_wsS RX10 69 yX10_in wsX10_in) := goodIn_app (goodIn_of _ (by decide +kernel)) ggX10_shoe_X10_in
set_option maxRecDepth 20000 in
theorem ggX10_shoe_X10_findPlan : GoodIn wsX10_shoe wsX10_findPlan := goodIn_r _ [11, 12, 13, 14, 15, 2, 3, 16, 17, 18, 6, 19, 20, 21, 22, 23, 24, 25, 26, 27, 28, 29, 30, 31, 4, 5, 7, 32, 33, 34, 35, 36, 37, 38, 39, 40, 41, 42, 43, 44, 45, 46, 47, 48, 49, 50, 51, 52, 53, 54, 55, 56, 57, 58, 59, 60, 61, 62, 63, 64, 65, 66, 67, 68, 69, 70, 71] (by decide +kernel) (by decide +kernel)
set_option maxRecDepth 20000 in
theorem gX10_shoe_X10_findPlan : GoodIn wsX10_shoe (wsV RX10 113 RX10 yX10_findPlan wsX10_findPlan) := goodIn_app (goodIn_of _ (by decide +kernel)) ggX10_shoe_X10_findPlan
theorem dX10_shoe_0 : decode cX10_shoe 0 = .ok (.iload_n 1, 1) := by decide +kernel
theorem dX10_shoe_1 : decode cX10_shoe 1 = .ok (.i2l, 1) := by decide +kernel
theorem dX10_shoe_2 : decode cX10_shoe 2 = .ok (.lconst 1, 1) := by decide +kernel
theorem dX10_shoe_3 : decode cX10_shoe 3 = .ok (.ldc2_w 67, 3) := by decide +kernel
theorem dX10_shoe_6 : decode cX10_shoe 6 = .ok (.invokestatic 69, 3) := by decide +kernel
theorem dX10_shoe_9 : decode cX10_shoe 9 = .ok (.ifCond .eq 7, 3) := by decide +kernel
theorem dX10_shoe_12 : decode cX10_shoe 12 = .ok (.iload_n 2, 1) := by decide +kernel
theorem dX10_shoe_13 : decode cX10_shoe 13 = .ok (.ifCond .ge 6, 3) := by decide +kernel
theorem dX10_shoe_16 : decode cX10_shoe 16 = .ok (.bipush (-2), 2) := by decide +kernel
theorem dX10_shoe_18 : decode cX10_shoe 18 = .ok (.ireturn, 1) := by decide +kernel
theorem dX10_shoe_19 : decode cX10_shoe 19 = .ok (.aload_n 0, 1) := by decide +kernel
theorem dX10_shoe_20 : decode cX10_shoe 20 = .ok (.iload_n 1, 1) := by decide +kernel
theorem dX10_shoe_21 : decode cX10_shoe 21 = .ok (.invokevirtual 113, 3) := by decide +kernel
theorem dX10_shoe_24 : decode cX10_shoe 24 = .ok (.iconst (-1), 1) := by decide +kernel
theorem dX10_shoe_25 : decode cX10_shoe 25 = .ok (.if_icmp .ne 6, 3) := by decide +kernel
theorem dX10_shoe_28 : decode cX10_shoe 28 = .ok (.bipush (-3), 2) := by decide +kernel
theorem dX10_shoe_30 : decode cX10_shoe 30 = .ok (.ireturn, 1) := by decide +kernel
theorem dX10_shoe_31 : decode cX10_shoe 31 = .ok (.iload_n 2, 1) := by decide +kernel
theorem dX10_shoe_32 : decode cX10_shoe 32 = .ok (.aload_n 0, 1) := by decide +kernel
theorem dX10_shoe_33 : decode cX10_shoe 33 = .ok (.getfield 22, 3) := by decide +kernel
theorem dX10_shoe_36 : decode cX10_shoe 36 = .ok (.iconst 0, 1) := by decide +kernel
theorem dX10_shoe_37 : decode cX10_shoe 37 = .ok (.iaload, 1) := by decide +kernel
theorem dX10_shoe_38 : decode cX10_shoe 38 = .ok (.if_icmp .lt 6, 3) := by decide +kernel
theorem dX10_shoe_41 : decode cX10_shoe 41 = .ok (.bipush (-2), 2) := by decide +kernel
theorem dX10_shoe_43 : decode cX10_shoe 43 = .ok (.ireturn, 1) := by decide +kernel
theorem dX10_shoe_44 : decode cX10_shoe 44 = .ok (.iconst 0, 1) := by decide +kernel
theorem dX10_shoe_45 : decode cX10_shoe 45 = .ok (.istore_n 3, 1) := by decide +kernel
theorem dX10_shoe_46 : decode cX10_shoe 46 = .ok (.iconst 0, 1) := by decide +kernel
theorem dX10_shoe_47 : decode cX10_shoe 47 = .ok (.istore 4, 2) := by decide +kernel
theorem dX10_shoe_49 : decode cX10_shoe 49 = .ok (.iload 4, 2) := by decide +kernel
theorem dX10_shoe_51 : decode cX10_shoe 51 = .ok (.iload_n 2, 1) := by decide +kernel
theorem dX10_shoe_52 : decode cX10_shoe 52 = .ok (.if_icmp .gt 22, 3) := by decide +kernel
theorem dX10_shoe_55 : decode cX10_shoe 55 = .ok (.aload_n 0, 1) := by decide +kernel
theorem dX10_shoe_56 : decode cX10_shoe 56 = .ok (.getfield 25, 3) := by decide +kernel
theorem dX10_shoe_59 : decode cX10_shoe 59 = .ok (.bipush 51, 2) := by decide +kernel
theorem dX10_shoe_61 : decode cX10_shoe 61 = .ok (.iload 4, 2) := by decide +kernel
theorem dX10_shoe_63 : decode cX10_shoe 63 = .ok (.imul, 1) := by decide +kernel
theorem dX10_shoe_64 : decode cX10_shoe 64 = .ok (.iload_n 3, 1) := by decide +kernel
theorem dX10_shoe_65 : decode cX10_shoe 65 = .ok (.iadd, 1) := by decide +kernel
theorem dX10_shoe_66 : decode cX10_shoe 66 = .ok (.iaload, 1) := by decide +kernel
theorem dX10_shoe_67 : decode cX10_shoe 67 = .ok (.istore_n 3, 1) := by decide +kernel
theorem dX10_shoe_68 : decode cX10_shoe 68 = .ok (.iinc 4 1, 3) := by decide +kernel
theorem dX10_shoe_71 : decode cX10_shoe 71 = .ok (.goto (-22), 3) := by decide +kernel
theorem dX10_shoe_74 : decode cX10_shoe 74 = .ok (.iload_n 3, 1) := by decide +kernel
theorem dX10_shoe_75 : decode cX10_shoe 75 = .ok (.ireturn, 1) := by decide +kernel
set_option maxRecDepth 20000 in
theorem ggX10_cap_X10_in : GoodIn wsX10_cap wsX10_in := goodIn_r _ [6] (by decide +kernel) (by decide +kernel)
set_option maxRecDepth 20000 in
theorem gX10_cap_X10_in : GoodIn wsX10_cap (va_wsS RX10 69 yX10_in wsX10_in) := goodIn_app (goodIn_of _ (by decide +kernel)) ggX10_cap_X10_in
theorem dX10_cap_0 : decode cX10_cap 0 = .ok (.iload_n 1, 1) := by decide +kernel
theorem dX10_cap_1 : decode cX10_cap 1 = .ok (.i2l, 1) := by decide +kernel
theorem dX10_cap_2 : decode cX10_cap 2 = .ok (.lconst 1, 1) := by decide +kernel
theorem dX10_cap_3 : decode cX10_cap 3 = .ok (.ldc2_w 108, 3) := by decide +kernel
theorem dX10_cap_6 : decode cX10_cap 6 = .ok (.invokestatic 69, 3) := by decide +kernel
theorem dX10_cap_9 : decode cX10_cap 9 = .ok (.ifCond .ne 6, 3) := by decide +kernel
theorem dX10_cap_12 : decode cX10_cap 12 = .ok (.bipush (-2), 2) := by decide +kernel
theorem dX10_cap_14 : decode cX10_cap 14 = .ok (.ireturn, 1) := by decide +kernel
theorem dX10_cap_15 : decode cX10_cap 15 = .ok (.aload_n 0, 1) := by decide +kernel
theorem dX10_cap_16 : decode cX10_cap 16 = .ok (.getfield 28, 3) := by decide +kernel
theorem dX10_cap_19 : decode cX10_cap 19 = .ok (.istore_n 2, 1) := by decide +kernel
theorem dX10_cap_20 : decode cX10_cap 20 = .ok (.aload_n 0, 1) := by decide +kernel
theorem dX10_cap_21 : decode cX10_cap 21 = .ok (.iload_n 1, 1) := by decide +kernel
theorem dX10_cap_22 : decode cX10_cap 22 = .ok (.putfield 28, 3) := by decide +kernel
theorem dX10_cap_25 : decode cX10_cap 25 = .ok (.iload_n 2, 1) := by decide +kernel
theorem dX10_cap_26 : decode cX10_cap 26 = .ok (.ireturn, 1) := by decide +kernel
theorem dX10_look_0 : decode cX10_look 0 = .ok (.iload_n 3, 1) := by decide +kernel
theorem dX10_look_1 : decode cX10_look 1 = .ok (.i2l, 1) := by decide +kernel
theorem dX10_look_2 : decode cX10_look 2 = .ok (.aload_n 0, 1) := by decide +kernel
theorem dX10_look_3 : decode cX10_look 3 = .ok (.getfield 73, 3) := by decide +kernel
theorem dX10_look_6 : decode cX10_look 6 = .ok (.i2l, 1) := by decide +kernel
theorem dX10_look_7 : decode cX10_look 7 = .ok (.lmul, 1) := by decide +kernel
theorem dX10_look_8 : decode cX10_look 8 = .ok (.lstore 5, 2) := by decide +kernel
theorem dX10_look_10 : decode cX10_look 10 = .ok (.aload_n 0, 1) := by decide +kernel
theorem dX10_look_11 : decode cX10_look 11 = .ok (.lload 5, 2) := by decide +kernel
theorem dX10_look_13 : decode cX10_look 13 = .ok (.iload 4, 2) := by decide +kernel
theorem dX10_look_15 : decode cX10_look 15 = .ok (.i2l, 1) := by decide +kernel
theorem dX10_look_16 : decode cX10_look 16 = .ok (.aload_n 0, 1) := by decide +kernel
theorem dX10_look_17 : decode cX10_look 17 = .ok (.getfield 73, 3) := by decide +kernel
theorem dX10_look_20 : decode cX10_look 20 = .ok (.iload_n 1, 1) := by decide +kernel
theorem dX10_look_21 : decode cX10_look 21 = .ok (.isub, 1) := by decide +kernel
theorem dX10_look_22 : decode cX10_look 22 = .ok (.i2l, 1) := by decide +kernel
theorem dX10_look_23 : decode cX10_look 23 = .ok (.lmul, 1) := by decide +kernel
theorem dX10_look_24 : decode cX10_look 24 = .ok (.lsub, 1) := by decide +kernel
theorem dX10_look_25 : decode cX10_look 25 = .ok (.putfield 117, 3) := by decide +kernel
theorem dX10_look_28 : decode cX10_look 28 = .ok (.aload_n 0, 1) := by decide +kernel
theorem dX10_look_29 : decode cX10_look 29 = .ok (.aload_n 0, 1) := by decide +kernel
theorem dX10_look_30 : decode cX10_look 30 = .ok (.getfield 117, 3) := by decide +kernel
theorem dX10_look_33 : decode cX10_look 33 = .ok (.lconst 1, 1) := by decide +kernel
theorem dX10_look_34 : decode cX10_look 34 = .ok (.lcmp, 1) := by decide +kernel
theorem dX10_look_35 : decode cX10_look 35 = .ok (.ifCond .ge 7, 3) := by decide +kernel
theorem dX10_look_38 : decode cX10_look 38 = .ok (.lconst 1, 1) := by decide +kernel
theorem dX10_look_39 : decode cX10_look 39 = .ok (.goto 7, 3) := by decide +kernel
theorem dX10_look_42 : decode cX10_look 42 = .ok (.aload_n 0, 1) := by decide +kernel
theorem dX10_look_43 : decode cX10_look 43 = .ok (.getfield 117, 3) := by decide +kernel
theorem dX10_look_46 : decode cX10_look 46 = .ok (.putfield 117, 3) := by decide +kernel
theorem dX10_look_49 : decode cX10_look 49 = .ok (.aload_n 0, 1) := by decide +kernel
theorem dX10_look_50 : decode cX10_look 50 = .ok (.iload_n 2, 1) := by decide +kernel
theorem dX10_look_51 : decode cX10_look 51 = .ok (.i2l, 1) := by decide +kernel
theorem dX10_look_52 : decode cX10_look 52 = .ok (.lload 5, 2) := by decide +kernel
theorem dX10_look_54 : decode cX10_look 54 = .ok (.lmul, 1) := by decide +kernel
theorem dX10_look_55 : decode cX10_look 55 = .ok (.aload_n 0, 1) := by decide +kernel
theorem dX10_look_56 : decode cX10_look 56 = .ok (.getfield 117, 3) := by decide +kernel
theorem dX10_look_59 : decode cX10_look 59 = .ok (.ldiv, 1) := by decide +kernel
theorem dX10_look_60 : decode cX10_look 60 = .ok (.putfield 121, 3) := by decide +kernel
theorem dX10_look_63 : decode cX10_look 63 = .ok (.aload_n 0, 1) := by decide +kernel
theorem dX10_look_64 : decode cX10_look 64 = .ok (.aload_n 0, 1) := by decide +kernel
theorem dX10_look_65 : decode cX10_look 65 = .ok (.getfield 121, 3) := by decide +kernel
theorem dX10_look_68 : decode cX10_look 68 = .ok (.aload_n 0, 1) := by decide +kernel
theorem dX10_look_69 : decode cX10_look 69 = .ok (.getfield 28, 3) := by decide +kernel
theorem dX10_look_72 : decode cX10_look 72 = .ok (.i2l, 1) := by decide +kernel
theorem dX10_look_73 : decode cX10_look 73 = .ok (.ldiv, 1) := by decide +kernel
theorem dX10_look_74 : decode cX10_look 74 = .ok (.putfield 124, 3) := by decide +kernel
theorem dX10_look_77 : decode cX10_look 77 = .ok (.aload_n 0, 1) := by decide +kernel
theorem dX10_look_78 : decode cX10_look 78 = .ok (.aload_n 0, 1) := by decide +kernel
theorem dX10_look_79 : decode cX10_look 79 = .ok (.getfield 124, 3) := by decide +kernel
theorem dX10_look_82 : decode cX10_look 82 = .ok (.iload_n 1, 1) := by decide +kernel
theorem dX10_look_83 : decode cX10_look 83 = .ok (.i2l, 1) := by decide +kernel
theorem dX10_look_84 : decode cX10_look 84 = .ok (.lcmp, 1) := by decide +kernel
theorem dX10_look_85 : decode cX10_look 85 = .ok (.ifCond .le 8, 3) := by decide +kernel
theorem dX10_look_88 : decode cX10_look 88 = .ok (.iload_n 1, 1) := by decide +kernel
theorem dX10_look_89 : decode cX10_look 89 = .ok (.i2l, 1) := by decide +kernel
theorem dX10_look_90 : decode cX10_look 90 = .ok (.goto 7, 3) := by decide +kernel
theorem dX10_look_93 : decode cX10_look 93 = .ok (.aload_n 0, 1) := by decide +kernel
theorem dX10_look_94 : decode cX10_look 94 = .ok (.getfield 124, 3) := by decide +kernel
theorem dX10_look_97 : decode cX10_look 97 = .ok (.putfield 124, 3) := by decide +kernel
theorem dX10_look_100 : decode cX10_look 100 = .ok (.aload_n 0, 1) := by decide +kernel
theorem dX10_look_101 : decode cX10_look 101 = .ok (.aload_n 0, 1) := by decide +kernel
theorem dX10_look_102 : decode cX10_look 102 = .ok (.getfield 117, 3) := by decide +kernel
theorem dX10_look_105 : decode cX10_look 105 = .ok (.iload 4, 2) := by decide +kernel
theorem dX10_look_107 : decode cX10_look 107 = .ok (.i2l, 1) := by decide +kernel
theorem dX10_look_108 : decode cX10_look 108 = .ok (.iload_n 1, 1) := by decide +kernel
theorem dX10_look_109 : decode cX10_look 109 = .ok (.i2l, 1) := by decide +kernel
theorem dX10_look_110 : decode cX10_look 110 = .ok (.aload_n 0, 1) := by decide +kernel
theorem dX10_look_111 : decode cX10_look 111 = .ok (.getfield 124, 3) := by decide +kernel
theorem dX10_look_114 : decode cX10_look 114 = .ok (.lsub, 1) := by decide +kernel
theorem dX10_look_115 : decode cX10_look 115 = .ok (.lmul, 1) := by decide +kernel
theorem dX10_look_116 : decode cX10_look 116 = .ok (.lsub, 1) := by decide +kernel
theorem dX10_look_117 : decode cX10_look 117 = .ok (.putfield 127, 3) := by decide +kernel
theorem dX10_look_120 : decode cX10_look 120 = .ok (.aload_n 0, 1) := by decide +kernel
theorem dX10_look_121 : decode cX10_look 121 = .ok (.aload_n 0, 1) := by decide +kernel
theorem dX10_look_122 : decode cX10_look 122 = .ok (.getfield 127, 3) := by decide +kernel
theorem dX10_look_125 : decode cX10_look 125 = .ok (.lconst 0, 1) := by decide +kernel
theorem dX10_look_126 : decode cX10_look 126 = .ok (.lcmp, 1) := by decide +kernel
theorem dX10_look_127 : decode cX10_look 127 = .ok (.ifCond .ge 7, 3) := by decide +kernel
theorem dX10_look_130 : decode cX10_look 130 = .ok (.lconst 0, 1) := by decide +kernel
theorem dX10_look_131 : decode cX10_look 131 = .ok (.goto 7, 3) := by decide +kernel
theorem dX10_look_134 : decode cX10_look 134 = .ok (.aload_n 0, 1) := by decide +kernel
theorem dX10_look_135 : decode cX10_look 135 = .ok (.getfield 127, 3) := by decide +kernel
theorem dX10_look_138 : decode cX10_look 138 = .ok (.putfield 127, 3) := by decide +kernel
theorem dX10_look_141 : decode cX10_look 141 = .ok (.aload_n 0, 1) := by decide +kernel
theorem dX10_look_142 : decode cX10_look 142 = .ok (.aload_n 0, 1) := by decide +kernel
theorem dX10_look_143 : decode cX10_look 143 = .ok (.getfield 76, 3) := by decide +kernel
theorem dX10_look_146 : decode cX10_look 146 = .ok (.i2l, 1) := by decide +kernel
theorem dX10_look_147 : decode cX10_look 147 = .ok (.iload_n 1, 1) := by decide +kernel
theorem dX10_look_148 : decode cX10_look 148 = .ok (.i2l, 1) := by decide +kernel
theorem dX10_look_149 : decode cX10_look 149 = .ok (.aload_n 0, 1) := by decide +kernel
theorem dX10_look_150 : decode cX10_look 150 = .ok (.getfield 124, 3) := by decide +kernel
theorem dX10_look_153 : decode cX10_look 153 = .ok (.lsub, 1) := by decide +kernel
theorem dX10_look_154 : decode cX10_look 154 = .ok (.lcmp, 1) := by decide +kernel
theorem dX10_look_155 : decode cX10_look 155 = .ok (.ifCond .gt 20, 3) := by decide +kernel
theorem dX10_look_158 : decode cX10_look 158 = .ok (.aload_n 0, 1) := by decide +kernel
theorem dX10_look_159 : decode cX10_look 159 = .ok (.getfield 127, 3) := by decide +kernel
theorem dX10_look_162 : decode cX10_look 162 = .ok (.iload 4, 2) := by decide +kernel
theorem dX10_look_164 : decode cX10_look 164 = .ok (.i2l, 1) := by decide +kernel
theorem dX10_look_165 : decode cX10_look 165 = .ok (.aload_n 0, 1) := by decide +kernel
theorem dX10_look_166 : decode cX10_look 166 = .ok (.getfield 76, 3) := by decide +kernel
theorem dX10_look_169 : decode cX10_look 169 = .ok (.i2l, 1) := by decide +kernel
theorem dX10_look_170 : decode cX10_look 170 = .ok (.lmul, 1) := by decide +kernel
theorem dX10_look_171 : decode cX10_look 171 = .ok (.ladd, 1) := by decide +kernel
theorem dX10_look_172 : decode cX10_look 172 = .ok (.goto 35, 3) := by decide +kernel
theorem dX10_look_175 : decode cX10_look 175 = .ok (.aload_n 0, 1) := by decide +kernel
theorem dX10_look_176 : decode cX10_look 176 = .ok (.getfield 76, 3) := by decide +kernel
theorem dX10_look_179 : decode cX10_look 179 = .ok (.iload_n 1, 1) := by decide +kernel
theorem dX10_look_180 : decode cX10_look 180 = .ok (.if_icmp .gt 10, 3) := by decide +kernel
theorem dX10_look_183 : decode cX10_look 183 = .ok (.aload_n 0, 1) := by decide +kernel
theorem dX10_look_184 : decode cX10_look 184 = .ok (.getfield 117, 3) := by decide +kernel
theorem dX10_look_187 : decode cX10_look 187 = .ok (.goto 20, 3) := by decide +kernel
theorem dX10_look_190 : decode cX10_look 190 = .ok (.lload 5, 2) := by decide +kernel
theorem dX10_look_192 : decode cX10_look 192 = .ok (.iload 4, 2) := by decide +kernel
theorem dX10_look_194 : decode cX10_look 194 = .ok (.i2l, 1) := by decide +kernel
theorem dX10_look_195 : decode cX10_look 195 = .ok (.aload_n 0, 1) := by decide +kernel
theorem dX10_look_196 : decode cX10_look 196 = .ok (.getfield 73, 3) := by decide +kernel
theorem dX10_look_199 : decode cX10_look 199 = .ok (.aload_n 0, 1) := by decide +kernel
theorem dX10_look_200 : decode cX10_look 200 = .ok (.getfield 76, 3) := by decide +kernel
theorem dX10_look_203 : decode cX10_look 203 = .ok (.isub, 1) := by decide +kernel
theorem dX10_look_204 : decode cX10_look 204 = .ok (.i2l, 1) := by decide +kernel
theorem dX10_look_205 : decode cX10_look 205 = .ok (.lmul, 1) := by decide +kernel
theorem dX10_look_206 : decode cX10_look 206 = .ok (.lsub, 1) := by decide +kernel
theorem dX10_look_207 : decode cX10_look 207 = .ok (.putfield 130, 3) := by decide +kernel
theorem dX10_look_210 : decode cX10_look 210 = .ok (.return_, 1) := by decide +kernel
set_option maxRecDepth 20000 in
theorem ggX10_breaksShoe_X10_groundOf : GoodIn wsX10_breaksShoe wsX10_groundOf := goodIn_r _ [7, 8, 9, 10, 11, 12, 13, 6, 14, 15, 16, 17, 18, 19, 20, 21, 22, 23, 24, 25, 26, 27, 28, 29, 30, 31, 32, 33, 34, 35, 36, 37, 38, 39, 40, 41, 42, 43, 44, 45, 46, 47, 48, 49, 50, 51, 52, 53, 54] (by decide +kernel) (by decide +kernel)
set_option maxRecDepth 20000 in
theorem gX10_breaksShoe_X10_groundOf : GoodIn wsX10_breaksShoe (wsV RX10 91 RX10 yX10_groundOf wsX10_groundOf) := goodIn_app (goodIn_of _ (by decide +kernel)) ggX10_breaksShoe_X10_groundOf
theorem dX10_breaksShoe_0 : decode cX10_breaksShoe 0 = .ok (.aload_n 0, 1) := by decide +kernel
theorem dX10_breaksShoe_1 : decode cX10_breaksShoe 1 = .ok (.getfield 76, 3) := by decide +kernel
theorem dX10_breaksShoe_4 : decode cX10_breaksShoe 4 = .ok (.ifCond .le 33, 3) := by decide +kernel
theorem dX10_breaksShoe_7 : decode cX10_breaksShoe 7 = .ok (.aload_n 0, 1) := by decide +kernel
theorem dX10_breaksShoe_8 : decode cX10_breaksShoe 8 = .ok (.getfield 130, 3) := by decide +kernel
theorem dX10_breaksShoe_11 : decode cX10_breaksShoe 11 = .ok (.aload_n 0, 1) := by decide +kernel
theorem dX10_breaksShoe_12 : decode cX10_breaksShoe 12 = .ok (.iconst 1, 1) := by decide +kernel
theorem dX10_breaksShoe_13 : decode cX10_breaksShoe 13 = .ok (.aload_n 0, 1) := by decide +kernel
theorem dX10_breaksShoe_14 : decode cX10_breaksShoe 14 = .ok (.getfield 76, 3) := by decide +kernel
theorem dX10_breaksShoe_17 : decode cX10_breaksShoe 17 = .ok (.iconst 1, 1) := by decide +kernel
theorem dX10_breaksShoe_18 : decode cX10_breaksShoe 18 = .ok (.isub, 1) := by decide +kernel
theorem dX10_breaksShoe_19 : decode cX10_breaksShoe 19 = .ok (.invokevirtual 91, 3) := by decide +kernel
theorem dX10_breaksShoe_22 : decode cX10_breaksShoe 22 = .ok (.i2l, 1) := by decide +kernel
theorem dX10_breaksShoe_23 : decode cX10_breaksShoe 23 = .ok (.aload_n 0, 1) := by decide +kernel
theorem dX10_breaksShoe_24 : decode cX10_breaksShoe 24 = .ok (.getfield 76, 3) := by decide +kernel
theorem dX10_breaksShoe_27 : decode cX10_breaksShoe 27 = .ok (.i2l, 1) := by decide +kernel
theorem dX10_breaksShoe_28 : decode cX10_breaksShoe 28 = .ok (.lmul, 1) := by decide +kernel
theorem dX10_breaksShoe_29 : decode cX10_breaksShoe 29 = .ok (.lcmp, 1) := by decide +kernel
theorem dX10_breaksShoe_30 : decode cX10_breaksShoe 30 = .ok (.ifCond .le 7, 3) := by decide +kernel
theorem dX10_breaksShoe_33 : decode cX10_breaksShoe 33 = .ok (.iconst 1, 1) := by decide +kernel
theorem dX10_breaksShoe_34 : decode cX10_breaksShoe 34 = .ok (.goto 4, 3) := by decide +kernel
theorem dX10_breaksShoe_37 : decode cX10_breaksShoe 37 = .ok (.iconst 0, 1) := by decide +kernel
theorem dX10_breaksShoe_38 : decode cX10_breaksShoe 38 = .ok (.ireturn, 1) := by decide +kernel
set_option maxRecDepth 20000 in
theorem ggX10_kick_X10_in : GoodIn wsX10_kick wsX10_in := goodIn_r _ [13] (by decide +kernel) (by decide +kernel)
set_option maxRecDepth 20000 in
theorem gX10_kick_X10_in : GoodIn wsX10_kick (va_wsS RX10 69 yX10_in wsX10_in) := goodIn_app (goodIn_of _ (by decide +kernel)) ggX10_kick_X10_in
set_option maxRecDepth 20000 in
theorem ggX10_kick_X10_look : GoodIn wsX10_kick wsX10_look := goodIn_r _ [17, 3, 18, 9, 19, 20, 21, 22, 23, 24, 25, 26, 27, 28, 29, 30, 31, 32, 33, 34, 35, 36, 37, 38, 39, 40, 41, 42, 43, 44, 45, 46, 47, 48, 49, 50, 51, 52, 53, 54, 55, 56, 57, 58, 59, 60, 61, 62, 63] (by decide +kernel) (by decide +kernel)
set_option maxRecDepth 20000 in
theorem gX10_kick_X10_look : GoodIn wsX10_kick (wsV RX10 148 RX10 yX10_look wsX10_look) := goodIn_app (goodIn_of _ (by decide +kernel)) ggX10_kick_X10_look
theorem dX10_kick_0 : decode cX10_kick 0 = .ok (.iload_n 1, 1) := by decide +kernel
theorem dX10_kick_1 : decode cX10_kick 1 = .ok (.i2l, 1) := by decide +kernel
theorem dX10_kick_2 : decode cX10_kick 2 = .ok (.lconst 1, 1) := by decide +kernel
theorem dX10_kick_3 : decode cX10_kick 3 = .ok (.ldc2_w 108, 3) := by decide +kernel
theorem dX10_kick_6 : decode cX10_kick 6 = .ok (.invokestatic 69, 3) := by decide +kernel
theorem dX10_kick_9 : decode cX10_kick 9 = .ok (.ifCond .eq 27, 3) := by decide +kernel
theorem dX10_kick_12 : decode cX10_kick 12 = .ok (.iload_n 2, 1) := by decide +kernel
theorem dX10_kick_13 : decode cX10_kick 13 = .ok (.i2l, 1) := by decide +kernel
theorem dX10_kick_14 : decode cX10_kick 14 = .ok (.lconst 1, 1) := by decide +kernel
theorem dX10_kick_15 : decode cX10_kick 15 = .ok (.ldc2_w 87, 3) := by decide +kernel
theorem dX10_kick_18 : decode cX10_kick 18 = .ok (.invokestatic 69, 3) := by decide +kernel
theorem dX10_kick_21 : decode cX10_kick 21 = .ok (.ifCond .eq 15, 3) := by decide +kernel
theorem dX10_kick_24 : decode cX10_kick 24 = .ok (.iload_n 3, 1) := by decide +kernel
theorem dX10_kick_25 : decode cX10_kick 25 = .ok (.i2l, 1) := by decide +kernel
theorem dX10_kick_26 : decode cX10_kick 26 = .ok (.lconst 0, 1) := by decide +kernel
theorem dX10_kick_27 : decode cX10_kick 27 = .ok (.ldc2_w 87, 3) := by decide +kernel
theorem dX10_kick_30 : decode cX10_kick 30 = .ok (.invokestatic 69, 3) := by decide +kernel
theorem dX10_kick_33 : decode cX10_kick 33 = .ok (.ifCond .ne 6, 3) := by decide +kernel
theorem dX10_kick_36 : decode cX10_kick 36 = .ok (.bipush (-2), 2) := by decide +kernel
theorem dX10_kick_38 : decode cX10_kick 38 = .ok (.ireturn, 1) := by decide +kernel
theorem dX10_kick_39 : decode cX10_kick 39 = .ok (.aload_n 0, 1) := by decide +kernel
theorem dX10_kick_40 : decode cX10_kick 40 = .ok (.getfield 73, 3) := by decide +kernel
theorem dX10_kick_43 : decode cX10_kick 43 = .ok (.ifCond .ne 6, 3) := by decide +kernel
theorem dX10_kick_46 : decode cX10_kick 46 = .ok (.bipush (-3), 2) := by decide +kernel
theorem dX10_kick_48 : decode cX10_kick 48 = .ok (.ireturn, 1) := by decide +kernel
theorem dX10_kick_49 : decode cX10_kick 49 = .ok (.aload_n 0, 1) := by decide +kernel
theorem dX10_kick_50 : decode cX10_kick 50 = .ok (.iconst 1, 1) := by decide +kernel
theorem dX10_kick_51 : decode cX10_kick 51 = .ok (.putfield 133, 3) := by decide +kernel
theorem dX10_kick_54 : decode cX10_kick 54 = .ok (.aload_n 0, 1) := by decide +kernel
theorem dX10_kick_55 : decode cX10_kick 55 = .ok (.iload_n 1, 1) := by decide +kernel
theorem dX10_kick_56 : decode cX10_kick 56 = .ok (.putfield 137, 3) := by decide +kernel
theorem dX10_kick_59 : decode cX10_kick 59 = .ok (.aload_n 0, 1) := by decide +kernel
theorem dX10_kick_60 : decode cX10_kick 60 = .ok (.iload_n 2, 1) := by decide +kernel
theorem dX10_kick_61 : decode cX10_kick 61 = .ok (.putfield 140, 3) := by decide +kernel
theorem dX10_kick_64 : decode cX10_kick 64 = .ok (.aload_n 0, 1) := by decide +kernel
theorem dX10_kick_65 : decode cX10_kick 65 = .ok (.iload_n 3, 1) := by decide +kernel
theorem dX10_kick_66 : decode cX10_kick 66 = .ok (.putfield 143, 3) := by decide +kernel
theorem dX10_kick_69 : decode cX10_kick 69 = .ok (.aload_n 0, 1) := by decide +kernel
theorem dX10_kick_70 : decode cX10_kick 70 = .ok (.getfield 73, 3) := by decide +kernel
theorem dX10_kick_73 : decode cX10_kick 73 = .ok (.istore 4, 2) := by decide +kernel
theorem dX10_kick_75 : decode cX10_kick 75 = .ok (.ldc2_w 146, 3) := by decide +kernel
theorem dX10_kick_78 : decode cX10_kick 78 = .ok (.lstore 5, 2) := by decide +kernel
theorem dX10_kick_80 : decode cX10_kick 80 = .ok (.aload_n 0, 1) := by decide +kernel
theorem dX10_kick_81 : decode cX10_kick 81 = .ok (.getfield 73, 3) := by decide +kernel
theorem dX10_kick_84 : decode cX10_kick 84 = .ok (.istore 7, 2) := by decide +kernel
theorem dX10_kick_86 : decode cX10_kick 86 = .ok (.iload 7, 2) := by decide +kernel
theorem dX10_kick_88 : decode cX10_kick 88 = .ok (.ifCond .lt 38, 3) := by decide +kernel
theorem dX10_kick_91 : decode cX10_kick 91 = .ok (.aload_n 0, 1) := by decide +kernel
theorem dX10_kick_92 : decode cX10_kick 92 = .ok (.iload 7, 2) := by decide +kernel
theorem dX10_kick_94 : decode cX10_kick 94 = .ok (.iload_n 1, 1) := by decide +kernel
theorem dX10_kick_95 : decode cX10_kick 95 = .ok (.iload_n 2, 1) := by decide +kernel
theorem dX10_kick_96 : decode cX10_kick 96 = .ok (.iload_n 3, 1) := by decide +kernel
theorem dX10_kick_97 : decode cX10_kick 97 = .ok (.invokevirtual 148, 3) := by decide +kernel
theorem dX10_kick_100 : decode cX10_kick 100 = .ok (.aload_n 0, 1) := by decide +kernel
theorem dX10_kick_101 : decode cX10_kick 101 = .ok (.getfield 121, 3) := by decide +kernel
theorem dX10_kick_104 : decode cX10_kick 104 = .ok (.lload 5, 2) := by decide +kernel
theorem dX10_kick_106 : decode cX10_kick 106 = .ok (.lcmp, 1) := by decide +kernel
theorem dX10_kick_107 : decode cX10_kick 107 = .ok (.ifCond .le 13, 3) := by decide +kernel
theorem dX10_kick_110 : decode cX10_kick 110 = .ok (.aload_n 0, 1) := by decide +kernel
theorem dX10_kick_111 : decode cX10_kick 111 = .ok (.getfield 121, 3) := by decide +kernel
theorem dX10_kick_114 : decode cX10_kick 114 = .ok (.lstore 5, 2) := by decide +kernel
theorem dX10_kick_116 : decode cX10_kick 116 = .ok (.iload 7, 2) := by decide +kernel
theorem dX10_kick_118 : decode cX10_kick 118 = .ok (.istore 4, 2) := by decide +kernel
theorem dX10_kick_120 : decode cX10_kick 120 = .ok (.iinc 7 (-1), 3) := by decide +kernel
theorem dX10_kick_123 : decode cX10_kick 123 = .ok (.goto (-37), 3) := by decide +kernel
theorem dX10_kick_126 : decode cX10_kick 126 = .ok (.iload 4, 2) := by decide +kernel
theorem dX10_kick_128 : decode cX10_kick 128 = .ok (.ireturn, 1) := by decide +kernel
set_option maxRecDepth 20000 in
theorem ggX10_gas_X10_in : GoodIn wsX10_gas wsX10_in := goodIn_r _ [15] (by decide +kernel) (by decide +kernel)
set_option maxRecDepth 20000 in
theorem gX10_gas_X10_in : GoodIn wsX10_gas (va_wsS RX10 69 yX10_in wsX10_in) := goodIn_app (goodIn_of _ (by decide +kernel)) ggX10_gas_X10_in
set_option maxRecDepth 20000 in
theorem ggX10_gas_X10_no : GoodIn wsX10_gas wsX10_no := goodIn_r _ [18, 19] (by decide +kernel) (by decide +kernel)
set_option maxRecDepth 20000 in
theorem gX10_gas_X10_no : GoodIn wsX10_gas (va_wsS RX10 154 yX10_no wsX10_no) := goodIn_app (goodIn_of _ (by decide +kernel)) ggX10_gas_X10_no
set_option maxRecDepth 20000 in
theorem ggX10_gas_X10_look : GoodIn wsX10_gas wsX10_look := goodIn_r _ [23, 1, 7, 8, 24, 9, 10, 25, 11, 38, 39, 40, 41, 42, 43, 44, 45, 46, 47, 48, 49, 50, 51, 52, 53, 54, 55, 56, 57, 58, 59, 60, 61, 62, 63, 64, 65, 66, 67, 68, 69, 70, 71, 72, 73, 74, 75, 76, 77] (by decide +kernel) (by decide +kernel)
set_option maxRecDepth 20000 in
theorem gX10_gas_X10_look : GoodIn wsX10_gas (wsV RX10 148 RX10 yX10_look wsX10_look) := goodIn_app (goodIn_of _ (by decide +kernel)) ggX10_gas_X10_look
set_option maxRecDepth 20000 in
theorem ggX10_gas_X10_breaksShoe : GoodIn wsX10_gas wsX10_breaksShoe := goodIn_r _ [29, 25, 11, 30, 31, 32, 14, 33, 34, 35, 36, 37, 12, 13, 15, 38, 39, 40, 41, 42, 43, 44, 45, 46, 47, 48, 49, 50, 51, 52, 53, 54, 55, 56, 57, 58, 59, 60, 61, 62, 63, 64, 65, 66, 67, 68, 69, 70, 71, 72, 73, 74, 75, 76, 77] (by decide +kernel) (by decide +kernel)
set_option maxRecDepth 20000 in
theorem gX10_gas_X10_breaksShoe : GoodIn wsX10_gas (wsV RX10 158 RX10 yX10_breaksShoe wsX10_breaksShoe) := goodIn_app (goodIn_of _ (by decide +kernel)) ggX10_gas_X10_breaksShoe
theorem dX10_gas_0 : decode cX10_gas 0 = .ok (.iload_n 1, 1) := by decide +kernel
theorem dX10_gas_1 : decode cX10_gas 1 = .ok (.i2l, 1) := by decide +kernel
theorem dX10_gas_2 : decode cX10_gas 2 = .ok (.lconst 0, 1) := by decide +kernel
theorem dX10_gas_3 : decode cX10_gas 3 = .ok (.aload_n 0, 1) := by decide +kernel
theorem dX10_gas_4 : decode cX10_gas 4 = .ok (.getfield 73, 3) := by decide +kernel
theorem dX10_gas_7 : decode cX10_gas 7 = .ok (.i2l, 1) := by decide +kernel
theorem dX10_gas_8 : decode cX10_gas 8 = .ok (.invokestatic 69, 3) := by decide +kernel
theorem dX10_gas_11 : decode cX10_gas 11 = .ok (.ifCond .eq 15, 3) := by decide +kernel
theorem dX10_gas_14 : decode cX10_gas 14 = .ok (.iload_n 2, 1) := by decide +kernel
theorem dX10_gas_15 : decode cX10_gas 15 = .ok (.i2l, 1) := by decide +kernel
theorem dX10_gas_16 : decode cX10_gas 16 = .ok (.lconst 0, 1) := by decide +kernel
theorem dX10_gas_17 : decode cX10_gas 17 = .ok (.ldc2_w 152, 3) := by decide +kernel
theorem dX10_gas_20 : decode cX10_gas 20 = .ok (.invokestatic 69, 3) := by decide +kernel
theorem dX10_gas_23 : decode cX10_gas 23 = .ok (.ifCond .ne 9, 3) := by decide +kernel
theorem dX10_gas_26 : decode cX10_gas 26 = .ok (.bipush (-2), 2) := by decide +kernel
theorem dX10_gas_28 : decode cX10_gas 28 = .ok (.invokestatic 154, 3) := by decide +kernel
theorem dX10_gas_31 : decode cX10_gas 31 = .ok (.lreturn, 1) := by decide +kernel
theorem dX10_gas_32 : decode cX10_gas 32 = .ok (.aload_n 0, 1) := by decide +kernel
theorem dX10_gas_33 : decode cX10_gas 33 = .ok (.getfield 133, 3) := by decide +kernel
theorem dX10_gas_36 : decode cX10_gas 36 = .ok (.ifCond .ne 9, 3) := by decide +kernel
theorem dX10_gas_39 : decode cX10_gas 39 = .ok (.bipush (-3), 2) := by decide +kernel
theorem dX10_gas_41 : decode cX10_gas 41 = .ok (.invokestatic 154, 3) := by decide +kernel
theorem dX10_gas_44 : decode cX10_gas 44 = .ok (.lreturn, 1) := by decide +kernel
theorem dX10_gas_45 : decode cX10_gas 45 = .ok (.aload_n 0, 1) := by decide +kernel
theorem dX10_gas_46 : decode cX10_gas 46 = .ok (.iload_n 1, 1) := by decide +kernel
theorem dX10_gas_47 : decode cX10_gas 47 = .ok (.aload_n 0, 1) := by decide +kernel
theorem dX10_gas_48 : decode cX10_gas 48 = .ok (.getfield 137, 3) := by decide +kernel
theorem dX10_gas_51 : decode cX10_gas 51 = .ok (.aload_n 0, 1) := by decide +kernel
theorem dX10_gas_52 : decode cX10_gas 52 = .ok (.getfield 140, 3) := by decide +kernel
theorem dX10_gas_55 : decode cX10_gas 55 = .ok (.aload_n 0, 1) := by decide +kernel
theorem dX10_gas_56 : decode cX10_gas 56 = .ok (.getfield 143, 3) := by decide +kernel
theorem dX10_gas_59 : decode cX10_gas 59 = .ok (.invokevirtual 148, 3) := by decide +kernel
theorem dX10_gas_62 : decode cX10_gas 62 = .ok (.iload_n 2, 1) := by decide +kernel
theorem dX10_gas_63 : decode cX10_gas 63 = .ok (.tableswitch 58 0 4 #[33, 38, 43, 48, 53], 33) := by decide +kernel
theorem dX10_gas_96 : decode cX10_gas 96 = .ok (.aload_n 0, 1) := by decide +kernel
theorem dX10_gas_97 : decode cX10_gas 97 = .ok (.getfield 117, 3) := by decide +kernel
theorem dX10_gas_100 : decode cX10_gas 100 = .ok (.lreturn, 1) := by decide +kernel
theorem dX10_gas_101 : decode cX10_gas 101 = .ok (.aload_n 0, 1) := by decide +kernel
theorem dX10_gas_102 : decode cX10_gas 102 = .ok (.getfield 121, 3) := by decide +kernel
theorem dX10_gas_105 : decode cX10_gas 105 = .ok (.lreturn, 1) := by decide +kernel
theorem dX10_gas_106 : decode cX10_gas 106 = .ok (.aload_n 0, 1) := by decide +kernel
theorem dX10_gas_107 : decode cX10_gas 107 = .ok (.getfield 124, 3) := by decide +kernel
theorem dX10_gas_110 : decode cX10_gas 110 = .ok (.lreturn, 1) := by decide +kernel
theorem dX10_gas_111 : decode cX10_gas 111 = .ok (.aload_n 0, 1) := by decide +kernel
theorem dX10_gas_112 : decode cX10_gas 112 = .ok (.getfield 127, 3) := by decide +kernel
theorem dX10_gas_115 : decode cX10_gas 115 = .ok (.lreturn, 1) := by decide +kernel
theorem dX10_gas_116 : decode cX10_gas 116 = .ok (.aload_n 0, 1) := by decide +kernel
theorem dX10_gas_117 : decode cX10_gas 117 = .ok (.getfield 130, 3) := by decide +kernel
theorem dX10_gas_120 : decode cX10_gas 120 = .ok (.lreturn, 1) := by decide +kernel
theorem dX10_gas_121 : decode cX10_gas 121 = .ok (.aload_n 0, 1) := by decide +kernel
theorem dX10_gas_122 : decode cX10_gas 122 = .ok (.invokevirtual 158, 3) := by decide +kernel
theorem dX10_gas_125 : decode cX10_gas 125 = .ok (.ifCond .eq 7, 3) := by decide +kernel
theorem dX10_gas_128 : decode cX10_gas 128 = .ok (.lconst 1, 1) := by decide +kernel
theorem dX10_gas_129 : decode cX10_gas 129 = .ok (.goto 4, 3) := by decide +kernel
theorem dX10_gas_132 : decode cX10_gas 132 = .ok (.lconst 0, 1) := by decide +kernel
theorem dX10_gas_133 : decode cX10_gas 133 = .ok (.lreturn, 1) := by decide +kernel
set_option maxRecDepth 20000 in
theorem ggX10_brokenAt_X10_look : GoodIn wsX10_brokenAt wsX10_look := goodIn_r _ [6, 1, 7, 8, 9, 10, 11, 12, 13, 29, 30, 31, 32, 33, 34, 35, 36, 37, 38, 39, 40, 41, 42, 43, 44, 45, 46, 47, 48, 49, 50, 51, 52, 53, 54, 55, 56, 57, 58, 59, 60, 61, 62, 63, 64, 65, 66, 67, 68] (by decide +kernel) (by decide +kernel)
set_option maxRecDepth 20000 in
theorem gX10_brokenAt_X10_look : GoodIn wsX10_brokenAt (wsV RX10 148 RX10 yX10_look wsX10_look) := goodIn_app (goodIn_of _ (by decide +kernel)) ggX10_brokenAt_X10_look
set_option maxRecDepth 20000 in
theorem ggX10_brokenAt_X10_breaksShoe : GoodIn wsX10_brokenAt wsX10_breaksShoe := goodIn_r _ [17, 12, 13, 18, 19, 20, 5, 21, 22, 23, 24, 25, 26, 27, 28, 29, 30, 31, 32, 33, 34, 35, 36, 37, 38, 39, 40, 41, 42, 43, 44, 45, 46, 47, 48, 49, 50, 51, 52, 53, 54, 55, 56, 57, 58, 59, 60, 61, 62, 63, 64, 65, 66, 67, 68] (by decide +kernel) (by decide +kernel)
set_option maxRecDepth 20000 in
theorem gX10_brokenAt_X10_breaksShoe : GoodIn wsX10_brokenAt (wsV RX10 158 RX10 yX10_breaksShoe wsX10_breaksShoe) := goodIn_app (goodIn_of _ (by decide +kernel)) ggX10_brokenAt_X10_breaksShoe
theorem dX10_brokenAt_0 : decode cX10_brokenAt 0 = .ok (.aload_n 0, 1) := by decide +kernel
theorem dX10_brokenAt_1 : decode cX10_brokenAt 1 = .ok (.getfield 73, 3) := by decide +kernel
theorem dX10_brokenAt_4 : decode cX10_brokenAt 4 = .ok (.istore 4, 2) := by decide +kernel
theorem dX10_brokenAt_6 : decode cX10_brokenAt 6 = .ok (.iload 4, 2) := by decide +kernel
theorem dX10_brokenAt_8 : decode cX10_brokenAt 8 = .ok (.ifCond .lt 28, 3) := by decide +kernel
theorem dX10_brokenAt_11 : decode cX10_brokenAt 11 = .ok (.aload_n 0, 1) := by decide +kernel
theorem dX10_brokenAt_12 : decode cX10_brokenAt 12 = .ok (.iload 4, 2) := by decide +kernel
theorem dX10_brokenAt_14 : decode cX10_brokenAt 14 = .ok (.iload_n 1, 1) := by decide +kernel
theorem dX10_brokenAt_15 : decode cX10_brokenAt 15 = .ok (.iload_n 2, 1) := by decide +kernel
theorem dX10_brokenAt_16 : decode cX10_brokenAt 16 = .ok (.iload_n 3, 1) := by decide +kernel
theorem dX10_brokenAt_17 : decode cX10_brokenAt 17 = .ok (.invokevirtual 148, 3) := by decide +kernel
theorem dX10_brokenAt_20 : decode cX10_brokenAt 20 = .ok (.aload_n 0, 1) := by decide +kernel
theorem dX10_brokenAt_21 : decode cX10_brokenAt 21 = .ok (.invokevirtual 158, 3) := by decide +kernel
theorem dX10_brokenAt_24 : decode cX10_brokenAt 24 = .ok (.ifCond .eq 6, 3) := by decide +kernel
theorem dX10_brokenAt_27 : decode cX10_brokenAt 27 = .ok (.iload 4, 2) := by decide +kernel
theorem dX10_brokenAt_29 : decode cX10_brokenAt 29 = .ok (.ireturn, 1) := by decide +kernel
theorem dX10_brokenAt_30 : decode cX10_brokenAt 30 = .ok (.iinc 4 (-1), 3) := by decide +kernel
theorem dX10_brokenAt_33 : decode cX10_brokenAt 33 = .ok (.goto (-27), 3) := by decide +kernel
theorem dX10_brokenAt_36 : decode cX10_brokenAt 36 = .ok (.iconst (-1), 1) := by decide +kernel
theorem dX10_brokenAt_37 : decode cX10_brokenAt 37 = .ok (.ireturn, 1) := by decide +kernel
set_option maxRecDepth 20000 in
theorem ggX10_broken_X10_brokenAt : GoodIn wsX10_broken wsX10_brokenAt := goodIn_r _ [9, 10, 11, 12, 13, 8, 14, 15, 16, 17, 18, 19, 20, 21, 22, 23, 24, 25, 26, 27, 28, 29, 30, 31, 32, 33, 34, 35, 36, 37, 38, 39, 40, 41, 42, 43, 44, 45, 46, 47, 48, 49, 50, 51, 52, 53, 54, 55, 56, 57, 58, 59, 60, 61, 62, 63, 64, 65, 66, 67, 68, 69, 70, 71, 72, 73, 74, 75, 76] (by decide +kernel) (by decide +kernel)
set_option maxRecDepth 20000 in
theorem gX10_broken_X10_brokenAt : GoodIn wsX10_broken (wsV RX10 162 RX10 yX10_brokenAt wsX10_brokenAt) := goodIn_app (goodIn_of _ (by decide +kernel)) ggX10_broken_X10_brokenAt
theorem dX10_broken_0 : decode cX10_broken 0 = .ok (.aload_n 0, 1) := by decide +kernel
theorem dX10_broken_1 : decode cX10_broken 1 = .ok (.getfield 133, 3) := by decide +kernel
theorem dX10_broken_4 : decode cX10_broken 4 = .ok (.ifCond .eq 22, 3) := by decide +kernel
theorem dX10_broken_7 : decode cX10_broken 7 = .ok (.aload_n 0, 1) := by decide +kernel
theorem dX10_broken_8 : decode cX10_broken 8 = .ok (.aload_n 0, 1) := by decide +kernel
theorem dX10_broken_9 : decode cX10_broken 9 = .ok (.getfield 137, 3) := by decide +kernel
theorem dX10_broken_12 : decode cX10_broken 12 = .ok (.aload_n 0, 1) := by decide +kernel
theorem dX10_broken_13 : decode cX10_broken 13 = .ok (.getfield 140, 3) := by decide +kernel
theorem dX10_broken_16 : decode cX10_broken 16 = .ok (.aload_n 0, 1) := by decide +kernel
theorem dX10_broken_17 : decode cX10_broken 17 = .ok (.getfield 143, 3) := by decide +kernel
theorem dX10_broken_20 : decode cX10_broken 20 = .ok (.invokevirtual 162, 3) := by decide +kernel
theorem dX10_broken_23 : decode cX10_broken 23 = .ok (.goto 5, 3) := by decide +kernel
theorem dX10_broken_26 : decode cX10_broken 26 = .ok (.bipush (-3), 2) := by decide +kernel
theorem dX10_broken_28 : decode cX10_broken 28 = .ok (.ireturn, 1) := by decide +kernel
set_option maxRecDepth 20000 in
theorem ggX10_bears_X10_in : GoodIn wsX10_bears wsX10_in := goodIn_r _ [6] (by decide +kernel) (by decide +kernel)
set_option maxRecDepth 20000 in
theorem gX10_bears_X10_in : GoodIn wsX10_bears (va_wsS RX10 69 yX10_in wsX10_in) := goodIn_app (goodIn_of _ (by decide +kernel)) ggX10_bears_X10_in
set_option maxRecDepth 20000 in
theorem ggX10_bears_X10_brokenAt : GoodIn wsX10_bears wsX10_brokenAt := goodIn_r _ [10, 2, 11, 12, 13, 5, 14, 15, 16, 17, 18, 19, 20, 21, 22, 23, 24, 25, 26, 27, 28, 29, 30, 31, 32, 1, 3, 4, 6, 33, 34, 35, 36, 37, 38, 39, 40, 41, 42, 43, 44, 45, 46, 47, 48, 49, 50, 51, 52, 53, 54, 55, 56, 57, 58, 59, 60, 61, 62, 63, 64, 65, 66, 67, 68, 69, 70, 71, 72] (by decide +kernel) (by decide +kernel)
set_option maxRecDepth 20000 in
theorem gX10_bears_X10_brokenAt : GoodIn wsX10_bears (wsV RX10 162 RX10 yX10_brokenAt wsX10_brokenAt) := goodIn_app (goodIn_of _ (by decide +kernel)) ggX10_bears_X10_brokenAt
theorem dX10_bears_0 : decode cX10_bears 0 = .ok (.iload_n 1, 1) := by decide +kernel
theorem dX10_bears_1 : decode cX10_bears 1 = .ok (.i2l, 1) := by decide +kernel
theorem dX10_bears_2 : decode cX10_bears 2 = .ok (.lconst 1, 1) := by decide +kernel
theorem dX10_bears_3 : decode cX10_bears 3 = .ok (.ldc2_w 87, 3) := by decide +kernel
theorem dX10_bears_6 : decode cX10_bears 6 = .ok (.invokestatic 69, 3) := by decide +kernel
theorem dX10_bears_9 : decode cX10_bears 9 = .ok (.ifCond .eq 15, 3) := by decide +kernel
theorem dX10_bears_12 : decode cX10_bears 12 = .ok (.iload_n 2, 1) := by decide +kernel
theorem dX10_bears_13 : decode cX10_bears 13 = .ok (.i2l, 1) := by decide +kernel
theorem dX10_bears_14 : decode cX10_bears 14 = .ok (.lconst 0, 1) := by decide +kernel
theorem dX10_bears_15 : decode cX10_bears 15 = .ok (.ldc2_w 87, 3) := by decide +kernel
theorem dX10_bears_18 : decode cX10_bears 18 = .ok (.invokestatic 69, 3) := by decide +kernel
theorem dX10_bears_21 : decode cX10_bears 21 = .ok (.ifCond .ne 6, 3) := by decide +kernel
theorem dX10_bears_24 : decode cX10_bears 24 = .ok (.bipush (-2), 2) := by decide +kernel
theorem dX10_bears_26 : decode cX10_bears 26 = .ok (.ireturn, 1) := by decide +kernel
theorem dX10_bears_27 : decode cX10_bears 27 = .ok (.aload_n 0, 1) := by decide +kernel
theorem dX10_bears_28 : decode cX10_bears 28 = .ok (.getfield 73, 3) := by decide +kernel
theorem dX10_bears_31 : decode cX10_bears 31 = .ok (.ifCond .ne 6, 3) := by decide +kernel
theorem dX10_bears_34 : decode cX10_bears 34 = .ok (.bipush (-3), 2) := by decide +kernel
theorem dX10_bears_36 : decode cX10_bears 36 = .ok (.ireturn, 1) := by decide +kernel
theorem dX10_bears_37 : decode cX10_bears 37 = .ok (.sipush 1000, 3) := by decide +kernel
theorem dX10_bears_40 : decode cX10_bears 40 = .ok (.istore_n 3, 1) := by decide +kernel
theorem dX10_bears_41 : decode cX10_bears 41 = .ok (.iload_n 3, 1) := by decide +kernel
theorem dX10_bears_42 : decode cX10_bears 42 = .ok (.ifCond .le 20, 3) := by decide +kernel
theorem dX10_bears_45 : decode cX10_bears 45 = .ok (.aload_n 0, 1) := by decide +kernel
theorem dX10_bears_46 : decode cX10_bears 46 = .ok (.iload_n 3, 1) := by decide +kernel
theorem dX10_bears_47 : decode cX10_bears 47 = .ok (.iload_n 1, 1) := by decide +kernel
theorem dX10_bears_48 : decode cX10_bears 48 = .ok (.iload_n 2, 1) := by decide +kernel
theorem dX10_bears_49 : decode cX10_bears 49 = .ok (.invokevirtual 162, 3) := by decide +kernel
theorem dX10_bears_52 : decode cX10_bears 52 = .ok (.iconst (-1), 1) := by decide +kernel
theorem dX10_bears_53 : decode cX10_bears 53 = .ok (.if_icmp .eq 9, 3) := by decide +kernel
theorem dX10_bears_56 : decode cX10_bears 56 = .ok (.iinc 3 (-1), 3) := by decide +kernel
theorem dX10_bears_59 : decode cX10_bears 59 = .ok (.goto (-18), 3) := by decide +kernel
theorem dX10_bears_62 : decode cX10_bears 62 = .ok (.iload_n 3, 1) := by decide +kernel
theorem dX10_bears_63 : decode cX10_bears 63 = .ok (.ireturn, 1) := by decide +kernel
set_option maxRecDepth 20000 in
theorem ggX10_swab_X10_in : GoodIn wsX10_swab wsX10_in := goodIn_r _ [6] (by decide +kernel) (by decide +kernel)
set_option maxRecDepth 20000 in
theorem gX10_swab_X10_in : GoodIn wsX10_swab (va_wsS RX10 69 yX10_in wsX10_in) := goodIn_app (goodIn_of _ (by decide +kernel)) ggX10_swab_X10_in
theorem dX10_swab_0 : decode cX10_swab 0 = .ok (.iload_n 1, 1) := by decide +kernel
theorem dX10_swab_1 : decode cX10_swab 1 = .ok (.i2l, 1) := by decide +kernel
theorem dX10_swab_2 : decode cX10_swab 2 = .ok (.lconst 0, 1) := by decide +kernel
theorem dX10_swab_3 : decode cX10_swab 3 = .ok (.ldc2_w 108, 3) := by decide +kernel
theorem dX10_swab_6 : decode cX10_swab 6 = .ok (.invokestatic 69, 3) := by decide +kernel
theorem dX10_swab_9 : decode cX10_swab 9 = .ok (.ifCond .ne 6, 3) := by decide +kernel
theorem dX10_swab_12 : decode cX10_swab 12 = .ok (.bipush (-2), 2) := by decide +kernel
theorem dX10_swab_14 : decode cX10_swab 14 = .ok (.ireturn, 1) := by decide +kernel
theorem dX10_swab_15 : decode cX10_swab 15 = .ok (.aload_n 0, 1) := by decide +kernel
theorem dX10_swab_16 : decode cX10_swab 16 = .ok (.getfield 32, 3) := by decide +kernel
theorem dX10_swab_19 : decode cX10_swab 19 = .ok (.istore_n 2, 1) := by decide +kernel
theorem dX10_swab_20 : decode cX10_swab 20 = .ok (.aload_n 0, 1) := by decide +kernel
theorem dX10_swab_21 : decode cX10_swab 21 = .ok (.iload_n 1, 1) := by decide +kernel
theorem dX10_swab_22 : decode cX10_swab 22 = .ok (.putfield 32, 3) := by decide +kernel
theorem dX10_swab_25 : decode cX10_swab 25 = .ok (.iload_n 2, 1) := by decide +kernel
theorem dX10_swab_26 : decode cX10_swab 26 = .ok (.ireturn, 1) := by decide +kernel
set_option maxRecDepth 20000 in
theorem ggX10_greatestPore_X10_groundOf : GoodIn wsX10_greatestPore wsX10_groundOf := goodIn_r _ [8, 9, 10, 11, 12, 13, 14, 7, 15, 16, 17, 18, 19, 20, 21, 22, 23, 24, 25, 26, 27, 28, 29, 30, 31, 32, 33, 34, 35, 36, 37, 38, 39, 40, 41, 42, 43, 44, 45, 46, 47, 48, 49, 50, 51, 52, 53, 54, 55] (by decide +kernel) (by decide +kernel)
set_option maxRecDepth 20000 in
theorem gX10_greatestPore_X10_groundOf : GoodIn wsX10_greatestPore (wsV RX10 91 RX10 yX10_groundOf wsX10_groundOf) := goodIn_app (goodIn_of _ (by decide +kernel)) ggX10_greatestPore_X10_groundOf
theorem dX10_greatestPore_0 : decode cX10_greatestPore 0 = .ok (.iconst 0, 1) := by decide +kernel
theorem dX10_greatestPore_1 : decode cX10_greatestPore 1 = .ok (.istore_n 1, 1) := by decide +kernel
theorem dX10_greatestPore_2 : decode cX10_greatestPore 2 = .ok (.aload_n 0, 1) := by decide +kernel
theorem dX10_greatestPore_3 : decode cX10_greatestPore 3 = .ok (.getfield 76, 3) := by decide +kernel
theorem dX10_greatestPore_6 : decode cX10_greatestPore 6 = .ok (.istore_n 2, 1) := by decide +kernel
theorem dX10_greatestPore_7 : decode cX10_greatestPore 7 = .ok (.iload_n 2, 1) := by decide +kernel
theorem dX10_greatestPore_8 : decode cX10_greatestPore 8 = .ok (.aload_n 0, 1) := by decide +kernel
theorem dX10_greatestPore_9 : decode cX10_greatestPore 9 = .ok (.getfield 73, 3) := by decide +kernel
theorem dX10_greatestPore_12 : decode cX10_greatestPore 12 = .ok (.if_icmp .ge 30, 3) := by decide +kernel
theorem dX10_greatestPore_15 : decode cX10_greatestPore 15 = .ok (.aload_n 0, 1) := by decide +kernel
theorem dX10_greatestPore_16 : decode cX10_greatestPore 16 = .ok (.iconst 0, 1) := by decide +kernel
theorem dX10_greatestPore_17 : decode cX10_greatestPore 17 = .ok (.iload_n 2, 1) := by decide +kernel
theorem dX10_greatestPore_18 : decode cX10_greatestPore 18 = .ok (.invokevirtual 91, 3) := by decide +kernel
theorem dX10_greatestPore_21 : decode cX10_greatestPore 21 = .ok (.iload_n 1, 1) := by decide +kernel
theorem dX10_greatestPore_22 : decode cX10_greatestPore 22 = .ok (.if_icmp .le 12, 3) := by decide +kernel
theorem dX10_greatestPore_25 : decode cX10_greatestPore 25 = .ok (.aload_n 0, 1) := by decide +kernel
theorem dX10_greatestPore_26 : decode cX10_greatestPore 26 = .ok (.iconst 0, 1) := by decide +kernel
theorem dX10_greatestPore_27 : decode cX10_greatestPore 27 = .ok (.iload_n 2, 1) := by decide +kernel
theorem dX10_greatestPore_28 : decode cX10_greatestPore 28 = .ok (.invokevirtual 91, 3) := by decide +kernel
theorem dX10_greatestPore_31 : decode cX10_greatestPore 31 = .ok (.goto 4, 3) := by decide +kernel
theorem dX10_greatestPore_34 : decode cX10_greatestPore 34 = .ok (.iload_n 1, 1) := by decide +kernel
theorem dX10_greatestPore_35 : decode cX10_greatestPore 35 = .ok (.istore_n 1, 1) := by decide +kernel
theorem dX10_greatestPore_36 : decode cX10_greatestPore 36 = .ok (.iinc 2 1, 3) := by decide +kernel
theorem dX10_greatestPore_39 : decode cX10_greatestPore 39 = .ok (.goto (-32), 3) := by decide +kernel
theorem dX10_greatestPore_42 : decode cX10_greatestPore 42 = .ok (.aload_n 0, 1) := by decide +kernel
theorem dX10_greatestPore_43 : decode cX10_greatestPore 43 = .ok (.getfield 76, 3) := by decide +kernel
theorem dX10_greatestPore_46 : decode cX10_greatestPore 46 = .ok (.aload_n 0, 1) := by decide +kernel
theorem dX10_greatestPore_47 : decode cX10_greatestPore 47 = .ok (.getfield 73, 3) := by decide +kernel
theorem dX10_greatestPore_50 : decode cX10_greatestPore 50 = .ok (.if_icmp .ge 7, 3) := by decide +kernel
theorem dX10_greatestPore_53 : decode cX10_greatestPore 53 = .ok (.iload_n 1, 1) := by decide +kernel
theorem dX10_greatestPore_54 : decode cX10_greatestPore 54 = .ok (.goto 5, 3) := by decide +kernel
theorem dX10_greatestPore_57 : decode cX10_greatestPore 57 = .ok (.ldc 166, 2) := by decide +kernel
theorem dX10_greatestPore_59 : decode cX10_greatestPore 59 = .ok (.ireturn, 1) := by decide +kernel
theorem dX10_speedOf_0 : decode cX10_speedOf 0 = .ok (.bipush 9, 2) := by decide +kernel
theorem dX10_speedOf_2 : decode cX10_speedOf 2 = .ok (.istore 4, 2) := by decide +kernel
theorem dX10_speedOf_4 : decode cX10_speedOf 4 = .ok (.iload 4, 2) := by decide +kernel
theorem dX10_speedOf_6 : decode cX10_speedOf 6 = .ok (.ifCond .le 28, 3) := by decide +kernel
theorem dX10_speedOf_9 : decode cX10_speedOf 9 = .ok (.iload_n 1, 1) := by decide +kernel
theorem dX10_speedOf_10 : decode cX10_speedOf 10 = .ok (.aload_n 0, 1) := by decide +kernel
theorem dX10_speedOf_11 : decode cX10_speedOf 11 = .ok (.getfield 32, 3) := by decide +kernel
theorem dX10_speedOf_14 : decode cX10_speedOf 14 = .ok (.iload 4, 2) := by decide +kernel
theorem dX10_speedOf_16 : decode cX10_speedOf 16 = .ok (.imul, 1) := by decide +kernel
theorem dX10_speedOf_17 : decode cX10_speedOf 17 = .ok (.iload_n 2, 1) := by decide +kernel
theorem dX10_speedOf_18 : decode cX10_speedOf 18 = .ok (.imul, 1) := by decide +kernel
theorem dX10_speedOf_19 : decode cX10_speedOf 19 = .ok (.sipush 1000, 3) := by decide +kernel
theorem dX10_speedOf_22 : decode cX10_speedOf 22 = .ok (.idiv, 1) := by decide +kernel
