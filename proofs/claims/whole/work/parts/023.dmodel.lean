theorem dX7_init_0 : decode cX7_init 0 = .ok (.aload_n 0, 1) := by decide +kernel
theorem dX7_init_1 : decode cX7_init 1 = .ok (.invokespecial 1, 3) := by decide +kernel
theorem dX7_init_4 : decode cX7_init 4 = .ok (.aload_n 0, 1) := by decide +kernel
theorem dX7_init_5 : decode cX7_init 5 = .ok (.bipush 10, 2) := by decide +kernel
theorem dX7_init_7 : decode cX7_init 7 = .ok (.newarray .int, 2) := by decide +kernel
theorem dX7_init_9 : decode cX7_init 9 = .ok (.putfield 9, 3) := by decide +kernel
theorem dX7_init_12 : decode cX7_init 12 = .ok (.aload_n 0, 1) := by decide +kernel
theorem dX7_init_13 : decode cX7_init 13 = .ok (.bipush 10, 2) := by decide +kernel
theorem dX7_init_15 : decode cX7_init 15 = .ok (.newarray .int, 2) := by decide +kernel
theorem dX7_init_17 : decode cX7_init 17 = .ok (.putfield 13, 3) := by decide +kernel
theorem dX7_init_20 : decode cX7_init 20 = .ok (.aload_n 0, 1) := by decide +kernel
theorem dX7_init_21 : decode cX7_init 21 = .ok (.bipush 10, 2) := by decide +kernel
theorem dX7_init_23 : decode cX7_init 23 = .ok (.newarray .int, 2) := by decide +kernel
theorem dX7_init_25 : decode cX7_init 25 = .ok (.putfield 16, 3) := by decide +kernel
theorem dX7_init_28 : decode cX7_init 28 = .ok (.aload_n 0, 1) := by decide +kernel
theorem dX7_init_29 : decode cX7_init 29 = .ok (.bipush 8, 2) := by decide +kernel
theorem dX7_init_31 : decode cX7_init 31 = .ok (.newarray .int, 2) := by decide +kernel
theorem dX7_init_33 : decode cX7_init 33 = .ok (.putfield 19, 3) := by decide +kernel
theorem dX7_init_36 : decode cX7_init 36 = .ok (.aload_n 0, 1) := by decide +kernel
theorem dX7_init_37 : decode cX7_init 37 = .ok (.bipush 8, 2) := by decide +kernel
theorem dX7_init_39 : decode cX7_init 39 = .ok (.newarray .int, 2) := by decide +kernel
theorem dX7_init_41 : decode cX7_init 41 = .ok (.putfield 22, 3) := by decide +kernel
theorem dX7_init_44 : decode cX7_init 44 = .ok (.aload_n 0, 1) := by decide +kernel
theorem dX7_init_45 : decode cX7_init 45 = .ok (.bipush 8, 2) := by decide +kernel
theorem dX7_init_47 : decode cX7_init 47 = .ok (.newarray .int, 2) := by decide +kernel
theorem dX7_init_49 : decode cX7_init 49 = .ok (.putfield 25, 3) := by decide +kernel
theorem dX7_init_52 : decode cX7_init 52 = .ok (.aload_n 0, 1) := by decide +kernel
theorem dX7_init_53 : decode cX7_init 53 = .ok (.bipush 10, 2) := by decide +kernel
theorem dX7_init_55 : decode cX7_init 55 = .ok (.newarray .int, 2) := by decide +kernel
theorem dX7_init_57 : decode cX7_init 57 = .ok (.putfield 28, 3) := by decide +kernel
theorem dX7_init_60 : decode cX7_init 60 = .ok (.aload_n 0, 1) := by decide +kernel
theorem dX7_init_61 : decode cX7_init 61 = .ok (.bipush 10, 2) := by decide +kernel
theorem dX7_init_63 : decode cX7_init 63 = .ok (.newarray .int, 2) := by decide +kernel
theorem dX7_init_65 : decode cX7_init 65 = .ok (.putfield 31, 3) := by decide +kernel
theorem dX7_init_68 : decode cX7_init 68 = .ok (.aload_n 0, 1) := by decide +kernel
theorem dX7_init_69 : decode cX7_init 69 = .ok (.bipush 10, 2) := by decide +kernel
theorem dX7_init_71 : decode cX7_init 71 = .ok (.newarray .int, 2) := by decide +kernel
theorem dX7_init_73 : decode cX7_init 73 = .ok (.putfield 34, 3) := by decide +kernel
theorem dX7_init_76 : decode cX7_init 76 = .ok (.aload_n 0, 1) := by decide +kernel
theorem dX7_init_77 : decode cX7_init 77 = .ok (.bipush 24, 2) := by decide +kernel
theorem dX7_init_79 : decode cX7_init 79 = .ok (.newarray .int, 2) := by decide +kernel
theorem dX7_init_81 : decode cX7_init 81 = .ok (.putfield 37, 3) := by decide +kernel
theorem dX7_init_84 : decode cX7_init 84 = .ok (.aload_n 0, 1) := by decide +kernel
theorem dX7_init_85 : decode cX7_init 85 = .ok (.bipush 24, 2) := by decide +kernel
theorem dX7_init_87 : decode cX7_init 87 = .ok (.newarray .int, 2) := by decide +kernel
theorem dX7_init_89 : decode cX7_init 89 = .ok (.putfield 40, 3) := by decide +kernel
theorem dX7_init_92 : decode cX7_init 92 = .ok (.aload_n 0, 1) := by decide +kernel
theorem dX7_init_93 : decode cX7_init 93 = .ok (.bipush 24, 2) := by decide +kernel
theorem dX7_init_95 : decode cX7_init 95 = .ok (.newarray .int, 2) := by decide +kernel
theorem dX7_init_97 : decode cX7_init 97 = .ok (.putfield 43, 3) := by decide +kernel
theorem dX7_init_100 : decode cX7_init 100 = .ok (.aload_n 0, 1) := by decide +kernel
theorem dX7_init_101 : decode cX7_init 101 = .ok (.bipush 24, 2) := by decide +kernel
theorem dX7_init_103 : decode cX7_init 103 = .ok (.newarray .int, 2) := by decide +kernel
theorem dX7_init_105 : decode cX7_init 105 = .ok (.putfield 46, 3) := by decide +kernel
theorem dX7_init_108 : decode cX7_init 108 = .ok (.aload_n 0, 1) := by decide +kernel
theorem dX7_init_109 : decode cX7_init 109 = .ok (.bipush 10, 2) := by decide +kernel
theorem dX7_init_111 : decode cX7_init 111 = .ok (.newarray .boolean, 2) := by decide +kernel
theorem dX7_init_113 : decode cX7_init 113 = .ok (.putfield 49, 3) := by decide +kernel
theorem dX7_init_116 : decode cX7_init 116 = .ok (.aload_n 0, 1) := by decide +kernel
theorem dX7_init_117 : decode cX7_init 117 = .ok (.bipush 24, 2) := by decide +kernel
theorem dX7_init_119 : decode cX7_init 119 = .ok (.newarray .boolean, 2) := by decide +kernel
theorem dX7_init_121 : decode cX7_init 121 = .ok (.putfield 53, 3) := by decide +kernel
theorem dX7_init_124 : decode cX7_init 124 = .ok (.aload_n 0, 1) := by decide +kernel
theorem dX7_init_125 : decode cX7_init 125 = .ok (.bipush 24, 2) := by decide +kernel
theorem dX7_init_127 : decode cX7_init 127 = .ok (.newarray .char, 2) := by decide +kernel
theorem dX7_init_129 : decode cX7_init 129 = .ok (.putfield 56, 3) := by decide +kernel
theorem dX7_init_132 : decode cX7_init 132 = .ok (.aload_n 0, 1) := by decide +kernel
theorem dX7_init_133 : decode cX7_init 133 = .ok (.sipush 300, 3) := by decide +kernel
theorem dX7_init_136 : decode cX7_init 136 = .ok (.putfield 60, 3) := by decide +kernel
theorem dX7_init_139 : decode cX7_init 139 = .ok (.aload_n 0, 1) := by decide +kernel
theorem dX7_init_140 : decode cX7_init 140 = .ok (.iconst 2, 1) := by decide +kernel
theorem dX7_init_141 : decode cX7_init 141 = .ok (.putfield 64, 3) := by decide +kernel
theorem dX7_init_144 : decode cX7_init 144 = .ok (.aload_n 0, 1) := by decide +kernel
theorem dX7_init_145 : decode cX7_init 145 = .ok (.bipush 99, 2) := by decide +kernel
theorem dX7_init_147 : decode cX7_init 147 = .ok (.newarray .char, 2) := by decide +kernel
theorem dX7_init_149 : decode cX7_init 149 = .ok (.putfield 67, 3) := by decide +kernel
theorem dX7_init_152 : decode cX7_init 152 = .ok (.aload_n 0, 1) := by decide +kernel
theorem dX7_init_153 : decode cX7_init 153 = .ok (.bipush 99, 2) := by decide +kernel
theorem dX7_init_155 : decode cX7_init 155 = .ok (.newarray .int, 2) := by decide +kernel
theorem dX7_init_157 : decode cX7_init 157 = .ok (.putfield 70, 3) := by decide +kernel
theorem dX7_init_160 : decode cX7_init 160 = .ok (.aload_n 0, 1) := by decide +kernel
theorem dX7_init_161 : decode cX7_init 161 = .ok (.bipush 24, 2) := by decide +kernel
theorem dX7_init_163 : decode cX7_init 163 = .ok (.newarray .int, 2) := by decide +kernel
theorem dX7_init_165 : decode cX7_init 165 = .ok (.putfield 73, 3) := by decide +kernel
theorem dX7_init_168 : decode cX7_init 168 = .ok (.aload_n 0, 1) := by decide +kernel
theorem dX7_init_169 : decode cX7_init 169 = .ok (.bipush 24, 2) := by decide +kernel
theorem dX7_init_171 : decode cX7_init 171 = .ok (.newarray .int, 2) := by decide +kernel
theorem dX7_init_173 : decode cX7_init 173 = .ok (.putfield 76, 3) := by decide +kernel
theorem dX7_init_176 : decode cX7_init 176 = .ok (.aload_n 0, 1) := by decide +kernel
theorem dX7_init_177 : decode cX7_init 177 = .ok (.bipush 24, 2) := by decide +kernel
theorem dX7_init_179 : decode cX7_init 179 = .ok (.newarray .char, 2) := by decide +kernel
theorem dX7_init_181 : decode cX7_init 181 = .ok (.putfield 79, 3) := by decide +kernel
theorem dX7_init_184 : decode cX7_init 184 = .ok (.aload_n 0, 1) := by decide +kernel
theorem dX7_init_185 : decode cX7_init 185 = .ok (.bipush 24, 2) := by decide +kernel
theorem dX7_init_187 : decode cX7_init 187 = .ok (.newarray .int, 2) := by decide +kernel
theorem dX7_init_189 : decode cX7_init 189 = .ok (.putfield 82, 3) := by decide +kernel
theorem dX7_init_192 : decode cX7_init 192 = .ok (.return_, 1) := by decide +kernel
theorem dX7_thrown_0 : decode cX7_thrown 0 = .ok (.aload_n 0, 1) := by decide +kernel
theorem dX7_thrown_1 : decode cX7_thrown 1 = .ok (.getfield 85, 3) := by decide +kernel
theorem dX7_thrown_4 : decode cX7_thrown 4 = .ok (.ireturn, 1) := by decide +kernel
theorem dX7_fails_0 : decode cX7_fails 0 = .ok (.aload_n 0, 1) := by decide +kernel
theorem dX7_fails_1 : decode cX7_fails 1 = .ok (.iload_n 1, 1) := by decide +kernel
theorem dX7_fails_2 : decode cX7_fails 2 = .ok (.putfield 85, 3) := by decide +kernel
theorem dX7_fails_5 : decode cX7_fails 5 = .ok (.iconst 0, 1) := by decide +kernel
theorem dX7_fails_6 : decode cX7_fails 6 = .ok (.ireturn, 1) := by decide +kernel
theorem dX7_isWrong_0 : decode cX7_isWrong 0 = .ok (.aload_n 0, 1) := by decide +kernel
theorem dX7_isWrong_1 : decode cX7_isWrong 1 = .ok (.iload_n 1, 1) := by decide +kernel
theorem dX7_isWrong_2 : decode cX7_isWrong 2 = .ok (.putfield 85, 3) := by decide +kernel
theorem dX7_isWrong_5 : decode cX7_isWrong 5 = .ok (.iconst 0, 1) := by decide +kernel
theorem dX7_isWrong_6 : decode cX7_isWrong 6 = .ok (.ireturn, 1) := by decide +kernel
theorem dX7_isBetween_0 : decode cX7_isBetween 0 = .ok (.iload_n 1, 1) := by decide +kernel
theorem dX7_isBetween_1 : decode cX7_isBetween 1 = .ok (.iload_n 0, 1) := by decide +kernel
theorem dX7_isBetween_2 : decode cX7_isBetween 2 = .ok (.if_icmp .gt 12, 3) := by decide +kernel
theorem dX7_isBetween_5 : decode cX7_isBetween 5 = .ok (.iload_n 0, 1) := by decide +kernel
theorem dX7_isBetween_6 : decode cX7_isBetween 6 = .ok (.iload_n 2, 1) := by decide +kernel
theorem dX7_isBetween_7 : decode cX7_isBetween 7 = .ok (.if_icmp .gt 7, 3) := by decide +kernel
theorem dX7_isBetween_10 : decode cX7_isBetween 10 = .ok (.iconst 1, 1) := by decide +kernel
theorem dX7_isBetween_11 : decode cX7_isBetween 11 = .ok (.goto 4, 3) := by decide +kernel
theorem dX7_isBetween_14 : decode cX7_isBetween 14 = .ok (.iconst 0, 1) := by decide +kernel
theorem dX7_isBetween_15 : decode cX7_isBetween 15 = .ok (.ireturn, 1) := by decide +kernel
theorem dX7_has_0 : decode cX7_has 0 = .ok (.iload_n 0, 1) := by decide +kernel
theorem dX7_has_1 : decode cX7_has 1 = .ok (.iload_n 1, 1) := by decide +kernel
theorem dX7_has_2 : decode cX7_has 2 = .ok (.ishr, 1) := by decide +kernel
theorem dX7_has_3 : decode cX7_has 3 = .ok (.iconst 1, 1) := by decide +kernel
theorem dX7_has_4 : decode cX7_has 4 = .ok (.iand, 1) := by decide +kernel
theorem dX7_has_5 : decode cX7_has 5 = .ok (.iconst 1, 1) := by decide +kernel
theorem dX7_has_6 : decode cX7_has 6 = .ok (.if_icmp .ne 7, 3) := by decide +kernel
theorem dX7_has_9 : decode cX7_has 9 = .ok (.iconst 1, 1) := by decide +kernel
theorem dX7_has_10 : decode cX7_has 10 = .ok (.goto 4, 3) := by decide +kernel
theorem dX7_has_13 : decode cX7_has 13 = .ok (.iconst 0, 1) := by decide +kernel
theorem dX7_has_14 : decode cX7_has 14 = .ok (.ireturn, 1) := by decide +kernel
set_option maxRecDepth 20000 in
theorem ggX7_size_X7_has : GoodIn wsX7_size wsX7_has := goodIn_r _ [4] (by decide +kernel) (by decide +kernel)
set_option maxRecDepth 20000 in
theorem gX7_size_X7_has : GoodIn wsX7_size (va_wsS RX7 88 yX7_has wsX7_has) := goodIn_app (goodIn_of _ (by decide +kernel)) ggX7_size_X7_has
theorem dX7_size_0 : decode cX7_size 0 = .ok (.iconst 0, 1) := by decide +kernel
theorem dX7_size_1 : decode cX7_size 1 = .ok (.istore_n 1, 1) := by decide +kernel
theorem dX7_size_2 : decode cX7_size 2 = .ok (.iconst 0, 1) := by decide +kernel
theorem dX7_size_3 : decode cX7_size 3 = .ok (.istore_n 2, 1) := by decide +kernel
theorem dX7_size_4 : decode cX7_size 4 = .ok (.iload_n 2, 1) := by decide +kernel
theorem dX7_size_5 : decode cX7_size 5 = .ok (.bipush 16, 2) := by decide +kernel
theorem dX7_size_7 : decode cX7_size 7 = .ok (.if_icmp .ge 25, 3) := by decide +kernel
theorem dX7_size_10 : decode cX7_size 10 = .ok (.iload_n 1, 1) := by decide +kernel
theorem dX7_size_11 : decode cX7_size 11 = .ok (.iload_n 0, 1) := by decide +kernel
theorem dX7_size_12 : decode cX7_size 12 = .ok (.iload_n 2, 1) := by decide +kernel
theorem dX7_size_13 : decode cX7_size 13 = .ok (.invokestatic 88, 3) := by decide +kernel
theorem dX7_size_16 : decode cX7_size 16 = .ok (.ifCond .eq 7, 3) := by decide +kernel
theorem dX7_size_19 : decode cX7_size 19 = .ok (.iconst 1, 1) := by decide +kernel
theorem dX7_size_20 : decode cX7_size 20 = .ok (.goto 4, 3) := by decide +kernel
theorem dX7_size_23 : decode cX7_size 23 = .ok (.iconst 0, 1) := by decide +kernel
theorem dX7_size_24 : decode cX7_size 24 = .ok (.iadd, 1) := by decide +kernel
theorem dX7_size_25 : decode cX7_size 25 = .ok (.istore_n 1, 1) := by decide +kernel
theorem dX7_size_26 : decode cX7_size 26 = .ok (.iinc 2 1, 3) := by decide +kernel
theorem dX7_size_29 : decode cX7_size 29 = .ok (.goto (-25), 3) := by decide +kernel
theorem dX7_size_32 : decode cX7_size 32 = .ok (.iload_n 1, 1) := by decide +kernel
theorem dX7_size_33 : decode cX7_size 33 = .ok (.ireturn, 1) := by decide +kernel
set_option maxRecDepth 20000 in
theorem ggX7_isPerson_X7_isBetween : GoodIn wsX7_isPerson wsX7_isBetween := goodIn_r _ [5] (by decide +kernel) (by decide +kernel)
set_option maxRecDepth 20000 in
theorem gX7_isPerson_X7_isBetween : GoodIn wsX7_isPerson (va_wsS RX7 95 yX7_isBetween wsX7_isBetween) := goodIn_app (goodIn_of _ (by decide +kernel)) ggX7_isPerson_X7_isBetween
theorem dX7_isPerson_0 : decode cX7_isPerson 0 = .ok (.iload_n 1, 1) := by decide +kernel
theorem dX7_isPerson_1 : decode cX7_isPerson 1 = .ok (.iconst 0, 1) := by decide +kernel
theorem dX7_isPerson_2 : decode cX7_isPerson 2 = .ok (.aload_n 0, 1) := by decide +kernel
theorem dX7_isPerson_3 : decode cX7_isPerson 3 = .ok (.getfield 92, 3) := by decide +kernel
theorem dX7_isPerson_6 : decode cX7_isPerson 6 = .ok (.iconst 1, 1) := by decide +kernel
theorem dX7_isPerson_7 : decode cX7_isPerson 7 = .ok (.isub, 1) := by decide +kernel
theorem dX7_isPerson_8 : decode cX7_isPerson 8 = .ok (.invokestatic 95, 3) := by decide +kernel
theorem dX7_isPerson_11 : decode cX7_isPerson 11 = .ok (.ireturn, 1) := by decide +kernel
set_option maxRecDepth 20000 in
theorem ggX7_isGroup_X7_isBetween : GoodIn wsX7_isGroup wsX7_isBetween := goodIn_r _ [5] (by decide +kernel) (by decide +kernel)
set_option maxRecDepth 20000 in
theorem gX7_isGroup_X7_isBetween : GoodIn wsX7_isGroup (va_wsS RX7 95 yX7_isBetween wsX7_isBetween) := goodIn_app (goodIn_of _ (by decide +kernel)) ggX7_isGroup_X7_isBetween
theorem dX7_isGroup_0 : decode cX7_isGroup 0 = .ok (.iload_n 1, 1) := by decide +kernel
theorem dX7_isGroup_1 : decode cX7_isGroup 1 = .ok (.iconst 0, 1) := by decide +kernel
theorem dX7_isGroup_2 : decode cX7_isGroup 2 = .ok (.aload_n 0, 1) := by decide +kernel
theorem dX7_isGroup_3 : decode cX7_isGroup 3 = .ok (.getfield 99, 3) := by decide +kernel
theorem dX7_isGroup_6 : decode cX7_isGroup 6 = .ok (.iconst 1, 1) := by decide +kernel
theorem dX7_isGroup_7 : decode cX7_isGroup 7 = .ok (.isub, 1) := by decide +kernel
theorem dX7_isGroup_8 : decode cX7_isGroup 8 = .ok (.invokestatic 95, 3) := by decide +kernel
theorem dX7_isGroup_11 : decode cX7_isGroup 11 = .ok (.ireturn, 1) := by decide +kernel
set_option maxRecDepth 20000 in
theorem ggX7_isRight_X7_isBetween : GoodIn wsX7_isRight wsX7_isBetween := goodIn_r _ [5] (by decide +kernel) (by decide +kernel)
set_option maxRecDepth 20000 in
theorem gX7_isRight_X7_isBetween : GoodIn wsX7_isRight (va_wsS RX7 95 yX7_isBetween wsX7_isBetween) := goodIn_app (goodIn_of _ (by decide +kernel)) ggX7_isRight_X7_isBetween
theorem dX7_isRight_0 : decode cX7_isRight 0 = .ok (.iload_n 1, 1) := by decide +kernel
theorem dX7_isRight_1 : decode cX7_isRight 1 = .ok (.iconst 0, 1) := by decide +kernel
theorem dX7_isRight_2 : decode cX7_isRight 2 = .ok (.aload_n 0, 1) := by decide +kernel
theorem dX7_isRight_3 : decode cX7_isRight 3 = .ok (.getfield 102, 3) := by decide +kernel
theorem dX7_isRight_6 : decode cX7_isRight 6 = .ok (.iconst 1, 1) := by decide +kernel
theorem dX7_isRight_7 : decode cX7_isRight 7 = .ok (.isub, 1) := by decide +kernel
theorem dX7_isRight_8 : decode cX7_isRight 8 = .ok (.invokestatic 95, 3) := by decide +kernel
theorem dX7_isRight_11 : decode cX7_isRight 11 = .ok (.ireturn, 1) := by decide +kernel
set_option maxRecDepth 20000 in
theorem ggX7_isGrant_X7_isBetween : GoodIn wsX7_isGrant wsX7_isBetween := goodIn_r _ [5] (by decide +kernel) (by decide +kernel)
set_option maxRecDepth 20000 in
theorem gX7_isGrant_X7_isBetween : GoodIn wsX7_isGrant (va_wsS RX7 95 yX7_isBetween wsX7_isBetween) := goodIn_app (goodIn_of _ (by decide +kernel)) ggX7_isGrant_X7_isBetween
theorem dX7_isGrant_0 : decode cX7_isGrant 0 = .ok (.iload_n 1, 1) := by decide +kernel
theorem dX7_isGrant_1 : decode cX7_isGrant 1 = .ok (.iconst 0, 1) := by decide +kernel
theorem dX7_isGrant_2 : decode cX7_isGrant 2 = .ok (.aload_n 0, 1) := by decide +kernel
theorem dX7_isGrant_3 : decode cX7_isGrant 3 = .ok (.getfield 105, 3) := by decide +kernel
theorem dX7_isGrant_6 : decode cX7_isGrant 6 = .ok (.iconst 1, 1) := by decide +kernel
theorem dX7_isGrant_7 : decode cX7_isGrant 7 = .ok (.isub, 1) := by decide +kernel
theorem dX7_isGrant_8 : decode cX7_isGrant 8 = .ok (.invokestatic 95, 3) := by decide +kernel
theorem dX7_isGrant_11 : decode cX7_isGrant 11 = .ok (.ireturn, 1) := by decide +kernel
set_option maxRecDepth 20000 in
theorem ggX7_addPerson_X7_isBetween : GoodIn wsX7_addPerson wsX7_isBetween := goodIn_r _ [9] (by decide +kernel) (by decide +kernel)
set_option maxRecDepth 20000 in
theorem gX7_addPerson_X7_isBetween : GoodIn wsX7_addPerson (va_wsS RX7 95 yX7_isBetween wsX7_isBetween) := goodIn_app (goodIn_of _ (by decide +kernel)) ggX7_addPerson_X7_isBetween
set_option maxRecDepth 20000 in
theorem ggX7_addPerson_X7_fails : GoodIn wsX7_addPerson wsX7_fails := goodIn_r _ [13, 1, 18, 19, 20, 21, 22, 23, 24, 25, 26, 27, 28, 29, 30, 31, 32, 33, 34, 35, 36, 37, 38, 39, 40, 41, 42, 43, 44, 45, 46, 47, 48, 49, 50, 51, 52, 53, 54] (by decide +kernel) (by decide +kernel)
set_option maxRecDepth 20000 in
theorem gX7_addPerson_X7_fails : GoodIn wsX7_addPerson (wsV RX7 108 RX7 yX7_fails wsX7_fails) := goodIn_app (goodIn_of _ (by decide +kernel)) ggX7_addPerson_X7_fails
set_option maxRecDepth 20000 in
theorem ggX7_addPerson_X7_isPerson : GoodIn wsX7_addPerson wsX7_isPerson := goodIn_r _ [17, 2, 6, 7, 8, 9, 18, 19, 20, 21, 22, 23, 24, 25, 26, 27, 28, 29, 30, 31, 32, 33, 34, 35, 36, 37, 38, 39, 40, 41, 42, 43, 44, 45, 46, 47, 48, 49, 50, 51, 52, 53, 54] (by decide +kernel) (by decide +kernel)
set_option maxRecDepth 20000 in
theorem gX7_addPerson_X7_isPerson : GoodIn wsX7_addPerson (wsV RX7 112 RX7 yX7_isPerson wsX7_isPerson) := goodIn_app (goodIn_of _ (by decide +kernel)) ggX7_addPerson_X7_isPerson
theorem dX7_addPerson_0 : decode cX7_addPerson 0 = .ok (.aload_n 0, 1) := by decide +kernel
theorem dX7_addPerson_1 : decode cX7_addPerson 1 = .ok (.iconst 0, 1) := by decide +kernel
theorem dX7_addPerson_2 : decode cX7_addPerson 2 = .ok (.putfield 85, 3) := by decide +kernel
theorem dX7_addPerson_5 : decode cX7_addPerson 5 = .ok (.iload_n 1, 1) := by decide +kernel
theorem dX7_addPerson_6 : decode cX7_addPerson 6 = .ok (.iconst 0, 1) := by decide +kernel
theorem dX7_addPerson_7 : decode cX7_addPerson 7 = .ok (.iconst 3, 1) := by decide +kernel
theorem dX7_addPerson_8 : decode cX7_addPerson 8 = .ok (.invokestatic 95, 3) := by decide +kernel
theorem dX7_addPerson_11 : decode cX7_addPerson 11 = .ok (.ifCond .ne 9, 3) := by decide +kernel
theorem dX7_addPerson_14 : decode cX7_addPerson 14 = .ok (.aload_n 0, 1) := by decide +kernel
theorem dX7_addPerson_15 : decode cX7_addPerson 15 = .ok (.iconst 1, 1) := by decide +kernel
theorem dX7_addPerson_16 : decode cX7_addPerson 16 = .ok (.invokevirtual 108, 3) := by decide +kernel
theorem dX7_addPerson_19 : decode cX7_addPerson 19 = .ok (.ireturn, 1) := by decide +kernel
theorem dX7_addPerson_20 : decode cX7_addPerson 20 = .ok (.iload_n 2, 1) := by decide +kernel
theorem dX7_addPerson_21 : decode cX7_addPerson 21 = .ok (.iconst (-1), 1) := by decide +kernel
theorem dX7_addPerson_22 : decode cX7_addPerson 22 = .ok (.if_icmp .eq 17, 3) := by decide +kernel
theorem dX7_addPerson_25 : decode cX7_addPerson 25 = .ok (.aload_n 0, 1) := by decide +kernel
theorem dX7_addPerson_26 : decode cX7_addPerson 26 = .ok (.iload_n 2, 1) := by decide +kernel
theorem dX7_addPerson_27 : decode cX7_addPerson 27 = .ok (.invokevirtual 112, 3) := by decide +kernel
theorem dX7_addPerson_30 : decode cX7_addPerson 30 = .ok (.ifCond .ne 9, 3) := by decide +kernel
theorem dX7_addPerson_33 : decode cX7_addPerson 33 = .ok (.aload_n 0, 1) := by decide +kernel
theorem dX7_addPerson_34 : decode cX7_addPerson 34 = .ok (.iconst 2, 1) := by decide +kernel
theorem dX7_addPerson_35 : decode cX7_addPerson 35 = .ok (.invokevirtual 108, 3) := by decide +kernel
theorem dX7_addPerson_38 : decode cX7_addPerson 38 = .ok (.ireturn, 1) := by decide +kernel
theorem dX7_addPerson_39 : decode cX7_addPerson 39 = .ok (.aload_n 0, 1) := by decide +kernel
theorem dX7_addPerson_40 : decode cX7_addPerson 40 = .ok (.getfield 92, 3) := by decide +kernel
theorem dX7_addPerson_43 : decode cX7_addPerson 43 = .ok (.bipush 10, 2) := by decide +kernel
theorem dX7_addPerson_45 : decode cX7_addPerson 45 = .ok (.if_icmp .ne 9, 3) := by decide +kernel
theorem dX7_addPerson_48 : decode cX7_addPerson 48 = .ok (.aload_n 0, 1) := by decide +kernel
theorem dX7_addPerson_49 : decode cX7_addPerson 49 = .ok (.iconst 3, 1) := by decide +kernel
theorem dX7_addPerson_50 : decode cX7_addPerson 50 = .ok (.invokevirtual 108, 3) := by decide +kernel
theorem dX7_addPerson_53 : decode cX7_addPerson 53 = .ok (.ireturn, 1) := by decide +kernel
theorem dX7_addPerson_54 : decode cX7_addPerson 54 = .ok (.aload_n 0, 1) := by decide +kernel
theorem dX7_addPerson_55 : decode cX7_addPerson 55 = .ok (.getfield 9, 3) := by decide +kernel
theorem dX7_addPerson_58 : decode cX7_addPerson 58 = .ok (.aload_n 0, 1) := by decide +kernel
theorem dX7_addPerson_59 : decode cX7_addPerson 59 = .ok (.getfield 92, 3) := by decide +kernel
theorem dX7_addPerson_62 : decode cX7_addPerson 62 = .ok (.iload_n 1, 1) := by decide +kernel
theorem dX7_addPerson_63 : decode cX7_addPerson 63 = .ok (.iastore, 1) := by decide +kernel
theorem dX7_addPerson_64 : decode cX7_addPerson 64 = .ok (.aload_n 0, 1) := by decide +kernel
theorem dX7_addPerson_65 : decode cX7_addPerson 65 = .ok (.getfield 13, 3) := by decide +kernel
theorem dX7_addPerson_68 : decode cX7_addPerson 68 = .ok (.aload_n 0, 1) := by decide +kernel
theorem dX7_addPerson_69 : decode cX7_addPerson 69 = .ok (.getfield 92, 3) := by decide +kernel
theorem dX7_addPerson_72 : decode cX7_addPerson 72 = .ok (.iload_n 2, 1) := by decide +kernel
theorem dX7_addPerson_73 : decode cX7_addPerson 73 = .ok (.iastore, 1) := by decide +kernel
theorem dX7_addPerson_74 : decode cX7_addPerson 74 = .ok (.aload_n 0, 1) := by decide +kernel
theorem dX7_addPerson_75 : decode cX7_addPerson 75 = .ok (.getfield 16, 3) := by decide +kernel
theorem dX7_addPerson_78 : decode cX7_addPerson 78 = .ok (.aload_n 0, 1) := by decide +kernel
theorem dX7_addPerson_79 : decode cX7_addPerson 79 = .ok (.getfield 92, 3) := by decide +kernel
theorem dX7_addPerson_82 : decode cX7_addPerson 82 = .ok (.iconst (-1), 1) := by decide +kernel
theorem dX7_addPerson_83 : decode cX7_addPerson 83 = .ok (.iastore, 1) := by decide +kernel
theorem dX7_addPerson_84 : decode cX7_addPerson 84 = .ok (.aload_n 0, 1) := by decide +kernel
theorem dX7_addPerson_85 : decode cX7_addPerson 85 = .ok (.dup, 1) := by decide +kernel
theorem dX7_addPerson_86 : decode cX7_addPerson 86 = .ok (.getfield 92, 3) := by decide +kernel
theorem dX7_addPerson_89 : decode cX7_addPerson 89 = .ok (.iconst 1, 1) := by decide +kernel
theorem dX7_addPerson_90 : decode cX7_addPerson 90 = .ok (.iadd, 1) := by decide +kernel
theorem dX7_addPerson_91 : decode cX7_addPerson 91 = .ok (.putfield 92, 3) := by decide +kernel
theorem dX7_addPerson_94 : decode cX7_addPerson 94 = .ok (.aload_n 0, 1) := by decide +kernel
theorem dX7_addPerson_95 : decode cX7_addPerson 95 = .ok (.getfield 92, 3) := by decide +kernel
theorem dX7_addPerson_98 : decode cX7_addPerson 98 = .ok (.iconst 1, 1) := by decide +kernel
theorem dX7_addPerson_99 : decode cX7_addPerson 99 = .ok (.isub, 1) := by decide +kernel
theorem dX7_addPerson_100 : decode cX7_addPerson 100 = .ok (.ireturn, 1) := by decide +kernel
set_option maxRecDepth 20000 in
theorem ggX7_setAbsent_X7_isPerson : GoodIn wsX7_setAbsent wsX7_isPerson := goodIn_r _ [7, 8, 9, 10, 6, 11, 19, 20, 21, 22, 23, 24, 25, 26, 27, 28, 29, 30, 31, 32, 33, 34, 35, 36, 37, 38, 39, 40, 41, 42, 43, 44, 45, 46, 47, 48, 49, 50, 51, 52, 53, 54, 55] (by decide +kernel) (by decide +kernel)
set_option maxRecDepth 20000 in
theorem gX7_setAbsent_X7_isPerson : GoodIn wsX7_setAbsent (wsV RX7 112 RX7 yX7_isPerson wsX7_isPerson) := goodIn_app (goodIn_of _ (by decide +kernel)) ggX7_setAbsent_X7_isPerson
set_option maxRecDepth 20000 in
theorem ggX7_setAbsent_X7_isWrong : GoodIn wsX7_setAbsent wsX7_isWrong := goodIn_r _ [15, 1, 19, 20, 21, 22, 23, 24, 25, 26, 27, 28, 29, 30, 31, 32, 33, 34, 35, 36, 37, 38, 39, 40, 41, 42, 43, 44, 45, 46, 47, 48, 49, 50, 51, 52, 53, 54, 55] (by decide +kernel) (by decide +kernel)
set_option maxRecDepth 20000 in
theorem gX7_setAbsent_X7_isWrong : GoodIn wsX7_setAbsent (wsV RX7 116 RX7 yX7_isWrong wsX7_isWrong) := goodIn_app (goodIn_of _ (by decide +kernel)) ggX7_setAbsent_X7_isWrong
set_option maxRecDepth 20000 in
theorem ggX7_setAbsent_X7_has : GoodIn wsX7_setAbsent wsX7_has := goodIn_r _ [18] (by decide +kernel) (by decide +kernel)
set_option maxRecDepth 20000 in
theorem gX7_setAbsent_X7_has : GoodIn wsX7_setAbsent (va_wsS RX7 88 yX7_has wsX7_has) := goodIn_app (goodIn_of _ (by decide +kernel)) ggX7_setAbsent_X7_has
theorem dX7_setAbsent_0 : decode cX7_setAbsent 0 = .ok (.aload_n 0, 1) := by decide +kernel
theorem dX7_setAbsent_1 : decode cX7_setAbsent 1 = .ok (.iconst 0, 1) := by decide +kernel
theorem dX7_setAbsent_2 : decode cX7_setAbsent 2 = .ok (.putfield 85, 3) := by decide +kernel
theorem dX7_setAbsent_5 : decode cX7_setAbsent 5 = .ok (.aload_n 0, 1) := by decide +kernel
theorem dX7_setAbsent_6 : decode cX7_setAbsent 6 = .ok (.iload_n 1, 1) := by decide +kernel
theorem dX7_setAbsent_7 : decode cX7_setAbsent 7 = .ok (.invokevirtual 112, 3) := by decide +kernel
theorem dX7_setAbsent_10 : decode cX7_setAbsent 10 = .ok (.ifCond .ne 9, 3) := by decide +kernel
theorem dX7_setAbsent_13 : decode cX7_setAbsent 13 = .ok (.aload_n 0, 1) := by decide +kernel
theorem dX7_setAbsent_14 : decode cX7_setAbsent 14 = .ok (.iconst 1, 1) := by decide +kernel
theorem dX7_setAbsent_15 : decode cX7_setAbsent 15 = .ok (.invokevirtual 116, 3) := by decide +kernel
theorem dX7_setAbsent_18 : decode cX7_setAbsent 18 = .ok (.ireturn, 1) := by decide +kernel
theorem dX7_setAbsent_19 : decode cX7_setAbsent 19 = .ok (.aload_n 0, 1) := by decide +kernel
theorem dX7_setAbsent_20 : decode cX7_setAbsent 20 = .ok (.getfield 119, 3) := by decide +kernel
theorem dX7_setAbsent_23 : decode cX7_setAbsent 23 = .ok (.iload_n 1, 1) := by decide +kernel
theorem dX7_setAbsent_24 : decode cX7_setAbsent 24 = .ok (.invokestatic 88, 3) := by decide +kernel
theorem dX7_setAbsent_27 : decode cX7_setAbsent 27 = .ok (.istore_n 3, 1) := by decide +kernel
theorem dX7_setAbsent_28 : decode cX7_setAbsent 28 = .ok (.aload_n 0, 1) := by decide +kernel
theorem dX7_setAbsent_29 : decode cX7_setAbsent 29 = .ok (.iload_n 2, 1) := by decide +kernel
theorem dX7_setAbsent_30 : decode cX7_setAbsent 30 = .ok (.ifCond .eq 14, 3) := by decide +kernel
theorem dX7_setAbsent_33 : decode cX7_setAbsent 33 = .ok (.aload_n 0, 1) := by decide +kernel
theorem dX7_setAbsent_34 : decode cX7_setAbsent 34 = .ok (.getfield 119, 3) := by decide +kernel
theorem dX7_setAbsent_37 : decode cX7_setAbsent 37 = .ok (.iconst 1, 1) := by decide +kernel
theorem dX7_setAbsent_38 : decode cX7_setAbsent 38 = .ok (.iload_n 1, 1) := by decide +kernel
theorem dX7_setAbsent_39 : decode cX7_setAbsent 39 = .ok (.ishl, 1) := by decide +kernel
theorem dX7_setAbsent_40 : decode cX7_setAbsent 40 = .ok (.ior, 1) := by decide +kernel
theorem dX7_setAbsent_41 : decode cX7_setAbsent 41 = .ok (.goto 13, 3) := by decide +kernel
theorem dX7_setAbsent_44 : decode cX7_setAbsent 44 = .ok (.aload_n 0, 1) := by decide +kernel
theorem dX7_setAbsent_45 : decode cX7_setAbsent 45 = .ok (.getfield 119, 3) := by decide +kernel
theorem dX7_setAbsent_48 : decode cX7_setAbsent 48 = .ok (.iconst 1, 1) := by decide +kernel
theorem dX7_setAbsent_49 : decode cX7_setAbsent 49 = .ok (.iload_n 1, 1) := by decide +kernel
theorem dX7_setAbsent_50 : decode cX7_setAbsent 50 = .ok (.ishl, 1) := by decide +kernel
theorem dX7_setAbsent_51 : decode cX7_setAbsent 51 = .ok (.iconst (-1), 1) := by decide +kernel
theorem dX7_setAbsent_52 : decode cX7_setAbsent 52 = .ok (.ixor, 1) := by decide +kernel
theorem dX7_setAbsent_53 : decode cX7_setAbsent 53 = .ok (.iand, 1) := by decide +kernel
theorem dX7_setAbsent_54 : decode cX7_setAbsent 54 = .ok (.putfield 119, 3) := by decide +kernel
theorem dX7_setAbsent_57 : decode cX7_setAbsent 57 = .ok (.iload_n 3, 1) := by decide +kernel
theorem dX7_setAbsent_58 : decode cX7_setAbsent 58 = .ok (.ireturn, 1) := by decide +kernel
set_option maxRecDepth 20000 in
theorem ggX7_setSubstitute_X7_isPerson : GoodIn wsX7_setSubstitute wsX7_isPerson := goodIn_r _ [7, 8, 9, 10, 6, 11, 16, 17, 18, 19, 20, 21, 22, 23, 24, 25, 26, 27, 28, 29, 30, 31, 32, 33, 34, 35, 36, 37, 38, 39, 40, 41, 42, 43, 44, 45, 46, 47, 48, 49, 50, 51, 52] (by decide +kernel) (by decide +kernel)
set_option maxRecDepth 20000 in
theorem gX7_setSubstitute_X7_isPerson : GoodIn wsX7_setSubstitute (wsV RX7 112 RX7 yX7_isPerson wsX7_isPerson) := goodIn_app (goodIn_of _ (by decide +kernel)) ggX7_setSubstitute_X7_isPerson
set_option maxRecDepth 20000 in
theorem ggX7_setSubstitute_X7_fails : GoodIn wsX7_setSubstitute wsX7_fails := goodIn_r _ [15, 1, 16, 17, 18, 19, 20, 21, 22, 23, 24, 25, 26, 27, 28, 29, 30, 31, 32, 33, 34, 35, 36, 37, 38, 39, 40, 41, 42, 43, 44, 45, 46, 47, 48, 49, 50, 51, 52] (by decide +kernel) (by decide +kernel)
set_option maxRecDepth 20000 in
theorem gX7_setSubstitute_X7_fails : GoodIn wsX7_setSubstitute (wsV RX7 108 RX7 yX7_fails wsX7_fails) := goodIn_app (goodIn_of _ (by decide +kernel)) ggX7_setSubstitute_X7_fails
theorem dX7_setSubstitute_0 : decode cX7_setSubstitute 0 = .ok (.aload_n 0, 1) := by decide +kernel
theorem dX7_setSubstitute_1 : decode cX7_setSubstitute 1 = .ok (.iconst 0, 1) := by decide +kernel
theorem dX7_setSubstitute_2 : decode cX7_setSubstitute 2 = .ok (.putfield 85, 3) := by decide +kernel
theorem dX7_setSubstitute_5 : decode cX7_setSubstitute 5 = .ok (.aload_n 0, 1) := by decide +kernel
theorem dX7_setSubstitute_6 : decode cX7_setSubstitute 6 = .ok (.iload_n 1, 1) := by decide +kernel
theorem dX7_setSubstitute_7 : decode cX7_setSubstitute 7 = .ok (.invokevirtual 112, 3) := by decide +kernel
theorem dX7_setSubstitute_10 : decode cX7_setSubstitute 10 = .ok (.ifCond .eq 16, 3) := by decide +kernel
theorem dX7_setSubstitute_13 : decode cX7_setSubstitute 13 = .ok (.iload_n 2, 1) := by decide +kernel
theorem dX7_setSubstitute_14 : decode cX7_setSubstitute 14 = .ok (.iconst (-1), 1) := by decide +kernel
theorem dX7_setSubstitute_15 : decode cX7_setSubstitute 15 = .ok (.if_icmp .eq 17, 3) := by decide +kernel
theorem dX7_setSubstitute_18 : decode cX7_setSubstitute 18 = .ok (.aload_n 0, 1) := by decide +kernel
theorem dX7_setSubstitute_19 : decode cX7_setSubstitute 19 = .ok (.iload_n 2, 1) := by decide +kernel
theorem dX7_setSubstitute_20 : decode cX7_setSubstitute 20 = .ok (.invokevirtual 112, 3) := by decide +kernel
theorem dX7_setSubstitute_23 : decode cX7_setSubstitute 23 = .ok (.ifCond .ne 9, 3) := by decide +kernel
theorem dX7_setSubstitute_26 : decode cX7_setSubstitute 26 = .ok (.aload_n 0, 1) := by decide +kernel
theorem dX7_setSubstitute_27 : decode cX7_setSubstitute 27 = .ok (.iconst 1, 1) := by decide +kernel
theorem dX7_setSubstitute_28 : decode cX7_setSubstitute 28 = .ok (.invokevirtual 108, 3) := by decide +kernel
theorem dX7_setSubstitute_31 : decode cX7_setSubstitute 31 = .ok (.ireturn, 1) := by decide +kernel
theorem dX7_setSubstitute_32 : decode cX7_setSubstitute 32 = .ok (.iload_n 1, 1) := by decide +kernel
theorem dX7_setSubstitute_33 : decode cX7_setSubstitute 33 = .ok (.iload_n 2, 1) := by decide +kernel
theorem dX7_setSubstitute_34 : decode cX7_setSubstitute 34 = .ok (.if_icmp .ne 9, 3) := by decide +kernel
theorem dX7_setSubstitute_37 : decode cX7_setSubstitute 37 = .ok (.aload_n 0, 1) := by decide +kernel
theorem dX7_setSubstitute_38 : decode cX7_setSubstitute 38 = .ok (.iconst 2, 1) := by decide +kernel
theorem dX7_setSubstitute_39 : decode cX7_setSubstitute 39 = .ok (.invokevirtual 108, 3) := by decide +kernel
theorem dX7_setSubstitute_42 : decode cX7_setSubstitute 42 = .ok (.ireturn, 1) := by decide +kernel
theorem dX7_setSubstitute_43 : decode cX7_setSubstitute 43 = .ok (.aload_n 0, 1) := by decide +kernel
theorem dX7_setSubstitute_44 : decode cX7_setSubstitute 44 = .ok (.getfield 16, 3) := by decide +kernel
theorem dX7_setSubstitute_47 : decode cX7_setSubstitute 47 = .ok (.iload_n 1, 1) := by decide +kernel
theorem dX7_setSubstitute_48 : decode cX7_setSubstitute 48 = .ok (.iaload, 1) := by decide +kernel
theorem dX7_setSubstitute_49 : decode cX7_setSubstitute 49 = .ok (.istore_n 3, 1) := by decide +kernel
theorem dX7_setSubstitute_50 : decode cX7_setSubstitute 50 = .ok (.aload_n 0, 1) := by decide +kernel
theorem dX7_setSubstitute_51 : decode cX7_setSubstitute 51 = .ok (.getfield 16, 3) := by decide +kernel
theorem dX7_setSubstitute_54 : decode cX7_setSubstitute 54 = .ok (.iload_n 1, 1) := by decide +kernel
theorem dX7_setSubstitute_55 : decode cX7_setSubstitute 55 = .ok (.iload_n 2, 1) := by decide +kernel
theorem dX7_setSubstitute_56 : decode cX7_setSubstitute 56 = .ok (.iastore, 1) := by decide +kernel
theorem dX7_setSubstitute_57 : decode cX7_setSubstitute 57 = .ok (.iload_n 3, 1) := by decide +kernel
theorem dX7_setSubstitute_58 : decode cX7_setSubstitute 58 = .ok (.ireturn, 1) := by decide +kernel
set_option maxRecDepth 20000 in
theorem ggX7_addGroup_X7_isPerson : GoodIn wsX7_addGroup wsX7_isPerson := goodIn_r _ [8, 9, 10, 11, 7, 12, 17, 18, 19, 20, 21, 22, 23, 24, 25, 26, 27, 28, 29, 30, 31, 32, 33, 34, 35, 36, 37, 38, 39, 40, 41, 42, 43, 44, 45, 46, 47, 48, 49, 50, 51, 52, 53] (by decide +kernel) (by decide +kernel)
set_option maxRecDepth 20000 in
theorem gX7_addGroup_X7_isPerson : GoodIn wsX7_addGroup (wsV RX7 112 RX7 yX7_isPerson wsX7_isPerson) := goodIn_app (goodIn_of _ (by decide +kernel)) ggX7_addGroup_X7_isPerson
set_option maxRecDepth 20000 in
theorem ggX7_addGroup_X7_fails : GoodIn wsX7_addGroup wsX7_fails := goodIn_r _ [16, 1, 17, 18, 19, 20, 21, 22, 23, 24, 25, 26, 27, 28, 29, 30, 31, 32, 33, 34, 35, 36, 37, 38, 39, 40, 41, 42, 43, 44, 45, 46, 47, 48, 49, 50, 51, 52, 53] (by decide +kernel) (by decide +kernel)
set_option maxRecDepth 20000 in
theorem gX7_addGroup_X7_fails : GoodIn wsX7_addGroup (wsV RX7 108 RX7 yX7_fails wsX7_fails) := goodIn_app (goodIn_of _ (by decide +kernel)) ggX7_addGroup_X7_fails
theorem dX7_addGroup_0 : decode cX7_addGroup 0 = .ok (.aload_n 0, 1) := by decide +kernel
theorem dX7_addGroup_1 : decode cX7_addGroup 1 = .ok (.iconst 0, 1) := by decide +kernel
theorem dX7_addGroup_2 : decode cX7_addGroup 2 = .ok (.putfield 85, 3) := by decide +kernel
theorem dX7_addGroup_5 : decode cX7_addGroup 5 = .ok (.aload_n 0, 1) := by decide +kernel
theorem dX7_addGroup_6 : decode cX7_addGroup 6 = .ok (.iload_n 1, 1) := by decide +kernel
theorem dX7_addGroup_7 : decode cX7_addGroup 7 = .ok (.invokevirtual 112, 3) := by decide +kernel
theorem dX7_addGroup_10 : decode cX7_addGroup 10 = .ok (.ifCond .ne 9, 3) := by decide +kernel
theorem dX7_addGroup_13 : decode cX7_addGroup 13 = .ok (.aload_n 0, 1) := by decide +kernel
theorem dX7_addGroup_14 : decode cX7_addGroup 14 = .ok (.iconst 1, 1) := by decide +kernel
theorem dX7_addGroup_15 : decode cX7_addGroup 15 = .ok (.invokevirtual 108, 3) := by decide +kernel
theorem dX7_addGroup_18 : decode cX7_addGroup 18 = .ok (.ireturn, 1) := by decide +kernel
theorem dX7_addGroup_19 : decode cX7_addGroup 19 = .ok (.aload_n 0, 1) := by decide +kernel
theorem dX7_addGroup_20 : decode cX7_addGroup 20 = .ok (.getfield 99, 3) := by decide +kernel
theorem dX7_addGroup_23 : decode cX7_addGroup 23 = .ok (.bipush 8, 2) := by decide +kernel
theorem dX7_addGroup_25 : decode cX7_addGroup 25 = .ok (.if_icmp .ne 9, 3) := by decide +kernel
theorem dX7_addGroup_28 : decode cX7_addGroup 28 = .ok (.aload_n 0, 1) := by decide +kernel
theorem dX7_addGroup_29 : decode cX7_addGroup 29 = .ok (.iconst 2, 1) := by decide +kernel
theorem dX7_addGroup_30 : decode cX7_addGroup 30 = .ok (.invokevirtual 108, 3) := by decide +kernel
theorem dX7_addGroup_33 : decode cX7_addGroup 33 = .ok (.ireturn, 1) := by decide +kernel
theorem dX7_addGroup_34 : decode cX7_addGroup 34 = .ok (.aload_n 0, 1) := by decide +kernel
theorem dX7_addGroup_35 : decode cX7_addGroup 35 = .ok (.getfield 19, 3) := by decide +kernel
theorem dX7_addGroup_38 : decode cX7_addGroup 38 = .ok (.aload_n 0, 1) := by decide +kernel
theorem dX7_addGroup_39 : decode cX7_addGroup 39 = .ok (.getfield 99, 3) := by decide +kernel
theorem dX7_addGroup_42 : decode cX7_addGroup 42 = .ok (.iload_n 1, 1) := by decide +kernel
theorem dX7_addGroup_43 : decode cX7_addGroup 43 = .ok (.iastore, 1) := by decide +kernel
theorem dX7_addGroup_44 : decode cX7_addGroup 44 = .ok (.aload_n 0, 1) := by decide +kernel
theorem dX7_addGroup_45 : decode cX7_addGroup 45 = .ok (.dup, 1) := by decide +kernel
theorem dX7_addGroup_46 : decode cX7_addGroup 46 = .ok (.getfield 99, 3) := by decide +kernel
theorem dX7_addGroup_49 : decode cX7_addGroup 49 = .ok (.iconst 1, 1) := by decide +kernel
theorem dX7_addGroup_50 : decode cX7_addGroup 50 = .ok (.iadd, 1) := by decide +kernel
theorem dX7_addGroup_51 : decode cX7_addGroup 51 = .ok (.putfield 99, 3) := by decide +kernel
theorem dX7_addGroup_54 : decode cX7_addGroup 54 = .ok (.aload_n 0, 1) := by decide +kernel
theorem dX7_addGroup_55 : decode cX7_addGroup 55 = .ok (.getfield 99, 3) := by decide +kernel
theorem dX7_addGroup_58 : decode cX7_addGroup 58 = .ok (.iconst 1, 1) := by decide +kernel
theorem dX7_addGroup_59 : decode cX7_addGroup 59 = .ok (.isub, 1) := by decide +kernel
theorem dX7_addGroup_60 : decode cX7_addGroup 60 = .ok (.ireturn, 1) := by decide +kernel
set_option maxRecDepth 20000 in
theorem ggX7_isNotThere_X7_isGroup : GoodIn wsX7_isNotThere wsX7_isGroup := goodIn_r _ [6, 7, 8, 9, 5, 10, 16, 17, 18, 19, 20, 21, 22, 23, 24, 25, 26, 27, 28, 29, 30, 31, 32, 33, 34, 35, 36, 37, 38, 39, 40, 41, 42, 43, 44, 45, 46, 47, 48, 49, 50, 51, 52] (by decide +kernel) (by decide +kernel)
set_option maxRecDepth 20000 in
theorem gX7_isNotThere_X7_isGroup : GoodIn wsX7_isNotThere (wsV RX7 122 RX7 yX7_isGroup wsX7_isGroup) := goodIn_app (goodIn_of _ (by decide +kernel)) ggX7_isNotThere_X7_isGroup
set_option maxRecDepth 20000 in
theorem ggX7_isNotThere_X7_isPerson : GoodIn wsX7_isNotThere wsX7_isPerson := goodIn_r _ [14, 15, 8, 9, 5, 10, 16, 17, 18, 19, 20, 21, 22, 23, 24, 25, 26, 27, 28, 29, 30, 31, 32, 33, 34, 35, 36, 37, 38, 39, 40, 41, 42, 43, 44, 45, 46, 47, 48, 49, 50, 51, 52] (by decide +kernel) (by decide +kernel)
set_option maxRecDepth 20000 in
theorem gX7_isNotThere_X7_isPerson : GoodIn wsX7_isNotThere (wsV RX7 112 RX7 yX7_isPerson wsX7_isPerson) := goodIn_app (goodIn_of _ (by decide +kernel)) ggX7_isNotThere_X7_isPerson
theorem dX7_isNotThere_0 : decode cX7_isNotThere 0 = .ok (.aload_n 0, 1) := by decide +kernel
theorem dX7_isNotThere_1 : decode cX7_isNotThere 1 = .ok (.aload_n 0, 1) := by decide +kernel
theorem dX7_isNotThere_2 : decode cX7_isNotThere 2 = .ok (.iload_n 1, 1) := by decide +kernel
theorem dX7_isNotThere_3 : decode cX7_isNotThere 3 = .ok (.invokevirtual 122, 3) := by decide +kernel
theorem dX7_isNotThere_6 : decode cX7_isNotThere 6 = .ok (.ifCond .eq 15, 3) := by decide +kernel
theorem dX7_isNotThere_9 : decode cX7_isNotThere 9 = .ok (.aload_n 0, 1) := by decide +kernel
theorem dX7_isNotThere_10 : decode cX7_isNotThere 10 = .ok (.iload_n 2, 1) := by decide +kernel
theorem dX7_isNotThere_11 : decode cX7_isNotThere 11 = .ok (.invokevirtual 112, 3) := by decide +kernel
theorem dX7_isNotThere_14 : decode cX7_isNotThere 14 = .ok (.ifCond .eq 7, 3) := by decide +kernel
theorem dX7_isNotThere_17 : decode cX7_isNotThere 17 = .ok (.iconst 0, 1) := by decide +kernel
theorem dX7_isNotThere_18 : decode cX7_isNotThere 18 = .ok (.goto 4, 3) := by decide +kernel
theorem dX7_isNotThere_21 : decode cX7_isNotThere 21 = .ok (.iconst 1, 1) := by decide +kernel
theorem dX7_isNotThere_22 : decode cX7_isNotThere 22 = .ok (.putfield 85, 3) := by decide +kernel
theorem dX7_isNotThere_25 : decode cX7_isNotThere 25 = .ok (.aload_n 0, 1) := by decide +kernel
theorem dX7_isNotThere_26 : decode cX7_isNotThere 26 = .ok (.getfield 85, 3) := by decide +kernel
theorem dX7_isNotThere_29 : decode cX7_isNotThere 29 = .ok (.ifCond .le 7, 3) := by decide +kernel
theorem dX7_isNotThere_32 : decode cX7_isNotThere 32 = .ok (.iconst 1, 1) := by decide +kernel
theorem dX7_isNotThere_33 : decode cX7_isNotThere 33 = .ok (.goto 4, 3) := by decide +kernel
theorem dX7_isNotThere_36 : decode cX7_isNotThere 36 = .ok (.iconst 0, 1) := by decide +kernel
theorem dX7_isNotThere_37 : decode cX7_isNotThere 37 = .ok (.ireturn, 1) := by decide +kernel
set_option maxRecDepth 20000 in
theorem ggX7_addMember_X7_isNotThere : GoodIn wsX7_addMember wsX7_isNotThere := goodIn_r _ [6, 7, 8, 9, 10, 5, 11, 12, 13, 14, 15, 16, 17, 18, 19, 20, 31, 32, 33, 34, 35, 36, 37, 38, 39, 40, 41, 42, 43, 44, 45, 46, 47, 48, 49, 50, 51, 52, 53, 54, 55, 56, 57, 58, 59, 60, 61, 62, 63, 64, 65, 66, 67] (by decide +kernel) (by decide +kernel)
set_option maxRecDepth 20000 in
theorem gX7_addMember_X7_isNotThere : GoodIn wsX7_addMember (wsV RX7 125 RX7 yX7_isNotThere wsX7_isNotThere) := goodIn_app (goodIn_of _ (by decide +kernel)) ggX7_addMember_X7_isNotThere
set_option maxRecDepth 20000 in
theorem ggX7_addMember_X7_has : GoodIn wsX7_addMember wsX7_has := goodIn_r _ [23] (by decide +kernel) (by decide +kernel)
set_option maxRecDepth 20000 in
theorem gX7_addMember_X7_has : GoodIn wsX7_addMember (va_wsS RX7 88 yX7_has wsX7_has) := goodIn_app (goodIn_of _ (by decide +kernel)) ggX7_addMember_X7_has
set_option maxRecDepth 20000 in
theorem ggX7_addMember_X7_fails : GoodIn wsX7_addMember wsX7_fails := goodIn_r _ [27, 7, 31, 32, 33, 34, 35, 36, 37, 38, 39, 40, 41, 42, 43, 44, 45, 46, 47, 48, 49, 50, 51, 52, 53, 54, 55, 56, 57, 58, 59, 60, 61, 62, 63, 64, 65, 66, 67] (by decide +kernel) (by decide +kernel)
set_option maxRecDepth 20000 in
theorem gX7_addMember_X7_fails : GoodIn wsX7_addMember (wsV RX7 108 RX7 yX7_fails wsX7_fails) := goodIn_app (goodIn_of _ (by decide +kernel)) ggX7_addMember_X7_fails
set_option maxRecDepth 20000 in
theorem ggX7_addMember_X7_size : GoodIn wsX7_addMember wsX7_size := goodIn_r _ [30, 21, 22, 5, 23] (by decide +kernel) (by decide +kernel)
set_option maxRecDepth 20000 in
theorem gX7_addMember_X7_size : GoodIn wsX7_addMember (va_wsS RX7 128 yX7_size wsX7_size) := goodIn_app (goodIn_of _ (by decide +kernel)) ggX7_addMember_X7_size
theorem dX7_addMember_0 : decode cX7_addMember 0 = .ok (.aload_n 0, 1) := by decide +kernel
theorem dX7_addMember_1 : decode cX7_addMember 1 = .ok (.iload_n 1, 1) := by decide +kernel
theorem dX7_addMember_2 : decode cX7_addMember 2 = .ok (.iload_n 2, 1) := by decide +kernel
theorem dX7_addMember_3 : decode cX7_addMember 3 = .ok (.invokevirtual 125, 3) := by decide +kernel
theorem dX7_addMember_6 : decode cX7_addMember 6 = .ok (.ifCond .eq 5, 3) := by decide +kernel
theorem dX7_addMember_9 : decode cX7_addMember 9 = .ok (.iconst 0, 1) := by decide +kernel
theorem dX7_addMember_10 : decode cX7_addMember 10 = .ok (.ireturn, 1) := by decide +kernel
theorem dX7_addMember_11 : decode cX7_addMember 11 = .ok (.aload_n 0, 1) := by decide +kernel
theorem dX7_addMember_12 : decode cX7_addMember 12 = .ok (.getfield 22, 3) := by decide +kernel
theorem dX7_addMember_15 : decode cX7_addMember 15 = .ok (.iload_n 1, 1) := by decide +kernel
theorem dX7_addMember_16 : decode cX7_addMember 16 = .ok (.iaload, 1) := by decide +kernel
theorem dX7_addMember_17 : decode cX7_addMember 17 = .ok (.iload_n 2, 1) := by decide +kernel
theorem dX7_addMember_18 : decode cX7_addMember 18 = .ok (.invokestatic 88, 3) := by decide +kernel
theorem dX7_addMember_21 : decode cX7_addMember 21 = .ok (.ifCond .eq 9, 3) := by decide +kernel
theorem dX7_addMember_24 : decode cX7_addMember 24 = .ok (.aload_n 0, 1) := by decide +kernel
theorem dX7_addMember_25 : decode cX7_addMember 25 = .ok (.iconst 2, 1) := by decide +kernel
theorem dX7_addMember_26 : decode cX7_addMember 26 = .ok (.invokevirtual 108, 3) := by decide +kernel
theorem dX7_addMember_29 : decode cX7_addMember 29 = .ok (.ireturn, 1) := by decide +kernel
theorem dX7_addMember_30 : decode cX7_addMember 30 = .ok (.aload_n 0, 1) := by decide +kernel
theorem dX7_addMember_31 : decode cX7_addMember 31 = .ok (.getfield 22, 3) := by decide +kernel
theorem dX7_addMember_34 : decode cX7_addMember 34 = .ok (.iload_n 1, 1) := by decide +kernel
theorem dX7_addMember_35 : decode cX7_addMember 35 = .ok (.dup2, 1) := by decide +kernel
theorem dX7_addMember_36 : decode cX7_addMember 36 = .ok (.iaload, 1) := by decide +kernel
theorem dX7_addMember_37 : decode cX7_addMember 37 = .ok (.iconst 1, 1) := by decide +kernel
theorem dX7_addMember_38 : decode cX7_addMember 38 = .ok (.iload_n 2, 1) := by decide +kernel
theorem dX7_addMember_39 : decode cX7_addMember 39 = .ok (.ishl, 1) := by decide +kernel
theorem dX7_addMember_40 : decode cX7_addMember 40 = .ok (.ior, 1) := by decide +kernel
theorem dX7_addMember_41 : decode cX7_addMember 41 = .ok (.iastore, 1) := by decide +kernel
theorem dX7_addMember_42 : decode cX7_addMember 42 = .ok (.aload_n 0, 1) := by decide +kernel
theorem dX7_addMember_43 : decode cX7_addMember 43 = .ok (.getfield 22, 3) := by decide +kernel
theorem dX7_addMember_46 : decode cX7_addMember 46 = .ok (.iload_n 1, 1) := by decide +kernel
theorem dX7_addMember_47 : decode cX7_addMember 47 = .ok (.iaload, 1) := by decide +kernel
theorem dX7_addMember_48 : decode cX7_addMember 48 = .ok (.invokestatic 128, 3) := by decide +kernel
theorem dX7_addMember_51 : decode cX7_addMember 51 = .ok (.ireturn, 1) := by decide +kernel
set_option maxRecDepth 20000 in
theorem ggX7_removeMember_X7_isNotThere : GoodIn wsX7_removeMember wsX7_isNotThere := goodIn_r _ [6, 7, 8, 9, 10, 5, 11, 12, 13, 14, 15, 16, 17, 18, 19, 20, 31, 32, 33, 34, 35, 36, 37, 38, 39, 40, 41, 42, 43, 44, 45, 46, 47, 48, 49, 50, 51, 52, 53, 54, 55, 56, 57, 58, 59, 60, 61, 62, 63, 64, 65, 66, 67] (by decide +kernel) (by decide +kernel)
set_option maxRecDepth 20000 in
theorem gX7_removeMember_X7_isNotThere : GoodIn wsX7_removeMember (wsV RX7 125 RX7 yX7_isNotThere wsX7_isNotThere) := goodIn_app (goodIn_of _ (by decide +kernel)) ggX7_removeMember_X7_isNotThere
set_option maxRecDepth 20000 in
theorem ggX7_removeMember_X7_has : GoodIn wsX7_removeMember wsX7_has := goodIn_r _ [23] (by decide +kernel) (by decide +kernel)
set_option maxRecDepth 20000 in
theorem gX7_removeMember_X7_has : GoodIn wsX7_removeMember (va_wsS RX7 88 yX7_has wsX7_has) := goodIn_app (goodIn_of _ (by decide +kernel)) ggX7_removeMember_X7_has
set_option maxRecDepth 20000 in
theorem ggX7_removeMember_X7_fails : GoodIn wsX7_removeMember wsX7_fails := goodIn_r _ [27, 7, 31, 32, 33, 34, 35, 36, 37, 38, 39, 40, 41, 42, 43, 44, 45, 46, 47, 48, 49, 50, 51, 52, 53, 54, 55, 56, 57, 58, 59, 60, 61, 62, 63, 64, 65, 66, 67] (by decide +kernel) (by decide +kernel)
set_option maxRecDepth 20000 in
theorem gX7_removeMember_X7_fails : GoodIn wsX7_removeMember (wsV RX7 108 RX7 yX7_fails wsX7_fails) := goodIn_app (goodIn_of _ (by decide +kernel)) ggX7_removeMember_X7_fails
set_option maxRecDepth 20000 in
theorem ggX7_removeMember_X7_size : GoodIn wsX7_removeMember wsX7_size := goodIn_r _ [30, 21, 22, 5, 23] (by decide +kernel) (by decide +kernel)
set_option maxRecDepth 20000 in
theorem gX7_removeMember_X7_size : GoodIn wsX7_removeMember (va_wsS RX7 128 yX7_size wsX7_size) := goodIn_app (goodIn_of _ (by decide +kernel)) ggX7_removeMember_X7_size
theorem dX7_removeMember_0 : decode cX7_removeMember 0 = .ok (.aload_n 0, 1) := by decide +kernel
theorem dX7_removeMember_1 : decode cX7_removeMember 1 = .ok (.iload_n 1, 1) := by decide +kernel
theorem dX7_removeMember_2 : decode cX7_removeMember 2 = .ok (.iload_n 2, 1) := by decide +kernel
theorem dX7_removeMember_3 : decode cX7_removeMember 3 = .ok (.invokevirtual 125, 3) := by decide +kernel
theorem dX7_removeMember_6 : decode cX7_removeMember 6 = .ok (.ifCond .eq 5, 3) := by decide +kernel
theorem dX7_removeMember_9 : decode cX7_removeMember 9 = .ok (.iconst 0, 1) := by decide +kernel
theorem dX7_removeMember_10 : decode cX7_removeMember 10 = .ok (.ireturn, 1) := by decide +kernel
theorem dX7_removeMember_11 : decode cX7_removeMember 11 = .ok (.aload_n 0, 1) := by decide +kernel
theorem dX7_removeMember_12 : decode cX7_removeMember 12 = .ok (.getfield 22, 3) := by decide +kernel
theorem dX7_removeMember_15 : decode cX7_removeMember 15 = .ok (.iload_n 1, 1) := by decide +kernel
theorem dX7_removeMember_16 : decode cX7_removeMember 16 = .ok (.iaload, 1) := by decide +kernel
theorem dX7_removeMember_17 : decode cX7_removeMember 17 = .ok (.iload_n 2, 1) := by decide +kernel
theorem dX7_removeMember_18 : decode cX7_removeMember 18 = .ok (.invokestatic 88, 3) := by decide +kernel
theorem dX7_removeMember_21 : decode cX7_removeMember 21 = .ok (.ifCond .ne 9, 3) := by decide +kernel
theorem dX7_removeMember_24 : decode cX7_removeMember 24 = .ok (.aload_n 0, 1) := by decide +kernel
theorem dX7_removeMember_25 : decode cX7_removeMember 25 = .ok (.iconst 2, 1) := by decide +kernel
theorem dX7_removeMember_26 : decode cX7_removeMember 26 = .ok (.invokevirtual 108, 3) := by decide +kernel
theorem dX7_removeMember_29 : decode cX7_removeMember 29 = .ok (.ireturn, 1) := by decide +kernel
theorem dX7_removeMember_30 : decode cX7_removeMember 30 = .ok (.aload_n 0, 1) := by decide +kernel
theorem dX7_removeMember_31 : decode cX7_removeMember 31 = .ok (.getfield 22, 3) := by decide +kernel
theorem dX7_removeMember_34 : decode cX7_removeMember 34 = .ok (.iload_n 1, 1) := by decide +kernel
theorem dX7_removeMember_35 : decode cX7_removeMember 35 = .ok (.dup2, 1) := by decide +kernel
theorem dX7_removeMember_36 : decode cX7_removeMember 36 = .ok (.iaload, 1) := by decide +kernel
theorem dX7_removeMember_37 : decode cX7_removeMember 37 = .ok (.iconst 1, 1) := by decide +kernel
theorem dX7_removeMember_38 : decode cX7_removeMember 38 = .ok (.iload_n 2, 1) := by decide +kernel
theorem dX7_removeMember_39 : decode cX7_removeMember 39 = .ok (.ishl, 1) := by decide +kernel
theorem dX7_removeMember_40 : decode cX7_removeMember 40 = .ok (.iconst (-1), 1) := by decide +kernel
theorem dX7_removeMember_41 : decode cX7_removeMember 41 = .ok (.ixor, 1) := by decide +kernel
theorem dX7_removeMember_42 : decode cX7_removeMember 42 = .ok (.iand, 1) := by decide +kernel
theorem dX7_removeMember_43 : decode cX7_removeMember 43 = .ok (.iastore, 1) := by decide +kernel
theorem dX7_removeMember_44 : decode cX7_removeMember 44 = .ok (.aload_n 0, 1) := by decide +kernel
theorem dX7_removeMember_45 : decode cX7_removeMember 45 = .ok (.getfield 22, 3) := by decide +kernel
theorem dX7_removeMember_48 : decode cX7_removeMember 48 = .ok (.iload_n 1, 1) := by decide +kernel
theorem dX7_removeMember_49 : decode cX7_removeMember 49 = .ok (.iaload, 1) := by decide +kernel
theorem dX7_removeMember_50 : decode cX7_removeMember 50 = .ok (.invokestatic 128, 3) := by decide +kernel
theorem dX7_removeMember_53 : decode cX7_removeMember 53 = .ok (.ireturn, 1) := by decide +kernel
set_option maxRecDepth 20000 in
theorem ggX7_inside_X7_has : GoodIn wsX7_inside wsX7_has := goodIn_r _ [6] (by decide +kernel) (by decide +kernel)
set_option maxRecDepth 20000 in
theorem gX7_inside_X7_has : GoodIn wsX7_inside (va_wsS RX7 88 yX7_has wsX7_has) := goodIn_app (goodIn_of _ (by decide +kernel)) ggX7_inside_X7_has
theorem dX7_inside_0 : decode cX7_inside 0 = .ok (.iconst 1, 1) := by decide +kernel
theorem dX7_inside_1 : decode cX7_inside 1 = .ok (.iload_n 1, 1) := by decide +kernel
theorem dX7_inside_2 : decode cX7_inside 2 = .ok (.ishl, 1) := by decide +kernel
theorem dX7_inside_3 : decode cX7_inside 3 = .ok (.istore_n 2, 1) := by decide +kernel
theorem dX7_inside_4 : decode cX7_inside 4 = .ok (.iconst 0, 1) := by decide +kernel
theorem dX7_inside_5 : decode cX7_inside 5 = .ok (.istore_n 3, 1) := by decide +kernel
theorem dX7_inside_6 : decode cX7_inside 6 = .ok (.iload_n 3, 1) := by decide +kernel
theorem dX7_inside_7 : decode cX7_inside 7 = .ok (.aload_n 0, 1) := by decide +kernel
theorem dX7_inside_8 : decode cX7_inside 8 = .ok (.getfield 99, 3) := by decide +kernel
theorem dX7_inside_11 : decode cX7_inside 11 = .ok (.if_icmp .ge 50, 3) := by decide +kernel
theorem dX7_inside_14 : decode cX7_inside 14 = .ok (.iconst 0, 1) := by decide +kernel
theorem dX7_inside_15 : decode cX7_inside 15 = .ok (.istore 4, 2) := by decide +kernel
theorem dX7_inside_17 : decode cX7_inside 17 = .ok (.iload 4, 2) := by decide +kernel
theorem dX7_inside_19 : decode cX7_inside 19 = .ok (.aload_n 0, 1) := by decide +kernel
theorem dX7_inside_20 : decode cX7_inside 20 = .ok (.getfield 99, 3) := by decide +kernel
theorem dX7_inside_23 : decode cX7_inside 23 = .ok (.if_icmp .ge 32, 3) := by decide +kernel
theorem dX7_inside_26 : decode cX7_inside 26 = .ok (.iload_n 2, 1) := by decide +kernel
theorem dX7_inside_27 : decode cX7_inside 27 = .ok (.iload_n 2, 1) := by decide +kernel
theorem dX7_inside_28 : decode cX7_inside 28 = .ok (.iload 4, 2) := by decide +kernel
theorem dX7_inside_30 : decode cX7_inside 30 = .ok (.invokestatic 88, 3) := by decide +kernel
theorem dX7_inside_33 : decode cX7_inside 33 = .ok (.ifCond .eq 13, 3) := by decide +kernel
theorem dX7_inside_36 : decode cX7_inside 36 = .ok (.aload_n 0, 1) := by decide +kernel
theorem dX7_inside_37 : decode cX7_inside 37 = .ok (.getfield 25, 3) := by decide +kernel
theorem dX7_inside_40 : decode cX7_inside 40 = .ok (.iload 4, 2) := by decide +kernel
theorem dX7_inside_42 : decode cX7_inside 42 = .ok (.iaload, 1) := by decide +kernel
theorem dX7_inside_43 : decode cX7_inside 43 = .ok (.goto 4, 3) := by decide +kernel
theorem dX7_inside_46 : decode cX7_inside 46 = .ok (.iconst 0, 1) := by decide +kernel
theorem dX7_inside_47 : decode cX7_inside 47 = .ok (.ior, 1) := by decide +kernel
theorem dX7_inside_48 : decode cX7_inside 48 = .ok (.istore_n 2, 1) := by decide +kernel
theorem dX7_inside_49 : decode cX7_inside 49 = .ok (.iinc 4 1, 3) := by decide +kernel
theorem dX7_inside_52 : decode cX7_inside 52 = .ok (.goto (-35), 3) := by decide +kernel
theorem dX7_inside_55 : decode cX7_inside 55 = .ok (.iinc 3 1, 3) := by decide +kernel
theorem dX7_inside_58 : decode cX7_inside 58 = .ok (.goto (-52), 3) := by decide +kernel
theorem dX7_inside_61 : decode cX7_inside 61 = .ok (.iload_n 2, 1) := by decide +kernel
theorem dX7_inside_62 : decode cX7_inside 62 = .ok (.ireturn, 1) := by decide +kernel
set_option maxRecDepth 20000 in
theorem ggX7_nest_X7_isGroup : GoodIn wsX7_nest wsX7_isGroup := goodIn_r _ [7, 8, 9, 10, 6, 11, 26, 27, 28, 29, 30, 31, 32, 33, 34, 35, 36, 37, 38, 39, 40, 41, 42, 43, 44, 45, 46, 47, 48, 49, 50, 51, 52, 53, 54, 55, 56, 57, 58, 59, 60, 61, 62] (by decide +kernel) (by decide +kernel)
set_option maxRecDepth 20000 in
theorem gX7_nest_X7_isGroup : GoodIn wsX7_nest (wsV RX7 122 RX7 yX7_isGroup wsX7_isGroup) := goodIn_app (goodIn_of _ (by decide +kernel)) ggX7_nest_X7_isGroup
set_option maxRecDepth 20000 in
theorem ggX7_nest_X7_fails : GoodIn wsX7_nest wsX7_fails := goodIn_r _ [15, 1, 26, 27, 28, 29, 30, 31, 32, 33, 34, 35, 36, 37, 38, 39, 40, 41, 42, 43, 44, 45, 46, 47, 48, 49, 50, 51, 52, 53, 54, 55, 56, 57, 58, 59, 60, 61, 62] (by decide +kernel) (by decide +kernel)
set_option maxRecDepth 20000 in
theorem gX7_nest_X7_fails : GoodIn wsX7_nest (wsV RX7 108 RX7 yX7_fails wsX7_fails) := goodIn_app (goodIn_of _ (by decide +kernel)) ggX7_nest_X7_fails
set_option maxRecDepth 20000 in
theorem ggX7_nest_X7_inside : GoodIn wsX7_nest wsX7_inside := goodIn_ca (goodIn_r _ [19, 8, 2, 20, 21, 6, 22, 26, 27, 28, 29, 30, 31, 32, 33, 34, 35, 36, 37, 38, 39, 40, 41, 42, 43, 44, 45, 46, 47, 48, 49, 50, 51, 52, 53, 54, 55, 56, 57, 58, 59, 60, 61, 62] (by decide +kernel) (by decide +kernel)) (goodIn_sub (fun _ h => List.mem_cons_of_mem _ (List.mem_append_right _ h)) (by decide +kernel))
set_option maxRecDepth 20000 in
theorem gX7_nest_X7_inside : GoodIn wsX7_nest (wsV RX7 131 RX7 yX7_inside wsX7_inside) := goodIn_app (goodIn_of _ (by decide +kernel)) ggX7_nest_X7_inside
set_option maxRecDepth 20000 in
theorem ggX7_nest_X7_has : GoodIn wsX7_nest wsX7_has := goodIn_r _ [22] (by decide +kernel) (by decide +kernel)
set_option maxRecDepth 20000 in
theorem gX7_nest_X7_has : GoodIn wsX7_nest (va_wsS RX7 88 yX7_has wsX7_has) := goodIn_app (goodIn_of _ (by decide +kernel)) ggX7_nest_X7_has
set_option maxRecDepth 20000 in
theorem ggX7_nest_X7_size : GoodIn wsX7_nest wsX7_size := goodIn_r _ [25, 20, 21, 6, 22] (by decide +kernel) (by decide +kernel)
set_option maxRecDepth 20000 in
theorem gX7_nest_X7_size : GoodIn wsX7_nest (va_wsS RX7 128 yX7_size wsX7_size) := goodIn_app (goodIn_of _ (by decide +kernel)) ggX7_nest_X7_size
theorem dX7_nest_0 : decode cX7_nest 0 = .ok (.aload_n 0, 1) := by decide +kernel
theorem dX7_nest_1 : decode cX7_nest 1 = .ok (.iconst 0, 1) := by decide +kernel
theorem dX7_nest_2 : decode cX7_nest 2 = .ok (.putfield 85, 3) := by decide +kernel
theorem dX7_nest_5 : decode cX7_nest 5 = .ok (.aload_n 0, 1) := by decide +kernel
theorem dX7_nest_6 : decode cX7_nest 6 = .ok (.iload_n 1, 1) := by decide +kernel
theorem dX7_nest_7 : decode cX7_nest 7 = .ok (.invokevirtual 122, 3) := by decide +kernel
theorem dX7_nest_10 : decode cX7_nest 10 = .ok (.ifCond .eq 11, 3) := by decide +kernel
theorem dX7_nest_13 : decode cX7_nest 13 = .ok (.aload_n 0, 1) := by decide +kernel
theorem dX7_nest_14 : decode cX7_nest 14 = .ok (.iload_n 2, 1) := by decide +kernel
theorem dX7_nest_15 : decode cX7_nest 15 = .ok (.invokevirtual 122, 3) := by decide +kernel
theorem dX7_nest_18 : decode cX7_nest 18 = .ok (.ifCond .ne 9, 3) := by decide +kernel
theorem dX7_nest_21 : decode cX7_nest 21 = .ok (.aload_n 0, 1) := by decide +kernel
theorem dX7_nest_22 : decode cX7_nest 22 = .ok (.iconst 1, 1) := by decide +kernel
theorem dX7_nest_23 : decode cX7_nest 23 = .ok (.invokevirtual 108, 3) := by decide +kernel
theorem dX7_nest_26 : decode cX7_nest 26 = .ok (.ireturn, 1) := by decide +kernel
theorem dX7_nest_27 : decode cX7_nest 27 = .ok (.aload_n 0, 1) := by decide +kernel
theorem dX7_nest_28 : decode cX7_nest 28 = .ok (.iload_n 2, 1) := by decide +kernel
theorem dX7_nest_29 : decode cX7_nest 29 = .ok (.invokevirtual 131, 3) := by decide +kernel
theorem dX7_nest_32 : decode cX7_nest 32 = .ok (.iload_n 1, 1) := by decide +kernel
theorem dX7_nest_33 : decode cX7_nest 33 = .ok (.invokestatic 88, 3) := by decide +kernel
theorem dX7_nest_36 : decode cX7_nest 36 = .ok (.ifCond .eq 9, 3) := by decide +kernel
theorem dX7_nest_39 : decode cX7_nest 39 = .ok (.aload_n 0, 1) := by decide +kernel
theorem dX7_nest_40 : decode cX7_nest 40 = .ok (.iconst 2, 1) := by decide +kernel
theorem dX7_nest_41 : decode cX7_nest 41 = .ok (.invokevirtual 108, 3) := by decide +kernel
theorem dX7_nest_44 : decode cX7_nest 44 = .ok (.ireturn, 1) := by decide +kernel
theorem dX7_nest_45 : decode cX7_nest 45 = .ok (.aload_n 0, 1) := by decide +kernel
theorem dX7_nest_46 : decode cX7_nest 46 = .ok (.getfield 25, 3) := by decide +kernel
theorem dX7_nest_49 : decode cX7_nest 49 = .ok (.iload_n 1, 1) := by decide +kernel
theorem dX7_nest_50 : decode cX7_nest 50 = .ok (.iaload, 1) := by decide +kernel
theorem dX7_nest_51 : decode cX7_nest 51 = .ok (.iload_n 2, 1) := by decide +kernel
theorem dX7_nest_52 : decode cX7_nest 52 = .ok (.invokestatic 88, 3) := by decide +kernel
theorem dX7_nest_55 : decode cX7_nest 55 = .ok (.ifCond .eq 9, 3) := by decide +kernel
theorem dX7_nest_58 : decode cX7_nest 58 = .ok (.aload_n 0, 1) := by decide +kernel
theorem dX7_nest_59 : decode cX7_nest 59 = .ok (.iconst 3, 1) := by decide +kernel
theorem dX7_nest_60 : decode cX7_nest 60 = .ok (.invokevirtual 108, 3) := by decide +kernel
theorem dX7_nest_63 : decode cX7_nest 63 = .ok (.ireturn, 1) := by decide +kernel
theorem dX7_nest_64 : decode cX7_nest 64 = .ok (.aload_n 0, 1) := by decide +kernel
theorem dX7_nest_65 : decode cX7_nest 65 = .ok (.getfield 25, 3) := by decide +kernel
theorem dX7_nest_68 : decode cX7_nest 68 = .ok (.iload_n 1, 1) := by decide +kernel
theorem dX7_nest_69 : decode cX7_nest 69 = .ok (.dup2, 1) := by decide +kernel
theorem dX7_nest_70 : decode cX7_nest 70 = .ok (.iaload, 1) := by decide +kernel
theorem dX7_nest_71 : decode cX7_nest 71 = .ok (.iconst 1, 1) := by decide +kernel
theorem dX7_nest_72 : decode cX7_nest 72 = .ok (.iload_n 2, 1) := by decide +kernel
theorem dX7_nest_73 : decode cX7_nest 73 = .ok (.ishl, 1) := by decide +kernel
theorem dX7_nest_74 : decode cX7_nest 74 = .ok (.ior, 1) := by decide +kernel
theorem dX7_nest_75 : decode cX7_nest 75 = .ok (.iastore, 1) := by decide +kernel
theorem dX7_nest_76 : decode cX7_nest 76 = .ok (.aload_n 0, 1) := by decide +kernel
theorem dX7_nest_77 : decode cX7_nest 77 = .ok (.getfield 25, 3) := by decide +kernel
theorem dX7_nest_80 : decode cX7_nest 80 = .ok (.iload_n 1, 1) := by decide +kernel
theorem dX7_nest_81 : decode cX7_nest 81 = .ok (.iaload, 1) := by decide +kernel
theorem dX7_nest_82 : decode cX7_nest 82 = .ok (.invokestatic 128, 3) := by decide +kernel
theorem dX7_nest_85 : decode cX7_nest 85 = .ok (.ireturn, 1) := by decide +kernel
set_option maxRecDepth 20000 in
theorem ggX7_addRight_X7_isBetween : GoodIn wsX7_addRight wsX7_isBetween := goodIn_r _ [9] (by decide +kernel) (by decide +kernel)
set_option maxRecDepth 20000 in
theorem gX7_addRight_X7_isBetween : GoodIn wsX7_addRight (va_wsS RX7 95 yX7_isBetween wsX7_isBetween) := goodIn_app (goodIn_of _ (by decide +kernel)) ggX7_addRight_X7_isBetween
set_option maxRecDepth 20000 in
theorem ggX7_addRight_X7_fails : GoodIn wsX7_addRight wsX7_fails := goodIn_r _ [13, 1, 19, 20, 21, 22, 23, 24, 25, 26, 27, 28, 29, 30, 31, 32, 33, 34, 35, 36, 37, 38, 39, 40, 41, 42, 43, 44, 45, 46, 47, 48, 49, 50, 51, 52, 53, 54, 55] (by decide +kernel) (by decide +kernel)
set_option maxRecDepth 20000 in
theorem gX7_addRight_X7_fails : GoodIn wsX7_addRight (wsV RX7 108 RX7 yX7_fails wsX7_fails) := goodIn_app (goodIn_of _ (by decide +kernel)) ggX7_addRight_X7_fails
set_option maxRecDepth 20000 in
theorem ggX7_addRight_X7_isPerson : GoodIn wsX7_addRight wsX7_isPerson := goodIn_r _ [17, 18, 6, 7, 8, 9, 19, 20, 21, 22, 23, 24, 25, 26, 27, 28, 29, 30, 31, 32, 33, 34, 35, 36, 37, 38, 39, 40, 41, 42, 43, 44, 45, 46, 47, 48, 49, 50, 51, 52, 53, 54, 55] (by decide +kernel) (by decide +kernel)
set_option maxRecDepth 20000 in
theorem gX7_addRight_X7_isPerson : GoodIn wsX7_addRight (wsV RX7 112 RX7 yX7_isPerson wsX7_isPerson) := goodIn_app (goodIn_of _ (by decide +kernel)) ggX7_addRight_X7_isPerson
theorem dX7_addRight_0 : decode cX7_addRight 0 = .ok (.aload_n 0, 1) := by decide +kernel
theorem dX7_addRight_1 : decode cX7_addRight 1 = .ok (.iconst 0, 1) := by decide +kernel
theorem dX7_addRight_2 : decode cX7_addRight 2 = .ok (.putfield 85, 3) := by decide +kernel
theorem dX7_addRight_5 : decode cX7_addRight 5 = .ok (.iload_n 1, 1) := by decide +kernel
theorem dX7_addRight_6 : decode cX7_addRight 6 = .ok (.iconst 1, 1) := by decide +kernel
theorem dX7_addRight_7 : decode cX7_addRight 7 = .ok (.bipush 9, 2) := by decide +kernel
theorem dX7_addRight_9 : decode cX7_addRight 9 = .ok (.invokestatic 95, 3) := by decide +kernel
theorem dX7_addRight_12 : decode cX7_addRight 12 = .ok (.ifCond .ne 9, 3) := by decide +kernel
theorem dX7_addRight_15 : decode cX7_addRight 15 = .ok (.aload_n 0, 1) := by decide +kernel
theorem dX7_addRight_16 : decode cX7_addRight 16 = .ok (.iconst 1, 1) := by decide +kernel
theorem dX7_addRight_17 : decode cX7_addRight 17 = .ok (.invokevirtual 108, 3) := by decide +kernel
theorem dX7_addRight_20 : decode cX7_addRight 20 = .ok (.ireturn, 1) := by decide +kernel
theorem dX7_addRight_21 : decode cX7_addRight 21 = .ok (.aload_n 0, 1) := by decide +kernel
theorem dX7_addRight_22 : decode cX7_addRight 22 = .ok (.iload_n 2, 1) := by decide +kernel
theorem dX7_addRight_23 : decode cX7_addRight 23 = .ok (.invokevirtual 112, 3) := by decide +kernel
theorem dX7_addRight_26 : decode cX7_addRight 26 = .ok (.ifCond .ne 9, 3) := by decide +kernel
theorem dX7_addRight_29 : decode cX7_addRight 29 = .ok (.aload_n 0, 1) := by decide +kernel
theorem dX7_addRight_30 : decode cX7_addRight 30 = .ok (.iconst 2, 1) := by decide +kernel
theorem dX7_addRight_31 : decode cX7_addRight 31 = .ok (.invokevirtual 108, 3) := by decide +kernel
theorem dX7_addRight_34 : decode cX7_addRight 34 = .ok (.ireturn, 1) := by decide +kernel
theorem dX7_addRight_35 : decode cX7_addRight 35 = .ok (.aload_n 0, 1) := by decide +kernel
theorem dX7_addRight_36 : decode cX7_addRight 36 = .ok (.getfield 102, 3) := by decide +kernel
theorem dX7_addRight_39 : decode cX7_addRight 39 = .ok (.bipush 10, 2) := by decide +kernel
theorem dX7_addRight_41 : decode cX7_addRight 41 = .ok (.if_icmp .ne 9, 3) := by decide +kernel
theorem dX7_addRight_44 : decode cX7_addRight 44 = .ok (.aload_n 0, 1) := by decide +kernel
theorem dX7_addRight_45 : decode cX7_addRight 45 = .ok (.iconst 3, 1) := by decide +kernel
theorem dX7_addRight_46 : decode cX7_addRight 46 = .ok (.invokevirtual 108, 3) := by decide +kernel
theorem dX7_addRight_49 : decode cX7_addRight 49 = .ok (.ireturn, 1) := by decide +kernel
theorem dX7_addRight_50 : decode cX7_addRight 50 = .ok (.aload_n 0, 1) := by decide +kernel
theorem dX7_addRight_51 : decode cX7_addRight 51 = .ok (.getfield 28, 3) := by decide +kernel
theorem dX7_addRight_54 : decode cX7_addRight 54 = .ok (.aload_n 0, 1) := by decide +kernel
theorem dX7_addRight_55 : decode cX7_addRight 55 = .ok (.getfield 102, 3) := by decide +kernel
theorem dX7_addRight_58 : decode cX7_addRight 58 = .ok (.iload_n 1, 1) := by decide +kernel
theorem dX7_addRight_59 : decode cX7_addRight 59 = .ok (.iastore, 1) := by decide +kernel
theorem dX7_addRight_60 : decode cX7_addRight 60 = .ok (.aload_n 0, 1) := by decide +kernel
theorem dX7_addRight_61 : decode cX7_addRight 61 = .ok (.getfield 31, 3) := by decide +kernel
theorem dX7_addRight_64 : decode cX7_addRight 64 = .ok (.aload_n 0, 1) := by decide +kernel
theorem dX7_addRight_65 : decode cX7_addRight 65 = .ok (.getfield 102, 3) := by decide +kernel
theorem dX7_addRight_68 : decode cX7_addRight 68 = .ok (.iload_n 2, 1) := by decide +kernel
theorem dX7_addRight_69 : decode cX7_addRight 69 = .ok (.iastore, 1) := by decide +kernel
theorem dX7_addRight_70 : decode cX7_addRight 70 = .ok (.aload_n 0, 1) := by decide +kernel
theorem dX7_addRight_71 : decode cX7_addRight 71 = .ok (.getfield 49, 3) := by decide +kernel
theorem dX7_addRight_74 : decode cX7_addRight 74 = .ok (.aload_n 0, 1) := by decide +kernel
theorem dX7_addRight_75 : decode cX7_addRight 75 = .ok (.getfield 102, 3) := by decide +kernel
theorem dX7_addRight_78 : decode cX7_addRight 78 = .ok (.iload_n 3, 1) := by decide +kernel
theorem dX7_addRight_79 : decode cX7_addRight 79 = .ok (.bastore, 1) := by decide +kernel
theorem dX7_addRight_80 : decode cX7_addRight 80 = .ok (.aload_n 0, 1) := by decide +kernel
theorem dX7_addRight_81 : decode cX7_addRight 81 = .ok (.dup, 1) := by decide +kernel
theorem dX7_addRight_82 : decode cX7_addRight 82 = .ok (.getfield 102, 3) := by decide +kernel
theorem dX7_addRight_85 : decode cX7_addRight 85 = .ok (.iconst 1, 1) := by decide +kernel
theorem dX7_addRight_86 : decode cX7_addRight 86 = .ok (.iadd, 1) := by decide +kernel
theorem dX7_addRight_87 : decode cX7_addRight 87 = .ok (.putfield 102, 3) := by decide +kernel
theorem dX7_addRight_90 : decode cX7_addRight 90 = .ok (.aload_n 0, 1) := by decide +kernel
theorem dX7_addRight_91 : decode cX7_addRight 91 = .ok (.getfield 102, 3) := by decide +kernel
theorem dX7_addRight_94 : decode cX7_addRight 94 = .ok (.iconst 1, 1) := by decide +kernel
theorem dX7_addRight_95 : decode cX7_addRight 95 = .ok (.isub, 1) := by decide +kernel
theorem dX7_addRight_96 : decode cX7_addRight 96 = .ok (.ireturn, 1) := by decide +kernel
set_option maxRecDepth 20000 in
theorem ggX7_gives_X7_fails : GoodIn wsX7_gives wsX7_fails := goodIn_r _ [12, 13, 14, 15, 16, 17, 18, 19, 20, 21, 22, 23, 24, 25, 26, 27, 28, 29, 30, 31, 32, 33, 34, 35, 36, 37, 38, 39, 40, 41, 42, 43, 44, 45, 46, 47, 48, 49, 50] (by decide +kernel) (by decide +kernel)
set_option maxRecDepth 20000 in
theorem gX7_gives_X7_fails : GoodIn wsX7_gives (wsV RX7 108 RX7 yX7_fails wsX7_fails) := goodIn_app (goodIn_of _ (by decide +kernel)) ggX7_gives_X7_fails
theorem dX7_gives_0 : decode cX7_gives 0 = .ok (.aload_n 0, 1) := by decide +kernel
theorem dX7_gives_1 : decode cX7_gives 1 = .ok (.getfield 105, 3) := by decide +kernel
theorem dX7_gives_4 : decode cX7_gives 4 = .ok (.bipush 24, 2) := by decide +kernel
theorem dX7_gives_6 : decode cX7_gives 6 = .ok (.if_icmp .ne 7, 3) := by decide +kernel
theorem dX7_gives_9 : decode cX7_gives 9 = .ok (.iconst 1, 1) := by decide +kernel
theorem dX7_gives_10 : decode cX7_gives 10 = .ok (.goto 4, 3) := by decide +kernel
theorem dX7_gives_13 : decode cX7_gives 13 = .ok (.iconst 0, 1) := by decide +kernel
theorem dX7_gives_14 : decode cX7_gives 14 = .ok (.istore 4, 2) := by decide +kernel
theorem dX7_gives_16 : decode cX7_gives 16 = .ok (.iconst 0, 1) := by decide +kernel
theorem dX7_gives_17 : decode cX7_gives 17 = .ok (.istore 5, 2) := by decide +kernel
theorem dX7_gives_19 : decode cX7_gives 19 = .ok (.iload 5, 2) := by decide +kernel
theorem dX7_gives_21 : decode cX7_gives 21 = .ok (.aload_n 0, 1) := by decide +kernel
theorem dX7_gives_22 : decode cX7_gives 22 = .ok (.getfield 105, 3) := by decide +kernel
theorem dX7_gives_25 : decode cX7_gives 25 = .ok (.if_icmp .ge 64, 3) := by decide +kernel
theorem dX7_gives_28 : decode cX7_gives 28 = .ok (.iload 4, 2) := by decide +kernel
theorem dX7_gives_30 : decode cX7_gives 30 = .ok (.aload_n 0, 1) := by decide +kernel
theorem dX7_gives_31 : decode cX7_gives 31 = .ok (.getfield 56, 3) := by decide +kernel
theorem dX7_gives_34 : decode cX7_gives 34 = .ok (.iload 5, 2) := by decide +kernel
theorem dX7_gives_36 : decode cX7_gives 36 = .ok (.caload, 1) := by decide +kernel
theorem dX7_gives_37 : decode cX7_gives 37 = .ok (.bipush 120, 2) := by decide +kernel
theorem dX7_gives_39 : decode cX7_gives 39 = .ok (.if_icmp .eq 40, 3) := by decide +kernel
theorem dX7_gives_42 : decode cX7_gives 42 = .ok (.aload_n 0, 1) := by decide +kernel
theorem dX7_gives_43 : decode cX7_gives 43 = .ok (.getfield 37, 3) := by decide +kernel
theorem dX7_gives_46 : decode cX7_gives 46 = .ok (.iload 5, 2) := by decide +kernel
theorem dX7_gives_48 : decode cX7_gives 48 = .ok (.iaload, 1) := by decide +kernel
theorem dX7_gives_49 : decode cX7_gives 49 = .ok (.iload_n 1, 1) := by decide +kernel
theorem dX7_gives_50 : decode cX7_gives 50 = .ok (.if_icmp .ne 29, 3) := by decide +kernel
theorem dX7_gives_53 : decode cX7_gives 53 = .ok (.aload_n 0, 1) := by decide +kernel
theorem dX7_gives_54 : decode cX7_gives 54 = .ok (.getfield 40, 3) := by decide +kernel
theorem dX7_gives_57 : decode cX7_gives 57 = .ok (.iload 5, 2) := by decide +kernel
theorem dX7_gives_59 : decode cX7_gives 59 = .ok (.iaload, 1) := by decide +kernel
theorem dX7_gives_60 : decode cX7_gives 60 = .ok (.iload_n 2, 1) := by decide +kernel
theorem dX7_gives_61 : decode cX7_gives 61 = .ok (.if_icmp .ne 18, 3) := by decide +kernel
theorem dX7_gives_64 : decode cX7_gives 64 = .ok (.aload_n 0, 1) := by decide +kernel
theorem dX7_gives_65 : decode cX7_gives 65 = .ok (.getfield 53, 3) := by decide +kernel
theorem dX7_gives_68 : decode cX7_gives 68 = .ok (.iload 5, 2) := by decide +kernel
theorem dX7_gives_70 : decode cX7_gives 70 = .ok (.baload, 1) := by decide +kernel
theorem dX7_gives_71 : decode cX7_gives 71 = .ok (.iload_n 3, 1) := by decide +kernel
theorem dX7_gives_72 : decode cX7_gives 72 = .ok (.if_icmp .ne 7, 3) := by decide +kernel
theorem dX7_gives_75 : decode cX7_gives 75 = .ok (.iconst 1, 1) := by decide +kernel
theorem dX7_gives_76 : decode cX7_gives 76 = .ok (.goto 4, 3) := by decide +kernel
theorem dX7_gives_79 : decode cX7_gives 79 = .ok (.iconst 0, 1) := by decide +kernel
theorem dX7_gives_80 : decode cX7_gives 80 = .ok (.ior, 1) := by decide +kernel
theorem dX7_gives_81 : decode cX7_gives 81 = .ok (.istore 4, 2) := by decide +kernel
theorem dX7_gives_83 : decode cX7_gives 83 = .ok (.iinc 5 1, 3) := by decide +kernel
theorem dX7_gives_86 : decode cX7_gives 86 = .ok (.goto (-67), 3) := by decide +kernel
theorem dX7_gives_89 : decode cX7_gives 89 = .ok (.iload 4, 2) := by decide +kernel
theorem dX7_gives_91 : decode cX7_gives 91 = .ok (.ifCond .eq 9, 3) := by decide +kernel
theorem dX7_gives_94 : decode cX7_gives 94 = .ok (.aload_n 0, 1) := by decide +kernel
theorem dX7_gives_95 : decode cX7_gives 95 = .ok (.iconst 2, 1) := by decide +kernel
theorem dX7_gives_96 : decode cX7_gives 96 = .ok (.invokevirtual 108, 3) := by decide +kernel
theorem dX7_gives_99 : decode cX7_gives 99 = .ok (.ireturn, 1) := by decide +kernel
theorem dX7_gives_100 : decode cX7_gives 100 = .ok (.aload_n 0, 1) := by decide +kernel
theorem dX7_gives_101 : decode cX7_gives 101 = .ok (.getfield 37, 3) := by decide +kernel
theorem dX7_gives_104 : decode cX7_gives 104 = .ok (.aload_n 0, 1) := by decide +kernel
theorem dX7_gives_105 : decode cX7_gives 105 = .ok (.getfield 105, 3) := by decide +kernel
theorem dX7_gives_108 : decode cX7_gives 108 = .ok (.iload_n 1, 1) := by decide +kernel
theorem dX7_gives_109 : decode cX7_gives 109 = .ok (.iastore, 1) := by decide +kernel
theorem dX7_gives_110 : decode cX7_gives 110 = .ok (.aload_n 0, 1) := by decide +kernel
theorem dX7_gives_111 : decode cX7_gives 111 = .ok (.getfield 40, 3) := by decide +kernel
theorem dX7_gives_114 : decode cX7_gives 114 = .ok (.aload_n 0, 1) := by decide +kernel
theorem dX7_gives_115 : decode cX7_gives 115 = .ok (.getfield 105, 3) := by decide +kernel
theorem dX7_gives_118 : decode cX7_gives 118 = .ok (.iload_n 2, 1) := by decide +kernel
theorem dX7_gives_119 : decode cX7_gives 119 = .ok (.iastore, 1) := by decide +kernel
theorem dX7_gives_120 : decode cX7_gives 120 = .ok (.aload_n 0, 1) := by decide +kernel
theorem dX7_gives_121 : decode cX7_gives 121 = .ok (.getfield 53, 3) := by decide +kernel
theorem dX7_gives_124 : decode cX7_gives 124 = .ok (.aload_n 0, 1) := by decide +kernel
theorem dX7_gives_125 : decode cX7_gives 125 = .ok (.getfield 105, 3) := by decide +kernel
theorem dX7_gives_128 : decode cX7_gives 128 = .ok (.iload_n 3, 1) := by decide +kernel
theorem dX7_gives_129 : decode cX7_gives 129 = .ok (.bastore, 1) := by decide +kernel
theorem dX7_gives_130 : decode cX7_gives 130 = .ok (.aload_n 0, 1) := by decide +kernel
theorem dX7_gives_131 : decode cX7_gives 131 = .ok (.getfield 43, 3) := by decide +kernel
theorem dX7_gives_134 : decode cX7_gives 134 = .ok (.aload_n 0, 1) := by decide +kernel
theorem dX7_gives_135 : decode cX7_gives 135 = .ok (.getfield 105, 3) := by decide +kernel
theorem dX7_gives_138 : decode cX7_gives 138 = .ok (.aload_n 0, 1) := by decide +kernel
theorem dX7_gives_139 : decode cX7_gives 139 = .ok (.getfield 134, 3) := by decide +kernel
theorem dX7_gives_142 : decode cX7_gives 142 = .ok (.iastore, 1) := by decide +kernel
theorem dX7_gives_143 : decode cX7_gives 143 = .ok (.aload_n 0, 1) := by decide +kernel
theorem dX7_gives_144 : decode cX7_gives 144 = .ok (.getfield 56, 3) := by decide +kernel
theorem dX7_gives_147 : decode cX7_gives 147 = .ok (.aload_n 0, 1) := by decide +kernel
theorem dX7_gives_148 : decode cX7_gives 148 = .ok (.getfield 105, 3) := by decide +kernel
theorem dX7_gives_151 : decode cX7_gives 151 = .ok (.bipush 97, 2) := by decide +kernel
theorem dX7_gives_153 : decode cX7_gives 153 = .ok (.castore, 1) := by decide +kernel
theorem dX7_gives_154 : decode cX7_gives 154 = .ok (.aload_n 0, 1) := by decide +kernel
theorem dX7_gives_155 : decode cX7_gives 155 = .ok (.dup, 1) := by decide +kernel
theorem dX7_gives_156 : decode cX7_gives 156 = .ok (.getfield 105, 3) := by decide +kernel
theorem dX7_gives_159 : decode cX7_gives 159 = .ok (.iconst 1, 1) := by decide +kernel
theorem dX7_gives_160 : decode cX7_gives 160 = .ok (.iadd, 1) := by decide +kernel
theorem dX7_gives_161 : decode cX7_gives 161 = .ok (.putfield 105, 3) := by decide +kernel
theorem dX7_gives_164 : decode cX7_gives 164 = .ok (.aload_n 0, 1) := by decide +kernel
theorem dX7_gives_165 : decode cX7_gives 165 = .ok (.getfield 105, 3) := by decide +kernel
theorem dX7_gives_168 : decode cX7_gives 168 = .ok (.iconst 1, 1) := by decide +kernel
theorem dX7_gives_169 : decode cX7_gives 169 = .ok (.isub, 1) := by decide +kernel
theorem dX7_gives_170 : decode cX7_gives 170 = .ok (.ireturn, 1) := by decide +kernel
set_option maxRecDepth 20000 in
theorem ggX7_grantPerson_X7_isRight : GoodIn wsX7_grantPerson wsX7_isRight := goodIn_r _ [7, 8, 9, 10, 6, 11, 32, 33, 34, 35, 36, 37, 38, 39, 40, 41, 42, 43, 44, 45, 46, 47, 48, 49, 50, 51, 52, 53, 54, 55, 56, 57, 58, 59, 60, 61, 62, 63, 64, 65, 66, 67, 68] (by decide +kernel) (by decide +kernel)
set_option maxRecDepth 20000 in
theorem gX7_grantPerson_X7_isRight : GoodIn wsX7_grantPerson (wsV RX7 137 RX7 yX7_isRight wsX7_isRight) := goodIn_app (goodIn_of _ (by decide +kernel)) ggX7_grantPerson_X7_isRight
set_option maxRecDepth 20000 in
theorem ggX7_grantPerson_X7_isPerson : GoodIn wsX7_grantPerson wsX7_isPerson := goodIn_r _ [15, 16, 9, 10, 6, 11, 32, 33, 34, 35, 36, 37, 38, 39, 40, 41, 42, 43, 44, 45, 46, 47, 48, 49, 50, 51, 52, 53, 54, 55, 56, 57, 58, 59, 60, 61, 62, 63, 64, 65, 66, 67, 68] (by decide +kernel) (by decide +kernel)
set_option maxRecDepth 20000 in
theorem gX7_grantPerson_X7_isPerson : GoodIn wsX7_grantPerson (wsV RX7 112 RX7 yX7_isPerson wsX7_isPerson) := goodIn_app (goodIn_of _ (by decide +kernel)) ggX7_grantPerson_X7_isPerson
set_option maxRecDepth 20000 in
theorem ggX7_grantPerson_X7_fails : GoodIn wsX7_grantPerson wsX7_fails := goodIn_r _ [20, 1, 32, 33, 34, 35, 36, 37, 38, 39, 40, 41, 42, 43, 44, 45, 46, 47, 48, 49, 50, 51, 52, 53, 54, 55, 56, 57, 58, 59, 60, 61, 62, 63, 64, 65, 66, 67, 68] (by decide +kernel) (by decide +kernel)
set_option maxRecDepth 20000 in
theorem gX7_grantPerson_X7_fails : GoodIn wsX7_grantPerson (wsV RX7 108 RX7 yX7_fails wsX7_fails) := goodIn_app (goodIn_of _ (by decide +kernel)) ggX7_grantPerson_X7_fails
set_option maxRecDepth 20000 in
theorem ggX7_grantPerson_X7_gives : GoodIn wsX7_grantPerson wsX7_gives := goodIn_ca (goodIn_r _ [24, 25, 26, 27, 28, 29, 30, 31, 17, 18, 19, 6, 20, 1, 32, 33, 34, 35, 36, 37, 38, 39, 40, 41, 42, 43, 44, 45, 46, 47, 48, 49, 50, 51, 52, 53, 54, 55, 56, 57, 58, 59, 60, 61, 62, 63, 64, 65, 66, 67, 68] (by decide +kernel) (by decide +kernel)) (goodIn_sub (fun _ h => List.mem_cons_of_mem _ (List.mem_append_right _ h)) (by decide +kernel))
set_option maxRecDepth 20000 in
theorem gX7_grantPerson_X7_gives : GoodIn wsX7_grantPerson (wsV RX7 140 RX7 yX7_gives wsX7_gives) := goodIn_app (goodIn_of _ (by decide +kernel)) ggX7_grantPerson_X7_gives
theorem dX7_grantPerson_0 : decode cX7_grantPerson 0 = .ok (.aload_n 0, 1) := by decide +kernel
theorem dX7_grantPerson_1 : decode cX7_grantPerson 1 = .ok (.iconst 0, 1) := by decide +kernel
theorem dX7_grantPerson_2 : decode cX7_grantPerson 2 = .ok (.putfield 85, 3) := by decide +kernel
theorem dX7_grantPerson_5 : decode cX7_grantPerson 5 = .ok (.aload_n 0, 1) := by decide +kernel
theorem dX7_grantPerson_6 : decode cX7_grantPerson 6 = .ok (.iload_n 1, 1) := by decide +kernel
theorem dX7_grantPerson_7 : decode cX7_grantPerson 7 = .ok (.invokevirtual 137, 3) := by decide +kernel
theorem dX7_grantPerson_10 : decode cX7_grantPerson 10 = .ok (.ifCond .eq 11, 3) := by decide +kernel
theorem dX7_grantPerson_13 : decode cX7_grantPerson 13 = .ok (.aload_n 0, 1) := by decide +kernel
theorem dX7_grantPerson_14 : decode cX7_grantPerson 14 = .ok (.iload_n 2, 1) := by decide +kernel
theorem dX7_grantPerson_15 : decode cX7_grantPerson 15 = .ok (.invokevirtual 112, 3) := by decide +kernel
theorem dX7_grantPerson_18 : decode cX7_grantPerson 18 = .ok (.ifCond .ne 9, 3) := by decide +kernel
theorem dX7_grantPerson_21 : decode cX7_grantPerson 21 = .ok (.aload_n 0, 1) := by decide +kernel
theorem dX7_grantPerson_22 : decode cX7_grantPerson 22 = .ok (.iconst 1, 1) := by decide +kernel
theorem dX7_grantPerson_23 : decode cX7_grantPerson 23 = .ok (.invokevirtual 108, 3) := by decide +kernel
theorem dX7_grantPerson_26 : decode cX7_grantPerson 26 = .ok (.ireturn, 1) := by decide +kernel
theorem dX7_grantPerson_27 : decode cX7_grantPerson 27 = .ok (.aload_n 0, 1) := by decide +kernel
theorem dX7_grantPerson_28 : decode cX7_grantPerson 28 = .ok (.iload_n 1, 1) := by decide +kernel
theorem dX7_grantPerson_29 : decode cX7_grantPerson 29 = .ok (.iload_n 2, 1) := by decide +kernel
theorem dX7_grantPerson_30 : decode cX7_grantPerson 30 = .ok (.iconst 0, 1) := by decide +kernel
theorem dX7_grantPerson_31 : decode cX7_grantPerson 31 = .ok (.invokevirtual 140, 3) := by decide +kernel
theorem dX7_grantPerson_34 : decode cX7_grantPerson 34 = .ok (.istore_n 3, 1) := by decide +kernel
theorem dX7_grantPerson_35 : decode cX7_grantPerson 35 = .ok (.aload_n 0, 1) := by decide +kernel
theorem dX7_grantPerson_36 : decode cX7_grantPerson 36 = .ok (.getfield 85, 3) := by decide +kernel
theorem dX7_grantPerson_39 : decode cX7_grantPerson 39 = .ok (.ifCond .ne 17, 3) := by decide +kernel
theorem dX7_grantPerson_42 : decode cX7_grantPerson 42 = .ok (.aload_n 0, 1) := by decide +kernel
theorem dX7_grantPerson_43 : decode cX7_grantPerson 43 = .ok (.getfield 34, 3) := by decide +kernel
theorem dX7_grantPerson_46 : decode cX7_grantPerson 46 = .ok (.iload_n 1, 1) := by decide +kernel
theorem dX7_grantPerson_47 : decode cX7_grantPerson 47 = .ok (.dup2, 1) := by decide +kernel
theorem dX7_grantPerson_48 : decode cX7_grantPerson 48 = .ok (.iaload, 1) := by decide +kernel
theorem dX7_grantPerson_49 : decode cX7_grantPerson 49 = .ok (.iconst 1, 1) := by decide +kernel
theorem dX7_grantPerson_50 : decode cX7_grantPerson 50 = .ok (.iload_n 2, 1) := by decide +kernel
theorem dX7_grantPerson_51 : decode cX7_grantPerson 51 = .ok (.ishl, 1) := by decide +kernel
theorem dX7_grantPerson_52 : decode cX7_grantPerson 52 = .ok (.iconst (-1), 1) := by decide +kernel
theorem dX7_grantPerson_53 : decode cX7_grantPerson 53 = .ok (.ixor, 1) := by decide +kernel
theorem dX7_grantPerson_54 : decode cX7_grantPerson 54 = .ok (.iand, 1) := by decide +kernel
theorem dX7_grantPerson_55 : decode cX7_grantPerson 55 = .ok (.iastore, 1) := by decide +kernel
theorem dX7_grantPerson_56 : decode cX7_grantPerson 56 = .ok (.iload_n 3, 1) := by decide +kernel
theorem dX7_grantPerson_57 : decode cX7_grantPerson 57 = .ok (.ireturn, 1) := by decide +kernel
set_option maxRecDepth 20000 in
theorem ggX7_grantGroup_X7_isRight : GoodIn wsX7_grantGroup wsX7_isRight := goodIn_r _ [6, 7, 8, 9, 5, 10, 31, 32, 33, 34, 35, 36, 37, 38, 39, 40, 41, 42, 43, 44, 45, 46, 47, 48, 49, 50, 51, 52, 53, 54, 55, 56, 57, 58, 59, 60, 61, 62, 63, 64, 65, 66, 67] (by decide +kernel) (by decide +kernel)
set_option maxRecDepth 20000 in
theorem gX7_grantGroup_X7_isRight : GoodIn wsX7_grantGroup (wsV RX7 137 RX7 yX7_isRight wsX7_isRight) := goodIn_app (goodIn_of _ (by decide +kernel)) ggX7_grantGroup_X7_isRight
set_option maxRecDepth 20000 in
theorem ggX7_grantGroup_X7_isGroup : GoodIn wsX7_grantGroup wsX7_isGroup := goodIn_r _ [14, 15, 8, 9, 5, 10, 31, 32, 33, 34, 35, 36, 37, 38, 39, 40, 41, 42, 43, 44, 45, 46, 47, 48, 49, 50, 51, 52, 53, 54, 55, 56, 57, 58, 59, 60, 61, 62, 63, 64, 65, 66, 67] (by decide +kernel) (by decide +kernel)
set_option maxRecDepth 20000 in
theorem gX7_grantGroup_X7_isGroup : GoodIn wsX7_grantGroup (wsV RX7 122 RX7 yX7_isGroup wsX7_isGroup) := goodIn_app (goodIn_of _ (by decide +kernel)) ggX7_grantGroup_X7_isGroup
set_option maxRecDepth 20000 in
theorem ggX7_grantGroup_X7_gives : GoodIn wsX7_grantGroup wsX7_gives := goodIn_ca (goodIn_r _ [19, 20, 21, 22, 23, 24, 25, 26, 27, 28, 29, 5, 30, 1, 31, 32, 33, 34, 35, 36, 37, 38, 39, 40, 41, 42, 43, 44, 45, 46, 47, 48, 49, 50, 51, 52, 53, 54, 55, 56, 57, 58, 59, 60, 61, 62, 63, 64, 65, 66, 67] (by decide +kernel) (by decide +kernel)) (goodIn_sub (fun _ h => List.mem_cons_of_mem _ (List.mem_append_right _ h)) (by decide +kernel))
set_option maxRecDepth 20000 in
theorem gX7_grantGroup_X7_gives : GoodIn wsX7_grantGroup (wsV RX7 140 RX7 yX7_gives wsX7_gives) := goodIn_app (goodIn_of _ (by decide +kernel)) ggX7_grantGroup_X7_gives
set_option maxRecDepth 20000 in
theorem ggX7_grantGroup_X7_fails : GoodIn wsX7_grantGroup wsX7_fails := goodIn_r _ [30, 1, 31, 32, 33, 34, 35, 36, 37, 38, 39, 40, 41, 42, 43, 44, 45, 46, 47, 48, 49, 50, 51, 52, 53, 54, 55, 56, 57, 58, 59, 60, 61, 62, 63, 64, 65, 66, 67] (by decide +kernel) (by decide +kernel)
set_option maxRecDepth 20000 in
theorem gX7_grantGroup_X7_fails : GoodIn wsX7_grantGroup (wsV RX7 108 RX7 yX7_fails wsX7_fails) := goodIn_app (goodIn_of _ (by decide +kernel)) ggX7_grantGroup_X7_fails
theorem dX7_grantGroup_0 : decode cX7_grantGroup 0 = .ok (.aload_n 0, 1) := by decide +kernel
theorem dX7_grantGroup_1 : decode cX7_grantGroup 1 = .ok (.iconst 0, 1) := by decide +kernel
theorem dX7_grantGroup_2 : decode cX7_grantGroup 2 = .ok (.putfield 85, 3) := by decide +kernel
theorem dX7_grantGroup_5 : decode cX7_grantGroup 5 = .ok (.aload_n 0, 1) := by decide +kernel
theorem dX7_grantGroup_6 : decode cX7_grantGroup 6 = .ok (.iload_n 1, 1) := by decide +kernel
theorem dX7_grantGroup_7 : decode cX7_grantGroup 7 = .ok (.invokevirtual 137, 3) := by decide +kernel
theorem dX7_grantGroup_10 : decode cX7_grantGroup 10 = .ok (.ifCond .eq 21, 3) := by decide +kernel
theorem dX7_grantGroup_13 : decode cX7_grantGroup 13 = .ok (.aload_n 0, 1) := by decide +kernel
theorem dX7_grantGroup_14 : decode cX7_grantGroup 14 = .ok (.iload_n 2, 1) := by decide +kernel
theorem dX7_grantGroup_15 : decode cX7_grantGroup 15 = .ok (.invokevirtual 122, 3) := by decide +kernel
theorem dX7_grantGroup_18 : decode cX7_grantGroup 18 = .ok (.ifCond .eq 13, 3) := by decide +kernel
theorem dX7_grantGroup_21 : decode cX7_grantGroup 21 = .ok (.aload_n 0, 1) := by decide +kernel
theorem dX7_grantGroup_22 : decode cX7_grantGroup 22 = .ok (.iload_n 1, 1) := by decide +kernel
theorem dX7_grantGroup_23 : decode cX7_grantGroup 23 = .ok (.iload_n 2, 1) := by decide +kernel
theorem dX7_grantGroup_24 : decode cX7_grantGroup 24 = .ok (.iconst 1, 1) := by decide +kernel
theorem dX7_grantGroup_25 : decode cX7_grantGroup 25 = .ok (.invokevirtual 140, 3) := by decide +kernel
theorem dX7_grantGroup_28 : decode cX7_grantGroup 28 = .ok (.goto 8, 3) := by decide +kernel
theorem dX7_grantGroup_31 : decode cX7_grantGroup 31 = .ok (.aload_n 0, 1) := by decide +kernel
theorem dX7_grantGroup_32 : decode cX7_grantGroup 32 = .ok (.iconst 1, 1) := by decide +kernel
theorem dX7_grantGroup_33 : decode cX7_grantGroup 33 = .ok (.invokevirtual 108, 3) := by decide +kernel
theorem dX7_grantGroup_36 : decode cX7_grantGroup 36 = .ok (.ireturn, 1) := by decide +kernel
set_option maxRecDepth 20000 in
theorem ggX7_membersOf_X7_inside : GoodIn wsX7_membersOf wsX7_inside := goodIn_ca (goodIn_r _ [7, 1, 8, 9, 10, 6, 11, 12, 13, 14, 15, 16, 17, 18, 19, 20, 21, 22, 23, 24, 25, 26, 27, 28, 29, 30, 31, 32, 33, 34, 35, 36, 37, 38, 39, 40, 41, 42, 43, 44, 45, 46, 47, 48] (by decide +kernel) (by decide +kernel)) (goodIn_sub (fun _ h => List.mem_cons_of_mem _ (List.mem_append_right _ h)) (by decide +kernel))
set_option maxRecDepth 20000 in
theorem gX7_membersOf_X7_inside : GoodIn wsX7_membersOf (wsV RX7 131 RX7 yX7_inside wsX7_inside) := goodIn_app (goodIn_of _ (by decide +kernel)) ggX7_membersOf_X7_inside
set_option maxRecDepth 20000 in
theorem ggX7_membersOf_X7_has : GoodIn wsX7_membersOf wsX7_has := goodIn_r _ [11] (by decide +kernel) (by decide +kernel)
set_option maxRecDepth 20000 in
theorem gX7_membersOf_X7_has : GoodIn wsX7_membersOf (va_wsS RX7 88 yX7_has wsX7_has) := goodIn_app (goodIn_of _ (by decide +kernel)) ggX7_membersOf_X7_has
theorem dX7_membersOf_0 : decode cX7_membersOf 0 = .ok (.aload_n 0, 1) := by decide +kernel
theorem dX7_membersOf_1 : decode cX7_membersOf 1 = .ok (.iload_n 1, 1) := by decide +kernel
theorem dX7_membersOf_2 : decode cX7_membersOf 2 = .ok (.invokevirtual 131, 3) := by decide +kernel
theorem dX7_membersOf_5 : decode cX7_membersOf 5 = .ok (.istore_n 2, 1) := by decide +kernel
theorem dX7_membersOf_6 : decode cX7_membersOf 6 = .ok (.iconst 0, 1) := by decide +kernel
theorem dX7_membersOf_7 : decode cX7_membersOf 7 = .ok (.istore_n 3, 1) := by decide +kernel
theorem dX7_membersOf_8 : decode cX7_membersOf 8 = .ok (.iconst 0, 1) := by decide +kernel
theorem dX7_membersOf_9 : decode cX7_membersOf 9 = .ok (.istore 4, 2) := by decide +kernel
theorem dX7_membersOf_11 : decode cX7_membersOf 11 = .ok (.iload 4, 2) := by decide +kernel
theorem dX7_membersOf_13 : decode cX7_membersOf 13 = .ok (.aload_n 0, 1) := by decide +kernel
theorem dX7_membersOf_14 : decode cX7_membersOf 14 = .ok (.getfield 99, 3) := by decide +kernel
theorem dX7_membersOf_17 : decode cX7_membersOf 17 = .ok (.if_icmp .ge 32, 3) := by decide +kernel
theorem dX7_membersOf_20 : decode cX7_membersOf 20 = .ok (.iload_n 3, 1) := by decide +kernel
theorem dX7_membersOf_21 : decode cX7_membersOf 21 = .ok (.iload_n 2, 1) := by decide +kernel
theorem dX7_membersOf_22 : decode cX7_membersOf 22 = .ok (.iload 4, 2) := by decide +kernel
theorem dX7_membersOf_24 : decode cX7_membersOf 24 = .ok (.invokestatic 88, 3) := by decide +kernel
theorem dX7_membersOf_27 : decode cX7_membersOf 27 = .ok (.ifCond .eq 13, 3) := by decide +kernel
theorem dX7_membersOf_30 : decode cX7_membersOf 30 = .ok (.aload_n 0, 1) := by decide +kernel
theorem dX7_membersOf_31 : decode cX7_membersOf 31 = .ok (.getfield 22, 3) := by decide +kernel
theorem dX7_membersOf_34 : decode cX7_membersOf 34 = .ok (.iload 4, 2) := by decide +kernel
theorem dX7_membersOf_36 : decode cX7_membersOf 36 = .ok (.iaload, 1) := by decide +kernel
theorem dX7_membersOf_37 : decode cX7_membersOf 37 = .ok (.goto 4, 3) := by decide +kernel
theorem dX7_membersOf_40 : decode cX7_membersOf 40 = .ok (.iconst 0, 1) := by decide +kernel
theorem dX7_membersOf_41 : decode cX7_membersOf 41 = .ok (.ior, 1) := by decide +kernel
theorem dX7_membersOf_42 : decode cX7_membersOf 42 = .ok (.istore_n 3, 1) := by decide +kernel
theorem dX7_membersOf_43 : decode cX7_membersOf 43 = .ok (.iinc 4 1, 3) := by decide +kernel
theorem dX7_membersOf_46 : decode cX7_membersOf 46 = .ok (.goto (-35), 3) := by decide +kernel
theorem dX7_membersOf_49 : decode cX7_membersOf 49 = .ok (.iload_n 3, 1) := by decide +kernel
theorem dX7_membersOf_50 : decode cX7_membersOf 50 = .ok (.ireturn, 1) := by decide +kernel
set_option maxRecDepth 20000 in
theorem ggX7_reachedBy_X7_membersOf : GoodIn wsX7_reachedBy wsX7_membersOf := goodIn_ca (goodIn_r _ [7, 8, 9, 10, 11, 12, 6, 13, 14, 15, 16, 17, 18, 19, 20, 21, 22, 23, 24, 25, 26, 27, 28, 29, 30, 31, 32, 33, 34, 35, 36, 37, 38, 39, 40, 41, 42, 43, 44, 45, 46, 47, 48, 49, 50, 51, 52, 53, 54] (by decide +kernel) (by decide +kernel)) (goodIn_sub (fun _ h => List.mem_cons_of_mem _ (List.mem_append_right _ h)) (by decide +kernel))
set_option maxRecDepth 20000 in
theorem gX7_reachedBy_X7_membersOf : GoodIn wsX7_reachedBy (wsV RX7 144 RX7 yX7_membersOf wsX7_membersOf) := goodIn_app (goodIn_of _ (by decide +kernel)) ggX7_reachedBy_X7_membersOf
theorem dX7_reachedBy_0 : decode cX7_reachedBy 0 = .ok (.aload_n 0, 1) := by decide +kernel
theorem dX7_reachedBy_1 : decode cX7_reachedBy 1 = .ok (.getfield 53, 3) := by decide +kernel
theorem dX7_reachedBy_4 : decode cX7_reachedBy 4 = .ok (.iload_n 1, 1) := by decide +kernel
theorem dX7_reachedBy_5 : decode cX7_reachedBy 5 = .ok (.baload, 1) := by decide +kernel
theorem dX7_reachedBy_6 : decode cX7_reachedBy 6 = .ok (.ifCond .eq 16, 3) := by decide +kernel
theorem dX7_reachedBy_9 : decode cX7_reachedBy 9 = .ok (.aload_n 0, 1) := by decide +kernel
theorem dX7_reachedBy_10 : decode cX7_reachedBy 10 = .ok (.aload_n 0, 1) := by decide +kernel
theorem dX7_reachedBy_11 : decode cX7_reachedBy 11 = .ok (.getfield 40, 3) := by decide +kernel
theorem dX7_reachedBy_14 : decode cX7_reachedBy 14 = .ok (.iload_n 1, 1) := by decide +kernel
theorem dX7_reachedBy_15 : decode cX7_reachedBy 15 = .ok (.iaload, 1) := by decide +kernel
theorem dX7_reachedBy_16 : decode cX7_reachedBy 16 = .ok (.invokevirtual 144, 3) := by decide +kernel
theorem dX7_reachedBy_19 : decode cX7_reachedBy 19 = .ok (.goto 11, 3) := by decide +kernel
theorem dX7_reachedBy_22 : decode cX7_reachedBy 22 = .ok (.iconst 1, 1) := by decide +kernel
theorem dX7_reachedBy_23 : decode cX7_reachedBy 23 = .ok (.aload_n 0, 1) := by decide +kernel
theorem dX7_reachedBy_24 : decode cX7_reachedBy 24 = .ok (.getfield 40, 3) := by decide +kernel
theorem dX7_reachedBy_27 : decode cX7_reachedBy 27 = .ok (.iload_n 1, 1) := by decide +kernel
theorem dX7_reachedBy_28 : decode cX7_reachedBy 28 = .ok (.iaload, 1) := by decide +kernel
theorem dX7_reachedBy_29 : decode cX7_reachedBy 29 = .ok (.ishl, 1) := by decide +kernel
theorem dX7_reachedBy_30 : decode cX7_reachedBy 30 = .ok (.ireturn, 1) := by decide +kernel
set_option maxRecDepth 20000 in
theorem ggX7_holdersBut_X7_reachedBy : GoodIn wsX7_holdersBut wsX7_reachedBy := goodIn_ca (goodIn_r _ [9, 10, 11, 12, 13, 14, 8, 15, 16, 17, 18, 19, 20, 21, 22, 23, 24, 25, 26, 27, 28, 29, 30, 31, 32, 33, 34, 35, 36, 37, 38, 39, 40, 41, 42, 43, 44, 45, 46, 47, 48, 49, 50, 51, 52, 53, 54, 55, 56, 57, 58, 59, 60, 61, 62] (by decide +kernel) (by decide +kernel)) (goodIn_sub (fun _ h => List.mem_cons_of_mem _ (List.mem_append_right _ h)) (by decide +kernel))
set_option maxRecDepth 20000 in
theorem gX7_holdersBut_X7_reachedBy : GoodIn wsX7_holdersBut (wsV RX7 147 RX7 yX7_reachedBy wsX7_reachedBy) := goodIn_app (goodIn_of _ (by decide +kernel)) ggX7_holdersBut_X7_reachedBy
theorem dX7_holdersBut_0 : decode cX7_holdersBut 0 = .ok (.iconst 0, 1) := by decide +kernel
theorem dX7_holdersBut_1 : decode cX7_holdersBut 1 = .ok (.istore_n 3, 1) := by decide +kernel
theorem dX7_holdersBut_2 : decode cX7_holdersBut 2 = .ok (.iconst 0, 1) := by decide +kernel
theorem dX7_holdersBut_3 : decode cX7_holdersBut 3 = .ok (.istore 4, 2) := by decide +kernel
theorem dX7_holdersBut_5 : decode cX7_holdersBut 5 = .ok (.iload 4, 2) := by decide +kernel
theorem dX7_holdersBut_7 : decode cX7_holdersBut 7 = .ok (.aload_n 0, 1) := by decide +kernel
theorem dX7_holdersBut_8 : decode cX7_holdersBut 8 = .ok (.getfield 105, 3) := by decide +kernel
theorem dX7_holdersBut_11 : decode cX7_holdersBut 11 = .ok (.if_icmp .ge 51, 3) := by decide +kernel
theorem dX7_holdersBut_14 : decode cX7_holdersBut 14 = .ok (.iload_n 3, 1) := by decide +kernel
theorem dX7_holdersBut_15 : decode cX7_holdersBut 15 = .ok (.aload_n 0, 1) := by decide +kernel
theorem dX7_holdersBut_16 : decode cX7_holdersBut 16 = .ok (.getfield 56, 3) := by decide +kernel
theorem dX7_holdersBut_19 : decode cX7_holdersBut 19 = .ok (.iload 4, 2) := by decide +kernel
theorem dX7_holdersBut_21 : decode cX7_holdersBut 21 = .ok (.caload, 1) := by decide +kernel
theorem dX7_holdersBut_22 : decode cX7_holdersBut 22 = .ok (.bipush 120, 2) := by decide +kernel
theorem dX7_holdersBut_24 : decode cX7_holdersBut 24 = .ok (.if_icmp .eq 29, 3) := by decide +kernel
theorem dX7_holdersBut_27 : decode cX7_holdersBut 27 = .ok (.aload_n 0, 1) := by decide +kernel
theorem dX7_holdersBut_28 : decode cX7_holdersBut 28 = .ok (.getfield 37, 3) := by decide +kernel
theorem dX7_holdersBut_31 : decode cX7_holdersBut 31 = .ok (.iload 4, 2) := by decide +kernel
theorem dX7_holdersBut_33 : decode cX7_holdersBut 33 = .ok (.iaload, 1) := by decide +kernel
theorem dX7_holdersBut_34 : decode cX7_holdersBut 34 = .ok (.iload_n 1, 1) := by decide +kernel
theorem dX7_holdersBut_35 : decode cX7_holdersBut 35 = .ok (.if_icmp .ne 18, 3) := by decide +kernel
theorem dX7_holdersBut_38 : decode cX7_holdersBut 38 = .ok (.iload 4, 2) := by decide +kernel
theorem dX7_holdersBut_40 : decode cX7_holdersBut 40 = .ok (.iload_n 2, 1) := by decide +kernel
theorem dX7_holdersBut_41 : decode cX7_holdersBut 41 = .ok (.if_icmp .eq 12, 3) := by decide +kernel
theorem dX7_holdersBut_44 : decode cX7_holdersBut 44 = .ok (.aload_n 0, 1) := by decide +kernel
theorem dX7_holdersBut_45 : decode cX7_holdersBut 45 = .ok (.iload 4, 2) := by decide +kernel
theorem dX7_holdersBut_47 : decode cX7_holdersBut 47 = .ok (.invokevirtual 147, 3) := by decide +kernel
theorem dX7_holdersBut_50 : decode cX7_holdersBut 50 = .ok (.goto 4, 3) := by decide +kernel
theorem dX7_holdersBut_53 : decode cX7_holdersBut 53 = .ok (.iconst 0, 1) := by decide +kernel
theorem dX7_holdersBut_54 : decode cX7_holdersBut 54 = .ok (.ior, 1) := by decide +kernel
theorem dX7_holdersBut_55 : decode cX7_holdersBut 55 = .ok (.istore_n 3, 1) := by decide +kernel
theorem dX7_holdersBut_56 : decode cX7_holdersBut 56 = .ok (.iinc 4 1, 3) := by decide +kernel
theorem dX7_holdersBut_59 : decode cX7_holdersBut 59 = .ok (.goto (-54), 3) := by decide +kernel
theorem dX7_holdersBut_62 : decode cX7_holdersBut 62 = .ok (.iload_n 3, 1) := by decide +kernel
theorem dX7_holdersBut_63 : decode cX7_holdersBut 63 = .ok (.aload_n 0, 1) := by decide +kernel
theorem dX7_holdersBut_64 : decode cX7_holdersBut 64 = .ok (.getfield 34, 3) := by decide +kernel
theorem dX7_holdersBut_67 : decode cX7_holdersBut 67 = .ok (.iload_n 1, 1) := by decide +kernel
theorem dX7_holdersBut_68 : decode cX7_holdersBut 68 = .ok (.iaload, 1) := by decide +kernel
theorem dX7_holdersBut_69 : decode cX7_holdersBut 69 = .ok (.iconst (-1), 1) := by decide +kernel
theorem dX7_holdersBut_70 : decode cX7_holdersBut 70 = .ok (.ixor, 1) := by decide +kernel
theorem dX7_holdersBut_71 : decode cX7_holdersBut 71 = .ok (.iand, 1) := by decide +kernel
theorem dX7_holdersBut_72 : decode cX7_holdersBut 72 = .ok (.ireturn, 1) := by decide +kernel
set_option maxRecDepth 20000 in
theorem ggX7_isHolding_X7_holdersBut : GoodIn wsX7_isHolding wsX7_holdersBut := goodIn_ca (goodIn_r _ [5, 6, 7, 8, 9, 10, 11, 12, 4, 13, 14, 15, 16, 17, 18, 19, 20, 21, 22, 23, 24, 25, 26, 27, 28, 29, 30, 31, 32, 33, 34, 35, 36, 37, 38, 39, 40, 41, 42, 43, 44, 45, 46, 47, 48, 49, 50, 51, 52, 53, 54, 55, 56, 57, 58, 59, 60, 61, 62, 63, 64, 65, 66] (by decide +kernel) (by decide +kernel)) (goodIn_sub (fun _ h => List.mem_cons_of_mem _ (List.mem_append_right _ h)) (by decide +kernel))
set_option maxRecDepth 20000 in
theorem gX7_isHolding_X7_holdersBut : GoodIn wsX7_isHolding (wsV RX7 150 RX7 yX7_holdersBut wsX7_holdersBut) := goodIn_app (goodIn_of _ (by decide +kernel)) ggX7_isHolding_X7_holdersBut
set_option maxRecDepth 20000 in
theorem ggX7_isHolding_X7_has : GoodIn wsX7_isHolding wsX7_has := goodIn_r _ [29] (by decide +kernel) (by decide +kernel)
set_option maxRecDepth 20000 in
theorem gX7_isHolding_X7_has : GoodIn wsX7_isHolding (va_wsS RX7 88 yX7_has wsX7_has) := goodIn_app (goodIn_of _ (by decide +kernel)) ggX7_isHolding_X7_has
theorem dX7_isHolding_0 : decode cX7_isHolding 0 = .ok (.aload_n 0, 1) := by decide +kernel
theorem dX7_isHolding_1 : decode cX7_isHolding 1 = .ok (.iload_n 2, 1) := by decide +kernel
theorem dX7_isHolding_2 : decode cX7_isHolding 2 = .ok (.iconst (-1), 1) := by decide +kernel
theorem dX7_isHolding_3 : decode cX7_isHolding 3 = .ok (.invokevirtual 150, 3) := by decide +kernel
theorem dX7_isHolding_6 : decode cX7_isHolding 6 = .ok (.iload_n 1, 1) := by decide +kernel
theorem dX7_isHolding_7 : decode cX7_isHolding 7 = .ok (.invokestatic 88, 3) := by decide +kernel
theorem dX7_isHolding_10 : decode cX7_isHolding 10 = .ok (.ireturn, 1) := by decide +kernel
set_option maxRecDepth 20000 in
theorem ggX7_isNone_X7_isPerson : GoodIn wsX7_isNone wsX7_isPerson := goodIn_r _ [6, 7, 8, 9, 5, 10, 16, 17, 18, 19, 20, 21, 22, 23, 24, 25, 26, 27, 28, 29, 30, 31, 32, 33, 34, 35, 36, 37, 38, 39, 40, 41, 42, 43, 44, 45, 46, 47, 48, 49, 50, 51, 52] (by decide +kernel) (by decide +kernel)
set_option maxRecDepth 20000 in
theorem gX7_isNone_X7_isPerson : GoodIn wsX7_isNone (wsV RX7 112 RX7 yX7_isPerson wsX7_isPerson) := goodIn_app (goodIn_of _ (by decide +kernel)) ggX7_isNone_X7_isPerson
set_option maxRecDepth 20000 in
theorem ggX7_isNone_X7_isRight : GoodIn wsX7_isNone wsX7_isRight := goodIn_r _ [14, 15, 8, 9, 5, 10, 16, 17, 18, 19, 20, 21, 22, 23, 24, 25, 26, 27, 28, 29, 30, 31, 32, 33, 34, 35, 36, 37, 38, 39, 40, 41, 42, 43, 44, 45, 46, 47, 48, 49, 50, 51, 52] (by decide +kernel) (by decide +kernel)
set_option maxRecDepth 20000 in
theorem gX7_isNone_X7_isRight : GoodIn wsX7_isNone (wsV RX7 137 RX7 yX7_isRight wsX7_isRight) := goodIn_app (goodIn_of _ (by decide +kernel)) ggX7_isNone_X7_isRight
theorem dX7_isNone_0 : decode cX7_isNone 0 = .ok (.aload_n 0, 1) := by decide +kernel
theorem dX7_isNone_1 : decode cX7_isNone 1 = .ok (.aload_n 0, 1) := by decide +kernel
theorem dX7_isNone_2 : decode cX7_isNone 2 = .ok (.iload_n 1, 1) := by decide +kernel
theorem dX7_isNone_3 : decode cX7_isNone 3 = .ok (.invokevirtual 112, 3) := by decide +kernel
theorem dX7_isNone_6 : decode cX7_isNone 6 = .ok (.ifCond .eq 15, 3) := by decide +kernel
theorem dX7_isNone_9 : decode cX7_isNone 9 = .ok (.aload_n 0, 1) := by decide +kernel
theorem dX7_isNone_10 : decode cX7_isNone 10 = .ok (.iload_n 2, 1) := by decide +kernel
theorem dX7_isNone_11 : decode cX7_isNone 11 = .ok (.invokevirtual 137, 3) := by decide +kernel
theorem dX7_isNone_14 : decode cX7_isNone 14 = .ok (.ifCond .eq 7, 3) := by decide +kernel
theorem dX7_isNone_17 : decode cX7_isNone 17 = .ok (.iconst 0, 1) := by decide +kernel
theorem dX7_isNone_18 : decode cX7_isNone 18 = .ok (.goto 4, 3) := by decide +kernel
theorem dX7_isNone_21 : decode cX7_isNone 21 = .ok (.iconst 1, 1) := by decide +kernel
theorem dX7_isNone_22 : decode cX7_isNone 22 = .ok (.putfield 85, 3) := by decide +kernel
theorem dX7_isNone_25 : decode cX7_isNone 25 = .ok (.aload_n 0, 1) := by decide +kernel
theorem dX7_isNone_26 : decode cX7_isNone 26 = .ok (.getfield 85, 3) := by decide +kernel
theorem dX7_isNone_29 : decode cX7_isNone 29 = .ok (.ifCond .le 7, 3) := by decide +kernel
theorem dX7_isNone_32 : decode cX7_isNone 32 = .ok (.iconst 1, 1) := by decide +kernel
theorem dX7_isNone_33 : decode cX7_isNone 33 = .ok (.goto 4, 3) := by decide +kernel
theorem dX7_isNone_36 : decode cX7_isNone 36 = .ok (.iconst 0, 1) := by decide +kernel
theorem dX7_isNone_37 : decode cX7_isNone 37 = .ok (.ireturn, 1) := by decide +kernel
set_option maxRecDepth 20000 in
theorem ggX7_use_X7_isNone : GoodIn wsX7_use wsX7_isNone := goodIn_r _ [10, 11, 12, 13, 14, 9, 15, 16, 17, 18, 19, 20, 21, 22, 23, 24, 58, 59, 60, 61, 62, 63, 64, 65, 66, 67, 68, 69, 70, 71, 72, 73, 74, 75, 76, 77, 78, 79, 80, 81, 82, 83, 84, 85, 86, 87, 88, 89, 90, 91, 92, 93, 94] (by decide +kernel) (by decide +kernel)
set_option maxRecDepth 20000 in
theorem gX7_use_X7_isNone : GoodIn wsX7_use (wsV RX7 154 RX7 yX7_isNone wsX7_isNone) := goodIn_app (goodIn_of _ (by decide +kernel)) ggX7_use_X7_isNone
set_option maxRecDepth 20000 in
theorem ggX7_use_X7_isHolding : GoodIn wsX7_use wsX7_isHolding := goodIn_ca (goodIn_r _ [28, 29, 30, 31, 9, 32, 1, 2, 3, 33, 34, 35, 36, 37, 38, 39, 40, 41, 42, 43, 44, 45, 46, 47, 48, 49, 50, 51, 52, 53, 58, 59, 60, 61, 62, 63, 64, 65, 66, 67, 68, 69, 70, 71, 72, 73, 74, 75, 76, 77, 78, 79, 80, 81, 82, 83, 84, 85, 86, 87, 88, 89, 90, 91, 92, 93, 94] (by decide +kernel) (by decide +kernel)) (goodIn_sub (fun _ h => List.mem_cons_of_mem _ (List.mem_append_right _ h)) (by decide +kernel))
set_option maxRecDepth 20000 in
theorem gX7_use_X7_isHolding : GoodIn wsX7_use (wsV RX7 157 RX7 yX7_isHolding wsX7_isHolding) := goodIn_app (goodIn_of _ (by decide +kernel)) ggX7_use_X7_isHolding
set_option maxRecDepth 20000 in
theorem ggX7_use_X7_fails : GoodIn wsX7_use wsX7_fails := goodIn_r _ [57, 11, 58, 59, 60, 61, 62, 63, 64, 65, 66, 67, 68, 69, 70, 71, 72, 73, 74, 75, 76, 77, 78, 79, 80, 81, 82, 83, 84, 85, 86, 87, 88, 89, 90, 91, 92, 93, 94] (by decide +kernel) (by decide +kernel)
set_option maxRecDepth 20000 in
theorem gX7_use_X7_fails : GoodIn wsX7_use (wsV RX7 108 RX7 yX7_fails wsX7_fails) := goodIn_app (goodIn_of _ (by decide +kernel)) ggX7_use_X7_fails
set_option maxRecDepth 20000 in
theorem ggX7_use_X7_reachedBy : GoodIn wsX7_use wsX7_reachedBy := goodIn_ca (goodIn_r _ [37, 38, 39, 40, 41, 42, 9, 43, 44, 45, 46, 47, 48, 49, 50, 51, 52, 53, 58, 59, 60, 61, 62, 63, 64, 65, 66, 67, 68, 69, 70, 71, 72, 73, 74, 75, 76, 77, 78, 79, 80, 81, 82, 83, 84, 85, 86, 87, 88, 89, 90, 91, 92, 93, 94] (by decide +kernel) (by decide +kernel)) (goodIn_sub (fun _ h => List.mem_cons_of_mem _ (List.mem_append_right _ h)) (by decide +kernel))
set_option maxRecDepth 20000 in
theorem gX7_use_X7_reachedBy : GoodIn wsX7_use (wsV RX7 147 RX7 yX7_reachedBy wsX7_reachedBy) := goodIn_app (goodIn_of _ (by decide +kernel)) ggX7_use_X7_reachedBy
set_option maxRecDepth 20000 in
theorem ggX7_use_X7_has : GoodIn wsX7_use wsX7_has := goodIn_r _ [53] (by decide +kernel) (by decide +kernel)
set_option maxRecDepth 20000 in
theorem gX7_use_X7_has : GoodIn wsX7_use (va_wsS RX7 88 yX7_has wsX7_has) := goodIn_app (goodIn_of _ (by decide +kernel)) ggX7_use_X7_has
theorem dX7_use_0 : decode cX7_use 0 = .ok (.aload_n 0, 1) := by decide +kernel
theorem dX7_use_1 : decode cX7_use 1 = .ok (.iload_n 1, 1) := by decide +kernel
theorem dX7_use_2 : decode cX7_use 2 = .ok (.iload_n 2, 1) := by decide +kernel
theorem dX7_use_3 : decode cX7_use 3 = .ok (.invokevirtual 154, 3) := by decide +kernel
theorem dX7_use_6 : decode cX7_use 6 = .ok (.ifCond .eq 5, 3) := by decide +kernel
theorem dX7_use_9 : decode cX7_use 9 = .ok (.iconst 0, 1) := by decide +kernel
theorem dX7_use_10 : decode cX7_use 10 = .ok (.ireturn, 1) := by decide +kernel
theorem dX7_use_11 : decode cX7_use 11 = .ok (.aload_n 0, 1) := by decide +kernel
theorem dX7_use_12 : decode cX7_use 12 = .ok (.iload_n 1, 1) := by decide +kernel
theorem dX7_use_13 : decode cX7_use 13 = .ok (.iload_n 2, 1) := by decide +kernel
theorem dX7_use_14 : decode cX7_use 14 = .ok (.invokevirtual 157, 3) := by decide +kernel
theorem dX7_use_17 : decode cX7_use 17 = .ok (.ifCond .ne 9, 3) := by decide +kernel
theorem dX7_use_20 : decode cX7_use 20 = .ok (.aload_n 0, 1) := by decide +kernel
theorem dX7_use_21 : decode cX7_use 21 = .ok (.iconst 2, 1) := by decide +kernel
theorem dX7_use_22 : decode cX7_use 22 = .ok (.invokevirtual 108, 3) := by decide +kernel
theorem dX7_use_25 : decode cX7_use 25 = .ok (.ireturn, 1) := by decide +kernel
theorem dX7_use_26 : decode cX7_use 26 = .ok (.iconst 0, 1) := by decide +kernel
theorem dX7_use_27 : decode cX7_use 27 = .ok (.istore_n 3, 1) := by decide +kernel
theorem dX7_use_28 : decode cX7_use 28 = .ok (.iconst 0, 1) := by decide +kernel
theorem dX7_use_29 : decode cX7_use 29 = .ok (.istore 4, 2) := by decide +kernel
theorem dX7_use_31 : decode cX7_use 31 = .ok (.iload 4, 2) := by decide +kernel
theorem dX7_use_33 : decode cX7_use 33 = .ok (.aload_n 0, 1) := by decide +kernel
theorem dX7_use_34 : decode cX7_use 34 = .ok (.getfield 105, 3) := by decide +kernel
theorem dX7_use_37 : decode cX7_use 37 = .ok (.if_icmp .ge 62, 3) := by decide +kernel
theorem dX7_use_40 : decode cX7_use 40 = .ok (.aload_n 0, 1) := by decide +kernel
theorem dX7_use_41 : decode cX7_use 41 = .ok (.getfield 56, 3) := by decide +kernel
theorem dX7_use_44 : decode cX7_use 44 = .ok (.iload 4, 2) := by decide +kernel
theorem dX7_use_46 : decode cX7_use 46 = .ok (.caload, 1) := by decide +kernel
theorem dX7_use_47 : decode cX7_use 47 = .ok (.bipush 120, 2) := by decide +kernel
theorem dX7_use_49 : decode cX7_use 49 = .ok (.if_icmp .eq 44, 3) := by decide +kernel
theorem dX7_use_52 : decode cX7_use 52 = .ok (.aload_n 0, 1) := by decide +kernel
theorem dX7_use_53 : decode cX7_use 53 = .ok (.getfield 37, 3) := by decide +kernel
theorem dX7_use_56 : decode cX7_use 56 = .ok (.iload 4, 2) := by decide +kernel
theorem dX7_use_58 : decode cX7_use 58 = .ok (.iaload, 1) := by decide +kernel
theorem dX7_use_59 : decode cX7_use 59 = .ok (.iload_n 2, 1) := by decide +kernel
theorem dX7_use_60 : decode cX7_use 60 = .ok (.if_icmp .ne 33, 3) := by decide +kernel
theorem dX7_use_63 : decode cX7_use 63 = .ok (.aload_n 0, 1) := by decide +kernel
theorem dX7_use_64 : decode cX7_use 64 = .ok (.iload 4, 2) := by decide +kernel
theorem dX7_use_66 : decode cX7_use 66 = .ok (.invokevirtual 147, 3) := by decide +kernel
theorem dX7_use_69 : decode cX7_use 69 = .ok (.iload_n 1, 1) := by decide +kernel
theorem dX7_use_70 : decode cX7_use 70 = .ok (.invokestatic 88, 3) := by decide +kernel
theorem dX7_use_73 : decode cX7_use 73 = .ok (.ifCond .ne 6, 3) := by decide +kernel
theorem dX7_use_76 : decode cX7_use 76 = .ok (.goto 17, 3) := by decide +kernel
theorem dX7_use_79 : decode cX7_use 79 = .ok (.aload_n 0, 1) := by decide +kernel
theorem dX7_use_80 : decode cX7_use 80 = .ok (.getfield 43, 3) := by decide +kernel
theorem dX7_use_83 : decode cX7_use 83 = .ok (.iload 4, 2) := by decide +kernel
theorem dX7_use_85 : decode cX7_use 85 = .ok (.aload_n 0, 1) := by decide +kernel
theorem dX7_use_86 : decode cX7_use 86 = .ok (.getfield 134, 3) := by decide +kernel
theorem dX7_use_89 : decode cX7_use 89 = .ok (.iastore, 1) := by decide +kernel
theorem dX7_use_90 : decode cX7_use 90 = .ok (.iinc 3 1, 3) := by decide +kernel
theorem dX7_use_93 : decode cX7_use 93 = .ok (.iinc 4 1, 3) := by decide +kernel
theorem dX7_use_96 : decode cX7_use 96 = .ok (.goto (-65), 3) := by decide +kernel
theorem dX7_use_99 : decode cX7_use 99 = .ok (.iload_n 3, 1) := by decide +kernel
theorem dX7_use_100 : decode cX7_use 100 = .ok (.ireturn, 1) := by decide +kernel
set_option maxRecDepth 20000 in
theorem ggX7_riskBy_X7_holdersBut : GoodIn wsX7_riskBy wsX7_holdersBut := goodIn_ca (goodIn_r _ [8, 9, 10, 11, 12, 13, 14, 15, 7, 16, 17, 18, 19, 20, 21, 22, 23, 24, 25, 26, 27, 28, 29, 30, 31, 32, 33, 34, 35, 36, 37, 38, 39, 40, 41, 42, 43, 44, 45, 46, 47, 48, 49, 50, 51, 52, 53, 54, 55, 56, 57, 58, 59, 60, 61, 62, 63, 64, 65, 66, 67, 68, 69] (by decide +kernel) (by decide +kernel)) (goodIn_sub (fun _ h => List.mem_cons_of_mem _ (List.mem_append_left _ (List.mem_append_right _ h))) (by decide +kernel))
set_option maxRecDepth 20000 in
theorem gX7_riskBy_X7_holdersBut : GoodIn wsX7_riskBy (wsV RX7 150 RX7 yX7_holdersBut wsX7_holdersBut) := goodIn_app (goodIn_of _ (by decide +kernel)) ggX7_riskBy_X7_holdersBut
set_option maxRecDepth 20000 in
theorem ggX7_riskBy_X7_has : GoodIn wsX7_riskBy wsX7_has := goodIn_r _ [32] (by decide +kernel) (by decide +kernel)
set_option maxRecDepth 20000 in
theorem gX7_riskBy_X7_has : GoodIn wsX7_riskBy (va_wsS RX7 88 yX7_has wsX7_has) := goodIn_app (goodIn_of _ (by decide +kernel)) ggX7_riskBy_X7_has
theorem dX7_riskBy_0 : decode cX7_riskBy 0 = .ok (.iconst 0, 1) := by decide +kernel
theorem dX7_riskBy_1 : decode cX7_riskBy 1 = .ok (.istore_n 3, 1) := by decide +kernel
theorem dX7_riskBy_2 : decode cX7_riskBy 2 = .ok (.iconst 0, 1) := by decide +kernel
theorem dX7_riskBy_3 : decode cX7_riskBy 3 = .ok (.istore 4, 2) := by decide +kernel
theorem dX7_riskBy_5 : decode cX7_riskBy 5 = .ok (.aload_n 0, 1) := by decide +kernel
theorem dX7_riskBy_6 : decode cX7_riskBy 6 = .ok (.iload_n 2, 1) := by decide +kernel
theorem dX7_riskBy_7 : decode cX7_riskBy 7 = .ok (.iconst (-1), 1) := by decide +kernel
theorem dX7_riskBy_8 : decode cX7_riskBy 8 = .ok (.invokevirtual 150, 3) := by decide +kernel
theorem dX7_riskBy_11 : decode cX7_riskBy 11 = .ok (.istore 5, 2) := by decide +kernel
theorem dX7_riskBy_13 : decode cX7_riskBy 13 = .ok (.iconst 0, 1) := by decide +kernel
theorem dX7_riskBy_14 : decode cX7_riskBy 14 = .ok (.istore 6, 2) := by decide +kernel
theorem dX7_riskBy_16 : decode cX7_riskBy 16 = .ok (.iload 6, 2) := by decide +kernel
theorem dX7_riskBy_18 : decode cX7_riskBy 18 = .ok (.aload_n 0, 1) := by decide +kernel
theorem dX7_riskBy_19 : decode cX7_riskBy 19 = .ok (.getfield 92, 3) := by decide +kernel
theorem dX7_riskBy_22 : decode cX7_riskBy 22 = .ok (.if_icmp .ge 57, 3) := by decide +kernel
theorem dX7_riskBy_25 : decode cX7_riskBy 25 = .ok (.iload 6, 2) := by decide +kernel
theorem dX7_riskBy_27 : decode cX7_riskBy 27 = .ok (.iload_n 1, 1) := by decide +kernel
theorem dX7_riskBy_28 : decode cX7_riskBy 28 = .ok (.if_icmp .eq 45, 3) := by decide +kernel
theorem dX7_riskBy_31 : decode cX7_riskBy 31 = .ok (.aload_n 0, 1) := by decide +kernel
theorem dX7_riskBy_32 : decode cX7_riskBy 32 = .ok (.getfield 9, 3) := by decide +kernel
theorem dX7_riskBy_35 : decode cX7_riskBy 35 = .ok (.iload 6, 2) := by decide +kernel
theorem dX7_riskBy_37 : decode cX7_riskBy 37 = .ok (.iaload, 1) := by decide +kernel
theorem dX7_riskBy_38 : decode cX7_riskBy 38 = .ok (.aload_n 0, 1) := by decide +kernel
theorem dX7_riskBy_39 : decode cX7_riskBy 39 = .ok (.getfield 9, 3) := by decide +kernel
theorem dX7_riskBy_42 : decode cX7_riskBy 42 = .ok (.iload_n 1, 1) := by decide +kernel
theorem dX7_riskBy_43 : decode cX7_riskBy 43 = .ok (.iaload, 1) := by decide +kernel
theorem dX7_riskBy_44 : decode cX7_riskBy 44 = .ok (.if_icmp .eq 6, 3) := by decide +kernel
theorem dX7_riskBy_47 : decode cX7_riskBy 47 = .ok (.goto 26, 3) := by decide +kernel
theorem dX7_riskBy_50 : decode cX7_riskBy 50 = .ok (.iinc 3 1, 3) := by decide +kernel
theorem dX7_riskBy_53 : decode cX7_riskBy 53 = .ok (.iload 4, 2) := by decide +kernel
theorem dX7_riskBy_55 : decode cX7_riskBy 55 = .ok (.iload 5, 2) := by decide +kernel
theorem dX7_riskBy_57 : decode cX7_riskBy 57 = .ok (.iload 6, 2) := by decide +kernel
theorem dX7_riskBy_59 : decode cX7_riskBy 59 = .ok (.invokestatic 88, 3) := by decide +kernel
theorem dX7_riskBy_62 : decode cX7_riskBy 62 = .ok (.ifCond .eq 7, 3) := by decide +kernel
theorem dX7_riskBy_65 : decode cX7_riskBy 65 = .ok (.iconst 0, 1) := by decide +kernel
theorem dX7_riskBy_66 : decode cX7_riskBy 66 = .ok (.goto 4, 3) := by decide +kernel
theorem dX7_riskBy_69 : decode cX7_riskBy 69 = .ok (.iconst 1, 1) := by decide +kernel
theorem dX7_riskBy_70 : decode cX7_riskBy 70 = .ok (.iadd, 1) := by decide +kernel
theorem dX7_riskBy_71 : decode cX7_riskBy 71 = .ok (.istore 4, 2) := by decide +kernel
theorem dX7_riskBy_73 : decode cX7_riskBy 73 = .ok (.iinc 6 1, 3) := by decide +kernel
theorem dX7_riskBy_76 : decode cX7_riskBy 76 = .ok (.goto (-60), 3) := by decide +kernel
theorem dX7_riskBy_79 : decode cX7_riskBy 79 = .ok (.iload_n 3, 1) := by decide +kernel
theorem dX7_riskBy_80 : decode cX7_riskBy 80 = .ok (.ifCond .ne 15, 3) := by decide +kernel
theorem dX7_riskBy_83 : decode cX7_riskBy 83 = .ok (.bipush 100, 2) := by decide +kernel
theorem dX7_riskBy_85 : decode cX7_riskBy 85 = .ok (.aload_n 0, 1) := by decide +kernel
theorem dX7_riskBy_86 : decode cX7_riskBy 86 = .ok (.getfield 28, 3) := by decide +kernel
theorem dX7_riskBy_89 : decode cX7_riskBy 89 = .ok (.iload_n 2, 1) := by decide +kernel
theorem dX7_riskBy_90 : decode cX7_riskBy 90 = .ok (.iaload, 1) := by decide +kernel
theorem dX7_riskBy_91 : decode cX7_riskBy 91 = .ok (.imul, 1) := by decide +kernel
theorem dX7_riskBy_92 : decode cX7_riskBy 92 = .ok (.goto 17, 3) := by decide +kernel
theorem dX7_riskBy_95 : decode cX7_riskBy 95 = .ok (.bipush 100, 2) := by decide +kernel
theorem dX7_riskBy_97 : decode cX7_riskBy 97 = .ok (.aload_n 0, 1) := by decide +kernel
theorem dX7_riskBy_98 : decode cX7_riskBy 98 = .ok (.getfield 28, 3) := by decide +kernel
theorem dX7_riskBy_101 : decode cX7_riskBy 101 = .ok (.iload_n 2, 1) := by decide +kernel
theorem dX7_riskBy_102 : decode cX7_riskBy 102 = .ok (.iaload, 1) := by decide +kernel
theorem dX7_riskBy_103 : decode cX7_riskBy 103 = .ok (.imul, 1) := by decide +kernel
theorem dX7_riskBy_104 : decode cX7_riskBy 104 = .ok (.iload 4, 2) := by decide +kernel
theorem dX7_riskBy_106 : decode cX7_riskBy 106 = .ok (.imul, 1) := by decide +kernel
theorem dX7_riskBy_107 : decode cX7_riskBy 107 = .ok (.iload_n 3, 1) := by decide +kernel
theorem dX7_riskBy_108 : decode cX7_riskBy 108 = .ok (.idiv, 1) := by decide +kernel
theorem dX7_riskBy_109 : decode cX7_riskBy 109 = .ok (.ireturn, 1) := by decide +kernel
set_option maxRecDepth 20000 in
theorem ggX7_riskOfGrant_X7_reachedBy : GoodIn wsX7_riskOfGrant wsX7_reachedBy := goodIn_ca (goodIn_r _ [13, 14, 15, 16, 17, 18, 12, 19, 20, 21, 22, 23, 24, 25, 26, 27, 28, 29, 43, 44, 45, 46, 47, 48, 49, 50, 51, 52, 53, 54, 55, 56, 57, 58, 59, 60, 61, 62, 63, 64, 65, 66, 67, 68, 69, 70, 71, 72, 73, 74, 75, 76, 77, 78, 79] (by decide +kernel) (by decide +kernel)) (goodIn_sub (fun _ h => List.mem_cons_of_mem _ (List.mem_append_left _ (List.mem_append_right _ h))) (by decide +kernel))
set_option maxRecDepth 20000 in
theorem gX7_riskOfGrant_X7_reachedBy : GoodIn wsX7_riskOfGrant (wsV RX7 147 RX7 yX7_reachedBy wsX7_reachedBy) := goodIn_app (goodIn_of _ (by decide +kernel)) ggX7_riskOfGrant_X7_reachedBy
set_option maxRecDepth 20000 in
theorem ggX7_riskOfGrant_X7_has : GoodIn wsX7_riskOfGrant wsX7_has := goodIn_r _ [29] (by decide +kernel) (by decide +kernel)
set_option maxRecDepth 20000 in
theorem gX7_riskOfGrant_X7_has : GoodIn wsX7_riskOfGrant (va_wsS RX7 88 yX7_has wsX7_has) := goodIn_app (goodIn_of _ (by decide +kernel)) ggX7_riskOfGrant_X7_has
set_option maxRecDepth 20000 in
theorem ggX7_riskOfGrant_X7_riskBy : GoodIn wsX7_riskOfGrant wsX7_riskBy := goodIn_ca (goodIn_ca (goodIn_r _ [33, 1, 34, 35, 36, 37, 38, 12, 39, 40, 41, 2, 42, 9, 10, 11, 13, 14, 15, 16, 17, 18, 19, 20, 21, 22, 23, 24, 25, 26, 27, 28, 29, 43, 44, 45, 46, 47, 48, 49, 50, 51, 52, 53, 54, 55, 56, 57, 58, 59, 60, 61, 62, 63, 64, 65, 66, 67, 68, 69, 70, 71, 72, 73, 74, 75, 76, 77, 78, 79] (by decide +kernel) (by decide +kernel)) (goodIn_sub (fun _ h => List.mem_cons_of_mem _ (List.mem_append_left _ (List.mem_append_right _ h))) (by decide +kernel))) (goodIn_sub (fun _ h => List.mem_cons_of_mem _ (List.mem_append_right _ h)) (by decide +kernel))
set_option maxRecDepth 20000 in
theorem gX7_riskOfGrant_X7_riskBy : GoodIn wsX7_riskOfGrant (wsV RX7 160 RX7 yX7_riskBy wsX7_riskBy) := goodIn_app (goodIn_of _ (by decide +kernel)) ggX7_riskOfGrant_X7_riskBy
theorem dX7_riskOfGrant_0 : decode cX7_riskOfGrant 0 = .ok (.aload_n 0, 1) := by decide +kernel
theorem dX7_riskOfGrant_1 : decode cX7_riskOfGrant 1 = .ok (.iload_n 1, 1) := by decide +kernel
theorem dX7_riskOfGrant_2 : decode cX7_riskOfGrant 2 = .ok (.invokevirtual 147, 3) := by decide +kernel
theorem dX7_riskOfGrant_5 : decode cX7_riskOfGrant 5 = .ok (.istore_n 2, 1) := by decide +kernel
theorem dX7_riskOfGrant_6 : decode cX7_riskOfGrant 6 = .ok (.iconst 0, 1) := by decide +kernel
theorem dX7_riskOfGrant_7 : decode cX7_riskOfGrant 7 = .ok (.istore_n 3, 1) := by decide +kernel
theorem dX7_riskOfGrant_8 : decode cX7_riskOfGrant 8 = .ok (.iconst 0, 1) := by decide +kernel
theorem dX7_riskOfGrant_9 : decode cX7_riskOfGrant 9 = .ok (.istore 4, 2) := by decide +kernel
theorem dX7_riskOfGrant_11 : decode cX7_riskOfGrant 11 = .ok (.iload 4, 2) := by decide +kernel
theorem dX7_riskOfGrant_13 : decode cX7_riskOfGrant 13 = .ok (.aload_n 0, 1) := by decide +kernel
theorem dX7_riskOfGrant_14 : decode cX7_riskOfGrant 14 = .ok (.getfield 92, 3) := by decide +kernel
theorem dX7_riskOfGrant_17 : decode cX7_riskOfGrant 17 = .ok (.if_icmp .ge 39, 3) := by decide +kernel
theorem dX7_riskOfGrant_20 : decode cX7_riskOfGrant 20 = .ok (.iload_n 2, 1) := by decide +kernel
theorem dX7_riskOfGrant_21 : decode cX7_riskOfGrant 21 = .ok (.iload 4, 2) := by decide +kernel
theorem dX7_riskOfGrant_23 : decode cX7_riskOfGrant 23 = .ok (.invokestatic 88, 3) := by decide +kernel
theorem dX7_riskOfGrant_26 : decode cX7_riskOfGrant 26 = .ok (.ifCond .eq 22, 3) := by decide +kernel
theorem dX7_riskOfGrant_29 : decode cX7_riskOfGrant 29 = .ok (.iload_n 3, 1) := by decide +kernel
theorem dX7_riskOfGrant_30 : decode cX7_riskOfGrant 30 = .ok (.aload_n 0, 1) := by decide +kernel
theorem dX7_riskOfGrant_31 : decode cX7_riskOfGrant 31 = .ok (.iload 4, 2) := by decide +kernel
theorem dX7_riskOfGrant_33 : decode cX7_riskOfGrant 33 = .ok (.aload_n 0, 1) := by decide +kernel
theorem dX7_riskOfGrant_34 : decode cX7_riskOfGrant 34 = .ok (.getfield 37, 3) := by decide +kernel
theorem dX7_riskOfGrant_37 : decode cX7_riskOfGrant 37 = .ok (.iload_n 1, 1) := by decide +kernel
theorem dX7_riskOfGrant_38 : decode cX7_riskOfGrant 38 = .ok (.iaload, 1) := by decide +kernel
theorem dX7_riskOfGrant_39 : decode cX7_riskOfGrant 39 = .ok (.invokevirtual 160, 3) := by decide +kernel
theorem dX7_riskOfGrant_42 : decode cX7_riskOfGrant 42 = .ok (.invokestatic 163, 3) := by decide +kernel
theorem dX7_riskOfGrant_45 : decode cX7_riskOfGrant 45 = .ok (.goto 4, 3) := by decide +kernel
theorem dX7_riskOfGrant_48 : decode cX7_riskOfGrant 48 = .ok (.iload_n 3, 1) := by decide +kernel
theorem dX7_riskOfGrant_49 : decode cX7_riskOfGrant 49 = .ok (.istore_n 3, 1) := by decide +kernel
theorem dX7_riskOfGrant_50 : decode cX7_riskOfGrant 50 = .ok (.iinc 4 1, 3) := by decide +kernel
theorem dX7_riskOfGrant_53 : decode cX7_riskOfGrant 53 = .ok (.goto (-42), 3) := by decide +kernel
theorem dX7_riskOfGrant_56 : decode cX7_riskOfGrant 56 = .ok (.iload_n 3, 1) := by decide +kernel
theorem dX7_riskOfGrant_57 : decode cX7_riskOfGrant 57 = .ok (.aload_n 0, 1) := by decide +kernel
theorem dX7_riskOfGrant_58 : decode cX7_riskOfGrant 58 = .ok (.getfield 134, 3) := by decide +kernel
theorem dX7_riskOfGrant_61 : decode cX7_riskOfGrant 61 = .ok (.aload_n 0, 1) := by decide +kernel
theorem dX7_riskOfGrant_62 : decode cX7_riskOfGrant 62 = .ok (.getfield 43, 3) := by decide +kernel
theorem dX7_riskOfGrant_65 : decode cX7_riskOfGrant 65 = .ok (.iload_n 1, 1) := by decide +kernel
theorem dX7_riskOfGrant_66 : decode cX7_riskOfGrant 66 = .ok (.iaload, 1) := by decide +kernel
theorem dX7_riskOfGrant_67 : decode cX7_riskOfGrant 67 = .ok (.isub, 1) := by decide +kernel
theorem dX7_riskOfGrant_68 : decode cX7_riskOfGrant 68 = .ok (.bipush 30, 2) := by decide +kernel
theorem dX7_riskOfGrant_70 : decode cX7_riskOfGrant 70 = .ok (.if_icmp .lt 8, 3) := by decide +kernel
theorem dX7_riskOfGrant_73 : decode cX7_riskOfGrant 73 = .ok (.bipush 50, 2) := by decide +kernel
theorem dX7_riskOfGrant_75 : decode cX7_riskOfGrant 75 = .ok (.goto 4, 3) := by decide +kernel
theorem dX7_riskOfGrant_78 : decode cX7_riskOfGrant 78 = .ok (.iconst 0, 1) := by decide +kernel
theorem dX7_riskOfGrant_79 : decode cX7_riskOfGrant 79 = .ok (.iadd, 1) := by decide +kernel
theorem dX7_riskOfGrant_80 : decode cX7_riskOfGrant 80 = .ok (.ireturn, 1) := by decide +kernel
set_option maxRecDepth 20000 in
theorem ggX7_standBy_X7_has : GoodIn wsX7_standBy wsX7_has := goodIn_r _ [6] (by decide +kernel) (by decide +kernel)
set_option maxRecDepth 20000 in
theorem gX7_standBy_X7_has : GoodIn wsX7_standBy (va_wsS RX7 88 yX7_has wsX7_has) := goodIn_app (goodIn_of _ (by decide +kernel)) ggX7_standBy_X7_has
theorem dX7_standBy_0 : decode cX7_standBy 0 = .ok (.iload_n 1, 1) := by decide +kernel
theorem dX7_standBy_1 : decode cX7_standBy 1 = .ok (.istore_n 2, 1) := by decide +kernel
theorem dX7_standBy_2 : decode cX7_standBy 2 = .ok (.iconst 0, 1) := by decide +kernel
theorem dX7_standBy_3 : decode cX7_standBy 3 = .ok (.istore_n 3, 1) := by decide +kernel
theorem dX7_standBy_4 : decode cX7_standBy 4 = .ok (.iload_n 2, 1) := by decide +kernel
theorem dX7_standBy_5 : decode cX7_standBy 5 = .ok (.iconst (-1), 1) := by decide +kernel
theorem dX7_standBy_6 : decode cX7_standBy 6 = .ok (.if_icmp .eq 40, 3) := by decide +kernel
theorem dX7_standBy_9 : decode cX7_standBy 9 = .ok (.aload_n 0, 1) := by decide +kernel
theorem dX7_standBy_10 : decode cX7_standBy 10 = .ok (.getfield 119, 3) := by decide +kernel
theorem dX7_standBy_13 : decode cX7_standBy 13 = .ok (.iload_n 2, 1) := by decide +kernel
theorem dX7_standBy_14 : decode cX7_standBy 14 = .ok (.invokestatic 88, 3) := by decide +kernel
theorem dX7_standBy_17 : decode cX7_standBy 17 = .ok (.ifCond .eq 29, 3) := by decide +kernel
theorem dX7_standBy_20 : decode cX7_standBy 20 = .ok (.iload_n 3, 1) := by decide +kernel
theorem dX7_standBy_21 : decode cX7_standBy 21 = .ok (.iload_n 2, 1) := by decide +kernel
theorem dX7_standBy_22 : decode cX7_standBy 22 = .ok (.invokestatic 88, 3) := by decide +kernel
theorem dX7_standBy_25 : decode cX7_standBy 25 = .ok (.ifCond .eq 5, 3) := by decide +kernel
theorem dX7_standBy_28 : decode cX7_standBy 28 = .ok (.iconst (-1), 1) := by decide +kernel
theorem dX7_standBy_29 : decode cX7_standBy 29 = .ok (.ireturn, 1) := by decide +kernel
theorem dX7_standBy_30 : decode cX7_standBy 30 = .ok (.iload_n 3, 1) := by decide +kernel
theorem dX7_standBy_31 : decode cX7_standBy 31 = .ok (.iconst 1, 1) := by decide +kernel
theorem dX7_standBy_32 : decode cX7_standBy 32 = .ok (.iload_n 2, 1) := by decide +kernel
theorem dX7_standBy_33 : decode cX7_standBy 33 = .ok (.ishl, 1) := by decide +kernel
theorem dX7_standBy_34 : decode cX7_standBy 34 = .ok (.ior, 1) := by decide +kernel
theorem dX7_standBy_35 : decode cX7_standBy 35 = .ok (.istore_n 3, 1) := by decide +kernel
theorem dX7_standBy_36 : decode cX7_standBy 36 = .ok (.aload_n 0, 1) := by decide +kernel
theorem dX7_standBy_37 : decode cX7_standBy 37 = .ok (.getfield 16, 3) := by decide +kernel
theorem dX7_standBy_40 : decode cX7_standBy 40 = .ok (.iload_n 2, 1) := by decide +kernel
theorem dX7_standBy_41 : decode cX7_standBy 41 = .ok (.iaload, 1) := by decide +kernel
theorem dX7_standBy_42 : decode cX7_standBy 42 = .ok (.istore_n 2, 1) := by decide +kernel
theorem dX7_standBy_43 : decode cX7_standBy 43 = .ok (.goto (-39), 3) := by decide +kernel
theorem dX7_standBy_46 : decode cX7_standBy 46 = .ok (.iload_n 2, 1) := by decide +kernel
theorem dX7_standBy_47 : decode cX7_standBy 47 = .ok (.ireturn, 1) := by decide +kernel
set_option maxRecDepth 20000 in
theorem ggX7_reviewer_X7_standBy : GoodIn wsX7_reviewer wsX7_standBy := goodIn_ca (goodIn_r _ [12, 13, 14, 15, 16, 11, 17, 18, 19, 20, 21, 22, 23, 24, 25, 26, 27, 28, 29, 30, 31, 32, 33, 34, 35, 36, 37, 38, 39, 40, 41, 42, 43, 44, 45, 46, 47, 48, 49, 50, 51, 52, 53, 54] (by decide +kernel) (by decide +kernel)) (goodIn_sub (fun _ h => List.mem_cons_of_mem _ (List.mem_append_right _ h)) (by decide +kernel))
set_option maxRecDepth 20000 in
theorem gX7_reviewer_X7_standBy : GoodIn wsX7_reviewer (wsV RX7 168 RX7 yX7_standBy wsX7_standBy) := goodIn_app (goodIn_of _ (by decide +kernel)) ggX7_reviewer_X7_standBy
theorem dX7_reviewer_0 : decode cX7_reviewer 0 = .ok (.aload_n 0, 1) := by decide +kernel
theorem dX7_reviewer_1 : decode cX7_reviewer 1 = .ok (.getfield 53, 3) := by decide +kernel
theorem dX7_reviewer_4 : decode cX7_reviewer 4 = .ok (.iload_n 1, 1) := by decide +kernel
theorem dX7_reviewer_5 : decode cX7_reviewer 5 = .ok (.baload, 1) := by decide +kernel
theorem dX7_reviewer_6 : decode cX7_reviewer 6 = .ok (.ifCond .eq 7, 3) := by decide +kernel
theorem dX7_reviewer_9 : decode cX7_reviewer 9 = .ok (.iconst (-1), 1) := by decide +kernel
theorem dX7_reviewer_10 : decode cX7_reviewer 10 = .ok (.goto 9, 3) := by decide +kernel
theorem dX7_reviewer_13 : decode cX7_reviewer 13 = .ok (.aload_n 0, 1) := by decide +kernel
theorem dX7_reviewer_14 : decode cX7_reviewer 14 = .ok (.getfield 40, 3) := by decide +kernel
theorem dX7_reviewer_17 : decode cX7_reviewer 17 = .ok (.iload_n 1, 1) := by decide +kernel
theorem dX7_reviewer_18 : decode cX7_reviewer 18 = .ok (.iaload, 1) := by decide +kernel
theorem dX7_reviewer_19 : decode cX7_reviewer 19 = .ok (.istore_n 2, 1) := by decide +kernel
theorem dX7_reviewer_20 : decode cX7_reviewer 20 = .ok (.aload_n 0, 1) := by decide +kernel
theorem dX7_reviewer_21 : decode cX7_reviewer 21 = .ok (.getfield 53, 3) := by decide +kernel
theorem dX7_reviewer_24 : decode cX7_reviewer 24 = .ok (.iload_n 1, 1) := by decide +kernel
theorem dX7_reviewer_25 : decode cX7_reviewer 25 = .ok (.baload, 1) := by decide +kernel
theorem dX7_reviewer_26 : decode cX7_reviewer 26 = .ok (.ifCond .eq 17, 3) := by decide +kernel
theorem dX7_reviewer_29 : decode cX7_reviewer 29 = .ok (.aload_n 0, 1) := by decide +kernel
theorem dX7_reviewer_30 : decode cX7_reviewer 30 = .ok (.getfield 19, 3) := by decide +kernel
theorem dX7_reviewer_33 : decode cX7_reviewer 33 = .ok (.aload_n 0, 1) := by decide +kernel
theorem dX7_reviewer_34 : decode cX7_reviewer 34 = .ok (.getfield 40, 3) := by decide +kernel
theorem dX7_reviewer_37 : decode cX7_reviewer 37 = .ok (.iload_n 1, 1) := by decide +kernel
theorem dX7_reviewer_38 : decode cX7_reviewer 38 = .ok (.iaload, 1) := by decide +kernel
theorem dX7_reviewer_39 : decode cX7_reviewer 39 = .ok (.iaload, 1) := by decide +kernel
theorem dX7_reviewer_40 : decode cX7_reviewer 40 = .ok (.goto 14, 3) := by decide +kernel
theorem dX7_reviewer_43 : decode cX7_reviewer 43 = .ok (.aload_n 0, 1) := by decide +kernel
theorem dX7_reviewer_44 : decode cX7_reviewer 44 = .ok (.getfield 13, 3) := by decide +kernel
theorem dX7_reviewer_47 : decode cX7_reviewer 47 = .ok (.aload_n 0, 1) := by decide +kernel
theorem dX7_reviewer_48 : decode cX7_reviewer 48 = .ok (.getfield 40, 3) := by decide +kernel
theorem dX7_reviewer_51 : decode cX7_reviewer 51 = .ok (.iload_n 1, 1) := by decide +kernel
theorem dX7_reviewer_52 : decode cX7_reviewer 52 = .ok (.iaload, 1) := by decide +kernel
theorem dX7_reviewer_53 : decode cX7_reviewer 53 = .ok (.iaload, 1) := by decide +kernel
theorem dX7_reviewer_54 : decode cX7_reviewer 54 = .ok (.istore_n 3, 1) := by decide +kernel
theorem dX7_reviewer_55 : decode cX7_reviewer 55 = .ok (.bipush (-2), 2) := by decide +kernel
theorem dX7_reviewer_57 : decode cX7_reviewer 57 = .ok (.istore 4, 2) := by decide +kernel
theorem dX7_reviewer_59 : decode cX7_reviewer 59 = .ok (.iload 4, 2) := by decide +kernel
theorem dX7_reviewer_61 : decode cX7_reviewer 61 = .ok (.aload_n 0, 1) := by decide +kernel
theorem dX7_reviewer_62 : decode cX7_reviewer 62 = .ok (.getfield 92, 3) := by decide +kernel
theorem dX7_reviewer_65 : decode cX7_reviewer 65 = .ok (.if_icmp .ge 77, 3) := by decide +kernel
theorem dX7_reviewer_68 : decode cX7_reviewer 68 = .ok (.iload 4, 2) := by decide +kernel
theorem dX7_reviewer_70 : decode cX7_reviewer 70 = .ok (.bipush (-2), 2) := by decide +kernel
theorem dX7_reviewer_72 : decode cX7_reviewer 72 = .ok (.if_icmp .ne 7, 3) := by decide +kernel
theorem dX7_reviewer_75 : decode cX7_reviewer 75 = .ok (.iload_n 3, 1) := by decide +kernel
theorem dX7_reviewer_76 : decode cX7_reviewer 76 = .ok (.goto 25, 3) := by decide +kernel
theorem dX7_reviewer_79 : decode cX7_reviewer 79 = .ok (.iload 4, 2) := by decide +kernel
theorem dX7_reviewer_81 : decode cX7_reviewer 81 = .ok (.iconst (-1), 1) := by decide +kernel
theorem dX7_reviewer_82 : decode cX7_reviewer 82 = .ok (.if_icmp .ne 17, 3) := by decide +kernel
theorem dX7_reviewer_85 : decode cX7_reviewer 85 = .ok (.aload_n 0, 1) := by decide +kernel
theorem dX7_reviewer_86 : decode cX7_reviewer 86 = .ok (.getfield 31, 3) := by decide +kernel
theorem dX7_reviewer_89 : decode cX7_reviewer 89 = .ok (.aload_n 0, 1) := by decide +kernel
theorem dX7_reviewer_90 : decode cX7_reviewer 90 = .ok (.getfield 37, 3) := by decide +kernel
theorem dX7_reviewer_93 : decode cX7_reviewer 93 = .ok (.iload_n 1, 1) := by decide +kernel
theorem dX7_reviewer_94 : decode cX7_reviewer 94 = .ok (.iaload, 1) := by decide +kernel
theorem dX7_reviewer_95 : decode cX7_reviewer 95 = .ok (.iaload, 1) := by decide +kernel
theorem dX7_reviewer_96 : decode cX7_reviewer 96 = .ok (.goto 5, 3) := by decide +kernel
theorem dX7_reviewer_99 : decode cX7_reviewer 99 = .ok (.iload 4, 2) := by decide +kernel
theorem dX7_reviewer_101 : decode cX7_reviewer 101 = .ok (.istore 5, 2) := by decide +kernel
theorem dX7_reviewer_103 : decode cX7_reviewer 103 = .ok (.iload 5, 2) := by decide +kernel
theorem dX7_reviewer_105 : decode cX7_reviewer 105 = .ok (.iconst (-1), 1) := by decide +kernel
theorem dX7_reviewer_106 : decode cX7_reviewer 106 = .ok (.if_icmp .ne 7, 3) := by decide +kernel
theorem dX7_reviewer_109 : decode cX7_reviewer 109 = .ok (.iconst (-1), 1) := by decide +kernel
theorem dX7_reviewer_110 : decode cX7_reviewer 110 = .ok (.goto 9, 3) := by decide +kernel
theorem dX7_reviewer_113 : decode cX7_reviewer 113 = .ok (.aload_n 0, 1) := by decide +kernel
theorem dX7_reviewer_114 : decode cX7_reviewer 114 = .ok (.iload 5, 2) := by decide +kernel
theorem dX7_reviewer_116 : decode cX7_reviewer 116 = .ok (.invokevirtual 168, 3) := by decide +kernel
theorem dX7_reviewer_119 : decode cX7_reviewer 119 = .ok (.istore 6, 2) := by decide +kernel
theorem dX7_reviewer_121 : decode cX7_reviewer 121 = .ok (.iload 6, 2) := by decide +kernel
theorem dX7_reviewer_123 : decode cX7_reviewer 123 = .ok (.iconst (-1), 1) := by decide +kernel
theorem dX7_reviewer_124 : decode cX7_reviewer 124 = .ok (.if_icmp .eq 12, 3) := by decide +kernel
theorem dX7_reviewer_127 : decode cX7_reviewer 127 = .ok (.iload 6, 2) := by decide +kernel
theorem dX7_reviewer_129 : decode cX7_reviewer 129 = .ok (.iload_n 2, 1) := by decide +kernel
theorem dX7_reviewer_130 : decode cX7_reviewer 130 = .ok (.if_icmp .eq 6, 3) := by decide +kernel
theorem dX7_reviewer_133 : decode cX7_reviewer 133 = .ok (.iload 6, 2) := by decide +kernel
theorem dX7_reviewer_135 : decode cX7_reviewer 135 = .ok (.ireturn, 1) := by decide +kernel
theorem dX7_reviewer_136 : decode cX7_reviewer 136 = .ok (.iinc 4 1, 3) := by decide +kernel
theorem dX7_reviewer_139 : decode cX7_reviewer 139 = .ok (.goto (-80), 3) := by decide +kernel
theorem dX7_reviewer_142 : decode cX7_reviewer 142 = .ok (.iconst (-1), 1) := by decide +kernel
theorem dX7_reviewer_143 : decode cX7_reviewer 143 = .ok (.ireturn, 1) := by decide +kernel
theorem dX7_seals_0 : decode cX7_seals 0 = .ok (.aload_n 0, 1) := by decide +kernel
theorem dX7_seals_1 : decode cX7_seals 1 = .ok (.getfield 171, 3) := by decide +kernel
theorem dX7_seals_4 : decode cX7_seals 4 = .ok (.bipush 99, 2) := by decide +kernel
theorem dX7_seals_6 : decode cX7_seals 6 = .ok (.if_icmp .ne 4, 3) := by decide +kernel
theorem dX7_seals_9 : decode cX7_seals 9 = .ok (.return_, 1) := by decide +kernel
theorem dX7_seals_10 : decode cX7_seals 10 = .ok (.aload_n 0, 1) := by decide +kernel
theorem dX7_seals_11 : decode cX7_seals 11 = .ok (.getfield 171, 3) := by decide +kernel
theorem dX7_seals_14 : decode cX7_seals 14 = .ok (.ifCond .ne 7, 3) := by decide +kernel
theorem dX7_seals_17 : decode cX7_seals 17 = .ok (.iconst 0, 1) := by decide +kernel
theorem dX7_seals_18 : decode cX7_seals 18 = .ok (.goto 14, 3) := by decide +kernel
theorem dX7_seals_21 : decode cX7_seals 21 = .ok (.aload_n 0, 1) := by decide +kernel
theorem dX7_seals_22 : decode cX7_seals 22 = .ok (.getfield 70, 3) := by decide +kernel
theorem dX7_seals_25 : decode cX7_seals 25 = .ok (.aload_n 0, 1) := by decide +kernel
theorem dX7_seals_26 : decode cX7_seals 26 = .ok (.getfield 171, 3) := by decide +kernel
theorem dX7_seals_29 : decode cX7_seals 29 = .ok (.iconst 1, 1) := by decide +kernel
theorem dX7_seals_30 : decode cX7_seals 30 = .ok (.isub, 1) := by decide +kernel
theorem dX7_seals_31 : decode cX7_seals 31 = .ok (.iaload, 1) := by decide +kernel
theorem dX7_seals_32 : decode cX7_seals 32 = .ok (.istore_n 3, 1) := by decide +kernel
theorem dX7_seals_33 : decode cX7_seals 33 = .ok (.iload_n 3, 1) := by decide +kernel
theorem dX7_seals_34 : decode cX7_seals 34 = .ok (.iconst 5, 1) := by decide +kernel
theorem dX7_seals_35 : decode cX7_seals 35 = .ok (.ishl, 1) := by decide +kernel
theorem dX7_seals_36 : decode cX7_seals 36 = .ok (.iload_n 3, 1) := by decide +kernel
theorem dX7_seals_37 : decode cX7_seals 37 = .ok (.bipush 11, 2) := by decide +kernel
theorem dX7_seals_39 : decode cX7_seals 39 = .ok (.ishr, 1) := by decide +kernel
theorem dX7_seals_40 : decode cX7_seals 40 = .ok (.ior, 1) := by decide +kernel
theorem dX7_seals_41 : decode cX7_seals 41 = .ok (.ldc 174, 2) := by decide +kernel
theorem dX7_seals_43 : decode cX7_seals 43 = .ok (.iand, 1) := by decide +kernel
theorem dX7_seals_44 : decode cX7_seals 44 = .ok (.istore 4, 2) := by decide +kernel
theorem dX7_seals_46 : decode cX7_seals 46 = .ok (.aload_n 0, 1) := by decide +kernel
theorem dX7_seals_47 : decode cX7_seals 47 = .ok (.getfield 67, 3) := by decide +kernel
theorem dX7_seals_50 : decode cX7_seals 50 = .ok (.aload_n 0, 1) := by decide +kernel
theorem dX7_seals_51 : decode cX7_seals 51 = .ok (.getfield 171, 3) := by decide +kernel
theorem dX7_seals_54 : decode cX7_seals 54 = .ok (.iload_n 2, 1) := by decide +kernel
theorem dX7_seals_55 : decode cX7_seals 55 = .ok (.castore, 1) := by decide +kernel
theorem dX7_seals_56 : decode cX7_seals 56 = .ok (.aload_n 0, 1) := by decide +kernel
theorem dX7_seals_57 : decode cX7_seals 57 = .ok (.getfield 70, 3) := by decide +kernel
theorem dX7_seals_60 : decode cX7_seals 60 = .ok (.aload_n 0, 1) := by decide +kernel
theorem dX7_seals_61 : decode cX7_seals 61 = .ok (.getfield 171, 3) := by decide +kernel
theorem dX7_seals_64 : decode cX7_seals 64 = .ok (.iload 4, 2) := by decide +kernel
theorem dX7_seals_66 : decode cX7_seals 66 = .ok (.sipush 257, 3) := by decide +kernel
theorem dX7_seals_69 : decode cX7_seals 69 = .ok (.iload_n 1, 1) := by decide +kernel
theorem dX7_seals_70 : decode cX7_seals 70 = .ok (.imul, 1) := by decide +kernel
theorem dX7_seals_71 : decode cX7_seals 71 = .ok (.bipush 17, 2) := by decide +kernel
theorem dX7_seals_73 : decode cX7_seals 73 = .ok (.aload_n 0, 1) := by decide +kernel
theorem dX7_seals_74 : decode cX7_seals 74 = .ok (.getfield 134, 3) := by decide +kernel
theorem dX7_seals_77 : decode cX7_seals 77 = .ok (.imul, 1) := by decide +kernel
theorem dX7_seals_78 : decode cX7_seals 78 = .ok (.iadd, 1) := by decide +kernel
theorem dX7_seals_79 : decode cX7_seals 79 = .ok (.iload_n 2, 1) := by decide +kernel
theorem dX7_seals_80 : decode cX7_seals 80 = .ok (.iadd, 1) := by decide +kernel
theorem dX7_seals_81 : decode cX7_seals 81 = .ok (.ldc 174, 2) := by decide +kernel
theorem dX7_seals_83 : decode cX7_seals 83 = .ok (.iand, 1) := by decide +kernel
theorem dX7_seals_84 : decode cX7_seals 84 = .ok (.ixor, 1) := by decide +kernel
theorem dX7_seals_85 : decode cX7_seals 85 = .ok (.iastore, 1) := by decide +kernel
theorem dX7_seals_86 : decode cX7_seals 86 = .ok (.aload_n 0, 1) := by decide +kernel
theorem dX7_seals_87 : decode cX7_seals 87 = .ok (.dup, 1) := by decide +kernel
theorem dX7_seals_88 : decode cX7_seals 88 = .ok (.getfield 171, 3) := by decide +kernel
theorem dX7_seals_91 : decode cX7_seals 91 = .ok (.iconst 1, 1) := by decide +kernel
theorem dX7_seals_92 : decode cX7_seals 92 = .ok (.iadd, 1) := by decide +kernel
theorem dX7_seals_93 : decode cX7_seals 93 = .ok (.putfield 171, 3) := by decide +kernel
theorem dX7_seals_96 : decode cX7_seals 96 = .ok (.return_, 1) := by decide +kernel
set_option maxRecDepth 20000 in
theorem ggX7_openCampaign_X7_isBetween : GoodIn wsX7_openCampaign wsX7_isBetween := goodIn_r _ [13] (by decide +kernel) (by decide +kernel)
set_option maxRecDepth 20000 in
theorem gX7_openCampaign_X7_isBetween : GoodIn wsX7_openCampaign (va_wsS RX7 95 yX7_isBetween wsX7_isBetween) := goodIn_app (goodIn_of _ (by decide +kernel)) ggX7_openCampaign_X7_isBetween
set_option maxRecDepth 20000 in
theorem ggX7_openCampaign_X7_fails : GoodIn wsX7_openCampaign wsX7_fails := goodIn_r _ [17, 1, 18, 19, 20, 21, 22, 23, 24, 25, 26, 27, 28, 29, 30, 31, 32, 33, 34, 35, 36, 37, 38, 39, 40, 41, 42, 43, 44, 45, 46, 47, 48, 49, 50, 51, 52, 53, 54] (by decide +kernel) (by decide +kernel)
set_option maxRecDepth 20000 in
theorem gX7_openCampaign_X7_fails : GoodIn wsX7_openCampaign (wsV RX7 108 RX7 yX7_fails wsX7_fails) := goodIn_app (goodIn_of _ (by decide +kernel)) ggX7_openCampaign_X7_fails
theorem dX7_openCampaign_0 : decode cX7_openCampaign 0 = .ok (.aload_n 0, 1) := by decide +kernel
theorem dX7_openCampaign_1 : decode cX7_openCampaign 1 = .ok (.iconst 0, 1) := by decide +kernel
theorem dX7_openCampaign_2 : decode cX7_openCampaign 2 = .ok (.putfield 85, 3) := by decide +kernel
theorem dX7_openCampaign_5 : decode cX7_openCampaign 5 = .ok (.iload_n 1, 1) := by decide +kernel
theorem dX7_openCampaign_6 : decode cX7_openCampaign 6 = .ok (.iconst 1, 1) := by decide +kernel
theorem dX7_openCampaign_7 : decode cX7_openCampaign 7 = .ok (.bipush 30, 2) := by decide +kernel
theorem dX7_openCampaign_9 : decode cX7_openCampaign 9 = .ok (.invokestatic 95, 3) := by decide +kernel
theorem dX7_openCampaign_12 : decode cX7_openCampaign 12 = .ok (.ifCond .ne 9, 3) := by decide +kernel
theorem dX7_openCampaign_15 : decode cX7_openCampaign 15 = .ok (.aload_n 0, 1) := by decide +kernel
theorem dX7_openCampaign_16 : decode cX7_openCampaign 16 = .ok (.iconst 1, 1) := by decide +kernel
theorem dX7_openCampaign_17 : decode cX7_openCampaign 17 = .ok (.invokevirtual 108, 3) := by decide +kernel
theorem dX7_openCampaign_20 : decode cX7_openCampaign 20 = .ok (.ireturn, 1) := by decide +kernel
theorem dX7_openCampaign_21 : decode cX7_openCampaign 21 = .ok (.iconst 0, 1) := by decide +kernel
theorem dX7_openCampaign_22 : decode cX7_openCampaign 22 = .ok (.istore_n 2, 1) := by decide +kernel
theorem dX7_openCampaign_23 : decode cX7_openCampaign 23 = .ok (.iconst 0, 1) := by decide +kernel
theorem dX7_openCampaign_24 : decode cX7_openCampaign 24 = .ok (.istore_n 3, 1) := by decide +kernel
theorem dX7_openCampaign_25 : decode cX7_openCampaign 25 = .ok (.iload_n 3, 1) := by decide +kernel
theorem dX7_openCampaign_26 : decode cX7_openCampaign 26 = .ok (.aload_n 0, 1) := by decide +kernel
theorem dX7_openCampaign_27 : decode cX7_openCampaign 27 = .ok (.getfield 105, 3) := by decide +kernel
theorem dX7_openCampaign_30 : decode cX7_openCampaign 30 = .ok (.if_icmp .ge 28, 3) := by decide +kernel
theorem dX7_openCampaign_33 : decode cX7_openCampaign 33 = .ok (.iload_n 2, 1) := by decide +kernel
theorem dX7_openCampaign_34 : decode cX7_openCampaign 34 = .ok (.aload_n 0, 1) := by decide +kernel
theorem dX7_openCampaign_35 : decode cX7_openCampaign 35 = .ok (.getfield 56, 3) := by decide +kernel
theorem dX7_openCampaign_38 : decode cX7_openCampaign 38 = .ok (.iload_n 3, 1) := by decide +kernel
theorem dX7_openCampaign_39 : decode cX7_openCampaign 39 = .ok (.caload, 1) := by decide +kernel
theorem dX7_openCampaign_40 : decode cX7_openCampaign 40 = .ok (.bipush 97, 2) := by decide +kernel
theorem dX7_openCampaign_42 : decode cX7_openCampaign 42 = .ok (.if_icmp .ne 7, 3) := by decide +kernel
theorem dX7_openCampaign_45 : decode cX7_openCampaign 45 = .ok (.iconst 1, 1) := by decide +kernel
theorem dX7_openCampaign_46 : decode cX7_openCampaign 46 = .ok (.goto 4, 3) := by decide +kernel
theorem dX7_openCampaign_49 : decode cX7_openCampaign 49 = .ok (.iconst 0, 1) := by decide +kernel
theorem dX7_openCampaign_50 : decode cX7_openCampaign 50 = .ok (.iadd, 1) := by decide +kernel
theorem dX7_openCampaign_51 : decode cX7_openCampaign 51 = .ok (.istore_n 2, 1) := by decide +kernel
theorem dX7_openCampaign_52 : decode cX7_openCampaign 52 = .ok (.iinc 3 1, 3) := by decide +kernel
theorem dX7_openCampaign_55 : decode cX7_openCampaign 55 = .ok (.goto (-30), 3) := by decide +kernel
theorem dX7_openCampaign_58 : decode cX7_openCampaign 58 = .ok (.aload_n 0, 1) := by decide +kernel
theorem dX7_openCampaign_59 : decode cX7_openCampaign 59 = .ok (.getfield 175, 3) := by decide +kernel
theorem dX7_openCampaign_62 : decode cX7_openCampaign 62 = .ok (.ifCond .ne 7, 3) := by decide +kernel
theorem dX7_openCampaign_65 : decode cX7_openCampaign 65 = .ok (.iload_n 2, 1) := by decide +kernel
theorem dX7_openCampaign_66 : decode cX7_openCampaign 66 = .ok (.ifCond .ne 9, 3) := by decide +kernel
theorem dX7_openCampaign_69 : decode cX7_openCampaign 69 = .ok (.aload_n 0, 1) := by decide +kernel
theorem dX7_openCampaign_70 : decode cX7_openCampaign 70 = .ok (.iconst 2, 1) := by decide +kernel
theorem dX7_openCampaign_71 : decode cX7_openCampaign 71 = .ok (.invokevirtual 108, 3) := by decide +kernel
theorem dX7_openCampaign_74 : decode cX7_openCampaign 74 = .ok (.ireturn, 1) := by decide +kernel
theorem dX7_openCampaign_75 : decode cX7_openCampaign 75 = .ok (.aload_n 0, 1) := by decide +kernel
theorem dX7_openCampaign_76 : decode cX7_openCampaign 76 = .ok (.iconst 0, 1) := by decide +kernel
theorem dX7_openCampaign_77 : decode cX7_openCampaign 77 = .ok (.putfield 179, 3) := by decide +kernel
theorem dX7_openCampaign_80 : decode cX7_openCampaign 80 = .ok (.iconst 0, 1) := by decide +kernel
theorem dX7_openCampaign_81 : decode cX7_openCampaign 81 = .ok (.istore_n 3, 1) := by decide +kernel
theorem dX7_openCampaign_82 : decode cX7_openCampaign 82 = .ok (.iload_n 3, 1) := by decide +kernel
theorem dX7_openCampaign_83 : decode cX7_openCampaign 83 = .ok (.aload_n 0, 1) := by decide +kernel
theorem dX7_openCampaign_84 : decode cX7_openCampaign 84 = .ok (.getfield 105, 3) := by decide +kernel
theorem dX7_openCampaign_87 : decode cX7_openCampaign 87 = .ok (.if_icmp .ge 54, 3) := by decide +kernel
theorem dX7_openCampaign_90 : decode cX7_openCampaign 90 = .ok (.aload_n 0, 1) := by decide +kernel
theorem dX7_openCampaign_91 : decode cX7_openCampaign 91 = .ok (.getfield 56, 3) := by decide +kernel
theorem dX7_openCampaign_94 : decode cX7_openCampaign 94 = .ok (.iload_n 3, 1) := by decide +kernel
theorem dX7_openCampaign_95 : decode cX7_openCampaign 95 = .ok (.caload, 1) := by decide +kernel
theorem dX7_openCampaign_96 : decode cX7_openCampaign 96 = .ok (.bipush 97, 2) := by decide +kernel
theorem dX7_openCampaign_98 : decode cX7_openCampaign 98 = .ok (.if_icmp .eq 6, 3) := by decide +kernel
theorem dX7_openCampaign_101 : decode cX7_openCampaign 101 = .ok (.goto 34, 3) := by decide +kernel
theorem dX7_openCampaign_104 : decode cX7_openCampaign 104 = .ok (.aload_n 0, 1) := by decide +kernel
theorem dX7_openCampaign_105 : decode cX7_openCampaign 105 = .ok (.getfield 73, 3) := by decide +kernel
theorem dX7_openCampaign_108 : decode cX7_openCampaign 108 = .ok (.aload_n 0, 1) := by decide +kernel
theorem dX7_openCampaign_109 : decode cX7_openCampaign 109 = .ok (.getfield 179, 3) := by decide +kernel
theorem dX7_openCampaign_112 : decode cX7_openCampaign 112 = .ok (.iload_n 3, 1) := by decide +kernel
theorem dX7_openCampaign_113 : decode cX7_openCampaign 113 = .ok (.iastore, 1) := by decide +kernel
theorem dX7_openCampaign_114 : decode cX7_openCampaign 114 = .ok (.aload_n 0, 1) := by decide +kernel
theorem dX7_openCampaign_115 : decode cX7_openCampaign 115 = .ok (.getfield 79, 3) := by decide +kernel
theorem dX7_openCampaign_118 : decode cX7_openCampaign 118 = .ok (.aload_n 0, 1) := by decide +kernel
theorem dX7_openCampaign_119 : decode cX7_openCampaign 119 = .ok (.getfield 179, 3) := by decide +kernel
theorem dX7_openCampaign_122 : decode cX7_openCampaign 122 = .ok (.bipush 117, 2) := by decide +kernel
theorem dX7_openCampaign_124 : decode cX7_openCampaign 124 = .ok (.castore, 1) := by decide +kernel
theorem dX7_openCampaign_125 : decode cX7_openCampaign 125 = .ok (.aload_n 0, 1) := by decide +kernel
theorem dX7_openCampaign_126 : decode cX7_openCampaign 126 = .ok (.dup, 1) := by decide +kernel
theorem dX7_openCampaign_127 : decode cX7_openCampaign 127 = .ok (.getfield 179, 3) := by decide +kernel
theorem dX7_openCampaign_130 : decode cX7_openCampaign 130 = .ok (.iconst 1, 1) := by decide +kernel
theorem dX7_openCampaign_131 : decode cX7_openCampaign 131 = .ok (.iadd, 1) := by decide +kernel
theorem dX7_openCampaign_132 : decode cX7_openCampaign 132 = .ok (.putfield 179, 3) := by decide +kernel
theorem dX7_openCampaign_135 : decode cX7_openCampaign 135 = .ok (.iinc 3 1, 3) := by decide +kernel
theorem dX7_openCampaign_138 : decode cX7_openCampaign 138 = .ok (.goto (-56), 3) := by decide +kernel
theorem dX7_openCampaign_141 : decode cX7_openCampaign 141 = .ok (.aload_n 0, 1) := by decide +kernel
theorem dX7_openCampaign_142 : decode cX7_openCampaign 142 = .ok (.iconst 1, 1) := by decide +kernel
theorem dX7_openCampaign_143 : decode cX7_openCampaign 143 = .ok (.putfield 175, 3) := by decide +kernel
theorem dX7_openCampaign_146 : decode cX7_openCampaign 146 = .ok (.aload_n 0, 1) := by decide +kernel
theorem dX7_openCampaign_147 : decode cX7_openCampaign 147 = .ok (.aload_n 0, 1) := by decide +kernel
theorem dX7_openCampaign_148 : decode cX7_openCampaign 148 = .ok (.getfield 134, 3) := by decide +kernel
theorem dX7_openCampaign_151 : decode cX7_openCampaign 151 = .ok (.iload_n 1, 1) := by decide +kernel
theorem dX7_openCampaign_152 : decode cX7_openCampaign 152 = .ok (.iadd, 1) := by decide +kernel
theorem dX7_openCampaign_153 : decode cX7_openCampaign 153 = .ok (.putfield 182, 3) := by decide +kernel
theorem dX7_openCampaign_156 : decode cX7_openCampaign 156 = .ok (.aload_n 0, 1) := by decide +kernel
theorem dX7_openCampaign_157 : decode cX7_openCampaign 157 = .ok (.getfield 179, 3) := by decide +kernel
theorem dX7_openCampaign_160 : decode cX7_openCampaign 160 = .ok (.ireturn, 1) := by decide +kernel
theorem dX7_undecidedMany_0 : decode cX7_undecidedMany 0 = .ok (.iconst 0, 1) := by decide +kernel
theorem dX7_undecidedMany_1 : decode cX7_undecidedMany 1 = .ok (.istore_n 1, 1) := by decide +kernel
theorem dX7_undecidedMany_2 : decode cX7_undecidedMany 2 = .ok (.iconst 0, 1) := by decide +kernel
theorem dX7_undecidedMany_3 : decode cX7_undecidedMany 3 = .ok (.istore_n 2, 1) := by decide +kernel
theorem dX7_undecidedMany_4 : decode cX7_undecidedMany 4 = .ok (.iload_n 2, 1) := by decide +kernel
theorem dX7_undecidedMany_5 : decode cX7_undecidedMany 5 = .ok (.aload_n 0, 1) := by decide +kernel
theorem dX7_undecidedMany_6 : decode cX7_undecidedMany 6 = .ok (.getfield 179, 3) := by decide +kernel
theorem dX7_undecidedMany_9 : decode cX7_undecidedMany 9 = .ok (.if_icmp .ge 28, 3) := by decide +kernel
theorem dX7_undecidedMany_12 : decode cX7_undecidedMany 12 = .ok (.iload_n 1, 1) := by decide +kernel
theorem dX7_undecidedMany_13 : decode cX7_undecidedMany 13 = .ok (.aload_n 0, 1) := by decide +kernel
theorem dX7_undecidedMany_14 : decode cX7_undecidedMany 14 = .ok (.getfield 79, 3) := by decide +kernel
theorem dX7_undecidedMany_17 : decode cX7_undecidedMany 17 = .ok (.iload_n 2, 1) := by decide +kernel
theorem dX7_undecidedMany_18 : decode cX7_undecidedMany 18 = .ok (.caload, 1) := by decide +kernel
theorem dX7_undecidedMany_19 : decode cX7_undecidedMany 19 = .ok (.bipush 117, 2) := by decide +kernel
theorem dX7_undecidedMany_21 : decode cX7_undecidedMany 21 = .ok (.if_icmp .ne 7, 3) := by decide +kernel
theorem dX7_undecidedMany_24 : decode cX7_undecidedMany 24 = .ok (.iconst 1, 1) := by decide +kernel
theorem dX7_undecidedMany_25 : decode cX7_undecidedMany 25 = .ok (.goto 4, 3) := by decide +kernel
theorem dX7_undecidedMany_28 : decode cX7_undecidedMany 28 = .ok (.iconst 0, 1) := by decide +kernel
theorem dX7_undecidedMany_29 : decode cX7_undecidedMany 29 = .ok (.iadd, 1) := by decide +kernel
theorem dX7_undecidedMany_30 : decode cX7_undecidedMany 30 = .ok (.istore_n 1, 1) := by decide +kernel
theorem dX7_undecidedMany_31 : decode cX7_undecidedMany 31 = .ok (.iinc 2 1, 3) := by decide +kernel
theorem dX7_undecidedMany_34 : decode cX7_undecidedMany 34 = .ok (.goto (-30), 3) := by decide +kernel
theorem dX7_undecidedMany_37 : decode cX7_undecidedMany 37 = .ok (.iload_n 1, 1) := by decide +kernel
theorem dX7_undecidedMany_38 : decode cX7_undecidedMany 38 = .ok (.ireturn, 1) := by decide +kernel
set_option maxRecDepth 20000 in
theorem ggX7_decides_X7_seals : GoodIn wsX7_decides wsX7_seals := goodIn_ca (goodIn_r _ [14, 15, 16, 17, 18, 8, 19, 20, 21, 22, 23, 24, 25, 26, 27, 28, 29, 30, 31, 32, 33, 34, 35, 36, 37, 38, 39, 40, 41, 42, 43, 44, 45, 46, 47, 48, 49, 50, 51, 52, 53, 54, 55] (by decide +kernel) (by decide +kernel)) (goodIn_sub (fun _ h => List.mem_cons_of_mem _ (List.mem_append_right _ h)) (by decide +kernel))
set_option maxRecDepth 20000 in
theorem gX7_decides_X7_seals : GoodIn wsX7_decides (wsV RX7 188 RX7 yX7_seals wsX7_seals) := goodIn_app (goodIn_of _ (by decide +kernel)) ggX7_decides_X7_seals
theorem dX7_decides_0 : decode cX7_decides 0 = .ok (.aload_n 0, 1) := by decide +kernel
theorem dX7_decides_1 : decode cX7_decides 1 = .ok (.getfield 79, 3) := by decide +kernel
theorem dX7_decides_4 : decode cX7_decides 4 = .ok (.iload_n 1, 1) := by decide +kernel
theorem dX7_decides_5 : decode cX7_decides 5 = .ok (.iload_n 3, 1) := by decide +kernel
theorem dX7_decides_6 : decode cX7_decides 6 = .ok (.castore, 1) := by decide +kernel
theorem dX7_decides_7 : decode cX7_decides 7 = .ok (.aload_n 0, 1) := by decide +kernel
theorem dX7_decides_8 : decode cX7_decides 8 = .ok (.getfield 76, 3) := by decide +kernel
theorem dX7_decides_11 : decode cX7_decides 11 = .ok (.iload_n 1, 1) := by decide +kernel
theorem dX7_decides_12 : decode cX7_decides 12 = .ok (.iload_n 2, 1) := by decide +kernel
theorem dX7_decides_13 : decode cX7_decides 13 = .ok (.iastore, 1) := by decide +kernel
theorem dX7_decides_14 : decode cX7_decides 14 = .ok (.aload_n 0, 1) := by decide +kernel
theorem dX7_decides_15 : decode cX7_decides 15 = .ok (.dup, 1) := by decide +kernel
theorem dX7_decides_16 : decode cX7_decides 16 = .ok (.getfield 185, 3) := by decide +kernel
theorem dX7_decides_19 : decode cX7_decides 19 = .ok (.iconst 1, 1) := by decide +kernel
theorem dX7_decides_20 : decode cX7_decides 20 = .ok (.iadd, 1) := by decide +kernel
theorem dX7_decides_21 : decode cX7_decides 21 = .ok (.putfield 185, 3) := by decide +kernel
theorem dX7_decides_24 : decode cX7_decides 24 = .ok (.aload_n 0, 1) := by decide +kernel
theorem dX7_decides_25 : decode cX7_decides 25 = .ok (.aload_n 0, 1) := by decide +kernel
theorem dX7_decides_26 : decode cX7_decides 26 = .ok (.getfield 73, 3) := by decide +kernel
theorem dX7_decides_29 : decode cX7_decides 29 = .ok (.iload_n 1, 1) := by decide +kernel
theorem dX7_decides_30 : decode cX7_decides 30 = .ok (.iaload, 1) := by decide +kernel
theorem dX7_decides_31 : decode cX7_decides 31 = .ok (.iload_n 3, 1) := by decide +kernel
theorem dX7_decides_32 : decode cX7_decides 32 = .ok (.invokevirtual 188, 3) := by decide +kernel
theorem dX7_decides_35 : decode cX7_decides 35 = .ok (.iload_n 3, 1) := by decide +kernel
theorem dX7_decides_36 : decode cX7_decides 36 = .ok (.bipush 114, 2) := by decide +kernel
theorem dX7_decides_38 : decode cX7_decides 38 = .ok (.if_icmp .eq 4, 3) := by decide +kernel
theorem dX7_decides_41 : decode cX7_decides 41 = .ok (.return_, 1) := by decide +kernel
theorem dX7_decides_42 : decode cX7_decides 42 = .ok (.aload_n 0, 1) := by decide +kernel
theorem dX7_decides_43 : decode cX7_decides 43 = .ok (.dup, 1) := by decide +kernel
theorem dX7_decides_44 : decode cX7_decides 44 = .ok (.getfield 191, 3) := by decide +kernel
theorem dX7_decides_47 : decode cX7_decides 47 = .ok (.iconst 1, 1) := by decide +kernel
theorem dX7_decides_48 : decode cX7_decides 48 = .ok (.iadd, 1) := by decide +kernel
theorem dX7_decides_49 : decode cX7_decides 49 = .ok (.putfield 191, 3) := by decide +kernel
theorem dX7_decides_52 : decode cX7_decides 52 = .ok (.aload_n 0, 1) := by decide +kernel
theorem dX7_decides_53 : decode cX7_decides 53 = .ok (.getfield 56, 3) := by decide +kernel
theorem dX7_decides_56 : decode cX7_decides 56 = .ok (.aload_n 0, 1) := by decide +kernel
theorem dX7_decides_57 : decode cX7_decides 57 = .ok (.getfield 73, 3) := by decide +kernel
theorem dX7_decides_60 : decode cX7_decides 60 = .ok (.iload_n 1, 1) := by decide +kernel
theorem dX7_decides_61 : decode cX7_decides 61 = .ok (.iaload, 1) := by decide +kernel
theorem dX7_decides_62 : decode cX7_decides 62 = .ok (.bipush 119, 2) := by decide +kernel
theorem dX7_decides_64 : decode cX7_decides 64 = .ok (.castore, 1) := by decide +kernel
theorem dX7_decides_65 : decode cX7_decides 65 = .ok (.aload_n 0, 1) := by decide +kernel
theorem dX7_decides_66 : decode cX7_decides 66 = .ok (.getfield 46, 3) := by decide +kernel
theorem dX7_decides_69 : decode cX7_decides 69 = .ok (.aload_n 0, 1) := by decide +kernel
theorem dX7_decides_70 : decode cX7_decides 70 = .ok (.getfield 73, 3) := by decide +kernel
theorem dX7_decides_73 : decode cX7_decides 73 = .ok (.iload_n 1, 1) := by decide +kernel
theorem dX7_decides_74 : decode cX7_decides 74 = .ok (.iaload, 1) := by decide +kernel
theorem dX7_decides_75 : decode cX7_decides 75 = .ok (.aload_n 0, 1) := by decide +kernel
theorem dX7_decides_76 : decode cX7_decides 76 = .ok (.getfield 134, 3) := by decide +kernel
theorem dX7_decides_79 : decode cX7_decides 79 = .ok (.aload_n 0, 1) := by decide +kernel
theorem dX7_decides_80 : decode cX7_decides 80 = .ok (.getfield 64, 3) := by decide +kernel
theorem dX7_decides_83 : decode cX7_decides 83 = .ok (.iadd, 1) := by decide +kernel
theorem dX7_decides_84 : decode cX7_decides 84 = .ok (.iastore, 1) := by decide +kernel
theorem dX7_decides_85 : decode cX7_decides 85 = .ok (.return_, 1) := by decide +kernel
set_option maxRecDepth 20000 in
theorem ggX7_isBlockedNow_X7_holdersBut : GoodIn wsX7_isBlockedNow wsX7_holdersBut := goodIn_ca (goodIn_r _ [10, 11, 1, 3, 12, 13, 14, 15, 9, 16, 4, 5, 17, 18, 19, 20, 21, 22, 23, 24, 25, 26, 27, 28, 29, 30, 31, 32, 33, 34, 35, 36, 37, 38, 39, 40, 41, 42, 43, 44, 45, 46, 47, 48, 49, 50, 51, 52, 53, 54, 55, 56, 57, 58, 59, 60, 61, 62, 63, 64, 65, 66, 67] (by decide +kernel) (by decide +kernel)) (goodIn_sub (fun _ h => List.mem_cons_of_mem _ (List.mem_append_right _ h)) (by decide +kernel))
set_option maxRecDepth 20000 in
theorem gX7_isBlockedNow_X7_holdersBut : GoodIn wsX7_isBlockedNow (wsV RX7 150 RX7 yX7_holdersBut wsX7_holdersBut) := goodIn_app (goodIn_of _ (by decide +kernel)) ggX7_isBlockedNow_X7_holdersBut
theorem dX7_isBlockedNow_0 : decode cX7_isBlockedNow 0 = .ok (.aload_n 0, 1) := by decide +kernel
theorem dX7_isBlockedNow_1 : decode cX7_isBlockedNow 1 = .ok (.getfield 56, 3) := by decide +kernel
theorem dX7_isBlockedNow_4 : decode cX7_isBlockedNow 4 = .ok (.iload_n 1, 1) := by decide +kernel
theorem dX7_isBlockedNow_5 : decode cX7_isBlockedNow 5 = .ok (.caload, 1) := by decide +kernel
theorem dX7_isBlockedNow_6 : decode cX7_isBlockedNow 6 = .ok (.bipush 120, 2) := by decide +kernel
theorem dX7_isBlockedNow_8 : decode cX7_isBlockedNow 8 = .ok (.if_icmp .eq 17, 3) := by decide +kernel
theorem dX7_isBlockedNow_11 : decode cX7_isBlockedNow 11 = .ok (.aload_n 0, 1) := by decide +kernel
theorem dX7_isBlockedNow_12 : decode cX7_isBlockedNow 12 = .ok (.getfield 49, 3) := by decide +kernel
theorem dX7_isBlockedNow_15 : decode cX7_isBlockedNow 15 = .ok (.aload_n 0, 1) := by decide +kernel
theorem dX7_isBlockedNow_16 : decode cX7_isBlockedNow 16 = .ok (.getfield 37, 3) := by decide +kernel
theorem dX7_isBlockedNow_19 : decode cX7_isBlockedNow 19 = .ok (.iload_n 1, 1) := by decide +kernel
theorem dX7_isBlockedNow_20 : decode cX7_isBlockedNow 20 = .ok (.iaload, 1) := by decide +kernel
theorem dX7_isBlockedNow_21 : decode cX7_isBlockedNow 21 = .ok (.baload, 1) := by decide +kernel
theorem dX7_isBlockedNow_22 : decode cX7_isBlockedNow 22 = .ok (.ifCond .ne 5, 3) := by decide +kernel
theorem dX7_isBlockedNow_25 : decode cX7_isBlockedNow 25 = .ok (.iconst 0, 1) := by decide +kernel
theorem dX7_isBlockedNow_26 : decode cX7_isBlockedNow 26 = .ok (.ireturn, 1) := by decide +kernel
theorem dX7_isBlockedNow_27 : decode cX7_isBlockedNow 27 = .ok (.aload_n 0, 1) := by decide +kernel
theorem dX7_isBlockedNow_28 : decode cX7_isBlockedNow 28 = .ok (.aload_n 0, 1) := by decide +kernel
theorem dX7_isBlockedNow_29 : decode cX7_isBlockedNow 29 = .ok (.getfield 37, 3) := by decide +kernel
theorem dX7_isBlockedNow_32 : decode cX7_isBlockedNow 32 = .ok (.iload_n 1, 1) := by decide +kernel
theorem dX7_isBlockedNow_33 : decode cX7_isBlockedNow 33 = .ok (.iaload, 1) := by decide +kernel
theorem dX7_isBlockedNow_34 : decode cX7_isBlockedNow 34 = .ok (.iload_n 1, 1) := by decide +kernel
theorem dX7_isBlockedNow_35 : decode cX7_isBlockedNow 35 = .ok (.invokevirtual 150, 3) := by decide +kernel
theorem dX7_isBlockedNow_38 : decode cX7_isBlockedNow 38 = .ok (.istore_n 2, 1) := by decide +kernel
theorem dX7_isBlockedNow_39 : decode cX7_isBlockedNow 39 = .ok (.aload_n 0, 1) := by decide +kernel
theorem dX7_isBlockedNow_40 : decode cX7_isBlockedNow 40 = .ok (.getfield 53, 3) := by decide +kernel
theorem dX7_isBlockedNow_43 : decode cX7_isBlockedNow 43 = .ok (.iload_n 1, 1) := by decide +kernel
theorem dX7_isBlockedNow_44 : decode cX7_isBlockedNow 44 = .ok (.baload, 1) := by decide +kernel
theorem dX7_isBlockedNow_45 : decode cX7_isBlockedNow 45 = .ok (.ifCond .eq 7, 3) := by decide +kernel
theorem dX7_isBlockedNow_48 : decode cX7_isBlockedNow 48 = .ok (.iload_n 2, 1) := by decide +kernel
theorem dX7_isBlockedNow_49 : decode cX7_isBlockedNow 49 = .ok (.goto 15, 3) := by decide +kernel
theorem dX7_isBlockedNow_52 : decode cX7_isBlockedNow 52 = .ok (.iload_n 2, 1) := by decide +kernel
theorem dX7_isBlockedNow_53 : decode cX7_isBlockedNow 53 = .ok (.iconst 1, 1) := by decide +kernel
theorem dX7_isBlockedNow_54 : decode cX7_isBlockedNow 54 = .ok (.aload_n 0, 1) := by decide +kernel
theorem dX7_isBlockedNow_55 : decode cX7_isBlockedNow 55 = .ok (.getfield 40, 3) := by decide +kernel
theorem dX7_isBlockedNow_58 : decode cX7_isBlockedNow 58 = .ok (.iload_n 1, 1) := by decide +kernel
theorem dX7_isBlockedNow_59 : decode cX7_isBlockedNow 59 = .ok (.iaload, 1) := by decide +kernel
theorem dX7_isBlockedNow_60 : decode cX7_isBlockedNow 60 = .ok (.ishl, 1) := by decide +kernel
theorem dX7_isBlockedNow_61 : decode cX7_isBlockedNow 61 = .ok (.iconst (-1), 1) := by decide +kernel
theorem dX7_isBlockedNow_62 : decode cX7_isBlockedNow 62 = .ok (.ixor, 1) := by decide +kernel
theorem dX7_isBlockedNow_63 : decode cX7_isBlockedNow 63 = .ok (.iand, 1) := by decide +kernel
theorem dX7_isBlockedNow_64 : decode cX7_isBlockedNow 64 = .ok (.ifCond .ne 7, 3) := by decide +kernel
theorem dX7_isBlockedNow_67 : decode cX7_isBlockedNow 67 = .ok (.iconst 1, 1) := by decide +kernel
theorem dX7_isBlockedNow_68 : decode cX7_isBlockedNow 68 = .ok (.goto 4, 3) := by decide +kernel
theorem dX7_isBlockedNow_71 : decode cX7_isBlockedNow 71 = .ok (.iconst 0, 1) := by decide +kernel
theorem dX7_isBlockedNow_72 : decode cX7_isBlockedNow 72 = .ok (.ireturn, 1) := by decide +kernel
set_option maxRecDepth 20000 in
theorem ggX7_ends_X7_seals : GoodIn wsX7_ends wsX7_seals := goodIn_ca (goodIn_r _ [10, 11, 12, 13, 14, 15, 16, 17, 18, 19, 20, 21, 22, 23, 24, 25, 26, 27, 28, 29, 30, 31, 32, 33, 34, 35, 36, 37, 38, 39, 40, 41, 42, 43, 44, 45, 46, 47, 48, 49, 50, 51, 52] (by decide +kernel) (by decide +kernel)) (goodIn_sub (fun _ h => List.mem_cons_of_mem _ (List.mem_append_right _ h)) (by decide +kernel))
set_option maxRecDepth 20000 in
theorem gX7_ends_X7_seals : GoodIn wsX7_ends (wsV RX7 188 RX7 yX7_seals wsX7_seals) := goodIn_app (goodIn_of _ (by decide +kernel)) ggX7_ends_X7_seals
theorem dX7_ends_0 : decode cX7_ends 0 = .ok (.aload_n 0, 1) := by decide +kernel
theorem dX7_ends_1 : decode cX7_ends 1 = .ok (.getfield 56, 3) := by decide +kernel
theorem dX7_ends_4 : decode cX7_ends 4 = .ok (.iload_n 1, 1) := by decide +kernel
theorem dX7_ends_5 : decode cX7_ends 5 = .ok (.bipush 120, 2) := by decide +kernel
theorem dX7_ends_7 : decode cX7_ends 7 = .ok (.castore, 1) := by decide +kernel
theorem dX7_ends_8 : decode cX7_ends 8 = .ok (.aload_n 0, 1) := by decide +kernel
theorem dX7_ends_9 : decode cX7_ends 9 = .ok (.getfield 53, 3) := by decide +kernel
theorem dX7_ends_12 : decode cX7_ends 12 = .ok (.iload_n 1, 1) := by decide +kernel
theorem dX7_ends_13 : decode cX7_ends 13 = .ok (.baload, 1) := by decide +kernel
theorem dX7_ends_14 : decode cX7_ends 14 = .ok (.ifCond .ne 25, 3) := by decide +kernel
theorem dX7_ends_17 : decode cX7_ends 17 = .ok (.aload_n 0, 1) := by decide +kernel
theorem dX7_ends_18 : decode cX7_ends 18 = .ok (.getfield 34, 3) := by decide +kernel
theorem dX7_ends_21 : decode cX7_ends 21 = .ok (.aload_n 0, 1) := by decide +kernel
theorem dX7_ends_22 : decode cX7_ends 22 = .ok (.getfield 37, 3) := by decide +kernel
theorem dX7_ends_25 : decode cX7_ends 25 = .ok (.iload_n 1, 1) := by decide +kernel
theorem dX7_ends_26 : decode cX7_ends 26 = .ok (.iaload, 1) := by decide +kernel
theorem dX7_ends_27 : decode cX7_ends 27 = .ok (.dup2, 1) := by decide +kernel
theorem dX7_ends_28 : decode cX7_ends 28 = .ok (.iaload, 1) := by decide +kernel
theorem dX7_ends_29 : decode cX7_ends 29 = .ok (.iconst 1, 1) := by decide +kernel
theorem dX7_ends_30 : decode cX7_ends 30 = .ok (.aload_n 0, 1) := by decide +kernel
theorem dX7_ends_31 : decode cX7_ends 31 = .ok (.getfield 40, 3) := by decide +kernel
theorem dX7_ends_34 : decode cX7_ends 34 = .ok (.iload_n 1, 1) := by decide +kernel
theorem dX7_ends_35 : decode cX7_ends 35 = .ok (.iaload, 1) := by decide +kernel
theorem dX7_ends_36 : decode cX7_ends 36 = .ok (.ishl, 1) := by decide +kernel
theorem dX7_ends_37 : decode cX7_ends 37 = .ok (.ior, 1) := by decide +kernel
theorem dX7_ends_38 : decode cX7_ends 38 = .ok (.iastore, 1) := by decide +kernel
theorem dX7_ends_39 : decode cX7_ends 39 = .ok (.aload_n 0, 1) := by decide +kernel
theorem dX7_ends_40 : decode cX7_ends 40 = .ok (.iload_n 1, 1) := by decide +kernel
theorem dX7_ends_41 : decode cX7_ends 41 = .ok (.bipush 120, 2) := by decide +kernel
theorem dX7_ends_43 : decode cX7_ends 43 = .ok (.invokevirtual 188, 3) := by decide +kernel
theorem dX7_ends_46 : decode cX7_ends 46 = .ok (.return_, 1) := by decide +kernel
set_option maxRecDepth 20000 in
theorem ggX7_looks_X7_isBlockedNow : GoodIn wsX7_looks wsX7_isBlockedNow := goodIn_ca (goodIn_r _ [10, 2, 11, 12, 13, 14, 15, 16, 17, 9, 18, 1, 19, 20, 21, 22, 23, 24, 25, 26, 27, 28, 29, 30, 31, 32, 33, 34, 35, 36, 37, 50, 51, 52, 53, 54, 55, 56, 57, 58, 59, 60, 61, 62, 63, 64, 65, 66, 67, 68, 69, 70, 71, 72, 73, 74, 75, 76, 77, 78, 79, 80, 81, 82, 83, 84, 85, 86] (by decide +kernel) (by decide +kernel)) (goodIn_sub (fun _ h => List.mem_cons_of_mem _ (List.mem_append_right _ h)) (by decide +kernel))
set_option maxRecDepth 20000 in
theorem gX7_looks_X7_isBlockedNow : GoodIn wsX7_looks (wsV RX7 194 RX7 yX7_isBlockedNow wsX7_isBlockedNow) := goodIn_app (goodIn_of _ (by decide +kernel)) ggX7_looks_X7_isBlockedNow
set_option maxRecDepth 20000 in
theorem ggX7_looks_X7_ends : GoodIn wsX7_looks wsX7_ends := goodIn_ca (goodIn_r _ [41, 2, 13, 19, 12, 14, 42, 43, 44, 9, 45, 46, 47, 48, 49, 4, 50, 51, 52, 53, 54, 55, 56, 57, 58, 59, 60, 61, 62, 63, 64, 65, 66, 67, 68, 69, 70, 71, 72, 73, 74, 75, 76, 77, 78, 79, 80, 81, 82, 83, 84, 85, 86] (by decide +kernel) (by decide +kernel)) (goodIn_sub (fun _ h => List.mem_cons_of_mem _ (List.mem_append_right _ h)) (by decide +kernel))
set_option maxRecDepth 20000 in
theorem gX7_looks_X7_ends : GoodIn wsX7_looks (wsV RX7 197 RX7 yX7_ends wsX7_ends) := goodIn_app (goodIn_of _ (by decide +kernel)) ggX7_looks_X7_ends
theorem dX7_looks_0 : decode cX7_looks 0 = .ok (.iconst 0, 1) := by decide +kernel
theorem dX7_looks_1 : decode cX7_looks 1 = .ok (.istore_n 1, 1) := by decide +kernel
theorem dX7_looks_2 : decode cX7_looks 2 = .ok (.iconst 0, 1) := by decide +kernel
theorem dX7_looks_3 : decode cX7_looks 3 = .ok (.istore_n 2, 1) := by decide +kernel
theorem dX7_looks_4 : decode cX7_looks 4 = .ok (.iload_n 2, 1) := by decide +kernel
theorem dX7_looks_5 : decode cX7_looks 5 = .ok (.aload_n 0, 1) := by decide +kernel
theorem dX7_looks_6 : decode cX7_looks 6 = .ok (.getfield 105, 3) := by decide +kernel
theorem dX7_looks_9 : decode cX7_looks 9 = .ok (.if_icmp .ge 94, 3) := by decide +kernel
theorem dX7_looks_12 : decode cX7_looks 12 = .ok (.aload_n 0, 1) := by decide +kernel
theorem dX7_looks_13 : decode cX7_looks 13 = .ok (.getfield 56, 3) := by decide +kernel
theorem dX7_looks_16 : decode cX7_looks 16 = .ok (.iload_n 2, 1) := by decide +kernel
theorem dX7_looks_17 : decode cX7_looks 17 = .ok (.caload, 1) := by decide +kernel
theorem dX7_looks_18 : decode cX7_looks 18 = .ok (.bipush 119, 2) := by decide +kernel
theorem dX7_looks_20 : decode cX7_looks 20 = .ok (.if_icmp .ne 77, 3) := by decide +kernel
theorem dX7_looks_23 : decode cX7_looks 23 = .ok (.aload_n 0, 1) := by decide +kernel
theorem dX7_looks_24 : decode cX7_looks 24 = .ok (.getfield 46, 3) := by decide +kernel
theorem dX7_looks_27 : decode cX7_looks 27 = .ok (.iload_n 2, 1) := by decide +kernel
theorem dX7_looks_28 : decode cX7_looks 28 = .ok (.iaload, 1) := by decide +kernel
theorem dX7_looks_29 : decode cX7_looks 29 = .ok (.aload_n 0, 1) := by decide +kernel
theorem dX7_looks_30 : decode cX7_looks 30 = .ok (.getfield 134, 3) := by decide +kernel
theorem dX7_looks_33 : decode cX7_looks 33 = .ok (.if_icmp .le 6, 3) := by decide +kernel
theorem dX7_looks_36 : decode cX7_looks 36 = .ok (.goto 61, 3) := by decide +kernel
theorem dX7_looks_39 : decode cX7_looks 39 = .ok (.iload_n 1, 1) := by decide +kernel
theorem dX7_looks_40 : decode cX7_looks 40 = .ok (.istore_n 3, 1) := by decide +kernel
theorem dX7_looks_41 : decode cX7_looks 41 = .ok (.iload_n 3, 1) := by decide +kernel
theorem dX7_looks_42 : decode cX7_looks 42 = .ok (.ifCond .le 45, 3) := by decide +kernel
theorem dX7_looks_45 : decode cX7_looks 45 = .ok (.aload_n 0, 1) := by decide +kernel
theorem dX7_looks_46 : decode cX7_looks 46 = .ok (.getfield 46, 3) := by decide +kernel
theorem dX7_looks_49 : decode cX7_looks 49 = .ok (.iload_n 2, 1) := by decide +kernel
theorem dX7_looks_50 : decode cX7_looks 50 = .ok (.iaload, 1) := by decide +kernel
theorem dX7_looks_51 : decode cX7_looks 51 = .ok (.aload_n 0, 1) := by decide +kernel
theorem dX7_looks_52 : decode cX7_looks 52 = .ok (.getfield 46, 3) := by decide +kernel
theorem dX7_looks_55 : decode cX7_looks 55 = .ok (.aload_n 0, 1) := by decide +kernel
theorem dX7_looks_56 : decode cX7_looks 56 = .ok (.getfield 82, 3) := by decide +kernel
theorem dX7_looks_59 : decode cX7_looks 59 = .ok (.iload_n 3, 1) := by decide +kernel
theorem dX7_looks_60 : decode cX7_looks 60 = .ok (.iconst 1, 1) := by decide +kernel
theorem dX7_looks_61 : decode cX7_looks 61 = .ok (.isub, 1) := by decide +kernel
theorem dX7_looks_62 : decode cX7_looks 62 = .ok (.iaload, 1) := by decide +kernel
theorem dX7_looks_63 : decode cX7_looks 63 = .ok (.iaload, 1) := by decide +kernel
theorem dX7_looks_64 : decode cX7_looks 64 = .ok (.if_icmp .ge 23, 3) := by decide +kernel
theorem dX7_looks_67 : decode cX7_looks 67 = .ok (.aload_n 0, 1) := by decide +kernel
theorem dX7_looks_68 : decode cX7_looks 68 = .ok (.getfield 82, 3) := by decide +kernel
theorem dX7_looks_71 : decode cX7_looks 71 = .ok (.iload_n 3, 1) := by decide +kernel
theorem dX7_looks_72 : decode cX7_looks 72 = .ok (.aload_n 0, 1) := by decide +kernel
theorem dX7_looks_73 : decode cX7_looks 73 = .ok (.getfield 82, 3) := by decide +kernel
theorem dX7_looks_76 : decode cX7_looks 76 = .ok (.iload_n 3, 1) := by decide +kernel
theorem dX7_looks_77 : decode cX7_looks 77 = .ok (.iconst 1, 1) := by decide +kernel
theorem dX7_looks_78 : decode cX7_looks 78 = .ok (.isub, 1) := by decide +kernel
theorem dX7_looks_79 : decode cX7_looks 79 = .ok (.iaload, 1) := by decide +kernel
theorem dX7_looks_80 : decode cX7_looks 80 = .ok (.iastore, 1) := by decide +kernel
theorem dX7_looks_81 : decode cX7_looks 81 = .ok (.iinc 3 (-1), 3) := by decide +kernel
theorem dX7_looks_84 : decode cX7_looks 84 = .ok (.goto (-43), 3) := by decide +kernel
theorem dX7_looks_87 : decode cX7_looks 87 = .ok (.aload_n 0, 1) := by decide +kernel
theorem dX7_looks_88 : decode cX7_looks 88 = .ok (.getfield 82, 3) := by decide +kernel
theorem dX7_looks_91 : decode cX7_looks 91 = .ok (.iload_n 3, 1) := by decide +kernel
theorem dX7_looks_92 : decode cX7_looks 92 = .ok (.iload_n 2, 1) := by decide +kernel
theorem dX7_looks_93 : decode cX7_looks 93 = .ok (.iastore, 1) := by decide +kernel
theorem dX7_looks_94 : decode cX7_looks 94 = .ok (.iinc 1 1, 3) := by decide +kernel
theorem dX7_looks_97 : decode cX7_looks 97 = .ok (.iinc 2 1, 3) := by decide +kernel
theorem dX7_looks_100 : decode cX7_looks 100 = .ok (.goto (-96), 3) := by decide +kernel
theorem dX7_looks_103 : decode cX7_looks 103 = .ok (.iconst 0, 1) := by decide +kernel
theorem dX7_looks_104 : decode cX7_looks 104 = .ok (.istore_n 2, 1) := by decide +kernel
theorem dX7_looks_105 : decode cX7_looks 105 = .ok (.iload_n 2, 1) := by decide +kernel
theorem dX7_looks_106 : decode cX7_looks 106 = .ok (.iload_n 1, 1) := by decide +kernel
theorem dX7_looks_107 : decode cX7_looks 107 = .ok (.if_icmp .ge 32, 3) := by decide +kernel
theorem dX7_looks_110 : decode cX7_looks 110 = .ok (.aload_n 0, 1) := by decide +kernel
theorem dX7_looks_111 : decode cX7_looks 111 = .ok (.aload_n 0, 1) := by decide +kernel
theorem dX7_looks_112 : decode cX7_looks 112 = .ok (.getfield 82, 3) := by decide +kernel
theorem dX7_looks_115 : decode cX7_looks 115 = .ok (.iload_n 2, 1) := by decide +kernel
theorem dX7_looks_116 : decode cX7_looks 116 = .ok (.iaload, 1) := by decide +kernel
theorem dX7_looks_117 : decode cX7_looks 117 = .ok (.invokevirtual 194, 3) := by decide +kernel
theorem dX7_looks_120 : decode cX7_looks 120 = .ok (.ifCond .ne 13, 3) := by decide +kernel
theorem dX7_looks_123 : decode cX7_looks 123 = .ok (.aload_n 0, 1) := by decide +kernel
theorem dX7_looks_124 : decode cX7_looks 124 = .ok (.aload_n 0, 1) := by decide +kernel
theorem dX7_looks_125 : decode cX7_looks 125 = .ok (.getfield 82, 3) := by decide +kernel
theorem dX7_looks_128 : decode cX7_looks 128 = .ok (.iload_n 2, 1) := by decide +kernel
theorem dX7_looks_129 : decode cX7_looks 129 = .ok (.iaload, 1) := by decide +kernel
theorem dX7_looks_130 : decode cX7_looks 130 = .ok (.invokevirtual 197, 3) := by decide +kernel
theorem dX7_looks_133 : decode cX7_looks 133 = .ok (.iinc 2 1, 3) := by decide +kernel
theorem dX7_looks_136 : decode cX7_looks 136 = .ok (.goto (-31), 3) := by decide +kernel
theorem dX7_looks_139 : decode cX7_looks 139 = .ok (.return_, 1) := by decide +kernel
set_option maxRecDepth 20000 in
theorem ggX7_answer_X7_fails : GoodIn wsX7_answer wsX7_fails := goodIn_r _ [10, 1, 96, 97, 98, 99, 100, 101, 102, 103, 104, 105, 106, 107, 108, 109, 110, 111, 112, 113, 114, 115, 116, 117, 118, 119, 120, 121, 122, 123, 124, 125, 126, 127, 128, 129, 130, 131, 132] (by decide +kernel) (by decide +kernel)
set_option maxRecDepth 20000 in
theorem gX7_answer_X7_fails : GoodIn wsX7_answer (wsV RX7 108 RX7 yX7_fails wsX7_fails) := goodIn_app (goodIn_of _ (by decide +kernel)) ggX7_answer_X7_fails
set_option maxRecDepth 20000 in
theorem ggX7_answer_X7_isPerson : GoodIn wsX7_answer wsX7_isPerson := goodIn_r _ [14, 15, 16, 17, 9, 18, 96, 97, 98, 99, 100, 101, 102, 103, 104, 105, 106, 107, 108, 109, 110, 111, 112, 113, 114, 115, 116, 117, 118, 119, 120, 121, 122, 123, 124, 125, 126, 127, 128, 129, 130, 131, 132] (by decide +kernel) (by decide +kernel)
set_option maxRecDepth 20000 in
theorem gX7_answer_X7_isPerson : GoodIn wsX7_answer (wsV RX7 112 RX7 yX7_isPerson wsX7_isPerson) := goodIn_app (goodIn_of _ (by decide +kernel)) ggX7_answer_X7_isPerson
set_option maxRecDepth 20000 in
theorem ggX7_answer_X7_isBetween : GoodIn wsX7_answer wsX7_isBetween := goodIn_r _ [18] (by decide +kernel) (by decide +kernel)
set_option maxRecDepth 20000 in
theorem gX7_answer_X7_isBetween : GoodIn wsX7_answer (va_wsS RX7 95 yX7_isBetween wsX7_isBetween) := goodIn_app (goodIn_of _ (by decide +kernel)) ggX7_answer_X7_isBetween
set_option maxRecDepth 20000 in
theorem ggX7_answer_X7_reviewer : GoodIn wsX7_answer wsX7_reviewer := goodIn_ca (goodIn_r _ [22, 23, 24, 25, 26, 15, 27, 28, 29, 30, 31, 9, 32, 33, 34, 35, 36, 37, 96, 97, 98, 99, 100, 101, 102, 103, 104, 105, 106, 107, 108, 109, 110, 111, 112, 113, 114, 115, 116, 117, 118, 119, 120, 121, 122, 123, 124, 125, 126, 127, 128, 129, 130, 131, 132] (by decide +kernel) (by decide +kernel)) (goodIn_sub (fun _ h => List.mem_cons_of_mem _ (List.mem_append_right _ h)) (by decide +kernel))
set_option maxRecDepth 20000 in
theorem gX7_answer_X7_reviewer : GoodIn wsX7_answer (wsV RX7 201 RX7 yX7_reviewer wsX7_reviewer) := goodIn_app (goodIn_of _ (by decide +kernel)) ggX7_answer_X7_reviewer
set_option maxRecDepth 20000 in
theorem ggX7_answer_X7_decides : GoodIn wsX7_answer wsX7_decides := goodIn_ca (goodIn_r _ [41, 4, 42, 43, 5, 44, 45, 46, 47, 48, 49, 50, 51, 9, 52, 53, 54, 55, 56, 96, 97, 98, 99, 100, 101, 102, 103, 104, 105, 106, 107, 108, 109, 110, 111, 112, 113, 114, 115, 116, 117, 118, 119, 120, 121, 122, 123, 124, 125, 126, 127, 128, 129, 130, 131, 132] (by decide +kernel) (by decide +kernel)) (goodIn_sub (fun _ h => List.mem_cons_of_mem _ (List.mem_append_right _ h)) (by decide +kernel))
set_option maxRecDepth 20000 in
theorem gX7_answer_X7_decides : GoodIn wsX7_answer (wsV RX7 204 RX7 yX7_decides wsX7_decides) := goodIn_app (goodIn_of _ (by decide +kernel)) ggX7_answer_X7_decides
set_option maxRecDepth 20000 in
theorem ggX7_answer_X7_looks : GoodIn wsX7_answer wsX7_looks := goodIn_ca (goodIn_r _ [60, 61, 45, 46, 47, 62, 63, 64, 65, 9, 66, 67, 28, 23, 24, 68, 69, 70, 71, 72, 73, 74, 75, 76, 77, 78, 79, 80, 81, 82, 83, 84, 85, 86, 87, 35, 36, 37, 88, 89, 90, 91, 49, 50, 51, 52, 53, 54, 55, 56, 96, 97, 98, 99, 100, 101, 102, 103, 104, 105, 106, 107, 108, 109, 110, 111, 112, 113, 114, 115, 116, 117, 118, 119, 120, 121, 122, 123, 124, 125, 126, 127, 128, 129, 130, 131, 132] (by decide +kernel) (by decide +kernel)) (goodIn_sub (fun _ h => List.mem_cons_of_mem _ (List.mem_append_right _ h)) (by decide +kernel))
set_option maxRecDepth 20000 in
theorem gX7_answer_X7_looks : GoodIn wsX7_answer (wsV RX7 208 RX7 yX7_looks wsX7_looks) := goodIn_app (goodIn_of _ (by decide +kernel)) ggX7_answer_X7_looks
set_option maxRecDepth 20000 in
theorem ggX7_answer_X7_undecidedMany : GoodIn wsX7_answer wsX7_undecidedMany := goodIn_ca (goodIn_r _ [95, 3, 4, 96, 97, 98, 99, 100, 101, 102, 103, 104, 105, 106, 107, 108, 109, 110, 111, 112, 113, 114, 115, 116, 117, 118, 119, 120, 121, 122, 123, 124, 125, 126, 127, 128, 129, 130, 131, 132] (by decide +kernel) (by decide +kernel)) (goodIn_sub (fun _ h => List.mem_cons_of_mem _ (List.mem_append_right _ h)) (by decide +kernel))
set_option maxRecDepth 20000 in
theorem gX7_answer_X7_undecidedMany : GoodIn wsX7_answer (wsV RX7 211 RX7 yX7_undecidedMany wsX7_undecidedMany) := goodIn_app (goodIn_of _ (by decide +kernel)) ggX7_answer_X7_undecidedMany
theorem dX7_answer_0 : decode cX7_answer 0 = .ok (.aload_n 0, 1) := by decide +kernel
theorem dX7_answer_1 : decode cX7_answer 1 = .ok (.iconst 0, 1) := by decide +kernel
theorem dX7_answer_2 : decode cX7_answer 2 = .ok (.putfield 85, 3) := by decide +kernel
theorem dX7_answer_5 : decode cX7_answer 5 = .ok (.aload_n 0, 1) := by decide +kernel
theorem dX7_answer_6 : decode cX7_answer 6 = .ok (.getfield 175, 3) := by decide +kernel
theorem dX7_answer_9 : decode cX7_answer 9 = .ok (.ifCond .ne 9, 3) := by decide +kernel
theorem dX7_answer_12 : decode cX7_answer 12 = .ok (.aload_n 0, 1) := by decide +kernel
theorem dX7_answer_13 : decode cX7_answer 13 = .ok (.iconst 1, 1) := by decide +kernel
theorem dX7_answer_14 : decode cX7_answer 14 = .ok (.invokevirtual 108, 3) := by decide +kernel
theorem dX7_answer_17 : decode cX7_answer 17 = .ok (.ireturn, 1) := by decide +kernel
theorem dX7_answer_18 : decode cX7_answer 18 = .ok (.aload_n 0, 1) := by decide +kernel
theorem dX7_answer_19 : decode cX7_answer 19 = .ok (.iload_n 1, 1) := by decide +kernel
theorem dX7_answer_20 : decode cX7_answer 20 = .ok (.invokevirtual 112, 3) := by decide +kernel
theorem dX7_answer_23 : decode cX7_answer 23 = .ok (.ifCond .eq 17, 3) := by decide +kernel
theorem dX7_answer_26 : decode cX7_answer 26 = .ok (.iload_n 2, 1) := by decide +kernel
theorem dX7_answer_27 : decode cX7_answer 27 = .ok (.iconst 0, 1) := by decide +kernel
theorem dX7_answer_28 : decode cX7_answer 28 = .ok (.aload_n 0, 1) := by decide +kernel
theorem dX7_answer_29 : decode cX7_answer 29 = .ok (.getfield 179, 3) := by decide +kernel
theorem dX7_answer_32 : decode cX7_answer 32 = .ok (.iconst 1, 1) := by decide +kernel
theorem dX7_answer_33 : decode cX7_answer 33 = .ok (.isub, 1) := by decide +kernel
theorem dX7_answer_34 : decode cX7_answer 34 = .ok (.invokestatic 95, 3) := by decide +kernel
theorem dX7_answer_37 : decode cX7_answer 37 = .ok (.ifCond .ne 9, 3) := by decide +kernel
theorem dX7_answer_40 : decode cX7_answer 40 = .ok (.aload_n 0, 1) := by decide +kernel
theorem dX7_answer_41 : decode cX7_answer 41 = .ok (.iconst 2, 1) := by decide +kernel
theorem dX7_answer_42 : decode cX7_answer 42 = .ok (.invokevirtual 108, 3) := by decide +kernel
theorem dX7_answer_45 : decode cX7_answer 45 = .ok (.ireturn, 1) := by decide +kernel
theorem dX7_answer_46 : decode cX7_answer 46 = .ok (.iload_n 3, 1) := by decide +kernel
theorem dX7_answer_47 : decode cX7_answer 47 = .ok (.bipush 107, 2) := by decide +kernel
theorem dX7_answer_49 : decode cX7_answer 49 = .ok (.if_icmp .eq 15, 3) := by decide +kernel
theorem dX7_answer_52 : decode cX7_answer 52 = .ok (.iload_n 3, 1) := by decide +kernel
theorem dX7_answer_53 : decode cX7_answer 53 = .ok (.bipush 114, 2) := by decide +kernel
theorem dX7_answer_55 : decode cX7_answer 55 = .ok (.if_icmp .eq 9, 3) := by decide +kernel
theorem dX7_answer_58 : decode cX7_answer 58 = .ok (.aload_n 0, 1) := by decide +kernel
theorem dX7_answer_59 : decode cX7_answer 59 = .ok (.iconst 3, 1) := by decide +kernel
theorem dX7_answer_60 : decode cX7_answer 60 = .ok (.invokevirtual 108, 3) := by decide +kernel
theorem dX7_answer_63 : decode cX7_answer 63 = .ok (.ireturn, 1) := by decide +kernel
theorem dX7_answer_64 : decode cX7_answer 64 = .ok (.aload_n 0, 1) := by decide +kernel
theorem dX7_answer_65 : decode cX7_answer 65 = .ok (.getfield 79, 3) := by decide +kernel
theorem dX7_answer_68 : decode cX7_answer 68 = .ok (.iload_n 2, 1) := by decide +kernel
theorem dX7_answer_69 : decode cX7_answer 69 = .ok (.caload, 1) := by decide +kernel
theorem dX7_answer_70 : decode cX7_answer 70 = .ok (.bipush 117, 2) := by decide +kernel
theorem dX7_answer_72 : decode cX7_answer 72 = .ok (.if_icmp .ne 17, 3) := by decide +kernel
theorem dX7_answer_75 : decode cX7_answer 75 = .ok (.aload_n 0, 1) := by decide +kernel
theorem dX7_answer_76 : decode cX7_answer 76 = .ok (.aload_n 0, 1) := by decide +kernel
theorem dX7_answer_77 : decode cX7_answer 77 = .ok (.getfield 73, 3) := by decide +kernel
theorem dX7_answer_80 : decode cX7_answer 80 = .ok (.iload_n 2, 1) := by decide +kernel
theorem dX7_answer_81 : decode cX7_answer 81 = .ok (.iaload, 1) := by decide +kernel
theorem dX7_answer_82 : decode cX7_answer 82 = .ok (.invokevirtual 201, 3) := by decide +kernel
theorem dX7_answer_85 : decode cX7_answer 85 = .ok (.iload_n 1, 1) := by decide +kernel
theorem dX7_answer_86 : decode cX7_answer 86 = .ok (.if_icmp .eq 9, 3) := by decide +kernel
theorem dX7_answer_89 : decode cX7_answer 89 = .ok (.aload_n 0, 1) := by decide +kernel
theorem dX7_answer_90 : decode cX7_answer 90 = .ok (.iconst 4, 1) := by decide +kernel
theorem dX7_answer_91 : decode cX7_answer 91 = .ok (.invokevirtual 108, 3) := by decide +kernel
theorem dX7_answer_94 : decode cX7_answer 94 = .ok (.ireturn, 1) := by decide +kernel
theorem dX7_answer_95 : decode cX7_answer 95 = .ok (.aload_n 0, 1) := by decide +kernel
theorem dX7_answer_96 : decode cX7_answer 96 = .ok (.iload_n 2, 1) := by decide +kernel
theorem dX7_answer_97 : decode cX7_answer 97 = .ok (.iload_n 1, 1) := by decide +kernel
theorem dX7_answer_98 : decode cX7_answer 98 = .ok (.iload_n 3, 1) := by decide +kernel
theorem dX7_answer_99 : decode cX7_answer 99 = .ok (.invokevirtual 204, 3) := by decide +kernel
theorem dX7_answer_102 : decode cX7_answer 102 = .ok (.iload_n 3, 1) := by decide +kernel
theorem dX7_answer_103 : decode cX7_answer 103 = .ok (.bipush 114, 2) := by decide +kernel
theorem dX7_answer_105 : decode cX7_answer 105 = .ok (.if_icmp .ne 7, 3) := by decide +kernel
theorem dX7_answer_108 : decode cX7_answer 108 = .ok (.aload_n 0, 1) := by decide +kernel
theorem dX7_answer_109 : decode cX7_answer 109 = .ok (.invokevirtual 208, 3) := by decide +kernel
theorem dX7_answer_112 : decode cX7_answer 112 = .ok (.aload_n 0, 1) := by decide +kernel
theorem dX7_answer_113 : decode cX7_answer 113 = .ok (.aload_n 0, 1) := by decide +kernel
theorem dX7_answer_114 : decode cX7_answer 114 = .ok (.invokevirtual 211, 3) := by decide +kernel
theorem dX7_answer_117 : decode cX7_answer 117 = .ok (.ifCond .le 7, 3) := by decide +kernel
theorem dX7_answer_120 : decode cX7_answer 120 = .ok (.iconst 1, 1) := by decide +kernel
theorem dX7_answer_121 : decode cX7_answer 121 = .ok (.goto 4, 3) := by decide +kernel
theorem dX7_answer_124 : decode cX7_answer 124 = .ok (.iconst 0, 1) := by decide +kernel
theorem dX7_answer_125 : decode cX7_answer 125 = .ok (.putfield 175, 3) := by decide +kernel
theorem dX7_answer_128 : decode cX7_answer 128 = .ok (.aload_n 0, 1) := by decide +kernel
theorem dX7_answer_129 : decode cX7_answer 129 = .ok (.invokevirtual 211, 3) := by decide +kernel
theorem dX7_answer_132 : decode cX7_answer 132 = .ok (.ireturn, 1) := by decide +kernel
set_option maxRecDepth 20000 in
theorem ggX7_decidesBySilence_X7_riskOfGrant : GoodIn wsX7_decidesBySilence wsX7_riskOfGrant := goodIn_ca (goodIn_ca (goodIn_r _ [10, 11, 12, 13, 14, 15, 16, 17, 18, 19, 20, 21, 9, 22, 23, 24, 25, 26, 27, 28, 29, 30, 31, 32, 33, 34, 35, 36, 37, 38, 39, 40, 41, 42, 43, 44, 45, 46, 47, 48, 49, 50, 51, 69, 70, 71, 72, 73, 74, 75, 76, 77, 78, 79, 80, 81, 82, 83, 84, 85, 86, 87, 88, 89, 90, 91, 92, 93, 94, 95, 96, 97, 98, 99, 100, 101, 102, 103, 104, 105] (by decide +kernel) (by decide +kernel)) (goodIn_sub (fun _ h => List.mem_cons_of_mem _ (List.mem_append_left _ (List.mem_append_right _ h))) (by decide +kernel))) (goodIn_sub (fun _ h => List.mem_cons_of_mem _ (List.mem_append_right _ h)) (by decide +kernel))
set_option maxRecDepth 20000 in
theorem gX7_decidesBySilence_X7_riskOfGrant : GoodIn wsX7_decidesBySilence (wsV RX7 215 RX7 yX7_riskOfGrant wsX7_riskOfGrant) := goodIn_app (goodIn_of _ (by decide +kernel)) ggX7_decidesBySilence_X7_riskOfGrant
set_option maxRecDepth 20000 in
theorem ggX7_decidesBySilence_X7_decides : GoodIn wsX7_decidesBySilence wsX7_decides := goodIn_ca (goodIn_r _ [55, 2, 56, 57, 3, 58, 50, 59, 17, 60, 61, 62, 63, 9, 64, 65, 66, 67, 68, 69, 70, 71, 72, 73, 74, 75, 76, 77, 78, 79, 80, 81, 82, 83, 84, 85, 86, 87, 88, 89, 90, 91, 92, 93, 94, 95, 96, 97, 98, 99, 100, 101, 102, 103, 104, 105] (by decide +kernel) (by decide +kernel)) (goodIn_sub (fun _ h => List.mem_cons_of_mem _ (List.mem_append_left _ (List.mem_append_right _ h))) (by decide +kernel))
set_option maxRecDepth 20000 in
theorem gX7_decidesBySilence_X7_decides : GoodIn wsX7_decidesBySilence (wsV RX7 204 RX7 yX7_decides wsX7_decides) := goodIn_app (goodIn_of _ (by decide +kernel)) ggX7_decidesBySilence_X7_decides
theorem dX7_decidesBySilence_0 : decode cX7_decidesBySilence 0 = .ok (.iconst 0, 1) := by decide +kernel
theorem dX7_decidesBySilence_1 : decode cX7_decidesBySilence 1 = .ok (.istore_n 1, 1) := by decide +kernel
theorem dX7_decidesBySilence_2 : decode cX7_decidesBySilence 2 = .ok (.iload_n 1, 1) := by decide +kernel
theorem dX7_decidesBySilence_3 : decode cX7_decidesBySilence 3 = .ok (.aload_n 0, 1) := by decide +kernel
theorem dX7_decidesBySilence_4 : decode cX7_decidesBySilence 4 = .ok (.getfield 179, 3) := by decide +kernel
theorem dX7_decidesBySilence_7 : decode cX7_decidesBySilence 7 = .ok (.if_icmp .ge 50, 3) := by decide +kernel
theorem dX7_decidesBySilence_10 : decode cX7_decidesBySilence 10 = .ok (.aload_n 0, 1) := by decide +kernel
theorem dX7_decidesBySilence_11 : decode cX7_decidesBySilence 11 = .ok (.getfield 79, 3) := by decide +kernel
theorem dX7_decidesBySilence_14 : decode cX7_decidesBySilence 14 = .ok (.iload_n 1, 1) := by decide +kernel
theorem dX7_decidesBySilence_15 : decode cX7_decidesBySilence 15 = .ok (.caload, 1) := by decide +kernel
theorem dX7_decidesBySilence_16 : decode cX7_decidesBySilence 16 = .ok (.bipush 117, 2) := by decide +kernel
theorem dX7_decidesBySilence_18 : decode cX7_decidesBySilence 18 = .ok (.if_icmp .ne 33, 3) := by decide +kernel
theorem dX7_decidesBySilence_21 : decode cX7_decidesBySilence 21 = .ok (.aload_n 0, 1) := by decide +kernel
theorem dX7_decidesBySilence_22 : decode cX7_decidesBySilence 22 = .ok (.iload_n 1, 1) := by decide +kernel
theorem dX7_decidesBySilence_23 : decode cX7_decidesBySilence 23 = .ok (.iconst (-1), 1) := by decide +kernel
theorem dX7_decidesBySilence_24 : decode cX7_decidesBySilence 24 = .ok (.aload_n 0, 1) := by decide +kernel
theorem dX7_decidesBySilence_25 : decode cX7_decidesBySilence 25 = .ok (.aload_n 0, 1) := by decide +kernel
theorem dX7_decidesBySilence_26 : decode cX7_decidesBySilence 26 = .ok (.getfield 73, 3) := by decide +kernel
theorem dX7_decidesBySilence_29 : decode cX7_decidesBySilence 29 = .ok (.iload_n 1, 1) := by decide +kernel
theorem dX7_decidesBySilence_30 : decode cX7_decidesBySilence 30 = .ok (.iaload, 1) := by decide +kernel
theorem dX7_decidesBySilence_31 : decode cX7_decidesBySilence 31 = .ok (.invokevirtual 215, 3) := by decide +kernel
theorem dX7_decidesBySilence_34 : decode cX7_decidesBySilence 34 = .ok (.aload_n 0, 1) := by decide +kernel
theorem dX7_decidesBySilence_35 : decode cX7_decidesBySilence 35 = .ok (.getfield 60, 3) := by decide +kernel
theorem dX7_decidesBySilence_38 : decode cX7_decidesBySilence 38 = .ok (.if_icmp .lt 8, 3) := by decide +kernel
theorem dX7_decidesBySilence_41 : decode cX7_decidesBySilence 41 = .ok (.bipush 114, 2) := by decide +kernel
theorem dX7_decidesBySilence_43 : decode cX7_decidesBySilence 43 = .ok (.goto 5, 3) := by decide +kernel
theorem dX7_decidesBySilence_46 : decode cX7_decidesBySilence 46 = .ok (.bipush 107, 2) := by decide +kernel
theorem dX7_decidesBySilence_48 : decode cX7_decidesBySilence 48 = .ok (.invokevirtual 204, 3) := by decide +kernel
theorem dX7_decidesBySilence_51 : decode cX7_decidesBySilence 51 = .ok (.iinc 1 1, 3) := by decide +kernel
theorem dX7_decidesBySilence_54 : decode cX7_decidesBySilence 54 = .ok (.goto (-52), 3) := by decide +kernel
theorem dX7_decidesBySilence_57 : decode cX7_decidesBySilence 57 = .ok (.aload_n 0, 1) := by decide +kernel
theorem dX7_decidesBySilence_58 : decode cX7_decidesBySilence 58 = .ok (.iconst 0, 1) := by decide +kernel
theorem dX7_decidesBySilence_59 : decode cX7_decidesBySilence 59 = .ok (.putfield 175, 3) := by decide +kernel
theorem dX7_decidesBySilence_62 : decode cX7_decidesBySilence 62 = .ok (.return_, 1) := by decide +kernel
set_option maxRecDepth 20000 in
theorem ggX7_pass_X7_isBetween : GoodIn wsX7_pass wsX7_isBetween := goodIn_r _ [8] (by decide +kernel) (by decide +kernel)
set_option maxRecDepth 20000 in
theorem gX7_pass_X7_isBetween : GoodIn wsX7_pass (va_wsS RX7 95 yX7_isBetween wsX7_isBetween) := goodIn_app (goodIn_of _ (by decide +kernel)) ggX7_pass_X7_isBetween
set_option maxRecDepth 20000 in
theorem ggX7_pass_X7_fails : GoodIn wsX7_pass wsX7_fails := goodIn_r _ [12, 1, 96, 97, 98, 99, 100, 101, 102, 103, 104, 105, 106, 107, 108, 109, 110, 111, 112, 113, 114, 115, 116, 117, 118, 119, 120, 121, 122, 123, 124, 125, 126, 127, 128, 129, 130, 131, 132] (by decide +kernel) (by decide +kernel)
set_option maxRecDepth 20000 in
theorem gX7_pass_X7_fails : GoodIn wsX7_pass (wsV RX7 108 RX7 yX7_fails wsX7_fails) := goodIn_app (goodIn_of _ (by decide +kernel)) ggX7_pass_X7_fails
set_option maxRecDepth 20000 in
theorem ggX7_pass_X7_decidesBySilence : GoodIn wsX7_pass wsX7_decidesBySilence := goodIn_ca (goodIn_ca (goodIn_r _ [16, 17, 18, 19, 20, 3, 21, 22, 23, 7, 24, 25, 26, 27, 28, 29, 30, 2, 31, 32, 33, 34, 35, 36, 37, 38, 39, 40, 41, 42, 43, 44, 45, 46, 47, 48, 49, 50, 51, 52, 53, 54, 55, 56, 57, 58, 59, 60, 61, 62, 63, 64, 65, 66, 67, 68, 69, 70, 71, 72, 73, 74, 75, 76, 77, 78, 79, 80, 81, 96, 97, 98, 99, 100, 101, 102, 103, 104, 105, 106, 107, 108, 109, 110, 111, 112, 113, 114, 115, 116, 117, 118, 119, 120, 121, 122, 123, 124, 125, 126, 127, 128, 129, 130, 131, 132] (by decide +kernel) (by decide +kernel)) (goodIn_sub (fun _ h => List.mem_cons_of_mem _ (List.mem_append_left _ (List.mem_append_right _ h))) (by decide +kernel))) (goodIn_sub (fun _ h => List.mem_cons_of_mem _ (List.mem_append_right _ h)) (by decide +kernel))
set_option maxRecDepth 20000 in
theorem gX7_pass_X7_decidesBySilence : GoodIn wsX7_pass (wsV RX7 218 RX7 yX7_decidesBySilence wsX7_decidesBySilence) := goodIn_app (goodIn_of _ (by decide +kernel)) ggX7_pass_X7_decidesBySilence
set_option maxRecDepth 20000 in
theorem ggX7_pass_X7_looks : GoodIn wsX7_pass wsX7_looks := goodIn_ca (goodIn_r _ [85, 62, 63, 72, 2, 86, 87, 88, 89, 7, 90, 91, 26, 36, 37, 58, 59, 60, 61, 64, 32, 33, 34, 35, 38, 39, 40, 41, 42, 43, 44, 45, 46, 47, 48, 49, 50, 51, 92, 93, 94, 95, 74, 75, 76, 77, 78, 79, 80, 81, 96, 97, 98, 99, 100, 101, 102, 103, 104, 105, 106, 107, 108, 109, 110, 111, 112, 113, 114, 115, 116, 117, 118, 119, 120, 121, 122, 123, 124, 125, 126, 127, 128, 129, 130, 131, 132] (by decide +kernel) (by decide +kernel)) (goodIn_sub (fun _ h => List.mem_cons_of_mem _ (List.mem_append_left _ (List.mem_append_right _ h))) (by decide +kernel))
set_option maxRecDepth 20000 in
theorem gX7_pass_X7_looks : GoodIn wsX7_pass (wsV RX7 208 RX7 yX7_looks wsX7_looks) := goodIn_app (goodIn_of _ (by decide +kernel)) ggX7_pass_X7_looks
theorem dX7_pass_0 : decode cX7_pass 0 = .ok (.aload_n 0, 1) := by decide +kernel
theorem dX7_pass_1 : decode cX7_pass 1 = .ok (.iconst 0, 1) := by decide +kernel
theorem dX7_pass_2 : decode cX7_pass 2 = .ok (.putfield 85, 3) := by decide +kernel
theorem dX7_pass_5 : decode cX7_pass 5 = .ok (.iload_n 1, 1) := by decide +kernel
theorem dX7_pass_6 : decode cX7_pass 6 = .ok (.iconst 1, 1) := by decide +kernel
theorem dX7_pass_7 : decode cX7_pass 7 = .ok (.bipush 30, 2) := by decide +kernel
theorem dX7_pass_9 : decode cX7_pass 9 = .ok (.invokestatic 95, 3) := by decide +kernel
theorem dX7_pass_12 : decode cX7_pass 12 = .ok (.ifCond .ne 9, 3) := by decide +kernel
theorem dX7_pass_15 : decode cX7_pass 15 = .ok (.aload_n 0, 1) := by decide +kernel
theorem dX7_pass_16 : decode cX7_pass 16 = .ok (.iconst 1, 1) := by decide +kernel
theorem dX7_pass_17 : decode cX7_pass 17 = .ok (.invokevirtual 108, 3) := by decide +kernel
theorem dX7_pass_20 : decode cX7_pass 20 = .ok (.ireturn, 1) := by decide +kernel
theorem dX7_pass_21 : decode cX7_pass 21 = .ok (.iconst 0, 1) := by decide +kernel
theorem dX7_pass_22 : decode cX7_pass 22 = .ok (.istore_n 2, 1) := by decide +kernel
theorem dX7_pass_23 : decode cX7_pass 23 = .ok (.iload_n 2, 1) := by decide +kernel
theorem dX7_pass_24 : decode cX7_pass 24 = .ok (.iload_n 1, 1) := by decide +kernel
theorem dX7_pass_25 : decode cX7_pass 25 = .ok (.if_icmp .ge 45, 3) := by decide +kernel
theorem dX7_pass_28 : decode cX7_pass 28 = .ok (.aload_n 0, 1) := by decide +kernel
theorem dX7_pass_29 : decode cX7_pass 29 = .ok (.dup, 1) := by decide +kernel
theorem dX7_pass_30 : decode cX7_pass 30 = .ok (.getfield 134, 3) := by decide +kernel
theorem dX7_pass_33 : decode cX7_pass 33 = .ok (.iconst 1, 1) := by decide +kernel
theorem dX7_pass_34 : decode cX7_pass 34 = .ok (.iadd, 1) := by decide +kernel
theorem dX7_pass_35 : decode cX7_pass 35 = .ok (.putfield 134, 3) := by decide +kernel
theorem dX7_pass_38 : decode cX7_pass 38 = .ok (.aload_n 0, 1) := by decide +kernel
theorem dX7_pass_39 : decode cX7_pass 39 = .ok (.getfield 175, 3) := by decide +kernel
theorem dX7_pass_42 : decode cX7_pass 42 = .ok (.ifCond .eq 18, 3) := by decide +kernel
theorem dX7_pass_45 : decode cX7_pass 45 = .ok (.aload_n 0, 1) := by decide +kernel
theorem dX7_pass_46 : decode cX7_pass 46 = .ok (.getfield 134, 3) := by decide +kernel
theorem dX7_pass_49 : decode cX7_pass 49 = .ok (.aload_n 0, 1) := by decide +kernel
theorem dX7_pass_50 : decode cX7_pass 50 = .ok (.getfield 182, 3) := by decide +kernel
theorem dX7_pass_53 : decode cX7_pass 53 = .ok (.if_icmp .ne 7, 3) := by decide +kernel
theorem dX7_pass_56 : decode cX7_pass 56 = .ok (.aload_n 0, 1) := by decide +kernel
theorem dX7_pass_57 : decode cX7_pass 57 = .ok (.invokevirtual 218, 3) := by decide +kernel
theorem dX7_pass_60 : decode cX7_pass 60 = .ok (.aload_n 0, 1) := by decide +kernel
theorem dX7_pass_61 : decode cX7_pass 61 = .ok (.invokevirtual 208, 3) := by decide +kernel
theorem dX7_pass_64 : decode cX7_pass 64 = .ok (.iinc 2 1, 3) := by decide +kernel
theorem dX7_pass_67 : decode cX7_pass 67 = .ok (.goto (-44), 3) := by decide +kernel
theorem dX7_pass_70 : decode cX7_pass 70 = .ok (.aload_n 0, 1) := by decide +kernel
theorem dX7_pass_71 : decode cX7_pass 71 = .ok (.getfield 134, 3) := by decide +kernel
theorem dX7_pass_74 : decode cX7_pass 74 = .ok (.ireturn, 1) := by decide +kernel
set_option maxRecDepth 20000 in
theorem ggX7_setLimit_X7_isBetween : GoodIn wsX7_setLimit wsX7_isBetween := goodIn_r _ [6] (by decide +kernel) (by decide +kernel)
set_option maxRecDepth 20000 in
theorem gX7_setLimit_X7_isBetween : GoodIn wsX7_setLimit (va_wsS RX7 95 yX7_isBetween wsX7_isBetween) := goodIn_app (goodIn_of _ (by decide +kernel)) ggX7_setLimit_X7_isBetween
set_option maxRecDepth 20000 in
theorem ggX7_setLimit_X7_fails : GoodIn wsX7_setLimit wsX7_fails := goodIn_r _ [10, 1, 11, 12, 13, 14, 15, 16, 17, 18, 19, 20, 21, 22, 23, 24, 25, 26, 27, 28, 29, 30, 31, 32, 33, 34, 35, 36, 37, 38, 39, 40, 41, 42, 43, 44, 45, 46, 47] (by decide +kernel) (by decide +kernel)
set_option maxRecDepth 20000 in
theorem gX7_setLimit_X7_fails : GoodIn wsX7_setLimit (wsV RX7 108 RX7 yX7_fails wsX7_fails) := goodIn_app (goodIn_of _ (by decide +kernel)) ggX7_setLimit_X7_fails
theorem dX7_setLimit_0 : decode cX7_setLimit 0 = .ok (.aload_n 0, 1) := by decide +kernel
theorem dX7_setLimit_1 : decode cX7_setLimit 1 = .ok (.iconst 0, 1) := by decide +kernel
theorem dX7_setLimit_2 : decode cX7_setLimit 2 = .ok (.putfield 85, 3) := by decide +kernel
theorem dX7_setLimit_5 : decode cX7_setLimit 5 = .ok (.iload_n 1, 1) := by decide +kernel
theorem dX7_setLimit_6 : decode cX7_setLimit 6 = .ok (.iconst 0, 1) := by decide +kernel
theorem dX7_setLimit_7 : decode cX7_setLimit 7 = .ok (.sipush 999, 3) := by decide +kernel
theorem dX7_setLimit_10 : decode cX7_setLimit 10 = .ok (.invokestatic 95, 3) := by decide +kernel
theorem dX7_setLimit_13 : decode cX7_setLimit 13 = .ok (.ifCond .ne 9, 3) := by decide +kernel
theorem dX7_setLimit_16 : decode cX7_setLimit 16 = .ok (.aload_n 0, 1) := by decide +kernel
theorem dX7_setLimit_17 : decode cX7_setLimit 17 = .ok (.iconst 1, 1) := by decide +kernel
theorem dX7_setLimit_18 : decode cX7_setLimit 18 = .ok (.invokevirtual 108, 3) := by decide +kernel
theorem dX7_setLimit_21 : decode cX7_setLimit 21 = .ok (.ireturn, 1) := by decide +kernel
theorem dX7_setLimit_22 : decode cX7_setLimit 22 = .ok (.aload_n 0, 1) := by decide +kernel
theorem dX7_setLimit_23 : decode cX7_setLimit 23 = .ok (.getfield 60, 3) := by decide +kernel
theorem dX7_setLimit_26 : decode cX7_setLimit 26 = .ok (.istore_n 2, 1) := by decide +kernel
theorem dX7_setLimit_27 : decode cX7_setLimit 27 = .ok (.aload_n 0, 1) := by decide +kernel
theorem dX7_setLimit_28 : decode cX7_setLimit 28 = .ok (.iload_n 1, 1) := by decide +kernel
theorem dX7_setLimit_29 : decode cX7_setLimit 29 = .ok (.putfield 60, 3) := by decide +kernel
theorem dX7_setLimit_32 : decode cX7_setLimit 32 = .ok (.iload_n 2, 1) := by decide +kernel
theorem dX7_setLimit_33 : decode cX7_setLimit 33 = .ok (.ireturn, 1) := by decide +kernel
set_option maxRecDepth 20000 in
theorem ggX7_setGrace_X7_isBetween : GoodIn wsX7_setGrace wsX7_isBetween := goodIn_r _ [6] (by decide +kernel) (by decide +kernel)
set_option maxRecDepth 20000 in
theorem gX7_setGrace_X7_isBetween : GoodIn wsX7_setGrace (va_wsS RX7 95 yX7_isBetween wsX7_isBetween) := goodIn_app (goodIn_of _ (by decide +kernel)) ggX7_setGrace_X7_isBetween
set_option maxRecDepth 20000 in
theorem ggX7_setGrace_X7_fails : GoodIn wsX7_setGrace wsX7_fails := goodIn_r _ [10, 1, 11, 12, 13, 14, 15, 16, 17, 18, 19, 20, 21, 22, 23, 24, 25, 26, 27, 28, 29, 30, 31, 32, 33, 34, 35, 36, 37, 38, 39, 40, 41, 42, 43, 44, 45, 46, 47] (by decide +kernel) (by decide +kernel)
set_option maxRecDepth 20000 in
theorem gX7_setGrace_X7_fails : GoodIn wsX7_setGrace (wsV RX7 108 RX7 yX7_fails wsX7_fails) := goodIn_app (goodIn_of _ (by decide +kernel)) ggX7_setGrace_X7_fails
theorem dX7_setGrace_0 : decode cX7_setGrace 0 = .ok (.aload_n 0, 1) := by decide +kernel
theorem dX7_setGrace_1 : decode cX7_setGrace 1 = .ok (.iconst 0, 1) := by decide +kernel
theorem dX7_setGrace_2 : decode cX7_setGrace 2 = .ok (.putfield 85, 3) := by decide +kernel
theorem dX7_setGrace_5 : decode cX7_setGrace 5 = .ok (.iload_n 1, 1) := by decide +kernel
theorem dX7_setGrace_6 : decode cX7_setGrace 6 = .ok (.iconst 0, 1) := by decide +kernel
theorem dX7_setGrace_7 : decode cX7_setGrace 7 = .ok (.bipush 10, 2) := by decide +kernel
theorem dX7_setGrace_9 : decode cX7_setGrace 9 = .ok (.invokestatic 95, 3) := by decide +kernel
theorem dX7_setGrace_12 : decode cX7_setGrace 12 = .ok (.ifCond .ne 9, 3) := by decide +kernel
theorem dX7_setGrace_15 : decode cX7_setGrace 15 = .ok (.aload_n 0, 1) := by decide +kernel
theorem dX7_setGrace_16 : decode cX7_setGrace 16 = .ok (.iconst 1, 1) := by decide +kernel
theorem dX7_setGrace_17 : decode cX7_setGrace 17 = .ok (.invokevirtual 108, 3) := by decide +kernel
theorem dX7_setGrace_20 : decode cX7_setGrace 20 = .ok (.ireturn, 1) := by decide +kernel
theorem dX7_setGrace_21 : decode cX7_setGrace 21 = .ok (.aload_n 0, 1) := by decide +kernel
theorem dX7_setGrace_22 : decode cX7_setGrace 22 = .ok (.getfield 64, 3) := by decide +kernel
theorem dX7_setGrace_25 : decode cX7_setGrace 25 = .ok (.istore_n 2, 1) := by decide +kernel
theorem dX7_setGrace_26 : decode cX7_setGrace 26 = .ok (.aload_n 0, 1) := by decide +kernel
theorem dX7_setGrace_27 : decode cX7_setGrace 27 = .ok (.iload_n 1, 1) := by decide +kernel
theorem dX7_setGrace_28 : decode cX7_setGrace 28 = .ok (.putfield 64, 3) := by decide +kernel
theorem dX7_setGrace_31 : decode cX7_setGrace 31 = .ok (.iload_n 2, 1) := by decide +kernel
theorem dX7_setGrace_32 : decode cX7_setGrace 32 = .ok (.ireturn, 1) := by decide +kernel
theorem dX7_people_0 : decode cX7_people 0 = .ok (.aload_n 0, 1) := by decide +kernel
theorem dX7_people_1 : decode cX7_people 1 = .ok (.iconst 0, 1) := by decide +kernel
theorem dX7_people_2 : decode cX7_people 2 = .ok (.putfield 85, 3) := by decide +kernel
theorem dX7_people_5 : decode cX7_people 5 = .ok (.aload_n 0, 1) := by decide +kernel
theorem dX7_people_6 : decode cX7_people 6 = .ok (.getfield 92, 3) := by decide +kernel
theorem dX7_people_9 : decode cX7_people 9 = .ok (.ireturn, 1) := by decide +kernel
theorem dX7_day_0 : decode cX7_day 0 = .ok (.aload_n 0, 1) := by decide +kernel
theorem dX7_day_1 : decode cX7_day 1 = .ok (.iconst 0, 1) := by decide +kernel
theorem dX7_day_2 : decode cX7_day 2 = .ok (.putfield 85, 3) := by decide +kernel
theorem dX7_day_5 : decode cX7_day 5 = .ok (.aload_n 0, 1) := by decide +kernel
theorem dX7_day_6 : decode cX7_day 6 = .ok (.getfield 134, 3) := by decide +kernel
theorem dX7_day_9 : decode cX7_day 9 = .ok (.ireturn, 1) := by decide +kernel
set_option maxRecDepth 20000 in
theorem ggX7_standIn_X7_isPerson : GoodIn wsX7_standIn wsX7_isPerson := goodIn_r _ [6, 7, 8, 9, 5, 10, 24, 25, 26, 27, 28, 29, 30, 31, 32, 33, 34, 35, 36, 37, 38, 39, 40, 41, 42, 43, 44, 45, 46, 47, 48, 49, 50, 51, 52, 53, 54, 55, 56, 57, 58, 59, 60] (by decide +kernel) (by decide +kernel)
set_option maxRecDepth 20000 in
theorem gX7_standIn_X7_isPerson : GoodIn wsX7_standIn (wsV RX7 112 RX7 yX7_isPerson wsX7_isPerson) := goodIn_app (goodIn_of _ (by decide +kernel)) ggX7_standIn_X7_isPerson
set_option maxRecDepth 20000 in
theorem ggX7_standIn_X7_standBy : GoodIn wsX7_standIn wsX7_standBy := goodIn_ca (goodIn_r _ [14, 15, 16, 17, 18, 5, 19, 24, 25, 26, 27, 28, 29, 30, 31, 32, 33, 34, 35, 36, 37, 38, 39, 40, 41, 42, 43, 44, 45, 46, 47, 48, 49, 50, 51, 52, 53, 54, 55, 56, 57, 58, 59, 60] (by decide +kernel) (by decide +kernel)) (goodIn_sub (fun _ h => List.mem_cons_of_mem _ (List.mem_append_right _ h)) (by decide +kernel))
set_option maxRecDepth 20000 in
theorem gX7_standIn_X7_standBy : GoodIn wsX7_standIn (wsV RX7 168 RX7 yX7_standBy wsX7_standBy) := goodIn_app (goodIn_of _ (by decide +kernel)) ggX7_standIn_X7_standBy
set_option maxRecDepth 20000 in
theorem ggX7_standIn_X7_fails : GoodIn wsX7_standIn wsX7_fails := goodIn_r _ [23, 1, 24, 25, 26, 27, 28, 29, 30, 31, 32, 33, 34, 35, 36, 37, 38, 39, 40, 41, 42, 43, 44, 45, 46, 47, 48, 49, 50, 51, 52, 53, 54, 55, 56, 57, 58, 59, 60] (by decide +kernel) (by decide +kernel)
set_option maxRecDepth 20000 in
theorem gX7_standIn_X7_fails : GoodIn wsX7_standIn (wsV RX7 108 RX7 yX7_fails wsX7_fails) := goodIn_app (goodIn_of _ (by decide +kernel)) ggX7_standIn_X7_fails
theorem dX7_standIn_0 : decode cX7_standIn 0 = .ok (.aload_n 0, 1) := by decide +kernel
theorem dX7_standIn_1 : decode cX7_standIn 1 = .ok (.iconst 0, 1) := by decide +kernel
theorem dX7_standIn_2 : decode cX7_standIn 2 = .ok (.putfield 85, 3) := by decide +kernel
theorem dX7_standIn_5 : decode cX7_standIn 5 = .ok (.aload_n 0, 1) := by decide +kernel
theorem dX7_standIn_6 : decode cX7_standIn 6 = .ok (.iload_n 1, 1) := by decide +kernel
theorem dX7_standIn_7 : decode cX7_standIn 7 = .ok (.invokevirtual 112, 3) := by decide +kernel
theorem dX7_standIn_10 : decode cX7_standIn 10 = .ok (.ifCond .eq 11, 3) := by decide +kernel
theorem dX7_standIn_13 : decode cX7_standIn 13 = .ok (.aload_n 0, 1) := by decide +kernel
theorem dX7_standIn_14 : decode cX7_standIn 14 = .ok (.iload_n 1, 1) := by decide +kernel
theorem dX7_standIn_15 : decode cX7_standIn 15 = .ok (.invokevirtual 168, 3) := by decide +kernel
theorem dX7_standIn_18 : decode cX7_standIn 18 = .ok (.goto 8, 3) := by decide +kernel
theorem dX7_standIn_21 : decode cX7_standIn 21 = .ok (.aload_n 0, 1) := by decide +kernel
theorem dX7_standIn_22 : decode cX7_standIn 22 = .ok (.iconst 1, 1) := by decide +kernel
theorem dX7_standIn_23 : decode cX7_standIn 23 = .ok (.invokevirtual 108, 3) := by decide +kernel
theorem dX7_standIn_26 : decode cX7_standIn 26 = .ok (.ireturn, 1) := by decide +kernel
set_option maxRecDepth 20000 in
theorem ggX7_isMember_X7_isNotThere : GoodIn wsX7_isMember wsX7_isNotThere := goodIn_r _ [5, 6, 7, 8, 9, 4, 10, 11, 12, 13, 14, 15, 16, 17, 18, 19, 33, 34, 35, 36, 37, 38, 39, 40, 41, 42, 43, 44, 45, 46, 47, 48, 49, 50, 51, 52, 53, 54, 55, 56, 57, 58, 59, 60, 61, 62, 63, 64, 65, 66, 67, 68, 69] (by decide +kernel) (by decide +kernel)
set_option maxRecDepth 20000 in
theorem gX7_isMember_X7_isNotThere : GoodIn wsX7_isMember (wsV RX7 125 RX7 yX7_isNotThere wsX7_isNotThere) := goodIn_app (goodIn_of _ (by decide +kernel)) ggX7_isMember_X7_isNotThere
set_option maxRecDepth 20000 in
theorem ggX7_isMember_X7_membersOf : GoodIn wsX7_isMember wsX7_membersOf := goodIn_ca (goodIn_r _ [23, 11, 24, 25, 26, 27, 4, 28, 29, 30, 31, 32, 33, 34, 35, 36, 37, 38, 39, 40, 41, 42, 43, 44, 45, 46, 47, 48, 49, 50, 51, 52, 53, 54, 55, 56, 57, 58, 59, 60, 61, 62, 63, 64, 65, 66, 67, 68, 69] (by decide +kernel) (by decide +kernel)) (goodIn_sub (fun _ h => List.mem_cons_of_mem _ (List.mem_append_right _ h)) (by decide +kernel))
set_option maxRecDepth 20000 in
theorem gX7_isMember_X7_membersOf : GoodIn wsX7_isMember (wsV RX7 144 RX7 yX7_membersOf wsX7_membersOf) := goodIn_app (goodIn_of _ (by decide +kernel)) ggX7_isMember_X7_membersOf
set_option maxRecDepth 20000 in
theorem ggX7_isMember_X7_has : GoodIn wsX7_isMember wsX7_has := goodIn_r _ [32] (by decide +kernel) (by decide +kernel)
set_option maxRecDepth 20000 in
theorem gX7_isMember_X7_has : GoodIn wsX7_isMember (va_wsS RX7 88 yX7_has wsX7_has) := goodIn_app (goodIn_of _ (by decide +kernel)) ggX7_isMember_X7_has
theorem dX7_isMember_0 : decode cX7_isMember 0 = .ok (.aload_n 0, 1) := by decide +kernel
theorem dX7_isMember_1 : decode cX7_isMember 1 = .ok (.iload_n 1, 1) := by decide +kernel
theorem dX7_isMember_2 : decode cX7_isMember 2 = .ok (.iload_n 2, 1) := by decide +kernel
theorem dX7_isMember_3 : decode cX7_isMember 3 = .ok (.invokevirtual 125, 3) := by decide +kernel
theorem dX7_isMember_6 : decode cX7_isMember 6 = .ok (.ifCond .ne 19, 3) := by decide +kernel
theorem dX7_isMember_9 : decode cX7_isMember 9 = .ok (.aload_n 0, 1) := by decide +kernel
theorem dX7_isMember_10 : decode cX7_isMember 10 = .ok (.iload_n 1, 1) := by decide +kernel
theorem dX7_isMember_11 : decode cX7_isMember 11 = .ok (.invokevirtual 144, 3) := by decide +kernel
theorem dX7_isMember_14 : decode cX7_isMember 14 = .ok (.iload_n 2, 1) := by decide +kernel
theorem dX7_isMember_15 : decode cX7_isMember 15 = .ok (.invokestatic 88, 3) := by decide +kernel
theorem dX7_isMember_18 : decode cX7_isMember 18 = .ok (.ifCond .eq 7, 3) := by decide +kernel
theorem dX7_isMember_21 : decode cX7_isMember 21 = .ok (.iconst 1, 1) := by decide +kernel
theorem dX7_isMember_22 : decode cX7_isMember 22 = .ok (.goto 4, 3) := by decide +kernel
theorem dX7_isMember_25 : decode cX7_isMember 25 = .ok (.iconst 0, 1) := by decide +kernel
theorem dX7_isMember_26 : decode cX7_isMember 26 = .ok (.ireturn, 1) := by decide +kernel
set_option maxRecDepth 20000 in
theorem ggX7_members_X7_isGroup : GoodIn wsX7_members wsX7_isGroup := goodIn_r _ [6, 7, 8, 9, 5, 10, 31, 32, 33, 34, 35, 36, 37, 38, 39, 40, 41, 42, 43, 44, 45, 46, 47, 48, 49, 50, 51, 52, 53, 54, 55, 56, 57, 58, 59, 60, 61, 62, 63, 64, 65, 66, 67] (by decide +kernel) (by decide +kernel)
set_option maxRecDepth 20000 in
theorem gX7_members_X7_isGroup : GoodIn wsX7_members (wsV RX7 122 RX7 yX7_isGroup wsX7_isGroup) := goodIn_app (goodIn_of _ (by decide +kernel)) ggX7_members_X7_isGroup
set_option maxRecDepth 20000 in
theorem ggX7_members_X7_membersOf : GoodIn wsX7_members wsX7_membersOf := goodIn_ca (goodIn_r _ [14, 7, 15, 16, 17, 18, 5, 19, 20, 21, 22, 23, 31, 32, 33, 34, 35, 36, 37, 38, 39, 40, 41, 42, 43, 44, 45, 46, 47, 48, 49, 50, 51, 52, 53, 54, 55, 56, 57, 58, 59, 60, 61, 62, 63, 64, 65, 66, 67] (by decide +kernel) (by decide +kernel)) (goodIn_sub (fun _ h => List.mem_cons_of_mem _ (List.mem_append_right _ h)) (by decide +kernel))
set_option maxRecDepth 20000 in
theorem gX7_members_X7_membersOf : GoodIn wsX7_members (wsV RX7 144 RX7 yX7_membersOf wsX7_membersOf) := goodIn_app (goodIn_of _ (by decide +kernel)) ggX7_members_X7_membersOf
set_option maxRecDepth 20000 in
theorem ggX7_members_X7_size : GoodIn wsX7_members wsX7_size := goodIn_r _ [26, 21, 22, 5, 23] (by decide +kernel) (by decide +kernel)
set_option maxRecDepth 20000 in
theorem gX7_members_X7_size : GoodIn wsX7_members (va_wsS RX7 128 yX7_size wsX7_size) := goodIn_app (goodIn_of _ (by decide +kernel)) ggX7_members_X7_size
set_option maxRecDepth 20000 in
theorem ggX7_members_X7_fails : GoodIn wsX7_members wsX7_fails := goodIn_r _ [30, 1, 31, 32, 33, 34, 35, 36, 37, 38, 39, 40, 41, 42, 43, 44, 45, 46, 47, 48, 49, 50, 51, 52, 53, 54, 55, 56, 57, 58, 59, 60, 61, 62, 63, 64, 65, 66, 67] (by decide +kernel) (by decide +kernel)
set_option maxRecDepth 20000 in
theorem gX7_members_X7_fails : GoodIn wsX7_members (wsV RX7 108 RX7 yX7_fails wsX7_fails) := goodIn_app (goodIn_of _ (by decide +kernel)) ggX7_members_X7_fails
theorem dX7_members_0 : decode cX7_members 0 = .ok (.aload_n 0, 1) := by decide +kernel
theorem dX7_members_1 : decode cX7_members 1 = .ok (.iconst 0, 1) := by decide +kernel
theorem dX7_members_2 : decode cX7_members 2 = .ok (.putfield 85, 3) := by decide +kernel
theorem dX7_members_5 : decode cX7_members 5 = .ok (.aload_n 0, 1) := by decide +kernel
theorem dX7_members_6 : decode cX7_members 6 = .ok (.iload_n 1, 1) := by decide +kernel
theorem dX7_members_7 : decode cX7_members 7 = .ok (.invokevirtual 122, 3) := by decide +kernel
theorem dX7_members_10 : decode cX7_members 10 = .ok (.ifCond .eq 14, 3) := by decide +kernel
theorem dX7_members_13 : decode cX7_members 13 = .ok (.aload_n 0, 1) := by decide +kernel
theorem dX7_members_14 : decode cX7_members 14 = .ok (.iload_n 1, 1) := by decide +kernel
theorem dX7_members_15 : decode cX7_members 15 = .ok (.invokevirtual 144, 3) := by decide +kernel
theorem dX7_members_18 : decode cX7_members 18 = .ok (.invokestatic 128, 3) := by decide +kernel
theorem dX7_members_21 : decode cX7_members 21 = .ok (.goto 8, 3) := by decide +kernel
theorem dX7_members_24 : decode cX7_members 24 = .ok (.aload_n 0, 1) := by decide +kernel
theorem dX7_members_25 : decode cX7_members 25 = .ok (.iconst 1, 1) := by decide +kernel
theorem dX7_members_26 : decode cX7_members 26 = .ok (.invokevirtual 108, 3) := by decide +kernel
theorem dX7_members_29 : decode cX7_members 29 = .ok (.ireturn, 1) := by decide +kernel
set_option maxRecDepth 20000 in
theorem ggX7_holds_X7_isNone : GoodIn wsX7_holds wsX7_isNone := goodIn_r _ [5, 6, 7, 8, 9, 4, 10, 11, 12, 13, 14, 15, 16, 17, 18, 19, 52, 53, 54, 55, 56, 57, 58, 59, 60, 61, 62, 63, 64, 65, 66, 67, 68, 69, 70, 71, 72, 73, 74, 75, 76, 77, 78, 79, 80, 81, 82, 83, 84, 85, 86, 87, 88] (by decide +kernel) (by decide +kernel)
set_option maxRecDepth 20000 in
theorem gX7_holds_X7_isNone : GoodIn wsX7_holds (wsV RX7 154 RX7 yX7_isNone wsX7_isNone) := goodIn_app (goodIn_of _ (by decide +kernel)) ggX7_holds_X7_isNone
set_option maxRecDepth 20000 in
theorem ggX7_holds_X7_isHolding : GoodIn wsX7_holds wsX7_isHolding := goodIn_ca (goodIn_r _ [23, 24, 25, 26, 4, 27, 28, 29, 30, 31, 32, 33, 34, 35, 36, 37, 38, 39, 40, 41, 42, 43, 44, 45, 46, 47, 48, 49, 50, 51, 52, 53, 54, 55, 56, 57, 58, 59, 60, 61, 62, 63, 64, 65, 66, 67, 68, 69, 70, 71, 72, 73, 74, 75, 76, 77, 78, 79, 80, 81, 82, 83, 84, 85, 86, 87, 88] (by decide +kernel) (by decide +kernel)) (goodIn_sub (fun _ h => List.mem_cons_of_mem _ (List.mem_append_right _ h)) (by decide +kernel))
set_option maxRecDepth 20000 in
theorem gX7_holds_X7_isHolding : GoodIn wsX7_holds (wsV RX7 157 RX7 yX7_isHolding wsX7_isHolding) := goodIn_app (goodIn_of _ (by decide +kernel)) ggX7_holds_X7_isHolding
theorem dX7_holds_0 : decode cX7_holds 0 = .ok (.aload_n 0, 1) := by decide +kernel
theorem dX7_holds_1 : decode cX7_holds 1 = .ok (.iload_n 1, 1) := by decide +kernel
theorem dX7_holds_2 : decode cX7_holds 2 = .ok (.iload_n 2, 1) := by decide +kernel
theorem dX7_holds_3 : decode cX7_holds 3 = .ok (.invokevirtual 154, 3) := by decide +kernel
theorem dX7_holds_6 : decode cX7_holds 6 = .ok (.ifCond .ne 16, 3) := by decide +kernel
theorem dX7_holds_9 : decode cX7_holds 9 = .ok (.aload_n 0, 1) := by decide +kernel
theorem dX7_holds_10 : decode cX7_holds 10 = .ok (.iload_n 1, 1) := by decide +kernel
theorem dX7_holds_11 : decode cX7_holds 11 = .ok (.iload_n 2, 1) := by decide +kernel
theorem dX7_holds_12 : decode cX7_holds 12 = .ok (.invokevirtual 157, 3) := by decide +kernel
theorem dX7_holds_15 : decode cX7_holds 15 = .ok (.ifCond .eq 7, 3) := by decide +kernel
theorem dX7_holds_18 : decode cX7_holds 18 = .ok (.iconst 1, 1) := by decide +kernel
theorem dX7_holds_19 : decode cX7_holds 19 = .ok (.goto 4, 3) := by decide +kernel
theorem dX7_holds_22 : decode cX7_holds 22 = .ok (.iconst 0, 1) := by decide +kernel
theorem dX7_holds_23 : decode cX7_holds 23 = .ok (.ireturn, 1) := by decide +kernel
set_option maxRecDepth 20000 in
theorem ggX7_holdsByPaths_X7_holds : GoodIn wsX7_holdsByPaths wsX7_holds := goodIn_ca (goodIn_r _ [5, 6, 7, 8, 4, 9, 10, 11, 12, 13, 14, 15, 16, 17, 18, 19, 20, 21, 22, 23, 24, 25, 26, 27, 28, 29, 30, 31, 32, 33, 34, 35, 36, 37, 38, 39, 40, 41, 42, 43, 44, 45, 46, 47, 48, 49, 50, 51, 52, 53, 54, 55, 56, 57, 58, 59, 60, 61, 62, 63, 64, 65, 66, 67, 68, 69, 70, 71, 72, 73, 74, 75, 76, 77, 78, 79, 80, 81, 82, 83, 84, 85, 86, 87, 88, 89, 90, 91, 92] (by decide +kernel) (by decide +kernel)) (goodIn_sub (fun _ h => List.mem_cons_of_mem _ (List.mem_append_right _ h)) (by decide +kernel))
set_option maxRecDepth 20000 in
theorem gX7_holdsByPaths_X7_holds : GoodIn wsX7_holdsByPaths (wsV RX7 221 RX7 yX7_holds wsX7_holds) := goodIn_app (goodIn_of _ (by decide +kernel)) ggX7_holdsByPaths_X7_holds
theorem dX7_holdsByPaths_0 : decode cX7_holdsByPaths 0 = .ok (.aload_n 0, 1) := by decide +kernel
theorem dX7_holdsByPaths_1 : decode cX7_holdsByPaths 1 = .ok (.iload_n 1, 1) := by decide +kernel
theorem dX7_holdsByPaths_2 : decode cX7_holdsByPaths 2 = .ok (.iload_n 2, 1) := by decide +kernel
theorem dX7_holdsByPaths_3 : decode cX7_holdsByPaths 3 = .ok (.invokevirtual 221, 3) := by decide +kernel
theorem dX7_holdsByPaths_6 : decode cX7_holdsByPaths 6 = .ok (.ireturn, 1) := by decide +kernel
set_option maxRecDepth 20000 in
theorem ggX7_bitsOf_X7_isHolding : GoodIn wsX7_bitsOf wsX7_isHolding := goodIn_ca (goodIn_r _ [6, 7, 8, 9, 5, 10, 11, 12, 13, 14, 15, 16, 17, 18, 19, 20, 21, 22, 23, 24, 25, 26, 27, 28, 29, 30, 31, 32, 33, 34, 35, 36, 37, 38, 39, 40, 41, 42, 43, 44, 45, 46, 47, 48, 49, 50, 51, 52, 53, 54, 55, 56, 57, 58, 59, 60, 61, 62, 63, 64, 65, 66, 67, 68, 69, 70, 71] (by decide +kernel) (by decide +kernel)) (goodIn_sub (fun _ h => List.mem_cons_of_mem _ (List.mem_append_right _ h)) (by decide +kernel))
set_option maxRecDepth 20000 in
theorem gX7_bitsOf_X7_isHolding : GoodIn wsX7_bitsOf (wsV RX7 157 RX7 yX7_isHolding wsX7_isHolding) := goodIn_app (goodIn_of _ (by decide +kernel)) ggX7_bitsOf_X7_isHolding
theorem dX7_bitsOf_0 : decode cX7_bitsOf 0 = .ok (.iconst 0, 1) := by decide +kernel
theorem dX7_bitsOf_1 : decode cX7_bitsOf 1 = .ok (.istore_n 2, 1) := by decide +kernel
theorem dX7_bitsOf_2 : decode cX7_bitsOf 2 = .ok (.iconst 0, 1) := by decide +kernel
theorem dX7_bitsOf_3 : decode cX7_bitsOf 3 = .ok (.istore_n 3, 1) := by decide +kernel
theorem dX7_bitsOf_4 : decode cX7_bitsOf 4 = .ok (.iload_n 3, 1) := by decide +kernel
theorem dX7_bitsOf_5 : decode cX7_bitsOf 5 = .ok (.aload_n 0, 1) := by decide +kernel
theorem dX7_bitsOf_6 : decode cX7_bitsOf 6 = .ok (.getfield 102, 3) := by decide +kernel
theorem dX7_bitsOf_9 : decode cX7_bitsOf 9 = .ok (.if_icmp .ge 28, 3) := by decide +kernel
theorem dX7_bitsOf_12 : decode cX7_bitsOf 12 = .ok (.iload_n 2, 1) := by decide +kernel
theorem dX7_bitsOf_13 : decode cX7_bitsOf 13 = .ok (.aload_n 0, 1) := by decide +kernel
theorem dX7_bitsOf_14 : decode cX7_bitsOf 14 = .ok (.iload_n 1, 1) := by decide +kernel
theorem dX7_bitsOf_15 : decode cX7_bitsOf 15 = .ok (.iload_n 3, 1) := by decide +kernel
theorem dX7_bitsOf_16 : decode cX7_bitsOf 16 = .ok (.invokevirtual 157, 3) := by decide +kernel
theorem dX7_bitsOf_19 : decode cX7_bitsOf 19 = .ok (.ifCond .eq 9, 3) := by decide +kernel
theorem dX7_bitsOf_22 : decode cX7_bitsOf 22 = .ok (.iconst 1, 1) := by decide +kernel
theorem dX7_bitsOf_23 : decode cX7_bitsOf 23 = .ok (.iload_n 3, 1) := by decide +kernel
theorem dX7_bitsOf_24 : decode cX7_bitsOf 24 = .ok (.ishl, 1) := by decide +kernel
theorem dX7_bitsOf_25 : decode cX7_bitsOf 25 = .ok (.goto 4, 3) := by decide +kernel
theorem dX7_bitsOf_28 : decode cX7_bitsOf 28 = .ok (.iconst 0, 1) := by decide +kernel
theorem dX7_bitsOf_29 : decode cX7_bitsOf 29 = .ok (.ior, 1) := by decide +kernel
theorem dX7_bitsOf_30 : decode cX7_bitsOf 30 = .ok (.istore_n 2, 1) := by decide +kernel
theorem dX7_bitsOf_31 : decode cX7_bitsOf 31 = .ok (.iinc 3 1, 3) := by decide +kernel
theorem dX7_bitsOf_34 : decode cX7_bitsOf 34 = .ok (.goto (-30), 3) := by decide +kernel
theorem dX7_bitsOf_37 : decode cX7_bitsOf 37 = .ok (.iload_n 2, 1) := by decide +kernel
theorem dX7_bitsOf_38 : decode cX7_bitsOf 38 = .ok (.ireturn, 1) := by decide +kernel
set_option maxRecDepth 20000 in
theorem ggX7_rightsOf_X7_isPerson : GoodIn wsX7_rightsOf wsX7_isPerson := goodIn_r _ [6, 7, 8, 9, 5, 10, 55, 56, 57, 58, 59, 60, 61, 62, 63, 64, 65, 66, 67, 68, 69, 70, 71, 72, 73, 74, 75, 76, 77, 78, 79, 80, 81, 82, 83, 84, 85, 86, 87, 88, 89, 90, 91] (by decide +kernel) (by decide +kernel)
set_option maxRecDepth 20000 in
theorem gX7_rightsOf_X7_isPerson : GoodIn wsX7_rightsOf (wsV RX7 112 RX7 yX7_isPerson wsX7_isPerson) := goodIn_app (goodIn_of _ (by decide +kernel)) ggX7_rightsOf_X7_isPerson
set_option maxRecDepth 20000 in
theorem ggX7_rightsOf_X7_bitsOf : GoodIn wsX7_rightsOf wsX7_bitsOf := goodIn_ca (goodIn_r _ [14, 15, 16, 17, 18, 5, 19, 20, 21, 22, 23, 24, 25, 26, 27, 28, 29, 30, 31, 32, 33, 34, 35, 36, 37, 38, 39, 40, 41, 42, 43, 44, 45, 46, 47, 55, 56, 57, 58, 59, 60, 61, 62, 63, 64, 65, 66, 67, 68, 69, 70, 71, 72, 73, 74, 75, 76, 77, 78, 79, 80, 81, 82, 83, 84, 85, 86, 87, 88, 89, 90, 91] (by decide +kernel) (by decide +kernel)) (goodIn_sub (fun _ h => List.mem_cons_of_mem _ (List.mem_append_right _ h)) (by decide +kernel))
set_option maxRecDepth 20000 in
theorem gX7_rightsOf_X7_bitsOf : GoodIn wsX7_rightsOf (wsV RX7 224 RX7 yX7_bitsOf wsX7_bitsOf) := goodIn_app (goodIn_of _ (by decide +kernel)) ggX7_rightsOf_X7_bitsOf
set_option maxRecDepth 20000 in
theorem ggX7_rightsOf_X7_size : GoodIn wsX7_rightsOf wsX7_size := goodIn_r _ [50, 45, 46, 5, 47] (by decide +kernel) (by decide +kernel)
set_option maxRecDepth 20000 in
theorem gX7_rightsOf_X7_size : GoodIn wsX7_rightsOf (va_wsS RX7 128 yX7_size wsX7_size) := goodIn_app (goodIn_of _ (by decide +kernel)) ggX7_rightsOf_X7_size
set_option maxRecDepth 20000 in
theorem ggX7_rightsOf_X7_fails : GoodIn wsX7_rightsOf wsX7_fails := goodIn_r _ [54, 1, 55, 56, 57, 58, 59, 60, 61, 62, 63, 64, 65, 66, 67, 68, 69, 70, 71, 72, 73, 74, 75, 76, 77, 78, 79, 80, 81, 82, 83, 84, 85, 86, 87, 88, 89, 90, 91] (by decide +kernel) (by decide +kernel)
set_option maxRecDepth 20000 in
theorem gX7_rightsOf_X7_fails : GoodIn wsX7_rightsOf (wsV RX7 108 RX7 yX7_fails wsX7_fails) := goodIn_app (goodIn_of _ (by decide +kernel)) ggX7_rightsOf_X7_fails
theorem dX7_rightsOf_0 : decode cX7_rightsOf 0 = .ok (.aload_n 0, 1) := by decide +kernel
theorem dX7_rightsOf_1 : decode cX7_rightsOf 1 = .ok (.iconst 0, 1) := by decide +kernel
theorem dX7_rightsOf_2 : decode cX7_rightsOf 2 = .ok (.putfield 85, 3) := by decide +kernel
theorem dX7_rightsOf_5 : decode cX7_rightsOf 5 = .ok (.aload_n 0, 1) := by decide +kernel
theorem dX7_rightsOf_6 : decode cX7_rightsOf 6 = .ok (.iload_n 1, 1) := by decide +kernel
theorem dX7_rightsOf_7 : decode cX7_rightsOf 7 = .ok (.invokevirtual 112, 3) := by decide +kernel
theorem dX7_rightsOf_10 : decode cX7_rightsOf 10 = .ok (.ifCond .eq 14, 3) := by decide +kernel
theorem dX7_rightsOf_13 : decode cX7_rightsOf 13 = .ok (.aload_n 0, 1) := by decide +kernel
theorem dX7_rightsOf_14 : decode cX7_rightsOf 14 = .ok (.iload_n 1, 1) := by decide +kernel
theorem dX7_rightsOf_15 : decode cX7_rightsOf 15 = .ok (.invokevirtual 224, 3) := by decide +kernel
theorem dX7_rightsOf_18 : decode cX7_rightsOf 18 = .ok (.invokestatic 128, 3) := by decide +kernel
theorem dX7_rightsOf_21 : decode cX7_rightsOf 21 = .ok (.goto 8, 3) := by decide +kernel
theorem dX7_rightsOf_24 : decode cX7_rightsOf 24 = .ok (.aload_n 0, 1) := by decide +kernel
theorem dX7_rightsOf_25 : decode cX7_rightsOf 25 = .ok (.iconst 1, 1) := by decide +kernel
theorem dX7_rightsOf_26 : decode cX7_rightsOf 26 = .ok (.invokevirtual 108, 3) := by decide +kernel
theorem dX7_rightsOf_29 : decode cX7_rightsOf 29 = .ok (.ireturn, 1) := by decide +kernel
set_option maxRecDepth 20000 in
theorem ggX7_holdersOf_X7_isRight : GoodIn wsX7_holdersOf wsX7_isRight := goodIn_r _ [6, 7, 8, 9, 5, 10, 46, 47, 48, 49, 50, 51, 52, 53, 54, 55, 56, 57, 58, 59, 60, 61, 62, 63, 64, 65, 66, 67, 68, 69, 70, 71, 72, 73, 74, 75, 76, 77, 78, 79, 80, 81, 82] (by decide +kernel) (by decide +kernel)
set_option maxRecDepth 20000 in
theorem gX7_holdersOf_X7_isRight : GoodIn wsX7_holdersOf (wsV RX7 137 RX7 yX7_isRight wsX7_isRight) := goodIn_app (goodIn_of _ (by decide +kernel)) ggX7_holdersOf_X7_isRight
set_option maxRecDepth 20000 in
theorem ggX7_holdersOf_X7_holdersBut : GoodIn wsX7_holdersOf wsX7_holdersBut := goodIn_ca (goodIn_r _ [14, 15, 16, 17, 18, 19, 20, 21, 5, 22, 23, 24, 25, 26, 27, 28, 29, 30, 31, 32, 33, 34, 35, 36, 37, 38, 46, 47, 48, 49, 50, 51, 52, 53, 54, 55, 56, 57, 58, 59, 60, 61, 62, 63, 64, 65, 66, 67, 68, 69, 70, 71, 72, 73, 74, 75, 76, 77, 78, 79, 80, 81, 82] (by decide +kernel) (by decide +kernel)) (goodIn_sub (fun _ h => List.mem_cons_of_mem _ (List.mem_append_right _ h)) (by decide +kernel))
set_option maxRecDepth 20000 in
theorem gX7_holdersOf_X7_holdersBut : GoodIn wsX7_holdersOf (wsV RX7 150 RX7 yX7_holdersBut wsX7_holdersBut) := goodIn_app (goodIn_of _ (by decide +kernel)) ggX7_holdersOf_X7_holdersBut
set_option maxRecDepth 20000 in
theorem ggX7_holdersOf_X7_size : GoodIn wsX7_holdersOf wsX7_size := goodIn_r _ [41, 36, 37, 5, 38] (by decide +kernel) (by decide +kernel)
set_option maxRecDepth 20000 in
theorem gX7_holdersOf_X7_size : GoodIn wsX7_holdersOf (va_wsS RX7 128 yX7_size wsX7_size) := goodIn_app (goodIn_of _ (by decide +kernel)) ggX7_holdersOf_X7_size
set_option maxRecDepth 20000 in
theorem ggX7_holdersOf_X7_fails : GoodIn wsX7_holdersOf wsX7_fails := goodIn_r _ [45, 1, 46, 47, 48, 49, 50, 51, 52, 53, 54, 55, 56, 57, 58, 59, 60, 61, 62, 63, 64, 65, 66, 67, 68, 69, 70, 71, 72, 73, 74, 75, 76, 77, 78, 79, 80, 81, 82] (by decide +kernel) (by decide +kernel)
set_option maxRecDepth 20000 in
theorem gX7_holdersOf_X7_fails : GoodIn wsX7_holdersOf (wsV RX7 108 RX7 yX7_fails wsX7_fails) := goodIn_app (goodIn_of _ (by decide +kernel)) ggX7_holdersOf_X7_fails
theorem dX7_holdersOf_0 : decode cX7_holdersOf 0 = .ok (.aload_n 0, 1) := by decide +kernel
theorem dX7_holdersOf_1 : decode cX7_holdersOf 1 = .ok (.iconst 0, 1) := by decide +kernel
theorem dX7_holdersOf_2 : decode cX7_holdersOf 2 = .ok (.putfield 85, 3) := by decide +kernel
theorem dX7_holdersOf_5 : decode cX7_holdersOf 5 = .ok (.aload_n 0, 1) := by decide +kernel
theorem dX7_holdersOf_6 : decode cX7_holdersOf 6 = .ok (.iload_n 1, 1) := by decide +kernel
theorem dX7_holdersOf_7 : decode cX7_holdersOf 7 = .ok (.invokevirtual 137, 3) := by decide +kernel
theorem dX7_holdersOf_10 : decode cX7_holdersOf 10 = .ok (.ifCond .eq 15, 3) := by decide +kernel
theorem dX7_holdersOf_13 : decode cX7_holdersOf 13 = .ok (.aload_n 0, 1) := by decide +kernel
theorem dX7_holdersOf_14 : decode cX7_holdersOf 14 = .ok (.iload_n 1, 1) := by decide +kernel
theorem dX7_holdersOf_15 : decode cX7_holdersOf 15 = .ok (.iconst (-1), 1) := by decide +kernel
theorem dX7_holdersOf_16 : decode cX7_holdersOf 16 = .ok (.invokevirtual 150, 3) := by decide +kernel
theorem dX7_holdersOf_19 : decode cX7_holdersOf 19 = .ok (.invokestatic 128, 3) := by decide +kernel
theorem dX7_holdersOf_22 : decode cX7_holdersOf 22 = .ok (.goto 8, 3) := by decide +kernel
theorem dX7_holdersOf_25 : decode cX7_holdersOf 25 = .ok (.aload_n 0, 1) := by decide +kernel
theorem dX7_holdersOf_26 : decode cX7_holdersOf 26 = .ok (.iconst 1, 1) := by decide +kernel
theorem dX7_holdersOf_27 : decode cX7_holdersOf 27 = .ok (.invokevirtual 108, 3) := by decide +kernel
theorem dX7_holdersOf_30 : decode cX7_holdersOf 30 = .ok (.ireturn, 1) := by decide +kernel
set_option maxRecDepth 20000 in
theorem ggX7_rightBits_X7_isPerson : GoodIn wsX7_rightBits wsX7_isPerson := goodIn_r _ [6, 7, 8, 9, 5, 10, 52, 53, 54, 55, 56, 57, 58, 59, 60, 61, 62, 63, 64, 65, 66, 67, 68, 69, 70, 71, 72, 73, 74, 75, 76, 77, 78, 79, 80, 81, 82, 83, 84, 85, 86, 87, 88] (by decide +kernel) (by decide +kernel)
set_option maxRecDepth 20000 in
theorem gX7_rightBits_X7_isPerson : GoodIn wsX7_rightBits (wsV RX7 112 RX7 yX7_isPerson wsX7_isPerson) := goodIn_app (goodIn_of _ (by decide +kernel)) ggX7_rightBits_X7_isPerson
set_option maxRecDepth 20000 in
theorem ggX7_rightBits_X7_bitsOf : GoodIn wsX7_rightBits wsX7_bitsOf := goodIn_ca (goodIn_r _ [14, 15, 16, 17, 18, 5, 19, 20, 21, 22, 23, 24, 25, 26, 27, 28, 29, 30, 31, 32, 33, 34, 35, 36, 37, 38, 39, 40, 41, 42, 43, 44, 45, 46, 47, 52, 53, 54, 55, 56, 57, 58, 59, 60, 61, 62, 63, 64, 65, 66, 67, 68, 69, 70, 71, 72, 73, 74, 75, 76, 77, 78, 79, 80, 81, 82, 83, 84, 85, 86, 87, 88] (by decide +kernel) (by decide +kernel)) (goodIn_sub (fun _ h => List.mem_cons_of_mem _ (List.mem_append_right _ h)) (by decide +kernel))
set_option maxRecDepth 20000 in
theorem gX7_rightBits_X7_bitsOf : GoodIn wsX7_rightBits (wsV RX7 224 RX7 yX7_bitsOf wsX7_bitsOf) := goodIn_app (goodIn_of _ (by decide +kernel)) ggX7_rightBits_X7_bitsOf
set_option maxRecDepth 20000 in
theorem ggX7_rightBits_X7_fails : GoodIn wsX7_rightBits wsX7_fails := goodIn_r _ [51, 1, 52, 53, 54, 55, 56, 57, 58, 59, 60, 61, 62, 63, 64, 65, 66, 67, 68, 69, 70, 71, 72, 73, 74, 75, 76, 77, 78, 79, 80, 81, 82, 83, 84, 85, 86, 87, 88] (by decide +kernel) (by decide +kernel)
set_option maxRecDepth 20000 in
theorem gX7_rightBits_X7_fails : GoodIn wsX7_rightBits (wsV RX7 108 RX7 yX7_fails wsX7_fails) := goodIn_app (goodIn_of _ (by decide +kernel)) ggX7_rightBits_X7_fails
theorem dX7_rightBits_0 : decode cX7_rightBits 0 = .ok (.aload_n 0, 1) := by decide +kernel
theorem dX7_rightBits_1 : decode cX7_rightBits 1 = .ok (.iconst 0, 1) := by decide +kernel
theorem dX7_rightBits_2 : decode cX7_rightBits 2 = .ok (.putfield 85, 3) := by decide +kernel
theorem dX7_rightBits_5 : decode cX7_rightBits 5 = .ok (.aload_n 0, 1) := by decide +kernel
theorem dX7_rightBits_6 : decode cX7_rightBits 6 = .ok (.iload_n 1, 1) := by decide +kernel
theorem dX7_rightBits_7 : decode cX7_rightBits 7 = .ok (.invokevirtual 112, 3) := by decide +kernel
theorem dX7_rightBits_10 : decode cX7_rightBits 10 = .ok (.ifCond .eq 11, 3) := by decide +kernel
theorem dX7_rightBits_13 : decode cX7_rightBits 13 = .ok (.aload_n 0, 1) := by decide +kernel
theorem dX7_rightBits_14 : decode cX7_rightBits 14 = .ok (.iload_n 1, 1) := by decide +kernel
theorem dX7_rightBits_15 : decode cX7_rightBits 15 = .ok (.invokevirtual 224, 3) := by decide +kernel
theorem dX7_rightBits_18 : decode cX7_rightBits 18 = .ok (.goto 8, 3) := by decide +kernel
theorem dX7_rightBits_21 : decode cX7_rightBits 21 = .ok (.aload_n 0, 1) := by decide +kernel
theorem dX7_rightBits_22 : decode cX7_rightBits 22 = .ok (.iconst 1, 1) := by decide +kernel
theorem dX7_rightBits_23 : decode cX7_rightBits 23 = .ok (.invokevirtual 108, 3) := by decide +kernel
theorem dX7_rightBits_26 : decode cX7_rightBits 26 = .ok (.ireturn, 1) := by decide +kernel
set_option maxRecDepth 20000 in
theorem ggX7_apart_X7_isPerson : GoodIn wsX7_apart wsX7_isPerson := goodIn_r _ [6, 7, 8, 9, 5, 10, 55, 56, 57, 58, 59, 60, 61, 62, 63, 64, 65, 66, 67, 68, 69, 70, 71, 72, 73, 74, 75, 76, 77, 78, 79, 80, 81, 82, 83, 84, 85, 86, 87, 88, 89, 90, 91] (by decide +kernel) (by decide +kernel)
set_option maxRecDepth 20000 in
theorem gX7_apart_X7_isPerson : GoodIn wsX7_apart (wsV RX7 112 RX7 yX7_isPerson wsX7_isPerson) := goodIn_app (goodIn_of _ (by decide +kernel)) ggX7_apart_X7_isPerson
set_option maxRecDepth 20000 in
theorem ggX7_apart_X7_bitsOf : GoodIn wsX7_apart wsX7_bitsOf := goodIn_ca (goodIn_r _ [14, 15, 16, 17, 18, 5, 19, 20, 21, 22, 23, 24, 25, 26, 27, 28, 29, 30, 31, 32, 33, 34, 35, 36, 37, 38, 39, 40, 41, 42, 43, 44, 45, 46, 47, 55, 56, 57, 58, 59, 60, 61, 62, 63, 64, 65, 66, 67, 68, 69, 70, 71, 72, 73, 74, 75, 76, 77, 78, 79, 80, 81, 82, 83, 84, 85, 86, 87, 88, 89, 90, 91] (by decide +kernel) (by decide +kernel)) (goodIn_sub (fun _ h => List.mem_cons_of_mem _ (List.mem_append_right _ h)) (by decide +kernel))
set_option maxRecDepth 20000 in
theorem gX7_apart_X7_bitsOf : GoodIn wsX7_apart (wsV RX7 224 RX7 yX7_bitsOf wsX7_bitsOf) := goodIn_app (goodIn_of _ (by decide +kernel)) ggX7_apart_X7_bitsOf
set_option maxRecDepth 20000 in
theorem ggX7_apart_X7_size : GoodIn wsX7_apart wsX7_size := goodIn_r _ [50, 45, 46, 5, 47] (by decide +kernel) (by decide +kernel)
set_option maxRecDepth 20000 in
theorem gX7_apart_X7_size : GoodIn wsX7_apart (va_wsS RX7 128 yX7_size wsX7_size) := goodIn_app (goodIn_of _ (by decide +kernel)) ggX7_apart_X7_size
set_option maxRecDepth 20000 in
theorem ggX7_apart_X7_fails : GoodIn wsX7_apart wsX7_fails := goodIn_r _ [54, 1, 55, 56, 57, 58, 59, 60, 61, 62, 63, 64, 65, 66, 67, 68, 69, 70, 71, 72, 73, 74, 75, 76, 77, 78, 79, 80, 81, 82, 83, 84, 85, 86, 87, 88, 89, 90, 91] (by decide +kernel) (by decide +kernel)
set_option maxRecDepth 20000 in
theorem gX7_apart_X7_fails : GoodIn wsX7_apart (wsV RX7 108 RX7 yX7_fails wsX7_fails) := goodIn_app (goodIn_of _ (by decide +kernel)) ggX7_apart_X7_fails
theorem dX7_apart_0 : decode cX7_apart 0 = .ok (.aload_n 0, 1) := by decide +kernel
theorem dX7_apart_1 : decode cX7_apart 1 = .ok (.iconst 0, 1) := by decide +kernel
theorem dX7_apart_2 : decode cX7_apart 2 = .ok (.putfield 85, 3) := by decide +kernel
theorem dX7_apart_5 : decode cX7_apart 5 = .ok (.aload_n 0, 1) := by decide +kernel
theorem dX7_apart_6 : decode cX7_apart 6 = .ok (.iload_n 1, 1) := by decide +kernel
theorem dX7_apart_7 : decode cX7_apart 7 = .ok (.invokevirtual 112, 3) := by decide +kernel
theorem dX7_apart_10 : decode cX7_apart 10 = .ok (.ifCond .eq 28, 3) := by decide +kernel
theorem dX7_apart_13 : decode cX7_apart 13 = .ok (.aload_n 0, 1) := by decide +kernel
theorem dX7_apart_14 : decode cX7_apart 14 = .ok (.iload_n 2, 1) := by decide +kernel
theorem dX7_apart_15 : decode cX7_apart 15 = .ok (.invokevirtual 112, 3) := by decide +kernel
theorem dX7_apart_18 : decode cX7_apart 18 = .ok (.ifCond .eq 20, 3) := by decide +kernel
theorem dX7_apart_21 : decode cX7_apart 21 = .ok (.aload_n 0, 1) := by decide +kernel
theorem dX7_apart_22 : decode cX7_apart 22 = .ok (.iload_n 1, 1) := by decide +kernel
theorem dX7_apart_23 : decode cX7_apart 23 = .ok (.invokevirtual 224, 3) := by decide +kernel
theorem dX7_apart_26 : decode cX7_apart 26 = .ok (.aload_n 0, 1) := by decide +kernel
theorem dX7_apart_27 : decode cX7_apart 27 = .ok (.iload_n 2, 1) := by decide +kernel
theorem dX7_apart_28 : decode cX7_apart 28 = .ok (.invokevirtual 224, 3) := by decide +kernel
theorem dX7_apart_31 : decode cX7_apart 31 = .ok (.ixor, 1) := by decide +kernel
theorem dX7_apart_32 : decode cX7_apart 32 = .ok (.invokestatic 128, 3) := by decide +kernel
theorem dX7_apart_35 : decode cX7_apart 35 = .ok (.goto 8, 3) := by decide +kernel
theorem dX7_apart_38 : decode cX7_apart 38 = .ok (.aload_n 0, 1) := by decide +kernel
theorem dX7_apart_39 : decode cX7_apart 39 = .ok (.iconst 1, 1) := by decide +kernel
theorem dX7_apart_40 : decode cX7_apart 40 = .ok (.invokevirtual 108, 3) := by decide +kernel
theorem dX7_apart_43 : decode cX7_apart 43 = .ok (.ireturn, 1) := by decide +kernel
set_option maxRecDepth 20000 in
theorem ggX7_isDenied_X7_isNone : GoodIn wsX7_isDenied wsX7_isNone := goodIn_r _ [6, 7, 8, 9, 10, 5, 11, 12, 13, 14, 15, 16, 17, 18, 19, 20, 24, 25, 26, 27, 28, 29, 30, 31, 32, 33, 34, 35, 36, 37, 38, 39, 40, 41, 42, 43, 44, 45, 46, 47, 48, 49, 50, 51, 52, 53, 54, 55, 56, 57, 58, 59, 60] (by decide +kernel) (by decide +kernel)
set_option maxRecDepth 20000 in
theorem gX7_isDenied_X7_isNone : GoodIn wsX7_isDenied (wsV RX7 154 RX7 yX7_isNone wsX7_isNone) := goodIn_app (goodIn_of _ (by decide +kernel)) ggX7_isDenied_X7_isNone
set_option maxRecDepth 20000 in
theorem ggX7_isDenied_X7_has : GoodIn wsX7_isDenied wsX7_has := goodIn_r _ [23] (by decide +kernel) (by decide +kernel)
set_option maxRecDepth 20000 in
theorem gX7_isDenied_X7_has : GoodIn wsX7_isDenied (va_wsS RX7 88 yX7_has wsX7_has) := goodIn_app (goodIn_of _ (by decide +kernel)) ggX7_isDenied_X7_has
theorem dX7_isDenied_0 : decode cX7_isDenied 0 = .ok (.aload_n 0, 1) := by decide +kernel
theorem dX7_isDenied_1 : decode cX7_isDenied 1 = .ok (.iload_n 1, 1) := by decide +kernel
theorem dX7_isDenied_2 : decode cX7_isDenied 2 = .ok (.iload_n 2, 1) := by decide +kernel
theorem dX7_isDenied_3 : decode cX7_isDenied 3 = .ok (.invokevirtual 154, 3) := by decide +kernel
theorem dX7_isDenied_6 : decode cX7_isDenied 6 = .ok (.ifCond .ne 20, 3) := by decide +kernel
theorem dX7_isDenied_9 : decode cX7_isDenied 9 = .ok (.aload_n 0, 1) := by decide +kernel
theorem dX7_isDenied_10 : decode cX7_isDenied 10 = .ok (.getfield 34, 3) := by decide +kernel
theorem dX7_isDenied_13 : decode cX7_isDenied 13 = .ok (.iload_n 2, 1) := by decide +kernel
theorem dX7_isDenied_14 : decode cX7_isDenied 14 = .ok (.iaload, 1) := by decide +kernel
theorem dX7_isDenied_15 : decode cX7_isDenied 15 = .ok (.iload_n 1, 1) := by decide +kernel
theorem dX7_isDenied_16 : decode cX7_isDenied 16 = .ok (.invokestatic 88, 3) := by decide +kernel
theorem dX7_isDenied_19 : decode cX7_isDenied 19 = .ok (.ifCond .eq 7, 3) := by decide +kernel
theorem dX7_isDenied_22 : decode cX7_isDenied 22 = .ok (.iconst 1, 1) := by decide +kernel
theorem dX7_isDenied_23 : decode cX7_isDenied 23 = .ok (.goto 4, 3) := by decide +kernel
theorem dX7_isDenied_26 : decode cX7_isDenied 26 = .ok (.iconst 0, 1) := by decide +kernel
theorem dX7_isDenied_27 : decode cX7_isDenied 27 = .ok (.ireturn, 1) := by decide +kernel
set_option maxRecDepth 20000 in
theorem ggX7_pathsFrom_X7_has : GoodIn wsX7_pathsFrom wsX7_has := goodIn_r _ [7] (by decide +kernel) (by decide +kernel)
set_option maxRecDepth 20000 in
theorem gX7_pathsFrom_X7_has : GoodIn wsX7_pathsFrom (va_wsS RX7 88 yX7_has wsX7_has) := goodIn_app (goodIn_of _ (by decide +kernel)) ggX7_pathsFrom_X7_has
set_option maxRecDepth 20000 in
theorem ggX7_pathsFrom_X7_pathsFrom : GoodIn wsX7_pathsFrom wsX7_pathsFrom := goodIn_ca (goodIn_r _ [0, 1, 2, 3, 4, 5, 6, 7, 8, 9, 10, 11, 12, 13, 14, 15, 16, 17, 18, 19, 20, 21, 22, 23, 24, 25, 26, 27, 28, 29, 30, 31, 32, 33, 34, 35, 36, 37, 38, 39, 40, 41, 42, 43, 44, 45, 46, 47] (by decide +kernel) (by decide +kernel)) (goodIn_sub (fun _ h => List.mem_cons_of_mem _ (List.mem_append_right _ h)) (by decide +kernel))
set_option maxRecDepth 20000 in
theorem gX7_pathsFrom_X7_pathsFrom : GoodIn wsX7_pathsFrom (wsV RX7 227 RX7 yX7_pathsFrom wsX7_pathsFrom) := goodIn_app (goodIn_of _ (by decide +kernel)) ggX7_pathsFrom_X7_pathsFrom
theorem dX7_pathsFrom_0 : decode cX7_pathsFrom 0 = .ok (.aload_n 0, 1) := by decide +kernel
theorem dX7_pathsFrom_1 : decode cX7_pathsFrom 1 = .ok (.getfield 22, 3) := by decide +kernel
theorem dX7_pathsFrom_4 : decode cX7_pathsFrom 4 = .ok (.iload_n 1, 1) := by decide +kernel
theorem dX7_pathsFrom_5 : decode cX7_pathsFrom 5 = .ok (.iaload, 1) := by decide +kernel
theorem dX7_pathsFrom_6 : decode cX7_pathsFrom 6 = .ok (.iload_n 2, 1) := by decide +kernel
theorem dX7_pathsFrom_7 : decode cX7_pathsFrom 7 = .ok (.invokestatic 88, 3) := by decide +kernel
theorem dX7_pathsFrom_10 : decode cX7_pathsFrom 10 = .ok (.ifCond .eq 7, 3) := by decide +kernel
theorem dX7_pathsFrom_13 : decode cX7_pathsFrom 13 = .ok (.iconst 1, 1) := by decide +kernel
theorem dX7_pathsFrom_14 : decode cX7_pathsFrom 14 = .ok (.goto 4, 3) := by decide +kernel
theorem dX7_pathsFrom_17 : decode cX7_pathsFrom 17 = .ok (.iconst 0, 1) := by decide +kernel
theorem dX7_pathsFrom_18 : decode cX7_pathsFrom 18 = .ok (.istore_n 3, 1) := by decide +kernel
theorem dX7_pathsFrom_19 : decode cX7_pathsFrom 19 = .ok (.iconst 0, 1) := by decide +kernel
theorem dX7_pathsFrom_20 : decode cX7_pathsFrom 20 = .ok (.istore 4, 2) := by decide +kernel
theorem dX7_pathsFrom_22 : decode cX7_pathsFrom 22 = .ok (.iload 4, 2) := by decide +kernel
theorem dX7_pathsFrom_24 : decode cX7_pathsFrom 24 = .ok (.aload_n 0, 1) := by decide +kernel
theorem dX7_pathsFrom_25 : decode cX7_pathsFrom 25 = .ok (.getfield 99, 3) := by decide +kernel
theorem dX7_pathsFrom_28 : decode cX7_pathsFrom 28 = .ok (.if_icmp .ge 37, 3) := by decide +kernel
theorem dX7_pathsFrom_31 : decode cX7_pathsFrom 31 = .ok (.iload_n 3, 1) := by decide +kernel
theorem dX7_pathsFrom_32 : decode cX7_pathsFrom 32 = .ok (.aload_n 0, 1) := by decide +kernel
theorem dX7_pathsFrom_33 : decode cX7_pathsFrom 33 = .ok (.getfield 25, 3) := by decide +kernel
theorem dX7_pathsFrom_36 : decode cX7_pathsFrom 36 = .ok (.iload_n 1, 1) := by decide +kernel
theorem dX7_pathsFrom_37 : decode cX7_pathsFrom 37 = .ok (.iaload, 1) := by decide +kernel
theorem dX7_pathsFrom_38 : decode cX7_pathsFrom 38 = .ok (.iload 4, 2) := by decide +kernel
theorem dX7_pathsFrom_40 : decode cX7_pathsFrom 40 = .ok (.invokestatic 88, 3) := by decide +kernel
theorem dX7_pathsFrom_43 : decode cX7_pathsFrom 43 = .ok (.ifCond .eq 13, 3) := by decide +kernel
theorem dX7_pathsFrom_46 : decode cX7_pathsFrom 46 = .ok (.aload_n 0, 1) := by decide +kernel
theorem dX7_pathsFrom_47 : decode cX7_pathsFrom 47 = .ok (.iload 4, 2) := by decide +kernel
theorem dX7_pathsFrom_49 : decode cX7_pathsFrom 49 = .ok (.iload_n 2, 1) := by decide +kernel
theorem dX7_pathsFrom_50 : decode cX7_pathsFrom 50 = .ok (.invokevirtual 227, 3) := by decide +kernel
theorem dX7_pathsFrom_53 : decode cX7_pathsFrom 53 = .ok (.goto 4, 3) := by decide +kernel
theorem dX7_pathsFrom_56 : decode cX7_pathsFrom 56 = .ok (.iconst 0, 1) := by decide +kernel
theorem dX7_pathsFrom_57 : decode cX7_pathsFrom 57 = .ok (.iadd, 1) := by decide +kernel
theorem dX7_pathsFrom_58 : decode cX7_pathsFrom 58 = .ok (.istore_n 3, 1) := by decide +kernel
theorem dX7_pathsFrom_59 : decode cX7_pathsFrom 59 = .ok (.iinc 4 1, 3) := by decide +kernel
theorem dX7_pathsFrom_62 : decode cX7_pathsFrom 62 = .ok (.goto (-40), 3) := by decide +kernel
theorem dX7_pathsFrom_65 : decode cX7_pathsFrom 65 = .ok (.iload_n 3, 1) := by decide +kernel
theorem dX7_pathsFrom_66 : decode cX7_pathsFrom 66 = .ok (.ireturn, 1) := by decide +kernel
set_option maxRecDepth 20000 in
theorem ggX7_paths_X7_isNone : GoodIn wsX7_paths wsX7_isNone := goodIn_r _ [10, 11, 12, 13, 14, 9, 15, 16, 17, 18, 19, 20, 21, 22, 23, 24, 35, 36, 37, 38, 39, 40, 41, 42, 43, 44, 45, 46, 47, 48, 49, 50, 51, 52, 53, 54, 55, 56, 57, 58, 59, 60, 61, 62, 63, 64, 65, 66, 67, 68, 69, 70, 71] (by decide +kernel) (by decide +kernel)
set_option maxRecDepth 20000 in
theorem gX7_paths_X7_isNone : GoodIn wsX7_paths (wsV RX7 154 RX7 yX7_isNone wsX7_isNone) := goodIn_app (goodIn_of _ (by decide +kernel)) ggX7_paths_X7_isNone
set_option maxRecDepth 20000 in
theorem ggX7_paths_X7_pathsFrom : GoodIn wsX7_paths wsX7_pathsFrom := goodIn_ca (goodIn_r _ [28, 29, 30, 31, 32, 33, 9, 34, 25, 26, 27, 35, 36, 37, 38, 39, 40, 41, 42, 43, 44, 45, 46, 47, 48, 49, 50, 51, 52, 53, 54, 55, 56, 57, 58, 59, 60, 61, 62, 63, 64, 65, 66, 67, 68, 69, 70, 71] (by decide +kernel) (by decide +kernel)) (goodIn_sub (fun _ h => List.mem_cons_of_mem _ (List.mem_append_right _ h)) (by decide +kernel))
set_option maxRecDepth 20000 in
theorem gX7_paths_X7_pathsFrom : GoodIn wsX7_paths (wsV RX7 227 RX7 yX7_pathsFrom wsX7_pathsFrom) := goodIn_app (goodIn_of _ (by decide +kernel)) ggX7_paths_X7_pathsFrom
theorem dX7_paths_0 : decode cX7_paths 0 = .ok (.aload_n 0, 1) := by decide +kernel
theorem dX7_paths_1 : decode cX7_paths 1 = .ok (.iload_n 1, 1) := by decide +kernel
theorem dX7_paths_2 : decode cX7_paths 2 = .ok (.iload_n 2, 1) := by decide +kernel
theorem dX7_paths_3 : decode cX7_paths 3 = .ok (.invokevirtual 154, 3) := by decide +kernel
theorem dX7_paths_6 : decode cX7_paths 6 = .ok (.ifCond .eq 5, 3) := by decide +kernel
theorem dX7_paths_9 : decode cX7_paths 9 = .ok (.iconst 0, 1) := by decide +kernel
theorem dX7_paths_10 : decode cX7_paths 10 = .ok (.ireturn, 1) := by decide +kernel
theorem dX7_paths_11 : decode cX7_paths 11 = .ok (.iconst 0, 1) := by decide +kernel
theorem dX7_paths_12 : decode cX7_paths 12 = .ok (.istore_n 3, 1) := by decide +kernel
theorem dX7_paths_13 : decode cX7_paths 13 = .ok (.iconst 0, 1) := by decide +kernel
theorem dX7_paths_14 : decode cX7_paths 14 = .ok (.istore 4, 2) := by decide +kernel
theorem dX7_paths_16 : decode cX7_paths 16 = .ok (.iload 4, 2) := by decide +kernel
theorem dX7_paths_18 : decode cX7_paths 18 = .ok (.aload_n 0, 1) := by decide +kernel
theorem dX7_paths_19 : decode cX7_paths 19 = .ok (.getfield 105, 3) := by decide +kernel
theorem dX7_paths_22 : decode cX7_paths 22 = .ok (.if_icmp .ge 79, 3) := by decide +kernel
theorem dX7_paths_25 : decode cX7_paths 25 = .ok (.aload_n 0, 1) := by decide +kernel
theorem dX7_paths_26 : decode cX7_paths 26 = .ok (.getfield 56, 3) := by decide +kernel
theorem dX7_paths_29 : decode cX7_paths 29 = .ok (.iload 4, 2) := by decide +kernel
theorem dX7_paths_31 : decode cX7_paths 31 = .ok (.caload, 1) := by decide +kernel
theorem dX7_paths_32 : decode cX7_paths 32 = .ok (.bipush 120, 2) := by decide +kernel
theorem dX7_paths_34 : decode cX7_paths 34 = .ok (.if_icmp .eq 61, 3) := by decide +kernel
theorem dX7_paths_37 : decode cX7_paths 37 = .ok (.aload_n 0, 1) := by decide +kernel
theorem dX7_paths_38 : decode cX7_paths 38 = .ok (.getfield 37, 3) := by decide +kernel
theorem dX7_paths_41 : decode cX7_paths 41 = .ok (.iload 4, 2) := by decide +kernel
theorem dX7_paths_43 : decode cX7_paths 43 = .ok (.iaload, 1) := by decide +kernel
theorem dX7_paths_44 : decode cX7_paths 44 = .ok (.iload_n 2, 1) := by decide +kernel
theorem dX7_paths_45 : decode cX7_paths 45 = .ok (.if_icmp .eq 6, 3) := by decide +kernel
theorem dX7_paths_48 : decode cX7_paths 48 = .ok (.goto 47, 3) := by decide +kernel
theorem dX7_paths_51 : decode cX7_paths 51 = .ok (.iload_n 3, 1) := by decide +kernel
theorem dX7_paths_52 : decode cX7_paths 52 = .ok (.aload_n 0, 1) := by decide +kernel
theorem dX7_paths_53 : decode cX7_paths 53 = .ok (.getfield 53, 3) := by decide +kernel
theorem dX7_paths_56 : decode cX7_paths 56 = .ok (.iload 4, 2) := by decide +kernel
theorem dX7_paths_58 : decode cX7_paths 58 = .ok (.baload, 1) := by decide +kernel
theorem dX7_paths_59 : decode cX7_paths 59 = .ok (.ifCond .eq 18, 3) := by decide +kernel
theorem dX7_paths_62 : decode cX7_paths 62 = .ok (.aload_n 0, 1) := by decide +kernel
theorem dX7_paths_63 : decode cX7_paths 63 = .ok (.aload_n 0, 1) := by decide +kernel
theorem dX7_paths_64 : decode cX7_paths 64 = .ok (.getfield 40, 3) := by decide +kernel
theorem dX7_paths_67 : decode cX7_paths 67 = .ok (.iload 4, 2) := by decide +kernel
theorem dX7_paths_69 : decode cX7_paths 69 = .ok (.iaload, 1) := by decide +kernel
theorem dX7_paths_70 : decode cX7_paths 70 = .ok (.iload_n 1, 1) := by decide +kernel
theorem dX7_paths_71 : decode cX7_paths 71 = .ok (.invokevirtual 227, 3) := by decide +kernel
theorem dX7_paths_74 : decode cX7_paths 74 = .ok (.goto 19, 3) := by decide +kernel
theorem dX7_paths_77 : decode cX7_paths 77 = .ok (.aload_n 0, 1) := by decide +kernel
theorem dX7_paths_78 : decode cX7_paths 78 = .ok (.getfield 40, 3) := by decide +kernel
theorem dX7_paths_81 : decode cX7_paths 81 = .ok (.iload 4, 2) := by decide +kernel
theorem dX7_paths_83 : decode cX7_paths 83 = .ok (.iaload, 1) := by decide +kernel
theorem dX7_paths_84 : decode cX7_paths 84 = .ok (.iload_n 1, 1) := by decide +kernel
theorem dX7_paths_85 : decode cX7_paths 85 = .ok (.if_icmp .ne 7, 3) := by decide +kernel
theorem dX7_paths_88 : decode cX7_paths 88 = .ok (.iconst 1, 1) := by decide +kernel
theorem dX7_paths_89 : decode cX7_paths 89 = .ok (.goto 4, 3) := by decide +kernel
theorem dX7_paths_92 : decode cX7_paths 92 = .ok (.iconst 0, 1) := by decide +kernel
theorem dX7_paths_93 : decode cX7_paths 93 = .ok (.iadd, 1) := by decide +kernel
theorem dX7_paths_94 : decode cX7_paths 94 = .ok (.istore_n 3, 1) := by decide +kernel
theorem dX7_paths_95 : decode cX7_paths 95 = .ok (.iinc 4 1, 3) := by decide +kernel
theorem dX7_paths_98 : decode cX7_paths 98 = .ok (.goto (-82), 3) := by decide +kernel
theorem dX7_paths_101 : decode cX7_paths 101 = .ok (.iload_n 3, 1) := by decide +kernel
theorem dX7_paths_102 : decode cX7_paths 102 = .ok (.ireturn, 1) := by decide +kernel
set_option maxRecDepth 20000 in
theorem ggX7_leastFrom_X7_has : GoodIn wsX7_leastFrom wsX7_has := goodIn_r _ [11] (by decide +kernel) (by decide +kernel)
set_option maxRecDepth 20000 in
theorem gX7_leastFrom_X7_has : GoodIn wsX7_leastFrom (va_wsS RX7 88 yX7_has wsX7_has) := goodIn_app (goodIn_of _ (by decide +kernel)) ggX7_leastFrom_X7_has
set_option maxRecDepth 20000 in
theorem ggX7_leastFrom_X7_leastFrom : GoodIn wsX7_leastFrom wsX7_leastFrom := goodIn_ca (goodIn_r _ [0, 1, 2, 3, 4, 5, 6, 7, 8, 9, 10, 11, 12, 13, 14, 15, 16, 17, 18, 19, 20, 21, 22, 23, 24, 25, 26, 27, 28, 29, 30, 31, 32, 33, 34, 35, 36, 37, 38, 39, 40, 41, 42, 43, 44, 45, 46, 47, 48, 49, 50, 51] (by decide +kernel) (by decide +kernel)) (goodIn_sub (fun _ h => List.mem_cons_of_mem _ (List.mem_append_right _ h)) (by decide +kernel))
set_option maxRecDepth 20000 in
theorem gX7_leastFrom_X7_leastFrom : GoodIn wsX7_leastFrom (wsV RX7 230 RX7 yX7_leastFrom wsX7_leastFrom) := goodIn_app (goodIn_of _ (by decide +kernel)) ggX7_leastFrom_X7_leastFrom
theorem dX7_leastFrom_0 : decode cX7_leastFrom 0 = .ok (.aload_n 0, 1) := by decide +kernel
theorem dX7_leastFrom_1 : decode cX7_leastFrom 1 = .ok (.getfield 22, 3) := by decide +kernel
theorem dX7_leastFrom_4 : decode cX7_leastFrom 4 = .ok (.iload_n 1, 1) := by decide +kernel
theorem dX7_leastFrom_5 : decode cX7_leastFrom 5 = .ok (.iaload, 1) := by decide +kernel
theorem dX7_leastFrom_6 : decode cX7_leastFrom 6 = .ok (.iload_n 2, 1) := by decide +kernel
theorem dX7_leastFrom_7 : decode cX7_leastFrom 7 = .ok (.invokestatic 88, 3) := by decide +kernel
theorem dX7_leastFrom_10 : decode cX7_leastFrom 10 = .ok (.ifCond .eq 5, 3) := by decide +kernel
theorem dX7_leastFrom_13 : decode cX7_leastFrom 13 = .ok (.iconst 1, 1) := by decide +kernel
theorem dX7_leastFrom_14 : decode cX7_leastFrom 14 = .ok (.ireturn, 1) := by decide +kernel
theorem dX7_leastFrom_15 : decode cX7_leastFrom 15 = .ok (.bipush 99, 2) := by decide +kernel
theorem dX7_leastFrom_17 : decode cX7_leastFrom 17 = .ok (.istore_n 3, 1) := by decide +kernel
theorem dX7_leastFrom_18 : decode cX7_leastFrom 18 = .ok (.iconst 0, 1) := by decide +kernel
theorem dX7_leastFrom_19 : decode cX7_leastFrom 19 = .ok (.istore 4, 2) := by decide +kernel
theorem dX7_leastFrom_21 : decode cX7_leastFrom 21 = .ok (.iload 4, 2) := by decide +kernel
theorem dX7_leastFrom_23 : decode cX7_leastFrom 23 = .ok (.aload_n 0, 1) := by decide +kernel
theorem dX7_leastFrom_24 : decode cX7_leastFrom 24 = .ok (.getfield 99, 3) := by decide +kernel
theorem dX7_leastFrom_27 : decode cX7_leastFrom 27 = .ok (.if_icmp .ge 41, 3) := by decide +kernel
theorem dX7_leastFrom_30 : decode cX7_leastFrom 30 = .ok (.aload_n 0, 1) := by decide +kernel
theorem dX7_leastFrom_31 : decode cX7_leastFrom 31 = .ok (.getfield 25, 3) := by decide +kernel
theorem dX7_leastFrom_34 : decode cX7_leastFrom 34 = .ok (.iload_n 1, 1) := by decide +kernel
theorem dX7_leastFrom_35 : decode cX7_leastFrom 35 = .ok (.iaload, 1) := by decide +kernel
theorem dX7_leastFrom_36 : decode cX7_leastFrom 36 = .ok (.iload 4, 2) := by decide +kernel
theorem dX7_leastFrom_38 : decode cX7_leastFrom 38 = .ok (.invokestatic 88, 3) := by decide +kernel
theorem dX7_leastFrom_41 : decode cX7_leastFrom 41 = .ok (.ifCond .eq 19, 3) := by decide +kernel
theorem dX7_leastFrom_44 : decode cX7_leastFrom 44 = .ok (.iload_n 3, 1) := by decide +kernel
theorem dX7_leastFrom_45 : decode cX7_leastFrom 45 = .ok (.aload_n 0, 1) := by decide +kernel
theorem dX7_leastFrom_46 : decode cX7_leastFrom 46 = .ok (.iload 4, 2) := by decide +kernel
theorem dX7_leastFrom_48 : decode cX7_leastFrom 48 = .ok (.iload_n 2, 1) := by decide +kernel
theorem dX7_leastFrom_49 : decode cX7_leastFrom 49 = .ok (.invokevirtual 230, 3) := by decide +kernel
theorem dX7_leastFrom_52 : decode cX7_leastFrom 52 = .ok (.iconst 1, 1) := by decide +kernel
theorem dX7_leastFrom_53 : decode cX7_leastFrom 53 = .ok (.iadd, 1) := by decide +kernel
theorem dX7_leastFrom_54 : decode cX7_leastFrom 54 = .ok (.invokestatic 233, 3) := by decide +kernel
theorem dX7_leastFrom_57 : decode cX7_leastFrom 57 = .ok (.goto 4, 3) := by decide +kernel
theorem dX7_leastFrom_60 : decode cX7_leastFrom 60 = .ok (.iload_n 3, 1) := by decide +kernel
theorem dX7_leastFrom_61 : decode cX7_leastFrom 61 = .ok (.istore_n 3, 1) := by decide +kernel
theorem dX7_leastFrom_62 : decode cX7_leastFrom 62 = .ok (.iinc 4 1, 3) := by decide +kernel
theorem dX7_leastFrom_65 : decode cX7_leastFrom 65 = .ok (.goto (-44), 3) := by decide +kernel
theorem dX7_leastFrom_68 : decode cX7_leastFrom 68 = .ok (.iload_n 3, 1) := by decide +kernel
theorem dX7_leastFrom_69 : decode cX7_leastFrom 69 = .ok (.bipush 99, 2) := by decide +kernel
theorem dX7_leastFrom_71 : decode cX7_leastFrom 71 = .ok (.invokestatic 233, 3) := by decide +kernel
theorem dX7_leastFrom_74 : decode cX7_leastFrom 74 = .ok (.ireturn, 1) := by decide +kernel
set_option maxRecDepth 20000 in
theorem ggX7_source_X7_leastFrom : GoodIn wsX7_source wsX7_leastFrom := goodIn_ca (goodIn_r _ [10, 11, 12, 13, 14, 15, 16, 17, 18, 19, 9, 20, 6, 7, 8, 21, 22, 23, 24, 25, 26, 27, 28, 29, 30, 31, 32, 33, 34, 35, 36, 37, 38, 39, 40, 41, 42, 43, 44, 45, 46, 47, 48, 49, 50, 51, 52, 53, 54, 55, 56, 57] (by decide +kernel) (by decide +kernel)) (goodIn_sub (fun _ h => List.mem_cons_of_mem _ (List.mem_append_right _ h)) (by decide +kernel))
set_option maxRecDepth 20000 in
theorem gX7_source_X7_leastFrom : GoodIn wsX7_source (wsV RX7 230 RX7 yX7_leastFrom wsX7_leastFrom) := goodIn_app (goodIn_of _ (by decide +kernel)) ggX7_source_X7_leastFrom
theorem dX7_source_0 : decode cX7_source 0 = .ok (.bipush (-2), 2) := by decide +kernel
theorem dX7_source_2 : decode cX7_source 2 = .ok (.istore_n 3, 1) := by decide +kernel
theorem dX7_source_3 : decode cX7_source 3 = .ok (.iconst 0, 1) := by decide +kernel
theorem dX7_source_4 : decode cX7_source 4 = .ok (.istore 4, 2) := by decide +kernel
theorem dX7_source_6 : decode cX7_source 6 = .ok (.iload 4, 2) := by decide +kernel
theorem dX7_source_8 : decode cX7_source 8 = .ok (.aload_n 0, 1) := by decide +kernel
theorem dX7_source_9 : decode cX7_source 9 = .ok (.getfield 105, 3) := by decide +kernel
theorem dX7_source_12 : decode cX7_source 12 = .ok (.if_icmp .ge 169, 3) := by decide +kernel
theorem dX7_source_15 : decode cX7_source 15 = .ok (.aload_n 0, 1) := by decide +kernel
theorem dX7_source_16 : decode cX7_source 16 = .ok (.getfield 56, 3) := by decide +kernel
theorem dX7_source_19 : decode cX7_source 19 = .ok (.iload 4, 2) := by decide +kernel
theorem dX7_source_21 : decode cX7_source 21 = .ok (.caload, 1) := by decide +kernel
theorem dX7_source_22 : decode cX7_source 22 = .ok (.bipush 120, 2) := by decide +kernel
theorem dX7_source_24 : decode cX7_source 24 = .ok (.if_icmp .eq 151, 3) := by decide +kernel
theorem dX7_source_27 : decode cX7_source 27 = .ok (.aload_n 0, 1) := by decide +kernel
theorem dX7_source_28 : decode cX7_source 28 = .ok (.getfield 37, 3) := by decide +kernel
theorem dX7_source_31 : decode cX7_source 31 = .ok (.iload 4, 2) := by decide +kernel
theorem dX7_source_33 : decode cX7_source 33 = .ok (.iaload, 1) := by decide +kernel
theorem dX7_source_34 : decode cX7_source 34 = .ok (.iload_n 2, 1) := by decide +kernel
theorem dX7_source_35 : decode cX7_source 35 = .ok (.if_icmp .eq 6, 3) := by decide +kernel
theorem dX7_source_38 : decode cX7_source 38 = .ok (.goto 137, 3) := by decide +kernel
theorem dX7_source_41 : decode cX7_source 41 = .ok (.aload_n 0, 1) := by decide +kernel
theorem dX7_source_42 : decode cX7_source 42 = .ok (.getfield 53, 3) := by decide +kernel
theorem dX7_source_45 : decode cX7_source 45 = .ok (.iload 4, 2) := by decide +kernel
theorem dX7_source_47 : decode cX7_source 47 = .ok (.baload, 1) := by decide +kernel
theorem dX7_source_48 : decode cX7_source 48 = .ok (.ifCond .ne 16, 3) := by decide +kernel
theorem dX7_source_51 : decode cX7_source 51 = .ok (.aload_n 0, 1) := by decide +kernel
theorem dX7_source_52 : decode cX7_source 52 = .ok (.getfield 40, 3) := by decide +kernel
theorem dX7_source_55 : decode cX7_source 55 = .ok (.iload 4, 2) := by decide +kernel
theorem dX7_source_57 : decode cX7_source 57 = .ok (.iaload, 1) := by decide +kernel
theorem dX7_source_58 : decode cX7_source 58 = .ok (.iload_n 1, 1) := by decide +kernel
theorem dX7_source_59 : decode cX7_source 59 = .ok (.if_icmp .ne 5, 3) := by decide +kernel
theorem dX7_source_62 : decode cX7_source 62 = .ok (.iconst (-1), 1) := by decide +kernel
theorem dX7_source_63 : decode cX7_source 63 = .ok (.ireturn, 1) := by decide +kernel
theorem dX7_source_64 : decode cX7_source 64 = .ok (.aload_n 0, 1) := by decide +kernel
theorem dX7_source_65 : decode cX7_source 65 = .ok (.getfield 53, 3) := by decide +kernel
theorem dX7_source_68 : decode cX7_source 68 = .ok (.iload 4, 2) := by decide +kernel
theorem dX7_source_70 : decode cX7_source 70 = .ok (.baload, 1) := by decide +kernel
theorem dX7_source_71 : decode cX7_source 71 = .ok (.ifCond .eq 104, 3) := by decide +kernel
theorem dX7_source_74 : decode cX7_source 74 = .ok (.aload_n 0, 1) := by decide +kernel
theorem dX7_source_75 : decode cX7_source 75 = .ok (.aload_n 0, 1) := by decide +kernel
theorem dX7_source_76 : decode cX7_source 76 = .ok (.getfield 40, 3) := by decide +kernel
theorem dX7_source_79 : decode cX7_source 79 = .ok (.iload 4, 2) := by decide +kernel
theorem dX7_source_81 : decode cX7_source 81 = .ok (.iaload, 1) := by decide +kernel
theorem dX7_source_82 : decode cX7_source 82 = .ok (.iload_n 1, 1) := by decide +kernel
theorem dX7_source_83 : decode cX7_source 83 = .ok (.invokevirtual 230, 3) := by decide +kernel
theorem dX7_source_86 : decode cX7_source 86 = .ok (.bipush 99, 2) := by decide +kernel
theorem dX7_source_88 : decode cX7_source 88 = .ok (.if_icmp .ne 6, 3) := by decide +kernel
theorem dX7_source_91 : decode cX7_source 91 = .ok (.goto 84, 3) := by decide +kernel
theorem dX7_source_94 : decode cX7_source 94 = .ok (.iload_n 3, 1) := by decide +kernel
theorem dX7_source_95 : decode cX7_source 95 = .ok (.ifCond .lt 56, 3) := by decide +kernel
theorem dX7_source_98 : decode cX7_source 98 = .ok (.aload_n 0, 1) := by decide +kernel
theorem dX7_source_99 : decode cX7_source 99 = .ok (.aload_n 0, 1) := by decide +kernel
theorem dX7_source_100 : decode cX7_source 100 = .ok (.getfield 40, 3) := by decide +kernel
theorem dX7_source_103 : decode cX7_source 103 = .ok (.iload 4, 2) := by decide +kernel
theorem dX7_source_105 : decode cX7_source 105 = .ok (.iaload, 1) := by decide +kernel
theorem dX7_source_106 : decode cX7_source 106 = .ok (.iload_n 1, 1) := by decide +kernel
theorem dX7_source_107 : decode cX7_source 107 = .ok (.invokevirtual 230, 3) := by decide +kernel
theorem dX7_source_110 : decode cX7_source 110 = .ok (.aload_n 0, 1) := by decide +kernel
theorem dX7_source_111 : decode cX7_source 111 = .ok (.iload_n 3, 1) := by decide +kernel
theorem dX7_source_112 : decode cX7_source 112 = .ok (.iload_n 1, 1) := by decide +kernel
theorem dX7_source_113 : decode cX7_source 113 = .ok (.invokevirtual 230, 3) := by decide +kernel
theorem dX7_source_116 : decode cX7_source 116 = .ok (.if_icmp .lt 35, 3) := by decide +kernel
theorem dX7_source_119 : decode cX7_source 119 = .ok (.aload_n 0, 1) := by decide +kernel
theorem dX7_source_120 : decode cX7_source 120 = .ok (.aload_n 0, 1) := by decide +kernel
theorem dX7_source_121 : decode cX7_source 121 = .ok (.getfield 40, 3) := by decide +kernel
theorem dX7_source_124 : decode cX7_source 124 = .ok (.iload 4, 2) := by decide +kernel
theorem dX7_source_126 : decode cX7_source 126 = .ok (.iaload, 1) := by decide +kernel
theorem dX7_source_127 : decode cX7_source 127 = .ok (.iload_n 1, 1) := by decide +kernel
theorem dX7_source_128 : decode cX7_source 128 = .ok (.invokevirtual 230, 3) := by decide +kernel
theorem dX7_source_131 : decode cX7_source 131 = .ok (.aload_n 0, 1) := by decide +kernel
theorem dX7_source_132 : decode cX7_source 132 = .ok (.iload_n 3, 1) := by decide +kernel
theorem dX7_source_133 : decode cX7_source 133 = .ok (.iload_n 1, 1) := by decide +kernel
theorem dX7_source_134 : decode cX7_source 134 = .ok (.invokevirtual 230, 3) := by decide +kernel
theorem dX7_source_137 : decode cX7_source 137 = .ok (.if_icmp .ne 18, 3) := by decide +kernel
theorem dX7_source_140 : decode cX7_source 140 = .ok (.aload_n 0, 1) := by decide +kernel
theorem dX7_source_141 : decode cX7_source 141 = .ok (.getfield 40, 3) := by decide +kernel
theorem dX7_source_144 : decode cX7_source 144 = .ok (.iload 4, 2) := by decide +kernel
theorem dX7_source_146 : decode cX7_source 146 = .ok (.iaload, 1) := by decide +kernel
theorem dX7_source_147 : decode cX7_source 147 = .ok (.iload_n 3, 1) := by decide +kernel
theorem dX7_source_148 : decode cX7_source 148 = .ok (.if_icmp .ge 7, 3) := by decide +kernel
theorem dX7_source_151 : decode cX7_source 151 = .ok (.iconst 1, 1) := by decide +kernel
theorem dX7_source_152 : decode cX7_source 152 = .ok (.goto 4, 3) := by decide +kernel
theorem dX7_source_155 : decode cX7_source 155 = .ok (.iconst 0, 1) := by decide +kernel
theorem dX7_source_156 : decode cX7_source 156 = .ok (.istore 5, 2) := by decide +kernel
theorem dX7_source_158 : decode cX7_source 158 = .ok (.iload 5, 2) := by decide +kernel
theorem dX7_source_160 : decode cX7_source 160 = .ok (.ifCond .eq 13, 3) := by decide +kernel
theorem dX7_source_163 : decode cX7_source 163 = .ok (.aload_n 0, 1) := by decide +kernel
theorem dX7_source_164 : decode cX7_source 164 = .ok (.getfield 40, 3) := by decide +kernel
theorem dX7_source_167 : decode cX7_source 167 = .ok (.iload 4, 2) := by decide +kernel
theorem dX7_source_169 : decode cX7_source 169 = .ok (.iaload, 1) := by decide +kernel
theorem dX7_source_170 : decode cX7_source 170 = .ok (.goto 4, 3) := by decide +kernel
theorem dX7_source_173 : decode cX7_source 173 = .ok (.iload_n 3, 1) := by decide +kernel
theorem dX7_source_174 : decode cX7_source 174 = .ok (.istore_n 3, 1) := by decide +kernel
theorem dX7_source_175 : decode cX7_source 175 = .ok (.iinc 4 1, 3) := by decide +kernel
theorem dX7_source_178 : decode cX7_source 178 = .ok (.goto (-172), 3) := by decide +kernel
theorem dX7_source_181 : decode cX7_source 181 = .ok (.iload_n 3, 1) := by decide +kernel
theorem dX7_source_182 : decode cX7_source 182 = .ok (.ireturn, 1) := by decide +kernel
set_option maxRecDepth 20000 in
theorem ggX7_pathLength_X7_isNone : GoodIn wsX7_pathLength wsX7_isNone := goodIn_r _ [5, 6, 7, 8, 9, 4, 10, 11, 12, 13, 14, 15, 16, 17, 18, 19, 47, 48, 49, 50, 51, 52, 53, 54, 55, 56, 57, 58, 59, 60, 61, 62, 63, 64, 65, 66, 67, 68, 69, 70, 71, 72, 73, 74, 75, 76, 77, 78, 79, 80, 81, 82, 83] (by decide +kernel) (by decide +kernel)
set_option maxRecDepth 20000 in
theorem gX7_pathLength_X7_isNone : GoodIn wsX7_pathLength (wsV RX7 154 RX7 yX7_isNone wsX7_isNone) := goodIn_app (goodIn_of _ (by decide +kernel)) ggX7_pathLength_X7_isNone
set_option maxRecDepth 20000 in
theorem ggX7_pathLength_X7_source : GoodIn wsX7_pathLength wsX7_source := goodIn_ca (goodIn_r _ [23, 24, 25, 26, 27, 28, 29, 30, 31, 4, 32, 33, 34, 35, 36, 37, 38, 39, 40, 41, 42, 47, 48, 49, 50, 51, 52, 53, 54, 55, 56, 57, 58, 59, 60, 61, 62, 63, 64, 65, 66, 67, 68, 69, 70, 71, 72, 73, 74, 75, 76, 77, 78, 79, 80, 81, 82, 83] (by decide +kernel) (by decide +kernel)) (goodIn_sub (fun _ h => List.mem_cons_of_mem _ (List.mem_append_right _ h)) (by decide +kernel))
set_option maxRecDepth 20000 in
theorem gX7_pathLength_X7_source : GoodIn wsX7_pathLength (wsV RX7 236 RX7 yX7_source wsX7_source) := goodIn_app (goodIn_of _ (by decide +kernel)) ggX7_pathLength_X7_source
set_option maxRecDepth 20000 in
theorem ggX7_pathLength_X7_fails : GoodIn wsX7_pathLength wsX7_fails := goodIn_r _ [46, 6, 47, 48, 49, 50, 51, 52, 53, 54, 55, 56, 57, 58, 59, 60, 61, 62, 63, 64, 65, 66, 67, 68, 69, 70, 71, 72, 73, 74, 75, 76, 77, 78, 79, 80, 81, 82, 83] (by decide +kernel) (by decide +kernel)
set_option maxRecDepth 20000 in
theorem gX7_pathLength_X7_fails : GoodIn wsX7_pathLength (wsV RX7 108 RX7 yX7_fails wsX7_fails) := goodIn_app (goodIn_of _ (by decide +kernel)) ggX7_pathLength_X7_fails
set_option maxRecDepth 20000 in
theorem ggX7_pathLength_X7_leastFrom : GoodIn wsX7_pathLength wsX7_leastFrom := goodIn_ca (goodIn_r _ [32, 33, 34, 35, 36, 37, 38, 39, 40, 41, 4, 42, 29, 30, 31, 47, 48, 49, 50, 51, 52, 53, 54, 55, 56, 57, 58, 59, 60, 61, 62, 63, 64, 65, 66, 67, 68, 69, 70, 71, 72, 73, 74, 75, 76, 77, 78, 79, 80, 81, 82, 83] (by decide +kernel) (by decide +kernel)) (goodIn_sub (fun _ h => List.mem_cons_of_mem _ (List.mem_append_right _ h)) (by decide +kernel))
set_option maxRecDepth 20000 in
theorem gX7_pathLength_X7_leastFrom : GoodIn wsX7_pathLength (wsV RX7 230 RX7 yX7_leastFrom wsX7_leastFrom) := goodIn_app (goodIn_of _ (by decide +kernel)) ggX7_pathLength_X7_leastFrom
theorem dX7_pathLength_0 : decode cX7_pathLength 0 = .ok (.aload_n 0, 1) := by decide +kernel
theorem dX7_pathLength_1 : decode cX7_pathLength 1 = .ok (.iload_n 1, 1) := by decide +kernel
theorem dX7_pathLength_2 : decode cX7_pathLength 2 = .ok (.iload_n 2, 1) := by decide +kernel
theorem dX7_pathLength_3 : decode cX7_pathLength 3 = .ok (.invokevirtual 154, 3) := by decide +kernel
theorem dX7_pathLength_6 : decode cX7_pathLength 6 = .ok (.ifCond .eq 5, 3) := by decide +kernel
theorem dX7_pathLength_9 : decode cX7_pathLength 9 = .ok (.iconst 0, 1) := by decide +kernel
theorem dX7_pathLength_10 : decode cX7_pathLength 10 = .ok (.ireturn, 1) := by decide +kernel
theorem dX7_pathLength_11 : decode cX7_pathLength 11 = .ok (.aload_n 0, 1) := by decide +kernel
theorem dX7_pathLength_12 : decode cX7_pathLength 12 = .ok (.iload_n 1, 1) := by decide +kernel
theorem dX7_pathLength_13 : decode cX7_pathLength 13 = .ok (.iload_n 2, 1) := by decide +kernel
theorem dX7_pathLength_14 : decode cX7_pathLength 14 = .ok (.invokevirtual 236, 3) := by decide +kernel
theorem dX7_pathLength_17 : decode cX7_pathLength 17 = .ok (.istore_n 3, 1) := by decide +kernel
theorem dX7_pathLength_18 : decode cX7_pathLength 18 = .ok (.iload_n 3, 1) := by decide +kernel
theorem dX7_pathLength_19 : decode cX7_pathLength 19 = .ok (.bipush (-2), 2) := by decide +kernel
theorem dX7_pathLength_21 : decode cX7_pathLength 21 = .ok (.if_icmp .ne 9, 3) := by decide +kernel
theorem dX7_pathLength_24 : decode cX7_pathLength 24 = .ok (.aload_n 0, 1) := by decide +kernel
theorem dX7_pathLength_25 : decode cX7_pathLength 25 = .ok (.iconst 2, 1) := by decide +kernel
theorem dX7_pathLength_26 : decode cX7_pathLength 26 = .ok (.invokevirtual 108, 3) := by decide +kernel
theorem dX7_pathLength_29 : decode cX7_pathLength 29 = .ok (.ireturn, 1) := by decide +kernel
theorem dX7_pathLength_30 : decode cX7_pathLength 30 = .ok (.iload_n 3, 1) := by decide +kernel
theorem dX7_pathLength_31 : decode cX7_pathLength 31 = .ok (.ifCond .ge 7, 3) := by decide +kernel
theorem dX7_pathLength_34 : decode cX7_pathLength 34 = .ok (.iconst 0, 1) := by decide +kernel
theorem dX7_pathLength_35 : decode cX7_pathLength 35 = .ok (.goto 9, 3) := by decide +kernel
theorem dX7_pathLength_38 : decode cX7_pathLength 38 = .ok (.aload_n 0, 1) := by decide +kernel
theorem dX7_pathLength_39 : decode cX7_pathLength 39 = .ok (.iload_n 3, 1) := by decide +kernel
theorem dX7_pathLength_40 : decode cX7_pathLength 40 = .ok (.iload_n 1, 1) := by decide +kernel
theorem dX7_pathLength_41 : decode cX7_pathLength 41 = .ok (.invokevirtual 230, 3) := by decide +kernel
theorem dX7_pathLength_44 : decode cX7_pathLength 44 = .ok (.ireturn, 1) := by decide +kernel
set_option maxRecDepth 20000 in
theorem ggX7_pathAt_X7_pathLength : GoodIn wsX7_pathAt wsX7_pathLength := goodIn_ca (goodIn_r _ [7, 8, 9, 10, 6, 11, 1, 12, 13, 14, 15, 16, 17, 18, 19, 20, 21, 22, 23, 24, 25, 26, 27, 28, 29, 30, 31, 32, 33, 34, 35, 36, 37, 38, 39, 2, 40, 41, 42, 43, 44, 45, 46, 47, 48, 49, 50, 51, 52, 53, 54, 55, 56, 57, 58, 59, 60, 61, 62, 63, 64, 65, 66, 67, 68, 69, 70, 71, 72, 73, 74, 75, 76, 77, 78, 79, 80, 81, 82, 83, 84, 85, 86, 87] (by decide +kernel) (by decide +kernel)) (goodIn_sub (fun _ h => List.mem_cons_of_mem _ (List.mem_append_right _ h)) (by decide +kernel))
set_option maxRecDepth 20000 in
theorem gX7_pathAt_X7_pathLength : GoodIn wsX7_pathAt (wsV RX7 239 RX7 yX7_pathLength wsX7_pathLength) := goodIn_app (goodIn_of _ (by decide +kernel)) ggX7_pathAt_X7_pathLength
set_option maxRecDepth 20000 in
theorem ggX7_pathAt_X7_isBetween : GoodIn wsX7_pathAt wsX7_isBetween := goodIn_r _ [19] (by decide +kernel) (by decide +kernel)
set_option maxRecDepth 20000 in
theorem gX7_pathAt_X7_isBetween : GoodIn wsX7_pathAt (va_wsS RX7 95 yX7_isBetween wsX7_isBetween) := goodIn_app (goodIn_of _ (by decide +kernel)) ggX7_pathAt_X7_isBetween
set_option maxRecDepth 20000 in
theorem ggX7_pathAt_X7_fails : GoodIn wsX7_pathAt wsX7_fails := goodIn_r _ [50, 1, 51, 52, 53, 54, 55, 56, 57, 58, 59, 60, 61, 62, 63, 64, 65, 66, 67, 68, 69, 70, 71, 72, 73, 74, 75, 76, 77, 78, 79, 80, 81, 82, 83, 84, 85, 86, 87] (by decide +kernel) (by decide +kernel)
set_option maxRecDepth 20000 in
theorem gX7_pathAt_X7_fails : GoodIn wsX7_pathAt (wsV RX7 108 RX7 yX7_fails wsX7_fails) := goodIn_app (goodIn_of _ (by decide +kernel)) ggX7_pathAt_X7_fails
set_option maxRecDepth 20000 in
theorem ggX7_pathAt_X7_source : GoodIn wsX7_pathAt wsX7_source := goodIn_ca (goodIn_r _ [28, 29, 30, 31, 32, 33, 34, 35, 36, 6, 37, 38, 39, 2, 40, 41, 42, 43, 44, 45, 46, 51, 52, 53, 54, 55, 56, 57, 58, 59, 60, 61, 62, 63, 64, 65, 66, 67, 68, 69, 70, 71, 72, 73, 74, 75, 76, 77, 78, 79, 80, 81, 82, 83, 84, 85, 86, 87] (by decide +kernel) (by decide +kernel)) (goodIn_sub (fun _ h => List.mem_cons_of_mem _ (List.mem_append_right _ h)) (by decide +kernel))
set_option maxRecDepth 20000 in
theorem gX7_pathAt_X7_source : GoodIn wsX7_pathAt (wsV RX7 236 RX7 yX7_source wsX7_source) := goodIn_app (goodIn_of _ (by decide +kernel)) ggX7_pathAt_X7_source
set_option maxRecDepth 20000 in
theorem ggX7_pathAt_X7_has : GoodIn wsX7_pathAt wsX7_has := goodIn_r _ [46] (by decide +kernel) (by decide +kernel)
set_option maxRecDepth 20000 in
theorem gX7_pathAt_X7_has : GoodIn wsX7_pathAt (va_wsS RX7 88 yX7_has wsX7_has) := goodIn_app (goodIn_of _ (by decide +kernel)) ggX7_pathAt_X7_has
set_option maxRecDepth 20000 in
theorem ggX7_pathAt_X7_leastFrom : GoodIn wsX7_pathAt wsX7_leastFrom := goodIn_ca (goodIn_r _ [37, 38, 39, 2, 40, 41, 42, 43, 44, 45, 6, 46, 34, 35, 36, 51, 52, 53, 54, 55, 56, 57, 58, 59, 60, 61, 62, 63, 64, 65, 66, 67, 68, 69, 70, 71, 72, 73, 74, 75, 76, 77, 78, 79, 80, 81, 82, 83, 84, 85, 86, 87] (by decide +kernel) (by decide +kernel)) (goodIn_sub (fun _ h => List.mem_cons_of_mem _ (List.mem_append_right _ h)) (by decide +kernel))
set_option maxRecDepth 20000 in
theorem gX7_pathAt_X7_leastFrom : GoodIn wsX7_pathAt (wsV RX7 230 RX7 yX7_leastFrom wsX7_leastFrom) := goodIn_app (goodIn_of _ (by decide +kernel)) ggX7_pathAt_X7_leastFrom
theorem dX7_pathAt_0 : decode cX7_pathAt 0 = .ok (.aload_n 0, 1) := by decide +kernel
theorem dX7_pathAt_1 : decode cX7_pathAt 1 = .ok (.iload_n 1, 1) := by decide +kernel
theorem dX7_pathAt_2 : decode cX7_pathAt 2 = .ok (.iload_n 2, 1) := by decide +kernel
theorem dX7_pathAt_3 : decode cX7_pathAt 3 = .ok (.invokevirtual 239, 3) := by decide +kernel
theorem dX7_pathAt_6 : decode cX7_pathAt 6 = .ok (.istore 4, 2) := by decide +kernel
theorem dX7_pathAt_8 : decode cX7_pathAt 8 = .ok (.aload_n 0, 1) := by decide +kernel
theorem dX7_pathAt_9 : decode cX7_pathAt 9 = .ok (.getfield 85, 3) := by decide +kernel
theorem dX7_pathAt_12 : decode cX7_pathAt 12 = .ok (.ifCond .le 5, 3) := by decide +kernel
theorem dX7_pathAt_15 : decode cX7_pathAt 15 = .ok (.iconst 0, 1) := by decide +kernel
theorem dX7_pathAt_16 : decode cX7_pathAt 16 = .ok (.ireturn, 1) := by decide +kernel
theorem dX7_pathAt_17 : decode cX7_pathAt 17 = .ok (.iload_n 3, 1) := by decide +kernel
theorem dX7_pathAt_18 : decode cX7_pathAt 18 = .ok (.iconst 0, 1) := by decide +kernel
theorem dX7_pathAt_19 : decode cX7_pathAt 19 = .ok (.iload 4, 2) := by decide +kernel
theorem dX7_pathAt_21 : decode cX7_pathAt 21 = .ok (.iconst 1, 1) := by decide +kernel
theorem dX7_pathAt_22 : decode cX7_pathAt 22 = .ok (.isub, 1) := by decide +kernel
theorem dX7_pathAt_23 : decode cX7_pathAt 23 = .ok (.invokestatic 95, 3) := by decide +kernel
theorem dX7_pathAt_26 : decode cX7_pathAt 26 = .ok (.ifCond .ne 9, 3) := by decide +kernel
theorem dX7_pathAt_29 : decode cX7_pathAt 29 = .ok (.aload_n 0, 1) := by decide +kernel
theorem dX7_pathAt_30 : decode cX7_pathAt 30 = .ok (.iconst 3, 1) := by decide +kernel
theorem dX7_pathAt_31 : decode cX7_pathAt 31 = .ok (.invokevirtual 108, 3) := by decide +kernel
theorem dX7_pathAt_34 : decode cX7_pathAt 34 = .ok (.ireturn, 1) := by decide +kernel
theorem dX7_pathAt_35 : decode cX7_pathAt 35 = .ok (.aload_n 0, 1) := by decide +kernel
theorem dX7_pathAt_36 : decode cX7_pathAt 36 = .ok (.iload_n 1, 1) := by decide +kernel
theorem dX7_pathAt_37 : decode cX7_pathAt 37 = .ok (.iload_n 2, 1) := by decide +kernel
theorem dX7_pathAt_38 : decode cX7_pathAt 38 = .ok (.invokevirtual 236, 3) := by decide +kernel
theorem dX7_pathAt_41 : decode cX7_pathAt 41 = .ok (.istore 5, 2) := by decide +kernel
theorem dX7_pathAt_43 : decode cX7_pathAt 43 = .ok (.iconst 0, 1) := by decide +kernel
theorem dX7_pathAt_44 : decode cX7_pathAt 44 = .ok (.istore 6, 2) := by decide +kernel
theorem dX7_pathAt_46 : decode cX7_pathAt 46 = .ok (.iload 6, 2) := by decide +kernel
theorem dX7_pathAt_48 : decode cX7_pathAt 48 = .ok (.iload_n 3, 1) := by decide +kernel
theorem dX7_pathAt_49 : decode cX7_pathAt 49 = .ok (.if_icmp .ge 56, 3) := by decide +kernel
theorem dX7_pathAt_52 : decode cX7_pathAt 52 = .ok (.iconst 0, 1) := by decide +kernel
theorem dX7_pathAt_53 : decode cX7_pathAt 53 = .ok (.istore 7, 2) := by decide +kernel
theorem dX7_pathAt_55 : decode cX7_pathAt 55 = .ok (.aload_n 0, 1) := by decide +kernel
theorem dX7_pathAt_56 : decode cX7_pathAt 56 = .ok (.getfield 25, 3) := by decide +kernel
theorem dX7_pathAt_59 : decode cX7_pathAt 59 = .ok (.iload 5, 2) := by decide +kernel
theorem dX7_pathAt_61 : decode cX7_pathAt 61 = .ok (.iaload, 1) := by decide +kernel
theorem dX7_pathAt_62 : decode cX7_pathAt 62 = .ok (.iload 7, 2) := by decide +kernel
theorem dX7_pathAt_64 : decode cX7_pathAt 64 = .ok (.invokestatic 88, 3) := by decide +kernel
theorem dX7_pathAt_67 : decode cX7_pathAt 67 = .ok (.ifCond .eq 22, 3) := by decide +kernel
theorem dX7_pathAt_70 : decode cX7_pathAt 70 = .ok (.aload_n 0, 1) := by decide +kernel
theorem dX7_pathAt_71 : decode cX7_pathAt 71 = .ok (.iload 7, 2) := by decide +kernel
theorem dX7_pathAt_73 : decode cX7_pathAt 73 = .ok (.iload_n 1, 1) := by decide +kernel
theorem dX7_pathAt_74 : decode cX7_pathAt 74 = .ok (.invokevirtual 230, 3) := by decide +kernel
theorem dX7_pathAt_77 : decode cX7_pathAt 77 = .ok (.iconst 1, 1) := by decide +kernel
theorem dX7_pathAt_78 : decode cX7_pathAt 78 = .ok (.iadd, 1) := by decide +kernel
theorem dX7_pathAt_79 : decode cX7_pathAt 79 = .ok (.aload_n 0, 1) := by decide +kernel
theorem dX7_pathAt_80 : decode cX7_pathAt 80 = .ok (.iload 5, 2) := by decide +kernel
theorem dX7_pathAt_82 : decode cX7_pathAt 82 = .ok (.iload_n 1, 1) := by decide +kernel
theorem dX7_pathAt_83 : decode cX7_pathAt 83 = .ok (.invokevirtual 230, 3) := by decide +kernel
theorem dX7_pathAt_86 : decode cX7_pathAt 86 = .ok (.if_icmp .eq 9, 3) := by decide +kernel
theorem dX7_pathAt_89 : decode cX7_pathAt 89 = .ok (.iinc 7 1, 3) := by decide +kernel
theorem dX7_pathAt_92 : decode cX7_pathAt 92 = .ok (.goto (-37), 3) := by decide +kernel
theorem dX7_pathAt_95 : decode cX7_pathAt 95 = .ok (.iload 7, 2) := by decide +kernel
theorem dX7_pathAt_97 : decode cX7_pathAt 97 = .ok (.istore 5, 2) := by decide +kernel
theorem dX7_pathAt_99 : decode cX7_pathAt 99 = .ok (.iinc 6 1, 3) := by decide +kernel
theorem dX7_pathAt_102 : decode cX7_pathAt 102 = .ok (.goto (-56), 3) := by decide +kernel
theorem dX7_pathAt_105 : decode cX7_pathAt 105 = .ok (.iload 5, 2) := by decide +kernel
theorem dX7_pathAt_107 : decode cX7_pathAt 107 = .ok (.ireturn, 1) := by decide +kernel
set_option maxRecDepth 20000 in
theorem ggX7_riskOf_X7_isGrant : GoodIn wsX7_riskOf wsX7_isGrant := goodIn_r _ [7, 8, 9, 10, 6, 11, 59, 60, 61, 62, 63, 64, 65, 66, 67, 68, 69, 70, 71, 72, 73, 74, 75, 76, 77, 78, 79, 80, 81, 82, 83, 84, 85, 86, 87, 88, 89, 90, 91, 92, 93, 94, 95] (by decide +kernel) (by decide +kernel)
set_option maxRecDepth 20000 in
theorem gX7_riskOf_X7_isGrant : GoodIn wsX7_riskOf (wsV RX7 242 RX7 yX7_isGrant wsX7_isGrant) := goodIn_app (goodIn_of _ (by decide +kernel)) ggX7_riskOf_X7_isGrant
set_option maxRecDepth 20000 in
theorem ggX7_riskOf_X7_fails : GoodIn wsX7_riskOf wsX7_fails := goodIn_r _ [15, 1, 59, 60, 61, 62, 63, 64, 65, 66, 67, 68, 69, 70, 71, 72, 73, 74, 75, 76, 77, 78, 79, 80, 81, 82, 83, 84, 85, 86, 87, 88, 89, 90, 91, 92, 93, 94, 95] (by decide +kernel) (by decide +kernel)
set_option maxRecDepth 20000 in
theorem gX7_riskOf_X7_fails : GoodIn wsX7_riskOf (wsV RX7 108 RX7 yX7_fails wsX7_fails) := goodIn_app (goodIn_of _ (by decide +kernel)) ggX7_riskOf_X7_fails
set_option maxRecDepth 20000 in
theorem ggX7_riskOf_X7_riskOfGrant : GoodIn wsX7_riskOf wsX7_riskOfGrant := goodIn_ca (goodIn_ca (goodIn_r _ [19, 20, 21, 22, 23, 24, 25, 26, 27, 28, 29, 30, 6, 31, 32, 33, 34, 35, 36, 37, 38, 39, 40, 41, 42, 43, 44, 45, 46, 47, 48, 49, 50, 51, 52, 53, 54, 55, 56, 57, 8, 2, 58, 59, 60, 61, 62, 63, 64, 65, 66, 67, 68, 69, 70, 71, 72, 73, 74, 75, 76, 77, 78, 79, 80, 81, 82, 83, 84, 85, 86, 87, 88, 89, 90, 91, 92, 93, 94, 95] (by decide +kernel) (by decide +kernel)) (goodIn_sub (fun _ h => List.mem_cons_of_mem _ (List.mem_append_left _ (List.mem_append_right _ h))) (by decide +kernel))) (goodIn_sub (fun _ h => List.mem_cons_of_mem _ (List.mem_append_right _ h)) (by decide +kernel))
set_option maxRecDepth 20000 in
theorem gX7_riskOf_X7_riskOfGrant : GoodIn wsX7_riskOf (wsV RX7 215 RX7 yX7_riskOfGrant wsX7_riskOfGrant) := goodIn_app (goodIn_of _ (by decide +kernel)) ggX7_riskOf_X7_riskOfGrant
theorem dX7_riskOf_0 : decode cX7_riskOf 0 = .ok (.aload_n 0, 1) := by decide +kernel
theorem dX7_riskOf_1 : decode cX7_riskOf 1 = .ok (.iconst 0, 1) := by decide +kernel
theorem dX7_riskOf_2 : decode cX7_riskOf 2 = .ok (.putfield 85, 3) := by decide +kernel
theorem dX7_riskOf_5 : decode cX7_riskOf 5 = .ok (.aload_n 0, 1) := by decide +kernel
theorem dX7_riskOf_6 : decode cX7_riskOf 6 = .ok (.iload_n 1, 1) := by decide +kernel
theorem dX7_riskOf_7 : decode cX7_riskOf 7 = .ok (.invokevirtual 242, 3) := by decide +kernel
theorem dX7_riskOf_10 : decode cX7_riskOf 10 = .ok (.ifCond .ne 9, 3) := by decide +kernel
theorem dX7_riskOf_13 : decode cX7_riskOf 13 = .ok (.aload_n 0, 1) := by decide +kernel
theorem dX7_riskOf_14 : decode cX7_riskOf 14 = .ok (.iconst 1, 1) := by decide +kernel
theorem dX7_riskOf_15 : decode cX7_riskOf 15 = .ok (.invokevirtual 108, 3) := by decide +kernel
theorem dX7_riskOf_18 : decode cX7_riskOf 18 = .ok (.ireturn, 1) := by decide +kernel
theorem dX7_riskOf_19 : decode cX7_riskOf 19 = .ok (.aload_n 0, 1) := by decide +kernel
theorem dX7_riskOf_20 : decode cX7_riskOf 20 = .ok (.getfield 56, 3) := by decide +kernel
theorem dX7_riskOf_23 : decode cX7_riskOf 23 = .ok (.iload_n 1, 1) := by decide +kernel
theorem dX7_riskOf_24 : decode cX7_riskOf 24 = .ok (.caload, 1) := by decide +kernel
theorem dX7_riskOf_25 : decode cX7_riskOf 25 = .ok (.bipush 120, 2) := by decide +kernel
theorem dX7_riskOf_27 : decode cX7_riskOf 27 = .ok (.if_icmp .ne 11, 3) := by decide +kernel
theorem dX7_riskOf_30 : decode cX7_riskOf 30 = .ok (.aload_n 0, 1) := by decide +kernel
theorem dX7_riskOf_31 : decode cX7_riskOf 31 = .ok (.iconst 2, 1) := by decide +kernel
theorem dX7_riskOf_32 : decode cX7_riskOf 32 = .ok (.invokevirtual 108, 3) := by decide +kernel
theorem dX7_riskOf_35 : decode cX7_riskOf 35 = .ok (.goto 8, 3) := by decide +kernel
theorem dX7_riskOf_38 : decode cX7_riskOf 38 = .ok (.aload_n 0, 1) := by decide +kernel
theorem dX7_riskOf_39 : decode cX7_riskOf 39 = .ok (.iload_n 1, 1) := by decide +kernel
theorem dX7_riskOf_40 : decode cX7_riskOf 40 = .ok (.invokevirtual 215, 3) := by decide +kernel
theorem dX7_riskOf_43 : decode cX7_riskOf 43 = .ok (.ireturn, 1) := by decide +kernel
set_option maxRecDepth 20000 in
theorem ggX7_riskFor_X7_isNone : GoodIn wsX7_riskFor wsX7_isNone := goodIn_r _ [5, 6, 7, 8, 9, 4, 10, 11, 12, 13, 14, 15, 16, 17, 18, 19, 54, 55, 56, 57, 58, 59, 60, 61, 62, 63, 64, 65, 66, 67, 68, 69, 70, 71, 72, 73, 74, 75, 76, 77, 78, 79, 80, 81, 82, 83, 84, 85, 86, 87, 88, 89, 90] (by decide +kernel) (by decide +kernel)
set_option maxRecDepth 20000 in
theorem gX7_riskFor_X7_isNone : GoodIn wsX7_riskFor (wsV RX7 154 RX7 yX7_isNone wsX7_isNone) := goodIn_app (goodIn_of _ (by decide +kernel)) ggX7_riskFor_X7_isNone
set_option maxRecDepth 20000 in
theorem ggX7_riskFor_X7_riskBy : GoodIn wsX7_riskFor wsX7_riskBy := goodIn_ca (goodIn_ca (goodIn_r _ [23, 11, 24, 25, 26, 27, 28, 4, 29, 30, 31, 32, 33, 34, 35, 36, 37, 38, 39, 40, 41, 42, 43, 44, 45, 46, 47, 48, 49, 50, 51, 52, 53, 54, 55, 56, 57, 58, 59, 60, 61, 62, 63, 64, 65, 66, 67, 68, 69, 70, 71, 72, 73, 74, 75, 76, 77, 78, 79, 80, 81, 82, 83, 84, 85, 86, 87, 88, 89, 90] (by decide +kernel) (by decide +kernel)) (goodIn_sub (fun _ h => List.mem_cons_of_mem _ (List.mem_append_left _ (List.mem_append_right _ h))) (by decide +kernel))) (goodIn_sub (fun _ h => List.mem_cons_of_mem _ (List.mem_append_right _ h)) (by decide +kernel))
set_option maxRecDepth 20000 in
theorem gX7_riskFor_X7_riskBy : GoodIn wsX7_riskFor (wsV RX7 160 RX7 yX7_riskBy wsX7_riskBy) := goodIn_app (goodIn_of _ (by decide +kernel)) ggX7_riskFor_X7_riskBy
theorem dX7_riskFor_0 : decode cX7_riskFor 0 = .ok (.aload_n 0, 1) := by decide +kernel
theorem dX7_riskFor_1 : decode cX7_riskFor 1 = .ok (.iload_n 1, 1) := by decide +kernel
theorem dX7_riskFor_2 : decode cX7_riskFor 2 = .ok (.iload_n 2, 1) := by decide +kernel
theorem dX7_riskFor_3 : decode cX7_riskFor 3 = .ok (.invokevirtual 154, 3) := by decide +kernel
theorem dX7_riskFor_6 : decode cX7_riskFor 6 = .ok (.ifCond .eq 7, 3) := by decide +kernel
theorem dX7_riskFor_9 : decode cX7_riskFor 9 = .ok (.iconst 0, 1) := by decide +kernel
theorem dX7_riskFor_10 : decode cX7_riskFor 10 = .ok (.goto 9, 3) := by decide +kernel
theorem dX7_riskFor_13 : decode cX7_riskFor 13 = .ok (.aload_n 0, 1) := by decide +kernel
theorem dX7_riskFor_14 : decode cX7_riskFor 14 = .ok (.iload_n 1, 1) := by decide +kernel
theorem dX7_riskFor_15 : decode cX7_riskFor 15 = .ok (.iload_n 2, 1) := by decide +kernel
theorem dX7_riskFor_16 : decode cX7_riskFor 16 = .ok (.invokevirtual 160, 3) := by decide +kernel
theorem dX7_riskFor_19 : decode cX7_riskFor 19 = .ok (.ireturn, 1) := by decide +kernel
set_option maxRecDepth 20000 in
theorem ggX7_reviewerOf_X7_isGrant : GoodIn wsX7_reviewerOf wsX7_isGrant := goodIn_r _ [6, 7, 8, 9, 5, 10, 35, 36, 37, 38, 39, 40, 41, 42, 43, 44, 45, 46, 47, 48, 49, 50, 51, 52, 53, 54, 55, 56, 57, 58, 59, 60, 61, 62, 63, 64, 65, 66, 67, 68, 69, 70, 71] (by decide +kernel) (by decide +kernel)
set_option maxRecDepth 20000 in
theorem gX7_reviewerOf_X7_isGrant : GoodIn wsX7_reviewerOf (wsV RX7 242 RX7 yX7_isGrant wsX7_isGrant) := goodIn_app (goodIn_of _ (by decide +kernel)) ggX7_reviewerOf_X7_isGrant
set_option maxRecDepth 20000 in
theorem ggX7_reviewerOf_X7_reviewer : GoodIn wsX7_reviewerOf wsX7_reviewer := goodIn_ca (goodIn_r _ [14, 15, 16, 17, 18, 19, 20, 21, 22, 23, 24, 5, 25, 26, 27, 28, 29, 30, 35, 36, 37, 38, 39, 40, 41, 42, 43, 44, 45, 46, 47, 48, 49, 50, 51, 52, 53, 54, 55, 56, 57, 58, 59, 60, 61, 62, 63, 64, 65, 66, 67, 68, 69, 70, 71] (by decide +kernel) (by decide +kernel)) (goodIn_sub (fun _ h => List.mem_cons_of_mem _ (List.mem_append_right _ h)) (by decide +kernel))
set_option maxRecDepth 20000 in
theorem gX7_reviewerOf_X7_reviewer : GoodIn wsX7_reviewerOf (wsV RX7 201 RX7 yX7_reviewer wsX7_reviewer) := goodIn_app (goodIn_of _ (by decide +kernel)) ggX7_reviewerOf_X7_reviewer
set_option maxRecDepth 20000 in
theorem ggX7_reviewerOf_X7_fails : GoodIn wsX7_reviewerOf wsX7_fails := goodIn_r _ [34, 1, 35, 36, 37, 38, 39, 40, 41, 42, 43, 44, 45, 46, 47, 48, 49, 50, 51, 52, 53, 54, 55, 56, 57, 58, 59, 60, 61, 62, 63, 64, 65, 66, 67, 68, 69, 70, 71] (by decide +kernel) (by decide +kernel)
set_option maxRecDepth 20000 in
theorem gX7_reviewerOf_X7_fails : GoodIn wsX7_reviewerOf (wsV RX7 108 RX7 yX7_fails wsX7_fails) := goodIn_app (goodIn_of _ (by decide +kernel)) ggX7_reviewerOf_X7_fails
theorem dX7_reviewerOf_0 : decode cX7_reviewerOf 0 = .ok (.aload_n 0, 1) := by decide +kernel
theorem dX7_reviewerOf_1 : decode cX7_reviewerOf 1 = .ok (.iconst 0, 1) := by decide +kernel
theorem dX7_reviewerOf_2 : decode cX7_reviewerOf 2 = .ok (.putfield 85, 3) := by decide +kernel
theorem dX7_reviewerOf_5 : decode cX7_reviewerOf 5 = .ok (.aload_n 0, 1) := by decide +kernel
theorem dX7_reviewerOf_6 : decode cX7_reviewerOf 6 = .ok (.iload_n 1, 1) := by decide +kernel
theorem dX7_reviewerOf_7 : decode cX7_reviewerOf 7 = .ok (.invokevirtual 242, 3) := by decide +kernel
theorem dX7_reviewerOf_10 : decode cX7_reviewerOf 10 = .ok (.ifCond .eq 11, 3) := by decide +kernel
theorem dX7_reviewerOf_13 : decode cX7_reviewerOf 13 = .ok (.aload_n 0, 1) := by decide +kernel
theorem dX7_reviewerOf_14 : decode cX7_reviewerOf 14 = .ok (.iload_n 1, 1) := by decide +kernel
theorem dX7_reviewerOf_15 : decode cX7_reviewerOf 15 = .ok (.invokevirtual 201, 3) := by decide +kernel
theorem dX7_reviewerOf_18 : decode cX7_reviewerOf 18 = .ok (.goto 8, 3) := by decide +kernel
theorem dX7_reviewerOf_21 : decode cX7_reviewerOf 21 = .ok (.aload_n 0, 1) := by decide +kernel
theorem dX7_reviewerOf_22 : decode cX7_reviewerOf 22 = .ok (.iconst 1, 1) := by decide +kernel
theorem dX7_reviewerOf_23 : decode cX7_reviewerOf 23 = .ok (.invokevirtual 108, 3) := by decide +kernel
theorem dX7_reviewerOf_26 : decode cX7_reviewerOf 26 = .ok (.ireturn, 1) := by decide +kernel
theorem dX7_grants_0 : decode cX7_grants 0 = .ok (.aload_n 0, 1) := by decide +kernel
theorem dX7_grants_1 : decode cX7_grants 1 = .ok (.iconst 0, 1) := by decide +kernel
theorem dX7_grants_2 : decode cX7_grants 2 = .ok (.putfield 85, 3) := by decide +kernel
theorem dX7_grants_5 : decode cX7_grants 5 = .ok (.aload_n 0, 1) := by decide +kernel
theorem dX7_grants_6 : decode cX7_grants 6 = .ok (.getfield 105, 3) := by decide +kernel
theorem dX7_grants_9 : decode cX7_grants 9 = .ok (.ireturn, 1) := by decide +kernel
set_option maxRecDepth 20000 in
theorem ggX7_stateOf_X7_isGrant : GoodIn wsX7_stateOf wsX7_isGrant := goodIn_r _ [7, 8, 9, 10, 6, 11, 16, 17, 18, 19, 20, 21, 22, 23, 24, 25, 26, 27, 28, 29, 30, 31, 32, 33, 34, 35, 36, 37, 38, 39, 40, 41, 42, 43, 44, 45, 46, 47, 48, 49, 50, 51, 52] (by decide +kernel) (by decide +kernel)
set_option maxRecDepth 20000 in
theorem gX7_stateOf_X7_isGrant : GoodIn wsX7_stateOf (wsV RX7 242 RX7 yX7_isGrant wsX7_isGrant) := goodIn_app (goodIn_of _ (by decide +kernel)) ggX7_stateOf_X7_isGrant
set_option maxRecDepth 20000 in
theorem ggX7_stateOf_X7_fails : GoodIn wsX7_stateOf wsX7_fails := goodIn_r _ [15, 1, 16, 17, 18, 19, 20, 21, 22, 23, 24, 25, 26, 27, 28, 29, 30, 31, 32, 33, 34, 35, 36, 37, 38, 39, 40, 41, 42, 43, 44, 45, 46, 47, 48, 49, 50, 51, 52] (by decide +kernel) (by decide +kernel)
set_option maxRecDepth 20000 in
theorem gX7_stateOf_X7_fails : GoodIn wsX7_stateOf (wsV RX7 108 RX7 yX7_fails wsX7_fails) := goodIn_app (goodIn_of _ (by decide +kernel)) ggX7_stateOf_X7_fails
theorem dX7_stateOf_0 : decode cX7_stateOf 0 = .ok (.aload_n 0, 1) := by decide +kernel
theorem dX7_stateOf_1 : decode cX7_stateOf 1 = .ok (.iconst 0, 1) := by decide +kernel
theorem dX7_stateOf_2 : decode cX7_stateOf 2 = .ok (.putfield 85, 3) := by decide +kernel
theorem dX7_stateOf_5 : decode cX7_stateOf 5 = .ok (.aload_n 0, 1) := by decide +kernel
theorem dX7_stateOf_6 : decode cX7_stateOf 6 = .ok (.iload_n 1, 1) := by decide +kernel
theorem dX7_stateOf_7 : decode cX7_stateOf 7 = .ok (.invokevirtual 242, 3) := by decide +kernel
theorem dX7_stateOf_10 : decode cX7_stateOf 10 = .ok (.ifCond .eq 12, 3) := by decide +kernel
theorem dX7_stateOf_13 : decode cX7_stateOf 13 = .ok (.aload_n 0, 1) := by decide +kernel
theorem dX7_stateOf_14 : decode cX7_stateOf 14 = .ok (.getfield 56, 3) := by decide +kernel
theorem dX7_stateOf_17 : decode cX7_stateOf 17 = .ok (.iload_n 1, 1) := by decide +kernel
theorem dX7_stateOf_18 : decode cX7_stateOf 18 = .ok (.caload, 1) := by decide +kernel
theorem dX7_stateOf_19 : decode cX7_stateOf 19 = .ok (.goto 9, 3) := by decide +kernel
theorem dX7_stateOf_22 : decode cX7_stateOf 22 = .ok (.aload_n 0, 1) := by decide +kernel
theorem dX7_stateOf_23 : decode cX7_stateOf 23 = .ok (.iconst 1, 1) := by decide +kernel
theorem dX7_stateOf_24 : decode cX7_stateOf 24 = .ok (.invokevirtual 108, 3) := by decide +kernel
theorem dX7_stateOf_27 : decode cX7_stateOf 27 = .ok (.i2c, 1) := by decide +kernel
theorem dX7_stateOf_28 : decode cX7_stateOf 28 = .ok (.ireturn, 1) := by decide +kernel
set_option maxRecDepth 20000 in
theorem ggX7_dueDay_X7_isGrant : GoodIn wsX7_dueDay wsX7_isGrant := goodIn_r _ [8, 9, 10, 11, 7, 12, 17, 18, 19, 20, 21, 22, 23, 24, 25, 26, 27, 28, 29, 30, 31, 32, 33, 34, 35, 36, 37, 38, 39, 40, 41, 42, 43, 44, 45, 46, 47, 48, 49, 50, 51, 52, 53] (by decide +kernel) (by decide +kernel)
set_option maxRecDepth 20000 in
theorem gX7_dueDay_X7_isGrant : GoodIn wsX7_dueDay (wsV RX7 242 RX7 yX7_isGrant wsX7_isGrant) := goodIn_app (goodIn_of _ (by decide +kernel)) ggX7_dueDay_X7_isGrant
set_option maxRecDepth 20000 in
theorem ggX7_dueDay_X7_fails : GoodIn wsX7_dueDay wsX7_fails := goodIn_r _ [16, 1, 17, 18, 19, 20, 21, 22, 23, 24, 25, 26, 27, 28, 29, 30, 31, 32, 33, 34, 35, 36, 37, 38, 39, 40, 41, 42, 43, 44, 45, 46, 47, 48, 49, 50, 51, 52, 53] (by decide +kernel) (by decide +kernel)
set_option maxRecDepth 20000 in
theorem gX7_dueDay_X7_fails : GoodIn wsX7_dueDay (wsV RX7 108 RX7 yX7_fails wsX7_fails) := goodIn_app (goodIn_of _ (by decide +kernel)) ggX7_dueDay_X7_fails
theorem dX7_dueDay_0 : decode cX7_dueDay 0 = .ok (.aload_n 0, 1) := by decide +kernel
theorem dX7_dueDay_1 : decode cX7_dueDay 1 = .ok (.iconst 0, 1) := by decide +kernel
theorem dX7_dueDay_2 : decode cX7_dueDay 2 = .ok (.putfield 85, 3) := by decide +kernel
theorem dX7_dueDay_5 : decode cX7_dueDay 5 = .ok (.aload_n 0, 1) := by decide +kernel
theorem dX7_dueDay_6 : decode cX7_dueDay 6 = .ok (.iload_n 1, 1) := by decide +kernel
theorem dX7_dueDay_7 : decode cX7_dueDay 7 = .ok (.invokevirtual 242, 3) := by decide +kernel
theorem dX7_dueDay_10 : decode cX7_dueDay 10 = .ok (.ifCond .ne 9, 3) := by decide +kernel
theorem dX7_dueDay_13 : decode cX7_dueDay 13 = .ok (.aload_n 0, 1) := by decide +kernel
theorem dX7_dueDay_14 : decode cX7_dueDay 14 = .ok (.iconst 1, 1) := by decide +kernel
theorem dX7_dueDay_15 : decode cX7_dueDay 15 = .ok (.invokevirtual 108, 3) := by decide +kernel
theorem dX7_dueDay_18 : decode cX7_dueDay 18 = .ok (.ireturn, 1) := by decide +kernel
theorem dX7_dueDay_19 : decode cX7_dueDay 19 = .ok (.aload_n 0, 1) := by decide +kernel
theorem dX7_dueDay_20 : decode cX7_dueDay 20 = .ok (.getfield 56, 3) := by decide +kernel
theorem dX7_dueDay_23 : decode cX7_dueDay 23 = .ok (.iload_n 1, 1) := by decide +kernel
theorem dX7_dueDay_24 : decode cX7_dueDay 24 = .ok (.caload, 1) := by decide +kernel
theorem dX7_dueDay_25 : decode cX7_dueDay 25 = .ok (.bipush 119, 2) := by decide +kernel
theorem dX7_dueDay_27 : decode cX7_dueDay 27 = .ok (.if_icmp .ne 12, 3) := by decide +kernel
theorem dX7_dueDay_30 : decode cX7_dueDay 30 = .ok (.aload_n 0, 1) := by decide +kernel
theorem dX7_dueDay_31 : decode cX7_dueDay 31 = .ok (.getfield 46, 3) := by decide +kernel
theorem dX7_dueDay_34 : decode cX7_dueDay 34 = .ok (.iload_n 1, 1) := by decide +kernel
theorem dX7_dueDay_35 : decode cX7_dueDay 35 = .ok (.iaload, 1) := by decide +kernel
theorem dX7_dueDay_36 : decode cX7_dueDay 36 = .ok (.goto 8, 3) := by decide +kernel
theorem dX7_dueDay_39 : decode cX7_dueDay 39 = .ok (.aload_n 0, 1) := by decide +kernel
theorem dX7_dueDay_40 : decode cX7_dueDay 40 = .ok (.iconst 2, 1) := by decide +kernel
theorem dX7_dueDay_41 : decode cX7_dueDay 41 = .ok (.invokevirtual 108, 3) := by decide +kernel
theorem dX7_dueDay_44 : decode cX7_dueDay 44 = .ok (.ireturn, 1) := by decide +kernel
set_option maxRecDepth 20000 in
theorem ggX7_lastUse_X7_isGrant : GoodIn wsX7_lastUse wsX7_isGrant := goodIn_r _ [7, 8, 9, 10, 6, 11, 16, 17, 18, 19, 20, 21, 22, 23, 24, 25, 26, 27, 28, 29, 30, 31, 32, 33, 34, 35, 36, 37, 38, 39, 40, 41, 42, 43, 44, 45, 46, 47, 48, 49, 50, 51, 52] (by decide +kernel) (by decide +kernel)
set_option maxRecDepth 20000 in
theorem gX7_lastUse_X7_isGrant : GoodIn wsX7_lastUse (wsV RX7 242 RX7 yX7_isGrant wsX7_isGrant) := goodIn_app (goodIn_of _ (by decide +kernel)) ggX7_lastUse_X7_isGrant
set_option maxRecDepth 20000 in
theorem ggX7_lastUse_X7_fails : GoodIn wsX7_lastUse wsX7_fails := goodIn_r _ [15, 1, 16, 17, 18, 19, 20, 21, 22, 23, 24, 25, 26, 27, 28, 29, 30, 31, 32, 33, 34, 35, 36, 37, 38, 39, 40, 41, 42, 43, 44, 45, 46, 47, 48, 49, 50, 51, 52] (by decide +kernel) (by decide +kernel)
set_option maxRecDepth 20000 in
theorem gX7_lastUse_X7_fails : GoodIn wsX7_lastUse (wsV RX7 108 RX7 yX7_fails wsX7_fails) := goodIn_app (goodIn_of _ (by decide +kernel)) ggX7_lastUse_X7_fails
theorem dX7_lastUse_0 : decode cX7_lastUse 0 = .ok (.aload_n 0, 1) := by decide +kernel
theorem dX7_lastUse_1 : decode cX7_lastUse 1 = .ok (.iconst 0, 1) := by decide +kernel
theorem dX7_lastUse_2 : decode cX7_lastUse 2 = .ok (.putfield 85, 3) := by decide +kernel
theorem dX7_lastUse_5 : decode cX7_lastUse 5 = .ok (.aload_n 0, 1) := by decide +kernel
theorem dX7_lastUse_6 : decode cX7_lastUse 6 = .ok (.iload_n 1, 1) := by decide +kernel
theorem dX7_lastUse_7 : decode cX7_lastUse 7 = .ok (.invokevirtual 242, 3) := by decide +kernel
theorem dX7_lastUse_10 : decode cX7_lastUse 10 = .ok (.ifCond .eq 12, 3) := by decide +kernel
theorem dX7_lastUse_13 : decode cX7_lastUse 13 = .ok (.aload_n 0, 1) := by decide +kernel
theorem dX7_lastUse_14 : decode cX7_lastUse 14 = .ok (.getfield 43, 3) := by decide +kernel
theorem dX7_lastUse_17 : decode cX7_lastUse 17 = .ok (.iload_n 1, 1) := by decide +kernel
theorem dX7_lastUse_18 : decode cX7_lastUse 18 = .ok (.iaload, 1) := by decide +kernel
theorem dX7_lastUse_19 : decode cX7_lastUse 19 = .ok (.goto 8, 3) := by decide +kernel
theorem dX7_lastUse_22 : decode cX7_lastUse 22 = .ok (.aload_n 0, 1) := by decide +kernel
theorem dX7_lastUse_23 : decode cX7_lastUse 23 = .ok (.iconst 1, 1) := by decide +kernel
theorem dX7_lastUse_24 : decode cX7_lastUse 24 = .ok (.invokevirtual 108, 3) := by decide +kernel
theorem dX7_lastUse_27 : decode cX7_lastUse 27 = .ok (.ireturn, 1) := by decide +kernel
set_option maxRecDepth 20000 in
theorem ggX7_isBlocked_X7_isGrant : GoodIn wsX7_isBlocked wsX7_isGrant := goodIn_r _ [6, 7, 8, 9, 5, 10, 47, 48, 49, 50, 51, 52, 53, 54, 55, 56, 57, 58, 59, 60, 61, 62, 63, 64, 65, 66, 67, 68, 69, 70, 71, 72, 73, 74, 75, 76, 77, 78, 79, 80, 81, 82, 83] (by decide +kernel) (by decide +kernel)
set_option maxRecDepth 20000 in
theorem gX7_isBlocked_X7_isGrant : GoodIn wsX7_isBlocked (wsV RX7 242 RX7 yX7_isGrant wsX7_isGrant) := goodIn_app (goodIn_of _ (by decide +kernel)) ggX7_isBlocked_X7_isGrant
set_option maxRecDepth 20000 in
theorem ggX7_isBlocked_X7_isBlockedNow : GoodIn wsX7_isBlocked wsX7_isBlockedNow := goodIn_ca (goodIn_r _ [14, 15, 16, 17, 18, 19, 20, 21, 22, 5, 23, 7, 24, 25, 26, 27, 28, 29, 30, 31, 32, 33, 34, 35, 36, 37, 38, 39, 40, 41, 42, 47, 48, 49, 50, 51, 52, 53, 54, 55, 56, 57, 58, 59, 60, 61, 62, 63, 64, 65, 66, 67, 68, 69, 70, 71, 72, 73, 74, 75, 76, 77, 78, 79, 80, 81, 82, 83] (by decide +kernel) (by decide +kernel)) (goodIn_sub (fun _ h => List.mem_cons_of_mem _ (List.mem_append_right _ h)) (by decide +kernel))
set_option maxRecDepth 20000 in
theorem gX7_isBlocked_X7_isBlockedNow : GoodIn wsX7_isBlocked (wsV RX7 194 RX7 yX7_isBlockedNow wsX7_isBlockedNow) := goodIn_app (goodIn_of _ (by decide +kernel)) ggX7_isBlocked_X7_isBlockedNow
set_option maxRecDepth 20000 in
theorem ggX7_isBlocked_X7_isWrong : GoodIn wsX7_isBlocked wsX7_isWrong := goodIn_r _ [46, 1, 47, 48, 49, 50, 51, 52, 53, 54, 55, 56, 57, 58, 59, 60, 61, 62, 63, 64, 65, 66, 67, 68, 69, 70, 71, 72, 73, 74, 75, 76, 77, 78, 79, 80, 81, 82, 83] (by decide +kernel) (by decide +kernel)
set_option maxRecDepth 20000 in
theorem gX7_isBlocked_X7_isWrong : GoodIn wsX7_isBlocked (wsV RX7 116 RX7 yX7_isWrong wsX7_isWrong) := goodIn_app (goodIn_of _ (by decide +kernel)) ggX7_isBlocked_X7_isWrong
theorem dX7_isBlocked_0 : decode cX7_isBlocked 0 = .ok (.aload_n 0, 1) := by decide +kernel
theorem dX7_isBlocked_1 : decode cX7_isBlocked 1 = .ok (.iconst 0, 1) := by decide +kernel
theorem dX7_isBlocked_2 : decode cX7_isBlocked 2 = .ok (.putfield 85, 3) := by decide +kernel
theorem dX7_isBlocked_5 : decode cX7_isBlocked 5 = .ok (.aload_n 0, 1) := by decide +kernel
theorem dX7_isBlocked_6 : decode cX7_isBlocked 6 = .ok (.iload_n 1, 1) := by decide +kernel
theorem dX7_isBlocked_7 : decode cX7_isBlocked 7 = .ok (.invokevirtual 242, 3) := by decide +kernel
theorem dX7_isBlocked_10 : decode cX7_isBlocked 10 = .ok (.ifCond .eq 11, 3) := by decide +kernel
theorem dX7_isBlocked_13 : decode cX7_isBlocked 13 = .ok (.aload_n 0, 1) := by decide +kernel
theorem dX7_isBlocked_14 : decode cX7_isBlocked 14 = .ok (.iload_n 1, 1) := by decide +kernel
theorem dX7_isBlocked_15 : decode cX7_isBlocked 15 = .ok (.invokevirtual 194, 3) := by decide +kernel
theorem dX7_isBlocked_18 : decode cX7_isBlocked 18 = .ok (.goto 8, 3) := by decide +kernel
theorem dX7_isBlocked_21 : decode cX7_isBlocked 21 = .ok (.aload_n 0, 1) := by decide +kernel
theorem dX7_isBlocked_22 : decode cX7_isBlocked 22 = .ok (.iconst 1, 1) := by decide +kernel
theorem dX7_isBlocked_23 : decode cX7_isBlocked 23 = .ok (.invokevirtual 116, 3) := by decide +kernel
theorem dX7_isBlocked_26 : decode cX7_isBlocked 26 = .ok (.ireturn, 1) := by decide +kernel
theorem dX7_items_0 : decode cX7_items 0 = .ok (.aload_n 0, 1) := by decide +kernel
theorem dX7_items_1 : decode cX7_items 1 = .ok (.iconst 0, 1) := by decide +kernel
theorem dX7_items_2 : decode cX7_items 2 = .ok (.putfield 85, 3) := by decide +kernel
theorem dX7_items_5 : decode cX7_items 5 = .ok (.aload_n 0, 1) := by decide +kernel
theorem dX7_items_6 : decode cX7_items 6 = .ok (.getfield 179, 3) := by decide +kernel
theorem dX7_items_9 : decode cX7_items 9 = .ok (.ireturn, 1) := by decide +kernel
theorem dX7_isOpen_0 : decode cX7_isOpen 0 = .ok (.aload_n 0, 1) := by decide +kernel
theorem dX7_isOpen_1 : decode cX7_isOpen 1 = .ok (.iconst 0, 1) := by decide +kernel
theorem dX7_isOpen_2 : decode cX7_isOpen 2 = .ok (.putfield 85, 3) := by decide +kernel
theorem dX7_isOpen_5 : decode cX7_isOpen 5 = .ok (.aload_n 0, 1) := by decide +kernel
theorem dX7_isOpen_6 : decode cX7_isOpen 6 = .ok (.getfield 175, 3) := by decide +kernel
theorem dX7_isOpen_9 : decode cX7_isOpen 9 = .ok (.ireturn, 1) := by decide +kernel
set_option maxRecDepth 20000 in
theorem ggX7_undecided_X7_undecidedMany : GoodIn wsX7_undecided wsX7_undecidedMany := goodIn_ca (goodIn_r _ [6, 7, 8, 9, 10, 11, 12, 13, 14, 15, 16, 17, 18, 19, 20, 21, 22, 23, 24, 25, 26, 27, 28, 29, 30, 31, 32, 33, 34, 35, 36, 37, 38, 39, 40, 41, 42, 43, 44, 45] (by decide +kernel) (by decide +kernel)) (goodIn_sub (fun _ h => List.mem_cons_of_mem _ (List.mem_append_right _ h)) (by decide +kernel))
set_option maxRecDepth 20000 in
theorem gX7_undecided_X7_undecidedMany : GoodIn wsX7_undecided (wsV RX7 211 RX7 yX7_undecidedMany wsX7_undecidedMany) := goodIn_app (goodIn_of _ (by decide +kernel)) ggX7_undecided_X7_undecidedMany
theorem dX7_undecided_0 : decode cX7_undecided 0 = .ok (.aload_n 0, 1) := by decide +kernel
theorem dX7_undecided_1 : decode cX7_undecided 1 = .ok (.iconst 0, 1) := by decide +kernel
theorem dX7_undecided_2 : decode cX7_undecided 2 = .ok (.putfield 85, 3) := by decide +kernel
theorem dX7_undecided_5 : decode cX7_undecided 5 = .ok (.aload_n 0, 1) := by decide +kernel
theorem dX7_undecided_6 : decode cX7_undecided 6 = .ok (.invokevirtual 211, 3) := by decide +kernel
theorem dX7_undecided_9 : decode cX7_undecided 9 = .ok (.ireturn, 1) := by decide +kernel
set_option maxRecDepth 20000 in
theorem ggX7_isItem_X7_isBetween : GoodIn wsX7_isItem wsX7_isBetween := goodIn_r _ [5] (by decide +kernel) (by decide +kernel)
set_option maxRecDepth 20000 in
theorem gX7_isItem_X7_isBetween : GoodIn wsX7_isItem (va_wsS RX7 95 yX7_isBetween wsX7_isBetween) := goodIn_app (goodIn_of _ (by decide +kernel)) ggX7_isItem_X7_isBetween
theorem dX7_isItem_0 : decode cX7_isItem 0 = .ok (.iload_n 1, 1) := by decide +kernel
theorem dX7_isItem_1 : decode cX7_isItem 1 = .ok (.iconst 0, 1) := by decide +kernel
theorem dX7_isItem_2 : decode cX7_isItem 2 = .ok (.aload_n 0, 1) := by decide +kernel
theorem dX7_isItem_3 : decode cX7_isItem 3 = .ok (.getfield 179, 3) := by decide +kernel
theorem dX7_isItem_6 : decode cX7_isItem 6 = .ok (.iconst 1, 1) := by decide +kernel
theorem dX7_isItem_7 : decode cX7_isItem 7 = .ok (.isub, 1) := by decide +kernel
theorem dX7_isItem_8 : decode cX7_isItem 8 = .ok (.invokestatic 95, 3) := by decide +kernel
theorem dX7_isItem_11 : decode cX7_isItem 11 = .ok (.ireturn, 1) := by decide +kernel
set_option maxRecDepth 20000 in
theorem ggX7_grantOf_X7_isItem : GoodIn wsX7_grantOf wsX7_isItem := goodIn_r _ [7, 8, 9, 10, 6, 11, 16, 17, 18, 19, 20, 21, 22, 23, 24, 25, 26, 27, 28, 29, 30, 31, 32, 33, 34, 35, 36, 37, 38, 39, 40, 41, 42, 43, 44, 45, 46, 47, 48, 49, 50, 51, 52] (by decide +kernel) (by decide +kernel)
set_option maxRecDepth 20000 in
theorem gX7_grantOf_X7_isItem : GoodIn wsX7_grantOf (wsV RX7 245 RX7 yX7_isItem wsX7_isItem) := goodIn_app (goodIn_of _ (by decide +kernel)) ggX7_grantOf_X7_isItem
set_option maxRecDepth 20000 in
theorem ggX7_grantOf_X7_fails : GoodIn wsX7_grantOf wsX7_fails := goodIn_r _ [15, 1, 16, 17, 18, 19, 20, 21, 22, 23, 24, 25, 26, 27, 28, 29, 30, 31, 32, 33, 34, 35, 36, 37, 38, 39, 40, 41, 42, 43, 44, 45, 46, 47, 48, 49, 50, 51, 52] (by decide +kernel) (by decide +kernel)
set_option maxRecDepth 20000 in
theorem gX7_grantOf_X7_fails : GoodIn wsX7_grantOf (wsV RX7 108 RX7 yX7_fails wsX7_fails) := goodIn_app (goodIn_of _ (by decide +kernel)) ggX7_grantOf_X7_fails
theorem dX7_grantOf_0 : decode cX7_grantOf 0 = .ok (.aload_n 0, 1) := by decide +kernel
theorem dX7_grantOf_1 : decode cX7_grantOf 1 = .ok (.iconst 0, 1) := by decide +kernel
theorem dX7_grantOf_2 : decode cX7_grantOf 2 = .ok (.putfield 85, 3) := by decide +kernel
theorem dX7_grantOf_5 : decode cX7_grantOf 5 = .ok (.aload_n 0, 1) := by decide +kernel
theorem dX7_grantOf_6 : decode cX7_grantOf 6 = .ok (.iload_n 1, 1) := by decide +kernel
theorem dX7_grantOf_7 : decode cX7_grantOf 7 = .ok (.invokevirtual 245, 3) := by decide +kernel
theorem dX7_grantOf_10 : decode cX7_grantOf 10 = .ok (.ifCond .eq 12, 3) := by decide +kernel
theorem dX7_grantOf_13 : decode cX7_grantOf 13 = .ok (.aload_n 0, 1) := by decide +kernel
theorem dX7_grantOf_14 : decode cX7_grantOf 14 = .ok (.getfield 73, 3) := by decide +kernel
theorem dX7_grantOf_17 : decode cX7_grantOf 17 = .ok (.iload_n 1, 1) := by decide +kernel
theorem dX7_grantOf_18 : decode cX7_grantOf 18 = .ok (.iaload, 1) := by decide +kernel
theorem dX7_grantOf_19 : decode cX7_grantOf 19 = .ok (.goto 8, 3) := by decide +kernel
theorem dX7_grantOf_22 : decode cX7_grantOf 22 = .ok (.aload_n 0, 1) := by decide +kernel
theorem dX7_grantOf_23 : decode cX7_grantOf 23 = .ok (.iconst 1, 1) := by decide +kernel
theorem dX7_grantOf_24 : decode cX7_grantOf 24 = .ok (.invokevirtual 108, 3) := by decide +kernel
theorem dX7_grantOf_27 : decode cX7_grantOf 27 = .ok (.ireturn, 1) := by decide +kernel
set_option maxRecDepth 20000 in
theorem ggX7_verdict_X7_isItem : GoodIn wsX7_verdict wsX7_isItem := goodIn_r _ [7, 8, 9, 10, 6, 11, 16, 17, 18, 19, 20, 21, 22, 23, 24, 25, 26, 27, 28, 29, 30, 31, 32, 33, 34, 35, 36, 37, 38, 39, 40, 41, 42, 43, 44, 45, 46, 47, 48, 49, 50, 51, 52] (by decide +kernel) (by decide +kernel)
set_option maxRecDepth 20000 in
theorem gX7_verdict_X7_isItem : GoodIn wsX7_verdict (wsV RX7 245 RX7 yX7_isItem wsX7_isItem) := goodIn_app (goodIn_of _ (by decide +kernel)) ggX7_verdict_X7_isItem
set_option maxRecDepth 20000 in
theorem ggX7_verdict_X7_fails : GoodIn wsX7_verdict wsX7_fails := goodIn_r _ [15, 1, 16, 17, 18, 19, 20, 21, 22, 23, 24, 25, 26, 27, 28, 29, 30, 31, 32, 33, 34, 35, 36, 37, 38, 39, 40, 41, 42, 43, 44, 45, 46, 47, 48, 49, 50, 51, 52] (by decide +kernel) (by decide +kernel)
set_option maxRecDepth 20000 in
theorem gX7_verdict_X7_fails : GoodIn wsX7_verdict (wsV RX7 108 RX7 yX7_fails wsX7_fails) := goodIn_app (goodIn_of _ (by decide +kernel)) ggX7_verdict_X7_fails
theorem dX7_verdict_0 : decode cX7_verdict 0 = .ok (.aload_n 0, 1) := by decide +kernel
theorem dX7_verdict_1 : decode cX7_verdict 1 = .ok (.iconst 0, 1) := by decide +kernel
theorem dX7_verdict_2 : decode cX7_verdict 2 = .ok (.putfield 85, 3) := by decide +kernel
theorem dX7_verdict_5 : decode cX7_verdict 5 = .ok (.aload_n 0, 1) := by decide +kernel
theorem dX7_verdict_6 : decode cX7_verdict 6 = .ok (.iload_n 1, 1) := by decide +kernel
theorem dX7_verdict_7 : decode cX7_verdict 7 = .ok (.invokevirtual 245, 3) := by decide +kernel
theorem dX7_verdict_10 : decode cX7_verdict 10 = .ok (.ifCond .eq 12, 3) := by decide +kernel
theorem dX7_verdict_13 : decode cX7_verdict 13 = .ok (.aload_n 0, 1) := by decide +kernel
theorem dX7_verdict_14 : decode cX7_verdict 14 = .ok (.getfield 79, 3) := by decide +kernel
theorem dX7_verdict_17 : decode cX7_verdict 17 = .ok (.iload_n 1, 1) := by decide +kernel
theorem dX7_verdict_18 : decode cX7_verdict 18 = .ok (.caload, 1) := by decide +kernel
theorem dX7_verdict_19 : decode cX7_verdict 19 = .ok (.goto 9, 3) := by decide +kernel
theorem dX7_verdict_22 : decode cX7_verdict 22 = .ok (.aload_n 0, 1) := by decide +kernel
theorem dX7_verdict_23 : decode cX7_verdict 23 = .ok (.iconst 1, 1) := by decide +kernel
theorem dX7_verdict_24 : decode cX7_verdict 24 = .ok (.invokevirtual 108, 3) := by decide +kernel
theorem dX7_verdict_27 : decode cX7_verdict 27 = .ok (.i2c, 1) := by decide +kernel
theorem dX7_verdict_28 : decode cX7_verdict 28 = .ok (.ireturn, 1) := by decide +kernel
set_option maxRecDepth 20000 in
theorem ggX7_decider_X7_isItem : GoodIn wsX7_decider wsX7_isItem := goodIn_r _ [8, 9, 10, 11, 7, 12, 17, 18, 19, 20, 21, 22, 23, 24, 25, 26, 27, 28, 29, 30, 31, 32, 33, 34, 35, 36, 37, 38, 39, 40, 41, 42, 43, 44, 45, 46, 47, 48, 49, 50, 51, 52, 53] (by decide +kernel) (by decide +kernel)
set_option maxRecDepth 20000 in
theorem gX7_decider_X7_isItem : GoodIn wsX7_decider (wsV RX7 245 RX7 yX7_isItem wsX7_isItem) := goodIn_app (goodIn_of _ (by decide +kernel)) ggX7_decider_X7_isItem
set_option maxRecDepth 20000 in
theorem ggX7_decider_X7_fails : GoodIn wsX7_decider wsX7_fails := goodIn_r _ [16, 1, 17, 18, 19, 20, 21, 22, 23, 24, 25, 26, 27, 28, 29, 30, 31, 32, 33, 34, 35, 36, 37, 38, 39, 40, 41, 42, 43, 44, 45, 46, 47, 48, 49, 50, 51, 52, 53] (by decide +kernel) (by decide +kernel)
set_option maxRecDepth 20000 in
theorem gX7_decider_X7_fails : GoodIn wsX7_decider (wsV RX7 108 RX7 yX7_fails wsX7_fails) := goodIn_app (goodIn_of _ (by decide +kernel)) ggX7_decider_X7_fails
theorem dX7_decider_0 : decode cX7_decider 0 = .ok (.aload_n 0, 1) := by decide +kernel
theorem dX7_decider_1 : decode cX7_decider 1 = .ok (.iconst 0, 1) := by decide +kernel
theorem dX7_decider_2 : decode cX7_decider 2 = .ok (.putfield 85, 3) := by decide +kernel
theorem dX7_decider_5 : decode cX7_decider 5 = .ok (.aload_n 0, 1) := by decide +kernel
theorem dX7_decider_6 : decode cX7_decider 6 = .ok (.iload_n 1, 1) := by decide +kernel
theorem dX7_decider_7 : decode cX7_decider 7 = .ok (.invokevirtual 245, 3) := by decide +kernel
theorem dX7_decider_10 : decode cX7_decider 10 = .ok (.ifCond .ne 9, 3) := by decide +kernel
theorem dX7_decider_13 : decode cX7_decider 13 = .ok (.aload_n 0, 1) := by decide +kernel
theorem dX7_decider_14 : decode cX7_decider 14 = .ok (.iconst 1, 1) := by decide +kernel
theorem dX7_decider_15 : decode cX7_decider 15 = .ok (.invokevirtual 108, 3) := by decide +kernel
theorem dX7_decider_18 : decode cX7_decider 18 = .ok (.ireturn, 1) := by decide +kernel
theorem dX7_decider_19 : decode cX7_decider 19 = .ok (.aload_n 0, 1) := by decide +kernel
theorem dX7_decider_20 : decode cX7_decider 20 = .ok (.getfield 79, 3) := by decide +kernel
theorem dX7_decider_23 : decode cX7_decider 23 = .ok (.iload_n 1, 1) := by decide +kernel
theorem dX7_decider_24 : decode cX7_decider 24 = .ok (.caload, 1) := by decide +kernel
theorem dX7_decider_25 : decode cX7_decider 25 = .ok (.bipush 117, 2) := by decide +kernel
theorem dX7_decider_27 : decode cX7_decider 27 = .ok (.if_icmp .ne 11, 3) := by decide +kernel
theorem dX7_decider_30 : decode cX7_decider 30 = .ok (.aload_n 0, 1) := by decide +kernel
theorem dX7_decider_31 : decode cX7_decider 31 = .ok (.iconst 2, 1) := by decide +kernel
theorem dX7_decider_32 : decode cX7_decider 32 = .ok (.invokevirtual 108, 3) := by decide +kernel
theorem dX7_decider_35 : decode cX7_decider 35 = .ok (.goto 9, 3) := by decide +kernel
theorem dX7_decider_38 : decode cX7_decider 38 = .ok (.aload_n 0, 1) := by decide +kernel
theorem dX7_decider_39 : decode cX7_decider 39 = .ok (.getfield 76, 3) := by decide +kernel
theorem dX7_decider_42 : decode cX7_decider 42 = .ok (.iload_n 1, 1) := by decide +kernel
theorem dX7_decider_43 : decode cX7_decider 43 = .ok (.iaload, 1) := by decide +kernel
theorem dX7_decider_44 : decode cX7_decider 44 = .ok (.ireturn, 1) := by decide +kernel
set_option maxRecDepth 20000 in
theorem ggX7_nextItem_X7_isPerson : GoodIn wsX7_nextItem wsX7_isPerson := goodIn_r _ [9, 10, 11, 12, 8, 13, 75, 76, 77, 78, 79, 80, 81, 82, 83, 84, 85, 86, 87, 88, 89, 90, 91, 92, 93, 94, 95, 96, 97, 98, 99, 100, 101, 102, 103, 104, 105, 106, 107, 108, 109, 110, 111] (by decide +kernel) (by decide +kernel)
set_option maxRecDepth 20000 in
theorem gX7_nextItem_X7_isPerson : GoodIn wsX7_nextItem (wsV RX7 112 RX7 yX7_isPerson wsX7_isPerson) := goodIn_app (goodIn_of _ (by decide +kernel)) ggX7_nextItem_X7_isPerson
set_option maxRecDepth 20000 in
theorem ggX7_nextItem_X7_fails : GoodIn wsX7_nextItem wsX7_fails := goodIn_r _ [17, 1, 75, 76, 77, 78, 79, 80, 81, 82, 83, 84, 85, 86, 87, 88, 89, 90, 91, 92, 93, 94, 95, 96, 97, 98, 99, 100, 101, 102, 103, 104, 105, 106, 107, 108, 109, 110, 111] (by decide +kernel) (by decide +kernel)
set_option maxRecDepth 20000 in
theorem gX7_nextItem_X7_fails : GoodIn wsX7_nextItem (wsV RX7 108 RX7 yX7_fails wsX7_fails) := goodIn_app (goodIn_of _ (by decide +kernel)) ggX7_nextItem_X7_fails
set_option maxRecDepth 20000 in
theorem ggX7_nextItem_X7_reviewer : GoodIn wsX7_nextItem wsX7_reviewer := goodIn_ca (goodIn_r _ [21, 22, 23, 24, 25, 10, 26, 27, 28, 29, 30, 8, 31, 32, 33, 34, 35, 36, 75, 76, 77, 78, 79, 80, 81, 82, 83, 84, 85, 86, 87, 88, 89, 90, 91, 92, 93, 94, 95, 96, 97, 98, 99, 100, 101, 102, 103, 104, 105, 106, 107, 108, 109, 110, 111] (by decide +kernel) (by decide +kernel)) (goodIn_sub (fun _ h => List.mem_cons_of_mem _ (List.mem_append_left _ (List.mem_append_right _ h))) (by decide +kernel))
set_option maxRecDepth 20000 in
theorem gX7_nextItem_X7_reviewer : GoodIn wsX7_nextItem (wsV RX7 201 RX7 yX7_reviewer wsX7_reviewer) := goodIn_app (goodIn_of _ (by decide +kernel)) ggX7_nextItem_X7_reviewer
set_option maxRecDepth 20000 in
theorem ggX7_nextItem_X7_riskOfGrant : GoodIn wsX7_nextItem wsX7_riskOfGrant := goodIn_ca (goodIn_ca (goodIn_r _ [40, 10, 27, 41, 42, 43, 44, 45, 46, 47, 48, 49, 8, 50, 22, 23, 51, 52, 53, 54, 55, 56, 57, 58, 59, 60, 61, 34, 35, 36, 62, 63, 64, 65, 66, 67, 68, 69, 70, 71, 72, 73, 74, 75, 76, 77, 78, 79, 80, 81, 82, 83, 84, 85, 86, 87, 88, 89, 90, 91, 92, 93, 94, 95, 96, 97, 98, 99, 100, 101, 102, 103, 104, 105, 106, 107, 108, 109, 110, 111] (by decide +kernel) (by decide +kernel)) (goodIn_sub (fun _ h => List.mem_cons_of_mem _ (List.mem_append_left _ (List.mem_append_right _ h))) (by decide +kernel))) (goodIn_sub (fun _ h => List.mem_cons_of_mem _ (List.mem_append_right _ h)) (by decide +kernel))
set_option maxRecDepth 20000 in
theorem gX7_nextItem_X7_riskOfGrant : GoodIn wsX7_nextItem (wsV RX7 215 RX7 yX7_riskOfGrant wsX7_riskOfGrant) := goodIn_app (goodIn_of _ (by decide +kernel)) ggX7_nextItem_X7_riskOfGrant
theorem dX7_nextItem_0 : decode cX7_nextItem 0 = .ok (.aload_n 0, 1) := by decide +kernel
theorem dX7_nextItem_1 : decode cX7_nextItem 1 = .ok (.iconst 0, 1) := by decide +kernel
theorem dX7_nextItem_2 : decode cX7_nextItem 2 = .ok (.putfield 85, 3) := by decide +kernel
theorem dX7_nextItem_5 : decode cX7_nextItem 5 = .ok (.aload_n 0, 1) := by decide +kernel
theorem dX7_nextItem_6 : decode cX7_nextItem 6 = .ok (.iload_n 1, 1) := by decide +kernel
theorem dX7_nextItem_7 : decode cX7_nextItem 7 = .ok (.invokevirtual 112, 3) := by decide +kernel
theorem dX7_nextItem_10 : decode cX7_nextItem 10 = .ok (.ifCond .ne 9, 3) := by decide +kernel
theorem dX7_nextItem_13 : decode cX7_nextItem 13 = .ok (.aload_n 0, 1) := by decide +kernel
theorem dX7_nextItem_14 : decode cX7_nextItem 14 = .ok (.iconst 1, 1) := by decide +kernel
theorem dX7_nextItem_15 : decode cX7_nextItem 15 = .ok (.invokevirtual 108, 3) := by decide +kernel
theorem dX7_nextItem_18 : decode cX7_nextItem 18 = .ok (.ireturn, 1) := by decide +kernel
theorem dX7_nextItem_19 : decode cX7_nextItem 19 = .ok (.iconst (-1), 1) := by decide +kernel
theorem dX7_nextItem_20 : decode cX7_nextItem 20 = .ok (.istore_n 2, 1) := by decide +kernel
theorem dX7_nextItem_21 : decode cX7_nextItem 21 = .ok (.iconst 0, 1) := by decide +kernel
theorem dX7_nextItem_22 : decode cX7_nextItem 22 = .ok (.istore_n 3, 1) := by decide +kernel
theorem dX7_nextItem_23 : decode cX7_nextItem 23 = .ok (.iload_n 3, 1) := by decide +kernel
theorem dX7_nextItem_24 : decode cX7_nextItem 24 = .ok (.aload_n 0, 1) := by decide +kernel
theorem dX7_nextItem_25 : decode cX7_nextItem 25 = .ok (.getfield 179, 3) := by decide +kernel
theorem dX7_nextItem_28 : decode cX7_nextItem 28 = .ok (.if_icmp .ge 66, 3) := by decide +kernel
theorem dX7_nextItem_31 : decode cX7_nextItem 31 = .ok (.aload_n 0, 1) := by decide +kernel
theorem dX7_nextItem_32 : decode cX7_nextItem 32 = .ok (.getfield 79, 3) := by decide +kernel
theorem dX7_nextItem_35 : decode cX7_nextItem 35 = .ok (.iload_n 3, 1) := by decide +kernel
theorem dX7_nextItem_36 : decode cX7_nextItem 36 = .ok (.caload, 1) := by decide +kernel
theorem dX7_nextItem_37 : decode cX7_nextItem 37 = .ok (.bipush 117, 2) := by decide +kernel
theorem dX7_nextItem_39 : decode cX7_nextItem 39 = .ok (.if_icmp .ne 49, 3) := by decide +kernel
theorem dX7_nextItem_42 : decode cX7_nextItem 42 = .ok (.aload_n 0, 1) := by decide +kernel
theorem dX7_nextItem_43 : decode cX7_nextItem 43 = .ok (.aload_n 0, 1) := by decide +kernel
theorem dX7_nextItem_44 : decode cX7_nextItem 44 = .ok (.getfield 73, 3) := by decide +kernel
theorem dX7_nextItem_47 : decode cX7_nextItem 47 = .ok (.iload_n 3, 1) := by decide +kernel
theorem dX7_nextItem_48 : decode cX7_nextItem 48 = .ok (.iaload, 1) := by decide +kernel
theorem dX7_nextItem_49 : decode cX7_nextItem 49 = .ok (.invokevirtual 201, 3) := by decide +kernel
theorem dX7_nextItem_52 : decode cX7_nextItem 52 = .ok (.iload_n 1, 1) := by decide +kernel
theorem dX7_nextItem_53 : decode cX7_nextItem 53 = .ok (.if_icmp .eq 6, 3) := by decide +kernel
theorem dX7_nextItem_56 : decode cX7_nextItem 56 = .ok (.goto 32, 3) := by decide +kernel
theorem dX7_nextItem_59 : decode cX7_nextItem 59 = .ok (.iload_n 2, 1) := by decide +kernel
theorem dX7_nextItem_60 : decode cX7_nextItem 60 = .ok (.ifCond .lt 26, 3) := by decide +kernel
theorem dX7_nextItem_63 : decode cX7_nextItem 63 = .ok (.aload_n 0, 1) := by decide +kernel
theorem dX7_nextItem_64 : decode cX7_nextItem 64 = .ok (.aload_n 0, 1) := by decide +kernel
theorem dX7_nextItem_65 : decode cX7_nextItem 65 = .ok (.getfield 73, 3) := by decide +kernel
theorem dX7_nextItem_68 : decode cX7_nextItem 68 = .ok (.iload_n 3, 1) := by decide +kernel
theorem dX7_nextItem_69 : decode cX7_nextItem 69 = .ok (.iaload, 1) := by decide +kernel
theorem dX7_nextItem_70 : decode cX7_nextItem 70 = .ok (.invokevirtual 215, 3) := by decide +kernel
theorem dX7_nextItem_73 : decode cX7_nextItem 73 = .ok (.aload_n 0, 1) := by decide +kernel
theorem dX7_nextItem_74 : decode cX7_nextItem 74 = .ok (.aload_n 0, 1) := by decide +kernel
theorem dX7_nextItem_75 : decode cX7_nextItem 75 = .ok (.getfield 73, 3) := by decide +kernel
theorem dX7_nextItem_78 : decode cX7_nextItem 78 = .ok (.iload_n 2, 1) := by decide +kernel
theorem dX7_nextItem_79 : decode cX7_nextItem 79 = .ok (.iaload, 1) := by decide +kernel
theorem dX7_nextItem_80 : decode cX7_nextItem 80 = .ok (.invokevirtual 215, 3) := by decide +kernel
theorem dX7_nextItem_83 : decode cX7_nextItem 83 = .ok (.if_icmp .le 5, 3) := by decide +kernel
theorem dX7_nextItem_86 : decode cX7_nextItem 86 = .ok (.iload_n 3, 1) := by decide +kernel
theorem dX7_nextItem_87 : decode cX7_nextItem 87 = .ok (.istore_n 2, 1) := by decide +kernel
theorem dX7_nextItem_88 : decode cX7_nextItem 88 = .ok (.iinc 3 1, 3) := by decide +kernel
theorem dX7_nextItem_91 : decode cX7_nextItem 91 = .ok (.goto (-68), 3) := by decide +kernel
theorem dX7_nextItem_94 : decode cX7_nextItem 94 = .ok (.iload_n 2, 1) := by decide +kernel
theorem dX7_nextItem_95 : decode cX7_nextItem 95 = .ok (.ifCond .ge 11, 3) := by decide +kernel
theorem dX7_nextItem_98 : decode cX7_nextItem 98 = .ok (.aload_n 0, 1) := by decide +kernel
theorem dX7_nextItem_99 : decode cX7_nextItem 99 = .ok (.iconst 2, 1) := by decide +kernel
theorem dX7_nextItem_100 : decode cX7_nextItem 100 = .ok (.invokevirtual 108, 3) := by decide +kernel
theorem dX7_nextItem_103 : decode cX7_nextItem 103 = .ok (.goto 4, 3) := by decide +kernel
theorem dX7_nextItem_106 : decode cX7_nextItem 106 = .ok (.iload_n 2, 1) := by decide +kernel
theorem dX7_nextItem_107 : decode cX7_nextItem 107 = .ok (.ireturn, 1) := by decide +kernel
set_option maxRecDepth 20000 in
theorem ggX7_isEntry_X7_isBetween : GoodIn wsX7_isEntry wsX7_isBetween := goodIn_r _ [5] (by decide +kernel) (by decide +kernel)
set_option maxRecDepth 20000 in
theorem gX7_isEntry_X7_isBetween : GoodIn wsX7_isEntry (va_wsS RX7 95 yX7_isBetween wsX7_isBetween) := goodIn_app (goodIn_of _ (by decide +kernel)) ggX7_isEntry_X7_isBetween
theorem dX7_isEntry_0 : decode cX7_isEntry 0 = .ok (.iload_n 1, 1) := by decide +kernel
theorem dX7_isEntry_1 : decode cX7_isEntry 1 = .ok (.iconst 0, 1) := by decide +kernel
theorem dX7_isEntry_2 : decode cX7_isEntry 2 = .ok (.aload_n 0, 1) := by decide +kernel
theorem dX7_isEntry_3 : decode cX7_isEntry 3 = .ok (.getfield 171, 3) := by decide +kernel
theorem dX7_isEntry_6 : decode cX7_isEntry 6 = .ok (.iconst 1, 1) := by decide +kernel
theorem dX7_isEntry_7 : decode cX7_isEntry 7 = .ok (.isub, 1) := by decide +kernel
theorem dX7_isEntry_8 : decode cX7_isEntry 8 = .ok (.invokestatic 95, 3) := by decide +kernel
theorem dX7_isEntry_11 : decode cX7_isEntry 11 = .ok (.ireturn, 1) := by decide +kernel
theorem dX7_entries_0 : decode cX7_entries 0 = .ok (.aload_n 0, 1) := by decide +kernel
theorem dX7_entries_1 : decode cX7_entries 1 = .ok (.iconst 0, 1) := by decide +kernel
theorem dX7_entries_2 : decode cX7_entries 2 = .ok (.putfield 85, 3) := by decide +kernel
theorem dX7_entries_5 : decode cX7_entries 5 = .ok (.aload_n 0, 1) := by decide +kernel
theorem dX7_entries_6 : decode cX7_entries 6 = .ok (.getfield 171, 3) := by decide +kernel
theorem dX7_entries_9 : decode cX7_entries 9 = .ok (.ireturn, 1) := by decide +kernel
set_option maxRecDepth 20000 in
theorem ggX7_signAt_X7_isEntry : GoodIn wsX7_signAt wsX7_isEntry := goodIn_r _ [7, 8, 9, 10, 6, 11, 16, 17, 18, 19, 20, 21, 22, 23, 24, 25, 26, 27, 28, 29, 30, 31, 32, 33, 34, 35, 36, 37, 38, 39, 40, 41, 42, 43, 44, 45, 46, 47, 48, 49, 50, 51, 52] (by decide +kernel) (by decide +kernel)
set_option maxRecDepth 20000 in
theorem gX7_signAt_X7_isEntry : GoodIn wsX7_signAt (wsV RX7 248 RX7 yX7_isEntry wsX7_isEntry) := goodIn_app (goodIn_of _ (by decide +kernel)) ggX7_signAt_X7_isEntry
set_option maxRecDepth 20000 in
theorem ggX7_signAt_X7_fails : GoodIn wsX7_signAt wsX7_fails := goodIn_r _ [15, 1, 16, 17, 18, 19, 20, 21, 22, 23, 24, 25, 26, 27, 28, 29, 30, 31, 32, 33, 34, 35, 36, 37, 38, 39, 40, 41, 42, 43, 44, 45, 46, 47, 48, 49, 50, 51, 52] (by decide +kernel) (by decide +kernel)
set_option maxRecDepth 20000 in
theorem gX7_signAt_X7_fails : GoodIn wsX7_signAt (wsV RX7 108 RX7 yX7_fails wsX7_fails) := goodIn_app (goodIn_of _ (by decide +kernel)) ggX7_signAt_X7_fails
theorem dX7_signAt_0 : decode cX7_signAt 0 = .ok (.aload_n 0, 1) := by decide +kernel
theorem dX7_signAt_1 : decode cX7_signAt 1 = .ok (.iconst 0, 1) := by decide +kernel
theorem dX7_signAt_2 : decode cX7_signAt 2 = .ok (.putfield 85, 3) := by decide +kernel
theorem dX7_signAt_5 : decode cX7_signAt 5 = .ok (.aload_n 0, 1) := by decide +kernel
theorem dX7_signAt_6 : decode cX7_signAt 6 = .ok (.iload_n 1, 1) := by decide +kernel
theorem dX7_signAt_7 : decode cX7_signAt 7 = .ok (.invokevirtual 248, 3) := by decide +kernel
theorem dX7_signAt_10 : decode cX7_signAt 10 = .ok (.ifCond .eq 12, 3) := by decide +kernel
theorem dX7_signAt_13 : decode cX7_signAt 13 = .ok (.aload_n 0, 1) := by decide +kernel
theorem dX7_signAt_14 : decode cX7_signAt 14 = .ok (.getfield 67, 3) := by decide +kernel
theorem dX7_signAt_17 : decode cX7_signAt 17 = .ok (.iload_n 1, 1) := by decide +kernel
theorem dX7_signAt_18 : decode cX7_signAt 18 = .ok (.caload, 1) := by decide +kernel
theorem dX7_signAt_19 : decode cX7_signAt 19 = .ok (.goto 9, 3) := by decide +kernel
theorem dX7_signAt_22 : decode cX7_signAt 22 = .ok (.aload_n 0, 1) := by decide +kernel
theorem dX7_signAt_23 : decode cX7_signAt 23 = .ok (.iconst 1, 1) := by decide +kernel
theorem dX7_signAt_24 : decode cX7_signAt 24 = .ok (.invokevirtual 108, 3) := by decide +kernel
theorem dX7_signAt_27 : decode cX7_signAt 27 = .ok (.i2c, 1) := by decide +kernel
theorem dX7_signAt_28 : decode cX7_signAt 28 = .ok (.ireturn, 1) := by decide +kernel
set_option maxRecDepth 20000 in
theorem ggX7_sealAt_X7_isEntry : GoodIn wsX7_sealAt wsX7_isEntry := goodIn_r _ [7, 8, 9, 10, 6, 11, 16, 17, 18, 19, 20, 21, 22, 23, 24, 25, 26, 27, 28, 29, 30, 31, 32, 33, 34, 35, 36, 37, 38, 39, 40, 41, 42, 43, 44, 45, 46, 47, 48, 49, 50, 51, 52] (by decide +kernel) (by decide +kernel)
set_option maxRecDepth 20000 in
theorem gX7_sealAt_X7_isEntry : GoodIn wsX7_sealAt (wsV RX7 248 RX7 yX7_isEntry wsX7_isEntry) := goodIn_app (goodIn_of _ (by decide +kernel)) ggX7_sealAt_X7_isEntry
set_option maxRecDepth 20000 in
theorem ggX7_sealAt_X7_fails : GoodIn wsX7_sealAt wsX7_fails := goodIn_r _ [15, 1, 16, 17, 18, 19, 20, 21, 22, 23, 24, 25, 26, 27, 28, 29, 30, 31, 32, 33, 34, 35, 36, 37, 38, 39, 40, 41, 42, 43, 44, 45, 46, 47, 48, 49, 50, 51, 52] (by decide +kernel) (by decide +kernel)
set_option maxRecDepth 20000 in
theorem gX7_sealAt_X7_fails : GoodIn wsX7_sealAt (wsV RX7 108 RX7 yX7_fails wsX7_fails) := goodIn_app (goodIn_of _ (by decide +kernel)) ggX7_sealAt_X7_fails
theorem dX7_sealAt_0 : decode cX7_sealAt 0 = .ok (.aload_n 0, 1) := by decide +kernel
theorem dX7_sealAt_1 : decode cX7_sealAt 1 = .ok (.iconst 0, 1) := by decide +kernel
theorem dX7_sealAt_2 : decode cX7_sealAt 2 = .ok (.putfield 85, 3) := by decide +kernel
theorem dX7_sealAt_5 : decode cX7_sealAt 5 = .ok (.aload_n 0, 1) := by decide +kernel
theorem dX7_sealAt_6 : decode cX7_sealAt 6 = .ok (.iload_n 1, 1) := by decide +kernel
theorem dX7_sealAt_7 : decode cX7_sealAt 7 = .ok (.invokevirtual 248, 3) := by decide +kernel
theorem dX7_sealAt_10 : decode cX7_sealAt 10 = .ok (.ifCond .eq 12, 3) := by decide +kernel
theorem dX7_sealAt_13 : decode cX7_sealAt 13 = .ok (.aload_n 0, 1) := by decide +kernel
theorem dX7_sealAt_14 : decode cX7_sealAt 14 = .ok (.getfield 70, 3) := by decide +kernel
theorem dX7_sealAt_17 : decode cX7_sealAt 17 = .ok (.iload_n 1, 1) := by decide +kernel
theorem dX7_sealAt_18 : decode cX7_sealAt 18 = .ok (.iaload, 1) := by decide +kernel
theorem dX7_sealAt_19 : decode cX7_sealAt 19 = .ok (.goto 8, 3) := by decide +kernel
theorem dX7_sealAt_22 : decode cX7_sealAt 22 = .ok (.aload_n 0, 1) := by decide +kernel
theorem dX7_sealAt_23 : decode cX7_sealAt 23 = .ok (.iconst 1, 1) := by decide +kernel
theorem dX7_sealAt_24 : decode cX7_sealAt 24 = .ok (.invokevirtual 108, 3) := by decide +kernel
theorem dX7_sealAt_27 : decode cX7_sealAt 27 = .ok (.ireturn, 1) := by decide +kernel
set_option maxRecDepth 20000 in
theorem ggX7_sealByReplay_X7_sealAt : GoodIn wsX7_sealByReplay wsX7_sealAt := goodIn_ca (goodIn_r _ [5, 6, 7, 8, 9, 10, 4, 11, 12, 13, 14, 15, 16, 17, 18, 19, 20, 21, 22, 23, 24, 25, 26, 27, 28, 29, 30, 31, 32, 33, 34, 35, 36, 37, 38, 39, 40, 41, 42, 43, 44, 45, 46, 47, 48, 49, 50, 51, 52, 53, 54, 55, 56] (by decide +kernel) (by decide +kernel)) (goodIn_sub (fun _ h => List.mem_cons_of_mem _ (List.mem_append_right _ h)) (by decide +kernel))
set_option maxRecDepth 20000 in
theorem gX7_sealByReplay_X7_sealAt : GoodIn wsX7_sealByReplay (wsV RX7 251 RX7 yX7_sealAt wsX7_sealAt) := goodIn_app (goodIn_of _ (by decide +kernel)) ggX7_sealByReplay_X7_sealAt
theorem dX7_sealByReplay_0 : decode cX7_sealByReplay 0 = .ok (.aload_n 0, 1) := by decide +kernel
theorem dX7_sealByReplay_1 : decode cX7_sealByReplay 1 = .ok (.iload_n 1, 1) := by decide +kernel
theorem dX7_sealByReplay_2 : decode cX7_sealByReplay 2 = .ok (.invokevirtual 251, 3) := by decide +kernel
theorem dX7_sealByReplay_5 : decode cX7_sealByReplay 5 = .ok (.ireturn, 1) := by decide +kernel
theorem dX7_trace_0 : decode cX7_trace 0 = .ok (.aload_n 0, 1) := by decide +kernel
theorem dX7_trace_1 : decode cX7_trace 1 = .ok (.iconst 0, 1) := by decide +kernel
theorem dX7_trace_2 : decode cX7_trace 2 = .ok (.putfield 85, 3) := by decide +kernel
theorem dX7_trace_5 : decode cX7_trace 5 = .ok (.lconst 0, 1) := by decide +kernel
theorem dX7_trace_6 : decode cX7_trace 6 = .ok (.lstore_n 1, 1) := by decide +kernel
theorem dX7_trace_7 : decode cX7_trace 7 = .ok (.iconst 0, 1) := by decide +kernel
theorem dX7_trace_8 : decode cX7_trace 8 = .ok (.istore_n 3, 1) := by decide +kernel
theorem dX7_trace_9 : decode cX7_trace 9 = .ok (.iload_n 3, 1) := by decide +kernel
theorem dX7_trace_10 : decode cX7_trace 10 = .ok (.aload_n 0, 1) := by decide +kernel
theorem dX7_trace_11 : decode cX7_trace 11 = .ok (.getfield 171, 3) := by decide +kernel
theorem dX7_trace_14 : decode cX7_trace 14 = .ok (.if_icmp .ge 23, 3) := by decide +kernel
theorem dX7_trace_17 : decode cX7_trace 17 = .ok (.ldc2_w 254, 3) := by decide +kernel
theorem dX7_trace_20 : decode cX7_trace 20 = .ok (.lload_n 1, 1) := by decide +kernel
theorem dX7_trace_21 : decode cX7_trace 21 = .ok (.lmul, 1) := by decide +kernel
theorem dX7_trace_22 : decode cX7_trace 22 = .ok (.aload_n 0, 1) := by decide +kernel
theorem dX7_trace_23 : decode cX7_trace 23 = .ok (.getfield 70, 3) := by decide +kernel
theorem dX7_trace_26 : decode cX7_trace 26 = .ok (.iload_n 3, 1) := by decide +kernel
theorem dX7_trace_27 : decode cX7_trace 27 = .ok (.iaload, 1) := by decide +kernel
theorem dX7_trace_28 : decode cX7_trace 28 = .ok (.i2l, 1) := by decide +kernel
theorem dX7_trace_29 : decode cX7_trace 29 = .ok (.ladd, 1) := by decide +kernel
theorem dX7_trace_30 : decode cX7_trace 30 = .ok (.lstore_n 1, 1) := by decide +kernel
theorem dX7_trace_31 : decode cX7_trace 31 = .ok (.iinc 3 1, 3) := by decide +kernel
theorem dX7_trace_34 : decode cX7_trace 34 = .ok (.goto (-25), 3) := by decide +kernel
theorem dX7_trace_37 : decode cX7_trace 37 = .ok (.lload_n 1, 1) := by decide +kernel
theorem dX7_trace_38 : decode cX7_trace 38 = .ok (.lreturn, 1) := by decide +kernel
set_option maxRecDepth 20000 in
theorem ggX7_revokedShare_X7_fails : GoodIn wsX7_revokedShare wsX7_fails := goodIn_r _ [8, 1, 9, 10, 11, 12, 13, 14, 15, 16, 17, 18, 19, 20, 21, 22, 23, 24, 25, 26, 27, 28, 29, 30, 31, 32, 33, 34, 35, 36, 37, 38, 39, 40, 41, 42, 43, 44, 45] (by decide +kernel) (by decide +kernel)
set_option maxRecDepth 20000 in
theorem gX7_revokedShare_X7_fails : GoodIn wsX7_revokedShare (wsV RX7 108 RX7 yX7_fails wsX7_fails) := goodIn_app (goodIn_of _ (by decide +kernel)) ggX7_revokedShare_X7_fails
theorem dX7_revokedShare_0 : decode cX7_revokedShare 0 = .ok (.aload_n 0, 1) := by decide +kernel
theorem dX7_revokedShare_1 : decode cX7_revokedShare 1 = .ok (.iconst 0, 1) := by decide +kernel
theorem dX7_revokedShare_2 : decode cX7_revokedShare 2 = .ok (.putfield 85, 3) := by decide +kernel
theorem dX7_revokedShare_5 : decode cX7_revokedShare 5 = .ok (.aload_n 0, 1) := by decide +kernel
theorem dX7_revokedShare_6 : decode cX7_revokedShare 6 = .ok (.getfield 185, 3) := by decide +kernel
theorem dX7_revokedShare_9 : decode cX7_revokedShare 9 = .ok (.ifCond .ne 10, 3) := by decide +kernel
theorem dX7_revokedShare_12 : decode cX7_revokedShare 12 = .ok (.aload_n 0, 1) := by decide +kernel
theorem dX7_revokedShare_13 : decode cX7_revokedShare 13 = .ok (.iconst 1, 1) := by decide +kernel
theorem dX7_revokedShare_14 : decode cX7_revokedShare 14 = .ok (.invokevirtual 108, 3) := by decide +kernel
theorem dX7_revokedShare_17 : decode cX7_revokedShare 17 = .ok (.i2f, 1) := by decide +kernel
theorem dX7_revokedShare_18 : decode cX7_revokedShare 18 = .ok (.freturn, 1) := by decide +kernel
theorem dX7_revokedShare_19 : decode cX7_revokedShare 19 = .ok (.aload_n 0, 1) := by decide +kernel
theorem dX7_revokedShare_20 : decode cX7_revokedShare 20 = .ok (.getfield 191, 3) := by decide +kernel
theorem dX7_revokedShare_23 : decode cX7_revokedShare 23 = .ok (.i2f, 1) := by decide +kernel
theorem dX7_revokedShare_24 : decode cX7_revokedShare 24 = .ok (.aload_n 0, 1) := by decide +kernel
theorem dX7_revokedShare_25 : decode cX7_revokedShare 25 = .ok (.getfield 185, 3) := by decide +kernel
theorem dX7_revokedShare_28 : decode cX7_revokedShare 28 = .ok (.i2f, 1) := by decide +kernel
theorem dX7_revokedShare_29 : decode cX7_revokedShare 29 = .ok (.fdiv, 1) := by decide +kernel
theorem dX7_revokedShare_30 : decode cX7_revokedShare 30 = .ok (.freturn, 1) := by decide +kernel
set_option maxRecDepth 20000 in
theorem ggX7_meanRisk_X7_riskOfGrant : GoodIn wsX7_meanRisk wsX7_riskOfGrant := goodIn_ca (goodIn_ca (goodIn_r _ [8, 9, 10, 11, 12, 13, 14, 15, 16, 17, 18, 19, 7, 20, 21, 22, 23, 24, 25, 26, 27, 28, 29, 30, 31, 32, 33, 34, 35, 36, 37, 38, 39, 40, 41, 42, 43, 44, 45, 46, 2, 3, 47, 52, 53, 54, 55, 56, 57, 58, 59, 60, 61, 62, 63, 64, 65, 66, 67, 68, 69, 70, 71, 72, 73, 74, 75, 76, 77, 78, 79, 80, 81, 82, 83, 84, 85, 86, 87, 88] (by decide +kernel) (by decide +kernel)) (goodIn_sub (fun _ h => List.mem_cons_of_mem _ (List.mem_append_left _ (List.mem_append_right _ h))) (by decide +kernel))) (goodIn_sub (fun _ h => List.mem_cons_of_mem _ (List.mem_append_right _ h)) (by decide +kernel))
set_option maxRecDepth 20000 in
theorem gX7_meanRisk_X7_riskOfGrant : GoodIn wsX7_meanRisk (wsV RX7 215 RX7 yX7_riskOfGrant wsX7_riskOfGrant) := goodIn_app (goodIn_of _ (by decide +kernel)) ggX7_meanRisk_X7_riskOfGrant
set_option maxRecDepth 20000 in
theorem ggX7_meanRisk_X7_fails : GoodIn wsX7_meanRisk wsX7_fails := goodIn_r _ [51, 1, 52, 53, 54, 55, 56, 57, 58, 59, 60, 61, 62, 63, 64, 65, 66, 67, 68, 69, 70, 71, 72, 73, 74, 75, 76, 77, 78, 79, 80, 81, 82, 83, 84, 85, 86, 87, 88] (by decide +kernel) (by decide +kernel)
set_option maxRecDepth 20000 in
theorem gX7_meanRisk_X7_fails : GoodIn wsX7_meanRisk (wsV RX7 108 RX7 yX7_fails wsX7_fails) := goodIn_app (goodIn_of _ (by decide +kernel)) ggX7_meanRisk_X7_fails
theorem dX7_meanRisk_0 : decode cX7_meanRisk 0 = .ok (.aload_n 0, 1) := by decide +kernel
theorem dX7_meanRisk_1 : decode cX7_meanRisk 1 = .ok (.iconst 0, 1) := by decide +kernel
theorem dX7_meanRisk_2 : decode cX7_meanRisk 2 = .ok (.putfield 85, 3) := by decide +kernel
theorem dX7_meanRisk_5 : decode cX7_meanRisk 5 = .ok (.iconst 0, 1) := by decide +kernel
theorem dX7_meanRisk_6 : decode cX7_meanRisk 6 = .ok (.istore_n 1, 1) := by decide +kernel
theorem dX7_meanRisk_7 : decode cX7_meanRisk 7 = .ok (.iconst 0, 1) := by decide +kernel
theorem dX7_meanRisk_8 : decode cX7_meanRisk 8 = .ok (.istore_n 2, 1) := by decide +kernel
theorem dX7_meanRisk_9 : decode cX7_meanRisk 9 = .ok (.iconst 0, 1) := by decide +kernel
theorem dX7_meanRisk_10 : decode cX7_meanRisk 10 = .ok (.istore_n 3, 1) := by decide +kernel
theorem dX7_meanRisk_11 : decode cX7_meanRisk 11 = .ok (.iload_n 3, 1) := by decide +kernel
theorem dX7_meanRisk_12 : decode cX7_meanRisk 12 = .ok (.aload_n 0, 1) := by decide +kernel
theorem dX7_meanRisk_13 : decode cX7_meanRisk 13 = .ok (.getfield 105, 3) := by decide +kernel
theorem dX7_meanRisk_16 : decode cX7_meanRisk 16 = .ok (.if_icmp .ge 34, 3) := by decide +kernel
theorem dX7_meanRisk_19 : decode cX7_meanRisk 19 = .ok (.aload_n 0, 1) := by decide +kernel
theorem dX7_meanRisk_20 : decode cX7_meanRisk 20 = .ok (.getfield 56, 3) := by decide +kernel
theorem dX7_meanRisk_23 : decode cX7_meanRisk 23 = .ok (.iload_n 3, 1) := by decide +kernel
theorem dX7_meanRisk_24 : decode cX7_meanRisk 24 = .ok (.caload, 1) := by decide +kernel
theorem dX7_meanRisk_25 : decode cX7_meanRisk 25 = .ok (.bipush 120, 2) := by decide +kernel
theorem dX7_meanRisk_27 : decode cX7_meanRisk 27 = .ok (.if_icmp .ne 6, 3) := by decide +kernel
theorem dX7_meanRisk_30 : decode cX7_meanRisk 30 = .ok (.goto 14, 3) := by decide +kernel
theorem dX7_meanRisk_33 : decode cX7_meanRisk 33 = .ok (.iinc 1 1, 3) := by decide +kernel
theorem dX7_meanRisk_36 : decode cX7_meanRisk 36 = .ok (.iload_n 2, 1) := by decide +kernel
theorem dX7_meanRisk_37 : decode cX7_meanRisk 37 = .ok (.aload_n 0, 1) := by decide +kernel
theorem dX7_meanRisk_38 : decode cX7_meanRisk 38 = .ok (.iload_n 3, 1) := by decide +kernel
theorem dX7_meanRisk_39 : decode cX7_meanRisk 39 = .ok (.invokevirtual 215, 3) := by decide +kernel
theorem dX7_meanRisk_42 : decode cX7_meanRisk 42 = .ok (.iadd, 1) := by decide +kernel
theorem dX7_meanRisk_43 : decode cX7_meanRisk 43 = .ok (.istore_n 2, 1) := by decide +kernel
theorem dX7_meanRisk_44 : decode cX7_meanRisk 44 = .ok (.iinc 3 1, 3) := by decide +kernel
theorem dX7_meanRisk_47 : decode cX7_meanRisk 47 = .ok (.goto (-36), 3) := by decide +kernel
theorem dX7_meanRisk_50 : decode cX7_meanRisk 50 = .ok (.iload_n 1, 1) := by decide +kernel
theorem dX7_meanRisk_51 : decode cX7_meanRisk 51 = .ok (.ifCond .ne 10, 3) := by decide +kernel
theorem dX7_meanRisk_54 : decode cX7_meanRisk 54 = .ok (.aload_n 0, 1) := by decide +kernel
theorem dX7_meanRisk_55 : decode cX7_meanRisk 55 = .ok (.iconst 1, 1) := by decide +kernel
theorem dX7_meanRisk_56 : decode cX7_meanRisk 56 = .ok (.invokevirtual 108, 3) := by decide +kernel
theorem dX7_meanRisk_59 : decode cX7_meanRisk 59 = .ok (.i2d, 1) := by decide +kernel
theorem dX7_meanRisk_60 : decode cX7_meanRisk 60 = .ok (.dreturn, 1) := by decide +kernel
theorem dX7_meanRisk_61 : decode cX7_meanRisk 61 = .ok (.iload_n 2, 1) := by decide +kernel
theorem dX7_meanRisk_62 : decode cX7_meanRisk 62 = .ok (.i2d, 1) := by decide +kernel
theorem dX7_meanRisk_63 : decode cX7_meanRisk 63 = .ok (.iload_n 1, 1) := by decide +kernel
theorem dX7_meanRisk_64 : decode cX7_meanRisk 64 = .ok (.i2d, 1) := by decide +kernel
theorem dX7_meanRisk_65 : decode cX7_meanRisk 65 = .ok (.ddiv, 1) := by decide +kernel
theorem dX7_meanRisk_66 : decode cX7_meanRisk 66 = .ok (.dreturn, 1) := by decide +kernel
