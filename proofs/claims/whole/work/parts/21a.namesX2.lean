theorem dX2_init_0 : decode cX2_init 0 = .ok (.aload_n 0, 1) := by decide +kernel
theorem dX2_init_1 : decode cX2_init 1 = .ok (.invokespecial 3, 3) := by decide +kernel
theorem dX2_init_4 : decode cX2_init 4 = .ok (.aload_n 0, 1) := by decide +kernel
theorem dX2_init_5 : decode cX2_init 5 = .ok (.bipush 20, 2) := by decide +kernel
theorem dX2_init_7 : decode cX2_init 7 = .ok (.newarray .int, 2) := by decide +kernel
theorem dX2_init_9 : decode cX2_init 9 = .ok (.putfield 9, 3) := by decide +kernel
theorem dX2_init_12 : decode cX2_init 12 = .ok (.aload_n 0, 1) := by decide +kernel
theorem dX2_init_13 : decode cX2_init 13 = .ok (.bipush 12, 2) := by decide +kernel
theorem dX2_init_15 : decode cX2_init 15 = .ok (.bipush 60, 2) := by decide +kernel
theorem dX2_init_17 : decode cX2_init 17 = .ok (.multianewarray 15 2, 4) := by decide +kernel
theorem dX2_init_21 : decode cX2_init 21 = .ok (.putfield 17, 3) := by decide +kernel
theorem dX2_init_24 : decode cX2_init 24 = .ok (.iconst 0, 1) := by decide +kernel
theorem dX2_init_25 : decode cX2_init 25 = .ok (.istore_n 1, 1) := by decide +kernel
theorem dX2_init_26 : decode cX2_init 26 = .ok (.iload_n 1, 1) := by decide +kernel
theorem dX2_init_27 : decode cX2_init 27 = .ok (.bipush 20, 2) := by decide +kernel
theorem dX2_init_29 : decode cX2_init 29 = .ok (.if_icmp .ge 16, 3) := by decide +kernel
theorem dX2_init_32 : decode cX2_init 32 = .ok (.aload_n 0, 1) := by decide +kernel
theorem dX2_init_33 : decode cX2_init 33 = .ok (.getfield 9, 3) := by decide +kernel
theorem dX2_init_36 : decode cX2_init 36 = .ok (.iload_n 1, 1) := by decide +kernel
theorem dX2_init_37 : decode cX2_init 37 = .ok (.iconst (-1), 1) := by decide +kernel
theorem dX2_init_38 : decode cX2_init 38 = .ok (.iastore, 1) := by decide +kernel
theorem dX2_init_39 : decode cX2_init 39 = .ok (.iinc 1 1, 3) := by decide +kernel
theorem dX2_init_42 : decode cX2_init 42 = .ok (.goto (-16), 3) := by decide +kernel
theorem dX2_init_45 : decode cX2_init 45 = .ok (.return_, 1) := by decide +kernel
theorem dX2_become_0 : decode cX2_become 0 = .ok (.aload_n 0, 1) := by decide +kernel
theorem dX2_become_1 : decode cX2_become 1 = .ok (.aload_n 1, 1) := by decide +kernel
theorem dX2_become_2 : decode cX2_become 2 = .ok (.getfield 20, 3) := by decide +kernel
theorem dX2_become_5 : decode cX2_become 5 = .ok (.putfield 20, 3) := by decide +kernel
theorem dX2_become_8 : decode cX2_become 8 = .ok (.aload_n 0, 1) := by decide +kernel
theorem dX2_become_9 : decode cX2_become 9 = .ok (.aload_n 1, 1) := by decide +kernel
theorem dX2_become_10 : decode cX2_become 10 = .ok (.getfield 24, 3) := by decide +kernel
theorem dX2_become_13 : decode cX2_become 13 = .ok (.putfield 24, 3) := by decide +kernel
theorem dX2_become_16 : decode cX2_become 16 = .ok (.aload_n 1, 1) := by decide +kernel
theorem dX2_become_17 : decode cX2_become 17 = .ok (.getfield 9, 3) := by decide +kernel
theorem dX2_become_20 : decode cX2_become 20 = .ok (.iconst 0, 1) := by decide +kernel
theorem dX2_become_21 : decode cX2_become 21 = .ok (.aload_n 0, 1) := by decide +kernel
theorem dX2_become_22 : decode cX2_become 22 = .ok (.getfield 9, 3) := by decide +kernel
theorem dX2_become_25 : decode cX2_become 25 = .ok (.iconst 0, 1) := by decide +kernel
theorem dX2_become_26 : decode cX2_become 26 = .ok (.bipush 20, 2) := by decide +kernel
theorem dX2_become_28 : decode cX2_become 28 = .ok (.invokestatic 27, 3) := by decide +kernel
theorem dX2_become_31 : decode cX2_become 31 = .ok (.iconst 0, 1) := by decide +kernel
theorem dX2_become_32 : decode cX2_become 32 = .ok (.istore_n 2, 1) := by decide +kernel
theorem dX2_become_33 : decode cX2_become 33 = .ok (.iload_n 2, 1) := by decide +kernel
theorem dX2_become_34 : decode cX2_become 34 = .ok (.bipush 12, 2) := by decide +kernel
theorem dX2_become_36 : decode cX2_become 36 = .ok (.if_icmp .ge 28, 3) := by decide +kernel
theorem dX2_become_39 : decode cX2_become 39 = .ok (.aload_n 1, 1) := by decide +kernel
theorem dX2_become_40 : decode cX2_become 40 = .ok (.getfield 17, 3) := by decide +kernel
theorem dX2_become_43 : decode cX2_become 43 = .ok (.iload_n 2, 1) := by decide +kernel
theorem dX2_become_44 : decode cX2_become 44 = .ok (.aaload, 1) := by decide +kernel
theorem dX2_become_45 : decode cX2_become 45 = .ok (.iconst 0, 1) := by decide +kernel
theorem dX2_become_46 : decode cX2_become 46 = .ok (.aload_n 0, 1) := by decide +kernel
theorem dX2_become_47 : decode cX2_become 47 = .ok (.getfield 17, 3) := by decide +kernel
theorem dX2_become_50 : decode cX2_become 50 = .ok (.iload_n 2, 1) := by decide +kernel
theorem dX2_become_51 : decode cX2_become 51 = .ok (.aaload, 1) := by decide +kernel
theorem dX2_become_52 : decode cX2_become 52 = .ok (.iconst 0, 1) := by decide +kernel
theorem dX2_become_53 : decode cX2_become 53 = .ok (.bipush 60, 2) := by decide +kernel
theorem dX2_become_55 : decode cX2_become 55 = .ok (.invokestatic 27, 3) := by decide +kernel
theorem dX2_become_58 : decode cX2_become 58 = .ok (.iinc 2 1, 3) := by decide +kernel
theorem dX2_become_61 : decode cX2_become 61 = .ok (.goto (-28), 3) := by decide +kernel
theorem dX2_become_64 : decode cX2_become 64 = .ok (.return_, 1) := by decide +kernel
theorem dX2_isThere_0 : decode cX2_isThere 0 = .ok (.aload_n 0, 1) := by decide +kernel
theorem dX2_isThere_1 : decode cX2_isThere 1 = .ok (.getfield 17, 3) := by decide +kernel
theorem dX2_isThere_4 : decode cX2_isThere 4 = .ok (.bipush 9, 2) := by decide +kernel
theorem dX2_isThere_6 : decode cX2_isThere 6 = .ok (.aaload, 1) := by decide +kernel
theorem dX2_isThere_7 : decode cX2_isThere 7 = .ok (.iload_n 1, 1) := by decide +kernel
theorem dX2_isThere_8 : decode cX2_isThere 8 = .ok (.iaload, 1) := by decide +kernel
theorem dX2_isThere_9 : decode cX2_isThere 9 = .ok (.ifCond .ne 7, 3) := by decide +kernel
theorem dX2_isThere_12 : decode cX2_isThere 12 = .ok (.iconst 1, 1) := by decide +kernel
theorem dX2_isThere_13 : decode cX2_isThere 13 = .ok (.goto 4, 3) := by decide +kernel
theorem dX2_isThere_16 : decode cX2_isThere 16 = .ok (.iconst 0, 1) := by decide +kernel
theorem dX2_isThere_17 : decode cX2_isThere 17 = .ok (.ireturn, 1) := by decide +kernel
theorem dX2_codeOf_0 : decode cX2_codeOf 0 = .ok (.bipush 16, 2) := by decide +kernel
theorem dX2_codeOf_2 : decode cX2_codeOf 2 = .ok (.aload_n 0, 1) := by decide +kernel
theorem dX2_codeOf_3 : decode cX2_codeOf 3 = .ok (.getfield 17, 3) := by decide +kernel
theorem dX2_codeOf_6 : decode cX2_codeOf 6 = .ok (.iconst 0, 1) := by decide +kernel
theorem dX2_codeOf_7 : decode cX2_codeOf 7 = .ok (.aaload, 1) := by decide +kernel
theorem dX2_codeOf_8 : decode cX2_codeOf 8 = .ok (.iload_n 1, 1) := by decide +kernel
theorem dX2_codeOf_9 : decode cX2_codeOf 9 = .ok (.iaload, 1) := by decide +kernel
theorem dX2_codeOf_10 : decode cX2_codeOf 10 = .ok (.imul, 1) := by decide +kernel
theorem dX2_codeOf_11 : decode cX2_codeOf 11 = .ok (.aload_n 0, 1) := by decide +kernel
theorem dX2_codeOf_12 : decode cX2_codeOf 12 = .ok (.getfield 17, 3) := by decide +kernel
theorem dX2_codeOf_15 : decode cX2_codeOf 15 = .ok (.iconst 1, 1) := by decide +kernel
theorem dX2_codeOf_16 : decode cX2_codeOf 16 = .ok (.aaload, 1) := by decide +kernel
theorem dX2_codeOf_17 : decode cX2_codeOf 17 = .ok (.iload_n 1, 1) := by decide +kernel
theorem dX2_codeOf_18 : decode cX2_codeOf 18 = .ok (.iaload, 1) := by decide +kernel
theorem dX2_codeOf_19 : decode cX2_codeOf 19 = .ok (.iadd, 1) := by decide +kernel
theorem dX2_codeOf_20 : decode cX2_codeOf 20 = .ok (.ireturn, 1) := by decide +kernel
theorem dX2_around_0 : decode cX2_around 0 = .ok (.iload_n 0, 1) := by decide +kernel
theorem dX2_around_1 : decode cX2_around 1 = .ok (.getstatic 33, 3) := by decide +kernel
theorem dX2_around_4 : decode cX2_around 4 = .ok (.iload_n 1, 1) := by decide +kernel
theorem dX2_around_5 : decode cX2_around 5 = .ok (.iaload, 1) := by decide +kernel
theorem dX2_around_6 : decode cX2_around 6 = .ok (.iadd, 1) := by decide +kernel
theorem dX2_around_7 : decode cX2_around 7 = .ok (.bipush 20, 2) := by decide +kernel
theorem dX2_around_9 : decode cX2_around 9 = .ok (.iadd, 1) := by decide +kernel
theorem dX2_around_10 : decode cX2_around 10 = .ok (.bipush 20, 2) := by decide +kernel
theorem dX2_around_12 : decode cX2_around 12 = .ok (.irem, 1) := by decide +kernel
theorem dX2_around_13 : decode cX2_around 13 = .ok (.ireturn, 1) := by decide +kernel
set_option maxRecDepth 20000 in
theorem ggX2_may_X2_isThere : GoodIn wsX2_may wsX2_isThere := goodIn_r _ [6, 1, 11, 12, 13, 14] (by decide +kernel) (by decide +kernel)
set_option maxRecDepth 20000 in
theorem gX2_may_X2_isThere : GoodIn wsX2_may (wsV RX2 36 RX2 yX2_isThere wsX2_isThere) := goodIn_app (goodIn_of _ (by decide +kernel)) ggX2_may_X2_isThere
set_option maxRecDepth 20000 in
theorem ggX2_may_X2_codeOf : GoodIn wsX2_may wsX2_codeOf := goodIn_r _ [10, 1, 11, 12, 13, 14] (by decide +kernel) (by decide +kernel)
set_option maxRecDepth 20000 in
theorem gX2_may_X2_codeOf : GoodIn wsX2_may (wsV RX2 40 RX2 yX2_codeOf wsX2_codeOf) := goodIn_app (goodIn_of _ (by decide +kernel)) ggX2_may_X2_codeOf
theorem dX2_may_0 : decode cX2_may 0 = .ok (.iload_n 1, 1) := by decide +kernel
theorem dX2_may_1 : decode cX2_may 1 = .ok (.iload_n 2, 1) := by decide +kernel
theorem dX2_may_2 : decode cX2_may 2 = .ok (.if_icmp .eq 45, 3) := by decide +kernel
theorem dX2_may_5 : decode cX2_may 5 = .ok (.aload_n 0, 1) := by decide +kernel
theorem dX2_may_6 : decode cX2_may 6 = .ok (.iload_n 1, 1) := by decide +kernel
theorem dX2_may_7 : decode cX2_may 7 = .ok (.invokevirtual 36, 3) := by decide +kernel
theorem dX2_may_10 : decode cX2_may 10 = .ok (.ifCond .eq 37, 3) := by decide +kernel
theorem dX2_may_13 : decode cX2_may 13 = .ok (.aload_n 0, 1) := by decide +kernel
theorem dX2_may_14 : decode cX2_may 14 = .ok (.iload_n 2, 1) := by decide +kernel
theorem dX2_may_15 : decode cX2_may 15 = .ok (.invokevirtual 36, 3) := by decide +kernel
theorem dX2_may_18 : decode cX2_may 18 = .ok (.ifCond .eq 29, 3) := by decide +kernel
theorem dX2_may_21 : decode cX2_may 21 = .ok (.aload_n 0, 1) := by decide +kernel
theorem dX2_may_22 : decode cX2_may 22 = .ok (.getfield 17, 3) := by decide +kernel
theorem dX2_may_25 : decode cX2_may 25 = .ok (.bipush 7, 2) := by decide +kernel
theorem dX2_may_27 : decode cX2_may 27 = .ok (.aaload, 1) := by decide +kernel
theorem dX2_may_28 : decode cX2_may 28 = .ok (.iload_n 1, 1) := by decide +kernel
theorem dX2_may_29 : decode cX2_may 29 = .ok (.iaload, 1) := by decide +kernel
theorem dX2_may_30 : decode cX2_may 30 = .ok (.iload_n 2, 1) := by decide +kernel
theorem dX2_may_31 : decode cX2_may 31 = .ok (.if_icmp .eq 16, 3) := by decide +kernel
theorem dX2_may_34 : decode cX2_may 34 = .ok (.aload_n 0, 1) := by decide +kernel
theorem dX2_may_35 : decode cX2_may 35 = .ok (.getfield 17, 3) := by decide +kernel
theorem dX2_may_38 : decode cX2_may 38 = .ok (.bipush 7, 2) := by decide +kernel
theorem dX2_may_40 : decode cX2_may 40 = .ok (.aaload, 1) := by decide +kernel
theorem dX2_may_41 : decode cX2_may 41 = .ok (.iload_n 2, 1) := by decide +kernel
theorem dX2_may_42 : decode cX2_may 42 = .ok (.iaload, 1) := by decide +kernel
theorem dX2_may_43 : decode cX2_may 43 = .ok (.iload_n 1, 1) := by decide +kernel
theorem dX2_may_44 : decode cX2_may 44 = .ok (.if_icmp .ne 5, 3) := by decide +kernel
theorem dX2_may_47 : decode cX2_may 47 = .ok (.iconst 0, 1) := by decide +kernel
theorem dX2_may_48 : decode cX2_may 48 = .ok (.ireturn, 1) := by decide +kernel
theorem dX2_may_49 : decode cX2_may 49 = .ok (.aload_n 0, 1) := by decide +kernel
theorem dX2_may_50 : decode cX2_may 50 = .ok (.getfield 17, 3) := by decide +kernel
theorem dX2_may_53 : decode cX2_may 53 = .ok (.iconst 1, 1) := by decide +kernel
theorem dX2_may_54 : decode cX2_may 54 = .ok (.aaload, 1) := by decide +kernel
theorem dX2_may_55 : decode cX2_may 55 = .ok (.iload_n 1, 1) := by decide +kernel
theorem dX2_may_56 : decode cX2_may 56 = .ok (.iaload, 1) := by decide +kernel
theorem dX2_may_57 : decode cX2_may 57 = .ok (.istore_n 3, 1) := by decide +kernel
theorem dX2_may_58 : decode cX2_may 58 = .ok (.aload_n 0, 1) := by decide +kernel
theorem dX2_may_59 : decode cX2_may 59 = .ok (.getfield 17, 3) := by decide +kernel
theorem dX2_may_62 : decode cX2_may 62 = .ok (.iconst 0, 1) := by decide +kernel
theorem dX2_may_63 : decode cX2_may 63 = .ok (.aaload, 1) := by decide +kernel
theorem dX2_may_64 : decode cX2_may 64 = .ok (.iload_n 1, 1) := by decide +kernel
theorem dX2_may_65 : decode cX2_may 65 = .ok (.iaload, 1) := by decide +kernel
theorem dX2_may_66 : decode cX2_may 66 = .ok (.tableswitch 125 0 4 #[34, 50, 68, 86, 107], 34) := by decide +kernel
theorem dX2_may_100 : decode cX2_may 100 = .ok (.aload_n 0, 1) := by decide +kernel
theorem dX2_may_101 : decode cX2_may 101 = .ok (.iload_n 2, 1) := by decide +kernel
theorem dX2_may_102 : decode cX2_may 102 = .ok (.invokevirtual 40, 3) := by decide +kernel
theorem dX2_may_105 : decode cX2_may 105 = .ok (.iload_n 3, 1) := by decide +kernel
theorem dX2_may_106 : decode cX2_may 106 = .ok (.irem, 1) := by decide +kernel
theorem dX2_may_107 : decode cX2_may 107 = .ok (.ifCond .ne 7, 3) := by decide +kernel
theorem dX2_may_110 : decode cX2_may 110 = .ok (.iconst 1, 1) := by decide +kernel
theorem dX2_may_111 : decode cX2_may 111 = .ok (.goto 4, 3) := by decide +kernel
theorem dX2_may_114 : decode cX2_may 114 = .ok (.iconst 0, 1) := by decide +kernel
theorem dX2_may_115 : decode cX2_may 115 = .ok (.ireturn, 1) := by decide +kernel
theorem dX2_may_116 : decode cX2_may 116 = .ok (.aload_n 0, 1) := by decide +kernel
theorem dX2_may_117 : decode cX2_may 117 = .ok (.getfield 17, 3) := by decide +kernel
theorem dX2_may_120 : decode cX2_may 120 = .ok (.iconst 1, 1) := by decide +kernel
theorem dX2_may_121 : decode cX2_may 121 = .ok (.aaload, 1) := by decide +kernel
theorem dX2_may_122 : decode cX2_may 122 = .ok (.iload_n 2, 1) := by decide +kernel
theorem dX2_may_123 : decode cX2_may 123 = .ok (.iaload, 1) := by decide +kernel
theorem dX2_may_124 : decode cX2_may 124 = .ok (.iload_n 3, 1) := by decide +kernel
theorem dX2_may_125 : decode cX2_may 125 = .ok (.if_icmp .ge 7, 3) := by decide +kernel
theorem dX2_may_128 : decode cX2_may 128 = .ok (.iconst 1, 1) := by decide +kernel
theorem dX2_may_129 : decode cX2_may 129 = .ok (.goto 4, 3) := by decide +kernel
theorem dX2_may_132 : decode cX2_may 132 = .ok (.iconst 0, 1) := by decide +kernel
theorem dX2_may_133 : decode cX2_may 133 = .ok (.ireturn, 1) := by decide +kernel
theorem dX2_may_134 : decode cX2_may 134 = .ok (.aload_n 0, 1) := by decide +kernel
theorem dX2_may_135 : decode cX2_may 135 = .ok (.getfield 17, 3) := by decide +kernel
theorem dX2_may_138 : decode cX2_may 138 = .ok (.iconst 1, 1) := by decide +kernel
theorem dX2_may_139 : decode cX2_may 139 = .ok (.aaload, 1) := by decide +kernel
theorem dX2_may_140 : decode cX2_may 140 = .ok (.iload_n 2, 1) := by decide +kernel
theorem dX2_may_141 : decode cX2_may 141 = .ok (.iaload, 1) := by decide +kernel
theorem dX2_may_142 : decode cX2_may 142 = .ok (.iload_n 3, 1) := by decide +kernel
theorem dX2_may_143 : decode cX2_may 143 = .ok (.if_icmp .le 7, 3) := by decide +kernel
theorem dX2_may_146 : decode cX2_may 146 = .ok (.iconst 1, 1) := by decide +kernel
theorem dX2_may_147 : decode cX2_may 147 = .ok (.goto 4, 3) := by decide +kernel
theorem dX2_may_150 : decode cX2_may 150 = .ok (.iconst 0, 1) := by decide +kernel
theorem dX2_may_151 : decode cX2_may 151 = .ok (.ireturn, 1) := by decide +kernel
theorem dX2_may_152 : decode cX2_may 152 = .ok (.aload_n 0, 1) := by decide +kernel
theorem dX2_may_153 : decode cX2_may 153 = .ok (.getfield 17, 3) := by decide +kernel
theorem dX2_may_156 : decode cX2_may 156 = .ok (.iconst 0, 1) := by decide +kernel
theorem dX2_may_157 : decode cX2_may 157 = .ok (.aaload, 1) := by decide +kernel
theorem dX2_may_158 : decode cX2_may 158 = .ok (.iload_n 2, 1) := by decide +kernel
theorem dX2_may_159 : decode cX2_may 159 = .ok (.iaload, 1) := by decide +kernel
theorem dX2_may_160 : decode cX2_may 160 = .ok (.iload_n 3, 1) := by decide +kernel
theorem dX2_may_161 : decode cX2_may 161 = .ok (.bipush 6, 2) := by decide +kernel
theorem dX2_may_163 : decode cX2_may 163 = .ok (.irem, 1) := by decide +kernel
theorem dX2_may_164 : decode cX2_may 164 = .ok (.if_icmp .ne 7, 3) := by decide +kernel
theorem dX2_may_167 : decode cX2_may 167 = .ok (.iconst 1, 1) := by decide +kernel
theorem dX2_may_168 : decode cX2_may 168 = .ok (.goto 4, 3) := by decide +kernel
theorem dX2_may_171 : decode cX2_may 171 = .ok (.iconst 0, 1) := by decide +kernel
theorem dX2_may_172 : decode cX2_may 172 = .ok (.ireturn, 1) := by decide +kernel
theorem dX2_may_173 : decode cX2_may 173 = .ok (.aload_n 0, 1) := by decide +kernel
theorem dX2_may_174 : decode cX2_may 174 = .ok (.getfield 17, 3) := by decide +kernel
theorem dX2_may_177 : decode cX2_may 177 = .ok (.iconst 3, 1) := by decide +kernel
theorem dX2_may_178 : decode cX2_may 178 = .ok (.aaload, 1) := by decide +kernel
theorem dX2_may_179 : decode cX2_may 179 = .ok (.iload_n 2, 1) := by decide +kernel
theorem dX2_may_180 : decode cX2_may 180 = .ok (.iaload, 1) := by decide +kernel
theorem dX2_may_181 : decode cX2_may 181 = .ok (.iload_n 3, 1) := by decide +kernel
theorem dX2_may_182 : decode cX2_may 182 = .ok (.if_icmp .lt 7, 3) := by decide +kernel
theorem dX2_may_185 : decode cX2_may 185 = .ok (.iconst 1, 1) := by decide +kernel
theorem dX2_may_186 : decode cX2_may 186 = .ok (.goto 4, 3) := by decide +kernel
theorem dX2_may_189 : decode cX2_may 189 = .ok (.iconst 0, 1) := by decide +kernel
theorem dX2_may_190 : decode cX2_may 190 = .ok (.ireturn, 1) := by decide +kernel
theorem dX2_may_191 : decode cX2_may 191 = .ok (.aload_n 0, 1) := by decide +kernel
theorem dX2_may_192 : decode cX2_may 192 = .ok (.getfield 17, 3) := by decide +kernel
theorem dX2_may_195 : decode cX2_may 195 = .ok (.iconst 4, 1) := by decide +kernel
theorem dX2_may_196 : decode cX2_may 196 = .ok (.aaload, 1) := by decide +kernel
theorem dX2_may_197 : decode cX2_may 197 = .ok (.iload_n 2, 1) := by decide +kernel
theorem dX2_may_198 : decode cX2_may 198 = .ok (.iaload, 1) := by decide +kernel
theorem dX2_may_199 : decode cX2_may 199 = .ok (.aload_n 0, 1) := by decide +kernel
theorem dX2_may_200 : decode cX2_may 200 = .ok (.getfield 17, 3) := by decide +kernel
theorem dX2_may_203 : decode cX2_may 203 = .ok (.iconst 4, 1) := by decide +kernel
theorem dX2_may_204 : decode cX2_may 204 = .ok (.aaload, 1) := by decide +kernel
theorem dX2_may_205 : decode cX2_may 205 = .ok (.iload_n 1, 1) := by decide +kernel
theorem dX2_may_206 : decode cX2_may 206 = .ok (.iaload, 1) := by decide +kernel
theorem dX2_may_207 : decode cX2_may 207 = .ok (.isub, 1) := by decide +kernel
theorem dX2_may_208 : decode cX2_may 208 = .ok (.iload_n 3, 1) := by decide +kernel
theorem dX2_may_209 : decode cX2_may 209 = .ok (.if_icmp .lt 7, 3) := by decide +kernel
theorem dX2_may_212 : decode cX2_may 212 = .ok (.iconst 1, 1) := by decide +kernel
theorem dX2_may_213 : decode cX2_may 213 = .ok (.goto 4, 3) := by decide +kernel
theorem dX2_may_216 : decode cX2_may 216 = .ok (.iconst 0, 1) := by decide +kernel
theorem dX2_may_217 : decode cX2_may 217 = .ok (.ireturn, 1) := by decide +kernel
set_option maxRecDepth 20000 in
theorem ggX2_prey_X2_isThere : GoodIn wsX2_prey wsX2_isThere := goodIn_r _ [7, 2, 19, 20, 21, 22] (by decide +kernel) (by decide +kernel)
set_option maxRecDepth 20000 in
theorem gX2_prey_X2_isThere : GoodIn wsX2_prey (wsV RX2 36 RX2 yX2_isThere wsX2_isThere) := goodIn_app (goodIn_of _ (by decide +kernel)) ggX2_prey_X2_isThere
set_option maxRecDepth 20000 in
theorem ggX2_prey_X2_around : GoodIn wsX2_prey wsX2_around := goodIn_r _ [10] (by decide +kernel) (by decide +kernel)
set_option maxRecDepth 20000 in
theorem gX2_prey_X2_around : GoodIn wsX2_prey (va_wsS RX2 44 yX2_around wsX2_around) := goodIn_app (goodIn_of _ (by decide +kernel)) ggX2_prey_X2_around
set_option maxRecDepth 20000 in
theorem ggX2_prey_X2_may : GoodIn wsX2_prey wsX2_may := goodIn_r _ [14, 2, 3, 4, 5, 6, 7, 15, 16, 17, 18, 19, 20, 21, 22] (by decide +kernel) (by decide +kernel)
set_option maxRecDepth 20000 in
theorem gX2_prey_X2_may : GoodIn wsX2_prey (wsV RX2 48 RX2 yX2_may wsX2_may) := goodIn_app (goodIn_of _ (by decide +kernel)) ggX2_prey_X2_may
theorem dX2_prey_0 : decode cX2_prey 0 = .ok (.aload_n 0, 1) := by decide +kernel
theorem dX2_prey_1 : decode cX2_prey 1 = .ok (.iload_n 1, 1) := by decide +kernel
theorem dX2_prey_2 : decode cX2_prey 2 = .ok (.invokevirtual 36, 3) := by decide +kernel
theorem dX2_prey_5 : decode cX2_prey 5 = .ok (.ifCond .ne 5, 3) := by decide +kernel
theorem dX2_prey_8 : decode cX2_prey 8 = .ok (.iconst (-1), 1) := by decide +kernel
theorem dX2_prey_9 : decode cX2_prey 9 = .ok (.ireturn, 1) := by decide +kernel
theorem dX2_prey_10 : decode cX2_prey 10 = .ok (.iconst 0, 1) := by decide +kernel
theorem dX2_prey_11 : decode cX2_prey 11 = .ok (.istore_n 2, 1) := by decide +kernel
theorem dX2_prey_12 : decode cX2_prey 12 = .ok (.iload_n 2, 1) := by decide +kernel
theorem dX2_prey_13 : decode cX2_prey 13 = .ok (.bipush 6, 2) := by decide +kernel
theorem dX2_prey_15 : decode cX2_prey 15 = .ok (.if_icmp .ge 44, 3) := by decide +kernel
theorem dX2_prey_18 : decode cX2_prey 18 = .ok (.aload_n 0, 1) := by decide +kernel
theorem dX2_prey_19 : decode cX2_prey 19 = .ok (.getfield 9, 3) := by decide +kernel
theorem dX2_prey_22 : decode cX2_prey 22 = .ok (.aload_n 0, 1) := by decide +kernel
theorem dX2_prey_23 : decode cX2_prey 23 = .ok (.getfield 17, 3) := by decide +kernel
theorem dX2_prey_26 : decode cX2_prey 26 = .ok (.bipush 8, 2) := by decide +kernel
theorem dX2_prey_28 : decode cX2_prey 28 = .ok (.aaload, 1) := by decide +kernel
theorem dX2_prey_29 : decode cX2_prey 29 = .ok (.iload_n 1, 1) := by decide +kernel
theorem dX2_prey_30 : decode cX2_prey 30 = .ok (.iaload, 1) := by decide +kernel
theorem dX2_prey_31 : decode cX2_prey 31 = .ok (.iload_n 2, 1) := by decide +kernel
theorem dX2_prey_32 : decode cX2_prey 32 = .ok (.invokestatic 44, 3) := by decide +kernel
theorem dX2_prey_35 : decode cX2_prey 35 = .ok (.iaload, 1) := by decide +kernel
theorem dX2_prey_36 : decode cX2_prey 36 = .ok (.istore_n 3, 1) := by decide +kernel
theorem dX2_prey_37 : decode cX2_prey 37 = .ok (.iload_n 3, 1) := by decide +kernel
theorem dX2_prey_38 : decode cX2_prey 38 = .ok (.iconst (-1), 1) := by decide +kernel
theorem dX2_prey_39 : decode cX2_prey 39 = .ok (.if_icmp .eq 14, 3) := by decide +kernel
theorem dX2_prey_42 : decode cX2_prey 42 = .ok (.aload_n 0, 1) := by decide +kernel
theorem dX2_prey_43 : decode cX2_prey 43 = .ok (.iload_n 1, 1) := by decide +kernel
theorem dX2_prey_44 : decode cX2_prey 44 = .ok (.iload_n 3, 1) := by decide +kernel
theorem dX2_prey_45 : decode cX2_prey 45 = .ok (.invokevirtual 48, 3) := by decide +kernel
theorem dX2_prey_48 : decode cX2_prey 48 = .ok (.ifCond .eq 5, 3) := by decide +kernel
theorem dX2_prey_51 : decode cX2_prey 51 = .ok (.iload_n 3, 1) := by decide +kernel
theorem dX2_prey_52 : decode cX2_prey 52 = .ok (.ireturn, 1) := by decide +kernel
theorem dX2_prey_53 : decode cX2_prey 53 = .ok (.iinc 2 1, 3) := by decide +kernel
theorem dX2_prey_56 : decode cX2_prey 56 = .ok (.goto (-44), 3) := by decide +kernel
theorem dX2_prey_59 : decode cX2_prey 59 = .ok (.iconst (-1), 1) := by decide +kernel
theorem dX2_prey_60 : decode cX2_prey 60 = .ok (.ireturn, 1) := by decide +kernel
theorem dX2_are_0 : decode cX2_are 0 = .ok (.iconst 0, 1) := by decide +kernel
theorem dX2_are_1 : decode cX2_are 1 = .ok (.istore_n 2, 1) := by decide +kernel
theorem dX2_are_2 : decode cX2_are 2 = .ok (.iconst 0, 1) := by decide +kernel
theorem dX2_are_3 : decode cX2_are 3 = .ok (.istore_n 3, 1) := by decide +kernel
theorem dX2_are_4 : decode cX2_are 4 = .ok (.iload_n 3, 1) := by decide +kernel
theorem dX2_are_5 : decode cX2_are 5 = .ok (.aload_n 0, 1) := by decide +kernel
theorem dX2_are_6 : decode cX2_are 6 = .ok (.getfield 24, 3) := by decide +kernel
theorem dX2_are_9 : decode cX2_are 9 = .ok (.if_icmp .ge 30, 3) := by decide +kernel
theorem dX2_are_12 : decode cX2_are 12 = .ok (.iload_n 2, 1) := by decide +kernel
theorem dX2_are_13 : decode cX2_are 13 = .ok (.aload_n 0, 1) := by decide +kernel
theorem dX2_are_14 : decode cX2_are 14 = .ok (.getfield 17, 3) := by decide +kernel
theorem dX2_are_17 : decode cX2_are 17 = .ok (.bipush 9, 2) := by decide +kernel
theorem dX2_are_19 : decode cX2_are 19 = .ok (.aaload, 1) := by decide +kernel
theorem dX2_are_20 : decode cX2_are 20 = .ok (.iload_n 3, 1) := by decide +kernel
theorem dX2_are_21 : decode cX2_are 21 = .ok (.iaload, 1) := by decide +kernel
theorem dX2_are_22 : decode cX2_are 22 = .ok (.iload_n 1, 1) := by decide +kernel
theorem dX2_are_23 : decode cX2_are 23 = .ok (.if_icmp .ne 7, 3) := by decide +kernel
theorem dX2_are_26 : decode cX2_are 26 = .ok (.iconst 1, 1) := by decide +kernel
theorem dX2_are_27 : decode cX2_are 27 = .ok (.goto 4, 3) := by decide +kernel
theorem dX2_are_30 : decode cX2_are 30 = .ok (.iconst 0, 1) := by decide +kernel
theorem dX2_are_31 : decode cX2_are 31 = .ok (.iadd, 1) := by decide +kernel
theorem dX2_are_32 : decode cX2_are 32 = .ok (.istore_n 2, 1) := by decide +kernel
theorem dX2_are_33 : decode cX2_are 33 = .ok (.iinc 3 1, 3) := by decide +kernel
theorem dX2_are_36 : decode cX2_are 36 = .ok (.goto (-32), 3) := by decide +kernel
theorem dX2_are_39 : decode cX2_are 39 = .ok (.iload_n 2, 1) := by decide +kernel
theorem dX2_are_40 : decode cX2_are 40 = .ok (.ireturn, 1) := by decide +kernel
set_option maxRecDepth 20000 in
theorem ggX2_hungers_X2_isThere : GoodIn wsX2_hungers wsX2_isThere := goodIn_r _ [7, 2, 8, 9, 10, 11] (by decide +kernel) (by decide +kernel)
set_option maxRecDepth 20000 in
theorem gX2_hungers_X2_isThere : GoodIn wsX2_hungers (wsV RX2 36 RX2 yX2_isThere wsX2_isThere) := goodIn_app (goodIn_of _ (by decide +kernel)) ggX2_hungers_X2_isThere
theorem dX2_hungers_0 : decode cX2_hungers 0 = .ok (.iconst 0, 1) := by decide +kernel
theorem dX2_hungers_1 : decode cX2_hungers 1 = .ok (.istore_n 1, 1) := by decide +kernel
theorem dX2_hungers_2 : decode cX2_hungers 2 = .ok (.iconst 0, 1) := by decide +kernel
theorem dX2_hungers_3 : decode cX2_hungers 3 = .ok (.istore_n 2, 1) := by decide +kernel
theorem dX2_hungers_4 : decode cX2_hungers 4 = .ok (.iload_n 2, 1) := by decide +kernel
theorem dX2_hungers_5 : decode cX2_hungers 5 = .ok (.aload_n 0, 1) := by decide +kernel
theorem dX2_hungers_6 : decode cX2_hungers 6 = .ok (.getfield 24, 3) := by decide +kernel
theorem dX2_hungers_9 : decode cX2_hungers 9 = .ok (.if_icmp .ge 32, 3) := by decide +kernel
theorem dX2_hungers_12 : decode cX2_hungers 12 = .ok (.iload_n 1, 1) := by decide +kernel
theorem dX2_hungers_13 : decode cX2_hungers 13 = .ok (.aload_n 0, 1) := by decide +kernel
theorem dX2_hungers_14 : decode cX2_hungers 14 = .ok (.iload_n 2, 1) := by decide +kernel
theorem dX2_hungers_15 : decode cX2_hungers 15 = .ok (.invokevirtual 36, 3) := by decide +kernel
theorem dX2_hungers_18 : decode cX2_hungers 18 = .ok (.ifCond .eq 14, 3) := by decide +kernel
theorem dX2_hungers_21 : decode cX2_hungers 21 = .ok (.aload_n 0, 1) := by decide +kernel
theorem dX2_hungers_22 : decode cX2_hungers 22 = .ok (.getfield 17, 3) := by decide +kernel
theorem dX2_hungers_25 : decode cX2_hungers 25 = .ok (.iconst 3, 1) := by decide +kernel
theorem dX2_hungers_26 : decode cX2_hungers 26 = .ok (.aaload, 1) := by decide +kernel
theorem dX2_hungers_27 : decode cX2_hungers 27 = .ok (.iload_n 2, 1) := by decide +kernel
theorem dX2_hungers_28 : decode cX2_hungers 28 = .ok (.iaload, 1) := by decide +kernel
theorem dX2_hungers_29 : decode cX2_hungers 29 = .ok (.goto 4, 3) := by decide +kernel
theorem dX2_hungers_32 : decode cX2_hungers 32 = .ok (.iconst 0, 1) := by decide +kernel
theorem dX2_hungers_33 : decode cX2_hungers 33 = .ok (.iadd, 1) := by decide +kernel
theorem dX2_hungers_34 : decode cX2_hungers 34 = .ok (.istore_n 1, 1) := by decide +kernel
theorem dX2_hungers_35 : decode cX2_hungers 35 = .ok (.iinc 2 1, 3) := by decide +kernel
theorem dX2_hungers_38 : decode cX2_hungers 38 = .ok (.goto (-34), 3) := by decide +kernel
theorem dX2_hungers_41 : decode cX2_hungers 41 = .ok (.iload_n 1, 1) := by decide +kernel
theorem dX2_hungers_42 : decode cX2_hungers 42 = .ok (.ireturn, 1) := by decide +kernel
theorem dX2_add_0 : decode cX2_add 0 = .ok (.aload_n 0, 1) := by decide +kernel
theorem dX2_add_1 : decode cX2_add 1 = .ok (.getfield 17, 3) := by decide +kernel
theorem dX2_add_4 : decode cX2_add 4 = .ok (.astore 5, 2) := by decide +kernel
theorem dX2_add_6 : decode cX2_add 6 = .ok (.aload 5, 2) := by decide +kernel
theorem dX2_add_8 : decode cX2_add 8 = .ok (.arraylength, 1) := by decide +kernel
theorem dX2_add_9 : decode cX2_add 9 = .ok (.istore 6, 2) := by decide +kernel
theorem dX2_add_11 : decode cX2_add 11 = .ok (.iconst 0, 1) := by decide +kernel
theorem dX2_add_12 : decode cX2_add 12 = .ok (.istore 7, 2) := by decide +kernel
theorem dX2_add_14 : decode cX2_add 14 = .ok (.iload 7, 2) := by decide +kernel
theorem dX2_add_16 : decode cX2_add 16 = .ok (.iload 6, 2) := by decide +kernel
theorem dX2_add_18 : decode cX2_add 18 = .ok (.if_icmp .ge 24, 3) := by decide +kernel
theorem dX2_add_21 : decode cX2_add 21 = .ok (.aload 5, 2) := by decide +kernel
theorem dX2_add_23 : decode cX2_add 23 = .ok (.iload 7, 2) := by decide +kernel
theorem dX2_add_25 : decode cX2_add 25 = .ok (.aaload, 1) := by decide +kernel
theorem dX2_add_26 : decode cX2_add 26 = .ok (.astore 8, 2) := by decide +kernel
theorem dX2_add_28 : decode cX2_add 28 = .ok (.aload 8, 2) := by decide +kernel
theorem dX2_add_30 : decode cX2_add 30 = .ok (.aload_n 0, 1) := by decide +kernel
theorem dX2_add_31 : decode cX2_add 31 = .ok (.getfield 24, 3) := by decide +kernel
theorem dX2_add_34 : decode cX2_add 34 = .ok (.iconst 0, 1) := by decide +kernel
theorem dX2_add_35 : decode cX2_add 35 = .ok (.iastore, 1) := by decide +kernel
theorem dX2_add_36 : decode cX2_add 36 = .ok (.iinc 7 1, 3) := by decide +kernel
theorem dX2_add_39 : decode cX2_add 39 = .ok (.goto (-25), 3) := by decide +kernel
theorem dX2_add_42 : decode cX2_add 42 = .ok (.aload_n 0, 1) := by decide +kernel
theorem dX2_add_43 : decode cX2_add 43 = .ok (.getfield 17, 3) := by decide +kernel
theorem dX2_add_46 : decode cX2_add 46 = .ok (.iconst 0, 1) := by decide +kernel
theorem dX2_add_47 : decode cX2_add 47 = .ok (.aaload, 1) := by decide +kernel
theorem dX2_add_48 : decode cX2_add 48 = .ok (.aload_n 0, 1) := by decide +kernel
theorem dX2_add_49 : decode cX2_add 49 = .ok (.getfield 24, 3) := by decide +kernel
theorem dX2_add_52 : decode cX2_add 52 = .ok (.iload_n 2, 1) := by decide +kernel
theorem dX2_add_53 : decode cX2_add 53 = .ok (.iastore, 1) := by decide +kernel
theorem dX2_add_54 : decode cX2_add 54 = .ok (.aload_n 0, 1) := by decide +kernel
theorem dX2_add_55 : decode cX2_add 55 = .ok (.getfield 17, 3) := by decide +kernel
theorem dX2_add_58 : decode cX2_add 58 = .ok (.iconst 1, 1) := by decide +kernel
theorem dX2_add_59 : decode cX2_add 59 = .ok (.aaload, 1) := by decide +kernel
theorem dX2_add_60 : decode cX2_add 60 = .ok (.aload_n 0, 1) := by decide +kernel
theorem dX2_add_61 : decode cX2_add 61 = .ok (.getfield 24, 3) := by decide +kernel
theorem dX2_add_64 : decode cX2_add 64 = .ok (.iload_n 3, 1) := by decide +kernel
theorem dX2_add_65 : decode cX2_add 65 = .ok (.iastore, 1) := by decide +kernel
theorem dX2_add_66 : decode cX2_add 66 = .ok (.aload_n 0, 1) := by decide +kernel
theorem dX2_add_67 : decode cX2_add 67 = .ok (.getfield 17, 3) := by decide +kernel
theorem dX2_add_70 : decode cX2_add 70 = .ok (.bipush 7, 2) := by decide +kernel
theorem dX2_add_72 : decode cX2_add 72 = .ok (.aaload, 1) := by decide +kernel
theorem dX2_add_73 : decode cX2_add 73 = .ok (.aload_n 0, 1) := by decide +kernel
theorem dX2_add_74 : decode cX2_add 74 = .ok (.getfield 24, 3) := by decide +kernel
theorem dX2_add_77 : decode cX2_add 77 = .ok (.iload 4, 2) := by decide +kernel
theorem dX2_add_79 : decode cX2_add 79 = .ok (.iastore, 1) := by decide +kernel
theorem dX2_add_80 : decode cX2_add 80 = .ok (.aload_n 0, 1) := by decide +kernel
theorem dX2_add_81 : decode cX2_add 81 = .ok (.getfield 17, 3) := by decide +kernel
theorem dX2_add_84 : decode cX2_add 84 = .ok (.bipush 8, 2) := by decide +kernel
theorem dX2_add_86 : decode cX2_add 86 = .ok (.aaload, 1) := by decide +kernel
theorem dX2_add_87 : decode cX2_add 87 = .ok (.aload_n 0, 1) := by decide +kernel
theorem dX2_add_88 : decode cX2_add 88 = .ok (.getfield 24, 3) := by decide +kernel
theorem dX2_add_91 : decode cX2_add 91 = .ok (.iload_n 1, 1) := by decide +kernel
theorem dX2_add_92 : decode cX2_add 92 = .ok (.iastore, 1) := by decide +kernel
theorem dX2_add_93 : decode cX2_add 93 = .ok (.aload_n 0, 1) := by decide +kernel
theorem dX2_add_94 : decode cX2_add 94 = .ok (.getfield 17, 3) := by decide +kernel
theorem dX2_add_97 : decode cX2_add 97 = .ok (.bipush 11, 2) := by decide +kernel
theorem dX2_add_99 : decode cX2_add 99 = .ok (.aaload, 1) := by decide +kernel
theorem dX2_add_100 : decode cX2_add 100 = .ok (.aload_n 0, 1) := by decide +kernel
theorem dX2_add_101 : decode cX2_add 101 = .ok (.getfield 24, 3) := by decide +kernel
theorem dX2_add_104 : decode cX2_add 104 = .ok (.iconst (-1), 1) := by decide +kernel
theorem dX2_add_105 : decode cX2_add 105 = .ok (.iastore, 1) := by decide +kernel
theorem dX2_add_106 : decode cX2_add 106 = .ok (.aload_n 0, 1) := by decide +kernel
theorem dX2_add_107 : decode cX2_add 107 = .ok (.getfield 9, 3) := by decide +kernel
theorem dX2_add_110 : decode cX2_add 110 = .ok (.iload_n 1, 1) := by decide +kernel
theorem dX2_add_111 : decode cX2_add 111 = .ok (.aload_n 0, 1) := by decide +kernel
theorem dX2_add_112 : decode cX2_add 112 = .ok (.getfield 24, 3) := by decide +kernel
theorem dX2_add_115 : decode cX2_add 115 = .ok (.iastore, 1) := by decide +kernel
theorem dX2_add_116 : decode cX2_add 116 = .ok (.aload_n 0, 1) := by decide +kernel
theorem dX2_add_117 : decode cX2_add 117 = .ok (.dup, 1) := by decide +kernel
theorem dX2_add_118 : decode cX2_add 118 = .ok (.getfield 24, 3) := by decide +kernel
theorem dX2_add_121 : decode cX2_add 121 = .ok (.iconst 1, 1) := by decide +kernel
theorem dX2_add_122 : decode cX2_add 122 = .ok (.iadd, 1) := by decide +kernel
theorem dX2_add_123 : decode cX2_add 123 = .ok (.putfield 24, 3) := by decide +kernel
theorem dX2_add_126 : decode cX2_add 126 = .ok (.aload_n 0, 1) := by decide +kernel
theorem dX2_add_127 : decode cX2_add 127 = .ok (.getfield 24, 3) := by decide +kernel
theorem dX2_add_130 : decode cX2_add 130 = .ok (.iconst 1, 1) := by decide +kernel
theorem dX2_add_131 : decode cX2_add 131 = .ok (.isub, 1) := by decide +kernel
theorem dX2_add_132 : decode cX2_add 132 = .ok (.ireturn, 1) := by decide +kernel
theorem dX2_goes_0 : decode cX2_goes 0 = .ok (.aload_n 0, 1) := by decide +kernel
theorem dX2_goes_1 : decode cX2_goes 1 = .ok (.getfield 9, 3) := by decide +kernel
theorem dX2_goes_4 : decode cX2_goes 4 = .ok (.aload_n 0, 1) := by decide +kernel
theorem dX2_goes_5 : decode cX2_goes 5 = .ok (.getfield 17, 3) := by decide +kernel
theorem dX2_goes_8 : decode cX2_goes 8 = .ok (.bipush 8, 2) := by decide +kernel
theorem dX2_goes_10 : decode cX2_goes 10 = .ok (.aaload, 1) := by decide +kernel
theorem dX2_goes_11 : decode cX2_goes 11 = .ok (.iload_n 1, 1) := by decide +kernel
theorem dX2_goes_12 : decode cX2_goes 12 = .ok (.iaload, 1) := by decide +kernel
theorem dX2_goes_13 : decode cX2_goes 13 = .ok (.iconst (-1), 1) := by decide +kernel
theorem dX2_goes_14 : decode cX2_goes 14 = .ok (.iastore, 1) := by decide +kernel
theorem dX2_goes_15 : decode cX2_goes 15 = .ok (.aload_n 0, 1) := by decide +kernel
theorem dX2_goes_16 : decode cX2_goes 16 = .ok (.getfield 17, 3) := by decide +kernel
theorem dX2_goes_19 : decode cX2_goes 19 = .ok (.bipush 8, 2) := by decide +kernel
theorem dX2_goes_21 : decode cX2_goes 21 = .ok (.aaload, 1) := by decide +kernel
theorem dX2_goes_22 : decode cX2_goes 22 = .ok (.iload_n 1, 1) := by decide +kernel
theorem dX2_goes_23 : decode cX2_goes 23 = .ok (.iconst (-1), 1) := by decide +kernel
theorem dX2_goes_24 : decode cX2_goes 24 = .ok (.iastore, 1) := by decide +kernel
theorem dX2_goes_25 : decode cX2_goes 25 = .ok (.aload_n 0, 1) := by decide +kernel
theorem dX2_goes_26 : decode cX2_goes 26 = .ok (.getfield 17, 3) := by decide +kernel
theorem dX2_goes_29 : decode cX2_goes 29 = .ok (.bipush 9, 2) := by decide +kernel
theorem dX2_goes_31 : decode cX2_goes 31 = .ok (.aaload, 1) := by decide +kernel
theorem dX2_goes_32 : decode cX2_goes 32 = .ok (.iload_n 1, 1) := by decide +kernel
theorem dX2_goes_33 : decode cX2_goes 33 = .ok (.iload_n 2, 1) := by decide +kernel
theorem dX2_goes_34 : decode cX2_goes 34 = .ok (.iastore, 1) := by decide +kernel
theorem dX2_goes_35 : decode cX2_goes 35 = .ok (.return_, 1) := by decide +kernel
set_option maxRecDepth 20000 in
theorem ggX2_eats_X2_prey : GoodIn wsX2_eats wsX2_prey := goodIn_r _ [10, 11, 1, 12, 13, 14, 9, 15, 16, 17, 18, 19, 20, 21, 22, 23, 24, 25, 26, 31, 32, 33, 34] (by decide +kernel) (by decide +kernel)
set_option maxRecDepth 20000 in
theorem gX2_eats_X2_prey : GoodIn wsX2_eats (wsV RX2 52 RX2 yX2_prey wsX2_prey) := goodIn_app (goodIn_of _ (by decide +kernel)) ggX2_eats_X2_prey
set_option maxRecDepth 20000 in
theorem ggX2_eats_X2_goes : GoodIn wsX2_eats wsX2_goes := goodIn_r _ [30, 11, 1, 31, 32, 33, 34] (by decide +kernel) (by decide +kernel)
set_option maxRecDepth 20000 in
theorem gX2_eats_X2_goes : GoodIn wsX2_eats (wsV RX2 55 RX2 yX2_goes wsX2_goes) := goodIn_app (goodIn_of _ (by decide +kernel)) ggX2_eats_X2_goes
theorem dX2_eats_0 : decode cX2_eats 0 = .ok (.aload_n 0, 1) := by decide +kernel
theorem dX2_eats_1 : decode cX2_eats 1 = .ok (.iload_n 1, 1) := by decide +kernel
theorem dX2_eats_2 : decode cX2_eats 2 = .ok (.invokevirtual 52, 3) := by decide +kernel
theorem dX2_eats_5 : decode cX2_eats 5 = .ok (.istore_n 2, 1) := by decide +kernel
theorem dX2_eats_6 : decode cX2_eats 6 = .ok (.iload_n 2, 1) := by decide +kernel
theorem dX2_eats_7 : decode cX2_eats 7 = .ok (.iconst (-1), 1) := by decide +kernel
theorem dX2_eats_8 : decode cX2_eats 8 = .ok (.if_icmp .ne 5, 3) := by decide +kernel
theorem dX2_eats_11 : decode cX2_eats 11 = .ok (.iconst 0, 1) := by decide +kernel
theorem dX2_eats_12 : decode cX2_eats 12 = .ok (.ireturn, 1) := by decide +kernel
theorem dX2_eats_13 : decode cX2_eats 13 = .ok (.aload_n 0, 1) := by decide +kernel
theorem dX2_eats_14 : decode cX2_eats 14 = .ok (.iload_n 2, 1) := by decide +kernel
theorem dX2_eats_15 : decode cX2_eats 15 = .ok (.iconst 1, 1) := by decide +kernel
theorem dX2_eats_16 : decode cX2_eats 16 = .ok (.invokevirtual 55, 3) := by decide +kernel
theorem dX2_eats_19 : decode cX2_eats 19 = .ok (.aload_n 0, 1) := by decide +kernel
theorem dX2_eats_20 : decode cX2_eats 20 = .ok (.getfield 17, 3) := by decide +kernel
theorem dX2_eats_23 : decode cX2_eats 23 = .ok (.bipush 11, 2) := by decide +kernel
theorem dX2_eats_25 : decode cX2_eats 25 = .ok (.aaload, 1) := by decide +kernel
theorem dX2_eats_26 : decode cX2_eats 26 = .ok (.iload_n 2, 1) := by decide +kernel
theorem dX2_eats_27 : decode cX2_eats 27 = .ok (.iload_n 1, 1) := by decide +kernel
theorem dX2_eats_28 : decode cX2_eats 28 = .ok (.iastore, 1) := by decide +kernel
theorem dX2_eats_29 : decode cX2_eats 29 = .ok (.aload_n 0, 1) := by decide +kernel
theorem dX2_eats_30 : decode cX2_eats 30 = .ok (.getfield 17, 3) := by decide +kernel
theorem dX2_eats_33 : decode cX2_eats 33 = .ok (.iconst 2, 1) := by decide +kernel
theorem dX2_eats_34 : decode cX2_eats 34 = .ok (.aaload, 1) := by decide +kernel
theorem dX2_eats_35 : decode cX2_eats 35 = .ok (.iload_n 1, 1) := by decide +kernel
theorem dX2_eats_36 : decode cX2_eats 36 = .ok (.iload_n 2, 1) := by decide +kernel
theorem dX2_eats_37 : decode cX2_eats 37 = .ok (.iastore, 1) := by decide +kernel
theorem dX2_eats_38 : decode cX2_eats 38 = .ok (.aload_n 0, 1) := by decide +kernel
theorem dX2_eats_39 : decode cX2_eats 39 = .ok (.getfield 17, 3) := by decide +kernel
theorem dX2_eats_42 : decode cX2_eats 42 = .ok (.iconst 3, 1) := by decide +kernel
theorem dX2_eats_43 : decode cX2_eats 43 = .ok (.aaload, 1) := by decide +kernel
theorem dX2_eats_44 : decode cX2_eats 44 = .ok (.iload_n 1, 1) := by decide +kernel
theorem dX2_eats_45 : decode cX2_eats 45 = .ok (.iconst 0, 1) := by decide +kernel
theorem dX2_eats_46 : decode cX2_eats 46 = .ok (.aload_n 0, 1) := by decide +kernel
theorem dX2_eats_47 : decode cX2_eats 47 = .ok (.getfield 17, 3) := by decide +kernel
theorem dX2_eats_50 : decode cX2_eats 50 = .ok (.iconst 3, 1) := by decide +kernel
theorem dX2_eats_51 : decode cX2_eats 51 = .ok (.aaload, 1) := by decide +kernel
theorem dX2_eats_52 : decode cX2_eats 52 = .ok (.iload_n 1, 1) := by decide +kernel
theorem dX2_eats_53 : decode cX2_eats 53 = .ok (.iaload, 1) := by decide +kernel
theorem dX2_eats_54 : decode cX2_eats 54 = .ok (.iconst 2, 1) := by decide +kernel
theorem dX2_eats_55 : decode cX2_eats 55 = .ok (.isub, 1) := by decide +kernel
theorem dX2_eats_56 : decode cX2_eats 56 = .ok (.invokestatic 59, 3) := by decide +kernel
theorem dX2_eats_59 : decode cX2_eats 59 = .ok (.iastore, 1) := by decide +kernel
theorem dX2_eats_60 : decode cX2_eats 60 = .ok (.aload_n 0, 1) := by decide +kernel
theorem dX2_eats_61 : decode cX2_eats 61 = .ok (.getfield 17, 3) := by decide +kernel
theorem dX2_eats_64 : decode cX2_eats 64 = .ok (.iconst 5, 1) := by decide +kernel
theorem dX2_eats_65 : decode cX2_eats 65 = .ok (.aaload, 1) := by decide +kernel
theorem dX2_eats_66 : decode cX2_eats 66 = .ok (.iload_n 1, 1) := by decide +kernel
theorem dX2_eats_67 : decode cX2_eats 67 = .ok (.dup2, 1) := by decide +kernel
theorem dX2_eats_68 : decode cX2_eats 68 = .ok (.iaload, 1) := by decide +kernel
theorem dX2_eats_69 : decode cX2_eats 69 = .ok (.iconst 1, 1) := by decide +kernel
theorem dX2_eats_70 : decode cX2_eats 70 = .ok (.iadd, 1) := by decide +kernel
theorem dX2_eats_71 : decode cX2_eats 71 = .ok (.iastore, 1) := by decide +kernel
theorem dX2_eats_72 : decode cX2_eats 72 = .ok (.aload_n 0, 1) := by decide +kernel
theorem dX2_eats_73 : decode cX2_eats 73 = .ok (.getfield 17, 3) := by decide +kernel
theorem dX2_eats_76 : decode cX2_eats 76 = .ok (.bipush 6, 2) := by decide +kernel
theorem dX2_eats_78 : decode cX2_eats 78 = .ok (.aaload, 1) := by decide +kernel
theorem dX2_eats_79 : decode cX2_eats 79 = .ok (.iload_n 1, 1) := by decide +kernel
theorem dX2_eats_80 : decode cX2_eats 80 = .ok (.dup2, 1) := by decide +kernel
theorem dX2_eats_81 : decode cX2_eats 81 = .ok (.iaload, 1) := by decide +kernel
theorem dX2_eats_82 : decode cX2_eats 82 = .ok (.iconst 1, 1) := by decide +kernel
theorem dX2_eats_83 : decode cX2_eats 83 = .ok (.iadd, 1) := by decide +kernel
theorem dX2_eats_84 : decode cX2_eats 84 = .ok (.iastore, 1) := by decide +kernel
theorem dX2_eats_85 : decode cX2_eats 85 = .ok (.iconst 1, 1) := by decide +kernel
theorem dX2_eats_86 : decode cX2_eats 86 = .ok (.ireturn, 1) := by decide +kernel
set_option maxRecDepth 20000 in
theorem ggX2_hungers__X2_goes : GoodIn wsX2_hungers_ wsX2_goes := goodIn_r _ [6, 7, 1, 8, 9, 10, 11] (by decide +kernel) (by decide +kernel)
set_option maxRecDepth 20000 in
theorem gX2_hungers__X2_goes : GoodIn wsX2_hungers_ (wsV RX2 55 RX2 yX2_goes wsX2_goes) := goodIn_app (goodIn_of _ (by decide +kernel)) ggX2_hungers__X2_goes
theorem dX2_hungers__0 : decode cX2_hungers_ 0 = .ok (.aload_n 0, 1) := by decide +kernel
theorem dX2_hungers__1 : decode cX2_hungers_ 1 = .ok (.getfield 17, 3) := by decide +kernel
theorem dX2_hungers__4 : decode cX2_hungers_ 4 = .ok (.iconst 3, 1) := by decide +kernel
theorem dX2_hungers__5 : decode cX2_hungers_ 5 = .ok (.aaload, 1) := by decide +kernel
theorem dX2_hungers__6 : decode cX2_hungers_ 6 = .ok (.iload_n 1, 1) := by decide +kernel
theorem dX2_hungers__7 : decode cX2_hungers_ 7 = .ok (.dup2, 1) := by decide +kernel
theorem dX2_hungers__8 : decode cX2_hungers_ 8 = .ok (.iaload, 1) := by decide +kernel
theorem dX2_hungers__9 : decode cX2_hungers_ 9 = .ok (.iconst 1, 1) := by decide +kernel
theorem dX2_hungers__10 : decode cX2_hungers_ 10 = .ok (.iadd, 1) := by decide +kernel
theorem dX2_hungers__11 : decode cX2_hungers_ 11 = .ok (.iastore, 1) := by decide +kernel
theorem dX2_hungers__12 : decode cX2_hungers_ 12 = .ok (.aload_n 0, 1) := by decide +kernel
theorem dX2_hungers__13 : decode cX2_hungers_ 13 = .ok (.getfield 17, 3) := by decide +kernel
theorem dX2_hungers__16 : decode cX2_hungers_ 16 = .ok (.iconst 3, 1) := by decide +kernel
theorem dX2_hungers__17 : decode cX2_hungers_ 17 = .ok (.aaload, 1) := by decide +kernel
theorem dX2_hungers__18 : decode cX2_hungers_ 18 = .ok (.iload_n 1, 1) := by decide +kernel
theorem dX2_hungers__19 : decode cX2_hungers_ 19 = .ok (.iaload, 1) := by decide +kernel
theorem dX2_hungers__20 : decode cX2_hungers_ 20 = .ok (.bipush 9, 2) := by decide +kernel
theorem dX2_hungers__22 : decode cX2_hungers_ 22 = .ok (.if_icmp .le 9, 3) := by decide +kernel
theorem dX2_hungers__25 : decode cX2_hungers_ 25 = .ok (.aload_n 0, 1) := by decide +kernel
theorem dX2_hungers__26 : decode cX2_hungers_ 26 = .ok (.iload_n 1, 1) := by decide +kernel
theorem dX2_hungers__27 : decode cX2_hungers_ 27 = .ok (.iconst 2, 1) := by decide +kernel
theorem dX2_hungers__28 : decode cX2_hungers_ 28 = .ok (.invokevirtual 55, 3) := by decide +kernel
theorem dX2_hungers__31 : decode cX2_hungers_ 31 = .ok (.return_, 1) := by decide +kernel
set_option maxRecDepth 20000 in
theorem ggX2_breeds_X2_isThere : GoodIn wsX2_breeds wsX2_isThere := goodIn_r _ [8, 1, 16, 17, 18, 19] (by decide +kernel) (by decide +kernel)
set_option maxRecDepth 20000 in
theorem gX2_breeds_X2_isThere : GoodIn wsX2_breeds (wsV RX2 36 RX2 yX2_isThere wsX2_isThere) := goodIn_app (goodIn_of _ (by decide +kernel)) ggX2_breeds_X2_isThere
set_option maxRecDepth 20000 in
theorem ggX2_breeds_X2_around : GoodIn wsX2_breeds wsX2_around := goodIn_r _ [11] (by decide +kernel) (by decide +kernel)
set_option maxRecDepth 20000 in
theorem gX2_breeds_X2_around : GoodIn wsX2_breeds (va_wsS RX2 44 yX2_around wsX2_around) := goodIn_app (goodIn_of _ (by decide +kernel)) ggX2_breeds_X2_around
set_option maxRecDepth 20000 in
theorem ggX2_breeds_X2_add : GoodIn wsX2_breeds wsX2_add := goodIn_r _ [15, 1, 2, 3, 16, 17, 18, 19] (by decide +kernel) (by decide +kernel)
set_option maxRecDepth 20000 in
theorem gX2_breeds_X2_add : GoodIn wsX2_breeds (wsV RX2 64 RX2 yX2_add wsX2_add) := goodIn_app (goodIn_of _ (by decide +kernel)) ggX2_breeds_X2_add
theorem dX2_breeds_0 : decode cX2_breeds 0 = .ok (.aload_n 0, 1) := by decide +kernel
theorem dX2_breeds_1 : decode cX2_breeds 1 = .ok (.iload_n 1, 1) := by decide +kernel
theorem dX2_breeds_2 : decode cX2_breeds 2 = .ok (.invokevirtual 36, 3) := by decide +kernel
theorem dX2_breeds_5 : decode cX2_breeds 5 = .ok (.ifCond .eq 24, 3) := by decide +kernel
theorem dX2_breeds_8 : decode cX2_breeds 8 = .ok (.aload_n 0, 1) := by decide +kernel
theorem dX2_breeds_9 : decode cX2_breeds 9 = .ok (.getfield 17, 3) := by decide +kernel
theorem dX2_breeds_12 : decode cX2_breeds 12 = .ok (.iconst 5, 1) := by decide +kernel
theorem dX2_breeds_13 : decode cX2_breeds 13 = .ok (.aaload, 1) := by decide +kernel
theorem dX2_breeds_14 : decode cX2_breeds 14 = .ok (.iload_n 1, 1) := by decide +kernel
theorem dX2_breeds_15 : decode cX2_breeds 15 = .ok (.iaload, 1) := by decide +kernel
theorem dX2_breeds_16 : decode cX2_breeds 16 = .ok (.iconst 2, 1) := by decide +kernel
theorem dX2_breeds_17 : decode cX2_breeds 17 = .ok (.if_icmp .lt 12, 3) := by decide +kernel
theorem dX2_breeds_20 : decode cX2_breeds 20 = .ok (.aload_n 0, 1) := by decide +kernel
theorem dX2_breeds_21 : decode cX2_breeds 21 = .ok (.getfield 24, 3) := by decide +kernel
theorem dX2_breeds_24 : decode cX2_breeds 24 = .ok (.bipush 60, 2) := by decide +kernel
theorem dX2_breeds_26 : decode cX2_breeds 26 = .ok (.if_icmp .ne 4, 3) := by decide +kernel
theorem dX2_breeds_29 : decode cX2_breeds 29 = .ok (.return_, 1) := by decide +kernel
theorem dX2_breeds_30 : decode cX2_breeds 30 = .ok (.iconst 0, 1) := by decide +kernel
theorem dX2_breeds_31 : decode cX2_breeds 31 = .ok (.istore_n 2, 1) := by decide +kernel
theorem dX2_breeds_32 : decode cX2_breeds 32 = .ok (.iload_n 2, 1) := by decide +kernel
theorem dX2_breeds_33 : decode cX2_breeds 33 = .ok (.bipush 6, 2) := by decide +kernel
theorem dX2_breeds_35 : decode cX2_breeds 35 = .ok (.if_icmp .ge 139, 3) := by decide +kernel
theorem dX2_breeds_38 : decode cX2_breeds 38 = .ok (.aload_n 0, 1) := by decide +kernel
theorem dX2_breeds_39 : decode cX2_breeds 39 = .ok (.getfield 17, 3) := by decide +kernel
theorem dX2_breeds_42 : decode cX2_breeds 42 = .ok (.bipush 8, 2) := by decide +kernel
theorem dX2_breeds_44 : decode cX2_breeds 44 = .ok (.aaload, 1) := by decide +kernel
theorem dX2_breeds_45 : decode cX2_breeds 45 = .ok (.iload_n 1, 1) := by decide +kernel
theorem dX2_breeds_46 : decode cX2_breeds 46 = .ok (.iaload, 1) := by decide +kernel
theorem dX2_breeds_47 : decode cX2_breeds 47 = .ok (.iload_n 2, 1) := by decide +kernel
theorem dX2_breeds_48 : decode cX2_breeds 48 = .ok (.invokestatic 44, 3) := by decide +kernel
theorem dX2_breeds_51 : decode cX2_breeds 51 = .ok (.istore_n 3, 1) := by decide +kernel
theorem dX2_breeds_52 : decode cX2_breeds 52 = .ok (.aload_n 0, 1) := by decide +kernel
theorem dX2_breeds_53 : decode cX2_breeds 53 = .ok (.getfield 9, 3) := by decide +kernel
theorem dX2_breeds_56 : decode cX2_breeds 56 = .ok (.iload_n 3, 1) := by decide +kernel
theorem dX2_breeds_57 : decode cX2_breeds 57 = .ok (.iaload, 1) := by decide +kernel
theorem dX2_breeds_58 : decode cX2_breeds 58 = .ok (.iconst (-1), 1) := by decide +kernel
theorem dX2_breeds_59 : decode cX2_breeds 59 = .ok (.if_icmp .eq 6, 3) := by decide +kernel
theorem dX2_breeds_62 : decode cX2_breeds 62 = .ok (.goto 106, 3) := by decide +kernel
theorem dX2_breeds_65 : decode cX2_breeds 65 = .ok (.aload_n 0, 1) := by decide +kernel
theorem dX2_breeds_66 : decode cX2_breeds 66 = .ok (.getfield 17, 3) := by decide +kernel
theorem dX2_breeds_69 : decode cX2_breeds 69 = .ok (.iconst 2, 1) := by decide +kernel
theorem dX2_breeds_70 : decode cX2_breeds 70 = .ok (.aaload, 1) := by decide +kernel
theorem dX2_breeds_71 : decode cX2_breeds 71 = .ok (.iload_n 1, 1) := by decide +kernel
theorem dX2_breeds_72 : decode cX2_breeds 72 = .ok (.iaload, 1) := by decide +kernel
theorem dX2_breeds_73 : decode cX2_breeds 73 = .ok (.istore 4, 2) := by decide +kernel
theorem dX2_breeds_75 : decode cX2_breeds 75 = .ok (.aload_n 0, 1) := by decide +kernel
theorem dX2_breeds_76 : decode cX2_breeds 76 = .ok (.getfield 17, 3) := by decide +kernel
theorem dX2_breeds_79 : decode cX2_breeds 79 = .ok (.iconst 0, 1) := by decide +kernel
theorem dX2_breeds_80 : decode cX2_breeds 80 = .ok (.aaload, 1) := by decide +kernel
theorem dX2_breeds_81 : decode cX2_breeds 81 = .ok (.aload_n 0, 1) := by decide +kernel
theorem dX2_breeds_82 : decode cX2_breeds 82 = .ok (.getfield 17, 3) := by decide +kernel
theorem dX2_breeds_85 : decode cX2_breeds 85 = .ok (.iconst 1, 1) := by decide +kernel
theorem dX2_breeds_86 : decode cX2_breeds 86 = .ok (.aaload, 1) := by decide +kernel
theorem dX2_breeds_87 : decode cX2_breeds 87 = .ok (.iload 4, 2) := by decide +kernel
theorem dX2_breeds_89 : decode cX2_breeds 89 = .ok (.iaload, 1) := by decide +kernel
theorem dX2_breeds_90 : decode cX2_breeds 90 = .ok (.aload_n 0, 1) := by decide +kernel
theorem dX2_breeds_91 : decode cX2_breeds 91 = .ok (.getfield 17, 3) := by decide +kernel
theorem dX2_breeds_94 : decode cX2_breeds 94 = .ok (.iconst 1, 1) := by decide +kernel
theorem dX2_breeds_95 : decode cX2_breeds 95 = .ok (.aaload, 1) := by decide +kernel
theorem dX2_breeds_96 : decode cX2_breeds 96 = .ok (.iload_n 1, 1) := by decide +kernel
theorem dX2_breeds_97 : decode cX2_breeds 97 = .ok (.iaload, 1) := by decide +kernel
theorem dX2_breeds_98 : decode cX2_breeds 98 = .ok (.if_icmp .le 8, 3) := by decide +kernel
theorem dX2_breeds_101 : decode cX2_breeds 101 = .ok (.iload 4, 2) := by decide +kernel
theorem dX2_breeds_103 : decode cX2_breeds 103 = .ok (.goto 4, 3) := by decide +kernel
theorem dX2_breeds_106 : decode cX2_breeds 106 = .ok (.iload_n 1, 1) := by decide +kernel
theorem dX2_breeds_107 : decode cX2_breeds 107 = .ok (.iaload, 1) := by decide +kernel
theorem dX2_breeds_108 : decode cX2_breeds 108 = .ok (.istore 5, 2) := by decide +kernel
theorem dX2_breeds_110 : decode cX2_breeds 110 = .ok (.aload_n 0, 1) := by decide +kernel
theorem dX2_breeds_111 : decode cX2_breeds 111 = .ok (.iload_n 3, 1) := by decide +kernel
theorem dX2_breeds_112 : decode cX2_breeds 112 = .ok (.iload 5, 2) := by decide +kernel
theorem dX2_breeds_114 : decode cX2_breeds 114 = .ok (.aload_n 0, 1) := by decide +kernel
theorem dX2_breeds_115 : decode cX2_breeds 115 = .ok (.getfield 17, 3) := by decide +kernel
theorem dX2_breeds_118 : decode cX2_breeds 118 = .ok (.iconst 1, 1) := by decide +kernel
theorem dX2_breeds_119 : decode cX2_breeds 119 = .ok (.aaload, 1) := by decide +kernel
theorem dX2_breeds_120 : decode cX2_breeds 120 = .ok (.iload_n 1, 1) := by decide +kernel
theorem dX2_breeds_121 : decode cX2_breeds 121 = .ok (.iaload, 1) := by decide +kernel
theorem dX2_breeds_122 : decode cX2_breeds 122 = .ok (.aload_n 0, 1) := by decide +kernel
theorem dX2_breeds_123 : decode cX2_breeds 123 = .ok (.getfield 17, 3) := by decide +kernel
theorem dX2_breeds_126 : decode cX2_breeds 126 = .ok (.iconst 1, 1) := by decide +kernel
theorem dX2_breeds_127 : decode cX2_breeds 127 = .ok (.aaload, 1) := by decide +kernel
theorem dX2_breeds_128 : decode cX2_breeds 128 = .ok (.iload 4, 2) := by decide +kernel
theorem dX2_breeds_130 : decode cX2_breeds 130 = .ok (.iaload, 1) := by decide +kernel
theorem dX2_breeds_131 : decode cX2_breeds 131 = .ok (.iadd, 1) := by decide +kernel
theorem dX2_breeds_132 : decode cX2_breeds 132 = .ok (.bipush 15, 2) := by decide +kernel
theorem dX2_breeds_134 : decode cX2_breeds 134 = .ok (.irem, 1) := by decide +kernel
theorem dX2_breeds_135 : decode cX2_breeds 135 = .ok (.iconst 1, 1) := by decide +kernel
theorem dX2_breeds_136 : decode cX2_breeds 136 = .ok (.iadd, 1) := by decide +kernel
theorem dX2_breeds_137 : decode cX2_breeds 137 = .ok (.iload_n 1, 1) := by decide +kernel
theorem dX2_breeds_138 : decode cX2_breeds 138 = .ok (.invokevirtual 64, 3) := by decide +kernel
theorem dX2_breeds_141 : decode cX2_breeds 141 = .ok (.pop, 1) := by decide +kernel
theorem dX2_breeds_142 : decode cX2_breeds 142 = .ok (.aload_n 0, 1) := by decide +kernel
theorem dX2_breeds_143 : decode cX2_breeds 143 = .ok (.getfield 17, 3) := by decide +kernel
theorem dX2_breeds_146 : decode cX2_breeds 146 = .ok (.iconst 5, 1) := by decide +kernel
theorem dX2_breeds_147 : decode cX2_breeds 147 = .ok (.aaload, 1) := by decide +kernel
theorem dX2_breeds_148 : decode cX2_breeds 148 = .ok (.iload_n 1, 1) := by decide +kernel
theorem dX2_breeds_149 : decode cX2_breeds 149 = .ok (.dup2, 1) := by decide +kernel
theorem dX2_breeds_150 : decode cX2_breeds 150 = .ok (.iaload, 1) := by decide +kernel
theorem dX2_breeds_151 : decode cX2_breeds 151 = .ok (.iconst 2, 1) := by decide +kernel
theorem dX2_breeds_152 : decode cX2_breeds 152 = .ok (.isub, 1) := by decide +kernel
theorem dX2_breeds_153 : decode cX2_breeds 153 = .ok (.iastore, 1) := by decide +kernel
theorem dX2_breeds_154 : decode cX2_breeds 154 = .ok (.aload_n 0, 1) := by decide +kernel
theorem dX2_breeds_155 : decode cX2_breeds 155 = .ok (.getfield 17, 3) := by decide +kernel
theorem dX2_breeds_158 : decode cX2_breeds 158 = .ok (.bipush 10, 2) := by decide +kernel
theorem dX2_breeds_160 : decode cX2_breeds 160 = .ok (.aaload, 1) := by decide +kernel
theorem dX2_breeds_161 : decode cX2_breeds 161 = .ok (.iload_n 1, 1) := by decide +kernel
theorem dX2_breeds_162 : decode cX2_breeds 162 = .ok (.dup2, 1) := by decide +kernel
theorem dX2_breeds_163 : decode cX2_breeds 163 = .ok (.iaload, 1) := by decide +kernel
theorem dX2_breeds_164 : decode cX2_breeds 164 = .ok (.iconst 1, 1) := by decide +kernel
theorem dX2_breeds_165 : decode cX2_breeds 165 = .ok (.iadd, 1) := by decide +kernel
theorem dX2_breeds_166 : decode cX2_breeds 166 = .ok (.iastore, 1) := by decide +kernel
theorem dX2_breeds_167 : decode cX2_breeds 167 = .ok (.return_, 1) := by decide +kernel
theorem dX2_breeds_168 : decode cX2_breeds 168 = .ok (.iinc 2 1, 3) := by decide +kernel
theorem dX2_breeds_171 : decode cX2_breeds 171 = .ok (.goto (-139), 3) := by decide +kernel
theorem dX2_breeds_174 : decode cX2_breeds 174 = .ok (.return_, 1) := by decide +kernel
set_option maxRecDepth 20000 in
theorem ggX2_pass_X2_eats : GoodIn wsX2_pass wsX2_eats := goodIn_r _ [8, 2, 9, 10, 11, 12, 13, 14, 15, 7, 16, 17, 18, 19, 20, 21, 22, 23, 24, 25, 26, 27, 28, 29, 30, 31, 32, 33, 34, 35, 36, 49, 50, 51, 52] (by decide +kernel) (by decide +kernel)
set_option maxRecDepth 20000 in
theorem gX2_pass_X2_eats : GoodIn wsX2_pass (wsV RX2 68 RX2 yX2_eats wsX2_eats) := goodIn_app (goodIn_of _ (by decide +kernel)) ggX2_pass_X2_eats
set_option maxRecDepth 20000 in
theorem ggX2_pass_X2_isThere : GoodIn wsX2_pass wsX2_isThere := goodIn_r _ [21, 2, 49, 50, 51, 52] (by decide +kernel) (by decide +kernel)
set_option maxRecDepth 20000 in
theorem gX2_pass_X2_isThere : GoodIn wsX2_pass (wsV RX2 36 RX2 yX2_isThere wsX2_isThere) := goodIn_app (goodIn_of _ (by decide +kernel)) ggX2_pass_X2_isThere
set_option maxRecDepth 20000 in
theorem ggX2_pass_X2_hungers_ : GoodIn wsX2_pass wsX2_hungers_ := goodIn_r _ [40, 2, 33, 34, 35, 7, 36, 17, 49, 50, 51, 52] (by decide +kernel) (by decide +kernel)
set_option maxRecDepth 20000 in
theorem gX2_pass_X2_hungers_ : GoodIn wsX2_pass (wsV RX2 71 RX2 yX2_hungers_ wsX2_hungers_) := goodIn_app (goodIn_of _ (by decide +kernel)) ggX2_pass_X2_hungers_
set_option maxRecDepth 20000 in
theorem ggX2_pass_X2_breeds : GoodIn wsX2_pass wsX2_breeds := goodIn_r _ [44, 2, 1, 17, 18, 19, 20, 7, 21, 22, 23, 24, 45, 46, 47, 48, 49, 50, 51, 52] (by decide +kernel) (by decide +kernel)
set_option maxRecDepth 20000 in
theorem gX2_pass_X2_breeds : GoodIn wsX2_pass (wsV RX2 75 RX2 yX2_breeds wsX2_breeds) := goodIn_app (goodIn_of _ (by decide +kernel)) ggX2_pass_X2_breeds
theorem dX2_pass_0 : decode cX2_pass 0 = .ok (.aload_n 0, 1) := by decide +kernel
theorem dX2_pass_1 : decode cX2_pass 1 = .ok (.getfield 24, 3) := by decide +kernel
theorem dX2_pass_4 : decode cX2_pass 4 = .ok (.istore_n 1, 1) := by decide +kernel
theorem dX2_pass_5 : decode cX2_pass 5 = .ok (.lconst 0, 1) := by decide +kernel
theorem dX2_pass_6 : decode cX2_pass 6 = .ok (.lstore_n 2, 1) := by decide +kernel
theorem dX2_pass_7 : decode cX2_pass 7 = .ok (.iconst 0, 1) := by decide +kernel
theorem dX2_pass_8 : decode cX2_pass 8 = .ok (.istore 4, 2) := by decide +kernel
theorem dX2_pass_10 : decode cX2_pass 10 = .ok (.iload 4, 2) := by decide +kernel
theorem dX2_pass_12 : decode cX2_pass 12 = .ok (.iload_n 1, 1) := by decide +kernel
theorem dX2_pass_13 : decode cX2_pass 13 = .ok (.if_icmp .ge 25, 3) := by decide +kernel
theorem dX2_pass_16 : decode cX2_pass 16 = .ok (.aload_n 0, 1) := by decide +kernel
theorem dX2_pass_17 : decode cX2_pass 17 = .ok (.iload 4, 2) := by decide +kernel
theorem dX2_pass_19 : decode cX2_pass 19 = .ok (.invokevirtual 68, 3) := by decide +kernel
theorem dX2_pass_22 : decode cX2_pass 22 = .ok (.ifCond .eq 10, 3) := by decide +kernel
theorem dX2_pass_25 : decode cX2_pass 25 = .ok (.lload_n 2, 1) := by decide +kernel
theorem dX2_pass_26 : decode cX2_pass 26 = .ok (.lconst 1, 1) := by decide +kernel
theorem dX2_pass_27 : decode cX2_pass 27 = .ok (.iload 4, 2) := by decide +kernel
theorem dX2_pass_29 : decode cX2_pass 29 = .ok (.lshl, 1) := by decide +kernel
theorem dX2_pass_30 : decode cX2_pass 30 = .ok (.lor, 1) := by decide +kernel
theorem dX2_pass_31 : decode cX2_pass 31 = .ok (.lstore_n 2, 1) := by decide +kernel
theorem dX2_pass_32 : decode cX2_pass 32 = .ok (.iinc 4 1, 3) := by decide +kernel
theorem dX2_pass_35 : decode cX2_pass 35 = .ok (.goto (-25), 3) := by decide +kernel
theorem dX2_pass_38 : decode cX2_pass 38 = .ok (.iconst 0, 1) := by decide +kernel
theorem dX2_pass_39 : decode cX2_pass 39 = .ok (.istore 4, 2) := by decide +kernel
theorem dX2_pass_41 : decode cX2_pass 41 = .ok (.iload 4, 2) := by decide +kernel
theorem dX2_pass_43 : decode cX2_pass 43 = .ok (.iload_n 1, 1) := by decide +kernel
theorem dX2_pass_44 : decode cX2_pass 44 = .ok (.if_icmp .ge 35, 3) := by decide +kernel
theorem dX2_pass_47 : decode cX2_pass 47 = .ok (.aload_n 0, 1) := by decide +kernel
theorem dX2_pass_48 : decode cX2_pass 48 = .ok (.iload 4, 2) := by decide +kernel
theorem dX2_pass_50 : decode cX2_pass 50 = .ok (.invokevirtual 36, 3) := by decide +kernel
theorem dX2_pass_53 : decode cX2_pass 53 = .ok (.ifCond .eq 20, 3) := by decide +kernel
theorem dX2_pass_56 : decode cX2_pass 56 = .ok (.lload_n 2, 1) := by decide +kernel
theorem dX2_pass_57 : decode cX2_pass 57 = .ok (.iload 4, 2) := by decide +kernel
theorem dX2_pass_59 : decode cX2_pass 59 = .ok (.lshr, 1) := by decide +kernel
theorem dX2_pass_60 : decode cX2_pass 60 = .ok (.lconst 1, 1) := by decide +kernel
theorem dX2_pass_61 : decode cX2_pass 61 = .ok (.land, 1) := by decide +kernel
theorem dX2_pass_62 : decode cX2_pass 62 = .ok (.lconst 0, 1) := by decide +kernel
theorem dX2_pass_63 : decode cX2_pass 63 = .ok (.lcmp, 1) := by decide +kernel
theorem dX2_pass_64 : decode cX2_pass 64 = .ok (.ifCond .ne 9, 3) := by decide +kernel
theorem dX2_pass_67 : decode cX2_pass 67 = .ok (.aload_n 0, 1) := by decide +kernel
theorem dX2_pass_68 : decode cX2_pass 68 = .ok (.iload 4, 2) := by decide +kernel
theorem dX2_pass_70 : decode cX2_pass 70 = .ok (.invokevirtual 71, 3) := by decide +kernel
theorem dX2_pass_73 : decode cX2_pass 73 = .ok (.iinc 4 1, 3) := by decide +kernel
theorem dX2_pass_76 : decode cX2_pass 76 = .ok (.goto (-35), 3) := by decide +kernel
theorem dX2_pass_79 : decode cX2_pass 79 = .ok (.iconst 0, 1) := by decide +kernel
theorem dX2_pass_80 : decode cX2_pass 80 = .ok (.istore 4, 2) := by decide +kernel
theorem dX2_pass_82 : decode cX2_pass 82 = .ok (.iload 4, 2) := by decide +kernel
theorem dX2_pass_84 : decode cX2_pass 84 = .ok (.iload_n 1, 1) := by decide +kernel
theorem dX2_pass_85 : decode cX2_pass 85 = .ok (.if_icmp .ge 15, 3) := by decide +kernel
theorem dX2_pass_88 : decode cX2_pass 88 = .ok (.aload_n 0, 1) := by decide +kernel
theorem dX2_pass_89 : decode cX2_pass 89 = .ok (.iload 4, 2) := by decide +kernel
theorem dX2_pass_91 : decode cX2_pass 91 = .ok (.invokevirtual 75, 3) := by decide +kernel
theorem dX2_pass_94 : decode cX2_pass 94 = .ok (.iinc 4 1, 3) := by decide +kernel
theorem dX2_pass_97 : decode cX2_pass 97 = .ok (.goto (-15), 3) := by decide +kernel
theorem dX2_pass_100 : decode cX2_pass 100 = .ok (.iconst 0, 1) := by decide +kernel
theorem dX2_pass_101 : decode cX2_pass 101 = .ok (.istore 4, 2) := by decide +kernel
theorem dX2_pass_103 : decode cX2_pass 103 = .ok (.iload 4, 2) := by decide +kernel
theorem dX2_pass_105 : decode cX2_pass 105 = .ok (.iload_n 1, 1) := by decide +kernel
theorem dX2_pass_106 : decode cX2_pass 106 = .ok (.if_icmp .ge 35, 3) := by decide +kernel
theorem dX2_pass_109 : decode cX2_pass 109 = .ok (.aload_n 0, 1) := by decide +kernel
theorem dX2_pass_110 : decode cX2_pass 110 = .ok (.getfield 17, 3) := by decide +kernel
theorem dX2_pass_113 : decode cX2_pass 113 = .ok (.iconst 4, 1) := by decide +kernel
theorem dX2_pass_114 : decode cX2_pass 114 = .ok (.aaload, 1) := by decide +kernel
theorem dX2_pass_115 : decode cX2_pass 115 = .ok (.iload 4, 2) := by decide +kernel
theorem dX2_pass_117 : decode cX2_pass 117 = .ok (.dup2, 1) := by decide +kernel
theorem dX2_pass_118 : decode cX2_pass 118 = .ok (.iaload, 1) := by decide +kernel
theorem dX2_pass_119 : decode cX2_pass 119 = .ok (.aload_n 0, 1) := by decide +kernel
theorem dX2_pass_120 : decode cX2_pass 120 = .ok (.iload 4, 2) := by decide +kernel
theorem dX2_pass_122 : decode cX2_pass 122 = .ok (.invokevirtual 36, 3) := by decide +kernel
theorem dX2_pass_125 : decode cX2_pass 125 = .ok (.ifCond .eq 7, 3) := by decide +kernel
theorem dX2_pass_128 : decode cX2_pass 128 = .ok (.iconst 1, 1) := by decide +kernel
theorem dX2_pass_129 : decode cX2_pass 129 = .ok (.goto 4, 3) := by decide +kernel
theorem dX2_pass_132 : decode cX2_pass 132 = .ok (.iconst 0, 1) := by decide +kernel
theorem dX2_pass_133 : decode cX2_pass 133 = .ok (.iadd, 1) := by decide +kernel
theorem dX2_pass_134 : decode cX2_pass 134 = .ok (.iastore, 1) := by decide +kernel
theorem dX2_pass_135 : decode cX2_pass 135 = .ok (.iinc 4 1, 3) := by decide +kernel
theorem dX2_pass_138 : decode cX2_pass 138 = .ok (.goto (-35), 3) := by decide +kernel
theorem dX2_pass_141 : decode cX2_pass 141 = .ok (.aload_n 0, 1) := by decide +kernel
theorem dX2_pass_142 : decode cX2_pass 142 = .ok (.dup, 1) := by decide +kernel
theorem dX2_pass_143 : decode cX2_pass 143 = .ok (.getfield 20, 3) := by decide +kernel
theorem dX2_pass_146 : decode cX2_pass 146 = .ok (.iconst 1, 1) := by decide +kernel
theorem dX2_pass_147 : decode cX2_pass 147 = .ok (.iadd, 1) := by decide +kernel
theorem dX2_pass_148 : decode cX2_pass 148 = .ok (.putfield 20, 3) := by decide +kernel
theorem dX2_pass_151 : decode cX2_pass 151 = .ok (.return_, 1) := by decide +kernel
set_option maxRecDepth 20000 in
theorem ggX2_lives_X2_isThere : GoodIn wsX2_lives wsX2_isThere := goodIn_r _ [5, 6, 53, 54, 55, 56] (by decide +kernel) (by decide +kernel)
set_option maxRecDepth 20000 in
theorem gX2_lives_X2_isThere : GoodIn wsX2_lives (wsV RX2 36 RX2 yX2_isThere wsX2_isThere) := goodIn_app (goodIn_of _ (by decide +kernel)) ggX2_lives_X2_isThere
set_option maxRecDepth 20000 in
theorem ggX2_lives_X2_pass : GoodIn wsX2_lives wsX2_pass := goodIn_r _ [10, 11, 6, 12, 13, 14, 15, 4, 16, 17, 18, 19, 20, 21, 22, 23, 24, 25, 1, 2, 3, 5, 26, 27, 28, 29, 30, 31, 32, 33, 34, 35, 36, 37, 38, 39, 40, 41, 42, 43, 44, 45, 46, 47, 48, 49, 50, 51, 52, 53, 54, 55, 56] (by decide +kernel) (by decide +kernel)
set_option maxRecDepth 20000 in
theorem gX2_lives_X2_pass : GoodIn wsX2_lives (wsV RX2 78 RX2 yX2_pass wsX2_pass) := goodIn_app (goodIn_of _ (by decide +kernel)) ggX2_lives_X2_pass
theorem dX2_lives_0 : decode cX2_lives 0 = .ok (.iconst 0, 1) := by decide +kernel
theorem dX2_lives_1 : decode cX2_lives 1 = .ok (.istore_n 3, 1) := by decide +kernel
theorem dX2_lives_2 : decode cX2_lives 2 = .ok (.iload_n 3, 1) := by decide +kernel
theorem dX2_lives_3 : decode cX2_lives 3 = .ok (.iload_n 2, 1) := by decide +kernel
theorem dX2_lives_4 : decode cX2_lives 4 = .ok (.if_icmp .gt 21, 3) := by decide +kernel
theorem dX2_lives_7 : decode cX2_lives 7 = .ok (.aload_n 0, 1) := by decide +kernel
theorem dX2_lives_8 : decode cX2_lives 8 = .ok (.iload_n 1, 1) := by decide +kernel
theorem dX2_lives_9 : decode cX2_lives 9 = .ok (.invokevirtual 36, 3) := by decide +kernel
theorem dX2_lives_12 : decode cX2_lives 12 = .ok (.ifCond .eq 13, 3) := by decide +kernel
theorem dX2_lives_15 : decode cX2_lives 15 = .ok (.aload_n 0, 1) := by decide +kernel
theorem dX2_lives_16 : decode cX2_lives 16 = .ok (.invokevirtual 78, 3) := by decide +kernel
theorem dX2_lives_19 : decode cX2_lives 19 = .ok (.iinc 3 1, 3) := by decide +kernel
theorem dX2_lives_22 : decode cX2_lives 22 = .ok (.goto (-20), 3) := by decide +kernel
theorem dX2_lives_25 : decode cX2_lives 25 = .ok (.iload_n 3, 1) := by decide +kernel
theorem dX2_lives_26 : decode cX2_lives 26 = .ok (.ireturn, 1) := by decide +kernel
