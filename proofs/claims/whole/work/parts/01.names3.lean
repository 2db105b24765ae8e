theorem dX7_init_23 : decode cX7_init 23 = .ok (.newarray .int, 2) := by decide +kernel
theorem dX7_init_25 : decode cX7_init 25 = .ok (.putfield 16, 3) := by decide +kernel
theorem dX7_init_28 : decode cX7_init 28 = .ok (.aload_n 0, 1) := by decide +kernel
theorem dX7_init_29 : decode cX7_init 29 = .ok (.bipush 60, 2) := by decide +kernel
theorem dX7_init_31 : decode cX7_init 31 = .ok (.newarray .int, 2) := by decide +kernel
theorem dX7_init_33 : decode cX7_init 33 = .ok (.putfield 19, 3) := by decide +kernel
theorem dX7_init_36 : decode cX7_init 36 = .ok (.aload_n 0, 1) := by decide +kernel
theorem dX7_init_37 : decode cX7_init 37 = .ok (.bipush 8, 2) := by decide +kernel
theorem dX7_init_39 : decode cX7_init 39 = .ok (.newarray .int, 2) := by decide +kernel
theorem dX7_init_41 : decode cX7_init 41 = .ok (.putfield 22, 3) := by decide +kernel
theorem dX7_init_44 : decode cX7_init 44 = .ok (.aload_n 0, 1) := by decide +kernel
theorem dX7_init_45 : decode cX7_init 45 = .ok (.bipush 16, 2) := by decide +kernel
theorem dX7_init_47 : decode cX7_init 47 = .ok (.newarray .int, 2) := by decide +kernel
theorem dX7_init_49 : decode cX7_init 49 = .ok (.putfield 25, 3) := by decide +kernel
theorem dX7_init_52 : decode cX7_init 52 = .ok (.aload_n 0, 1) := by decide +kernel
theorem dX7_init_53 : decode cX7_init 53 = .ok (.bipush 16, 2) := by decide +kernel
theorem dX7_init_55 : decode cX7_init 55 = .ok (.newarray .int, 2) := by decide +kernel
theorem dX7_init_57 : decode cX7_init 57 = .ok (.putfield 28, 3) := by decide +kernel
theorem dX7_init_60 : decode cX7_init 60 = .ok (.aload_n 0, 1) := by decide +kernel
theorem dX7_init_61 : decode cX7_init 61 = .ok (.iconst 3, 1) := by decide +kernel
theorem dX7_init_62 : decode cX7_init 62 = .ok (.putfield 31, 3) := by decide +kernel
theorem dX7_init_65 : decode cX7_init 65 = .ok (.aload_n 0, 1) := by decide +kernel
theorem dX7_init_66 : decode cX7_init 66 = .ok (.bipush 16, 2) := by decide +kernel
theorem dX7_init_68 : decode cX7_init 68 = .ok (.newarray .int, 2) := by decide +kernel
theorem dX7_init_70 : decode cX7_init 70 = .ok (.putfield 35, 3) := by decide +kernel
theorem dX7_init_73 : decode cX7_init 73 = .ok (.aload_n 0, 1) := by decide +kernel
theorem dX7_init_74 : decode cX7_init 74 = .ok (.bipush 16, 2) := by decide +kernel
theorem dX7_init_76 : decode cX7_init 76 = .ok (.newarray .int, 2) := by decide +kernel
theorem dX7_init_78 : decode cX7_init 78 = .ok (.putfield 38, 3) := by decide +kernel
theorem dX7_init_81 : decode cX7_init 81 = .ok (.aload_n 0, 1) := by decide +kernel
theorem dX7_init_82 : decode cX7_init 82 = .ok (.bipush 16, 2) := by decide +kernel
theorem dX7_init_84 : decode cX7_init 84 = .ok (.newarray .int, 2) := by decide +kernel
theorem dX7_init_86 : decode cX7_init 86 = .ok (.putfield 41, 3) := by decide +kernel
theorem dX7_init_89 : decode cX7_init 89 = .ok (.aload_n 0, 1) := by decide +kernel
theorem dX7_init_90 : decode cX7_init 90 = .ok (.bipush 8, 2) := by decide +kernel
theorem dX7_init_92 : decode cX7_init 92 = .ok (.newarray .int, 2) := by decide +kernel
theorem dX7_init_94 : decode cX7_init 94 = .ok (.putfield 44, 3) := by decide +kernel
theorem dX7_init_97 : decode cX7_init 97 = .ok (.aload_n 0, 1) := by decide +kernel
theorem dX7_init_98 : decode cX7_init 98 = .ok (.bipush 8, 2) := by decide +kernel
theorem dX7_init_100 : decode cX7_init 100 = .ok (.newarray .int, 2) := by decide +kernel
theorem dX7_init_102 : decode cX7_init 102 = .ok (.putfield 47, 3) := by decide +kernel
theorem dX7_init_105 : decode cX7_init 105 = .ok (.aload_n 0, 1) := by decide +kernel
theorem dX7_init_106 : decode cX7_init 106 = .ok (.bipush 8, 2) := by decide +kernel
theorem dX7_init_108 : decode cX7_init 108 = .ok (.newarray .int, 2) := by decide +kernel
theorem dX7_init_110 : decode cX7_init 110 = .ok (.putfield 50, 3) := by decide +kernel
theorem dX7_init_113 : decode cX7_init 113 = .ok (.aload_n 0, 1) := by decide +kernel
theorem dX7_init_114 : decode cX7_init 114 = .ok (.iconst 4, 1) := by decide +kernel
theorem dX7_init_115 : decode cX7_init 115 = .ok (.newarray .int, 2) := by decide +kernel
theorem dX7_init_117 : decode cX7_init 117 = .ok (.putfield 53, 3) := by decide +kernel
theorem dX7_init_120 : decode cX7_init 120 = .ok (.aload_n 0, 1) := by decide +kernel
theorem dX7_init_121 : decode cX7_init 121 = .ok (.bipush 8, 2) := by decide +kernel
theorem dX7_init_123 : decode cX7_init 123 = .ok (.newarray .int, 2) := by decide +kernel
theorem dX7_init_125 : decode cX7_init 125 = .ok (.putfield 56, 3) := by decide +kernel
theorem dX7_init_128 : decode cX7_init 128 = .ok (.aload_n 0, 1) := by decide +kernel
theorem dX7_init_129 : decode cX7_init 129 = .ok (.bipush 8, 2) := by decide +kernel
theorem dX7_init_131 : decode cX7_init 131 = .ok (.newarray .int, 2) := by decide +kernel
theorem dX7_init_133 : decode cX7_init 133 = .ok (.putfield 59, 3) := by decide +kernel
theorem dX7_init_136 : decode cX7_init 136 = .ok (.aload_n 0, 1) := by decide +kernel
theorem dX7_init_137 : decode cX7_init 137 = .ok (.bipush 8, 2) := by decide +kernel
theorem dX7_init_139 : decode cX7_init 139 = .ok (.newarray .int, 2) := by decide +kernel
theorem dX7_init_141 : decode cX7_init 141 = .ok (.putfield 62, 3) := by decide +kernel
theorem dX7_init_144 : decode cX7_init 144 = .ok (.aload_n 0, 1) := by decide +kernel
theorem dX7_init_145 : decode cX7_init 145 = .ok (.bipush 8, 2) := by decide +kernel
theorem dX7_init_147 : decode cX7_init 147 = .ok (.newarray .int, 2) := by decide +kernel
theorem dX7_init_149 : decode cX7_init 149 = .ok (.putfield 65, 3) := by decide +kernel
theorem dX7_init_152 : decode cX7_init 152 = .ok (.aload_n 0, 1) := by decide +kernel
theorem dX7_init_153 : decode cX7_init 153 = .ok (.bipush 8, 2) := by decide +kernel
theorem dX7_init_155 : decode cX7_init 155 = .ok (.newarray .int, 2) := by decide +kernel
theorem dX7_init_157 : decode cX7_init 157 = .ok (.putfield 68, 3) := by decide +kernel
theorem dX7_init_160 : decode cX7_init 160 = .ok (.aload_n 0, 1) := by decide +kernel
theorem dX7_init_161 : decode cX7_init 161 = .ok (.bipush 32, 2) := by decide +kernel
theorem dX7_init_163 : decode cX7_init 163 = .ok (.newarray .int, 2) := by decide +kernel
theorem dX7_init_165 : decode cX7_init 165 = .ok (.putfield 71, 3) := by decide +kernel
theorem dX7_init_168 : decode cX7_init 168 = .ok (.aload_n 0, 1) := by decide +kernel
theorem dX7_init_169 : decode cX7_init 169 = .ok (.iconst (-1), 1) := by decide +kernel
theorem dX7_init_170 : decode cX7_init 170 = .ok (.putfield 74, 3) := by decide +kernel
theorem dX7_init_173 : decode cX7_init 173 = .ok (.aload_n 0, 1) := by decide +kernel
theorem dX7_init_174 : decode cX7_init 174 = .ok (.bipush 16, 2) := by decide +kernel
theorem dX7_init_176 : decode cX7_init 176 = .ok (.newarray .int, 2) := by decide +kernel
theorem dX7_init_178 : decode cX7_init 178 = .ok (.putfield 77, 3) := by decide +kernel
theorem dX7_init_181 : decode cX7_init 181 = .ok (.aload_n 0, 1) := by decide +kernel
theorem dX7_init_182 : decode cX7_init 182 = .ok (.sipush 300, 3) := by decide +kernel
theorem dX7_init_185 : decode cX7_init 185 = .ok (.newarray .int, 2) := by decide +kernel
theorem dX7_init_187 : decode cX7_init 187 = .ok (.putfield 80, 3) := by decide +kernel
theorem dX7_init_190 : decode cX7_init 190 = .ok (.aload_n 0, 1) := by decide +kernel
theorem dX7_init_191 : decode cX7_init 191 = .ok (.iconst 4, 1) := by decide +kernel
theorem dX7_init_192 : decode cX7_init 192 = .ok (.newarray .int, 2) := by decide +kernel
theorem dX7_init_194 : decode cX7_init 194 = .ok (.putfield 83, 3) := by decide +kernel
theorem dX7_init_197 : decode cX7_init 197 = .ok (.aload_n 0, 1) := by decide +kernel
theorem dX7_init_198 : decode cX7_init 198 = .ok (.invokevirtual 86, 3) := by decide +kernel
theorem dX7_init_201 : decode cX7_init 201 = .ok (.return_, 1) := by decide +kernel
theorem dX7_in_0 : decode cX7_in 0 = .ok (.iload_n 0, 1) := by decide +kernel
theorem dX7_in_1 : decode cX7_in 1 = .ok (.iload_n 1, 1) := by decide +kernel
theorem dX7_in_2 : decode cX7_in 2 = .ok (.if_icmp .lt 12, 3) := by decide +kernel
theorem dX7_in_5 : decode cX7_in 5 = .ok (.iload_n 0, 1) := by decide +kernel
theorem dX7_in_6 : decode cX7_in 6 = .ok (.iload_n 2, 1) := by decide +kernel
theorem dX7_in_7 : decode cX7_in 7 = .ok (.if_icmp .gt 7, 3) := by decide +kernel
theorem dX7_in_10 : decode cX7_in 10 = .ok (.iconst 1, 1) := by decide +kernel
theorem dX7_in_11 : decode cX7_in 11 = .ok (.goto 4, 3) := by decide +kernel
theorem dX7_in_14 : decode cX7_in 14 = .ok (.iconst 0, 1) := by decide +kernel
theorem dX7_in_15 : decode cX7_in 15 = .ok (.ireturn, 1) := by decide +kernel
theorem dX7_first_0 : decode cX7_first 0 = .ok (.iconst 0, 1) := by decide +kernel
theorem dX7_first_1 : decode cX7_first 1 = .ok (.istore_n 1, 1) := by decide +kernel
theorem dX7_first_2 : decode cX7_first 2 = .ok (.iload_n 1, 1) := by decide +kernel
theorem dX7_first_3 : decode cX7_first 3 = .ok (.bipush 16, 2) := by decide +kernel
theorem dX7_first_5 : decode cX7_first 5 = .ok (.if_icmp .ge 30, 3) := by decide +kernel
theorem dX7_first_8 : decode cX7_first 8 = .ok (.aload_n 0, 1) := by decide +kernel
theorem dX7_first_9 : decode cX7_first 9 = .ok (.getfield 35, 3) := by decide +kernel
theorem dX7_first_12 : decode cX7_first 12 = .ok (.iload_n 1, 1) := by decide +kernel
theorem dX7_first_13 : decode cX7_first 13 = .ok (.iconst 1, 1) := by decide +kernel
theorem dX7_first_14 : decode cX7_first 14 = .ok (.iastore, 1) := by decide +kernel
theorem dX7_first_15 : decode cX7_first 15 = .ok (.aload_n 0, 1) := by decide +kernel
theorem dX7_first_16 : decode cX7_first 16 = .ok (.getfield 38, 3) := by decide +kernel
theorem dX7_first_19 : decode cX7_first 19 = .ok (.iload_n 1, 1) := by decide +kernel
theorem dX7_first_20 : decode cX7_first 20 = .ok (.iconst 1, 1) := by decide +kernel
theorem dX7_first_21 : decode cX7_first 21 = .ok (.iastore, 1) := by decide +kernel
theorem dX7_first_22 : decode cX7_first 22 = .ok (.aload_n 0, 1) := by decide +kernel
theorem dX7_first_23 : decode cX7_first 23 = .ok (.getfield 41, 3) := by decide +kernel
theorem dX7_first_26 : decode cX7_first 26 = .ok (.iload_n 1, 1) := by decide +kernel
theorem dX7_first_27 : decode cX7_first 27 = .ok (.iconst 1, 1) := by decide +kernel
theorem dX7_first_28 : decode cX7_first 28 = .ok (.iastore, 1) := by decide +kernel
theorem dX7_first_29 : decode cX7_first 29 = .ok (.iinc 1 1, 3) := by decide +kernel
theorem dX7_first_32 : decode cX7_first 32 = .ok (.goto (-30), 3) := by decide +kernel
theorem dX7_first_35 : decode cX7_first 35 = .ok (.iconst 0, 1) := by decide +kernel
theorem dX7_first_36 : decode cX7_first 36 = .ok (.istore_n 1, 1) := by decide +kernel
theorem dX7_first_37 : decode cX7_first 37 = .ok (.iload_n 1, 1) := by decide +kernel
theorem dX7_first_38 : decode cX7_first 38 = .ok (.bipush 8, 2) := by decide +kernel
theorem dX7_first_40 : decode cX7_first 40 = .ok (.if_icmp .ge 30, 3) := by decide +kernel
theorem dX7_first_43 : decode cX7_first 43 = .ok (.aload_n 0, 1) := by decide +kernel
theorem dX7_first_44 : decode cX7_first 44 = .ok (.getfield 44, 3) := by decide +kernel
theorem dX7_first_47 : decode cX7_first 47 = .ok (.iload_n 1, 1) := by decide +kernel
theorem dX7_first_48 : decode cX7_first 48 = .ok (.iconst (-1), 1) := by decide +kernel
theorem dX7_first_49 : decode cX7_first 49 = .ok (.iastore, 1) := by decide +kernel
theorem dX7_first_50 : decode cX7_first 50 = .ok (.aload_n 0, 1) := by decide +kernel
theorem dX7_first_51 : decode cX7_first 51 = .ok (.getfield 47, 3) := by decide +kernel
theorem dX7_first_54 : decode cX7_first 54 = .ok (.iload_n 1, 1) := by decide +kernel
theorem dX7_first_55 : decode cX7_first 55 = .ok (.iconst 5, 1) := by decide +kernel
theorem dX7_first_56 : decode cX7_first 56 = .ok (.iastore, 1) := by decide +kernel
theorem dX7_first_57 : decode cX7_first 57 = .ok (.aload_n 0, 1) := by decide +kernel
theorem dX7_first_58 : decode cX7_first 58 = .ok (.getfield 50, 3) := by decide +kernel
theorem dX7_first_61 : decode cX7_first 61 = .ok (.iload_n 1, 1) := by decide +kernel
theorem dX7_first_62 : decode cX7_first 62 = .ok (.iconst 0, 1) := by decide +kernel
theorem dX7_first_63 : decode cX7_first 63 = .ok (.iastore, 1) := by decide +kernel
theorem dX7_first_64 : decode cX7_first 64 = .ok (.iinc 1 1, 3) := by decide +kernel
theorem dX7_first_67 : decode cX7_first 67 = .ok (.goto (-30), 3) := by decide +kernel
theorem dX7_first_70 : decode cX7_first 70 = .ok (.aload_n 0, 1) := by decide +kernel
theorem dX7_first_71 : decode cX7_first 71 = .ok (.iconst 0, 1) := by decide +kernel
theorem dX7_first_72 : decode cX7_first 72 = .ok (.putfield 89, 3) := by decide +kernel
theorem dX7_first_75 : decode cX7_first 75 = .ok (.return_, 1) := by decide +kernel
set_option maxRecDepth 20000 in
theorem ggX7_act_X7_in : GoodIn wsX7_act wsX7_in := goodIn_r _ [10] (by decide +kernel) (by decide +kernel)
set_option maxRecDepth 20000 in
theorem gX7_act_X7_in : GoodIn wsX7_act (va_wsS RX7 92 yX7_in wsX7_in) := goodIn_app (goodIn_of _ (by decide +kernel)) ggX7_act_X7_in
theorem dX7_act_0 : decode cX7_act 0 = .ok (.iload_n 1, 1) := by decide +kernel
theorem dX7_act_1 : decode cX7_act 1 = .ok (.iconst 0, 1) := by decide +kernel
theorem dX7_act_2 : decode cX7_act 2 = .ok (.bipush 11, 2) := by decide +kernel
theorem dX7_act_4 : decode cX7_act 4 = .ok (.invokestatic 92, 3) := by decide +kernel
theorem dX7_act_7 : decode cX7_act 7 = .ok (.ifCond .eq 44, 3) := by decide +kernel
theorem dX7_act_10 : decode cX7_act 10 = .ok (.iload_n 2, 1) := by decide +kernel
theorem dX7_act_11 : decode cX7_act 11 = .ok (.iconst 0, 1) := by decide +kernel
theorem dX7_act_12 : decode cX7_act 12 = .ok (.bipush 7, 2) := by decide +kernel
theorem dX7_act_14 : decode cX7_act 14 = .ok (.invokestatic 92, 3) := by decide +kernel
theorem dX7_act_17 : decode cX7_act 17 = .ok (.ifCond .eq 34, 3) := by decide +kernel
theorem dX7_act_20 : decode cX7_act 20 = .ok (.iload_n 3, 1) := by decide +kernel
theorem dX7_act_21 : decode cX7_act 21 = .ok (.iconst 0, 1) := by decide +kernel
theorem dX7_act_22 : decode cX7_act 22 = .ok (.bipush 7, 2) := by decide +kernel
theorem dX7_act_24 : decode cX7_act 24 = .ok (.invokestatic 92, 3) := by decide +kernel
theorem dX7_act_27 : decode cX7_act 27 = .ok (.ifCond .eq 24, 3) := by decide +kernel
theorem dX7_act_30 : decode cX7_act 30 = .ok (.iload_n 1, 1) := by decide +kernel
theorem dX7_act_31 : decode cX7_act 31 = .ok (.iconst 5, 1) := by decide +kernel
theorem dX7_act_32 : decode cX7_act 32 = .ok (.bipush 8, 2) := by decide +kernel
theorem dX7_act_34 : decode cX7_act 34 = .ok (.invokestatic 92, 3) := by decide +kernel
theorem dX7_act_37 : decode cX7_act 37 = .ok (.ifCond .eq 17, 3) := by decide +kernel
theorem dX7_act_40 : decode cX7_act 40 = .ok (.iload 4, 2) := by decide +kernel
theorem dX7_act_42 : decode cX7_act 42 = .ok (.iconst 0, 1) := by decide +kernel
theorem dX7_act_43 : decode cX7_act 43 = .ok (.bipush 60, 2) := by decide +kernel
theorem dX7_act_45 : decode cX7_act 45 = .ok (.invokestatic 92, 3) := by decide +kernel
theorem dX7_act_48 : decode cX7_act 48 = .ok (.ifCond .ne 6, 3) := by decide +kernel
theorem dX7_act_51 : decode cX7_act 51 = .ok (.bipush (-102), 2) := by decide +kernel
theorem dX7_act_53 : decode cX7_act 53 = .ok (.ireturn, 1) := by decide +kernel
theorem dX7_act_54 : decode cX7_act 54 = .ok (.aload_n 0, 1) := by decide +kernel
theorem dX7_act_55 : decode cX7_act 55 = .ok (.getfield 96, 3) := by decide +kernel
theorem dX7_act_58 : decode cX7_act 58 = .ok (.ifCond .eq 6, 3) := by decide +kernel
theorem dX7_act_61 : decode cX7_act 61 = .ok (.bipush (-103), 2) := by decide +kernel
theorem dX7_act_63 : decode cX7_act 63 = .ok (.ireturn, 1) := by decide +kernel
theorem dX7_act_64 : decode cX7_act 64 = .ok (.aload_n 0, 1) := by decide +kernel
theorem dX7_act_65 : decode cX7_act 65 = .ok (.getfield 100, 3) := by decide +kernel
theorem dX7_act_68 : decode cX7_act 68 = .ok (.bipush 60, 2) := by decide +kernel
theorem dX7_act_70 : decode cX7_act 70 = .ok (.if_icmp .ne 6, 3) := by decide +kernel
theorem dX7_act_73 : decode cX7_act 73 = .ok (.bipush (-104), 2) := by decide +kernel
theorem dX7_act_75 : decode cX7_act 75 = .ok (.ireturn, 1) := by decide +kernel
theorem dX7_act_76 : decode cX7_act 76 = .ok (.aload_n 0, 1) := by decide +kernel
theorem dX7_act_77 : decode cX7_act 77 = .ok (.getfield 7, 3) := by decide +kernel
theorem dX7_act_80 : decode cX7_act 80 = .ok (.aload_n 0, 1) := by decide +kernel
theorem dX7_act_81 : decode cX7_act 81 = .ok (.getfield 100, 3) := by decide +kernel
theorem dX7_act_84 : decode cX7_act 84 = .ok (.iload_n 1, 1) := by decide +kernel
theorem dX7_act_85 : decode cX7_act 85 = .ok (.iastore, 1) := by decide +kernel
theorem dX7_act_86 : decode cX7_act 86 = .ok (.aload_n 0, 1) := by decide +kernel
theorem dX7_act_87 : decode cX7_act 87 = .ok (.getfield 13, 3) := by decide +kernel
theorem dX7_act_90 : decode cX7_act 90 = .ok (.aload_n 0, 1) := by decide +kernel
theorem dX7_act_91 : decode cX7_act 91 = .ok (.getfield 100, 3) := by decide +kernel
theorem dX7_act_94 : decode cX7_act 94 = .ok (.iload_n 2, 1) := by decide +kernel
theorem dX7_act_95 : decode cX7_act 95 = .ok (.iastore, 1) := by decide +kernel
theorem dX7_act_96 : decode cX7_act 96 = .ok (.aload_n 0, 1) := by decide +kernel
theorem dX7_act_97 : decode cX7_act 97 = .ok (.getfield 16, 3) := by decide +kernel
theorem dX7_act_100 : decode cX7_act 100 = .ok (.aload_n 0, 1) := by decide +kernel
theorem dX7_act_101 : decode cX7_act 101 = .ok (.getfield 100, 3) := by decide +kernel
theorem dX7_act_104 : decode cX7_act 104 = .ok (.iload_n 3, 1) := by decide +kernel
theorem dX7_act_105 : decode cX7_act 105 = .ok (.iastore, 1) := by decide +kernel
theorem dX7_act_106 : decode cX7_act 106 = .ok (.aload_n 0, 1) := by decide +kernel
theorem dX7_act_107 : decode cX7_act 107 = .ok (.getfield 19, 3) := by decide +kernel
theorem dX7_act_110 : decode cX7_act 110 = .ok (.aload_n 0, 1) := by decide +kernel
theorem dX7_act_111 : decode cX7_act 111 = .ok (.getfield 100, 3) := by decide +kernel
theorem dX7_act_114 : decode cX7_act 114 = .ok (.iload 4, 2) := by decide +kernel
theorem dX7_act_116 : decode cX7_act 116 = .ok (.iastore, 1) := by decide +kernel
theorem dX7_act_117 : decode cX7_act 117 = .ok (.aload_n 0, 1) := by decide +kernel
theorem dX7_act_118 : decode cX7_act 118 = .ok (.dup, 1) := by decide +kernel
theorem dX7_act_119 : decode cX7_act 119 = .ok (.getfield 100, 3) := by decide +kernel
theorem dX7_act_122 : decode cX7_act 122 = .ok (.iconst 1, 1) := by decide +kernel
theorem dX7_act_123 : decode cX7_act 123 = .ok (.iadd, 1) := by decide +kernel
theorem dX7_act_124 : decode cX7_act 124 = .ok (.putfield 100, 3) := by decide +kernel
theorem dX7_act_127 : decode cX7_act 127 = .ok (.aload_n 0, 1) := by decide +kernel
theorem dX7_act_128 : decode cX7_act 128 = .ok (.getfield 100, 3) := by decide +kernel
theorem dX7_act_131 : decode cX7_act 131 = .ok (.iconst 1, 1) := by decide +kernel
theorem dX7_act_132 : decode cX7_act 132 = .ok (.isub, 1) := by decide +kernel
theorem dX7_act_133 : decode cX7_act 133 = .ok (.ireturn, 1) := by decide +kernel
theorem dX7_wipe_0 : decode cX7_wipe 0 = .ok (.aload_n 0, 1) := by decide +kernel
theorem dX7_wipe_1 : decode cX7_wipe 1 = .ok (.getfield 96, 3) := by decide +kernel
theorem dX7_wipe_4 : decode cX7_wipe 4 = .ok (.ifCond .eq 6, 3) := by decide +kernel
theorem dX7_wipe_7 : decode cX7_wipe 7 = .ok (.bipush (-103), 2) := by decide +kernel
theorem dX7_wipe_9 : decode cX7_wipe 9 = .ok (.ireturn, 1) := by decide +kernel
theorem dX7_wipe_10 : decode cX7_wipe 10 = .ok (.aload_n 0, 1) := by decide +kernel
theorem dX7_wipe_11 : decode cX7_wipe 11 = .ok (.getfield 100, 3) := by decide +kernel
theorem dX7_wipe_14 : decode cX7_wipe 14 = .ok (.istore_n 1, 1) := by decide +kernel
theorem dX7_wipe_15 : decode cX7_wipe 15 = .ok (.aload_n 0, 1) := by decide +kernel
theorem dX7_wipe_16 : decode cX7_wipe 16 = .ok (.iconst 0, 1) := by decide +kernel
theorem dX7_wipe_17 : decode cX7_wipe 17 = .ok (.putfield 100, 3) := by decide +kernel
theorem dX7_wipe_20 : decode cX7_wipe 20 = .ok (.iload_n 1, 1) := by decide +kernel
theorem dX7_wipe_21 : decode cX7_wipe 21 = .ok (.ireturn, 1) := by decide +kernel
set_option maxRecDepth 20000 in
theorem ggX7_put_X7_in : GoodIn wsX7_put wsX7_in := goodIn_r _ [9] (by decide +kernel) (by decide +kernel)
set_option maxRecDepth 20000 in
theorem gX7_put_X7_in : GoodIn wsX7_put (va_wsS RX7 92 yX7_in wsX7_in) := goodIn_app (goodIn_of _ (by decide +kernel)) ggX7_put_X7_in
set_option maxRecDepth 20000 in
theorem ggX7_put_X7_valueOf : GoodIn wsX7_put wsX7_valueOf := goodIn_r _ [13, 4, 5, 14, 15, 16, 17, 18, 19, 20, 21, 22, 23, 24, 25, 26, 27, 28, 29, 30, 31, 32, 33, 34, 35, 36, 37, 38, 39, 40, 41, 42, 43, 44, 45, 46, 47] (by decide +kernel) (by decide +kernel)
set_option maxRecDepth 20000 in
theorem gX7_put_X7_valueOf : GoodIn wsX7_put (wsV RX7 107 RX7 yX7_valueOf wsX7_valueOf) := goodIn_app (goodIn_of _ (by decide +kernel)) ggX7_put_X7_valueOf
theorem dX7_put_0 : decode cX7_put 0 = .ok (.iload_n 1, 1) := by decide +kernel
theorem dX7_put_1 : decode cX7_put 1 = .ok (.iconst 0, 1) := by decide +kernel
theorem dX7_put_2 : decode cX7_put 2 = .ok (.bipush 23, 2) := by decide +kernel
theorem dX7_put_4 : decode cX7_put 4 = .ok (.invokestatic 92, 3) := by decide +kernel
theorem dX7_put_7 : decode cX7_put 7 = .ok (.ifCond .ne 7, 3) := by decide +kernel
theorem dX7_put_10 : decode cX7_put 10 = .ok (.ldc2_w 103, 3) := by decide +kernel
theorem dX7_put_13 : decode cX7_put 13 = .ok (.lreturn, 1) := by decide +kernel
theorem dX7_put_14 : decode cX7_put 14 = .ok (.aload_n 0, 1) := by decide +kernel
theorem dX7_put_15 : decode cX7_put 15 = .ok (.getfield 96, 3) := by decide +kernel
theorem dX7_put_18 : decode cX7_put 18 = .ok (.ifCond .eq 7, 3) := by decide +kernel
theorem dX7_put_21 : decode cX7_put 21 = .ok (.ldc2_w 105, 3) := by decide +kernel
theorem dX7_put_24 : decode cX7_put 24 = .ok (.lreturn, 1) := by decide +kernel
theorem dX7_put_25 : decode cX7_put 25 = .ok (.aload_n 0, 1) := by decide +kernel
theorem dX7_put_26 : decode cX7_put 26 = .ok (.iload_n 1, 1) := by decide +kernel
theorem dX7_put_27 : decode cX7_put 27 = .ok (.invokevirtual 107, 3) := by decide +kernel
theorem dX7_put_30 : decode cX7_put 30 = .ok (.lstore_n 3, 1) := by decide +kernel
theorem dX7_put_31 : decode cX7_put 31 = .ok (.iload_n 1, 1) := by decide +kernel
theorem dX7_put_32 : decode cX7_put 32 = .ok (.bipush 8, 2) := by decide +kernel
theorem dX7_put_34 : decode cX7_put 34 = .ok (.if_icmp .ge 13, 3) := by decide +kernel
theorem dX7_put_37 : decode cX7_put 37 = .ok (.aload_n 0, 1) := by decide +kernel
theorem dX7_put_38 : decode cX7_put 38 = .ok (.getfield 22, 3) := by decide +kernel
theorem dX7_put_41 : decode cX7_put 41 = .ok (.iload_n 1, 1) := by decide +kernel
theorem dX7_put_42 : decode cX7_put 42 = .ok (.iload_n 2, 1) := by decide +kernel
theorem dX7_put_43 : decode cX7_put 43 = .ok (.iastore, 1) := by decide +kernel
theorem dX7_put_44 : decode cX7_put 44 = .ok (.goto 13, 3) := by decide +kernel
theorem dX7_put_47 : decode cX7_put 47 = .ok (.aload_n 0, 1) := by decide +kernel
theorem dX7_put_48 : decode cX7_put 48 = .ok (.getfield 25, 3) := by decide +kernel
theorem dX7_put_51 : decode cX7_put 51 = .ok (.iload_n 1, 1) := by decide +kernel
theorem dX7_put_52 : decode cX7_put 52 = .ok (.bipush 8, 2) := by decide +kernel
theorem dX7_put_54 : decode cX7_put 54 = .ok (.isub, 1) := by decide +kernel
theorem dX7_put_55 : decode cX7_put 55 = .ok (.iload_n 2, 1) := by decide +kernel
theorem dX7_put_56 : decode cX7_put 56 = .ok (.iastore, 1) := by decide +kernel
theorem dX7_put_57 : decode cX7_put 57 = .ok (.lload_n 3, 1) := by decide +kernel
theorem dX7_put_58 : decode cX7_put 58 = .ok (.lreturn, 1) := by decide +kernel
theorem dX7_valueOf_0 : decode cX7_valueOf 0 = .ok (.iload_n 1, 1) := by decide +kernel
theorem dX7_valueOf_1 : decode cX7_valueOf 1 = .ok (.bipush 8, 2) := by decide +kernel
theorem dX7_valueOf_3 : decode cX7_valueOf 3 = .ok (.if_icmp .ge 13, 3) := by decide +kernel
theorem dX7_valueOf_6 : decode cX7_valueOf 6 = .ok (.aload_n 0, 1) := by decide +kernel
theorem dX7_valueOf_7 : decode cX7_valueOf 7 = .ok (.getfield 22, 3) := by decide +kernel
theorem dX7_valueOf_10 : decode cX7_valueOf 10 = .ok (.iload_n 1, 1) := by decide +kernel
theorem dX7_valueOf_11 : decode cX7_valueOf 11 = .ok (.iaload, 1) := by decide +kernel
theorem dX7_valueOf_12 : decode cX7_valueOf 12 = .ok (.i2l, 1) := by decide +kernel
theorem dX7_valueOf_13 : decode cX7_valueOf 13 = .ok (.goto 13, 3) := by decide +kernel
theorem dX7_valueOf_16 : decode cX7_valueOf 16 = .ok (.aload_n 0, 1) := by decide +kernel
theorem dX7_valueOf_17 : decode cX7_valueOf 17 = .ok (.getfield 25, 3) := by decide +kernel
theorem dX7_valueOf_20 : decode cX7_valueOf 20 = .ok (.iload_n 1, 1) := by decide +kernel
theorem dX7_valueOf_21 : decode cX7_valueOf 21 = .ok (.bipush 8, 2) := by decide +kernel
theorem dX7_valueOf_23 : decode cX7_valueOf 23 = .ok (.isub, 1) := by decide +kernel
theorem dX7_valueOf_24 : decode cX7_valueOf 24 = .ok (.iaload, 1) := by decide +kernel
theorem dX7_valueOf_25 : decode cX7_valueOf 25 = .ok (.i2l, 1) := by decide +kernel
theorem dX7_valueOf_26 : decode cX7_valueOf 26 = .ok (.lreturn, 1) := by decide +kernel
set_option maxRecDepth 20000 in
theorem ggX7_way_X7_in : GoodIn wsX7_way wsX7_in := goodIn_r _ [7] (by decide +kernel) (by decide +kernel)
set_option maxRecDepth 20000 in
theorem gX7_way_X7_in : GoodIn wsX7_way (va_wsS RX7 92 yX7_in wsX7_in) := goodIn_app (goodIn_of _ (by decide +kernel)) ggX7_way_X7_in
theorem dX7_way_0 : decode cX7_way 0 = .ok (.iload_n 1, 1) := by decide +kernel
theorem dX7_way_1 : decode cX7_way 1 = .ok (.iconst 0, 1) := by decide +kernel
theorem dX7_way_2 : decode cX7_way 2 = .ok (.iconst 3, 1) := by decide +kernel
theorem dX7_way_3 : decode cX7_way 3 = .ok (.invokestatic 92, 3) := by decide +kernel
theorem dX7_way_6 : decode cX7_way 6 = .ok (.ifCond .eq 13, 3) := by decide +kernel
theorem dX7_way_9 : decode cX7_way 9 = .ok (.iload_n 2, 1) := by decide +kernel
theorem dX7_way_10 : decode cX7_way 10 = .ok (.iconst 1, 1) := by decide +kernel
theorem dX7_way_11 : decode cX7_way 11 = .ok (.bipush 6, 2) := by decide +kernel
theorem dX7_way_13 : decode cX7_way 13 = .ok (.invokestatic 92, 3) := by decide +kernel
theorem dX7_way_16 : decode cX7_way 16 = .ok (.ifCond .ne 6, 3) := by decide +kernel
theorem dX7_way_19 : decode cX7_way 19 = .ok (.bipush (-102), 2) := by decide +kernel
theorem dX7_way_21 : decode cX7_way 21 = .ok (.ireturn, 1) := by decide +kernel
theorem dX7_way_22 : decode cX7_way 22 = .ok (.aload_n 0, 1) := by decide +kernel
theorem dX7_way_23 : decode cX7_way 23 = .ok (.getfield 96, 3) := by decide +kernel
theorem dX7_way_26 : decode cX7_way 26 = .ok (.ifCond .eq 6, 3) := by decide +kernel
theorem dX7_way_29 : decode cX7_way 29 = .ok (.bipush (-103), 2) := by decide +kernel
theorem dX7_way_31 : decode cX7_way 31 = .ok (.ireturn, 1) := by decide +kernel
theorem dX7_way_32 : decode cX7_way 32 = .ok (.aload_n 0, 1) := by decide +kernel
theorem dX7_way_33 : decode cX7_way 33 = .ok (.iload_n 1, 1) := by decide +kernel
theorem dX7_way_34 : decode cX7_way 34 = .ok (.putfield 111, 3) := by decide +kernel
theorem dX7_way_37 : decode cX7_way 37 = .ok (.aload_n 0, 1) := by decide +kernel
theorem dX7_way_38 : decode cX7_way 38 = .ok (.iload_n 2, 1) := by decide +kernel
theorem dX7_way_39 : decode cX7_way 39 = .ok (.putfield 31, 3) := by decide +kernel
theorem dX7_way_42 : decode cX7_way 42 = .ok (.iconst 1, 1) := by decide +kernel
theorem dX7_way_43 : decode cX7_way 43 = .ok (.ireturn, 1) := by decide +kernel
theorem dX7_begin_0 : decode cX7_begin 0 = .ok (.aload_n 0, 1) := by decide +kernel
theorem dX7_begin_1 : decode cX7_begin 1 = .ok (.getfield 96, 3) := by decide +kernel
theorem dX7_begin_4 : decode cX7_begin 4 = .ok (.ifCond .eq 6, 3) := by decide +kernel
theorem dX7_begin_7 : decode cX7_begin 7 = .ok (.bipush (-103), 2) := by decide +kernel
theorem dX7_begin_9 : decode cX7_begin 9 = .ok (.ireturn, 1) := by decide +kernel
theorem dX7_begin_10 : decode cX7_begin 10 = .ok (.aload_n 0, 1) := by decide +kernel
theorem dX7_begin_11 : decode cX7_begin 11 = .ok (.iconst 1, 1) := by decide +kernel
theorem dX7_begin_12 : decode cX7_begin 12 = .ok (.putfield 96, 3) := by decide +kernel
theorem dX7_begin_15 : decode cX7_begin 15 = .ok (.aload_n 0, 1) := by decide +kernel
theorem dX7_begin_16 : decode cX7_begin 16 = .ok (.iconst 0, 1) := by decide +kernel
theorem dX7_begin_17 : decode cX7_begin 17 = .ok (.putfield 74, 3) := by decide +kernel
theorem dX7_begin_20 : decode cX7_begin 20 = .ok (.aload_n 0, 1) := by decide +kernel
theorem dX7_begin_21 : decode cX7_begin 21 = .ok (.iconst 0, 1) := by decide +kernel
theorem dX7_begin_22 : decode cX7_begin 22 = .ok (.putfield 114, 3) := by decide +kernel
theorem dX7_begin_25 : decode cX7_begin 25 = .ok (.aload_n 0, 1) := by decide +kernel
theorem dX7_begin_26 : decode cX7_begin 26 = .ok (.iconst 0, 1) := by decide +kernel
theorem dX7_begin_27 : decode cX7_begin 27 = .ok (.putfield 117, 3) := by decide +kernel
theorem dX7_begin_30 : decode cX7_begin 30 = .ok (.aload_n 0, 1) := by decide +kernel
theorem dX7_begin_31 : decode cX7_begin 31 = .ok (.iconst 0, 1) := by decide +kernel
theorem dX7_begin_32 : decode cX7_begin 32 = .ok (.putfield 120, 3) := by decide +kernel
theorem dX7_begin_35 : decode cX7_begin 35 = .ok (.aload_n 0, 1) := by decide +kernel
theorem dX7_begin_36 : decode cX7_begin 36 = .ok (.iconst 0, 1) := by decide +kernel
theorem dX7_begin_37 : decode cX7_begin 37 = .ok (.putfield 123, 3) := by decide +kernel
theorem dX7_begin_40 : decode cX7_begin 40 = .ok (.iconst 0, 1) := by decide +kernel
theorem dX7_begin_41 : decode cX7_begin 41 = .ok (.istore_n 1, 1) := by decide +kernel
theorem dX7_begin_42 : decode cX7_begin 42 = .ok (.iload_n 1, 1) := by decide +kernel
theorem dX7_begin_43 : decode cX7_begin 43 = .ok (.bipush 9, 2) := by decide +kernel
theorem dX7_begin_45 : decode cX7_begin 45 = .ok (.if_icmp .ge 16, 3) := by decide +kernel
theorem dX7_begin_48 : decode cX7_begin 48 = .ok (.aload_n 0, 1) := by decide +kernel
theorem dX7_begin_49 : decode cX7_begin 49 = .ok (.getfield 77, 3) := by decide +kernel
theorem dX7_begin_52 : decode cX7_begin 52 = .ok (.iload_n 1, 1) := by decide +kernel
theorem dX7_begin_53 : decode cX7_begin 53 = .ok (.iconst 0, 1) := by decide +kernel
theorem dX7_begin_54 : decode cX7_begin 54 = .ok (.iastore, 1) := by decide +kernel
theorem dX7_begin_55 : decode cX7_begin 55 = .ok (.iinc 1 1, 3) := by decide +kernel
theorem dX7_begin_58 : decode cX7_begin 58 = .ok (.goto (-16), 3) := by decide +kernel
theorem dX7_begin_61 : decode cX7_begin 61 = .ok (.aload_n 0, 1) := by decide +kernel
theorem dX7_begin_62 : decode cX7_begin 62 = .ok (.getfield 77, 3) := by decide +kernel
theorem dX7_begin_65 : decode cX7_begin 65 = .ok (.bipush 12, 2) := by decide +kernel
theorem dX7_begin_67 : decode cX7_begin 67 = .ok (.dup2, 1) := by decide +kernel
theorem dX7_begin_68 : decode cX7_begin 68 = .ok (.iaload, 1) := by decide +kernel
theorem dX7_begin_69 : decode cX7_begin 69 = .ok (.iconst 1, 1) := by decide +kernel
theorem dX7_begin_70 : decode cX7_begin 70 = .ok (.iadd, 1) := by decide +kernel
theorem dX7_begin_71 : decode cX7_begin 71 = .ok (.iastore, 1) := by decide +kernel
theorem dX7_begin_72 : decode cX7_begin 72 = .ok (.iconst 1, 1) := by decide +kernel
theorem dX7_begin_73 : decode cX7_begin 73 = .ok (.ireturn, 1) := by decide +kernel
theorem dX7_finish_0 : decode cX7_finish 0 = .ok (.aload_n 0, 1) := by decide +kernel
theorem dX7_finish_1 : decode cX7_finish 1 = .ok (.iconst 0, 1) := by decide +kernel
theorem dX7_finish_2 : decode cX7_finish 2 = .ok (.putfield 96, 3) := by decide +kernel
theorem dX7_finish_5 : decode cX7_finish 5 = .ok (.aload_n 0, 1) := by decide +kernel
theorem dX7_finish_6 : decode cX7_finish 6 = .ok (.iload_n 1, 1) := by decide +kernel
theorem dX7_finish_7 : decode cX7_finish 7 = .ok (.putfield 74, 3) := by decide +kernel
theorem dX7_finish_10 : decode cX7_finish 10 = .ok (.aload_n 0, 1) := by decide +kernel
theorem dX7_finish_11 : decode cX7_finish 11 = .ok (.getfield 77, 3) := by decide +kernel
theorem dX7_finish_14 : decode cX7_finish 14 = .ok (.iconst 3, 1) := by decide +kernel
theorem dX7_finish_15 : decode cX7_finish 15 = .ok (.dup2, 1) := by decide +kernel
theorem dX7_finish_16 : decode cX7_finish 16 = .ok (.iaload, 1) := by decide +kernel
theorem dX7_finish_17 : decode cX7_finish 17 = .ok (.aload_n 0, 1) := by decide +kernel
theorem dX7_finish_18 : decode cX7_finish 18 = .ok (.getfield 117, 3) := by decide +kernel
theorem dX7_finish_21 : decode cX7_finish 21 = .ok (.iadd, 1) := by decide +kernel
theorem dX7_finish_22 : decode cX7_finish 22 = .ok (.iastore, 1) := by decide +kernel
theorem dX7_finish_23 : decode cX7_finish 23 = .ok (.aload_n 0, 1) := by decide +kernel
theorem dX7_finish_24 : decode cX7_finish 24 = .ok (.iconst 0, 1) := by decide +kernel
theorem dX7_finish_25 : decode cX7_finish 25 = .ok (.putfield 117, 3) := by decide +kernel
theorem dX7_finish_28 : decode cX7_finish 28 = .ok (.return_, 1) := by decide +kernel
theorem dX7_more_0 : decode cX7_more 0 = .ok (.iload_n 1, 1) := by decide +kernel
theorem dX7_more_1 : decode cX7_more 1 = .ok (.ifCond .eq 18, 3) := by decide +kernel
theorem dX7_more_4 : decode cX7_more 4 = .ok (.iload_n 0, 1) := by decide +kernel
theorem dX7_more_5 : decode cX7_more 5 = .ok (.iconst 3, 1) := by decide +kernel
theorem dX7_more_6 : decode cX7_more 6 = .ok (.if_icmp .ge 9, 3) := by decide +kernel
theorem dX7_more_9 : decode cX7_more 9 = .ok (.iload_n 0, 1) := by decide +kernel
theorem dX7_more_10 : decode cX7_more 10 = .ok (.iconst 1, 1) := by decide +kernel
theorem dX7_more_11 : decode cX7_more 11 = .ok (.iadd, 1) := by decide +kernel
theorem dX7_more_12 : decode cX7_more 12 = .ok (.goto 18, 3) := by decide +kernel
theorem dX7_more_15 : decode cX7_more 15 = .ok (.iconst 3, 1) := by decide +kernel
theorem dX7_more_16 : decode cX7_more 16 = .ok (.goto 14, 3) := by decide +kernel
theorem dX7_more_19 : decode cX7_more 19 = .ok (.iload_n 0, 1) := by decide +kernel
theorem dX7_more_20 : decode cX7_more 20 = .ok (.ifCond .le 9, 3) := by decide +kernel
theorem dX7_more_23 : decode cX7_more 23 = .ok (.iload_n 0, 1) := by decide +kernel
theorem dX7_more_24 : decode cX7_more 24 = .ok (.iconst 1, 1) := by decide +kernel
theorem dX7_more_25 : decode cX7_more 25 = .ok (.isub, 1) := by decide +kernel
theorem dX7_more_26 : decode cX7_more 26 = .ok (.goto 4, 3) := by decide +kernel
theorem dX7_more_29 : decode cX7_more 29 = .ok (.iconst 0, 1) := by decide +kernel
theorem dX7_more_30 : decode cX7_more 30 = .ok (.ireturn, 1) := by decide +kernel
theorem dX7_push_0 : decode cX7_push 0 = .ok (.aload_n 0, 1) := by decide +kernel
theorem dX7_push_1 : decode cX7_push 1 = .ok (.getfield 120, 3) := by decide +kernel
theorem dX7_push_4 : decode cX7_push 4 = .ok (.iconst 4, 1) := by decide +kernel
theorem dX7_push_5 : decode cX7_push 5 = .ok (.if_icmp .ne 40, 3) := by decide +kernel
theorem dX7_push_8 : decode cX7_push 8 = .ok (.iconst 0, 1) := by decide +kernel
theorem dX7_push_9 : decode cX7_push 9 = .ok (.istore_n 2, 1) := by decide +kernel
theorem dX7_push_10 : decode cX7_push 10 = .ok (.iload_n 2, 1) := by decide +kernel
theorem dX7_push_11 : decode cX7_push 11 = .ok (.iconst 3, 1) := by decide +kernel
theorem dX7_push_12 : decode cX7_push 12 = .ok (.if_icmp .ge 23, 3) := by decide +kernel
theorem dX7_push_15 : decode cX7_push 15 = .ok (.aload_n 0, 1) := by decide +kernel
theorem dX7_push_16 : decode cX7_push 16 = .ok (.getfield 53, 3) := by decide +kernel
theorem dX7_push_19 : decode cX7_push 19 = .ok (.iload_n 2, 1) := by decide +kernel
theorem dX7_push_20 : decode cX7_push 20 = .ok (.aload_n 0, 1) := by decide +kernel
theorem dX7_push_21 : decode cX7_push 21 = .ok (.getfield 53, 3) := by decide +kernel
theorem dX7_push_24 : decode cX7_push 24 = .ok (.iload_n 2, 1) := by decide +kernel
theorem dX7_push_25 : decode cX7_push 25 = .ok (.iconst 1, 1) := by decide +kernel
theorem dX7_push_26 : decode cX7_push 26 = .ok (.iadd, 1) := by decide +kernel
theorem dX7_push_27 : decode cX7_push 27 = .ok (.iaload, 1) := by decide +kernel
theorem dX7_push_28 : decode cX7_push 28 = .ok (.iastore, 1) := by decide +kernel
theorem dX7_push_29 : decode cX7_push 29 = .ok (.iinc 2 1, 3) := by decide +kernel
theorem dX7_push_32 : decode cX7_push 32 = .ok (.goto (-22), 3) := by decide +kernel
theorem dX7_push_35 : decode cX7_push 35 = .ok (.aload_n 0, 1) := by decide +kernel
theorem dX7_push_36 : decode cX7_push 36 = .ok (.dup, 1) := by decide +kernel
theorem dX7_push_37 : decode cX7_push 37 = .ok (.getfield 120, 3) := by decide +kernel
theorem dX7_push_40 : decode cX7_push 40 = .ok (.iconst 1, 1) := by decide +kernel
theorem dX7_push_41 : decode cX7_push 41 = .ok (.isub, 1) := by decide +kernel
theorem dX7_push_42 : decode cX7_push 42 = .ok (.putfield 120, 3) := by decide +kernel
theorem dX7_push_45 : decode cX7_push 45 = .ok (.aload_n 0, 1) := by decide +kernel
theorem dX7_push_46 : decode cX7_push 46 = .ok (.getfield 53, 3) := by decide +kernel
theorem dX7_push_49 : decode cX7_push 49 = .ok (.aload_n 0, 1) := by decide +kernel
theorem dX7_push_50 : decode cX7_push 50 = .ok (.getfield 120, 3) := by decide +kernel
theorem dX7_push_53 : decode cX7_push 53 = .ok (.iload_n 1, 1) := by decide +kernel
theorem dX7_push_54 : decode cX7_push 54 = .ok (.iastore, 1) := by decide +kernel
theorem dX7_push_55 : decode cX7_push 55 = .ok (.aload_n 0, 1) := by decide +kernel
theorem dX7_push_56 : decode cX7_push 56 = .ok (.dup, 1) := by decide +kernel
theorem dX7_push_57 : decode cX7_push 57 = .ok (.getfield 120, 3) := by decide +kernel
theorem dX7_push_60 : decode cX7_push 60 = .ok (.iconst 1, 1) := by decide +kernel
theorem dX7_push_61 : decode cX7_push 61 = .ok (.iadd, 1) := by decide +kernel
theorem dX7_push_62 : decode cX7_push 62 = .ok (.putfield 120, 3) := by decide +kernel
theorem dX7_push_65 : decode cX7_push 65 = .ok (.return_, 1) := by decide +kernel
theorem dX7_bit_0 : decode cX7_bit 0 = .ok (.aload_n 0, 1) := by decide +kernel
theorem dX7_bit_1 : decode cX7_bit 1 = .ok (.iconst 2, 1) := by decide +kernel
theorem dX7_bit_2 : decode cX7_bit 2 = .ok (.aload_n 0, 1) := by decide +kernel
theorem dX7_bit_3 : decode cX7_bit 3 = .ok (.getfield 89, 3) := by decide +kernel
theorem dX7_bit_6 : decode cX7_bit 6 = .ok (.imul, 1) := by decide +kernel
theorem dX7_bit_7 : decode cX7_bit 7 = .ok (.bipush 16, 2) := by decide +kernel
theorem dX7_bit_9 : decode cX7_bit 9 = .ok (.irem, 1) := by decide +kernel
theorem dX7_bit_10 : decode cX7_bit 10 = .ok (.iload_n 1, 1) := by decide +kernel
theorem dX7_bit_11 : decode cX7_bit 11 = .ok (.ifCond .eq 7, 3) := by decide +kernel
theorem dX7_bit_14 : decode cX7_bit 14 = .ok (.iconst 1, 1) := by decide +kernel
theorem dX7_bit_15 : decode cX7_bit 15 = .ok (.goto 4, 3) := by decide +kernel
theorem dX7_bit_18 : decode cX7_bit 18 = .ok (.iconst 0, 1) := by decide +kernel
theorem dX7_bit_19 : decode cX7_bit 19 = .ok (.iadd, 1) := by decide +kernel
theorem dX7_bit_20 : decode cX7_bit 20 = .ok (.putfield 89, 3) := by decide +kernel
theorem dX7_bit_23 : decode cX7_bit 23 = .ok (.return_, 1) := by decide +kernel
theorem dX7_mixedAt_0 : decode cX7_mixedAt 0 = .ok (.iload_n 1, 1) := by decide +kernel
theorem dX7_mixedAt_1 : decode cX7_mixedAt 1 = .ok (.bipush 16, 2) := by decide +kernel
theorem dX7_mixedAt_3 : decode cX7_mixedAt 3 = .ok (.irem, 1) := by decide +kernel
theorem dX7_mixedAt_4 : decode cX7_mixedAt 4 = .ok (.iload_n 2, 1) := by decide +kernel
theorem dX7_mixedAt_5 : decode cX7_mixedAt 5 = .ok (.ixor, 1) := by decide +kernel
theorem dX7_mixedAt_6 : decode cX7_mixedAt 6 = .ok (.ireturn, 1) := by decide +kernel
set_option maxRecDepth 20000 in
theorem ggX7_guessesTurn_X7_mixedAt : GoodIn wsX7_guessesTurn wsX7_mixedAt := goodIn_r _ [10] (by decide +kernel) (by decide +kernel)
set_option maxRecDepth 20000 in
theorem gX7_guessesTurn_X7_mixedAt : GoodIn wsX7_guessesTurn (wsV RX7 126 RX7 yX7_mixedAt wsX7_mixedAt) := goodIn_app (goodIn_of _ (by decide +kernel)) ggX7_guessesTurn_X7_mixedAt
theorem dX7_guessesTurn_0 : decode cX7_guessesTurn 0 = .ok (.aload_n 0, 1) := by decide +kernel
theorem dX7_guessesTurn_1 : decode cX7_guessesTurn 1 = .ok (.getfield 111, 3) := by decide +kernel
theorem dX7_guessesTurn_4 : decode cX7_guessesTurn 4 = .ok (.tableswitch 73 0 2 #[28, 30, 49], 28) := by decide +kernel
theorem dX7_guessesTurn_32 : decode cX7_guessesTurn 32 = .ok (.iconst 0, 1) := by decide +kernel
theorem dX7_guessesTurn_33 : decode cX7_guessesTurn 33 = .ok (.ireturn, 1) := by decide +kernel
theorem dX7_guessesTurn_34 : decode cX7_guessesTurn 34 = .ok (.aload_n 0, 1) := by decide +kernel
theorem dX7_guessesTurn_35 : decode cX7_guessesTurn 35 = .ok (.getfield 35, 3) := by decide +kernel
theorem dX7_guessesTurn_38 : decode cX7_guessesTurn 38 = .ok (.iload_n 1, 1) := by decide +kernel
theorem dX7_guessesTurn_39 : decode cX7_guessesTurn 39 = .ok (.bipush 16, 2) := by decide +kernel
theorem dX7_guessesTurn_41 : decode cX7_guessesTurn 41 = .ok (.irem, 1) := by decide +kernel
theorem dX7_guessesTurn_42 : decode cX7_guessesTurn 42 = .ok (.iaload, 1) := by decide +kernel
theorem dX7_guessesTurn_43 : decode cX7_guessesTurn 43 = .ok (.iconst 1, 1) := by decide +kernel
theorem dX7_guessesTurn_44 : decode cX7_guessesTurn 44 = .ok (.if_icmp .le 7, 3) := by decide +kernel
theorem dX7_guessesTurn_47 : decode cX7_guessesTurn 47 = .ok (.iconst 1, 1) := by decide +kernel
theorem dX7_guessesTurn_48 : decode cX7_guessesTurn 48 = .ok (.goto 4, 3) := by decide +kernel
theorem dX7_guessesTurn_51 : decode cX7_guessesTurn 51 = .ok (.iconst 0, 1) := by decide +kernel
theorem dX7_guessesTurn_52 : decode cX7_guessesTurn 52 = .ok (.ireturn, 1) := by decide +kernel
theorem dX7_guessesTurn_53 : decode cX7_guessesTurn 53 = .ok (.aload_n 0, 1) := by decide +kernel
theorem dX7_guessesTurn_54 : decode cX7_guessesTurn 54 = .ok (.getfield 38, 3) := by decide +kernel
theorem dX7_guessesTurn_57 : decode cX7_guessesTurn 57 = .ok (.aload_n 0, 1) := by decide +kernel
theorem dX7_guessesTurn_58 : decode cX7_guessesTurn 58 = .ok (.iload_n 1, 1) := by decide +kernel
theorem dX7_guessesTurn_59 : decode cX7_guessesTurn 59 = .ok (.aload_n 0, 1) := by decide +kernel
theorem dX7_guessesTurn_60 : decode cX7_guessesTurn 60 = .ok (.getfield 89, 3) := by decide +kernel
theorem dX7_guessesTurn_63 : decode cX7_guessesTurn 63 = .ok (.invokevirtual 126, 3) := by decide +kernel
theorem dX7_guessesTurn_66 : decode cX7_guessesTurn 66 = .ok (.iaload, 1) := by decide +kernel
theorem dX7_guessesTurn_67 : decode cX7_guessesTurn 67 = .ok (.iconst 1, 1) := by decide +kernel
theorem dX7_guessesTurn_68 : decode cX7_guessesTurn 68 = .ok (.if_icmp .le 7, 3) := by decide +kernel
theorem dX7_guessesTurn_71 : decode cX7_guessesTurn 71 = .ok (.iconst 1, 1) := by decide +kernel
theorem dX7_guessesTurn_72 : decode cX7_guessesTurn 72 = .ok (.goto 4, 3) := by decide +kernel
theorem dX7_guessesTurn_75 : decode cX7_guessesTurn 75 = .ok (.iconst 0, 1) := by decide +kernel
theorem dX7_guessesTurn_76 : decode cX7_guessesTurn 76 = .ok (.ireturn, 1) := by decide +kernel
theorem dX7_guessesTurn_77 : decode cX7_guessesTurn 77 = .ok (.aload_n 0, 1) := by decide +kernel
theorem dX7_guessesTurn_78 : decode cX7_guessesTurn 78 = .ok (.getfield 41, 3) := by decide +kernel
theorem dX7_guessesTurn_81 : decode cX7_guessesTurn 81 = .ok (.iload_n 1, 1) := by decide +kernel
theorem dX7_guessesTurn_82 : decode cX7_guessesTurn 82 = .ok (.bipush 16, 2) := by decide +kernel
theorem dX7_guessesTurn_84 : decode cX7_guessesTurn 84 = .ok (.irem, 1) := by decide +kernel
theorem dX7_guessesTurn_85 : decode cX7_guessesTurn 85 = .ok (.iaload, 1) := by decide +kernel
theorem dX7_guessesTurn_86 : decode cX7_guessesTurn 86 = .ok (.iconst 1, 1) := by decide +kernel
theorem dX7_guessesTurn_87 : decode cX7_guessesTurn 87 = .ok (.if_icmp .le 29, 3) := by decide +kernel
theorem dX7_guessesTurn_90 : decode cX7_guessesTurn 90 = .ok (.aload_n 0, 1) := by decide +kernel
theorem dX7_guessesTurn_91 : decode cX7_guessesTurn 91 = .ok (.getfield 38, 3) := by decide +kernel
theorem dX7_guessesTurn_94 : decode cX7_guessesTurn 94 = .ok (.aload_n 0, 1) := by decide +kernel
theorem dX7_guessesTurn_95 : decode cX7_guessesTurn 95 = .ok (.iload_n 1, 1) := by decide +kernel
theorem dX7_guessesTurn_96 : decode cX7_guessesTurn 96 = .ok (.aload_n 0, 1) := by decide +kernel
theorem dX7_guessesTurn_97 : decode cX7_guessesTurn 97 = .ok (.getfield 89, 3) := by decide +kernel
theorem dX7_guessesTurn_100 : decode cX7_guessesTurn 100 = .ok (.invokevirtual 126, 3) := by decide +kernel
theorem dX7_guessesTurn_103 : decode cX7_guessesTurn 103 = .ok (.iaload, 1) := by decide +kernel
theorem dX7_guessesTurn_104 : decode cX7_guessesTurn 104 = .ok (.iconst 1, 1) := by decide +kernel
theorem dX7_guessesTurn_105 : decode cX7_guessesTurn 105 = .ok (.if_icmp .le 7, 3) := by decide +kernel
theorem dX7_guessesTurn_108 : decode cX7_guessesTurn 108 = .ok (.iconst 1, 1) := by decide +kernel
theorem dX7_guessesTurn_109 : decode cX7_guessesTurn 109 = .ok (.goto 25, 3) := by decide +kernel
theorem dX7_guessesTurn_112 : decode cX7_guessesTurn 112 = .ok (.iconst 0, 1) := by decide +kernel
theorem dX7_guessesTurn_113 : decode cX7_guessesTurn 113 = .ok (.goto 21, 3) := by decide +kernel
theorem dX7_guessesTurn_116 : decode cX7_guessesTurn 116 = .ok (.aload_n 0, 1) := by decide +kernel
theorem dX7_guessesTurn_117 : decode cX7_guessesTurn 117 = .ok (.getfield 35, 3) := by decide +kernel
theorem dX7_guessesTurn_120 : decode cX7_guessesTurn 120 = .ok (.iload_n 1, 1) := by decide +kernel
theorem dX7_guessesTurn_121 : decode cX7_guessesTurn 121 = .ok (.bipush 16, 2) := by decide +kernel
theorem dX7_guessesTurn_123 : decode cX7_guessesTurn 123 = .ok (.irem, 1) := by decide +kernel
theorem dX7_guessesTurn_124 : decode cX7_guessesTurn 124 = .ok (.iaload, 1) := by decide +kernel
theorem dX7_guessesTurn_125 : decode cX7_guessesTurn 125 = .ok (.iconst 1, 1) := by decide +kernel
theorem dX7_guessesTurn_126 : decode cX7_guessesTurn 126 = .ok (.if_icmp .le 7, 3) := by decide +kernel
theorem dX7_guessesTurn_129 : decode cX7_guessesTurn 129 = .ok (.iconst 1, 1) := by decide +kernel
theorem dX7_guessesTurn_130 : decode cX7_guessesTurn 130 = .ok (.goto 4, 3) := by decide +kernel
theorem dX7_guessesTurn_133 : decode cX7_guessesTurn 133 = .ok (.iconst 0, 1) := by decide +kernel
theorem dX7_guessesTurn_134 : decode cX7_guessesTurn 134 = .ok (.ireturn, 1) := by decide +kernel
set_option maxRecDepth 20000 in
theorem ggX7_guess_X7_guessesTurn : GoodIn wsX7_guess wsX7_guessesTurn := goodIn_r _ [11, 12, 13, 14, 15, 16, 17, 18, 19, 10, 20, 29, 30, 31, 32, 33, 34, 35, 36, 37, 38, 39, 40, 41, 42, 43, 44, 45, 46, 47, 48, 49, 50, 51, 52, 53, 54, 55, 56, 57, 58, 59, 60, 61, 62] (by decide +kernel) (by decide +kernel)
set_option maxRecDepth 20000 in
theorem gX7_guess_X7_guessesTurn : GoodIn wsX7_guess (wsV RX7 130 RX7 yX7_guessesTurn wsX7_guessesTurn) := goodIn_app (goodIn_of _ (by decide +kernel)) ggX7_guess_X7_guessesTurn
set_option maxRecDepth 20000 in
theorem ggX7_guess_X7_bit : GoodIn wsX7_guess wsX7_bit := goodIn_r _ [24, 15, 29, 30, 31, 32, 33, 34, 35, 36, 37, 38, 39, 40, 41, 42, 43, 44, 45, 46, 47, 48, 49, 50, 51, 52, 53, 54, 55, 56, 57, 58, 59, 60, 61, 62] (by decide +kernel) (by decide +kernel)
set_option maxRecDepth 20000 in
theorem gX7_guess_X7_bit : GoodIn wsX7_guess (wsV RX7 134 RX7 yX7_bit wsX7_bit) := goodIn_app (goodIn_of _ (by decide +kernel)) ggX7_guess_X7_bit
set_option maxRecDepth 20000 in
theorem ggX7_guess_X7_push : GoodIn wsX7_guess wsX7_push := goodIn_r _ [28, 5, 6, 29, 30, 31, 32, 33, 34, 35, 36, 37, 38, 39, 40, 41, 42, 43, 44, 45, 46, 47, 48, 49, 50, 51, 52, 53, 54, 55, 56, 57, 58, 59, 60, 61, 62] (by decide +kernel) (by decide +kernel)
set_option maxRecDepth 20000 in
theorem gX7_guess_X7_push : GoodIn wsX7_guess (wsV RX7 138 RX7 yX7_push wsX7_push) := goodIn_app (goodIn_of _ (by decide +kernel)) ggX7_guess_X7_push
theorem dX7_guess_0 : decode cX7_guess 0 = .ok (.iload_n 1, 1) := by decide +kernel
theorem dX7_guess_1 : decode cX7_guess 1 = .ok (.bipush 8, 2) := by decide +kernel
theorem dX7_guess_3 : decode cX7_guess 3 = .ok (.irem, 1) := by decide +kernel
theorem dX7_guess_4 : decode cX7_guess 4 = .ok (.istore_n 2, 1) := by decide +kernel
theorem dX7_guess_5 : decode cX7_guess 5 = .ok (.aload_n 0, 1) := by decide +kernel
theorem dX7_guess_6 : decode cX7_guess 6 = .ok (.getfield 44, 3) := by decide +kernel
theorem dX7_guess_9 : decode cX7_guess 9 = .ok (.iload_n 2, 1) := by decide +kernel
theorem dX7_guess_10 : decode cX7_guess 10 = .ok (.iaload, 1) := by decide +kernel
theorem dX7_guess_11 : decode cX7_guess 11 = .ok (.iload_n 1, 1) := by decide +kernel
theorem dX7_guess_12 : decode cX7_guess 12 = .ok (.if_icmp .eq 7, 3) := by decide +kernel
theorem dX7_guess_15 : decode cX7_guess 15 = .ok (.iload_n 1, 1) := by decide +kernel
theorem dX7_guess_16 : decode cX7_guess 16 = .ok (.iconst 1, 1) := by decide +kernel
theorem dX7_guess_17 : decode cX7_guess 17 = .ok (.iadd, 1) := by decide +kernel
theorem dX7_guess_18 : decode cX7_guess 18 = .ok (.ireturn, 1) := by decide +kernel
theorem dX7_guess_19 : decode cX7_guess 19 = .ok (.aload_n 0, 1) := by decide +kernel
theorem dX7_guess_20 : decode cX7_guess 20 = .ok (.getfield 77, 3) := by decide +kernel
theorem dX7_guess_23 : decode cX7_guess 23 = .ok (.bipush 8, 2) := by decide +kernel
theorem dX7_guess_25 : decode cX7_guess 25 = .ok (.dup2, 1) := by decide +kernel
theorem dX7_guess_26 : decode cX7_guess 26 = .ok (.iaload, 1) := by decide +kernel
theorem dX7_guess_27 : decode cX7_guess 27 = .ok (.iconst 1, 1) := by decide +kernel
theorem dX7_guess_28 : decode cX7_guess 28 = .ok (.iadd, 1) := by decide +kernel
theorem dX7_guess_29 : decode cX7_guess 29 = .ok (.iastore, 1) := by decide +kernel
theorem dX7_guess_30 : decode cX7_guess 30 = .ok (.aload_n 0, 1) := by decide +kernel
theorem dX7_guess_31 : decode cX7_guess 31 = .ok (.getfield 47, 3) := by decide +kernel
theorem dX7_guess_34 : decode cX7_guess 34 = .ok (.iload_n 2, 1) := by decide +kernel
theorem dX7_guess_35 : decode cX7_guess 35 = .ok (.iaload, 1) := by decide +kernel
theorem dX7_guess_36 : decode cX7_guess 36 = .ok (.istore_n 3, 1) := by decide +kernel
theorem dX7_guess_37 : decode cX7_guess 37 = .ok (.iload_n 3, 1) := by decide +kernel
theorem dX7_guess_38 : decode cX7_guess 38 = .ok (.iconst 5, 1) := by decide +kernel
theorem dX7_guess_39 : decode cX7_guess 39 = .ok (.if_icmp .eq 9, 3) := by decide +kernel
theorem dX7_guess_42 : decode cX7_guess 42 = .ok (.iload_n 3, 1) := by decide +kernel
theorem dX7_guess_43 : decode cX7_guess 43 = .ok (.bipush 6, 2) := by decide +kernel
theorem dX7_guess_45 : decode cX7_guess 45 = .ok (.if_icmp .ne 34, 3) := by decide +kernel
theorem dX7_guess_48 : decode cX7_guess 48 = .ok (.aload_n 0, 1) := by decide +kernel
theorem dX7_guess_49 : decode cX7_guess 49 = .ok (.iload_n 1, 1) := by decide +kernel
theorem dX7_guess_50 : decode cX7_guess 50 = .ok (.invokevirtual 130, 3) := by decide +kernel
theorem dX7_guess_53 : decode cX7_guess 53 = .ok (.istore 4, 2) := by decide +kernel
theorem dX7_guess_55 : decode cX7_guess 55 = .ok (.aload_n 0, 1) := by decide +kernel
theorem dX7_guess_56 : decode cX7_guess 56 = .ok (.iload 4, 2) := by decide +kernel
theorem dX7_guess_58 : decode cX7_guess 58 = .ok (.invokevirtual 134, 3) := by decide +kernel
theorem dX7_guess_61 : decode cX7_guess 61 = .ok (.iload 4, 2) := by decide +kernel
theorem dX7_guess_63 : decode cX7_guess 63 = .ok (.ifCond .eq 12, 3) := by decide +kernel
theorem dX7_guess_66 : decode cX7_guess 66 = .ok (.aload_n 0, 1) := by decide +kernel
theorem dX7_guess_67 : decode cX7_guess 67 = .ok (.getfield 50, 3) := by decide +kernel
theorem dX7_guess_70 : decode cX7_guess 70 = .ok (.iload_n 2, 1) := by decide +kernel
theorem dX7_guess_71 : decode cX7_guess 71 = .ok (.iaload, 1) := by decide +kernel
theorem dX7_guess_72 : decode cX7_guess 72 = .ok (.goto 6, 3) := by decide +kernel
theorem dX7_guess_75 : decode cX7_guess 75 = .ok (.iload_n 1, 1) := by decide +kernel
theorem dX7_guess_76 : decode cX7_guess 76 = .ok (.iconst 1, 1) := by decide +kernel
theorem dX7_guess_77 : decode cX7_guess 77 = .ok (.iadd, 1) := by decide +kernel
theorem dX7_guess_78 : decode cX7_guess 78 = .ok (.ireturn, 1) := by decide +kernel
theorem dX7_guess_79 : decode cX7_guess 79 = .ok (.iload_n 3, 1) := by decide +kernel
theorem dX7_guess_80 : decode cX7_guess 80 = .ok (.bipush 8, 2) := by decide +kernel
theorem dX7_guess_82 : decode cX7_guess 82 = .ok (.if_icmp .ne 13, 3) := by decide +kernel
theorem dX7_guess_85 : decode cX7_guess 85 = .ok (.aload_n 0, 1) := by decide +kernel
theorem dX7_guess_86 : decode cX7_guess 86 = .ok (.iload_n 1, 1) := by decide +kernel
theorem dX7_guess_87 : decode cX7_guess 87 = .ok (.iconst 1, 1) := by decide +kernel
theorem dX7_guess_88 : decode cX7_guess 88 = .ok (.iadd, 1) := by decide +kernel
theorem dX7_guess_89 : decode cX7_guess 89 = .ok (.invokevirtual 138, 3) := by decide +kernel
theorem dX7_guess_92 : decode cX7_guess 92 = .ok (.goto 40, 3) := by decide +kernel
theorem dX7_guess_95 : decode cX7_guess 95 = .ok (.iload_n 3, 1) := by decide +kernel
theorem dX7_guess_96 : decode cX7_guess 96 = .ok (.bipush 9, 2) := by decide +kernel
theorem dX7_guess_98 : decode cX7_guess 98 = .ok (.if_icmp .ne 34, 3) := by decide +kernel
theorem dX7_guess_101 : decode cX7_guess 101 = .ok (.aload_n 0, 1) := by decide +kernel
theorem dX7_guess_102 : decode cX7_guess 102 = .ok (.getfield 120, 3) := by decide +kernel
theorem dX7_guess_105 : decode cX7_guess 105 = .ok (.ifCond .ne 7, 3) := by decide +kernel
theorem dX7_guess_108 : decode cX7_guess 108 = .ok (.iload_n 1, 1) := by decide +kernel
theorem dX7_guess_109 : decode cX7_guess 109 = .ok (.iconst 1, 1) := by decide +kernel
theorem dX7_guess_110 : decode cX7_guess 110 = .ok (.iadd, 1) := by decide +kernel
theorem dX7_guess_111 : decode cX7_guess 111 = .ok (.ireturn, 1) := by decide +kernel
theorem dX7_guess_112 : decode cX7_guess 112 = .ok (.aload_n 0, 1) := by decide +kernel
theorem dX7_guess_113 : decode cX7_guess 113 = .ok (.dup, 1) := by decide +kernel
theorem dX7_guess_114 : decode cX7_guess 114 = .ok (.getfield 120, 3) := by decide +kernel
theorem dX7_guess_117 : decode cX7_guess 117 = .ok (.iconst 1, 1) := by decide +kernel
theorem dX7_guess_118 : decode cX7_guess 118 = .ok (.isub, 1) := by decide +kernel
theorem dX7_guess_119 : decode cX7_guess 119 = .ok (.putfield 120, 3) := by decide +kernel
theorem dX7_guess_122 : decode cX7_guess 122 = .ok (.aload_n 0, 1) := by decide +kernel
theorem dX7_guess_123 : decode cX7_guess 123 = .ok (.getfield 53, 3) := by decide +kernel
theorem dX7_guess_126 : decode cX7_guess 126 = .ok (.aload_n 0, 1) := by decide +kernel
theorem dX7_guess_127 : decode cX7_guess 127 = .ok (.getfield 120, 3) := by decide +kernel
theorem dX7_guess_130 : decode cX7_guess 130 = .ok (.iaload, 1) := by decide +kernel
theorem dX7_guess_131 : decode cX7_guess 131 = .ok (.ireturn, 1) := by decide +kernel
theorem dX7_guess_132 : decode cX7_guess 132 = .ok (.aload_n 0, 1) := by decide +kernel
theorem dX7_guess_133 : decode cX7_guess 133 = .ok (.getfield 50, 3) := by decide +kernel
theorem dX7_guess_136 : decode cX7_guess 136 = .ok (.iload_n 2, 1) := by decide +kernel
theorem dX7_guess_137 : decode cX7_guess 137 = .ok (.iaload, 1) := by decide +kernel
theorem dX7_guess_138 : decode cX7_guess 138 = .ok (.ireturn, 1) := by decide +kernel
set_option maxRecDepth 20000 in
theorem ggX7_fetch_X7_in : GoodIn wsX7_fetch wsX7_in := goodIn_r _ [16] (by decide +kernel) (by decide +kernel)
set_option maxRecDepth 20000 in
theorem gX7_fetch_X7_in : GoodIn wsX7_fetch (va_wsS RX7 92 yX7_in wsX7_in) := goodIn_app (goodIn_of _ (by decide +kernel)) ggX7_fetch_X7_in
set_option maxRecDepth 20000 in
theorem ggX7_fetch_X7_guess : GoodIn wsX7_fetch wsX7_guess := goodIn_r _ [20, 21, 22, 23, 24, 9, 11, 25, 26, 27, 15, 28, 29, 30, 31, 7, 32, 33, 34, 35, 36, 37, 38, 39, 40, 41, 42, 43, 44, 45, 46, 47, 48, 49, 50, 51, 52, 53, 54, 55, 56, 57, 58, 59, 60, 61, 62, 63, 64, 65, 66, 67, 68, 69, 70, 71, 72, 73, 74, 75, 76, 77, 78] (by decide +kernel) (by decide +kernel)
set_option maxRecDepth 20000 in
theorem gX7_fetch_X7_guess : GoodIn wsX7_fetch (wsV RX7 142 RX7 yX7_guess wsX7_guess) := goodIn_app (goodIn_of _ (by decide +kernel)) ggX7_fetch_X7_guess
theorem dX7_fetch_0 : decode cX7_fetch 0 = .ok (.aload_n 0, 1) := by decide +kernel
theorem dX7_fetch_1 : decode cX7_fetch 1 = .ok (.getfield 123, 3) := by decide +kernel
theorem dX7_fetch_4 : decode cX7_fetch 4 = .ok (.iconst 0, 1) := by decide +kernel
theorem dX7_fetch_5 : decode cX7_fetch 5 = .ok (.aload_n 0, 1) := by decide +kernel
theorem dX7_fetch_6 : decode cX7_fetch 6 = .ok (.getfield 100, 3) := by decide +kernel
theorem dX7_fetch_9 : decode cX7_fetch 9 = .ok (.iconst 1, 1) := by decide +kernel
theorem dX7_fetch_10 : decode cX7_fetch 10 = .ok (.isub, 1) := by decide +kernel
theorem dX7_fetch_11 : decode cX7_fetch 11 = .ok (.invokestatic 92, 3) := by decide +kernel
theorem dX7_fetch_14 : decode cX7_fetch 14 = .ok (.ifCond .ne 4, 3) := by decide +kernel
theorem dX7_fetch_17 : decode cX7_fetch 17 = .ok (.return_, 1) := by decide +kernel
theorem dX7_fetch_18 : decode cX7_fetch 18 = .ok (.aload_n 0, 1) := by decide +kernel
theorem dX7_fetch_19 : decode cX7_fetch 19 = .ok (.getfield 56, 3) := by decide +kernel
theorem dX7_fetch_22 : decode cX7_fetch 22 = .ok (.aload_n 0, 1) := by decide +kernel
theorem dX7_fetch_23 : decode cX7_fetch 23 = .ok (.getfield 117, 3) := by decide +kernel
theorem dX7_fetch_26 : decode cX7_fetch 26 = .ok (.aload_n 0, 1) := by decide +kernel
theorem dX7_fetch_27 : decode cX7_fetch 27 = .ok (.getfield 123, 3) := by decide +kernel
theorem dX7_fetch_30 : decode cX7_fetch 30 = .ok (.iastore, 1) := by decide +kernel
theorem dX7_fetch_31 : decode cX7_fetch 31 = .ok (.aload_n 0, 1) := by decide +kernel
theorem dX7_fetch_32 : decode cX7_fetch 32 = .ok (.getfield 59, 3) := by decide +kernel
theorem dX7_fetch_35 : decode cX7_fetch 35 = .ok (.aload_n 0, 1) := by decide +kernel
theorem dX7_fetch_36 : decode cX7_fetch 36 = .ok (.getfield 117, 3) := by decide +kernel
theorem dX7_fetch_39 : decode cX7_fetch 39 = .ok (.iload_n 1, 1) := by decide +kernel
theorem dX7_fetch_40 : decode cX7_fetch 40 = .ok (.iastore, 1) := by decide +kernel
theorem dX7_fetch_41 : decode cX7_fetch 41 = .ok (.aload_n 0, 1) := by decide +kernel
theorem dX7_fetch_42 : decode cX7_fetch 42 = .ok (.getfield 65, 3) := by decide +kernel
theorem dX7_fetch_45 : decode cX7_fetch 45 = .ok (.aload_n 0, 1) := by decide +kernel
theorem dX7_fetch_46 : decode cX7_fetch 46 = .ok (.getfield 117, 3) := by decide +kernel
theorem dX7_fetch_49 : decode cX7_fetch 49 = .ok (.aload_n 0, 1) := by decide +kernel
theorem dX7_fetch_50 : decode cX7_fetch 50 = .ok (.getfield 89, 3) := by decide +kernel
theorem dX7_fetch_53 : decode cX7_fetch 53 = .ok (.iastore, 1) := by decide +kernel
theorem dX7_fetch_54 : decode cX7_fetch 54 = .ok (.aload_n 0, 1) := by decide +kernel
theorem dX7_fetch_55 : decode cX7_fetch 55 = .ok (.getfield 68, 3) := by decide +kernel
theorem dX7_fetch_58 : decode cX7_fetch 58 = .ok (.aload_n 0, 1) := by decide +kernel
theorem dX7_fetch_59 : decode cX7_fetch 59 = .ok (.getfield 117, 3) := by decide +kernel
theorem dX7_fetch_62 : decode cX7_fetch 62 = .ok (.aload_n 0, 1) := by decide +kernel
theorem dX7_fetch_63 : decode cX7_fetch 63 = .ok (.getfield 120, 3) := by decide +kernel
theorem dX7_fetch_66 : decode cX7_fetch 66 = .ok (.iastore, 1) := by decide +kernel
theorem dX7_fetch_67 : decode cX7_fetch 67 = .ok (.iconst 0, 1) := by decide +kernel
theorem dX7_fetch_68 : decode cX7_fetch 68 = .ok (.istore_n 2, 1) := by decide +kernel
theorem dX7_fetch_69 : decode cX7_fetch 69 = .ok (.iload_n 2, 1) := by decide +kernel
theorem dX7_fetch_70 : decode cX7_fetch 70 = .ok (.iconst 4, 1) := by decide +kernel
theorem dX7_fetch_71 : decode cX7_fetch 71 = .ok (.if_icmp .ge 28, 3) := by decide +kernel
theorem dX7_fetch_74 : decode cX7_fetch 74 = .ok (.aload_n 0, 1) := by decide +kernel
theorem dX7_fetch_75 : decode cX7_fetch 75 = .ok (.getfield 71, 3) := by decide +kernel
theorem dX7_fetch_78 : decode cX7_fetch 78 = .ok (.iconst 4, 1) := by decide +kernel
theorem dX7_fetch_79 : decode cX7_fetch 79 = .ok (.aload_n 0, 1) := by decide +kernel
theorem dX7_fetch_80 : decode cX7_fetch 80 = .ok (.getfield 117, 3) := by decide +kernel
theorem dX7_fetch_83 : decode cX7_fetch 83 = .ok (.imul, 1) := by decide +kernel
theorem dX7_fetch_84 : decode cX7_fetch 84 = .ok (.iload_n 2, 1) := by decide +kernel
theorem dX7_fetch_85 : decode cX7_fetch 85 = .ok (.iadd, 1) := by decide +kernel
theorem dX7_fetch_86 : decode cX7_fetch 86 = .ok (.aload_n 0, 1) := by decide +kernel
theorem dX7_fetch_87 : decode cX7_fetch 87 = .ok (.getfield 53, 3) := by decide +kernel
theorem dX7_fetch_90 : decode cX7_fetch 90 = .ok (.iload_n 2, 1) := by decide +kernel
theorem dX7_fetch_91 : decode cX7_fetch 91 = .ok (.iaload, 1) := by decide +kernel
theorem dX7_fetch_92 : decode cX7_fetch 92 = .ok (.iastore, 1) := by decide +kernel
theorem dX7_fetch_93 : decode cX7_fetch 93 = .ok (.iinc 2 1, 3) := by decide +kernel
theorem dX7_fetch_96 : decode cX7_fetch 96 = .ok (.goto (-27), 3) := by decide +kernel
theorem dX7_fetch_99 : decode cX7_fetch 99 = .ok (.aload_n 0, 1) := by decide +kernel
theorem dX7_fetch_100 : decode cX7_fetch 100 = .ok (.aload_n 0, 1) := by decide +kernel
theorem dX7_fetch_101 : decode cX7_fetch 101 = .ok (.aload_n 0, 1) := by decide +kernel
theorem dX7_fetch_102 : decode cX7_fetch 102 = .ok (.getfield 123, 3) := by decide +kernel
theorem dX7_fetch_105 : decode cX7_fetch 105 = .ok (.invokevirtual 142, 3) := by decide +kernel
theorem dX7_fetch_108 : decode cX7_fetch 108 = .ok (.putfield 123, 3) := by decide +kernel
theorem dX7_fetch_111 : decode cX7_fetch 111 = .ok (.aload_n 0, 1) := by decide +kernel
theorem dX7_fetch_112 : decode cX7_fetch 112 = .ok (.getfield 62, 3) := by decide +kernel
theorem dX7_fetch_115 : decode cX7_fetch 115 = .ok (.aload_n 0, 1) := by decide +kernel
theorem dX7_fetch_116 : decode cX7_fetch 116 = .ok (.getfield 117, 3) := by decide +kernel
theorem dX7_fetch_119 : decode cX7_fetch 119 = .ok (.aload_n 0, 1) := by decide +kernel
theorem dX7_fetch_120 : decode cX7_fetch 120 = .ok (.getfield 123, 3) := by decide +kernel
theorem dX7_fetch_123 : decode cX7_fetch 123 = .ok (.iastore, 1) := by decide +kernel
theorem dX7_fetch_124 : decode cX7_fetch 124 = .ok (.aload_n 0, 1) := by decide +kernel
theorem dX7_fetch_125 : decode cX7_fetch 125 = .ok (.dup, 1) := by decide +kernel
theorem dX7_fetch_126 : decode cX7_fetch 126 = .ok (.getfield 117, 3) := by decide +kernel
theorem dX7_fetch_129 : decode cX7_fetch 129 = .ok (.iconst 1, 1) := by decide +kernel
theorem dX7_fetch_130 : decode cX7_fetch 130 = .ok (.iadd, 1) := by decide +kernel
theorem dX7_fetch_131 : decode cX7_fetch 131 = .ok (.putfield 117, 3) := by decide +kernel
theorem dX7_fetch_134 : decode cX7_fetch 134 = .ok (.return_, 1) := by decide +kernel
theorem dX7_dropFirst_0 : decode cX7_dropFirst 0 = .ok (.iconst 1, 1) := by decide +kernel
theorem dX7_dropFirst_1 : decode cX7_dropFirst 1 = .ok (.istore_n 1, 1) := by decide +kernel
theorem dX7_dropFirst_2 : decode cX7_dropFirst 2 = .ok (.iload_n 1, 1) := by decide +kernel
theorem dX7_dropFirst_3 : decode cX7_dropFirst 3 = .ok (.aload_n 0, 1) := by decide +kernel
theorem dX7_dropFirst_4 : decode cX7_dropFirst 4 = .ok (.getfield 117, 3) := by decide +kernel
theorem dX7_dropFirst_7 : decode cX7_dropFirst 7 = .ok (.if_icmp .ge 114, 3) := by decide +kernel
theorem dX7_dropFirst_10 : decode cX7_dropFirst 10 = .ok (.aload_n 0, 1) := by decide +kernel
theorem dX7_dropFirst_11 : decode cX7_dropFirst 11 = .ok (.getfield 56, 3) := by decide +kernel
theorem dX7_dropFirst_14 : decode cX7_dropFirst 14 = .ok (.iload_n 1, 1) := by decide +kernel
theorem dX7_dropFirst_15 : decode cX7_dropFirst 15 = .ok (.iconst 1, 1) := by decide +kernel
theorem dX7_dropFirst_16 : decode cX7_dropFirst 16 = .ok (.isub, 1) := by decide +kernel
theorem dX7_dropFirst_17 : decode cX7_dropFirst 17 = .ok (.aload_n 0, 1) := by decide +kernel
theorem dX7_dropFirst_18 : decode cX7_dropFirst 18 = .ok (.getfield 56, 3) := by decide +kernel
theorem dX7_dropFirst_21 : decode cX7_dropFirst 21 = .ok (.iload_n 1, 1) := by decide +kernel
theorem dX7_dropFirst_22 : decode cX7_dropFirst 22 = .ok (.iaload, 1) := by decide +kernel
theorem dX7_dropFirst_23 : decode cX7_dropFirst 23 = .ok (.iastore, 1) := by decide +kernel
theorem dX7_dropFirst_24 : decode cX7_dropFirst 24 = .ok (.aload_n 0, 1) := by decide +kernel
theorem dX7_dropFirst_25 : decode cX7_dropFirst 25 = .ok (.getfield 59, 3) := by decide +kernel
theorem dX7_dropFirst_28 : decode cX7_dropFirst 28 = .ok (.iload_n 1, 1) := by decide +kernel
theorem dX7_dropFirst_29 : decode cX7_dropFirst 29 = .ok (.iconst 1, 1) := by decide +kernel
theorem dX7_dropFirst_30 : decode cX7_dropFirst 30 = .ok (.isub, 1) := by decide +kernel
theorem dX7_dropFirst_31 : decode cX7_dropFirst 31 = .ok (.aload_n 0, 1) := by decide +kernel
theorem dX7_dropFirst_32 : decode cX7_dropFirst 32 = .ok (.getfield 59, 3) := by decide +kernel
theorem dX7_dropFirst_35 : decode cX7_dropFirst 35 = .ok (.iload_n 1, 1) := by decide +kernel
theorem dX7_dropFirst_36 : decode cX7_dropFirst 36 = .ok (.iaload, 1) := by decide +kernel
theorem dX7_dropFirst_37 : decode cX7_dropFirst 37 = .ok (.iastore, 1) := by decide +kernel
theorem dX7_dropFirst_38 : decode cX7_dropFirst 38 = .ok (.aload_n 0, 1) := by decide +kernel
theorem dX7_dropFirst_39 : decode cX7_dropFirst 39 = .ok (.getfield 62, 3) := by decide +kernel
theorem dX7_dropFirst_42 : decode cX7_dropFirst 42 = .ok (.iload_n 1, 1) := by decide +kernel
theorem dX7_dropFirst_43 : decode cX7_dropFirst 43 = .ok (.iconst 1, 1) := by decide +kernel
theorem dX7_dropFirst_44 : decode cX7_dropFirst 44 = .ok (.isub, 1) := by decide +kernel
theorem dX7_dropFirst_45 : decode cX7_dropFirst 45 = .ok (.aload_n 0, 1) := by decide +kernel
theorem dX7_dropFirst_46 : decode cX7_dropFirst 46 = .ok (.getfield 62, 3) := by decide +kernel
theorem dX7_dropFirst_49 : decode cX7_dropFirst 49 = .ok (.iload_n 1, 1) := by decide +kernel
theorem dX7_dropFirst_50 : decode cX7_dropFirst 50 = .ok (.iaload, 1) := by decide +kernel
theorem dX7_dropFirst_51 : decode cX7_dropFirst 51 = .ok (.iastore, 1) := by decide +kernel
theorem dX7_dropFirst_52 : decode cX7_dropFirst 52 = .ok (.aload_n 0, 1) := by decide +kernel
theorem dX7_dropFirst_53 : decode cX7_dropFirst 53 = .ok (.getfield 65, 3) := by decide +kernel
theorem dX7_dropFirst_56 : decode cX7_dropFirst 56 = .ok (.iload_n 1, 1) := by decide +kernel
theorem dX7_dropFirst_57 : decode cX7_dropFirst 57 = .ok (.iconst 1, 1) := by decide +kernel
theorem dX7_dropFirst_58 : decode cX7_dropFirst 58 = .ok (.isub, 1) := by decide +kernel
theorem dX7_dropFirst_59 : decode cX7_dropFirst 59 = .ok (.aload_n 0, 1) := by decide +kernel
theorem dX7_dropFirst_60 : decode cX7_dropFirst 60 = .ok (.getfield 65, 3) := by decide +kernel
theorem dX7_dropFirst_63 : decode cX7_dropFirst 63 = .ok (.iload_n 1, 1) := by decide +kernel
theorem dX7_dropFirst_64 : decode cX7_dropFirst 64 = .ok (.iaload, 1) := by decide +kernel
theorem dX7_dropFirst_65 : decode cX7_dropFirst 65 = .ok (.iastore, 1) := by decide +kernel
theorem dX7_dropFirst_66 : decode cX7_dropFirst 66 = .ok (.aload_n 0, 1) := by decide +kernel
theorem dX7_dropFirst_67 : decode cX7_dropFirst 67 = .ok (.getfield 68, 3) := by decide +kernel
theorem dX7_dropFirst_70 : decode cX7_dropFirst 70 = .ok (.iload_n 1, 1) := by decide +kernel
theorem dX7_dropFirst_71 : decode cX7_dropFirst 71 = .ok (.iconst 1, 1) := by decide +kernel
theorem dX7_dropFirst_72 : decode cX7_dropFirst 72 = .ok (.isub, 1) := by decide +kernel
theorem dX7_dropFirst_73 : decode cX7_dropFirst 73 = .ok (.aload_n 0, 1) := by decide +kernel
theorem dX7_dropFirst_74 : decode cX7_dropFirst 74 = .ok (.getfield 68, 3) := by decide +kernel
theorem dX7_dropFirst_77 : decode cX7_dropFirst 77 = .ok (.iload_n 1, 1) := by decide +kernel
theorem dX7_dropFirst_78 : decode cX7_dropFirst 78 = .ok (.iaload, 1) := by decide +kernel
theorem dX7_dropFirst_79 : decode cX7_dropFirst 79 = .ok (.iastore, 1) := by decide +kernel
theorem dX7_dropFirst_80 : decode cX7_dropFirst 80 = .ok (.iconst 0, 1) := by decide +kernel
theorem dX7_dropFirst_81 : decode cX7_dropFirst 81 = .ok (.istore_n 2, 1) := by decide +kernel
theorem dX7_dropFirst_82 : decode cX7_dropFirst 82 = .ok (.iload_n 2, 1) := by decide +kernel
theorem dX7_dropFirst_83 : decode cX7_dropFirst 83 = .ok (.iconst 4, 1) := by decide +kernel
theorem dX7_dropFirst_84 : decode cX7_dropFirst 84 = .ok (.if_icmp .ge 31, 3) := by decide +kernel
theorem dX7_dropFirst_87 : decode cX7_dropFirst 87 = .ok (.aload_n 0, 1) := by decide +kernel
theorem dX7_dropFirst_88 : decode cX7_dropFirst 88 = .ok (.getfield 71, 3) := by decide +kernel
theorem dX7_dropFirst_91 : decode cX7_dropFirst 91 = .ok (.iconst 4, 1) := by decide +kernel
theorem dX7_dropFirst_92 : decode cX7_dropFirst 92 = .ok (.iload_n 1, 1) := by decide +kernel
theorem dX7_dropFirst_93 : decode cX7_dropFirst 93 = .ok (.iconst 1, 1) := by decide +kernel
theorem dX7_dropFirst_94 : decode cX7_dropFirst 94 = .ok (.isub, 1) := by decide +kernel
theorem dX7_dropFirst_95 : decode cX7_dropFirst 95 = .ok (.imul, 1) := by decide +kernel
theorem dX7_dropFirst_96 : decode cX7_dropFirst 96 = .ok (.iload_n 2, 1) := by decide +kernel
theorem dX7_dropFirst_97 : decode cX7_dropFirst 97 = .ok (.iadd, 1) := by decide +kernel
theorem dX7_dropFirst_98 : decode cX7_dropFirst 98 = .ok (.aload_n 0, 1) := by decide +kernel
theorem dX7_dropFirst_99 : decode cX7_dropFirst 99 = .ok (.getfield 71, 3) := by decide +kernel
theorem dX7_dropFirst_102 : decode cX7_dropFirst 102 = .ok (.iconst 4, 1) := by decide +kernel
theorem dX7_dropFirst_103 : decode cX7_dropFirst 103 = .ok (.iload_n 1, 1) := by decide +kernel
theorem dX7_dropFirst_104 : decode cX7_dropFirst 104 = .ok (.imul, 1) := by decide +kernel
theorem dX7_dropFirst_105 : decode cX7_dropFirst 105 = .ok (.iload_n 2, 1) := by decide +kernel
theorem dX7_dropFirst_106 : decode cX7_dropFirst 106 = .ok (.iadd, 1) := by decide +kernel
theorem dX7_dropFirst_107 : decode cX7_dropFirst 107 = .ok (.iaload, 1) := by decide +kernel
theorem dX7_dropFirst_108 : decode cX7_dropFirst 108 = .ok (.iastore, 1) := by decide +kernel
theorem dX7_dropFirst_109 : decode cX7_dropFirst 109 = .ok (.iinc 2 1, 3) := by decide +kernel
theorem dX7_dropFirst_112 : decode cX7_dropFirst 112 = .ok (.goto (-30), 3) := by decide +kernel
theorem dX7_dropFirst_115 : decode cX7_dropFirst 115 = .ok (.iinc 1 1, 3) := by decide +kernel
theorem dX7_dropFirst_118 : decode cX7_dropFirst 118 = .ok (.goto (-116), 3) := by decide +kernel
theorem dX7_dropFirst_121 : decode cX7_dropFirst 121 = .ok (.aload_n 0, 1) := by decide +kernel
theorem dX7_dropFirst_122 : decode cX7_dropFirst 122 = .ok (.dup, 1) := by decide +kernel
theorem dX7_dropFirst_123 : decode cX7_dropFirst 123 = .ok (.getfield 117, 3) := by decide +kernel
theorem dX7_dropFirst_126 : decode cX7_dropFirst 126 = .ok (.iconst 1, 1) := by decide +kernel
theorem dX7_dropFirst_127 : decode cX7_dropFirst 127 = .ok (.isub, 1) := by decide +kernel
theorem dX7_dropFirst_128 : decode cX7_dropFirst 128 = .ok (.putfield 117, 3) := by decide +kernel
theorem dX7_dropFirst_131 : decode cX7_dropFirst 131 = .ok (.return_, 1) := by decide +kernel
theorem dX7_does_0 : decode cX7_does 0 = .ok (.aload_n 0, 1) := by decide +kernel
theorem dX7_does_1 : decode cX7_does 1 = .ok (.getfield 13, 3) := by decide +kernel
theorem dX7_does_4 : decode cX7_does 4 = .ok (.iload_n 1, 1) := by decide +kernel
theorem dX7_does_5 : decode cX7_does 5 = .ok (.iaload, 1) := by decide +kernel
theorem dX7_does_6 : decode cX7_does 6 = .ok (.istore_n 2, 1) := by decide +kernel
theorem dX7_does_7 : decode cX7_does 7 = .ok (.aload_n 0, 1) := by decide +kernel
theorem dX7_does_8 : decode cX7_does 8 = .ok (.getfield 16, 3) := by decide +kernel
theorem dX7_does_11 : decode cX7_does 11 = .ok (.iload_n 1, 1) := by decide +kernel
theorem dX7_does_12 : decode cX7_does 12 = .ok (.iaload, 1) := by decide +kernel
theorem dX7_does_13 : decode cX7_does 13 = .ok (.istore_n 3, 1) := by decide +kernel
theorem dX7_does_14 : decode cX7_does 14 = .ok (.iload_n 1, 1) := by decide +kernel
theorem dX7_does_15 : decode cX7_does 15 = .ok (.iconst 1, 1) := by decide +kernel
theorem dX7_does_16 : decode cX7_does 16 = .ok (.iadd, 1) := by decide +kernel
theorem dX7_does_17 : decode cX7_does 17 = .ok (.istore 4, 2) := by decide +kernel
theorem dX7_does_19 : decode cX7_does 19 = .ok (.aload_n 0, 1) := by decide +kernel
theorem dX7_does_20 : decode cX7_does 20 = .ok (.getfield 7, 3) := by decide +kernel
theorem dX7_does_23 : decode cX7_does 23 = .ok (.iload_n 1, 1) := by decide +kernel
theorem dX7_does_24 : decode cX7_does 24 = .ok (.iaload, 1) := by decide +kernel
theorem dX7_does_25 : decode cX7_does 25 = .ok (.tableswitch 332 0 10 #[59, 74, 96, 118, 141, 164, 195, 226, 237, 280, 313], 59) := by decide +kernel
theorem dX7_does_84 : decode cX7_does 84 = .ok (.aload_n 0, 1) := by decide +kernel
theorem dX7_does_85 : decode cX7_does 85 = .ok (.getfield 22, 3) := by decide +kernel
theorem dX7_does_88 : decode cX7_does 88 = .ok (.iload_n 2, 1) := by decide +kernel
theorem dX7_does_89 : decode cX7_does 89 = .ok (.aload_n 0, 1) := by decide +kernel
theorem dX7_does_90 : decode cX7_does 90 = .ok (.getfield 19, 3) := by decide +kernel
theorem dX7_does_93 : decode cX7_does 93 = .ok (.iload_n 1, 1) := by decide +kernel
theorem dX7_does_94 : decode cX7_does 94 = .ok (.iaload, 1) := by decide +kernel
theorem dX7_does_95 : decode cX7_does 95 = .ok (.iastore, 1) := by decide +kernel
theorem dX7_does_96 : decode cX7_does 96 = .ok (.goto 261, 3) := by decide +kernel
theorem dX7_does_99 : decode cX7_does 99 = .ok (.aload_n 0, 1) := by decide +kernel
theorem dX7_does_100 : decode cX7_does 100 = .ok (.getfield 22, 3) := by decide +kernel
theorem dX7_does_103 : decode cX7_does 103 = .ok (.iload_n 2, 1) := by decide +kernel
theorem dX7_does_104 : decode cX7_does 104 = .ok (.aload_n 0, 1) := by decide +kernel
theorem dX7_does_105 : decode cX7_does 105 = .ok (.getfield 22, 3) := by decide +kernel
theorem dX7_does_108 : decode cX7_does 108 = .ok (.iload_n 2, 1) := by decide +kernel
theorem dX7_does_109 : decode cX7_does 109 = .ok (.iaload, 1) := by decide +kernel
theorem dX7_does_110 : decode cX7_does 110 = .ok (.aload_n 0, 1) := by decide +kernel
theorem dX7_does_111 : decode cX7_does 111 = .ok (.getfield 22, 3) := by decide +kernel
theorem dX7_does_114 : decode cX7_does 114 = .ok (.iload_n 3, 1) := by decide +kernel
theorem dX7_does_115 : decode cX7_does 115 = .ok (.iaload, 1) := by decide +kernel
theorem dX7_does_116 : decode cX7_does 116 = .ok (.iadd, 1) := by decide +kernel
theorem dX7_does_117 : decode cX7_does 117 = .ok (.iastore, 1) := by decide +kernel
theorem dX7_does_118 : decode cX7_does 118 = .ok (.goto 239, 3) := by decide +kernel
theorem dX7_does_121 : decode cX7_does 121 = .ok (.aload_n 0, 1) := by decide +kernel
theorem dX7_does_122 : decode cX7_does 122 = .ok (.getfield 22, 3) := by decide +kernel
theorem dX7_does_125 : decode cX7_does 125 = .ok (.iload_n 2, 1) := by decide +kernel
theorem dX7_does_126 : decode cX7_does 126 = .ok (.aload_n 0, 1) := by decide +kernel
theorem dX7_does_127 : decode cX7_does 127 = .ok (.getfield 22, 3) := by decide +kernel
theorem dX7_does_130 : decode cX7_does 130 = .ok (.iload_n 2, 1) := by decide +kernel
theorem dX7_does_131 : decode cX7_does 131 = .ok (.iaload, 1) := by decide +kernel
theorem dX7_does_132 : decode cX7_does 132 = .ok (.aload_n 0, 1) := by decide +kernel
theorem dX7_does_133 : decode cX7_does 133 = .ok (.getfield 22, 3) := by decide +kernel
theorem dX7_does_136 : decode cX7_does 136 = .ok (.iload_n 3, 1) := by decide +kernel
theorem dX7_does_137 : decode cX7_does 137 = .ok (.iaload, 1) := by decide +kernel
theorem dX7_does_138 : decode cX7_does 138 = .ok (.isub, 1) := by decide +kernel
theorem dX7_does_139 : decode cX7_does 139 = .ok (.iastore, 1) := by decide +kernel
theorem dX7_does_140 : decode cX7_does 140 = .ok (.goto 217, 3) := by decide +kernel
theorem dX7_does_143 : decode cX7_does 143 = .ok (.aload_n 0, 1) := by decide +kernel
theorem dX7_does_144 : decode cX7_does 144 = .ok (.getfield 22, 3) := by decide +kernel
theorem dX7_does_147 : decode cX7_does 147 = .ok (.iload_n 2, 1) := by decide +kernel
theorem dX7_does_148 : decode cX7_does 148 = .ok (.aload_n 0, 1) := by decide +kernel
theorem dX7_does_149 : decode cX7_does 149 = .ok (.getfield 25, 3) := by decide +kernel
theorem dX7_does_152 : decode cX7_does 152 = .ok (.aload_n 0, 1) := by decide +kernel
theorem dX7_does_153 : decode cX7_does 153 = .ok (.getfield 22, 3) := by decide +kernel
theorem dX7_does_156 : decode cX7_does 156 = .ok (.iload_n 3, 1) := by decide +kernel
theorem dX7_does_157 : decode cX7_does 157 = .ok (.iaload, 1) := by decide +kernel
theorem dX7_does_158 : decode cX7_does 158 = .ok (.bipush 15, 2) := by decide +kernel
theorem dX7_does_160 : decode cX7_does 160 = .ok (.iand, 1) := by decide +kernel
theorem dX7_does_161 : decode cX7_does 161 = .ok (.iaload, 1) := by decide +kernel
theorem dX7_does_162 : decode cX7_does 162 = .ok (.iastore, 1) := by decide +kernel
theorem dX7_does_163 : decode cX7_does 163 = .ok (.goto 194, 3) := by decide +kernel
theorem dX7_does_166 : decode cX7_does 166 = .ok (.aload_n 0, 1) := by decide +kernel
theorem dX7_does_167 : decode cX7_does 167 = .ok (.getfield 25, 3) := by decide +kernel
theorem dX7_does_170 : decode cX7_does 170 = .ok (.aload_n 0, 1) := by decide +kernel
theorem dX7_does_171 : decode cX7_does 171 = .ok (.getfield 22, 3) := by decide +kernel
theorem dX7_does_174 : decode cX7_does 174 = .ok (.iload_n 3, 1) := by decide +kernel
theorem dX7_does_175 : decode cX7_does 175 = .ok (.iaload, 1) := by decide +kernel
theorem dX7_does_176 : decode cX7_does 176 = .ok (.bipush 15, 2) := by decide +kernel
theorem dX7_does_178 : decode cX7_does 178 = .ok (.iand, 1) := by decide +kernel
theorem dX7_does_179 : decode cX7_does 179 = .ok (.aload_n 0, 1) := by decide +kernel
theorem dX7_does_180 : decode cX7_does 180 = .ok (.getfield 22, 3) := by decide +kernel
theorem dX7_does_183 : decode cX7_does 183 = .ok (.iload_n 2, 1) := by decide +kernel
theorem dX7_does_184 : decode cX7_does 184 = .ok (.iaload, 1) := by decide +kernel
theorem dX7_does_185 : decode cX7_does 185 = .ok (.iastore, 1) := by decide +kernel
theorem dX7_does_186 : decode cX7_does 186 = .ok (.goto 171, 3) := by decide +kernel
theorem dX7_does_189 : decode cX7_does 189 = .ok (.aload_n 0, 1) := by decide +kernel
theorem dX7_does_190 : decode cX7_does 190 = .ok (.getfield 22, 3) := by decide +kernel
theorem dX7_does_193 : decode cX7_does 193 = .ok (.iload_n 2, 1) := by decide +kernel
theorem dX7_does_194 : decode cX7_does 194 = .ok (.iaload, 1) := by decide +kernel
theorem dX7_does_195 : decode cX7_does 195 = .ok (.aload_n 0, 1) := by decide +kernel
theorem dX7_does_196 : decode cX7_does 196 = .ok (.getfield 22, 3) := by decide +kernel
theorem dX7_does_199 : decode cX7_does 199 = .ok (.iload_n 3, 1) := by decide +kernel
theorem dX7_does_200 : decode cX7_does 200 = .ok (.iaload, 1) := by decide +kernel
theorem dX7_does_201 : decode cX7_does 201 = .ok (.if_icmp .ge 12, 3) := by decide +kernel
theorem dX7_does_204 : decode cX7_does 204 = .ok (.aload_n 0, 1) := by decide +kernel
theorem dX7_does_205 : decode cX7_does 205 = .ok (.getfield 19, 3) := by decide +kernel
theorem dX7_does_208 : decode cX7_does 208 = .ok (.iload_n 1, 1) := by decide +kernel
theorem dX7_does_209 : decode cX7_does 209 = .ok (.iaload, 1) := by decide +kernel
theorem dX7_does_210 : decode cX7_does 210 = .ok (.goto 5, 3) := by decide +kernel
theorem dX7_does_213 : decode cX7_does 213 = .ok (.iload 4, 2) := by decide +kernel
theorem dX7_does_215 : decode cX7_does 215 = .ok (.istore 4, 2) := by decide +kernel
theorem dX7_does_217 : decode cX7_does 217 = .ok (.goto 140, 3) := by decide +kernel
theorem dX7_does_220 : decode cX7_does 220 = .ok (.aload_n 0, 1) := by decide +kernel
theorem dX7_does_221 : decode cX7_does 221 = .ok (.getfield 22, 3) := by decide +kernel
theorem dX7_does_224 : decode cX7_does 224 = .ok (.iload_n 2, 1) := by decide +kernel
theorem dX7_does_225 : decode cX7_does 225 = .ok (.iaload, 1) := by decide +kernel
theorem dX7_does_226 : decode cX7_does 226 = .ok (.aload_n 0, 1) := by decide +kernel
theorem dX7_does_227 : decode cX7_does 227 = .ok (.getfield 22, 3) := by decide +kernel
theorem dX7_does_230 : decode cX7_does 230 = .ok (.iload_n 3, 1) := by decide +kernel
theorem dX7_does_231 : decode cX7_does 231 = .ok (.iaload, 1) := by decide +kernel
theorem dX7_does_232 : decode cX7_does 232 = .ok (.if_icmp .ne 12, 3) := by decide +kernel
theorem dX7_does_235 : decode cX7_does 235 = .ok (.aload_n 0, 1) := by decide +kernel
theorem dX7_does_236 : decode cX7_does 236 = .ok (.getfield 19, 3) := by decide +kernel
theorem dX7_does_239 : decode cX7_does 239 = .ok (.iload_n 1, 1) := by decide +kernel
theorem dX7_does_240 : decode cX7_does 240 = .ok (.iaload, 1) := by decide +kernel
theorem dX7_does_241 : decode cX7_does 241 = .ok (.goto 5, 3) := by decide +kernel
theorem dX7_does_244 : decode cX7_does 244 = .ok (.iload 4, 2) := by decide +kernel
theorem dX7_does_246 : decode cX7_does 246 = .ok (.istore 4, 2) := by decide +kernel
theorem dX7_does_248 : decode cX7_does 248 = .ok (.goto 109, 3) := by decide +kernel
theorem dX7_does_251 : decode cX7_does 251 = .ok (.aload_n 0, 1) := by decide +kernel
theorem dX7_does_252 : decode cX7_does 252 = .ok (.getfield 19, 3) := by decide +kernel
theorem dX7_does_255 : decode cX7_does 255 = .ok (.iload_n 1, 1) := by decide +kernel
theorem dX7_does_256 : decode cX7_does 256 = .ok (.iaload, 1) := by decide +kernel
theorem dX7_does_257 : decode cX7_does 257 = .ok (.istore 4, 2) := by decide +kernel
theorem dX7_does_259 : decode cX7_does 259 = .ok (.goto 98, 3) := by decide +kernel
theorem dX7_does_262 : decode cX7_does 262 = .ok (.aload_n 0, 1) := by decide +kernel
theorem dX7_does_263 : decode cX7_does 263 = .ok (.getfield 114, 3) := by decide +kernel
theorem dX7_does_266 : decode cX7_does 266 = .ok (.bipush 16, 2) := by decide +kernel
theorem dX7_does_268 : decode cX7_does 268 = .ok (.if_icmp .ne 5, 3) := by decide +kernel
theorem dX7_does_271 : decode cX7_does 271 = .ok (.iconst (-1), 1) := by decide +kernel
theorem dX7_does_272 : decode cX7_does 272 = .ok (.ireturn, 1) := by decide +kernel
theorem dX7_does_273 : decode cX7_does 273 = .ok (.aload_n 0, 1) := by decide +kernel
theorem dX7_does_274 : decode cX7_does 274 = .ok (.getfield 28, 3) := by decide +kernel
theorem dX7_does_277 : decode cX7_does 277 = .ok (.aload_n 0, 1) := by decide +kernel
theorem dX7_does_278 : decode cX7_does 278 = .ok (.getfield 114, 3) := by decide +kernel
theorem dX7_does_281 : decode cX7_does 281 = .ok (.iload 4, 2) := by decide +kernel
theorem dX7_does_283 : decode cX7_does 283 = .ok (.iastore, 1) := by decide +kernel
theorem dX7_does_284 : decode cX7_does 284 = .ok (.aload_n 0, 1) := by decide +kernel
theorem dX7_does_285 : decode cX7_does 285 = .ok (.dup, 1) := by decide +kernel
theorem dX7_does_286 : decode cX7_does 286 = .ok (.getfield 114, 3) := by decide +kernel
theorem dX7_does_289 : decode cX7_does 289 = .ok (.iconst 1, 1) := by decide +kernel
theorem dX7_does_290 : decode cX7_does 290 = .ok (.iadd, 1) := by decide +kernel
theorem dX7_does_291 : decode cX7_does 291 = .ok (.putfield 114, 3) := by decide +kernel
theorem dX7_does_294 : decode cX7_does 294 = .ok (.aload_n 0, 1) := by decide +kernel
theorem dX7_does_295 : decode cX7_does 295 = .ok (.getfield 19, 3) := by decide +kernel
theorem dX7_does_298 : decode cX7_does 298 = .ok (.iload_n 1, 1) := by decide +kernel
theorem dX7_does_299 : decode cX7_does 299 = .ok (.iaload, 1) := by decide +kernel
theorem dX7_does_300 : decode cX7_does 300 = .ok (.istore 4, 2) := by decide +kernel
theorem dX7_does_302 : decode cX7_does 302 = .ok (.goto 55, 3) := by decide +kernel
theorem dX7_does_305 : decode cX7_does 305 = .ok (.aload_n 0, 1) := by decide +kernel
theorem dX7_does_306 : decode cX7_does 306 = .ok (.getfield 114, 3) := by decide +kernel
theorem dX7_does_309 : decode cX7_does 309 = .ok (.ifCond .ne 5, 3) := by decide +kernel
theorem dX7_does_312 : decode cX7_does 312 = .ok (.iconst (-1), 1) := by decide +kernel
theorem dX7_does_313 : decode cX7_does 313 = .ok (.ireturn, 1) := by decide +kernel
theorem dX7_does_314 : decode cX7_does 314 = .ok (.aload_n 0, 1) := by decide +kernel
theorem dX7_does_315 : decode cX7_does 315 = .ok (.dup, 1) := by decide +kernel
theorem dX7_does_316 : decode cX7_does 316 = .ok (.getfield 114, 3) := by decide +kernel
theorem dX7_does_319 : decode cX7_does 319 = .ok (.iconst 1, 1) := by decide +kernel
theorem dX7_does_320 : decode cX7_does 320 = .ok (.isub, 1) := by decide +kernel
theorem dX7_does_321 : decode cX7_does 321 = .ok (.putfield 114, 3) := by decide +kernel
theorem dX7_does_324 : decode cX7_does 324 = .ok (.aload_n 0, 1) := by decide +kernel
theorem dX7_does_325 : decode cX7_does 325 = .ok (.getfield 28, 3) := by decide +kernel
theorem dX7_does_328 : decode cX7_does 328 = .ok (.aload_n 0, 1) := by decide +kernel
theorem dX7_does_329 : decode cX7_does 329 = .ok (.getfield 114, 3) := by decide +kernel
theorem dX7_does_332 : decode cX7_does 332 = .ok (.iaload, 1) := by decide +kernel
theorem dX7_does_333 : decode cX7_does 333 = .ok (.istore 4, 2) := by decide +kernel
theorem dX7_does_335 : decode cX7_does 335 = .ok (.goto 22, 3) := by decide +kernel
theorem dX7_does_338 : decode cX7_does 338 = .ok (.aload_n 0, 1) := by decide +kernel
theorem dX7_does_339 : decode cX7_does 339 = .ok (.getfield 22, 3) := by decide +kernel
theorem dX7_does_342 : decode cX7_does 342 = .ok (.iload_n 2, 1) := by decide +kernel
theorem dX7_does_343 : decode cX7_does 343 = .ok (.iaload, 1) := by decide +kernel
theorem dX7_does_344 : decode cX7_does 344 = .ok (.ldc 146, 2) := by decide +kernel
theorem dX7_does_346 : decode cX7_does 346 = .ok (.iand, 1) := by decide +kernel
theorem dX7_does_347 : decode cX7_does 347 = .ok (.aload_n 0, 1) := by decide +kernel
theorem dX7_does_348 : decode cX7_does 348 = .ok (.getfield 100, 3) := by decide +kernel
theorem dX7_does_351 : decode cX7_does 351 = .ok (.irem, 1) := by decide +kernel
theorem dX7_does_352 : decode cX7_does 352 = .ok (.istore 4, 2) := by decide +kernel
theorem dX7_does_354 : decode cX7_does 354 = .ok (.goto 3, 3) := by decide +kernel
theorem dX7_does_357 : decode cX7_does 357 = .ok (.iload 4, 2) := by decide +kernel
theorem dX7_does_359 : decode cX7_does 359 = .ok (.ireturn, 1) := by decide +kernel
theorem dX7_turned_0 : decode cX7_turned 0 = .ok (.aload_n 0, 1) := by decide +kernel
theorem dX7_turned_1 : decode cX7_turned 1 = .ok (.getfield 7, 3) := by decide +kernel
theorem dX7_turned_4 : decode cX7_turned 4 = .ok (.iload_n 1, 1) := by decide +kernel
theorem dX7_turned_5 : decode cX7_turned 5 = .ok (.iaload, 1) := by decide +kernel
theorem dX7_turned_6 : decode cX7_turned 6 = .ok (.iconst 5, 1) := by decide +kernel
theorem dX7_turned_7 : decode cX7_turned 7 = .ok (.if_icmp .ne 36, 3) := by decide +kernel
theorem dX7_turned_10 : decode cX7_turned 10 = .ok (.aload_n 0, 1) := by decide +kernel
theorem dX7_turned_11 : decode cX7_turned 11 = .ok (.getfield 22, 3) := by decide +kernel
theorem dX7_turned_14 : decode cX7_turned 14 = .ok (.aload_n 0, 1) := by decide +kernel
theorem dX7_turned_15 : decode cX7_turned 15 = .ok (.getfield 13, 3) := by decide +kernel
theorem dX7_turned_18 : decode cX7_turned 18 = .ok (.iload_n 1, 1) := by decide +kernel
theorem dX7_turned_19 : decode cX7_turned 19 = .ok (.iaload, 1) := by decide +kernel
theorem dX7_turned_20 : decode cX7_turned 20 = .ok (.iaload, 1) := by decide +kernel
theorem dX7_turned_21 : decode cX7_turned 21 = .ok (.aload_n 0, 1) := by decide +kernel
theorem dX7_turned_22 : decode cX7_turned 22 = .ok (.getfield 22, 3) := by decide +kernel
theorem dX7_turned_25 : decode cX7_turned 25 = .ok (.aload_n 0, 1) := by decide +kernel
theorem dX7_turned_26 : decode cX7_turned 26 = .ok (.getfield 16, 3) := by decide +kernel
theorem dX7_turned_29 : decode cX7_turned 29 = .ok (.iload_n 1, 1) := by decide +kernel
theorem dX7_turned_30 : decode cX7_turned 30 = .ok (.iaload, 1) := by decide +kernel
theorem dX7_turned_31 : decode cX7_turned 31 = .ok (.iaload, 1) := by decide +kernel
theorem dX7_turned_32 : decode cX7_turned 32 = .ok (.if_icmp .ge 7, 3) := by decide +kernel
theorem dX7_turned_35 : decode cX7_turned 35 = .ok (.iconst 1, 1) := by decide +kernel
theorem dX7_turned_36 : decode cX7_turned 36 = .ok (.goto 48, 3) := by decide +kernel
theorem dX7_turned_39 : decode cX7_turned 39 = .ok (.iconst 0, 1) := by decide +kernel
theorem dX7_turned_40 : decode cX7_turned 40 = .ok (.goto 44, 3) := by decide +kernel
theorem dX7_turned_43 : decode cX7_turned 43 = .ok (.aload_n 0, 1) := by decide +kernel
theorem dX7_turned_44 : decode cX7_turned 44 = .ok (.getfield 7, 3) := by decide +kernel
theorem dX7_turned_47 : decode cX7_turned 47 = .ok (.iload_n 1, 1) := by decide +kernel
theorem dX7_turned_48 : decode cX7_turned 48 = .ok (.iaload, 1) := by decide +kernel
theorem dX7_turned_49 : decode cX7_turned 49 = .ok (.bipush 6, 2) := by decide +kernel
theorem dX7_turned_51 : decode cX7_turned 51 = .ok (.if_icmp .ne 28, 3) := by decide +kernel
theorem dX7_turned_54 : decode cX7_turned 54 = .ok (.aload_n 0, 1) := by decide +kernel
theorem dX7_turned_55 : decode cX7_turned 55 = .ok (.getfield 22, 3) := by decide +kernel
theorem dX7_turned_58 : decode cX7_turned 58 = .ok (.aload_n 0, 1) := by decide +kernel
theorem dX7_turned_59 : decode cX7_turned 59 = .ok (.getfield 13, 3) := by decide +kernel
theorem dX7_turned_62 : decode cX7_turned 62 = .ok (.iload_n 1, 1) := by decide +kernel
theorem dX7_turned_63 : decode cX7_turned 63 = .ok (.iaload, 1) := by decide +kernel
theorem dX7_turned_64 : decode cX7_turned 64 = .ok (.iaload, 1) := by decide +kernel
theorem dX7_turned_65 : decode cX7_turned 65 = .ok (.aload_n 0, 1) := by decide +kernel
theorem dX7_turned_66 : decode cX7_turned 66 = .ok (.getfield 22, 3) := by decide +kernel
theorem dX7_turned_69 : decode cX7_turned 69 = .ok (.aload_n 0, 1) := by decide +kernel
theorem dX7_turned_70 : decode cX7_turned 70 = .ok (.getfield 16, 3) := by decide +kernel
theorem dX7_turned_73 : decode cX7_turned 73 = .ok (.iload_n 1, 1) := by decide +kernel
theorem dX7_turned_74 : decode cX7_turned 74 = .ok (.iaload, 1) := by decide +kernel
theorem dX7_turned_75 : decode cX7_turned 75 = .ok (.iaload, 1) := by decide +kernel
theorem dX7_turned_76 : decode cX7_turned 76 = .ok (.if_icmp .ne 7, 3) := by decide +kernel
theorem dX7_turned_79 : decode cX7_turned 79 = .ok (.iconst 1, 1) := by decide +kernel
theorem dX7_turned_80 : decode cX7_turned 80 = .ok (.goto 4, 3) := by decide +kernel
theorem dX7_turned_83 : decode cX7_turned 83 = .ok (.iconst 0, 1) := by decide +kernel
theorem dX7_turned_84 : decode cX7_turned 84 = .ok (.ireturn, 1) := by decide +kernel
set_option maxRecDepth 20000 in
theorem ggX7_learn_X7_mixedAt : GoodIn wsX7_learn wsX7_mixedAt := goodIn_r _ [8] (by decide +kernel) (by decide +kernel)
set_option maxRecDepth 20000 in
theorem gX7_learn_X7_mixedAt : GoodIn wsX7_learn (wsV RX7 126 RX7 yX7_mixedAt wsX7_mixedAt) := goodIn_app (goodIn_of _ (by decide +kernel)) ggX7_learn_X7_mixedAt
set_option maxRecDepth 20000 in
theorem ggX7_learn_X7_more : GoodIn wsX7_learn wsX7_more := goodIn_r _ [11] (by decide +kernel) (by decide +kernel)
set_option maxRecDepth 20000 in
theorem gX7_learn_X7_more : GoodIn wsX7_learn (va_wsS RX7 147 yX7_more wsX7_more) := goodIn_app (goodIn_of _ (by decide +kernel)) ggX7_learn_X7_more
theorem dX7_learn_0 : decode cX7_learn 0 = .ok (.iload_n 1, 1) := by decide +kernel
theorem dX7_learn_1 : decode cX7_learn 1 = .ok (.bipush 16, 2) := by decide +kernel
theorem dX7_learn_3 : decode cX7_learn 3 = .ok (.irem, 1) := by decide +kernel
theorem dX7_learn_4 : decode cX7_learn 4 = .ok (.istore 4, 2) := by decide +kernel
theorem dX7_learn_6 : decode cX7_learn 6 = .ok (.aload_n 0, 1) := by decide +kernel
theorem dX7_learn_7 : decode cX7_learn 7 = .ok (.iload_n 1, 1) := by decide +kernel
theorem dX7_learn_8 : decode cX7_learn 8 = .ok (.iload_n 3, 1) := by decide +kernel
theorem dX7_learn_9 : decode cX7_learn 9 = .ok (.invokevirtual 126, 3) := by decide +kernel
theorem dX7_learn_12 : decode cX7_learn 12 = .ok (.istore 5, 2) := by decide +kernel
theorem dX7_learn_14 : decode cX7_learn 14 = .ok (.aload_n 0, 1) := by decide +kernel
theorem dX7_learn_15 : decode cX7_learn 15 = .ok (.getfield 35, 3) := by decide +kernel
theorem dX7_learn_18 : decode cX7_learn 18 = .ok (.iload 4, 2) := by decide +kernel
theorem dX7_learn_20 : decode cX7_learn 20 = .ok (.iaload, 1) := by decide +kernel
theorem dX7_learn_21 : decode cX7_learn 21 = .ok (.iconst 1, 1) := by decide +kernel
theorem dX7_learn_22 : decode cX7_learn 22 = .ok (.if_icmp .le 7, 3) := by decide +kernel
theorem dX7_learn_25 : decode cX7_learn 25 = .ok (.iconst 1, 1) := by decide +kernel
theorem dX7_learn_26 : decode cX7_learn 26 = .ok (.goto 4, 3) := by decide +kernel
theorem dX7_learn_29 : decode cX7_learn 29 = .ok (.iconst 0, 1) := by decide +kernel
theorem dX7_learn_30 : decode cX7_learn 30 = .ok (.istore 6, 2) := by decide +kernel
theorem dX7_learn_32 : decode cX7_learn 32 = .ok (.aload_n 0, 1) := by decide +kernel
theorem dX7_learn_33 : decode cX7_learn 33 = .ok (.getfield 38, 3) := by decide +kernel
theorem dX7_learn_36 : decode cX7_learn 36 = .ok (.iload 5, 2) := by decide +kernel
theorem dX7_learn_38 : decode cX7_learn 38 = .ok (.iaload, 1) := by decide +kernel
theorem dX7_learn_39 : decode cX7_learn 39 = .ok (.iconst 1, 1) := by decide +kernel
theorem dX7_learn_40 : decode cX7_learn 40 = .ok (.if_icmp .le 7, 3) := by decide +kernel
theorem dX7_learn_43 : decode cX7_learn 43 = .ok (.iconst 1, 1) := by decide +kernel
theorem dX7_learn_44 : decode cX7_learn 44 = .ok (.goto 4, 3) := by decide +kernel
theorem dX7_learn_47 : decode cX7_learn 47 = .ok (.iconst 0, 1) := by decide +kernel
theorem dX7_learn_48 : decode cX7_learn 48 = .ok (.istore 7, 2) := by decide +kernel
theorem dX7_learn_50 : decode cX7_learn 50 = .ok (.aload_n 0, 1) := by decide +kernel
theorem dX7_learn_51 : decode cX7_learn 51 = .ok (.getfield 35, 3) := by decide +kernel
theorem dX7_learn_54 : decode cX7_learn 54 = .ok (.iload 4, 2) := by decide +kernel
theorem dX7_learn_56 : decode cX7_learn 56 = .ok (.aload_n 0, 1) := by decide +kernel
theorem dX7_learn_57 : decode cX7_learn 57 = .ok (.getfield 35, 3) := by decide +kernel
theorem dX7_learn_60 : decode cX7_learn 60 = .ok (.iload 4, 2) := by decide +kernel
theorem dX7_learn_62 : decode cX7_learn 62 = .ok (.iaload, 1) := by decide +kernel
theorem dX7_learn_63 : decode cX7_learn 63 = .ok (.iload_n 2, 1) := by decide +kernel
theorem dX7_learn_64 : decode cX7_learn 64 = .ok (.invokestatic 147, 3) := by decide +kernel
theorem dX7_learn_67 : decode cX7_learn 67 = .ok (.iastore, 1) := by decide +kernel
theorem dX7_learn_68 : decode cX7_learn 68 = .ok (.aload_n 0, 1) := by decide +kernel
theorem dX7_learn_69 : decode cX7_learn 69 = .ok (.getfield 38, 3) := by decide +kernel
theorem dX7_learn_72 : decode cX7_learn 72 = .ok (.iload 5, 2) := by decide +kernel
theorem dX7_learn_74 : decode cX7_learn 74 = .ok (.aload_n 0, 1) := by decide +kernel
theorem dX7_learn_75 : decode cX7_learn 75 = .ok (.getfield 38, 3) := by decide +kernel
theorem dX7_learn_78 : decode cX7_learn 78 = .ok (.iload 5, 2) := by decide +kernel
theorem dX7_learn_80 : decode cX7_learn 80 = .ok (.iaload, 1) := by decide +kernel
theorem dX7_learn_81 : decode cX7_learn 81 = .ok (.iload_n 2, 1) := by decide +kernel
theorem dX7_learn_82 : decode cX7_learn 82 = .ok (.invokestatic 147, 3) := by decide +kernel
theorem dX7_learn_85 : decode cX7_learn 85 = .ok (.iastore, 1) := by decide +kernel
theorem dX7_learn_86 : decode cX7_learn 86 = .ok (.iload 6, 2) := by decide +kernel
theorem dX7_learn_88 : decode cX7_learn 88 = .ok (.iload 7, 2) := by decide +kernel
theorem dX7_learn_90 : decode cX7_learn 90 = .ok (.if_icmp .eq 31, 3) := by decide +kernel
theorem dX7_learn_93 : decode cX7_learn 93 = .ok (.aload_n 0, 1) := by decide +kernel
theorem dX7_learn_94 : decode cX7_learn 94 = .ok (.getfield 41, 3) := by decide +kernel
theorem dX7_learn_97 : decode cX7_learn 97 = .ok (.iload 4, 2) := by decide +kernel
theorem dX7_learn_99 : decode cX7_learn 99 = .ok (.aload_n 0, 1) := by decide +kernel
theorem dX7_learn_100 : decode cX7_learn 100 = .ok (.getfield 41, 3) := by decide +kernel
theorem dX7_learn_103 : decode cX7_learn 103 = .ok (.iload 4, 2) := by decide +kernel
theorem dX7_learn_105 : decode cX7_learn 105 = .ok (.iaload, 1) := by decide +kernel
theorem dX7_learn_106 : decode cX7_learn 106 = .ok (.iload 7, 2) := by decide +kernel
theorem dX7_learn_108 : decode cX7_learn 108 = .ok (.iload_n 2, 1) := by decide +kernel
theorem dX7_learn_109 : decode cX7_learn 109 = .ok (.if_icmp .ne 7, 3) := by decide +kernel
theorem dX7_learn_112 : decode cX7_learn 112 = .ok (.iconst 1, 1) := by decide +kernel
theorem dX7_learn_113 : decode cX7_learn 113 = .ok (.goto 4, 3) := by decide +kernel
theorem dX7_learn_116 : decode cX7_learn 116 = .ok (.iconst 0, 1) := by decide +kernel
theorem dX7_learn_117 : decode cX7_learn 117 = .ok (.invokestatic 147, 3) := by decide +kernel
theorem dX7_learn_120 : decode cX7_learn 120 = .ok (.iastore, 1) := by decide +kernel
theorem dX7_learn_121 : decode cX7_learn 121 = .ok (.return_, 1) := by decide +kernel
set_option maxRecDepth 20000 in
theorem ggX7_finishFirst_X7_in : GoodIn wsX7_finishFirst wsX7_in := goodIn_r _ [21] (by decide +kernel) (by decide +kernel)
set_option maxRecDepth 20000 in
theorem gX7_finishFirst_X7_in : GoodIn wsX7_finishFirst (va_wsS RX7 92 yX7_in wsX7_in) := goodIn_app (goodIn_of _ (by decide +kernel)) ggX7_finishFirst_X7_in
set_option maxRecDepth 20000 in
theorem ggX7_finishFirst_X7_turned : GoodIn wsX7_finishFirst wsX7_turned := goodIn_r _ [25, 2, 26, 27, 28, 72, 73, 74, 75, 76, 77, 78, 79, 80, 81, 82, 83, 84, 85, 86, 87, 88, 89, 90, 91, 92, 93, 94, 95, 96, 97, 98, 99, 100, 101, 102, 103, 104, 105] (by decide +kernel) (by decide +kernel)
set_option maxRecDepth 20000 in
theorem gX7_finishFirst_X7_turned : GoodIn wsX7_finishFirst (wsV RX7 151 RX7 yX7_turned wsX7_turned) := goodIn_app (goodIn_of _ (by decide +kernel)) ggX7_finishFirst_X7_turned
set_option maxRecDepth 20000 in
theorem ggX7_finishFirst_X7_does : GoodIn wsX7_finishFirst wsX7_does := goodIn_r _ [32, 27, 28, 2, 26, 33, 34, 35, 36, 37, 38, 72, 73, 74, 75, 76, 77, 78, 79, 80, 81, 82, 83, 84, 85, 86, 87, 88, 89, 90, 91, 92, 93, 94, 95, 96, 97, 98, 99, 100, 101, 102, 103, 104, 105] (by decide +kernel) (by decide +kernel)
set_option maxRecDepth 20000 in
theorem gX7_finishFirst_X7_does : GoodIn wsX7_finishFirst (wsV RX7 154 RX7 yX7_does wsX7_does) := goodIn_app (goodIn_of _ (by decide +kernel)) ggX7_finishFirst_X7_does
set_option maxRecDepth 20000 in
theorem ggX7_finishFirst_X7_dropFirst : GoodIn wsX7_finishFirst wsX7_dropFirst := goodIn_r _ [42, 13, 1, 43, 3, 4, 5, 7, 72, 73, 74, 75, 76, 77, 78, 79, 80, 81, 82, 83, 84, 85, 86, 87, 88, 89, 90, 91, 92, 93, 94, 95, 96, 97, 98, 99, 100, 101, 102, 103, 104, 105] (by decide +kernel) (by decide +kernel)
set_option maxRecDepth 20000 in
theorem gX7_finishFirst_X7_dropFirst : GoodIn wsX7_finishFirst (wsV RX7 157 RX7 yX7_dropFirst wsX7_dropFirst) := goodIn_app (goodIn_of _ (by decide +kernel)) ggX7_finishFirst_X7_dropFirst
set_option maxRecDepth 20000 in
theorem ggX7_finishFirst_X7_finish : GoodIn wsX7_finishFirst wsX7_finish := goodIn_r _ [47, 48, 49, 8, 13, 72, 73, 74, 75, 76, 77, 78, 79, 80, 81, 82, 83, 84, 85, 86, 87, 88, 89, 90, 91, 92, 93, 94, 95, 96, 97, 98, 99, 100, 101, 102, 103, 104, 105] (by decide +kernel) (by decide +kernel)
set_option maxRecDepth 20000 in
theorem gX7_finishFirst_X7_finish : GoodIn wsX7_finishFirst (wsV RX7 160 RX7 yX7_finish wsX7_finish) := goodIn_app (goodIn_of _ (by decide +kernel)) ggX7_finishFirst_X7_finish
set_option maxRecDepth 20000 in
theorem ggX7_finishFirst_X7_learn : GoodIn wsX7_finishFirst wsX7_learn := goodIn_r _ [53, 54, 55, 56, 57, 58, 59, 20, 60, 61, 62, 63, 72, 73, 74, 75, 76, 77, 78, 79, 80, 81, 82, 83, 84, 85, 86, 87, 88, 89, 90, 91, 92, 93, 94, 95, 96, 97, 98, 99, 100, 101, 102, 103, 104, 105] (by decide +kernel) (by decide +kernel)
set_option maxRecDepth 20000 in
theorem gX7_finishFirst_X7_learn : GoodIn wsX7_finishFirst (wsV RX7 163 RX7 yX7_learn wsX7_learn) := goodIn_app (goodIn_of _ (by decide +kernel)) ggX7_finishFirst_X7_learn
set_option maxRecDepth 20000 in
theorem ggX7_finishFirst_X7_bit : GoodIn wsX7_finishFirst wsX7_bit := goodIn_r _ [67, 15, 72, 73, 74, 75, 76, 77, 78, 79, 80, 81, 82, 83, 84, 85, 86, 87, 88, 89, 90, 91, 92, 93, 94, 95, 96, 97, 98, 99, 100, 101, 102, 103, 104, 105] (by decide +kernel) (by decide +kernel)
set_option maxRecDepth 20000 in
theorem gX7_finishFirst_X7_bit : GoodIn wsX7_finishFirst (wsV RX7 134 RX7 yX7_bit wsX7_bit) := goodIn_app (goodIn_of _ (by decide +kernel)) ggX7_finishFirst_X7_bit
set_option maxRecDepth 20000 in
theorem ggX7_finishFirst_X7_push : GoodIn wsX7_finishFirst wsX7_push := goodIn_r _ [71, 16, 17, 72, 73, 74, 75, 76, 77, 78, 79, 80, 81, 82, 83, 84, 85, 86, 87, 88, 89, 90, 91, 92, 93, 94, 95, 96, 97, 98, 99, 100, 101, 102, 103, 104, 105] (by decide +kernel) (by decide +kernel)
set_option maxRecDepth 20000 in
theorem gX7_finishFirst_X7_push : GoodIn wsX7_finishFirst (wsV RX7 138 RX7 yX7_push wsX7_push) := goodIn_app (goodIn_of _ (by decide +kernel)) ggX7_finishFirst_X7_push
theorem dX7_finishFirst_0 : decode cX7_finishFirst 0 = .ok (.aload_n 0, 1) := by decide +kernel
theorem dX7_finishFirst_1 : decode cX7_finishFirst 1 = .ok (.getfield 56, 3) := by decide +kernel
theorem dX7_finishFirst_4 : decode cX7_finishFirst 4 = .ok (.iconst 0, 1) := by decide +kernel
theorem dX7_finishFirst_5 : decode cX7_finishFirst 5 = .ok (.iaload, 1) := by decide +kernel
theorem dX7_finishFirst_6 : decode cX7_finishFirst 6 = .ok (.istore_n 1, 1) := by decide +kernel
theorem dX7_finishFirst_7 : decode cX7_finishFirst 7 = .ok (.aload_n 0, 1) := by decide +kernel
theorem dX7_finishFirst_8 : decode cX7_finishFirst 8 = .ok (.getfield 7, 3) := by decide +kernel
theorem dX7_finishFirst_11 : decode cX7_finishFirst 11 = .ok (.iload_n 1, 1) := by decide +kernel
theorem dX7_finishFirst_12 : decode cX7_finishFirst 12 = .ok (.iaload, 1) := by decide +kernel
theorem dX7_finishFirst_13 : decode cX7_finishFirst 13 = .ok (.istore_n 2, 1) := by decide +kernel
theorem dX7_finishFirst_14 : decode cX7_finishFirst 14 = .ok (.iload_n 2, 1) := by decide +kernel
theorem dX7_finishFirst_15 : decode cX7_finishFirst 15 = .ok (.iconst 5, 1) := by decide +kernel
theorem dX7_finishFirst_16 : decode cX7_finishFirst 16 = .ok (.if_icmp .eq 9, 3) := by decide +kernel
theorem dX7_finishFirst_19 : decode cX7_finishFirst 19 = .ok (.iload_n 2, 1) := by decide +kernel
theorem dX7_finishFirst_20 : decode cX7_finishFirst 20 = .ok (.bipush 6, 2) := by decide +kernel
theorem dX7_finishFirst_22 : decode cX7_finishFirst 22 = .ok (.if_icmp .ne 7, 3) := by decide +kernel
theorem dX7_finishFirst_25 : decode cX7_finishFirst 25 = .ok (.iconst 1, 1) := by decide +kernel
theorem dX7_finishFirst_26 : decode cX7_finishFirst 26 = .ok (.goto 4, 3) := by decide +kernel
theorem dX7_finishFirst_29 : decode cX7_finishFirst 29 = .ok (.iconst 0, 1) := by decide +kernel
theorem dX7_finishFirst_30 : decode cX7_finishFirst 30 = .ok (.istore_n 3, 1) := by decide +kernel
theorem dX7_finishFirst_31 : decode cX7_finishFirst 31 = .ok (.iload_n 2, 1) := by decide +kernel
theorem dX7_finishFirst_32 : decode cX7_finishFirst 32 = .ok (.iconst 5, 1) := by decide +kernel
theorem dX7_finishFirst_33 : decode cX7_finishFirst 33 = .ok (.bipush 10, 2) := by decide +kernel
theorem dX7_finishFirst_35 : decode cX7_finishFirst 35 = .ok (.invokestatic 92, 3) := by decide +kernel
theorem dX7_finishFirst_38 : decode cX7_finishFirst 38 = .ok (.ifCond .eq 15, 3) := by decide +kernel
theorem dX7_finishFirst_41 : decode cX7_finishFirst 41 = .ok (.aload_n 0, 1) := by decide +kernel
theorem dX7_finishFirst_42 : decode cX7_finishFirst 42 = .ok (.iload_n 1, 1) := by decide +kernel
theorem dX7_finishFirst_43 : decode cX7_finishFirst 43 = .ok (.invokevirtual 151, 3) := by decide +kernel
theorem dX7_finishFirst_46 : decode cX7_finishFirst 46 = .ok (.ifCond .eq 7, 3) := by decide +kernel
theorem dX7_finishFirst_49 : decode cX7_finishFirst 49 = .ok (.iconst 1, 1) := by decide +kernel
theorem dX7_finishFirst_50 : decode cX7_finishFirst 50 = .ok (.goto 4, 3) := by decide +kernel
theorem dX7_finishFirst_53 : decode cX7_finishFirst 53 = .ok (.iconst 0, 1) := by decide +kernel
theorem dX7_finishFirst_54 : decode cX7_finishFirst 54 = .ok (.istore 4, 2) := by decide +kernel
theorem dX7_finishFirst_56 : decode cX7_finishFirst 56 = .ok (.aload_n 0, 1) := by decide +kernel
theorem dX7_finishFirst_57 : decode cX7_finishFirst 57 = .ok (.iload_n 1, 1) := by decide +kernel
theorem dX7_finishFirst_58 : decode cX7_finishFirst 58 = .ok (.invokevirtual 154, 3) := by decide +kernel
theorem dX7_finishFirst_61 : decode cX7_finishFirst 61 = .ok (.istore 5, 2) := by decide +kernel
theorem dX7_finishFirst_63 : decode cX7_finishFirst 63 = .ok (.aload_n 0, 1) := by decide +kernel
theorem dX7_finishFirst_64 : decode cX7_finishFirst 64 = .ok (.getfield 62, 3) := by decide +kernel
theorem dX7_finishFirst_67 : decode cX7_finishFirst 67 = .ok (.iconst 0, 1) := by decide +kernel
theorem dX7_finishFirst_68 : decode cX7_finishFirst 68 = .ok (.iaload, 1) := by decide +kernel
theorem dX7_finishFirst_69 : decode cX7_finishFirst 69 = .ok (.istore 6, 2) := by decide +kernel
theorem dX7_finishFirst_71 : decode cX7_finishFirst 71 = .ok (.aload_n 0, 1) := by decide +kernel
theorem dX7_finishFirst_72 : decode cX7_finishFirst 72 = .ok (.getfield 65, 3) := by decide +kernel
theorem dX7_finishFirst_75 : decode cX7_finishFirst 75 = .ok (.iconst 0, 1) := by decide +kernel
theorem dX7_finishFirst_76 : decode cX7_finishFirst 76 = .ok (.iaload, 1) := by decide +kernel
theorem dX7_finishFirst_77 : decode cX7_finishFirst 77 = .ok (.istore 7, 2) := by decide +kernel
theorem dX7_finishFirst_79 : decode cX7_finishFirst 79 = .ok (.aload_n 0, 1) := by decide +kernel
theorem dX7_finishFirst_80 : decode cX7_finishFirst 80 = .ok (.getfield 68, 3) := by decide +kernel
theorem dX7_finishFirst_83 : decode cX7_finishFirst 83 = .ok (.iconst 0, 1) := by decide +kernel
theorem dX7_finishFirst_84 : decode cX7_finishFirst 84 = .ok (.iaload, 1) := by decide +kernel
theorem dX7_finishFirst_85 : decode cX7_finishFirst 85 = .ok (.istore 8, 2) := by decide +kernel
theorem dX7_finishFirst_87 : decode cX7_finishFirst 87 = .ok (.iconst 0, 1) := by decide +kernel
theorem dX7_finishFirst_88 : decode cX7_finishFirst 88 = .ok (.istore 9, 2) := by decide +kernel
theorem dX7_finishFirst_90 : decode cX7_finishFirst 90 = .ok (.iload 9, 2) := by decide +kernel
theorem dX7_finishFirst_92 : decode cX7_finishFirst 92 = .ok (.iconst 4, 1) := by decide +kernel
theorem dX7_finishFirst_93 : decode cX7_finishFirst 93 = .ok (.if_icmp .ge 23, 3) := by decide +kernel
theorem dX7_finishFirst_96 : decode cX7_finishFirst 96 = .ok (.aload_n 0, 1) := by decide +kernel
theorem dX7_finishFirst_97 : decode cX7_finishFirst 97 = .ok (.getfield 83, 3) := by decide +kernel
theorem dX7_finishFirst_100 : decode cX7_finishFirst 100 = .ok (.iload 9, 2) := by decide +kernel
theorem dX7_finishFirst_102 : decode cX7_finishFirst 102 = .ok (.aload_n 0, 1) := by decide +kernel
theorem dX7_finishFirst_103 : decode cX7_finishFirst 103 = .ok (.getfield 71, 3) := by decide +kernel
theorem dX7_finishFirst_106 : decode cX7_finishFirst 106 = .ok (.iload 9, 2) := by decide +kernel
theorem dX7_finishFirst_108 : decode cX7_finishFirst 108 = .ok (.iaload, 1) := by decide +kernel
theorem dX7_finishFirst_109 : decode cX7_finishFirst 109 = .ok (.iastore, 1) := by decide +kernel
theorem dX7_finishFirst_110 : decode cX7_finishFirst 110 = .ok (.iinc 9 1, 3) := by decide +kernel
theorem dX7_finishFirst_113 : decode cX7_finishFirst 113 = .ok (.goto (-23), 3) := by decide +kernel
theorem dX7_finishFirst_116 : decode cX7_finishFirst 116 = .ok (.aload_n 0, 1) := by decide +kernel
theorem dX7_finishFirst_117 : decode cX7_finishFirst 117 = .ok (.invokevirtual 157, 3) := by decide +kernel
theorem dX7_finishFirst_120 : decode cX7_finishFirst 120 = .ok (.iload 5, 2) := by decide +kernel
theorem dX7_finishFirst_122 : decode cX7_finishFirst 122 = .ok (.iconst (-1), 1) := by decide +kernel
theorem dX7_finishFirst_123 : decode cX7_finishFirst 123 = .ok (.if_icmp .ne 9, 3) := by decide +kernel
theorem dX7_finishFirst_126 : decode cX7_finishFirst 126 = .ok (.aload_n 0, 1) := by decide +kernel
theorem dX7_finishFirst_127 : decode cX7_finishFirst 127 = .ok (.iconst 2, 1) := by decide +kernel
theorem dX7_finishFirst_128 : decode cX7_finishFirst 128 = .ok (.invokevirtual 160, 3) := by decide +kernel
theorem dX7_finishFirst_131 : decode cX7_finishFirst 131 = .ok (.return_, 1) := by decide +kernel
theorem dX7_finishFirst_132 : decode cX7_finishFirst 132 = .ok (.aload_n 0, 1) := by decide +kernel
theorem dX7_finishFirst_133 : decode cX7_finishFirst 133 = .ok (.getfield 77, 3) := by decide +kernel
theorem dX7_finishFirst_136 : decode cX7_finishFirst 136 = .ok (.iconst 1, 1) := by decide +kernel
theorem dX7_finishFirst_137 : decode cX7_finishFirst 137 = .ok (.iaload, 1) := by decide +kernel
theorem dX7_finishFirst_138 : decode cX7_finishFirst 138 = .ok (.sipush 300, 3) := by decide +kernel
theorem dX7_finishFirst_141 : decode cX7_finishFirst 141 = .ok (.if_icmp .ge 15, 3) := by decide +kernel
theorem dX7_finishFirst_144 : decode cX7_finishFirst 144 = .ok (.aload_n 0, 1) := by decide +kernel
theorem dX7_finishFirst_145 : decode cX7_finishFirst 145 = .ok (.getfield 80, 3) := by decide +kernel
theorem dX7_finishFirst_148 : decode cX7_finishFirst 148 = .ok (.aload_n 0, 1) := by decide +kernel
theorem dX7_finishFirst_149 : decode cX7_finishFirst 149 = .ok (.getfield 77, 3) := by decide +kernel
theorem dX7_finishFirst_152 : decode cX7_finishFirst 152 = .ok (.iconst 1, 1) := by decide +kernel
theorem dX7_finishFirst_153 : decode cX7_finishFirst 153 = .ok (.iaload, 1) := by decide +kernel
theorem dX7_finishFirst_154 : decode cX7_finishFirst 154 = .ok (.iload_n 1, 1) := by decide +kernel
theorem dX7_finishFirst_155 : decode cX7_finishFirst 155 = .ok (.iastore, 1) := by decide +kernel
theorem dX7_finishFirst_156 : decode cX7_finishFirst 156 = .ok (.aload_n 0, 1) := by decide +kernel
theorem dX7_finishFirst_157 : decode cX7_finishFirst 157 = .ok (.getfield 77, 3) := by decide +kernel
theorem dX7_finishFirst_160 : decode cX7_finishFirst 160 = .ok (.iconst 1, 1) := by decide +kernel
theorem dX7_finishFirst_161 : decode cX7_finishFirst 161 = .ok (.dup2, 1) := by decide +kernel
theorem dX7_finishFirst_162 : decode cX7_finishFirst 162 = .ok (.iaload, 1) := by decide +kernel
theorem dX7_finishFirst_163 : decode cX7_finishFirst 163 = .ok (.iconst 1, 1) := by decide +kernel
theorem dX7_finishFirst_164 : decode cX7_finishFirst 164 = .ok (.iadd, 1) := by decide +kernel
theorem dX7_finishFirst_165 : decode cX7_finishFirst 165 = .ok (.iastore, 1) := by decide +kernel
theorem dX7_finishFirst_166 : decode cX7_finishFirst 166 = .ok (.aload_n 0, 1) := by decide +kernel
theorem dX7_finishFirst_167 : decode cX7_finishFirst 167 = .ok (.getfield 77, 3) := by decide +kernel
theorem dX7_finishFirst_170 : decode cX7_finishFirst 170 = .ok (.bipush 13, 2) := by decide +kernel
theorem dX7_finishFirst_172 : decode cX7_finishFirst 172 = .ok (.dup2, 1) := by decide +kernel
theorem dX7_finishFirst_173 : decode cX7_finishFirst 173 = .ok (.iaload, 1) := by decide +kernel
theorem dX7_finishFirst_174 : decode cX7_finishFirst 174 = .ok (.iconst 1, 1) := by decide +kernel
theorem dX7_finishFirst_175 : decode cX7_finishFirst 175 = .ok (.iadd, 1) := by decide +kernel
theorem dX7_finishFirst_176 : decode cX7_finishFirst 176 = .ok (.iastore, 1) := by decide +kernel
theorem dX7_finishFirst_177 : decode cX7_finishFirst 177 = .ok (.aload_n 0, 1) := by decide +kernel
theorem dX7_finishFirst_178 : decode cX7_finishFirst 178 = .ok (.getfield 77, 3) := by decide +kernel
theorem dX7_finishFirst_181 : decode cX7_finishFirst 181 = .ok (.iconst 4, 1) := by decide +kernel
theorem dX7_finishFirst_182 : decode cX7_finishFirst 182 = .ok (.dup2, 1) := by decide +kernel
theorem dX7_finishFirst_183 : decode cX7_finishFirst 183 = .ok (.iaload, 1) := by decide +kernel
theorem dX7_finishFirst_184 : decode cX7_finishFirst 184 = .ok (.iload_n 2, 1) := by decide +kernel
theorem dX7_finishFirst_185 : decode cX7_finishFirst 185 = .ok (.iconst 5, 1) := by decide +kernel
theorem dX7_finishFirst_186 : decode cX7_finishFirst 186 = .ok (.bipush 10, 2) := by decide +kernel
theorem dX7_finishFirst_188 : decode cX7_finishFirst 188 = .ok (.invokestatic 92, 3) := by decide +kernel
theorem dX7_finishFirst_191 : decode cX7_finishFirst 191 = .ok (.ifCond .eq 7, 3) := by decide +kernel
theorem dX7_finishFirst_194 : decode cX7_finishFirst 194 = .ok (.iconst 1, 1) := by decide +kernel
theorem dX7_finishFirst_195 : decode cX7_finishFirst 195 = .ok (.goto 4, 3) := by decide +kernel
theorem dX7_finishFirst_198 : decode cX7_finishFirst 198 = .ok (.iconst 0, 1) := by decide +kernel
theorem dX7_finishFirst_199 : decode cX7_finishFirst 199 = .ok (.iadd, 1) := by decide +kernel
theorem dX7_finishFirst_200 : decode cX7_finishFirst 200 = .ok (.iastore, 1) := by decide +kernel
theorem dX7_finishFirst_201 : decode cX7_finishFirst 201 = .ok (.aload_n 0, 1) := by decide +kernel
theorem dX7_finishFirst_202 : decode cX7_finishFirst 202 = .ok (.getfield 77, 3) := by decide +kernel
theorem dX7_finishFirst_205 : decode cX7_finishFirst 205 = .ok (.iconst 5, 1) := by decide +kernel
theorem dX7_finishFirst_206 : decode cX7_finishFirst 206 = .ok (.dup2, 1) := by decide +kernel
theorem dX7_finishFirst_207 : decode cX7_finishFirst 207 = .ok (.iaload, 1) := by decide +kernel
theorem dX7_finishFirst_208 : decode cX7_finishFirst 208 = .ok (.iload_n 3, 1) := by decide +kernel
theorem dX7_finishFirst_209 : decode cX7_finishFirst 209 = .ok (.ifCond .eq 7, 3) := by decide +kernel
theorem dX7_finishFirst_212 : decode cX7_finishFirst 212 = .ok (.iconst 1, 1) := by decide +kernel
theorem dX7_finishFirst_213 : decode cX7_finishFirst 213 = .ok (.goto 4, 3) := by decide +kernel
theorem dX7_finishFirst_216 : decode cX7_finishFirst 216 = .ok (.iconst 0, 1) := by decide +kernel
theorem dX7_finishFirst_217 : decode cX7_finishFirst 217 = .ok (.iadd, 1) := by decide +kernel
theorem dX7_finishFirst_218 : decode cX7_finishFirst 218 = .ok (.iastore, 1) := by decide +kernel
theorem dX7_finishFirst_219 : decode cX7_finishFirst 219 = .ok (.iload_n 2, 1) := by decide +kernel
theorem dX7_finishFirst_220 : decode cX7_finishFirst 220 = .ok (.bipush 11, 2) := by decide +kernel
theorem dX7_finishFirst_222 : decode cX7_finishFirst 222 = .ok (.if_icmp .ne 9, 3) := by decide +kernel
theorem dX7_finishFirst_225 : decode cX7_finishFirst 225 = .ok (.aload_n 0, 1) := by decide +kernel
theorem dX7_finishFirst_226 : decode cX7_finishFirst 226 = .ok (.iconst 1, 1) := by decide +kernel
theorem dX7_finishFirst_227 : decode cX7_finishFirst 227 = .ok (.invokevirtual 160, 3) := by decide +kernel
theorem dX7_finishFirst_230 : decode cX7_finishFirst 230 = .ok (.return_, 1) := by decide +kernel
theorem dX7_finishFirst_231 : decode cX7_finishFirst 231 = .ok (.iload_n 3, 1) := by decide +kernel
theorem dX7_finishFirst_232 : decode cX7_finishFirst 232 = .ok (.ifCond .eq 12, 3) := by decide +kernel
theorem dX7_finishFirst_235 : decode cX7_finishFirst 235 = .ok (.aload_n 0, 1) := by decide +kernel
theorem dX7_finishFirst_236 : decode cX7_finishFirst 236 = .ok (.iload_n 1, 1) := by decide +kernel
theorem dX7_finishFirst_237 : decode cX7_finishFirst 237 = .ok (.iload 4, 2) := by decide +kernel
theorem dX7_finishFirst_239 : decode cX7_finishFirst 239 = .ok (.iload 7, 2) := by decide +kernel
theorem dX7_finishFirst_241 : decode cX7_finishFirst 241 = .ok (.invokevirtual 163, 3) := by decide +kernel
theorem dX7_finishFirst_244 : decode cX7_finishFirst 244 = .ok (.iload 4, 2) := by decide +kernel
theorem dX7_finishFirst_246 : decode cX7_finishFirst 246 = .ok (.ifCond .eq 34, 3) := by decide +kernel
theorem dX7_finishFirst_249 : decode cX7_finishFirst 249 = .ok (.aload_n 0, 1) := by decide +kernel
theorem dX7_finishFirst_250 : decode cX7_finishFirst 250 = .ok (.getfield 44, 3) := by decide +kernel
theorem dX7_finishFirst_253 : decode cX7_finishFirst 253 = .ok (.iload_n 1, 1) := by decide +kernel
theorem dX7_finishFirst_254 : decode cX7_finishFirst 254 = .ok (.bipush 8, 2) := by decide +kernel
theorem dX7_finishFirst_256 : decode cX7_finishFirst 256 = .ok (.irem, 1) := by decide +kernel
theorem dX7_finishFirst_257 : decode cX7_finishFirst 257 = .ok (.iload_n 1, 1) := by decide +kernel
theorem dX7_finishFirst_258 : decode cX7_finishFirst 258 = .ok (.iastore, 1) := by decide +kernel
theorem dX7_finishFirst_259 : decode cX7_finishFirst 259 = .ok (.aload_n 0, 1) := by decide +kernel
theorem dX7_finishFirst_260 : decode cX7_finishFirst 260 = .ok (.getfield 47, 3) := by decide +kernel
theorem dX7_finishFirst_263 : decode cX7_finishFirst 263 = .ok (.iload_n 1, 1) := by decide +kernel
theorem dX7_finishFirst_264 : decode cX7_finishFirst 264 = .ok (.bipush 8, 2) := by decide +kernel
theorem dX7_finishFirst_266 : decode cX7_finishFirst 266 = .ok (.irem, 1) := by decide +kernel
theorem dX7_finishFirst_267 : decode cX7_finishFirst 267 = .ok (.iload_n 2, 1) := by decide +kernel
theorem dX7_finishFirst_268 : decode cX7_finishFirst 268 = .ok (.iastore, 1) := by decide +kernel
