theorem dX12_again_0 : decode cX12_again 0 = .ok (.aload_n 0, 1) := by decide +kernel
theorem dX12_again_1 : decode cX12_again 1 = .ok (.iconst 0, 1) := by decide +kernel
theorem dX12_again_2 : decode cX12_again 2 = .ok (.putfield 74, 3) := by decide +kernel
theorem dX12_again_5 : decode cX12_again 5 = .ok (.aload_n 0, 1) := by decide +kernel
theorem dX12_again_6 : decode cX12_again 6 = .ok (.invokevirtual 237, 3) := by decide +kernel
theorem dX12_again_9 : decode cX12_again 9 = .ok (.ifCond .ne 6, 3) := by decide +kernel
theorem dX12_again_12 : decode cX12_again 12 = .ok (.bipush (-2), 2) := by decide +kernel
theorem dX12_again_14 : decode cX12_again 14 = .ok (.ireturn, 1) := by decide +kernel
theorem dX12_again_15 : decode cX12_again 15 = .ok (.aload_n 0, 1) := by decide +kernel
theorem dX12_again_16 : decode cX12_again 16 = .ok (.invokevirtual 276, 3) := by decide +kernel
theorem dX12_again_19 : decode cX12_again 19 = .ok (.iconst 1, 1) := by decide +kernel
theorem dX12_again_20 : decode cX12_again 20 = .ok (.istore_n 1, 1) := by decide +kernel
theorem dX12_again_21 : decode cX12_again 21 = .ok (.iload_n 1, 1) := by decide +kernel
theorem dX12_again_22 : decode cX12_again 22 = .ok (.bipush 60, 2) := by decide +kernel
theorem dX12_again_24 : decode cX12_again 24 = .ok (.if_icmp .ge 33, 3) := by decide +kernel
theorem dX12_again_27 : decode cX12_again 27 = .ok (.iconst 0, 1) := by decide +kernel
theorem dX12_again_28 : decode cX12_again 28 = .ok (.istore_n 2, 1) := by decide +kernel
theorem dX12_again_29 : decode cX12_again 29 = .ok (.iload_n 2, 1) := by decide +kernel
theorem dX12_again_30 : decode cX12_again 30 = .ok (.iload_n 1, 1) := by decide +kernel
theorem dX12_again_31 : decode cX12_again 31 = .ok (.if_icmp .ge 20, 3) := by decide +kernel
theorem dX12_again_34 : decode cX12_again 34 = .ok (.aload_n 0, 1) := by decide +kernel
theorem dX12_again_35 : decode cX12_again 35 = .ok (.iload_n 1, 1) := by decide +kernel
theorem dX12_again_36 : decode cX12_again 36 = .ok (.iload_n 2, 1) := by decide +kernel
theorem dX12_again_37 : decode cX12_again 37 = .ok (.invokevirtual 294, 3) := by decide +kernel
theorem dX12_again_40 : decode cX12_again 40 = .ok (.ifCond .eq 5, 3) := by decide +kernel
theorem dX12_again_43 : decode cX12_again 43 = .ok (.iload_n 1, 1) := by decide +kernel
theorem dX12_again_44 : decode cX12_again 44 = .ok (.ireturn, 1) := by decide +kernel
theorem dX12_again_45 : decode cX12_again 45 = .ok (.iinc 2 1, 3) := by decide +kernel
theorem dX12_again_48 : decode cX12_again 48 = .ok (.goto (-19), 3) := by decide +kernel
theorem dX12_again_51 : decode cX12_again 51 = .ok (.iinc 1 1, 3) := by decide +kernel
theorem dX12_again_54 : decode cX12_again 54 = .ok (.goto (-33), 3) := by decide +kernel
theorem dX12_again_57 : decode cX12_again 57 = .ok (.iconst (-1), 1) := by decide +kernel
theorem dX12_again_58 : decode cX12_again 58 = .ok (.ireturn, 1) := by decide +kernel
theorem dX12_areAlike_0 : decode cX12_areAlike 0 = .ok (.iconst 0, 1) := by decide +kernel
theorem dX12_areAlike_1 : decode cX12_areAlike 1 = .ok (.istore_n 3, 1) := by decide +kernel
theorem dX12_areAlike_2 : decode cX12_areAlike 2 = .ok (.iload_n 3, 1) := by decide +kernel
theorem dX12_areAlike_3 : decode cX12_areAlike 3 = .ok (.aload_n 0, 1) := by decide +kernel
theorem dX12_areAlike_4 : decode cX12_areAlike 4 = .ok (.getfield 34, 3) := by decide +kernel
theorem dX12_areAlike_7 : decode cX12_areAlike 7 = .ok (.iconst 4, 1) := by decide +kernel
theorem dX12_areAlike_8 : decode cX12_areAlike 8 = .ok (.iaload, 1) := by decide +kernel
theorem dX12_areAlike_9 : decode cX12_areAlike 9 = .ok (.if_icmp .ge 26, 3) := by decide +kernel
theorem dX12_areAlike_12 : decode cX12_areAlike 12 = .ok (.aload_n 0, 1) := by decide +kernel
theorem dX12_areAlike_13 : decode cX12_areAlike 13 = .ok (.iload_n 3, 1) := by decide +kernel
theorem dX12_areAlike_14 : decode cX12_areAlike 14 = .ok (.iload_n 1, 1) := by decide +kernel
theorem dX12_areAlike_15 : decode cX12_areAlike 15 = .ok (.invokevirtual 267, 3) := by decide +kernel
theorem dX12_areAlike_18 : decode cX12_areAlike 18 = .ok (.aload_n 0, 1) := by decide +kernel
theorem dX12_areAlike_19 : decode cX12_areAlike 19 = .ok (.iload_n 3, 1) := by decide +kernel
theorem dX12_areAlike_20 : decode cX12_areAlike 20 = .ok (.iload_n 2, 1) := by decide +kernel
theorem dX12_areAlike_21 : decode cX12_areAlike 21 = .ok (.invokevirtual 267, 3) := by decide +kernel
theorem dX12_areAlike_24 : decode cX12_areAlike 24 = .ok (.if_icmp .eq 5, 3) := by decide +kernel
theorem dX12_areAlike_27 : decode cX12_areAlike 27 = .ok (.iconst 0, 1) := by decide +kernel
theorem dX12_areAlike_28 : decode cX12_areAlike 28 = .ok (.ireturn, 1) := by decide +kernel
theorem dX12_areAlike_29 : decode cX12_areAlike 29 = .ok (.iinc 3 1, 3) := by decide +kernel
theorem dX12_areAlike_32 : decode cX12_areAlike 32 = .ok (.goto (-30), 3) := by decide +kernel
theorem dX12_areAlike_35 : decode cX12_areAlike 35 = .ok (.iconst 1, 1) := by decide +kernel
theorem dX12_areAlike_36 : decode cX12_areAlike 36 = .ok (.ireturn, 1) := by decide +kernel
theorem dX12_areGood_0 : decode cX12_areGood 0 = .ok (.iconst 0, 1) := by decide +kernel
theorem dX12_areGood_1 : decode cX12_areGood 1 = .ok (.istore_n 2, 1) := by decide +kernel
theorem dX12_areGood_2 : decode cX12_areGood 2 = .ok (.iload_n 2, 1) := by decide +kernel
theorem dX12_areGood_3 : decode cX12_areGood 3 = .ok (.aload_n 0, 1) := by decide +kernel
theorem dX12_areGood_4 : decode cX12_areGood 4 = .ok (.getfield 34, 3) := by decide +kernel
theorem dX12_areGood_7 : decode cX12_areGood 7 = .ok (.iconst 3, 1) := by decide +kernel
theorem dX12_areGood_8 : decode cX12_areGood 8 = .ok (.iaload, 1) := by decide +kernel
theorem dX12_areGood_9 : decode cX12_areGood 9 = .ok (.if_icmp .ge 27, 3) := by decide +kernel
theorem dX12_areGood_12 : decode cX12_areGood 12 = .ok (.iload_n 1, 1) := by decide +kernel
theorem dX12_areGood_13 : decode cX12_areGood 13 = .ok (.iload_n 2, 1) := by decide +kernel
theorem dX12_areGood_14 : decode cX12_areGood 14 = .ok (.invokestatic 365, 3) := by decide +kernel
theorem dX12_areGood_17 : decode cX12_areGood 17 = .ok (.ifCond .eq 13, 3) := by decide +kernel
theorem dX12_areGood_20 : decode cX12_areGood 20 = .ok (.aload_n 0, 1) := by decide +kernel
theorem dX12_areGood_21 : decode cX12_areGood 21 = .ok (.iload_n 2, 1) := by decide +kernel
theorem dX12_areGood_22 : decode cX12_areGood 22 = .ok (.invokevirtual 270, 3) := by decide +kernel
theorem dX12_areGood_25 : decode cX12_areGood 25 = .ok (.ifCond .ne 5, 3) := by decide +kernel
theorem dX12_areGood_28 : decode cX12_areGood 28 = .ok (.iconst 0, 1) := by decide +kernel
theorem dX12_areGood_29 : decode cX12_areGood 29 = .ok (.ireturn, 1) := by decide +kernel
theorem dX12_areGood_30 : decode cX12_areGood 30 = .ok (.iinc 2 1, 3) := by decide +kernel
theorem dX12_areGood_33 : decode cX12_areGood 33 = .ok (.goto (-31), 3) := by decide +kernel
theorem dX12_areGood_36 : decode cX12_areGood 36 = .ok (.iload_n 1, 1) := by decide +kernel
theorem dX12_areGood_37 : decode cX12_areGood 37 = .ok (.ifCond .le 7, 3) := by decide +kernel
theorem dX12_areGood_40 : decode cX12_areGood 40 = .ok (.iconst 1, 1) := by decide +kernel
theorem dX12_areGood_41 : decode cX12_areGood 41 = .ok (.goto 4, 3) := by decide +kernel
theorem dX12_areGood_44 : decode cX12_areGood 44 = .ok (.iconst 0, 1) := by decide +kernel
theorem dX12_areGood_45 : decode cX12_areGood 45 = .ok (.ireturn, 1) := by decide +kernel
theorem dX12_ask_0 : decode cX12_ask 0 = .ok (.aload_n 0, 1) := by decide +kernel
theorem dX12_ask_1 : decode cX12_ask 1 = .ok (.iconst 0, 1) := by decide +kernel
theorem dX12_ask_2 : decode cX12_ask 2 = .ok (.putfield 74, 3) := by decide +kernel
theorem dX12_ask_5 : decode cX12_ask 5 = .ok (.aload_n 0, 1) := by decide +kernel
theorem dX12_ask_6 : decode cX12_ask 6 = .ok (.iload_n 1, 1) := by decide +kernel
theorem dX12_ask_7 : decode cX12_ask 7 = .ok (.invokevirtual 386, 3) := by decide +kernel
theorem dX12_ask_10 : decode cX12_ask 10 = .ok (.istore_n 2, 1) := by decide +kernel
theorem dX12_ask_11 : decode cX12_ask 11 = .ok (.iload_n 2, 1) := by decide +kernel
theorem dX12_ask_12 : decode cX12_ask 12 = .ok (.ifCond .eq 7, 3) := by decide +kernel
theorem dX12_ask_15 : decode cX12_ask 15 = .ok (.iload_n 2, 1) := by decide +kernel
theorem dX12_ask_16 : decode cX12_ask 16 = .ok (.goto 8, 3) := by decide +kernel
theorem dX12_ask_19 : decode cX12_ask 19 = .ok (.aload_n 0, 1) := by decide +kernel
theorem dX12_ask_20 : decode cX12_ask 20 = .ok (.iload_n 1, 1) := by decide +kernel
theorem dX12_ask_21 : decode cX12_ask 21 = .ok (.invokevirtual 395, 3) := by decide +kernel
theorem dX12_ask_24 : decode cX12_ask 24 = .ok (.ireturn, 1) := by decide +kernel
theorem dX12_asks_0 : decode cX12_asks 0 = .ok (.aload_n 0, 1) := by decide +kernel
theorem dX12_asks_1 : decode cX12_asks 1 = .ok (.lload_n 1, 1) := by decide +kernel
theorem dX12_asks_2 : decode cX12_asks 2 = .ok (.invokevirtual 139, 3) := by decide +kernel
theorem dX12_asks_5 : decode cX12_asks 5 = .ok (.ifCond .ne 8, 3) := by decide +kernel
theorem dX12_asks_8 : decode cX12_asks 8 = .ok (.aload_n 0, 1) := by decide +kernel
theorem dX12_asks_9 : decode cX12_asks 9 = .ok (.iconst 1, 1) := by decide +kernel
theorem dX12_asks_10 : decode cX12_asks 10 = .ok (.invokevirtual 142, 3) := by decide +kernel
theorem dX12_asks_13 : decode cX12_asks 13 = .ok (.return_, 1) := by decide +kernel
theorem dX12_asksOf_0 : decode cX12_asksOf 0 = .ok (.aload_n 0, 1) := by decide +kernel
theorem dX12_asksOf_1 : decode cX12_asksOf 1 = .ok (.invokevirtual 276, 3) := by decide +kernel
theorem dX12_asksOf_4 : decode cX12_asksOf 4 = .ok (.iconst (-1), 1) := by decide +kernel
theorem dX12_asksOf_5 : decode cX12_asksOf 5 = .ok (.istore_n 2, 1) := by decide +kernel
theorem dX12_asksOf_6 : decode cX12_asksOf 6 = .ok (.aload_n 0, 1) := by decide +kernel
theorem dX12_asksOf_7 : decode cX12_asksOf 7 = .ok (.iconst 0, 1) := by decide +kernel
theorem dX12_asksOf_8 : decode cX12_asksOf 8 = .ok (.putfield 392, 3) := by decide +kernel
theorem dX12_asksOf_11 : decode cX12_asksOf 11 = .ok (.iconst 0, 1) := by decide +kernel
theorem dX12_asksOf_12 : decode cX12_asksOf 12 = .ok (.istore_n 3, 1) := by decide +kernel
theorem dX12_asksOf_13 : decode cX12_asksOf 13 = .ok (.iload_n 3, 1) := by decide +kernel
theorem dX12_asksOf_14 : decode cX12_asksOf 14 = .ok (.bipush 60, 2) := by decide +kernel
theorem dX12_asksOf_16 : decode cX12_asksOf 16 = .ok (.if_icmp .ge 32, 3) := by decide +kernel
theorem dX12_asksOf_19 : decode cX12_asksOf 19 = .ok (.aload_n 0, 1) := by decide +kernel
theorem dX12_asksOf_20 : decode cX12_asksOf 20 = .ok (.dup, 1) := by decide +kernel
theorem dX12_asksOf_21 : decode cX12_asksOf 21 = .ok (.getfield 392, 3) := by decide +kernel
theorem dX12_asksOf_24 : decode cX12_asksOf 24 = .ok (.aload_n 0, 1) := by decide +kernel
theorem dX12_asksOf_25 : decode cX12_asksOf 25 = .ok (.iload_n 1, 1) := by decide +kernel
theorem dX12_asksOf_26 : decode cX12_asksOf 26 = .ok (.iload_n 3, 1) := by decide +kernel
theorem dX12_asksOf_27 : decode cX12_asksOf 27 = .ok (.invokevirtual 389, 3) := by decide +kernel
theorem dX12_asksOf_30 : decode cX12_asksOf 30 = .ok (.ifCond .eq 7, 3) := by decide +kernel
theorem dX12_asksOf_33 : decode cX12_asksOf 33 = .ok (.iconst 1, 1) := by decide +kernel
theorem dX12_asksOf_34 : decode cX12_asksOf 34 = .ok (.goto 4, 3) := by decide +kernel
theorem dX12_asksOf_37 : decode cX12_asksOf 37 = .ok (.iconst 0, 1) := by decide +kernel
theorem dX12_asksOf_38 : decode cX12_asksOf 38 = .ok (.iadd, 1) := by decide +kernel
theorem dX12_asksOf_39 : decode cX12_asksOf 39 = .ok (.putfield 392, 3) := by decide +kernel
theorem dX12_asksOf_42 : decode cX12_asksOf 42 = .ok (.iinc 3 1, 3) := by decide +kernel
theorem dX12_asksOf_45 : decode cX12_asksOf 45 = .ok (.goto (-32), 3) := by decide +kernel
theorem dX12_asksOf_48 : decode cX12_asksOf 48 = .ok (.iconst 0, 1) := by decide +kernel
theorem dX12_asksOf_49 : decode cX12_asksOf 49 = .ok (.istore_n 3, 1) := by decide +kernel
theorem dX12_asksOf_50 : decode cX12_asksOf 50 = .ok (.iload_n 3, 1) := by decide +kernel
theorem dX12_asksOf_51 : decode cX12_asksOf 51 = .ok (.aload_n 0, 1) := by decide +kernel
theorem dX12_asksOf_52 : decode cX12_asksOf 52 = .ok (.getfield 34, 3) := by decide +kernel
theorem dX12_asksOf_55 : decode cX12_asksOf 55 = .ok (.iconst 4, 1) := by decide +kernel
theorem dX12_asksOf_56 : decode cX12_asksOf 56 = .ok (.iaload, 1) := by decide +kernel
theorem dX12_asksOf_57 : decode cX12_asksOf 57 = .ok (.if_icmp .ge 119, 3) := by decide +kernel
theorem dX12_asksOf_60 : decode cX12_asksOf 60 = .ok (.iconst 0, 1) := by decide +kernel
theorem dX12_asksOf_61 : decode cX12_asksOf 61 = .ok (.istore 4, 2) := by decide +kernel
theorem dX12_asksOf_63 : decode cX12_asksOf 63 = .ok (.iconst 0, 1) := by decide +kernel
theorem dX12_asksOf_64 : decode cX12_asksOf 64 = .ok (.istore 5, 2) := by decide +kernel
theorem dX12_asksOf_66 : decode cX12_asksOf 66 = .ok (.iload 5, 2) := by decide +kernel
theorem dX12_asksOf_68 : decode cX12_asksOf 68 = .ok (.aload_n 0, 1) := by decide +kernel
theorem dX12_asksOf_69 : decode cX12_asksOf 69 = .ok (.getfield 34, 3) := by decide +kernel
theorem dX12_asksOf_72 : decode cX12_asksOf 72 = .ok (.iconst 3, 1) := by decide +kernel
theorem dX12_asksOf_73 : decode cX12_asksOf 73 = .ok (.iaload, 1) := by decide +kernel
theorem dX12_asksOf_74 : decode cX12_asksOf 74 = .ok (.if_icmp .ge 76, 3) := by decide +kernel
theorem dX12_asksOf_77 : decode cX12_asksOf 77 = .ok (.iconst 0, 1) := by decide +kernel
theorem dX12_asksOf_78 : decode cX12_asksOf 78 = .ok (.istore 6, 2) := by decide +kernel
theorem dX12_asksOf_80 : decode cX12_asksOf 80 = .ok (.iconst 0, 1) := by decide +kernel
theorem dX12_asksOf_81 : decode cX12_asksOf 81 = .ok (.istore 7, 2) := by decide +kernel
theorem dX12_asksOf_83 : decode cX12_asksOf 83 = .ok (.iload 7, 2) := by decide +kernel
theorem dX12_asksOf_85 : decode cX12_asksOf 85 = .ok (.bipush 60, 2) := by decide +kernel
theorem dX12_asksOf_87 : decode cX12_asksOf 87 = .ok (.if_icmp .ge 41, 3) := by decide +kernel
theorem dX12_asksOf_90 : decode cX12_asksOf 90 = .ok (.iload 6, 2) := by decide +kernel
theorem dX12_asksOf_92 : decode cX12_asksOf 92 = .ok (.aload_n 0, 1) := by decide +kernel
theorem dX12_asksOf_93 : decode cX12_asksOf 93 = .ok (.iload_n 1, 1) := by decide +kernel
theorem dX12_asksOf_94 : decode cX12_asksOf 94 = .ok (.iload 7, 2) := by decide +kernel
theorem dX12_asksOf_96 : decode cX12_asksOf 96 = .ok (.invokevirtual 389, 3) := by decide +kernel
theorem dX12_asksOf_99 : decode cX12_asksOf 99 = .ok (.ifCond .eq 19, 3) := by decide +kernel
theorem dX12_asksOf_102 : decode cX12_asksOf 102 = .ok (.aload_n 0, 1) := by decide +kernel
theorem dX12_asksOf_103 : decode cX12_asksOf 103 = .ok (.iload_n 3, 1) := by decide +kernel
theorem dX12_asksOf_104 : decode cX12_asksOf 104 = .ok (.iload 7, 2) := by decide +kernel
theorem dX12_asksOf_106 : decode cX12_asksOf 106 = .ok (.invokevirtual 267, 3) := by decide +kernel
theorem dX12_asksOf_109 : decode cX12_asksOf 109 = .ok (.iload 5, 2) := by decide +kernel
theorem dX12_asksOf_111 : decode cX12_asksOf 111 = .ok (.if_icmp .ne 7, 3) := by decide +kernel
theorem dX12_asksOf_114 : decode cX12_asksOf 114 = .ok (.iconst 1, 1) := by decide +kernel
theorem dX12_asksOf_115 : decode cX12_asksOf 115 = .ok (.goto 4, 3) := by decide +kernel
theorem dX12_asksOf_118 : decode cX12_asksOf 118 = .ok (.iconst 0, 1) := by decide +kernel
theorem dX12_asksOf_119 : decode cX12_asksOf 119 = .ok (.iadd, 1) := by decide +kernel
theorem dX12_asksOf_120 : decode cX12_asksOf 120 = .ok (.istore 6, 2) := by decide +kernel
theorem dX12_asksOf_122 : decode cX12_asksOf 122 = .ok (.iinc 7 1, 3) := by decide +kernel
theorem dX12_asksOf_125 : decode cX12_asksOf 125 = .ok (.goto (-42), 3) := by decide +kernel
theorem dX12_asksOf_128 : decode cX12_asksOf 128 = .ok (.iload 6, 2) := by decide +kernel
theorem dX12_asksOf_130 : decode cX12_asksOf 130 = .ok (.iload 4, 2) := by decide +kernel
theorem dX12_asksOf_132 : decode cX12_asksOf 132 = .ok (.if_icmp .le 8, 3) := by decide +kernel
theorem dX12_asksOf_135 : decode cX12_asksOf 135 = .ok (.iload 6, 2) := by decide +kernel
theorem dX12_asksOf_137 : decode cX12_asksOf 137 = .ok (.goto 5, 3) := by decide +kernel
theorem dX12_asksOf_140 : decode cX12_asksOf 140 = .ok (.iload 4, 2) := by decide +kernel
theorem dX12_asksOf_142 : decode cX12_asksOf 142 = .ok (.istore 4, 2) := by decide +kernel
theorem dX12_asksOf_144 : decode cX12_asksOf 144 = .ok (.iinc 5 1, 3) := by decide +kernel
theorem dX12_asksOf_147 : decode cX12_asksOf 147 = .ok (.goto (-81), 3) := by decide +kernel
theorem dX12_asksOf_150 : decode cX12_asksOf 150 = .ok (.iload 4, 2) := by decide +kernel
theorem dX12_asksOf_152 : decode cX12_asksOf 152 = .ok (.aload_n 0, 1) := by decide +kernel
theorem dX12_asksOf_153 : decode cX12_asksOf 153 = .ok (.getfield 392, 3) := by decide +kernel
theorem dX12_asksOf_156 : decode cX12_asksOf 156 = .ok (.if_icmp .lt 6, 3) := by decide +kernel
theorem dX12_asksOf_159 : decode cX12_asksOf 159 = .ok (.goto 11, 3) := by decide +kernel
theorem dX12_asksOf_162 : decode cX12_asksOf 162 = .ok (.iload_n 3, 1) := by decide +kernel
theorem dX12_asksOf_163 : decode cX12_asksOf 163 = .ok (.istore_n 2, 1) := by decide +kernel
theorem dX12_asksOf_164 : decode cX12_asksOf 164 = .ok (.aload_n 0, 1) := by decide +kernel
theorem dX12_asksOf_165 : decode cX12_asksOf 165 = .ok (.iload 4, 2) := by decide +kernel
theorem dX12_asksOf_167 : decode cX12_asksOf 167 = .ok (.putfield 392, 3) := by decide +kernel
theorem dX12_asksOf_170 : decode cX12_asksOf 170 = .ok (.iinc 3 1, 3) := by decide +kernel
theorem dX12_asksOf_173 : decode cX12_asksOf 173 = .ok (.goto (-123), 3) := by decide +kernel
theorem dX12_asksOf_176 : decode cX12_asksOf 176 = .ok (.iload_n 2, 1) := by decide +kernel
theorem dX12_asksOf_177 : decode cX12_asksOf 177 = .ok (.ireturn, 1) := by decide +kernel
theorem dX12_at_0 : decode cX12_at 0 = .ok (.aload_n 0, 1) := by decide +kernel
theorem dX12_at_1 : decode cX12_at 1 = .ok (.iconst 0, 1) := by decide +kernel
theorem dX12_at_2 : decode cX12_at 2 = .ok (.putfield 74, 3) := by decide +kernel
theorem dX12_at_5 : decode cX12_at 5 = .ok (.aload_n 0, 1) := by decide +kernel
theorem dX12_at_6 : decode cX12_at 6 = .ok (.iload_n 1, 1) := by decide +kernel
theorem dX12_at_7 : decode cX12_at 7 = .ok (.i2l, 1) := by decide +kernel
theorem dX12_at_8 : decode cX12_at 8 = .ok (.invokevirtual 250, 3) := by decide +kernel
theorem dX12_at_11 : decode cX12_at 11 = .ok (.ifCond .eq 11, 3) := by decide +kernel
theorem dX12_at_14 : decode cX12_at 14 = .ok (.aload_n 0, 1) := by decide +kernel
theorem dX12_at_15 : decode cX12_at 15 = .ok (.iload_n 2, 1) := by decide +kernel
theorem dX12_at_16 : decode cX12_at 16 = .ok (.invokevirtual 273, 3) := by decide +kernel
theorem dX12_at_19 : decode cX12_at 19 = .ok (.ifCond .ne 6, 3) := by decide +kernel
theorem dX12_at_22 : decode cX12_at 22 = .ok (.bipush (-2), 2) := by decide +kernel
theorem dX12_at_24 : decode cX12_at 24 = .ok (.ireturn, 1) := by decide +kernel
theorem dX12_at_25 : decode cX12_at 25 = .ok (.aload_n 0, 1) := by decide +kernel
theorem dX12_at_26 : decode cX12_at 26 = .ok (.invokevirtual 276, 3) := by decide +kernel
theorem dX12_at_29 : decode cX12_at 29 = .ok (.aload_n 0, 1) := by decide +kernel
theorem dX12_at_30 : decode cX12_at 30 = .ok (.iload_n 1, 1) := by decide +kernel
theorem dX12_at_31 : decode cX12_at 31 = .ok (.iload_n 2, 1) := by decide +kernel
theorem dX12_at_32 : decode cX12_at 32 = .ok (.invokevirtual 267, 3) := by decide +kernel
theorem dX12_at_35 : decode cX12_at 35 = .ok (.ireturn, 1) := by decide +kernel
theorem dX12_back_0 : decode cX12_back 0 = .ok (.aload_n 0, 1) := by decide +kernel
theorem dX12_back_1 : decode cX12_back 1 = .ok (.iconst 0, 1) := by decide +kernel
theorem dX12_back_2 : decode cX12_back 2 = .ok (.putfield 74, 3) := by decide +kernel
theorem dX12_back_5 : decode cX12_back 5 = .ok (.iload_n 1, 1) := by decide +kernel
theorem dX12_back_6 : decode cX12_back 6 = .ok (.i2l, 1) := by decide +kernel
theorem dX12_back_7 : decode cX12_back 7 = .ok (.lconst 0, 1) := by decide +kernel
theorem dX12_back_8 : decode cX12_back 8 = .ok (.ldc2_w 453, 3) := by decide +kernel
theorem dX12_back_11 : decode cX12_back 11 = .ok (.invokestatic 79, 3) := by decide +kernel
theorem dX12_back_14 : decode cX12_back 14 = .ok (.ifCond .ne 6, 3) := by decide +kernel
theorem dX12_back_17 : decode cX12_back 17 = .ok (.bipush (-2), 2) := by decide +kernel
theorem dX12_back_19 : decode cX12_back 19 = .ok (.ireturn, 1) := by decide +kernel
theorem dX12_back_20 : decode cX12_back 20 = .ok (.aload_n 0, 1) := by decide +kernel
theorem dX12_back_21 : decode cX12_back 21 = .ok (.getfield 50, 3) := by decide +kernel
theorem dX12_back_24 : decode cX12_back 24 = .ok (.iload_n 1, 1) := by decide +kernel
theorem dX12_back_25 : decode cX12_back 25 = .ok (.baload, 1) := by decide +kernel
theorem dX12_back_26 : decode cX12_back 26 = .ok (.ifCond .ne 6, 3) := by decide +kernel
theorem dX12_back_29 : decode cX12_back 29 = .ok (.bipush (-6), 2) := by decide +kernel
theorem dX12_back_31 : decode cX12_back 31 = .ok (.ireturn, 1) := by decide +kernel
theorem dX12_back_32 : decode cX12_back 32 = .ok (.aload_n 0, 1) := by decide +kernel
theorem dX12_back_33 : decode cX12_back 33 = .ok (.iconst 1, 1) := by decide +kernel
theorem dX12_back_34 : decode cX12_back 34 = .ok (.iload_n 1, 1) := by decide +kernel
theorem dX12_back_35 : decode cX12_back 35 = .ok (.iadd, 1) := by decide +kernel
theorem dX12_back_36 : decode cX12_back 36 = .ok (.iconst 0, 1) := by decide +kernel
theorem dX12_back_37 : decode cX12_back 37 = .ok (.invokevirtual 226, 3) := by decide +kernel
theorem dX12_back_40 : decode cX12_back 40 = .ok (.iconst 0, 1) := by decide +kernel
theorem dX12_back_41 : decode cX12_back 41 = .ok (.ireturn, 1) := by decide +kernel
theorem dX12_begins_0 : decode cX12_begins 0 = .ok (.aload_n 0, 1) := by decide +kernel
theorem dX12_begins_1 : decode cX12_begins 1 = .ok (.iconst 0, 1) := by decide +kernel
theorem dX12_begins_2 : decode cX12_begins 2 = .ok (.putfield 126, 3) := by decide +kernel
theorem dX12_begins_5 : decode cX12_begins 5 = .ok (.aload_n 0, 1) := by decide +kernel
theorem dX12_begins_6 : decode cX12_begins 6 = .ok (.iconst (-1), 1) := by decide +kernel
theorem dX12_begins_7 : decode cX12_begins 7 = .ok (.putfield 129, 3) := by decide +kernel
theorem dX12_begins_10 : decode cX12_begins 10 = .ok (.aload_n 0, 1) := by decide +kernel
theorem dX12_begins_11 : decode cX12_begins 11 = .ok (.iconst 0, 1) := by decide +kernel
theorem dX12_begins_12 : decode cX12_begins 12 = .ok (.putfield 98, 3) := by decide +kernel
theorem dX12_begins_15 : decode cX12_begins 15 = .ok (.aload_n 0, 1) := by decide +kernel
theorem dX12_begins_16 : decode cX12_begins 16 = .ok (.invokevirtual 136, 3) := by decide +kernel
theorem dX12_begins_19 : decode cX12_begins 19 = .ok (.return_, 1) := by decide +kernel
theorem dX12_behind_0 : decode cX12_behind 0 = .ok (.aload_n 0, 1) := by decide +kernel
theorem dX12_behind_1 : decode cX12_behind 1 = .ok (.iconst 0, 1) := by decide +kernel
theorem dX12_behind_2 : decode cX12_behind 2 = .ok (.putfield 74, 3) := by decide +kernel
theorem dX12_behind_5 : decode cX12_behind 5 = .ok (.aload_n 0, 1) := by decide +kernel
theorem dX12_behind_6 : decode cX12_behind 6 = .ok (.iload_n 1, 1) := by decide +kernel
theorem dX12_behind_7 : decode cX12_behind 7 = .ok (.i2l, 1) := by decide +kernel
theorem dX12_behind_8 : decode cX12_behind 8 = .ok (.invokevirtual 250, 3) := by decide +kernel
theorem dX12_behind_11 : decode cX12_behind 11 = .ok (.ifCond .eq 11, 3) := by decide +kernel
theorem dX12_behind_14 : decode cX12_behind 14 = .ok (.aload_n 0, 1) := by decide +kernel
theorem dX12_behind_15 : decode cX12_behind 15 = .ok (.iload_n 2, 1) := by decide +kernel
theorem dX12_behind_16 : decode cX12_behind 16 = .ok (.invokevirtual 273, 3) := by decide +kernel
theorem dX12_behind_19 : decode cX12_behind 19 = .ok (.ifCond .ne 6, 3) := by decide +kernel
theorem dX12_behind_22 : decode cX12_behind 22 = .ok (.bipush (-2), 2) := by decide +kernel
theorem dX12_behind_24 : decode cX12_behind 24 = .ok (.ireturn, 1) := by decide +kernel
theorem dX12_behind_25 : decode cX12_behind 25 = .ok (.aload_n 0, 1) := by decide +kernel
theorem dX12_behind_26 : decode cX12_behind 26 = .ok (.invokevirtual 276, 3) := by decide +kernel
theorem dX12_behind_29 : decode cX12_behind 29 = .ok (.aload_n 0, 1) := by decide +kernel
theorem dX12_behind_30 : decode cX12_behind 30 = .ok (.iload_n 1, 1) := by decide +kernel
theorem dX12_behind_31 : decode cX12_behind 31 = .ok (.iload_n 2, 1) := by decide +kernel
theorem dX12_behind_32 : decode cX12_behind 32 = .ok (.invokevirtual 282, 3) := by decide +kernel
theorem dX12_behind_35 : decode cX12_behind 35 = .ok (.ireturn, 1) := by decide +kernel
theorem dX12_behindOf_0 : decode cX12_behindOf 0 = .ok (.aload_n 0, 1) := by decide +kernel
theorem dX12_behindOf_1 : decode cX12_behindOf 1 = .ok (.aload_n 0, 1) := by decide +kernel
theorem dX12_behindOf_2 : decode cX12_behindOf 2 = .ok (.iload_n 1, 1) := by decide +kernel
theorem dX12_behindOf_3 : decode cX12_behindOf 3 = .ok (.iload_n 2, 1) := by decide +kernel
theorem dX12_behindOf_4 : decode cX12_behindOf 4 = .ok (.invokevirtual 267, 3) := by decide +kernel
theorem dX12_behindOf_7 : decode cX12_behindOf 7 = .ok (.iconst 2, 1) := by decide +kernel
theorem dX12_behindOf_8 : decode cX12_behindOf 8 = .ok (.invokevirtual 244, 3) := by decide +kernel
theorem dX12_behindOf_11 : decode cX12_behindOf 11 = .ok (.ireturn, 1) := by decide +kernel
theorem dX12_beside_0 : decode cX12_beside 0 = .ok (.iload_n 1, 1) := by decide +kernel
theorem dX12_beside_1 : decode cX12_beside 1 = .ok (.bipush 6, 2) := by decide +kernel
theorem dX12_beside_3 : decode cX12_beside 3 = .ok (.idiv, 1) := by decide +kernel
theorem dX12_beside_4 : decode cX12_beside 4 = .ok (.iload_n 2, 1) := by decide +kernel
theorem dX12_beside_5 : decode cX12_beside 5 = .ok (.iconst 1, 1) := by decide +kernel
theorem dX12_beside_6 : decode cX12_beside 6 = .ok (.if_icmp .ne 7, 3) := by decide +kernel
theorem dX12_beside_9 : decode cX12_beside 9 = .ok (.iconst (-1), 1) := by decide +kernel
theorem dX12_beside_10 : decode cX12_beside 10 = .ok (.goto 13, 3) := by decide +kernel
theorem dX12_beside_13 : decode cX12_beside 13 = .ok (.iload_n 2, 1) := by decide +kernel
theorem dX12_beside_14 : decode cX12_beside 14 = .ok (.iconst 2, 1) := by decide +kernel
theorem dX12_beside_15 : decode cX12_beside 15 = .ok (.if_icmp .ne 7, 3) := by decide +kernel
theorem dX12_beside_18 : decode cX12_beside 18 = .ok (.iconst 1, 1) := by decide +kernel
theorem dX12_beside_19 : decode cX12_beside 19 = .ok (.goto 4, 3) := by decide +kernel
theorem dX12_beside_22 : decode cX12_beside 22 = .ok (.iconst 0, 1) := by decide +kernel
theorem dX12_beside_23 : decode cX12_beside 23 = .ok (.iadd, 1) := by decide +kernel
theorem dX12_beside_24 : decode cX12_beside 24 = .ok (.istore_n 3, 1) := by decide +kernel
theorem dX12_beside_25 : decode cX12_beside 25 = .ok (.iload_n 1, 1) := by decide +kernel
theorem dX12_beside_26 : decode cX12_beside 26 = .ok (.bipush 6, 2) := by decide +kernel
theorem dX12_beside_28 : decode cX12_beside 28 = .ok (.irem, 1) := by decide +kernel
theorem dX12_beside_29 : decode cX12_beside 29 = .ok (.iload_n 2, 1) := by decide +kernel
theorem dX12_beside_30 : decode cX12_beside 30 = .ok (.iconst 3, 1) := by decide +kernel
theorem dX12_beside_31 : decode cX12_beside 31 = .ok (.if_icmp .ne 7, 3) := by decide +kernel
theorem dX12_beside_34 : decode cX12_beside 34 = .ok (.iconst (-1), 1) := by decide +kernel
theorem dX12_beside_35 : decode cX12_beside 35 = .ok (.goto 13, 3) := by decide +kernel
theorem dX12_beside_38 : decode cX12_beside 38 = .ok (.iload_n 2, 1) := by decide +kernel
theorem dX12_beside_39 : decode cX12_beside 39 = .ok (.iconst 4, 1) := by decide +kernel
theorem dX12_beside_40 : decode cX12_beside 40 = .ok (.if_icmp .ne 7, 3) := by decide +kernel
theorem dX12_beside_43 : decode cX12_beside 43 = .ok (.iconst 1, 1) := by decide +kernel
theorem dX12_beside_44 : decode cX12_beside 44 = .ok (.goto 4, 3) := by decide +kernel
theorem dX12_beside_47 : decode cX12_beside 47 = .ok (.iconst 0, 1) := by decide +kernel
theorem dX12_beside_48 : decode cX12_beside 48 = .ok (.iadd, 1) := by decide +kernel
theorem dX12_beside_49 : decode cX12_beside 49 = .ok (.istore 4, 2) := by decide +kernel
theorem dX12_beside_51 : decode cX12_beside 51 = .ok (.aload_n 0, 1) := by decide +kernel
theorem dX12_beside_52 : decode cX12_beside 52 = .ok (.iload_n 3, 1) := by decide +kernel
theorem dX12_beside_53 : decode cX12_beside 53 = .ok (.i2l, 1) := by decide +kernel
theorem dX12_beside_54 : decode cX12_beside 54 = .ok (.iload 4, 2) := by decide +kernel
theorem dX12_beside_56 : decode cX12_beside 56 = .ok (.i2l, 1) := by decide +kernel
theorem dX12_beside_57 : decode cX12_beside 57 = .ok (.invokevirtual 253, 3) := by decide +kernel
theorem dX12_beside_60 : decode cX12_beside 60 = .ok (.ifCond .eq 13, 3) := by decide +kernel
theorem dX12_beside_63 : decode cX12_beside 63 = .ok (.bipush 6, 2) := by decide +kernel
theorem dX12_beside_65 : decode cX12_beside 65 = .ok (.iload_n 3, 1) := by decide +kernel
theorem dX12_beside_66 : decode cX12_beside 66 = .ok (.imul, 1) := by decide +kernel
theorem dX12_beside_67 : decode cX12_beside 67 = .ok (.iload 4, 2) := by decide +kernel
theorem dX12_beside_69 : decode cX12_beside 69 = .ok (.iadd, 1) := by decide +kernel
theorem dX12_beside_70 : decode cX12_beside 70 = .ok (.goto 4, 3) := by decide +kernel
theorem dX12_beside_73 : decode cX12_beside 73 = .ok (.iconst (-1), 1) := by decide +kernel
theorem dX12_beside_74 : decode cX12_beside 74 = .ok (.ireturn, 1) := by decide +kernel
theorem dX12_best_0 : decode cX12_best 0 = .ok (.aload_n 0, 1) := by decide +kernel
theorem dX12_best_1 : decode cX12_best 1 = .ok (.iconst 0, 1) := by decide +kernel
theorem dX12_best_2 : decode cX12_best 2 = .ok (.putfield 74, 3) := by decide +kernel
theorem dX12_best_5 : decode cX12_best 5 = .ok (.aload_n 0, 1) := by decide +kernel
theorem dX12_best_6 : decode cX12_best 6 = .ok (.iload_n 1, 1) := by decide +kernel
theorem dX12_best_7 : decode cX12_best 7 = .ok (.invokevirtual 273, 3) := by decide +kernel
theorem dX12_best_10 : decode cX12_best 10 = .ok (.ifCond .ne 6, 3) := by decide +kernel
theorem dX12_best_13 : decode cX12_best 13 = .ok (.bipush (-2), 2) := by decide +kernel
theorem dX12_best_15 : decode cX12_best 15 = .ok (.ireturn, 1) := by decide +kernel
theorem dX12_best_16 : decode cX12_best 16 = .ok (.aload_n 0, 1) := by decide +kernel
theorem dX12_best_17 : decode cX12_best 17 = .ok (.invokevirtual 276, 3) := by decide +kernel
theorem dX12_best_20 : decode cX12_best 20 = .ok (.iconst (-1), 1) := by decide +kernel
theorem dX12_best_21 : decode cX12_best 21 = .ok (.istore_n 2, 1) := by decide +kernel
theorem dX12_best_22 : decode cX12_best 22 = .ok (.sipush 10000, 3) := by decide +kernel
theorem dX12_best_25 : decode cX12_best 25 = .ok (.istore_n 3, 1) := by decide +kernel
theorem dX12_best_26 : decode cX12_best 26 = .ok (.iconst 0, 1) := by decide +kernel
theorem dX12_best_27 : decode cX12_best 27 = .ok (.istore 4, 2) := by decide +kernel
theorem dX12_best_29 : decode cX12_best 29 = .ok (.iload 4, 2) := by decide +kernel
theorem dX12_best_31 : decode cX12_best 31 = .ok (.aload_n 0, 1) := by decide +kernel
theorem dX12_best_32 : decode cX12_best 32 = .ok (.getfield 34, 3) := by decide +kernel
theorem dX12_best_35 : decode cX12_best 35 = .ok (.iconst 0, 1) := by decide +kernel
theorem dX12_best_36 : decode cX12_best 36 = .ok (.iaload, 1) := by decide +kernel
theorem dX12_best_37 : decode cX12_best 37 = .ok (.if_icmp .ge 67, 3) := by decide +kernel
theorem dX12_best_40 : decode cX12_best 40 = .ok (.iconst 0, 1) := by decide +kernel
theorem dX12_best_41 : decode cX12_best 41 = .ok (.istore 5, 2) := by decide +kernel
theorem dX12_best_43 : decode cX12_best 43 = .ok (.iload 5, 2) := by decide +kernel
theorem dX12_best_45 : decode cX12_best 45 = .ok (.aload_n 0, 1) := by decide +kernel
theorem dX12_best_46 : decode cX12_best 46 = .ok (.getfield 34, 3) := by decide +kernel
theorem dX12_best_49 : decode cX12_best 49 = .ok (.iconst 1, 1) := by decide +kernel
theorem dX12_best_50 : decode cX12_best 50 = .ok (.iaload, 1) := by decide +kernel
theorem dX12_best_51 : decode cX12_best 51 = .ok (.if_icmp .ge 47, 3) := by decide +kernel
theorem dX12_best_54 : decode cX12_best 54 = .ok (.aload_n 0, 1) := by decide +kernel
theorem dX12_best_55 : decode cX12_best 55 = .ok (.iload 4, 2) := by decide +kernel
theorem dX12_best_57 : decode cX12_best 57 = .ok (.iload 5, 2) := by decide +kernel
theorem dX12_best_59 : decode cX12_best 59 = .ok (.iload_n 1, 1) := by decide +kernel
theorem dX12_best_60 : decode cX12_best 60 = .ok (.invokevirtual 311, 3) := by decide +kernel
theorem dX12_best_63 : decode cX12_best 63 = .ok (.istore 6, 2) := by decide +kernel
theorem dX12_best_65 : decode cX12_best 65 = .ok (.iload 6, 2) := by decide +kernel
theorem dX12_best_67 : decode cX12_best 67 = .ok (.iconst (-1), 1) := by decide +kernel
theorem dX12_best_68 : decode cX12_best 68 = .ok (.if_icmp .eq 24, 3) := by decide +kernel
theorem dX12_best_71 : decode cX12_best 71 = .ok (.iload 6, 2) := by decide +kernel
theorem dX12_best_73 : decode cX12_best 73 = .ok (.iload_n 3, 1) := by decide +kernel
theorem dX12_best_74 : decode cX12_best 74 = .ok (.if_icmp .lt 6, 3) := by decide +kernel
theorem dX12_best_77 : decode cX12_best 77 = .ok (.goto 15, 3) := by decide +kernel
theorem dX12_best_80 : decode cX12_best 80 = .ok (.bipush 10, 2) := by decide +kernel
theorem dX12_best_82 : decode cX12_best 82 = .ok (.iload 4, 2) := by decide +kernel
theorem dX12_best_84 : decode cX12_best 84 = .ok (.imul, 1) := by decide +kernel
theorem dX12_best_85 : decode cX12_best 85 = .ok (.iload 5, 2) := by decide +kernel
theorem dX12_best_87 : decode cX12_best 87 = .ok (.iadd, 1) := by decide +kernel
theorem dX12_best_88 : decode cX12_best 88 = .ok (.istore_n 2, 1) := by decide +kernel
theorem dX12_best_89 : decode cX12_best 89 = .ok (.iload 6, 2) := by decide +kernel
theorem dX12_best_91 : decode cX12_best 91 = .ok (.istore_n 3, 1) := by decide +kernel
theorem dX12_best_92 : decode cX12_best 92 = .ok (.iinc 5 1, 3) := by decide +kernel
theorem dX12_best_95 : decode cX12_best 95 = .ok (.goto (-52), 3) := by decide +kernel
theorem dX12_best_98 : decode cX12_best 98 = .ok (.iinc 4 1, 3) := by decide +kernel
theorem dX12_best_101 : decode cX12_best 101 = .ok (.goto (-72), 3) := by decide +kernel
theorem dX12_best_104 : decode cX12_best 104 = .ok (.iload_n 2, 1) := by decide +kernel
theorem dX12_best_105 : decode cX12_best 105 = .ok (.ireturn, 1) := by decide +kernel
theorem dX12_between_0 : decode cX12_between 0 = .ok (.iload_n 0, 1) := by decide +kernel
theorem dX12_between_1 : decode cX12_between 1 = .ok (.iload_n 1, 1) := by decide +kernel
theorem dX12_between_2 : decode cX12_between 2 = .ok (.if_icmp .ge 9, 3) := by decide +kernel
theorem dX12_between_5 : decode cX12_between 5 = .ok (.iload_n 1, 1) := by decide +kernel
theorem dX12_between_6 : decode cX12_between 6 = .ok (.iload_n 0, 1) := by decide +kernel
theorem dX12_between_7 : decode cX12_between 7 = .ok (.isub, 1) := by decide +kernel
theorem dX12_between_8 : decode cX12_between 8 = .ok (.goto 6, 3) := by decide +kernel
theorem dX12_between_11 : decode cX12_between 11 = .ok (.iload_n 0, 1) := by decide +kernel
theorem dX12_between_12 : decode cX12_between 12 = .ok (.iload_n 1, 1) := by decide +kernel
theorem dX12_between_13 : decode cX12_between 13 = .ok (.isub, 1) := by decide +kernel
theorem dX12_between_14 : decode cX12_between 14 = .ok (.ireturn, 1) := by decide +kernel
theorem dX12_blind_0 : decode cX12_blind 0 = .ok (.aload_n 0, 1) := by decide +kernel
theorem dX12_blind_1 : decode cX12_blind 1 = .ok (.iconst 0, 1) := by decide +kernel
theorem dX12_blind_2 : decode cX12_blind 2 = .ok (.putfield 74, 3) := by decide +kernel
theorem dX12_blind_5 : decode cX12_blind 5 = .ok (.aload_n 0, 1) := by decide +kernel
theorem dX12_blind_6 : decode cX12_blind 6 = .ok (.iload_n 1, 1) := by decide +kernel
theorem dX12_blind_7 : decode cX12_blind 7 = .ok (.i2l, 1) := by decide +kernel
theorem dX12_blind_8 : decode cX12_blind 8 = .ok (.iload_n 2, 1) := by decide +kernel
theorem dX12_blind_9 : decode cX12_blind 9 = .ok (.i2l, 1) := by decide +kernel
theorem dX12_blind_10 : decode cX12_blind 10 = .ok (.invokevirtual 253, 3) := by decide +kernel
theorem dX12_blind_13 : decode cX12_blind 13 = .ok (.ifCond .eq 24, 3) := by decide +kernel
theorem dX12_blind_16 : decode cX12_blind 16 = .ok (.iload_n 3, 1) := by decide +kernel
theorem dX12_blind_17 : decode cX12_blind 17 = .ok (.i2l, 1) := by decide +kernel
theorem dX12_blind_18 : decode cX12_blind 18 = .ok (.lconst 1, 1) := by decide +kernel
theorem dX12_blind_19 : decode cX12_blind 19 = .ok (.ldc2_w 363, 3) := by decide +kernel
theorem dX12_blind_22 : decode cX12_blind 22 = .ok (.invokestatic 79, 3) := by decide +kernel
theorem dX12_blind_25 : decode cX12_blind 25 = .ok (.ifCond .eq 12, 3) := by decide +kernel
theorem dX12_blind_28 : decode cX12_blind 28 = .ok (.aload_n 0, 1) := by decide +kernel
theorem dX12_blind_29 : decode cX12_blind 29 = .ok (.getfield 34, 3) := by decide +kernel
theorem dX12_blind_32 : decode cX12_blind 32 = .ok (.iconst 3, 1) := by decide +kernel
theorem dX12_blind_33 : decode cX12_blind 33 = .ok (.iaload, 1) := by decide +kernel
theorem dX12_blind_34 : decode cX12_blind 34 = .ok (.ifCond .ne 6, 3) := by decide +kernel
theorem dX12_blind_37 : decode cX12_blind 37 = .ok (.bipush (-2), 2) := by decide +kernel
theorem dX12_blind_39 : decode cX12_blind 39 = .ok (.ireturn, 1) := by decide +kernel
theorem dX12_blind_40 : decode cX12_blind 40 = .ok (.aload_n 0, 1) := by decide +kernel
theorem dX12_blind_41 : decode cX12_blind 41 = .ok (.invokevirtual 276, 3) := by decide +kernel
theorem dX12_blind_44 : decode cX12_blind 44 = .ok (.aload_n 0, 1) := by decide +kernel
theorem dX12_blind_45 : decode cX12_blind 45 = .ok (.iload_n 1, 1) := by decide +kernel
theorem dX12_blind_46 : decode cX12_blind 46 = .ok (.iload_n 2, 1) := by decide +kernel
theorem dX12_blind_47 : decode cX12_blind 47 = .ok (.iload_n 3, 1) := by decide +kernel
theorem dX12_blind_48 : decode cX12_blind 48 = .ok (.invokevirtual 413, 3) := by decide +kernel
theorem dX12_blind_51 : decode cX12_blind 51 = .ok (.ireturn, 1) := by decide +kernel
theorem dX12_blindOf_0 : decode cX12_blindOf 0 = .ok (.sipush 10000, 3) := by decide +kernel
theorem dX12_blindOf_3 : decode cX12_blindOf 3 = .ok (.istore 4, 2) := by decide +kernel
theorem dX12_blindOf_5 : decode cX12_blindOf 5 = .ok (.iconst 0, 1) := by decide +kernel
theorem dX12_blindOf_6 : decode cX12_blindOf 6 = .ok (.istore 5, 2) := by decide +kernel
theorem dX12_blindOf_8 : decode cX12_blindOf 8 = .ok (.iload 5, 2) := by decide +kernel
theorem dX12_blindOf_10 : decode cX12_blindOf 10 = .ok (.aload_n 0, 1) := by decide +kernel
theorem dX12_blindOf_11 : decode cX12_blindOf 11 = .ok (.getfield 34, 3) := by decide +kernel
theorem dX12_blindOf_14 : decode cX12_blindOf 14 = .ok (.iconst 3, 1) := by decide +kernel
theorem dX12_blindOf_15 : decode cX12_blindOf 15 = .ok (.iaload, 1) := by decide +kernel
theorem dX12_blindOf_16 : decode cX12_blindOf 16 = .ok (.if_icmp .ge 76, 3) := by decide +kernel
theorem dX12_blindOf_19 : decode cX12_blindOf 19 = .ok (.iconst 0, 1) := by decide +kernel
theorem dX12_blindOf_20 : decode cX12_blindOf 20 = .ok (.istore 6, 2) := by decide +kernel
theorem dX12_blindOf_22 : decode cX12_blindOf 22 = .ok (.iconst 0, 1) := by decide +kernel
theorem dX12_blindOf_23 : decode cX12_blindOf 23 = .ok (.istore 7, 2) := by decide +kernel
theorem dX12_blindOf_25 : decode cX12_blindOf 25 = .ok (.iload 7, 2) := by decide +kernel
theorem dX12_blindOf_27 : decode cX12_blindOf 27 = .ok (.iload_n 3, 1) := by decide +kernel
theorem dX12_blindOf_28 : decode cX12_blindOf 28 = .ok (.if_icmp .ge 38, 3) := by decide +kernel
theorem dX12_blindOf_31 : decode cX12_blindOf 31 = .ok (.iload 6, 2) := by decide +kernel
theorem dX12_blindOf_33 : decode cX12_blindOf 33 = .ok (.aload_n 0, 1) := by decide +kernel
theorem dX12_blindOf_34 : decode cX12_blindOf 34 = .ok (.iload 5, 2) := by decide +kernel
theorem dX12_blindOf_36 : decode cX12_blindOf 36 = .ok (.iload 7, 2) := by decide +kernel
theorem dX12_blindOf_38 : decode cX12_blindOf 38 = .ok (.invokevirtual 404, 3) := by decide +kernel
theorem dX12_blindOf_41 : decode cX12_blindOf 41 = .ok (.ifCond .eq 14, 3) := by decide +kernel
theorem dX12_blindOf_44 : decode cX12_blindOf 44 = .ok (.aload_n 0, 1) := by decide +kernel
theorem dX12_blindOf_45 : decode cX12_blindOf 45 = .ok (.iload_n 1, 1) := by decide +kernel
theorem dX12_blindOf_46 : decode cX12_blindOf 46 = .ok (.iload_n 2, 1) := by decide +kernel
theorem dX12_blindOf_47 : decode cX12_blindOf 47 = .ok (.iload 5, 2) := by decide +kernel
theorem dX12_blindOf_49 : decode cX12_blindOf 49 = .ok (.invokevirtual 303, 3) := by decide +kernel
theorem dX12_blindOf_52 : decode cX12_blindOf 52 = .ok (.goto 5, 3) := by decide +kernel
theorem dX12_blindOf_55 : decode cX12_blindOf 55 = .ok (.bipush 50, 2) := by decide +kernel
theorem dX12_blindOf_57 : decode cX12_blindOf 57 = .ok (.iadd, 1) := by decide +kernel
theorem dX12_blindOf_58 : decode cX12_blindOf 58 = .ok (.istore 6, 2) := by decide +kernel
theorem dX12_blindOf_60 : decode cX12_blindOf 60 = .ok (.iinc 7 1, 3) := by decide +kernel
theorem dX12_blindOf_63 : decode cX12_blindOf 63 = .ok (.goto (-38), 3) := by decide +kernel
theorem dX12_blindOf_66 : decode cX12_blindOf 66 = .ok (.iload 6, 2) := by decide +kernel
theorem dX12_blindOf_68 : decode cX12_blindOf 68 = .ok (.iload 4, 2) := by decide +kernel
theorem dX12_blindOf_70 : decode cX12_blindOf 70 = .ok (.if_icmp .lt 6, 3) := by decide +kernel
theorem dX12_blindOf_73 : decode cX12_blindOf 73 = .ok (.goto 13, 3) := by decide +kernel
theorem dX12_blindOf_76 : decode cX12_blindOf 76 = .ok (.iload 6, 2) := by decide +kernel
theorem dX12_blindOf_78 : decode cX12_blindOf 78 = .ok (.istore 4, 2) := by decide +kernel
theorem dX12_blindOf_80 : decode cX12_blindOf 80 = .ok (.aload_n 0, 1) := by decide +kernel
theorem dX12_blindOf_81 : decode cX12_blindOf 81 = .ok (.iload 5, 2) := by decide +kernel
theorem dX12_blindOf_83 : decode cX12_blindOf 83 = .ok (.putfield 407, 3) := by decide +kernel
theorem dX12_blindOf_86 : decode cX12_blindOf 86 = .ok (.iinc 5 1, 3) := by decide +kernel
theorem dX12_blindOf_89 : decode cX12_blindOf 89 = .ok (.goto (-81), 3) := by decide +kernel
theorem dX12_blindOf_92 : decode cX12_blindOf 92 = .ok (.iload 4, 2) := by decide +kernel
theorem dX12_blindOf_94 : decode cX12_blindOf 94 = .ok (.ireturn, 1) := by decide +kernel
theorem dX12_breaks_0 : decode cX12_breaks 0 = .ok (.aload_n 0, 1) := by decide +kernel
theorem dX12_breaks_1 : decode cX12_breaks 1 = .ok (.iconst 0, 1) := by decide +kernel
theorem dX12_breaks_2 : decode cX12_breaks 2 = .ok (.putfield 74, 3) := by decide +kernel
theorem dX12_breaks_5 : decode cX12_breaks 5 = .ok (.aload_n 0, 1) := by decide +kernel
theorem dX12_breaks_6 : decode cX12_breaks 6 = .ok (.iload_n 1, 1) := by decide +kernel
theorem dX12_breaks_7 : decode cX12_breaks 7 = .ok (.invokevirtual 273, 3) := by decide +kernel
theorem dX12_breaks_10 : decode cX12_breaks 10 = .ok (.ifCond .ne 6, 3) := by decide +kernel
theorem dX12_breaks_13 : decode cX12_breaks 13 = .ok (.bipush (-2), 2) := by decide +kernel
theorem dX12_breaks_15 : decode cX12_breaks 15 = .ok (.ireturn, 1) := by decide +kernel
theorem dX12_breaks_16 : decode cX12_breaks 16 = .ok (.aload_n 0, 1) := by decide +kernel
theorem dX12_breaks_17 : decode cX12_breaks 17 = .ok (.invokevirtual 276, 3) := by decide +kernel
theorem dX12_breaks_20 : decode cX12_breaks 20 = .ok (.iload_n 1, 1) := by decide +kernel
theorem dX12_breaks_21 : decode cX12_breaks 21 = .ok (.istore_n 2, 1) := by decide +kernel
theorem dX12_breaks_22 : decode cX12_breaks 22 = .ok (.iload_n 2, 1) := by decide +kernel
theorem dX12_breaks_23 : decode cX12_breaks 23 = .ok (.bipush 60, 2) := by decide +kernel
theorem dX12_breaks_25 : decode cX12_breaks 25 = .ok (.if_icmp .ge 19, 3) := by decide +kernel
theorem dX12_breaks_28 : decode cX12_breaks 28 = .ok (.aload_n 0, 1) := by decide +kernel
theorem dX12_breaks_29 : decode cX12_breaks 29 = .ok (.iload_n 2, 1) := by decide +kernel
theorem dX12_breaks_30 : decode cX12_breaks 30 = .ok (.invokevirtual 320, 3) := by decide +kernel
theorem dX12_breaks_33 : decode cX12_breaks 33 = .ok (.ifCond .ne 5, 3) := by decide +kernel
theorem dX12_breaks_36 : decode cX12_breaks 36 = .ok (.iload_n 2, 1) := by decide +kernel
theorem dX12_breaks_37 : decode cX12_breaks 37 = .ok (.ireturn, 1) := by decide +kernel
theorem dX12_breaks_38 : decode cX12_breaks 38 = .ok (.iinc 2 1, 3) := by decide +kernel
theorem dX12_breaks_41 : decode cX12_breaks 41 = .ok (.goto (-19), 3) := by decide +kernel
theorem dX12_breaks_44 : decode cX12_breaks 44 = .ok (.iconst (-1), 1) := by decide +kernel
theorem dX12_breaks_45 : decode cX12_breaks 45 = .ok (.ireturn, 1) := by decide +kernel
theorem dX12_by_0 : decode cX12_by 0 = .ok (.aload_n 0, 1) := by decide +kernel
theorem dX12_by_1 : decode cX12_by 1 = .ok (.iconst 0, 1) := by decide +kernel
theorem dX12_by_2 : decode cX12_by 2 = .ok (.putfield 74, 3) := by decide +kernel
theorem dX12_by_5 : decode cX12_by 5 = .ok (.aload_n 0, 1) := by decide +kernel
theorem dX12_by_6 : decode cX12_by 6 = .ok (.iload_n 1, 1) := by decide +kernel
theorem dX12_by_7 : decode cX12_by 7 = .ok (.i2l, 1) := by decide +kernel
theorem dX12_by_8 : decode cX12_by 8 = .ok (.iload_n 2, 1) := by decide +kernel
theorem dX12_by_9 : decode cX12_by 9 = .ok (.i2l, 1) := by decide +kernel
theorem dX12_by_10 : decode cX12_by 10 = .ok (.invokevirtual 253, 3) := by decide +kernel
theorem dX12_by_13 : decode cX12_by 13 = .ok (.ifCond .eq 11, 3) := by decide +kernel
theorem dX12_by_16 : decode cX12_by 16 = .ok (.aload_n 0, 1) := by decide +kernel
theorem dX12_by_17 : decode cX12_by 17 = .ok (.iload_n 3, 1) := by decide +kernel
theorem dX12_by_18 : decode cX12_by 18 = .ok (.invokevirtual 273, 3) := by decide +kernel
theorem dX12_by_21 : decode cX12_by 21 = .ok (.ifCond .ne 6, 3) := by decide +kernel
theorem dX12_by_24 : decode cX12_by 24 = .ok (.bipush (-2), 2) := by decide +kernel
theorem dX12_by_26 : decode cX12_by 26 = .ok (.ireturn, 1) := by decide +kernel
theorem dX12_by_27 : decode cX12_by 27 = .ok (.aload_n 0, 1) := by decide +kernel
theorem dX12_by_28 : decode cX12_by 28 = .ok (.invokevirtual 276, 3) := by decide +kernel
theorem dX12_by_31 : decode cX12_by 31 = .ok (.aload_n 0, 1) := by decide +kernel
theorem dX12_by_32 : decode cX12_by 32 = .ok (.iload_n 1, 1) := by decide +kernel
theorem dX12_by_33 : decode cX12_by 33 = .ok (.iload_n 2, 1) := by decide +kernel
theorem dX12_by_34 : decode cX12_by 34 = .ok (.iload_n 3, 1) := by decide +kernel
theorem dX12_by_35 : decode cX12_by 35 = .ok (.iconst 1, 1) := by decide +kernel
theorem dX12_by_36 : decode cX12_by 36 = .ok (.invokevirtual 307, 3) := by decide +kernel
theorem dX12_by_39 : decode cX12_by 39 = .ok (.ireturn, 1) := by decide +kernel
theorem dX12_calmest_0 : decode cX12_calmest 0 = .ok (.aload_n 0, 1) := by decide +kernel
theorem dX12_calmest_1 : decode cX12_calmest 1 = .ok (.iconst 0, 1) := by decide +kernel
theorem dX12_calmest_2 : decode cX12_calmest 2 = .ok (.putfield 74, 3) := by decide +kernel
theorem dX12_calmest_5 : decode cX12_calmest 5 = .ok (.aload_n 0, 1) := by decide +kernel
theorem dX12_calmest_6 : decode cX12_calmest 6 = .ok (.invokevirtual 237, 3) := by decide +kernel
theorem dX12_calmest_9 : decode cX12_calmest 9 = .ok (.ifCond .eq 15, 3) := by decide +kernel
theorem dX12_calmest_12 : decode cX12_calmest 12 = .ok (.iload_n 1, 1) := by decide +kernel
theorem dX12_calmest_13 : decode cX12_calmest 13 = .ok (.i2l, 1) := by decide +kernel
theorem dX12_calmest_14 : decode cX12_calmest 14 = .ok (.lconst 1, 1) := by decide +kernel
theorem dX12_calmest_15 : decode cX12_calmest 15 = .ok (.ldc2_w 363, 3) := by decide +kernel
theorem dX12_calmest_18 : decode cX12_calmest 18 = .ok (.invokestatic 79, 3) := by decide +kernel
theorem dX12_calmest_21 : decode cX12_calmest 21 = .ok (.ifCond .ne 6, 3) := by decide +kernel
theorem dX12_calmest_24 : decode cX12_calmest 24 = .ok (.bipush (-2), 2) := by decide +kernel
theorem dX12_calmest_26 : decode cX12_calmest 26 = .ok (.ireturn, 1) := by decide +kernel
theorem dX12_calmest_27 : decode cX12_calmest 27 = .ok (.aload_n 0, 1) := by decide +kernel
theorem dX12_calmest_28 : decode cX12_calmest 28 = .ok (.invokevirtual 276, 3) := by decide +kernel
theorem dX12_calmest_31 : decode cX12_calmest 31 = .ok (.iconst 0, 1) := by decide +kernel
theorem dX12_calmest_32 : decode cX12_calmest 32 = .ok (.istore_n 2, 1) := by decide +kernel
theorem dX12_calmest_33 : decode cX12_calmest 33 = .ok (.iconst 1, 1) := by decide +kernel
theorem dX12_calmest_34 : decode cX12_calmest 34 = .ok (.istore_n 3, 1) := by decide +kernel
theorem dX12_calmest_35 : decode cX12_calmest 35 = .ok (.iload_n 3, 1) := by decide +kernel
theorem dX12_calmest_36 : decode cX12_calmest 36 = .ok (.iload_n 1, 1) := by decide +kernel
theorem dX12_calmest_37 : decode cX12_calmest 37 = .ok (.if_icmp .ge 24, 3) := by decide +kernel
theorem dX12_calmest_40 : decode cX12_calmest 40 = .ok (.aload_n 0, 1) := by decide +kernel
theorem dX12_calmest_41 : decode cX12_calmest 41 = .ok (.iload_n 3, 1) := by decide +kernel
theorem dX12_calmest_42 : decode cX12_calmest 42 = .ok (.invokevirtual 379, 3) := by decide +kernel
theorem dX12_calmest_45 : decode cX12_calmest 45 = .ok (.aload_n 0, 1) := by decide +kernel
theorem dX12_calmest_46 : decode cX12_calmest 46 = .ok (.iload_n 2, 1) := by decide +kernel
theorem dX12_calmest_47 : decode cX12_calmest 47 = .ok (.invokevirtual 379, 3) := by decide +kernel
theorem dX12_calmest_50 : decode cX12_calmest 50 = .ok (.if_icmp .ge 5, 3) := by decide +kernel
theorem dX12_calmest_53 : decode cX12_calmest 53 = .ok (.iload_n 3, 1) := by decide +kernel
theorem dX12_calmest_54 : decode cX12_calmest 54 = .ok (.istore_n 2, 1) := by decide +kernel
theorem dX12_calmest_55 : decode cX12_calmest 55 = .ok (.iinc 3 1, 3) := by decide +kernel
theorem dX12_calmest_58 : decode cX12_calmest 58 = .ok (.goto (-23), 3) := by decide +kernel
theorem dX12_calmest_61 : decode cX12_calmest 61 = .ok (.iload_n 2, 1) := by decide +kernel
theorem dX12_calmest_62 : decode cX12_calmest 62 = .ok (.ireturn, 1) := by decide +kernel
theorem dX12_cellOf_0 : decode cX12_cellOf 0 = .ok (.aload_n 0, 1) := by decide +kernel
theorem dX12_cellOf_1 : decode cX12_cellOf 1 = .ok (.getfield 16, 3) := by decide +kernel
theorem dX12_cellOf_4 : decode cX12_cellOf 4 = .ok (.bipush 60, 2) := by decide +kernel
theorem dX12_cellOf_6 : decode cX12_cellOf 6 = .ok (.iload_n 1, 1) := by decide +kernel
theorem dX12_cellOf_7 : decode cX12_cellOf 7 = .ok (.imul, 1) := by decide +kernel
theorem dX12_cellOf_8 : decode cX12_cellOf 8 = .ok (.iload_n 2, 1) := by decide +kernel
theorem dX12_cellOf_9 : decode cX12_cellOf 9 = .ok (.iadd, 1) := by decide +kernel
theorem dX12_cellOf_10 : decode cX12_cellOf 10 = .ok (.laload, 1) := by decide +kernel
theorem dX12_cellOf_11 : decode cX12_cellOf 11 = .ok (.lreturn, 1) := by decide +kernel
theorem dX12_changes_0 : decode cX12_changes 0 = .ok (.iconst 4, 1) := by decide +kernel
theorem dX12_changes_1 : decode cX12_changes 1 = .ok (.aload_n 0, 1) := by decide +kernel
theorem dX12_changes_2 : decode cX12_changes 2 = .ok (.getfield 34, 3) := by decide +kernel
theorem dX12_changes_5 : decode cX12_changes 5 = .ok (.iconst 5, 1) := by decide +kernel
theorem dX12_changes_6 : decode cX12_changes 6 = .ok (.iaload, 1) := by decide +kernel
theorem dX12_changes_7 : decode cX12_changes 7 = .ok (.imul, 1) := by decide +kernel
theorem dX12_changes_8 : decode cX12_changes 8 = .ok (.istore 5, 2) := by decide +kernel
theorem dX12_changes_10 : decode cX12_changes 10 = .ok (.aload_n 0, 1) := by decide +kernel
theorem dX12_changes_11 : decode cX12_changes 11 = .ok (.getfield 47, 3) := by decide +kernel
theorem dX12_changes_14 : decode cX12_changes 14 = .ok (.iload 5, 2) := by decide +kernel
theorem dX12_changes_16 : decode cX12_changes 16 = .ok (.iload_n 1, 1) := by decide +kernel
theorem dX12_changes_17 : decode cX12_changes 17 = .ok (.iastore, 1) := by decide +kernel
theorem dX12_changes_18 : decode cX12_changes 18 = .ok (.aload_n 0, 1) := by decide +kernel
theorem dX12_changes_19 : decode cX12_changes 19 = .ok (.getfield 47, 3) := by decide +kernel
theorem dX12_changes_22 : decode cX12_changes 22 = .ok (.iload 5, 2) := by decide +kernel
theorem dX12_changes_24 : decode cX12_changes 24 = .ok (.iconst 1, 1) := by decide +kernel
theorem dX12_changes_25 : decode cX12_changes 25 = .ok (.iadd, 1) := by decide +kernel
theorem dX12_changes_26 : decode cX12_changes 26 = .ok (.iload_n 2, 1) := by decide +kernel
theorem dX12_changes_27 : decode cX12_changes 27 = .ok (.iastore, 1) := by decide +kernel
theorem dX12_changes_28 : decode cX12_changes 28 = .ok (.aload_n 0, 1) := by decide +kernel
theorem dX12_changes_29 : decode cX12_changes 29 = .ok (.getfield 47, 3) := by decide +kernel
theorem dX12_changes_32 : decode cX12_changes 32 = .ok (.iload 5, 2) := by decide +kernel
theorem dX12_changes_34 : decode cX12_changes 34 = .ok (.iconst 2, 1) := by decide +kernel
theorem dX12_changes_35 : decode cX12_changes 35 = .ok (.iadd, 1) := by decide +kernel
theorem dX12_changes_36 : decode cX12_changes 36 = .ok (.iload_n 3, 1) := by decide +kernel
theorem dX12_changes_37 : decode cX12_changes 37 = .ok (.iastore, 1) := by decide +kernel
theorem dX12_changes_38 : decode cX12_changes 38 = .ok (.aload_n 0, 1) := by decide +kernel
theorem dX12_changes_39 : decode cX12_changes 39 = .ok (.getfield 47, 3) := by decide +kernel
theorem dX12_changes_42 : decode cX12_changes 42 = .ok (.iload 5, 2) := by decide +kernel
theorem dX12_changes_44 : decode cX12_changes 44 = .ok (.iconst 3, 1) := by decide +kernel
theorem dX12_changes_45 : decode cX12_changes 45 = .ok (.iadd, 1) := by decide +kernel
theorem dX12_changes_46 : decode cX12_changes 46 = .ok (.iload 4, 2) := by decide +kernel
theorem dX12_changes_48 : decode cX12_changes 48 = .ok (.iastore, 1) := by decide +kernel
theorem dX12_changes_49 : decode cX12_changes 49 = .ok (.aload_n 0, 1) := by decide +kernel
theorem dX12_changes_50 : decode cX12_changes 50 = .ok (.getfield 34, 3) := by decide +kernel
theorem dX12_changes_53 : decode cX12_changes 53 = .ok (.iconst 5, 1) := by decide +kernel
theorem dX12_changes_54 : decode cX12_changes 54 = .ok (.dup2, 1) := by decide +kernel
theorem dX12_changes_55 : decode cX12_changes 55 = .ok (.iaload, 1) := by decide +kernel
theorem dX12_changes_56 : decode cX12_changes 56 = .ok (.iconst 1, 1) := by decide +kernel
theorem dX12_changes_57 : decode cX12_changes 57 = .ok (.iadd, 1) := by decide +kernel
theorem dX12_changes_58 : decode cX12_changes 58 = .ok (.iastore, 1) := by decide +kernel
theorem dX12_changes_59 : decode cX12_changes 59 = .ok (.return_, 1) := by decide +kernel
theorem dX12_claque_0 : decode cX12_claque 0 = .ok (.aload_n 0, 1) := by decide +kernel
theorem dX12_claque_1 : decode cX12_claque 1 = .ok (.iconst 0, 1) := by decide +kernel
theorem dX12_claque_2 : decode cX12_claque 2 = .ok (.putfield 74, 3) := by decide +kernel
theorem dX12_claque_5 : decode cX12_claque 5 = .ok (.aload_n 0, 1) := by decide +kernel
theorem dX12_claque_6 : decode cX12_claque 6 = .ok (.iload_n 1, 1) := by decide +kernel
theorem dX12_claque_7 : decode cX12_claque 7 = .ok (.i2l, 1) := by decide +kernel
theorem dX12_claque_8 : decode cX12_claque 8 = .ok (.invokevirtual 250, 3) := by decide +kernel
theorem dX12_claque_11 : decode cX12_claque 11 = .ok (.ifCond .eq 11, 3) := by decide +kernel
theorem dX12_claque_14 : decode cX12_claque 14 = .ok (.aload_n 0, 1) := by decide +kernel
theorem dX12_claque_15 : decode cX12_claque 15 = .ok (.iload_n 2, 1) := by decide +kernel
theorem dX12_claque_16 : decode cX12_claque 16 = .ok (.invokevirtual 273, 3) := by decide +kernel
theorem dX12_claque_19 : decode cX12_claque 19 = .ok (.ifCond .ne 6, 3) := by decide +kernel
theorem dX12_claque_22 : decode cX12_claque 22 = .ok (.bipush (-2), 2) := by decide +kernel
theorem dX12_claque_24 : decode cX12_claque 24 = .ok (.ireturn, 1) := by decide +kernel
theorem dX12_claque_25 : decode cX12_claque 25 = .ok (.aload_n 0, 1) := by decide +kernel
theorem dX12_claque_26 : decode cX12_claque 26 = .ok (.iload_n 1, 1) := by decide +kernel
theorem dX12_claque_27 : decode cX12_claque 27 = .ok (.iload_n 2, 1) := by decide +kernel
theorem dX12_claque_28 : decode cX12_claque 28 = .ok (.invokevirtual 425, 3) := by decide +kernel
theorem dX12_claque_31 : decode cX12_claque 31 = .ok (.aload_n 0, 1) := by decide +kernel
theorem dX12_claque_32 : decode cX12_claque 32 = .ok (.getfield 419, 3) := by decide +kernel
theorem dX12_claque_35 : decode cX12_claque 35 = .ok (.ireturn, 1) := by decide +kernel
theorem dX12_claques_0 : decode cX12_claques 0 = .ok (.aload_n 0, 1) := by decide +kernel
theorem dX12_claques_1 : decode cX12_claques 1 = .ok (.invokevirtual 276, 3) := by decide +kernel
theorem dX12_claques_4 : decode cX12_claques 4 = .ok (.aload_n 0, 1) := by decide +kernel
theorem dX12_claques_5 : decode cX12_claques 5 = .ok (.iconst (-1), 1) := by decide +kernel
theorem dX12_claques_6 : decode cX12_claques 6 = .ok (.putfield 419, 3) := by decide +kernel
theorem dX12_claques_9 : decode cX12_claques 9 = .ok (.aload_n 0, 1) := by decide +kernel
theorem dX12_claques_10 : decode cX12_claques 10 = .ok (.iconst (-1), 1) := by decide +kernel
theorem dX12_claques_11 : decode cX12_claques 11 = .ok (.putfield 422, 3) := by decide +kernel
theorem dX12_claques_14 : decode cX12_claques 14 = .ok (.iconst 0, 1) := by decide +kernel
theorem dX12_claques_15 : decode cX12_claques 15 = .ok (.istore_n 3, 1) := by decide +kernel
theorem dX12_claques_16 : decode cX12_claques 16 = .ok (.iload_n 3, 1) := by decide +kernel
theorem dX12_claques_17 : decode cX12_claques 17 = .ok (.bipush 60, 2) := by decide +kernel
theorem dX12_claques_19 : decode cX12_claques 19 = .ok (.if_icmp .ge 61, 3) := by decide +kernel
theorem dX12_claques_22 : decode cX12_claques 22 = .ok (.iload_n 1, 1) := by decide +kernel
theorem dX12_claques_23 : decode cX12_claques 23 = .ok (.iload_n 3, 1) := by decide +kernel
theorem dX12_claques_24 : decode cX12_claques 24 = .ok (.iadd, 1) := by decide +kernel
theorem dX12_claques_25 : decode cX12_claques 25 = .ok (.aload_n 0, 1) := by decide +kernel
theorem dX12_claques_26 : decode cX12_claques 26 = .ok (.getfield 34, 3) := by decide +kernel
theorem dX12_claques_29 : decode cX12_claques 29 = .ok (.iconst 4, 1) := by decide +kernel
theorem dX12_claques_30 : decode cX12_claques 30 = .ok (.iaload, 1) := by decide +kernel
theorem dX12_claques_31 : decode cX12_claques 31 = .ok (.irem, 1) := by decide +kernel
theorem dX12_claques_32 : decode cX12_claques 32 = .ok (.istore 4, 2) := by decide +kernel
theorem dX12_claques_34 : decode cX12_claques 34 = .ok (.iload_n 2, 1) := by decide +kernel
theorem dX12_claques_35 : decode cX12_claques 35 = .ok (.iload_n 3, 1) := by decide +kernel
theorem dX12_claques_36 : decode cX12_claques 36 = .ok (.iadd, 1) := by decide +kernel
theorem dX12_claques_37 : decode cX12_claques 37 = .ok (.bipush 60, 2) := by decide +kernel
theorem dX12_claques_39 : decode cX12_claques 39 = .ok (.irem, 1) := by decide +kernel
theorem dX12_claques_40 : decode cX12_claques 40 = .ok (.istore 5, 2) := by decide +kernel
theorem dX12_claques_42 : decode cX12_claques 42 = .ok (.aload_n 0, 1) := by decide +kernel
theorem dX12_claques_43 : decode cX12_claques 43 = .ok (.iload 4, 2) := by decide +kernel
theorem dX12_claques_45 : decode cX12_claques 45 = .ok (.iload 5, 2) := by decide +kernel
theorem dX12_claques_47 : decode cX12_claques 47 = .ok (.invokevirtual 300, 3) := by decide +kernel
theorem dX12_claques_50 : decode cX12_claques 50 = .ok (.ifCond .ne 6, 3) := by decide +kernel
theorem dX12_claques_53 : decode cX12_claques 53 = .ok (.goto 21, 3) := by decide +kernel
theorem dX12_claques_56 : decode cX12_claques 56 = .ok (.aload_n 0, 1) := by decide +kernel
theorem dX12_claques_57 : decode cX12_claques 57 = .ok (.iload_n 3, 1) := by decide +kernel
theorem dX12_claques_58 : decode cX12_claques 58 = .ok (.putfield 419, 3) := by decide +kernel
theorem dX12_claques_61 : decode cX12_claques 61 = .ok (.aload_n 0, 1) := by decide +kernel
theorem dX12_claques_62 : decode cX12_claques 62 = .ok (.aload_n 0, 1) := by decide +kernel
theorem dX12_claques_63 : decode cX12_claques 63 = .ok (.iload 4, 2) := by decide +kernel
theorem dX12_claques_65 : decode cX12_claques 65 = .ok (.iload 5, 2) := by decide +kernel
theorem dX12_claques_67 : decode cX12_claques 67 = .ok (.invokevirtual 267, 3) := by decide +kernel
theorem dX12_claques_70 : decode cX12_claques 70 = .ok (.putfield 422, 3) := by decide +kernel
theorem dX12_claques_73 : decode cX12_claques 73 = .ok (.return_, 1) := by decide +kernel
theorem dX12_claques_74 : decode cX12_claques 74 = .ok (.iinc 3 1, 3) := by decide +kernel
theorem dX12_claques_77 : decode cX12_claques 77 = .ok (.goto (-61), 3) := by decide +kernel
theorem dX12_claques_80 : decode cX12_claques 80 = .ok (.return_, 1) := by decide +kernel
theorem dX12_clears_0 : decode cX12_clears 0 = .ok (.aload_n 0, 1) := by decide +kernel
theorem dX12_clears_1 : decode cX12_clears 1 = .ok (.getfield 31, 3) := by decide +kernel
theorem dX12_clears_4 : decode cX12_clears 4 = .ok (.iconst 4, 1) := by decide +kernel
theorem dX12_clears_5 : decode cX12_clears 5 = .ok (.iconst 0, 1) := by decide +kernel
theorem dX12_clears_6 : decode cX12_clears 6 = .ok (.iastore, 1) := by decide +kernel
theorem dX12_clears_7 : decode cX12_clears 7 = .ok (.iconst 0, 1) := by decide +kernel
theorem dX12_clears_8 : decode cX12_clears 8 = .ok (.istore_n 1, 1) := by decide +kernel
theorem dX12_clears_9 : decode cX12_clears 9 = .ok (.iload_n 1, 1) := by decide +kernel
theorem dX12_clears_10 : decode cX12_clears 10 = .ok (.bipush 6, 2) := by decide +kernel
theorem dX12_clears_12 : decode cX12_clears 12 = .ok (.if_icmp .ge 19, 3) := by decide +kernel
theorem dX12_clears_15 : decode cX12_clears 15 = .ok (.aload_n 0, 1) := by decide +kernel
theorem dX12_clears_16 : decode cX12_clears 16 = .ok (.getfield 34, 3) := by decide +kernel
theorem dX12_clears_19 : decode cX12_clears 19 = .ok (.bipush 24, 2) := by decide +kernel
theorem dX12_clears_21 : decode cX12_clears 21 = .ok (.iload_n 1, 1) := by decide +kernel
theorem dX12_clears_22 : decode cX12_clears 22 = .ok (.iadd, 1) := by decide +kernel
theorem dX12_clears_23 : decode cX12_clears 23 = .ok (.iconst 0, 1) := by decide +kernel
theorem dX12_clears_24 : decode cX12_clears 24 = .ok (.iastore, 1) := by decide +kernel
theorem dX12_clears_25 : decode cX12_clears 25 = .ok (.iinc 1 1, 3) := by decide +kernel
theorem dX12_clears_28 : decode cX12_clears 28 = .ok (.goto (-19), 3) := by decide +kernel
theorem dX12_clears_31 : decode cX12_clears 31 = .ok (.iconst 0, 1) := by decide +kernel
theorem dX12_clears_32 : decode cX12_clears 32 = .ok (.istore_n 1, 1) := by decide +kernel
theorem dX12_clears_33 : decode cX12_clears 33 = .ok (.iload_n 1, 1) := by decide +kernel
theorem dX12_clears_34 : decode cX12_clears 34 = .ok (.bipush 36, 2) := by decide +kernel
theorem dX12_clears_36 : decode cX12_clears 36 = .ok (.if_icmp .ge 20, 3) := by decide +kernel
theorem dX12_clears_39 : decode cX12_clears 39 = .ok (.aload_n 0, 1) := by decide +kernel
theorem dX12_clears_40 : decode cX12_clears 40 = .ok (.getfield 43, 3) := by decide +kernel
theorem dX12_clears_43 : decode cX12_clears 43 = .ok (.sipush 144, 3) := by decide +kernel
theorem dX12_clears_46 : decode cX12_clears 46 = .ok (.iload_n 1, 1) := by decide +kernel
theorem dX12_clears_47 : decode cX12_clears 47 = .ok (.iadd, 1) := by decide +kernel
theorem dX12_clears_48 : decode cX12_clears 48 = .ok (.iconst 0, 1) := by decide +kernel
theorem dX12_clears_49 : decode cX12_clears 49 = .ok (.bastore, 1) := by decide +kernel
theorem dX12_clears_50 : decode cX12_clears 50 = .ok (.iinc 1 1, 3) := by decide +kernel
theorem dX12_clears_53 : decode cX12_clears 53 = .ok (.goto (-20), 3) := by decide +kernel
theorem dX12_clears_56 : decode cX12_clears 56 = .ok (.return_, 1) := by decide +kernel
theorem dX12_copyHall_0 : decode cX12_copyHall 0 = .ok (.aload_n 0, 1) := by decide +kernel
theorem dX12_copyHall_1 : decode cX12_copyHall 1 = .ok (.getfield 31, 3) := by decide +kernel
theorem dX12_copyHall_4 : decode cX12_copyHall 4 = .ok (.iconst 1, 1) := by decide +kernel
theorem dX12_copyHall_5 : decode cX12_copyHall 5 = .ok (.iload_n 1, 1) := by decide +kernel
theorem dX12_copyHall_6 : decode cX12_copyHall 6 = .ok (.iload_n 2, 1) := by decide +kernel
theorem dX12_copyHall_7 : decode cX12_copyHall 7 = .ok (.invokestatic 230, 3) := by decide +kernel
theorem dX12_copyHall_10 : decode cX12_copyHall 10 = .ok (.aload_n 0, 1) := by decide +kernel
theorem dX12_copyHall_11 : decode cX12_copyHall 11 = .ok (.getfield 34, 3) := by decide +kernel
theorem dX12_copyHall_14 : decode cX12_copyHall 14 = .ok (.bipush 6, 2) := by decide +kernel
theorem dX12_copyHall_16 : decode cX12_copyHall 16 = .ok (.iload_n 1, 1) := by decide +kernel
theorem dX12_copyHall_17 : decode cX12_copyHall 17 = .ok (.iload_n 2, 1) := by decide +kernel
theorem dX12_copyHall_18 : decode cX12_copyHall 18 = .ok (.invokestatic 230, 3) := by decide +kernel
theorem dX12_copyHall_21 : decode cX12_copyHall 21 = .ok (.aload_n 0, 1) := by decide +kernel
theorem dX12_copyHall_22 : decode cX12_copyHall 22 = .ok (.getfield 37, 3) := by decide +kernel
theorem dX12_copyHall_25 : decode cX12_copyHall 25 = .ok (.bipush 36, 2) := by decide +kernel
theorem dX12_copyHall_27 : decode cX12_copyHall 27 = .ok (.iload_n 1, 1) := by decide +kernel
theorem dX12_copyHall_28 : decode cX12_copyHall 28 = .ok (.iload_n 2, 1) := by decide +kernel
theorem dX12_copyHall_29 : decode cX12_copyHall 29 = .ok (.invokestatic 230, 3) := by decide +kernel
theorem dX12_copyHall_32 : decode cX12_copyHall 32 = .ok (.aload_n 0, 1) := by decide +kernel
theorem dX12_copyHall_33 : decode cX12_copyHall 33 = .ok (.getfield 40, 3) := by decide +kernel
theorem dX12_copyHall_36 : decode cX12_copyHall 36 = .ok (.bipush 28, 2) := by decide +kernel
theorem dX12_copyHall_38 : decode cX12_copyHall 38 = .ok (.iload_n 1, 1) := by decide +kernel
theorem dX12_copyHall_39 : decode cX12_copyHall 39 = .ok (.iload_n 2, 1) := by decide +kernel
theorem dX12_copyHall_40 : decode cX12_copyHall 40 = .ok (.invokestatic 230, 3) := by decide +kernel
theorem dX12_copyHall_43 : decode cX12_copyHall 43 = .ok (.aload_n 0, 1) := by decide +kernel
theorem dX12_copyHall_44 : decode cX12_copyHall 44 = .ok (.getfield 47, 3) := by decide +kernel
theorem dX12_copyHall_47 : decode cX12_copyHall 47 = .ok (.sipush 160, 3) := by decide +kernel
theorem dX12_copyHall_50 : decode cX12_copyHall 50 = .ok (.iload_n 1, 1) := by decide +kernel
theorem dX12_copyHall_51 : decode cX12_copyHall 51 = .ok (.iload_n 2, 1) := by decide +kernel
theorem dX12_copyHall_52 : decode cX12_copyHall 52 = .ok (.invokestatic 230, 3) := by decide +kernel
theorem dX12_copyHall_55 : decode cX12_copyHall 55 = .ok (.iconst 0, 1) := by decide +kernel
theorem dX12_copyHall_56 : decode cX12_copyHall 56 = .ok (.istore_n 3, 1) := by decide +kernel
theorem dX12_copyHall_57 : decode cX12_copyHall 57 = .ok (.iload_n 3, 1) := by decide +kernel
theorem dX12_copyHall_58 : decode cX12_copyHall 58 = .ok (.bipush 36, 2) := by decide +kernel
theorem dX12_copyHall_60 : decode cX12_copyHall 60 = .ok (.if_icmp .ge 31, 3) := by decide +kernel
theorem dX12_copyHall_63 : decode cX12_copyHall 63 = .ok (.aload_n 0, 1) := by decide +kernel
theorem dX12_copyHall_64 : decode cX12_copyHall 64 = .ok (.getfield 43, 3) := by decide +kernel
theorem dX12_copyHall_67 : decode cX12_copyHall 67 = .ok (.bipush 36, 2) := by decide +kernel
theorem dX12_copyHall_69 : decode cX12_copyHall 69 = .ok (.iload_n 2, 1) := by decide +kernel
theorem dX12_copyHall_70 : decode cX12_copyHall 70 = .ok (.imul, 1) := by decide +kernel
theorem dX12_copyHall_71 : decode cX12_copyHall 71 = .ok (.iload_n 3, 1) := by decide +kernel
theorem dX12_copyHall_72 : decode cX12_copyHall 72 = .ok (.iadd, 1) := by decide +kernel
theorem dX12_copyHall_73 : decode cX12_copyHall 73 = .ok (.aload_n 0, 1) := by decide +kernel
theorem dX12_copyHall_74 : decode cX12_copyHall 74 = .ok (.getfield 43, 3) := by decide +kernel
theorem dX12_copyHall_77 : decode cX12_copyHall 77 = .ok (.bipush 36, 2) := by decide +kernel
theorem dX12_copyHall_79 : decode cX12_copyHall 79 = .ok (.iload_n 1, 1) := by decide +kernel
theorem dX12_copyHall_80 : decode cX12_copyHall 80 = .ok (.imul, 1) := by decide +kernel
theorem dX12_copyHall_81 : decode cX12_copyHall 81 = .ok (.iload_n 3, 1) := by decide +kernel
theorem dX12_copyHall_82 : decode cX12_copyHall 82 = .ok (.iadd, 1) := by decide +kernel
theorem dX12_copyHall_83 : decode cX12_copyHall 83 = .ok (.baload, 1) := by decide +kernel
theorem dX12_copyHall_84 : decode cX12_copyHall 84 = .ok (.bastore, 1) := by decide +kernel
theorem dX12_copyHall_85 : decode cX12_copyHall 85 = .ok (.iinc 3 1, 3) := by decide +kernel
theorem dX12_copyHall_88 : decode cX12_copyHall 88 = .ok (.goto (-31), 3) := by decide +kernel
theorem dX12_copyHall_91 : decode cX12_copyHall 91 = .ok (.return_, 1) := by decide +kernel
theorem dX12_copyRow_0 : decode cX12_copyRow 0 = .ok (.iconst 0, 1) := by decide +kernel
theorem dX12_copyRow_1 : decode cX12_copyRow 1 = .ok (.istore 4, 2) := by decide +kernel
theorem dX12_copyRow_3 : decode cX12_copyRow 3 = .ok (.iload 4, 2) := by decide +kernel
theorem dX12_copyRow_5 : decode cX12_copyRow 5 = .ok (.iload_n 1, 1) := by decide +kernel
theorem dX12_copyRow_6 : decode cX12_copyRow 6 = .ok (.if_icmp .ge 25, 3) := by decide +kernel
theorem dX12_copyRow_9 : decode cX12_copyRow 9 = .ok (.aload_n 0, 1) := by decide +kernel
theorem dX12_copyRow_10 : decode cX12_copyRow 10 = .ok (.iload_n 1, 1) := by decide +kernel
theorem dX12_copyRow_11 : decode cX12_copyRow 11 = .ok (.iload_n 3, 1) := by decide +kernel
theorem dX12_copyRow_12 : decode cX12_copyRow 12 = .ok (.imul, 1) := by decide +kernel
theorem dX12_copyRow_13 : decode cX12_copyRow 13 = .ok (.iload 4, 2) := by decide +kernel
theorem dX12_copyRow_15 : decode cX12_copyRow 15 = .ok (.iadd, 1) := by decide +kernel
theorem dX12_copyRow_16 : decode cX12_copyRow 16 = .ok (.aload_n 0, 1) := by decide +kernel
theorem dX12_copyRow_17 : decode cX12_copyRow 17 = .ok (.iload_n 1, 1) := by decide +kernel
theorem dX12_copyRow_18 : decode cX12_copyRow 18 = .ok (.iload_n 2, 1) := by decide +kernel
theorem dX12_copyRow_19 : decode cX12_copyRow 19 = .ok (.imul, 1) := by decide +kernel
theorem dX12_copyRow_20 : decode cX12_copyRow 20 = .ok (.iload 4, 2) := by decide +kernel
theorem dX12_copyRow_22 : decode cX12_copyRow 22 = .ok (.iadd, 1) := by decide +kernel
theorem dX12_copyRow_23 : decode cX12_copyRow 23 = .ok (.iaload, 1) := by decide +kernel
theorem dX12_copyRow_24 : decode cX12_copyRow 24 = .ok (.iastore, 1) := by decide +kernel
theorem dX12_copyRow_25 : decode cX12_copyRow 25 = .ok (.iinc 4 1, 3) := by decide +kernel
theorem dX12_copyRow_28 : decode cX12_copyRow 28 = .ok (.goto (-25), 3) := by decide +kernel
theorem dX12_copyRow_31 : decode cX12_copyRow 31 = .ok (.return_, 1) := by decide +kernel
theorem dX12_count_0 : decode cX12_count 0 = .ok (.aload_n 0, 1) := by decide +kernel
theorem dX12_count_1 : decode cX12_count 1 = .ok (.iconst 0, 1) := by decide +kernel
theorem dX12_count_2 : decode cX12_count 2 = .ok (.putfield 74, 3) := by decide +kernel
theorem dX12_count_5 : decode cX12_count 5 = .ok (.iload_n 1, 1) := by decide +kernel
theorem dX12_count_6 : decode cX12_count 6 = .ok (.i2l, 1) := by decide +kernel
theorem dX12_count_7 : decode cX12_count 7 = .ok (.lconst 0, 1) := by decide +kernel
theorem dX12_count_8 : decode cX12_count 8 = .ok (.ldc2_w 242, 3) := by decide +kernel
theorem dX12_count_11 : decode cX12_count 11 = .ok (.invokestatic 79, 3) := by decide +kernel
theorem dX12_count_14 : decode cX12_count 14 = .ok (.ifCond .eq 10, 3) := by decide +kernel
theorem dX12_count_17 : decode cX12_count 17 = .ok (.aload_n 0, 1) := by decide +kernel
theorem dX12_count_18 : decode cX12_count 18 = .ok (.getfield 34, 3) := by decide +kernel
theorem dX12_count_21 : decode cX12_count 21 = .ok (.iload_n 1, 1) := by decide +kernel
theorem dX12_count_22 : decode cX12_count 22 = .ok (.iaload, 1) := by decide +kernel
theorem dX12_count_23 : decode cX12_count 23 = .ok (.ireturn, 1) := by decide +kernel
theorem dX12_count_24 : decode cX12_count 24 = .ok (.iconst 0, 1) := by decide +kernel
theorem dX12_count_25 : decode cX12_count 25 = .ok (.istore_n 2, 1) := by decide +kernel
theorem dX12_count_26 : decode cX12_count 26 = .ok (.iload_n 1, 1) := by decide +kernel
theorem dX12_count_27 : decode cX12_count 27 = .ok (.tableswitch 90 5 9 #[33, 38, 45, 52, 57], 33) := by decide +kernel
theorem dX12_count_60 : decode cX12_count 60 = .ok (.aload_n 0, 1) := by decide +kernel
theorem dX12_count_61 : decode cX12_count 61 = .ok (.invokevirtual 357, 3) := by decide +kernel
theorem dX12_count_64 : decode cX12_count 64 = .ok (.ireturn, 1) := by decide +kernel
theorem dX12_count_65 : decode cX12_count 65 = .ok (.aload_n 0, 1) := by decide +kernel
theorem dX12_count_66 : decode cX12_count 66 = .ok (.getfield 34, 3) := by decide +kernel
theorem dX12_count_69 : decode cX12_count 69 = .ok (.iconst 5, 1) := by decide +kernel
theorem dX12_count_70 : decode cX12_count 70 = .ok (.iaload, 1) := by decide +kernel
theorem dX12_count_71 : decode cX12_count 71 = .ok (.ireturn, 1) := by decide +kernel
theorem dX12_count_72 : decode cX12_count 72 = .ok (.aload_n 0, 1) := by decide +kernel
theorem dX12_count_73 : decode cX12_count 73 = .ok (.getfield 31, 3) := by decide +kernel
theorem dX12_count_76 : decode cX12_count 76 = .ok (.iconst 0, 1) := by decide +kernel
theorem dX12_count_77 : decode cX12_count 77 = .ok (.iaload, 1) := by decide +kernel
theorem dX12_count_78 : decode cX12_count 78 = .ok (.ireturn, 1) := by decide +kernel
theorem dX12_count_79 : decode cX12_count 79 = .ok (.aload_n 0, 1) := by decide +kernel
theorem dX12_count_80 : decode cX12_count 80 = .ok (.getfield 91, 3) := by decide +kernel
theorem dX12_count_83 : decode cX12_count 83 = .ok (.ireturn, 1) := by decide +kernel
theorem dX12_count_84 : decode cX12_count 84 = .ok (.iconst 0, 1) := by decide +kernel
theorem dX12_count_85 : decode cX12_count 85 = .ok (.istore_n 3, 1) := by decide +kernel
theorem dX12_count_86 : decode cX12_count 86 = .ok (.iload_n 3, 1) := by decide +kernel
theorem dX12_count_87 : decode cX12_count 87 = .ok (.iconst 4, 1) := by decide +kernel
theorem dX12_count_88 : decode cX12_count 88 = .ok (.if_icmp .ge 27, 3) := by decide +kernel
theorem dX12_count_91 : decode cX12_count 91 = .ok (.iload_n 2, 1) := by decide +kernel
theorem dX12_count_92 : decode cX12_count 92 = .ok (.aload_n 0, 1) := by decide +kernel
theorem dX12_count_93 : decode cX12_count 93 = .ok (.getfield 7, 3) := by decide +kernel
theorem dX12_count_96 : decode cX12_count 96 = .ok (.iload_n 3, 1) := by decide +kernel
theorem dX12_count_97 : decode cX12_count 97 = .ok (.iaload, 1) := by decide +kernel
theorem dX12_count_98 : decode cX12_count 98 = .ok (.iconst (-1), 1) := by decide +kernel
theorem dX12_count_99 : decode cX12_count 99 = .ok (.if_icmp .ne 7, 3) := by decide +kernel
theorem dX12_count_102 : decode cX12_count 102 = .ok (.iconst 0, 1) := by decide +kernel
theorem dX12_count_103 : decode cX12_count 103 = .ok (.goto 4, 3) := by decide +kernel
theorem dX12_count_106 : decode cX12_count 106 = .ok (.iconst 1, 1) := by decide +kernel
theorem dX12_count_107 : decode cX12_count 107 = .ok (.iadd, 1) := by decide +kernel
theorem dX12_count_108 : decode cX12_count 108 = .ok (.istore_n 2, 1) := by decide +kernel
theorem dX12_count_109 : decode cX12_count 109 = .ok (.iinc 3 1, 3) := by decide +kernel
theorem dX12_count_112 : decode cX12_count 112 = .ok (.goto (-26), 3) := by decide +kernel
theorem dX12_count_115 : decode cX12_count 115 = .ok (.iload_n 2, 1) := by decide +kernel
theorem dX12_count_116 : decode cX12_count 116 = .ok (.ireturn, 1) := by decide +kernel
theorem dX12_count_117 : decode cX12_count 117 = .ok (.iconst (-1), 1) := by decide +kernel
theorem dX12_count_118 : decode cX12_count 118 = .ok (.ireturn, 1) := by decide +kernel
theorem dX12_cut_0 : decode cX12_cut 0 = .ok (.iload_n 2, 1) := by decide +kernel
theorem dX12_cut_1 : decode cX12_cut 1 = .ok (.ifCond .ne 10, 3) := by decide +kernel
theorem dX12_cut_4 : decode cX12_cut 4 = .ok (.lload_n 0, 1) := by decide +kernel
theorem dX12_cut_5 : decode cX12_cut 5 = .ok (.l2i, 1) := by decide +kernel
theorem dX12_cut_6 : decode cX12_cut 6 = .ok (.i2b, 1) := by decide +kernel
theorem dX12_cut_7 : decode cX12_cut 7 = .ok (.i2l, 1) := by decide +kernel
theorem dX12_cut_8 : decode cX12_cut 8 = .ok (.goto 27, 3) := by decide +kernel
theorem dX12_cut_11 : decode cX12_cut 11 = .ok (.iload_n 2, 1) := by decide +kernel
theorem dX12_cut_12 : decode cX12_cut 12 = .ok (.iconst 1, 1) := by decide +kernel
theorem dX12_cut_13 : decode cX12_cut 13 = .ok (.if_icmp .ne 10, 3) := by decide +kernel
theorem dX12_cut_16 : decode cX12_cut 16 = .ok (.lload_n 0, 1) := by decide +kernel
theorem dX12_cut_17 : decode cX12_cut 17 = .ok (.l2i, 1) := by decide +kernel
theorem dX12_cut_18 : decode cX12_cut 18 = .ok (.i2s, 1) := by decide +kernel
theorem dX12_cut_19 : decode cX12_cut 19 = .ok (.i2l, 1) := by decide +kernel
theorem dX12_cut_20 : decode cX12_cut 20 = .ok (.goto 15, 3) := by decide +kernel
theorem dX12_cut_23 : decode cX12_cut 23 = .ok (.iload_n 2, 1) := by decide +kernel
theorem dX12_cut_24 : decode cX12_cut 24 = .ok (.iconst 2, 1) := by decide +kernel
theorem dX12_cut_25 : decode cX12_cut 25 = .ok (.if_icmp .ne 9, 3) := by decide +kernel
theorem dX12_cut_28 : decode cX12_cut 28 = .ok (.lload_n 0, 1) := by decide +kernel
theorem dX12_cut_29 : decode cX12_cut 29 = .ok (.l2i, 1) := by decide +kernel
theorem dX12_cut_30 : decode cX12_cut 30 = .ok (.i2l, 1) := by decide +kernel
theorem dX12_cut_31 : decode cX12_cut 31 = .ok (.goto 4, 3) := by decide +kernel
theorem dX12_cut_34 : decode cX12_cut 34 = .ok (.lload_n 0, 1) := by decide +kernel
theorem dX12_cut_35 : decode cX12_cut 35 = .ok (.lreturn, 1) := by decide +kernel
theorem dX12_danger_0 : decode cX12_danger 0 = .ok (.aload_n 0, 1) := by decide +kernel
theorem dX12_danger_1 : decode cX12_danger 1 = .ok (.iconst 0, 1) := by decide +kernel
theorem dX12_danger_2 : decode cX12_danger 2 = .ok (.putfield 74, 3) := by decide +kernel
theorem dX12_danger_5 : decode cX12_danger 5 = .ok (.aload_n 0, 1) := by decide +kernel
theorem dX12_danger_6 : decode cX12_danger 6 = .ok (.invokevirtual 237, 3) := by decide +kernel
theorem dX12_danger_9 : decode cX12_danger 9 = .ok (.ifCond .eq 11, 3) := by decide +kernel
theorem dX12_danger_12 : decode cX12_danger 12 = .ok (.iload_n 1, 1) := by decide +kernel
theorem dX12_danger_13 : decode cX12_danger 13 = .ok (.i2l, 1) := by decide +kernel
theorem dX12_danger_14 : decode cX12_danger 14 = .ok (.invokestatic 285, 3) := by decide +kernel
theorem dX12_danger_17 : decode cX12_danger 17 = .ok (.ifCond .ne 6, 3) := by decide +kernel
theorem dX12_danger_20 : decode cX12_danger 20 = .ok (.bipush (-2), 2) := by decide +kernel
theorem dX12_danger_22 : decode cX12_danger 22 = .ok (.ireturn, 1) := by decide +kernel
theorem dX12_danger_23 : decode cX12_danger 23 = .ok (.aload_n 0, 1) := by decide +kernel
theorem dX12_danger_24 : decode cX12_danger 24 = .ok (.invokevirtual 276, 3) := by decide +kernel
theorem dX12_danger_27 : decode cX12_danger 27 = .ok (.iconst 0, 1) := by decide +kernel
theorem dX12_danger_28 : decode cX12_danger 28 = .ok (.istore_n 2, 1) := by decide +kernel
theorem dX12_danger_29 : decode cX12_danger 29 = .ok (.iconst 1, 1) := by decide +kernel
theorem dX12_danger_30 : decode cX12_danger 30 = .ok (.istore_n 3, 1) := by decide +kernel
theorem dX12_danger_31 : decode cX12_danger 31 = .ok (.iload_n 3, 1) := by decide +kernel
theorem dX12_danger_32 : decode cX12_danger 32 = .ok (.bipush 60, 2) := by decide +kernel
theorem dX12_danger_34 : decode cX12_danger 34 = .ok (.if_icmp .ge 26, 3) := by decide +kernel
theorem dX12_danger_37 : decode cX12_danger 37 = .ok (.aload_n 0, 1) := by decide +kernel
theorem dX12_danger_38 : decode cX12_danger 38 = .ok (.iload_n 3, 1) := by decide +kernel
theorem dX12_danger_39 : decode cX12_danger 39 = .ok (.iload_n 1, 1) := by decide +kernel
theorem dX12_danger_40 : decode cX12_danger 40 = .ok (.invokevirtual 416, 3) := by decide +kernel
theorem dX12_danger_43 : decode cX12_danger 43 = .ok (.aload_n 0, 1) := by decide +kernel
theorem dX12_danger_44 : decode cX12_danger 44 = .ok (.iload_n 2, 1) := by decide +kernel
theorem dX12_danger_45 : decode cX12_danger 45 = .ok (.iload_n 1, 1) := by decide +kernel
theorem dX12_danger_46 : decode cX12_danger 46 = .ok (.invokevirtual 416, 3) := by decide +kernel
theorem dX12_danger_49 : decode cX12_danger 49 = .ok (.if_icmp .le 5, 3) := by decide +kernel
theorem dX12_danger_52 : decode cX12_danger 52 = .ok (.iload_n 3, 1) := by decide +kernel
theorem dX12_danger_53 : decode cX12_danger 53 = .ok (.istore_n 2, 1) := by decide +kernel
theorem dX12_danger_54 : decode cX12_danger 54 = .ok (.iinc 3 1, 3) := by decide +kernel
theorem dX12_danger_57 : decode cX12_danger 57 = .ok (.goto (-26), 3) := by decide +kernel
theorem dX12_danger_60 : decode cX12_danger 60 = .ok (.iload_n 2, 1) := by decide +kernel
theorem dX12_danger_61 : decode cX12_danger 61 = .ok (.ireturn, 1) := by decide +kernel
theorem dX12_doubles_0 : decode cX12_doubles 0 = .ok (.aload_n 0, 1) := by decide +kernel
theorem dX12_doubles_1 : decode cX12_doubles 1 = .ok (.iconst 0, 1) := by decide +kernel
theorem dX12_doubles_2 : decode cX12_doubles 2 = .ok (.putfield 74, 3) := by decide +kernel
theorem dX12_doubles_5 : decode cX12_doubles 5 = .ok (.aload_n 0, 1) := by decide +kernel
theorem dX12_doubles_6 : decode cX12_doubles 6 = .ok (.iload_n 1, 1) := by decide +kernel
theorem dX12_doubles_7 : decode cX12_doubles 7 = .ok (.invokevirtual 273, 3) := by decide +kernel
theorem dX12_doubles_10 : decode cX12_doubles 10 = .ok (.ifCond .ne 6, 3) := by decide +kernel
theorem dX12_doubles_13 : decode cX12_doubles 13 = .ok (.bipush (-2), 2) := by decide +kernel
theorem dX12_doubles_15 : decode cX12_doubles 15 = .ok (.ireturn, 1) := by decide +kernel
theorem dX12_doubles_16 : decode cX12_doubles 16 = .ok (.aload_n 0, 1) := by decide +kernel
theorem dX12_doubles_17 : decode cX12_doubles 17 = .ok (.invokevirtual 276, 3) := by decide +kernel
theorem dX12_doubles_20 : decode cX12_doubles 20 = .ok (.aload_n 0, 1) := by decide +kernel
theorem dX12_doubles_21 : decode cX12_doubles 21 = .ok (.iload_n 1, 1) := by decide +kernel
theorem dX12_doubles_22 : decode cX12_doubles 22 = .ok (.invokevirtual 291, 3) := by decide +kernel
theorem dX12_doubles_25 : decode cX12_doubles 25 = .ok (.ireturn, 1) := by decide +kernel
theorem dX12_doublesOf_0 : decode cX12_doublesOf 0 = .ok (.iconst 0, 1) := by decide +kernel
theorem dX12_doublesOf_1 : decode cX12_doublesOf 1 = .ok (.istore_n 2, 1) := by decide +kernel
theorem dX12_doublesOf_2 : decode cX12_doublesOf 2 = .ok (.iconst 0, 1) := by decide +kernel
theorem dX12_doublesOf_3 : decode cX12_doublesOf 3 = .ok (.istore_n 3, 1) := by decide +kernel
theorem dX12_doublesOf_4 : decode cX12_doublesOf 4 = .ok (.iload_n 3, 1) := by decide +kernel
theorem dX12_doublesOf_5 : decode cX12_doublesOf 5 = .ok (.aload_n 0, 1) := by decide +kernel
theorem dX12_doublesOf_6 : decode cX12_doublesOf 6 = .ok (.getfield 34, 3) := by decide +kernel
theorem dX12_doublesOf_9 : decode cX12_doublesOf 9 = .ok (.iconst 3, 1) := by decide +kernel
theorem dX12_doublesOf_10 : decode cX12_doublesOf 10 = .ok (.iaload, 1) := by decide +kernel
theorem dX12_doublesOf_11 : decode cX12_doublesOf 11 = .ok (.if_icmp .ge 32, 3) := by decide +kernel
theorem dX12_doublesOf_14 : decode cX12_doublesOf 14 = .ok (.iload_n 2, 1) := by decide +kernel
theorem dX12_doublesOf_15 : decode cX12_doublesOf 15 = .ok (.aload_n 0, 1) := by decide +kernel
theorem dX12_doublesOf_16 : decode cX12_doublesOf 16 = .ok (.iload_n 3, 1) := by decide +kernel
theorem dX12_doublesOf_17 : decode cX12_doublesOf 17 = .ok (.iload_n 1, 1) := by decide +kernel
theorem dX12_doublesOf_18 : decode cX12_doublesOf 18 = .ok (.invokevirtual 279, 3) := by decide +kernel
theorem dX12_doublesOf_21 : decode cX12_doublesOf 21 = .ok (.invokestatic 288, 3) := by decide +kernel
theorem dX12_doublesOf_24 : decode cX12_doublesOf 24 = .ok (.iconst 1, 1) := by decide +kernel
theorem dX12_doublesOf_25 : decode cX12_doublesOf 25 = .ok (.if_icmp .le 9, 3) := by decide +kernel
theorem dX12_doublesOf_28 : decode cX12_doublesOf 28 = .ok (.iconst 1, 1) := by decide +kernel
theorem dX12_doublesOf_29 : decode cX12_doublesOf 29 = .ok (.iload_n 3, 1) := by decide +kernel
theorem dX12_doublesOf_30 : decode cX12_doublesOf 30 = .ok (.ishl, 1) := by decide +kernel
theorem dX12_doublesOf_31 : decode cX12_doublesOf 31 = .ok (.goto 4, 3) := by decide +kernel
theorem dX12_doublesOf_34 : decode cX12_doublesOf 34 = .ok (.iconst 0, 1) := by decide +kernel
theorem dX12_doublesOf_35 : decode cX12_doublesOf 35 = .ok (.ior, 1) := by decide +kernel
theorem dX12_doublesOf_36 : decode cX12_doublesOf 36 = .ok (.istore_n 2, 1) := by decide +kernel
theorem dX12_doublesOf_37 : decode cX12_doublesOf 37 = .ok (.iinc 3 1, 3) := by decide +kernel
theorem dX12_doublesOf_40 : decode cX12_doublesOf 40 = .ok (.goto (-36), 3) := by decide +kernel
theorem dX12_doublesOf_43 : decode cX12_doublesOf 43 = .ok (.iload_n 2, 1) := by decide +kernel
theorem dX12_doublesOf_44 : decode cX12_doublesOf 44 = .ok (.ireturn, 1) := by decide +kernel
theorem dX12_drawn_0 : decode cX12_drawn 0 = .ok (.aload_n 0, 1) := by decide +kernel
theorem dX12_drawn_1 : decode cX12_drawn 1 = .ok (.iconst 0, 1) := by decide +kernel
theorem dX12_drawn_2 : decode cX12_drawn 2 = .ok (.putfield 74, 3) := by decide +kernel
theorem dX12_drawn_5 : decode cX12_drawn 5 = .ok (.aload_n 0, 1) := by decide +kernel
theorem dX12_drawn_6 : decode cX12_drawn 6 = .ok (.iload_n 1, 1) := by decide +kernel
theorem dX12_drawn_7 : decode cX12_drawn 7 = .ok (.iload_n 2, 1) := by decide +kernel
theorem dX12_drawn_8 : decode cX12_drawn 8 = .ok (.invokevirtual 444, 3) := by decide +kernel
theorem dX12_drawn_11 : decode cX12_drawn 11 = .ok (.ifCond .eq 15, 3) := by decide +kernel
theorem dX12_drawn_14 : decode cX12_drawn 14 = .ok (.iload_n 3, 1) := by decide +kernel
theorem dX12_drawn_15 : decode cX12_drawn 15 = .ok (.i2l, 1) := by decide +kernel
theorem dX12_drawn_16 : decode cX12_drawn 16 = .ok (.lconst 0, 1) := by decide +kernel
theorem dX12_drawn_17 : decode cX12_drawn 17 = .ok (.ldc2_w 447, 3) := by decide +kernel
theorem dX12_drawn_20 : decode cX12_drawn 20 = .ok (.invokestatic 79, 3) := by decide +kernel
theorem dX12_drawn_23 : decode cX12_drawn 23 = .ok (.ifCond .ne 6, 3) := by decide +kernel
theorem dX12_drawn_26 : decode cX12_drawn 26 = .ok (.bipush (-2), 2) := by decide +kernel
theorem dX12_drawn_28 : decode cX12_drawn 28 = .ok (.ireturn, 1) := by decide +kernel
theorem dX12_drawn_29 : decode cX12_drawn 29 = .ok (.aload_n 0, 1) := by decide +kernel
theorem dX12_drawn_30 : decode cX12_drawn 30 = .ok (.invokevirtual 276, 3) := by decide +kernel
theorem dX12_drawn_33 : decode cX12_drawn 33 = .ok (.aload_n 0, 1) := by decide +kernel
theorem dX12_drawn_34 : decode cX12_drawn 34 = .ok (.iload_n 1, 1) := by decide +kernel
theorem dX12_drawn_35 : decode cX12_drawn 35 = .ok (.i2l, 1) := by decide +kernel
theorem dX12_drawn_36 : decode cX12_drawn 36 = .ok (.iload_n 2, 1) := by decide +kernel
theorem dX12_drawn_37 : decode cX12_drawn 37 = .ok (.invokevirtual 449, 3) := by decide +kernel
theorem dX12_drawn_40 : decode cX12_drawn 40 = .ok (.aload_n 0, 1) := by decide +kernel
theorem dX12_drawn_41 : decode cX12_drawn 41 = .ok (.getfield 71, 3) := by decide +kernel
theorem dX12_drawn_44 : decode cX12_drawn 44 = .ok (.iload_n 3, 1) := by decide +kernel
theorem dX12_drawn_45 : decode cX12_drawn 45 = .ok (.iaload, 1) := by decide +kernel
theorem dX12_drawn_46 : decode cX12_drawn 46 = .ok (.ireturn, 1) := by decide +kernel
theorem dX12_draws_0 : decode cX12_draws 0 = .ok (.lload_n 1, 1) := by decide +kernel
theorem dX12_draws_1 : decode cX12_draws 1 = .ok (.lstore 4, 2) := by decide +kernel
theorem dX12_draws_3 : decode cX12_draws 3 = .ok (.iconst 0, 1) := by decide +kernel
theorem dX12_draws_4 : decode cX12_draws 4 = .ok (.istore 6, 2) := by decide +kernel
theorem dX12_draws_6 : decode cX12_draws 6 = .ok (.iload 6, 2) := by decide +kernel
theorem dX12_draws_8 : decode cX12_draws 8 = .ok (.bipush 6, 2) := by decide +kernel
theorem dX12_draws_10 : decode cX12_draws 10 = .ok (.if_icmp .ge 17, 3) := by decide +kernel
theorem dX12_draws_13 : decode cX12_draws 13 = .ok (.aload_n 0, 1) := by decide +kernel
theorem dX12_draws_14 : decode cX12_draws 14 = .ok (.getfield 71, 3) := by decide +kernel
theorem dX12_draws_17 : decode cX12_draws 17 = .ok (.iload 6, 2) := by decide +kernel
theorem dX12_draws_19 : decode cX12_draws 19 = .ok (.iconst 0, 1) := by decide +kernel
theorem dX12_draws_20 : decode cX12_draws 20 = .ok (.iastore, 1) := by decide +kernel
theorem dX12_draws_21 : decode cX12_draws 21 = .ok (.iinc 6 1, 3) := by decide +kernel
theorem dX12_draws_24 : decode cX12_draws 24 = .ok (.goto (-18), 3) := by decide +kernel
theorem dX12_draws_27 : decode cX12_draws 27 = .ok (.iconst 0, 1) := by decide +kernel
theorem dX12_draws_28 : decode cX12_draws 28 = .ok (.istore 6, 2) := by decide +kernel
theorem dX12_draws_30 : decode cX12_draws 30 = .ok (.iload 6, 2) := by decide +kernel
theorem dX12_draws_32 : decode cX12_draws 32 = .ok (.bipush 36, 2) := by decide +kernel
theorem dX12_draws_34 : decode cX12_draws 34 = .ok (.if_icmp .ge 101, 3) := by decide +kernel
theorem dX12_draws_37 : decode cX12_draws 37 = .ok (.aload_n 0, 1) := by decide +kernel
theorem dX12_draws_38 : decode cX12_draws 38 = .ok (.getfield 43, 3) := by decide +kernel
theorem dX12_draws_41 : decode cX12_draws 41 = .ok (.iload 6, 2) := by decide +kernel
theorem dX12_draws_43 : decode cX12_draws 43 = .ok (.baload, 1) := by decide +kernel
theorem dX12_draws_44 : decode cX12_draws 44 = .ok (.ifCond .ne 6, 3) := by decide +kernel
theorem dX12_draws_47 : decode cX12_draws 47 = .ok (.goto 82, 3) := by decide +kernel
theorem dX12_draws_50 : decode cX12_draws 50 = .ok (.ldc2_w 434, 3) := by decide +kernel
theorem dX12_draws_53 : decode cX12_draws 53 = .ok (.lload 4, 2) := by decide +kernel
theorem dX12_draws_55 : decode cX12_draws 55 = .ok (.lmul, 1) := by decide +kernel
theorem dX12_draws_56 : decode cX12_draws 56 = .ok (.ldc2_w 436, 3) := by decide +kernel
theorem dX12_draws_59 : decode cX12_draws 59 = .ok (.ladd, 1) := by decide +kernel
theorem dX12_draws_60 : decode cX12_draws 60 = .ok (.ldc2_w 438, 3) := by decide +kernel
theorem dX12_draws_63 : decode cX12_draws 63 = .ok (.lrem, 1) := by decide +kernel
theorem dX12_draws_64 : decode cX12_draws 64 = .ok (.lstore 4, 2) := by decide +kernel
theorem dX12_draws_66 : decode cX12_draws 66 = .ok (.lload 4, 2) := by decide +kernel
theorem dX12_draws_68 : decode cX12_draws 68 = .ok (.ldc2_w 440, 3) := by decide +kernel
theorem dX12_draws_71 : decode cX12_draws 71 = .ok (.ldiv, 1) := by decide +kernel
theorem dX12_draws_72 : decode cX12_draws 72 = .ok (.aload_n 0, 1) := by decide +kernel
theorem dX12_draws_73 : decode cX12_draws 73 = .ok (.getfield 34, 3) := by decide +kernel
theorem dX12_draws_76 : decode cX12_draws 76 = .ok (.iconst 4, 1) := by decide +kernel
theorem dX12_draws_77 : decode cX12_draws 77 = .ok (.iaload, 1) := by decide +kernel
theorem dX12_draws_78 : decode cX12_draws 78 = .ok (.i2l, 1) := by decide +kernel
theorem dX12_draws_79 : decode cX12_draws 79 = .ok (.lrem, 1) := by decide +kernel
theorem dX12_draws_80 : decode cX12_draws 80 = .ok (.l2i, 1) := by decide +kernel
theorem dX12_draws_81 : decode cX12_draws 81 = .ok (.istore 7, 2) := by decide +kernel
theorem dX12_draws_83 : decode cX12_draws 83 = .ok (.aload_n 0, 1) := by decide +kernel
theorem dX12_draws_84 : decode cX12_draws 84 = .ok (.getfield 71, 3) := by decide +kernel
theorem dX12_draws_87 : decode cX12_draws 87 = .ok (.aload_n 0, 1) := by decide +kernel
theorem dX12_draws_88 : decode cX12_draws 88 = .ok (.iload 7, 2) := by decide +kernel
theorem dX12_draws_90 : decode cX12_draws 90 = .ok (.iload_n 3, 1) := by decide +kernel
theorem dX12_draws_91 : decode cX12_draws 91 = .ok (.invokevirtual 282, 3) := by decide +kernel
theorem dX12_draws_94 : decode cX12_draws 94 = .ok (.dup2, 1) := by decide +kernel
theorem dX12_draws_95 : decode cX12_draws 95 = .ok (.iaload, 1) := by decide +kernel
theorem dX12_draws_96 : decode cX12_draws 96 = .ok (.iconst 1, 1) := by decide +kernel
theorem dX12_draws_97 : decode cX12_draws 97 = .ok (.iadd, 1) := by decide +kernel
theorem dX12_draws_98 : decode cX12_draws 98 = .ok (.iastore, 1) := by decide +kernel
theorem dX12_draws_99 : decode cX12_draws 99 = .ok (.aload_n 0, 1) := by decide +kernel
theorem dX12_draws_100 : decode cX12_draws 100 = .ok (.getfield 71, 3) := by decide +kernel
theorem dX12_draws_103 : decode cX12_draws 103 = .ok (.iconst 5, 1) := by decide +kernel
theorem dX12_draws_104 : decode cX12_draws 104 = .ok (.dup2, 1) := by decide +kernel
theorem dX12_draws_105 : decode cX12_draws 105 = .ok (.iaload, 1) := by decide +kernel
theorem dX12_draws_106 : decode cX12_draws 106 = .ok (.aload_n 0, 1) := by decide +kernel
theorem dX12_draws_107 : decode cX12_draws 107 = .ok (.iload 6, 2) := by decide +kernel
theorem dX12_draws_109 : decode cX12_draws 109 = .ok (.bipush 6, 2) := by decide +kernel
theorem dX12_draws_111 : decode cX12_draws 111 = .ok (.idiv, 1) := by decide +kernel
theorem dX12_draws_112 : decode cX12_draws 112 = .ok (.iload 6, 2) := by decide +kernel
theorem dX12_draws_114 : decode cX12_draws 114 = .ok (.bipush 6, 2) := by decide +kernel
theorem dX12_draws_116 : decode cX12_draws 116 = .ok (.irem, 1) := by decide +kernel
theorem dX12_draws_117 : decode cX12_draws 117 = .ok (.aload_n 0, 1) := by decide +kernel
theorem dX12_draws_118 : decode cX12_draws 118 = .ok (.iload 7, 2) := by decide +kernel
theorem dX12_draws_120 : decode cX12_draws 120 = .ok (.iload_n 3, 1) := by decide +kernel
theorem dX12_draws_121 : decode cX12_draws 121 = .ok (.invokevirtual 267, 3) := by decide +kernel
theorem dX12_draws_124 : decode cX12_draws 124 = .ok (.invokevirtual 303, 3) := by decide +kernel
theorem dX12_draws_127 : decode cX12_draws 127 = .ok (.iadd, 1) := by decide +kernel
theorem dX12_draws_128 : decode cX12_draws 128 = .ok (.iastore, 1) := by decide +kernel
theorem dX12_draws_129 : decode cX12_draws 129 = .ok (.iinc 6 1, 3) := by decide +kernel
theorem dX12_draws_132 : decode cX12_draws 132 = .ok (.goto (-102), 3) := by decide +kernel
theorem dX12_draws_135 : decode cX12_draws 135 = .ok (.return_, 1) := by decide +kernel
theorem dX12_end_0 : decode cX12_end 0 = .ok (.aload_n 0, 1) := by decide +kernel
theorem dX12_end_1 : decode cX12_end 1 = .ok (.iconst 0, 1) := by decide +kernel
theorem dX12_end_2 : decode cX12_end 2 = .ok (.putfield 74, 3) := by decide +kernel
theorem dX12_end_5 : decode cX12_end 5 = .ok (.iload_n 1, 1) := by decide +kernel
theorem dX12_end_6 : decode cX12_end 6 = .ok (.i2l, 1) := by decide +kernel
theorem dX12_end_7 : decode cX12_end 7 = .ok (.lconst 0, 1) := by decide +kernel
theorem dX12_end_8 : decode cX12_end 8 = .ok (.aload_n 0, 1) := by decide +kernel
theorem dX12_end_9 : decode cX12_end 9 = .ok (.getfield 91, 3) := by decide +kernel
theorem dX12_end_12 : decode cX12_end 12 = .ok (.i2l, 1) := by decide +kernel
theorem dX12_end_13 : decode cX12_end 13 = .ok (.invokestatic 79, 3) := by decide +kernel
theorem dX12_end_16 : decode cX12_end 16 = .ok (.ifCond .ne 5, 3) := by decide +kernel
theorem dX12_end_19 : decode cX12_end 19 = .ok (.iconst (-1), 1) := by decide +kernel
theorem dX12_end_20 : decode cX12_end 20 = .ok (.ireturn, 1) := by decide +kernel
theorem dX12_end_21 : decode cX12_end 21 = .ok (.aload_n 0, 1) := by decide +kernel
theorem dX12_end_22 : decode cX12_end 22 = .ok (.iload_n 1, 1) := by decide +kernel
theorem dX12_end_23 : decode cX12_end 23 = .ok (.putfield 91, 3) := by decide +kernel
theorem dX12_end_26 : decode cX12_end 26 = .ok (.iload_n 1, 1) := by decide +kernel
theorem dX12_end_27 : decode cX12_end 27 = .ok (.ireturn, 1) := by decide +kernel
theorem dX12_ends_0 : decode cX12_ends 0 = .ok (.aload_n 0, 1) := by decide +kernel
theorem dX12_ends_1 : decode cX12_ends 1 = .ok (.getfield 115, 3) := by decide +kernel
theorem dX12_ends_4 : decode cX12_ends 4 = .ok (.iconst 3, 1) := by decide +kernel
theorem dX12_ends_5 : decode cX12_ends 5 = .ok (.if_icmp .eq 8, 3) := by decide +kernel
theorem dX12_ends_8 : decode cX12_ends 8 = .ok (.aload_n 0, 1) := by decide +kernel
theorem dX12_ends_9 : decode cX12_ends 9 = .ok (.iconst 1, 1) := by decide +kernel
theorem dX12_ends_10 : decode cX12_ends 10 = .ok (.invokevirtual 142, 3) := by decide +kernel
theorem dX12_ends_13 : decode cX12_ends 13 = .ok (.aload_n 0, 1) := by decide +kernel
theorem dX12_ends_14 : decode cX12_ends 14 = .ok (.getfield 126, 3) := by decide +kernel
theorem dX12_ends_17 : decode cX12_ends 17 = .ok (.ifCond .ne 7, 3) := by decide +kernel
theorem dX12_ends_20 : decode cX12_ends 20 = .ok (.aload_n 0, 1) := by decide +kernel
theorem dX12_ends_21 : decode cX12_ends 21 = .ok (.invokevirtual 136, 3) := by decide +kernel
theorem dX12_ends_24 : decode cX12_ends 24 = .ok (.return_, 1) := by decide +kernel
theorem dX12_exit_0 : decode cX12_exit 0 = .ok (.aload_n 0, 1) := by decide +kernel
theorem dX12_exit_1 : decode cX12_exit 1 = .ok (.iconst 0, 1) := by decide +kernel
theorem dX12_exit_2 : decode cX12_exit 2 = .ok (.putfield 74, 3) := by decide +kernel
theorem dX12_exit_5 : decode cX12_exit 5 = .ok (.aload_n 0, 1) := by decide +kernel
theorem dX12_exit_6 : decode cX12_exit 6 = .ok (.iload_n 1, 1) := by decide +kernel
theorem dX12_exit_7 : decode cX12_exit 7 = .ok (.i2l, 1) := by decide +kernel
theorem dX12_exit_8 : decode cX12_exit 8 = .ok (.invokevirtual 250, 3) := by decide +kernel
theorem dX12_exit_11 : decode cX12_exit 11 = .ok (.ifCond .eq 28, 3) := by decide +kernel
theorem dX12_exit_14 : decode cX12_exit 14 = .ok (.iload_n 2, 1) := by decide +kernel
theorem dX12_exit_15 : decode cX12_exit 15 = .ok (.i2l, 1) := by decide +kernel
theorem dX12_exit_16 : decode cX12_exit 16 = .ok (.lconst 0, 1) := by decide +kernel
theorem dX12_exit_17 : decode cX12_exit 17 = .ok (.ldc2_w 77, 3) := by decide +kernel
theorem dX12_exit_20 : decode cX12_exit 20 = .ok (.invokestatic 79, 3) := by decide +kernel
theorem dX12_exit_23 : decode cX12_exit 23 = .ok (.ifCond .eq 16, 3) := by decide +kernel
theorem dX12_exit_26 : decode cX12_exit 26 = .ok (.aload_n 0, 1) := by decide +kernel
theorem dX12_exit_27 : decode cX12_exit 27 = .ok (.getfield 40, 3) := by decide +kernel
theorem dX12_exit_30 : decode cX12_exit 30 = .ok (.iconst 4, 1) := by decide +kernel
theorem dX12_exit_31 : decode cX12_exit 31 = .ok (.iload_n 1, 1) := by decide +kernel
theorem dX12_exit_32 : decode cX12_exit 32 = .ok (.imul, 1) := by decide +kernel
theorem dX12_exit_33 : decode cX12_exit 33 = .ok (.iload_n 2, 1) := by decide +kernel
theorem dX12_exit_34 : decode cX12_exit 34 = .ok (.iadd, 1) := by decide +kernel
theorem dX12_exit_35 : decode cX12_exit 35 = .ok (.iaload, 1) := by decide +kernel
theorem dX12_exit_36 : decode cX12_exit 36 = .ok (.goto 5, 3) := by decide +kernel
theorem dX12_exit_39 : decode cX12_exit 39 = .ok (.bipush (-2), 2) := by decide +kernel
theorem dX12_exit_41 : decode cX12_exit 41 = .ok (.ireturn, 1) := by decide +kernel
theorem dX12_exitLine_0 : decode cX12_exitLine 0 = .ok (.iconst 4, 1) := by decide +kernel
theorem dX12_exitLine_1 : decode cX12_exitLine 1 = .ok (.bipush 28, 2) := by decide +kernel
theorem dX12_exitLine_3 : decode cX12_exitLine 3 = .ok (.aload_n 0, 1) := by decide +kernel
theorem dX12_exitLine_4 : decode cX12_exitLine 4 = .ok (.iconst 4, 1) := by decide +kernel
theorem dX12_exitLine_5 : decode cX12_exitLine 5 = .ok (.invokevirtual 156, 3) := by decide +kernel
theorem dX12_exitLine_8 : decode cX12_exitLine 8 = .ok (.iadd, 1) := by decide +kernel
theorem dX12_exitLine_9 : decode cX12_exitLine 9 = .ok (.imul, 1) := by decide +kernel
theorem dX12_exitLine_10 : decode cX12_exitLine 10 = .ok (.istore_n 1, 1) := by decide +kernel
theorem dX12_exitLine_11 : decode cX12_exitLine 11 = .ok (.aload_n 0, 1) := by decide +kernel
theorem dX12_exitLine_12 : decode cX12_exitLine 12 = .ok (.getfield 126, 3) := by decide +kernel
theorem dX12_exitLine_15 : decode cX12_exitLine 15 = .ok (.ifCond .ne 39, 3) := by decide +kernel
theorem dX12_exitLine_18 : decode cX12_exitLine 18 = .ok (.aload_n 0, 1) := by decide +kernel
theorem dX12_exitLine_19 : decode cX12_exitLine 19 = .ok (.getfield 115, 3) := by decide +kernel
theorem dX12_exitLine_22 : decode cX12_exitLine 22 = .ok (.iconst 2, 1) := by decide +kernel
theorem dX12_exitLine_23 : decode cX12_exitLine 23 = .ok (.if_icmp .ne 31, 3) := by decide +kernel
theorem dX12_exitLine_26 : decode cX12_exitLine 26 = .ok (.aload_n 0, 1) := by decide +kernel
theorem dX12_exitLine_27 : decode cX12_exitLine 27 = .ok (.getfield 108, 3) := by decide +kernel
theorem dX12_exitLine_30 : decode cX12_exitLine 30 = .ok (.aload_n 0, 1) := by decide +kernel
theorem dX12_exitLine_31 : decode cX12_exitLine 31 = .ok (.iconst 3, 1) := by decide +kernel
theorem dX12_exitLine_32 : decode cX12_exitLine 32 = .ok (.invokevirtual 156, 3) := by decide +kernel
theorem dX12_exitLine_35 : decode cX12_exitLine 35 = .ok (.if_icmp .ge 19, 3) := by decide +kernel
theorem dX12_exitLine_38 : decode cX12_exitLine 38 = .ok (.aload_n 0, 1) := by decide +kernel
theorem dX12_exitLine_39 : decode cX12_exitLine 39 = .ok (.aload_n 0, 1) := by decide +kernel
theorem dX12_exitLine_40 : decode cX12_exitLine 40 = .ok (.getfield 108, 3) := by decide +kernel
theorem dX12_exitLine_43 : decode cX12_exitLine 43 = .ok (.invokevirtual 177, 3) := by decide +kernel
theorem dX12_exitLine_46 : decode cX12_exitLine 46 = .ok (.ifCond .eq 8, 3) := by decide +kernel
theorem dX12_exitLine_49 : decode cX12_exitLine 49 = .ok (.aload_n 0, 1) := by decide +kernel
theorem dX12_exitLine_50 : decode cX12_exitLine 50 = .ok (.iconst 2, 1) := by decide +kernel
theorem dX12_exitLine_51 : decode cX12_exitLine 51 = .ok (.invokevirtual 142, 3) := by decide +kernel
theorem dX12_exitLine_54 : decode cX12_exitLine 54 = .ok (.aload_n 0, 1) := by decide +kernel
theorem dX12_exitLine_55 : decode cX12_exitLine 55 = .ok (.getfield 40, 3) := by decide +kernel
theorem dX12_exitLine_58 : decode cX12_exitLine 58 = .ok (.iload_n 1, 1) := by decide +kernel
theorem dX12_exitLine_59 : decode cX12_exitLine 59 = .ok (.aload_n 0, 1) := by decide +kernel
theorem dX12_exitLine_60 : decode cX12_exitLine 60 = .ok (.iconst 0, 1) := by decide +kernel
theorem dX12_exitLine_61 : decode cX12_exitLine 61 = .ok (.aload_n 0, 1) := by decide +kernel
theorem dX12_exitLine_62 : decode cX12_exitLine 62 = .ok (.iconst 3, 1) := by decide +kernel
theorem dX12_exitLine_63 : decode cX12_exitLine 63 = .ok (.invokevirtual 156, 3) := by decide +kernel
theorem dX12_exitLine_66 : decode cX12_exitLine 66 = .ok (.iconst 1, 1) := by decide +kernel
theorem dX12_exitLine_67 : decode cX12_exitLine 67 = .ok (.isub, 1) := by decide +kernel
theorem dX12_exitLine_68 : decode cX12_exitLine 68 = .ok (.invokevirtual 149, 3) := by decide +kernel
theorem dX12_exitLine_71 : decode cX12_exitLine 71 = .ok (.iastore, 1) := by decide +kernel
theorem dX12_exitLine_72 : decode cX12_exitLine 72 = .ok (.aload_n 0, 1) := by decide +kernel
theorem dX12_exitLine_73 : decode cX12_exitLine 73 = .ok (.getfield 40, 3) := by decide +kernel
theorem dX12_exitLine_76 : decode cX12_exitLine 76 = .ok (.iload_n 1, 1) := by decide +kernel
theorem dX12_exitLine_77 : decode cX12_exitLine 77 = .ok (.iconst 1, 1) := by decide +kernel
theorem dX12_exitLine_78 : decode cX12_exitLine 78 = .ok (.iadd, 1) := by decide +kernel
theorem dX12_exitLine_79 : decode cX12_exitLine 79 = .ok (.aload_n 0, 1) := by decide +kernel
theorem dX12_exitLine_80 : decode cX12_exitLine 80 = .ok (.ldc2_w 180, 3) := by decide +kernel
theorem dX12_exitLine_83 : decode cX12_exitLine 83 = .ok (.iconst 1, 1) := by decide +kernel
theorem dX12_exitLine_84 : decode cX12_exitLine 84 = .ok (.iconst 3, 1) := by decide +kernel
theorem dX12_exitLine_85 : decode cX12_exitLine 85 = .ok (.invokevirtual 172, 3) := by decide +kernel
theorem dX12_exitLine_88 : decode cX12_exitLine 88 = .ok (.iastore, 1) := by decide +kernel
theorem dX12_exitLine_89 : decode cX12_exitLine 89 = .ok (.aload_n 0, 1) := by decide +kernel
theorem dX12_exitLine_90 : decode cX12_exitLine 90 = .ok (.getfield 40, 3) := by decide +kernel
theorem dX12_exitLine_93 : decode cX12_exitLine 93 = .ok (.iload_n 1, 1) := by decide +kernel
theorem dX12_exitLine_94 : decode cX12_exitLine 94 = .ok (.iconst 2, 1) := by decide +kernel
theorem dX12_exitLine_95 : decode cX12_exitLine 95 = .ok (.iadd, 1) := by decide +kernel
theorem dX12_exitLine_96 : decode cX12_exitLine 96 = .ok (.iconst (-1), 1) := by decide +kernel
theorem dX12_exitLine_97 : decode cX12_exitLine 97 = .ok (.iastore, 1) := by decide +kernel
theorem dX12_exitLine_98 : decode cX12_exitLine 98 = .ok (.aload_n 0, 1) := by decide +kernel
theorem dX12_exitLine_99 : decode cX12_exitLine 99 = .ok (.getfield 40, 3) := by decide +kernel
theorem dX12_exitLine_102 : decode cX12_exitLine 102 = .ok (.iload_n 1, 1) := by decide +kernel
theorem dX12_exitLine_103 : decode cX12_exitLine 103 = .ok (.iconst 3, 1) := by decide +kernel
theorem dX12_exitLine_104 : decode cX12_exitLine 104 = .ok (.iadd, 1) := by decide +kernel
theorem dX12_exitLine_105 : decode cX12_exitLine 105 = .ok (.iconst (-1), 1) := by decide +kernel
theorem dX12_exitLine_106 : decode cX12_exitLine 106 = .ok (.iastore, 1) := by decide +kernel
theorem dX12_exitLine_107 : decode cX12_exitLine 107 = .ok (.aload_n 0, 1) := by decide +kernel
theorem dX12_exitLine_108 : decode cX12_exitLine 108 = .ok (.getfield 126, 3) := by decide +kernel
theorem dX12_exitLine_111 : decode cX12_exitLine 111 = .ok (.ifCond .ne 53, 3) := by decide +kernel
theorem dX12_exitLine_114 : decode cX12_exitLine 114 = .ok (.aload_n 0, 1) := by decide +kernel
theorem dX12_exitLine_115 : decode cX12_exitLine 115 = .ok (.ldc2_w 182, 3) := by decide +kernel
theorem dX12_exitLine_118 : decode cX12_exitLine 118 = .ok (.invokevirtual 139, 3) := by decide +kernel
theorem dX12_exitLine_121 : decode cX12_exitLine 121 = .ok (.ifCond .eq 43, 3) := by decide +kernel
theorem dX12_exitLine_124 : decode cX12_exitLine 124 = .ok (.aload_n 0, 1) := by decide +kernel
theorem dX12_exitLine_125 : decode cX12_exitLine 125 = .ok (.getfield 40, 3) := by decide +kernel
theorem dX12_exitLine_128 : decode cX12_exitLine 128 = .ok (.iload_n 1, 1) := by decide +kernel
theorem dX12_exitLine_129 : decode cX12_exitLine 129 = .ok (.iconst 2, 1) := by decide +kernel
theorem dX12_exitLine_130 : decode cX12_exitLine 130 = .ok (.iadd, 1) := by decide +kernel
theorem dX12_exitLine_131 : decode cX12_exitLine 131 = .ok (.aload_n 0, 1) := by decide +kernel
theorem dX12_exitLine_132 : decode cX12_exitLine 132 = .ok (.iconst 0, 1) := by decide +kernel
theorem dX12_exitLine_133 : decode cX12_exitLine 133 = .ok (.bipush 59, 2) := by decide +kernel
theorem dX12_exitLine_135 : decode cX12_exitLine 135 = .ok (.invokevirtual 149, 3) := by decide +kernel
theorem dX12_exitLine_138 : decode cX12_exitLine 138 = .ok (.iastore, 1) := by decide +kernel
theorem dX12_exitLine_139 : decode cX12_exitLine 139 = .ok (.aload_n 0, 1) := by decide +kernel
theorem dX12_exitLine_140 : decode cX12_exitLine 140 = .ok (.getfield 40, 3) := by decide +kernel
theorem dX12_exitLine_143 : decode cX12_exitLine 143 = .ok (.iload_n 1, 1) := by decide +kernel
theorem dX12_exitLine_144 : decode cX12_exitLine 144 = .ok (.iconst 3, 1) := by decide +kernel
theorem dX12_exitLine_145 : decode cX12_exitLine 145 = .ok (.iadd, 1) := by decide +kernel
theorem dX12_exitLine_146 : decode cX12_exitLine 146 = .ok (.aload_n 0, 1) := by decide +kernel
theorem dX12_exitLine_147 : decode cX12_exitLine 147 = .ok (.ldc2_w 170, 3) := by decide +kernel
theorem dX12_exitLine_150 : decode cX12_exitLine 150 = .ok (.aload_n 0, 1) := by decide +kernel
theorem dX12_exitLine_151 : decode cX12_exitLine 151 = .ok (.getfield 40, 3) := by decide +kernel
theorem dX12_exitLine_154 : decode cX12_exitLine 154 = .ok (.iload_n 1, 1) := by decide +kernel
theorem dX12_exitLine_155 : decode cX12_exitLine 155 = .ok (.iconst 2, 1) := by decide +kernel
theorem dX12_exitLine_156 : decode cX12_exitLine 156 = .ok (.iadd, 1) := by decide +kernel
theorem dX12_exitLine_157 : decode cX12_exitLine 157 = .ok (.iaload, 1) := by decide +kernel
theorem dX12_exitLine_158 : decode cX12_exitLine 158 = .ok (.bipush 59, 2) := by decide +kernel
theorem dX12_exitLine_160 : decode cX12_exitLine 160 = .ok (.invokevirtual 172, 3) := by decide +kernel
theorem dX12_exitLine_163 : decode cX12_exitLine 163 = .ok (.iastore, 1) := by decide +kernel
theorem dX12_exitLine_164 : decode cX12_exitLine 164 = .ok (.aload_n 0, 1) := by decide +kernel
theorem dX12_exitLine_165 : decode cX12_exitLine 165 = .ok (.getfield 34, 3) := by decide +kernel
theorem dX12_exitLine_168 : decode cX12_exitLine 168 = .ok (.bipush 28, 2) := by decide +kernel
theorem dX12_exitLine_170 : decode cX12_exitLine 170 = .ok (.dup2, 1) := by decide +kernel
theorem dX12_exitLine_171 : decode cX12_exitLine 171 = .ok (.iaload, 1) := by decide +kernel
theorem dX12_exitLine_172 : decode cX12_exitLine 172 = .ok (.iconst 1, 1) := by decide +kernel
theorem dX12_exitLine_173 : decode cX12_exitLine 173 = .ok (.iadd, 1) := by decide +kernel
theorem dX12_exitLine_174 : decode cX12_exitLine 174 = .ok (.iastore, 1) := by decide +kernel
theorem dX12_exitLine_175 : decode cX12_exitLine 175 = .ok (.return_, 1) := by decide +kernel
theorem dX12_fails_0 : decode cX12_fails 0 = .ok (.aload_n 0, 1) := by decide +kernel
theorem dX12_fails_1 : decode cX12_fails 1 = .ok (.getfield 126, 3) := by decide +kernel
theorem dX12_fails_4 : decode cX12_fails 4 = .ok (.ifCond .eq 4, 3) := by decide +kernel
theorem dX12_fails_7 : decode cX12_fails 7 = .ok (.return_, 1) := by decide +kernel
theorem dX12_fails_8 : decode cX12_fails 8 = .ok (.aload_n 0, 1) := by decide +kernel
theorem dX12_fails_9 : decode cX12_fails 9 = .ok (.iload_n 1, 1) := by decide +kernel
theorem dX12_fails_10 : decode cX12_fails 10 = .ok (.putfield 126, 3) := by decide +kernel
theorem dX12_fails_13 : decode cX12_fails 13 = .ok (.aload_n 0, 1) := by decide +kernel
theorem dX12_fails_14 : decode cX12_fails 14 = .ok (.aload_n 0, 1) := by decide +kernel
theorem dX12_fails_15 : decode cX12_fails 15 = .ok (.getfield 105, 3) := by decide +kernel
theorem dX12_fails_18 : decode cX12_fails 18 = .ok (.putfield 129, 3) := by decide +kernel
theorem dX12_fails_21 : decode cX12_fails 21 = .ok (.return_, 1) := by decide +kernel
theorem dX12_falls_0 : decode cX12_falls 0 = .ok (.aload_n 0, 1) := by decide +kernel
theorem dX12_falls_1 : decode cX12_falls 1 = .ok (.iconst 0, 1) := by decide +kernel
theorem dX12_falls_2 : decode cX12_falls 2 = .ok (.putfield 74, 3) := by decide +kernel
theorem dX12_falls_5 : decode cX12_falls 5 = .ok (.aload_n 0, 1) := by decide +kernel
theorem dX12_falls_6 : decode cX12_falls 6 = .ok (.iload_n 1, 1) := by decide +kernel
theorem dX12_falls_7 : decode cX12_falls 7 = .ok (.i2l, 1) := by decide +kernel
theorem dX12_falls_8 : decode cX12_falls 8 = .ok (.iload_n 2, 1) := by decide +kernel
theorem dX12_falls_9 : decode cX12_falls 9 = .ok (.i2l, 1) := by decide +kernel
theorem dX12_falls_10 : decode cX12_falls 10 = .ok (.invokevirtual 253, 3) := by decide +kernel
theorem dX12_falls_13 : decode cX12_falls 13 = .ok (.ifCond .eq 11, 3) := by decide +kernel
theorem dX12_falls_16 : decode cX12_falls 16 = .ok (.aload_n 0, 1) := by decide +kernel
theorem dX12_falls_17 : decode cX12_falls 17 = .ok (.iload_n 3, 1) := by decide +kernel
theorem dX12_falls_18 : decode cX12_falls 18 = .ok (.invokevirtual 273, 3) := by decide +kernel
theorem dX12_falls_21 : decode cX12_falls 21 = .ok (.ifCond .ne 6, 3) := by decide +kernel
theorem dX12_falls_24 : decode cX12_falls 24 = .ok (.bipush (-2), 2) := by decide +kernel
theorem dX12_falls_26 : decode cX12_falls 26 = .ok (.ireturn, 1) := by decide +kernel
theorem dX12_falls_27 : decode cX12_falls 27 = .ok (.aload_n 0, 1) := by decide +kernel
theorem dX12_falls_28 : decode cX12_falls 28 = .ok (.invokevirtual 276, 3) := by decide +kernel
theorem dX12_falls_31 : decode cX12_falls 31 = .ok (.aload_n 0, 1) := by decide +kernel
theorem dX12_falls_32 : decode cX12_falls 32 = .ok (.iload_n 1, 1) := by decide +kernel
theorem dX12_falls_33 : decode cX12_falls 33 = .ok (.iload_n 2, 1) := by decide +kernel
theorem dX12_falls_34 : decode cX12_falls 34 = .ok (.iload_n 3, 1) := by decide +kernel
theorem dX12_falls_35 : decode cX12_falls 35 = .ok (.invokevirtual 314, 3) := by decide +kernel
theorem dX12_falls_38 : decode cX12_falls 38 = .ok (.ireturn, 1) := by decide +kernel
theorem dX12_fallsOf_0 : decode cX12_fallsOf 0 = .ok (.aload_n 0, 1) := by decide +kernel
theorem dX12_fallsOf_1 : decode cX12_fallsOf 1 = .ok (.iload_n 1, 1) := by decide +kernel
theorem dX12_fallsOf_2 : decode cX12_fallsOf 2 = .ok (.iload_n 2, 1) := by decide +kernel
theorem dX12_fallsOf_3 : decode cX12_fallsOf 3 = .ok (.iload_n 3, 1) := by decide +kernel
theorem dX12_fallsOf_4 : decode cX12_fallsOf 4 = .ok (.iconst 0, 1) := by decide +kernel
theorem dX12_fallsOf_5 : decode cX12_fallsOf 5 = .ok (.invokevirtual 307, 3) := by decide +kernel
theorem dX12_fallsOf_8 : decode cX12_fallsOf 8 = .ok (.istore 4, 2) := by decide +kernel
theorem dX12_fallsOf_10 : decode cX12_fallsOf 10 = .ok (.iload 4, 2) := by decide +kernel
theorem dX12_fallsOf_12 : decode cX12_fallsOf 12 = .ok (.iconst (-1), 1) := by decide +kernel
theorem dX12_fallsOf_13 : decode cX12_fallsOf 13 = .ok (.if_icmp .ne 7, 3) := by decide +kernel
theorem dX12_fallsOf_16 : decode cX12_fallsOf 16 = .ok (.iconst (-1), 1) := by decide +kernel
theorem dX12_fallsOf_17 : decode cX12_fallsOf 17 = .ok (.goto 10, 3) := by decide +kernel
theorem dX12_fallsOf_20 : decode cX12_fallsOf 20 = .ok (.aload_n 0, 1) := by decide +kernel
theorem dX12_fallsOf_21 : decode cX12_fallsOf 21 = .ok (.iload 4, 2) := by decide +kernel
theorem dX12_fallsOf_23 : decode cX12_fallsOf 23 = .ok (.iload_n 3, 1) := by decide +kernel
theorem dX12_fallsOf_24 : decode cX12_fallsOf 24 = .ok (.invokevirtual 282, 3) := by decide +kernel
theorem dX12_fallsOf_27 : decode cX12_fallsOf 27 = .ok (.ireturn, 1) := by decide +kernel
theorem dX12_far_0 : decode cX12_far 0 = .ok (.aload_n 0, 1) := by decide +kernel
theorem dX12_far_1 : decode cX12_far 1 = .ok (.iconst 0, 1) := by decide +kernel
theorem dX12_far_2 : decode cX12_far 2 = .ok (.putfield 74, 3) := by decide +kernel
theorem dX12_far_5 : decode cX12_far 5 = .ok (.aload_n 0, 1) := by decide +kernel
theorem dX12_far_6 : decode cX12_far 6 = .ok (.iload_n 1, 1) := by decide +kernel
theorem dX12_far_7 : decode cX12_far 7 = .ok (.i2l, 1) := by decide +kernel
theorem dX12_far_8 : decode cX12_far 8 = .ok (.iload_n 2, 1) := by decide +kernel
theorem dX12_far_9 : decode cX12_far 9 = .ok (.i2l, 1) := by decide +kernel
theorem dX12_far_10 : decode cX12_far 10 = .ok (.invokevirtual 253, 3) := by decide +kernel
theorem dX12_far_13 : decode cX12_far 13 = .ok (.ifCond .eq 11, 3) := by decide +kernel
theorem dX12_far_16 : decode cX12_far 16 = .ok (.aload_n 0, 1) := by decide +kernel
theorem dX12_far_17 : decode cX12_far 17 = .ok (.iload_n 3, 1) := by decide +kernel
theorem dX12_far_18 : decode cX12_far 18 = .ok (.invokevirtual 273, 3) := by decide +kernel
theorem dX12_far_21 : decode cX12_far 21 = .ok (.ifCond .ne 6, 3) := by decide +kernel
theorem dX12_far_24 : decode cX12_far 24 = .ok (.bipush (-2), 2) := by decide +kernel
theorem dX12_far_26 : decode cX12_far 26 = .ok (.ireturn, 1) := by decide +kernel
theorem dX12_far_27 : decode cX12_far 27 = .ok (.aload_n 0, 1) := by decide +kernel
theorem dX12_far_28 : decode cX12_far 28 = .ok (.invokevirtual 276, 3) := by decide +kernel
theorem dX12_far_31 : decode cX12_far 31 = .ok (.aload_n 0, 1) := by decide +kernel
theorem dX12_far_32 : decode cX12_far 32 = .ok (.iload_n 1, 1) := by decide +kernel
theorem dX12_far_33 : decode cX12_far 33 = .ok (.iload_n 2, 1) := by decide +kernel
theorem dX12_far_34 : decode cX12_far 34 = .ok (.iload_n 3, 1) := by decide +kernel
theorem dX12_far_35 : decode cX12_far 35 = .ok (.invokevirtual 311, 3) := by decide +kernel
theorem dX12_far_38 : decode cX12_far 38 = .ok (.ireturn, 1) := by decide +kernel
theorem dX12_farOf_0 : decode cX12_farOf 0 = .ok (.aload_n 0, 1) := by decide +kernel
theorem dX12_farOf_1 : decode cX12_farOf 1 = .ok (.iload_n 1, 1) := by decide +kernel
theorem dX12_farOf_2 : decode cX12_farOf 2 = .ok (.iload_n 2, 1) := by decide +kernel
theorem dX12_farOf_3 : decode cX12_farOf 3 = .ok (.iload_n 3, 1) := by decide +kernel
theorem dX12_farOf_4 : decode cX12_farOf 4 = .ok (.iconst 1, 1) := by decide +kernel
theorem dX12_farOf_5 : decode cX12_farOf 5 = .ok (.invokevirtual 307, 3) := by decide +kernel
theorem dX12_farOf_8 : decode cX12_farOf 8 = .ok (.istore 4, 2) := by decide +kernel
theorem dX12_farOf_10 : decode cX12_farOf 10 = .ok (.iload 4, 2) := by decide +kernel
theorem dX12_farOf_12 : decode cX12_farOf 12 = .ok (.iconst (-1), 1) := by decide +kernel
theorem dX12_farOf_13 : decode cX12_farOf 13 = .ok (.if_icmp .ne 7, 3) := by decide +kernel
theorem dX12_farOf_16 : decode cX12_farOf 16 = .ok (.iconst (-1), 1) := by decide +kernel
theorem dX12_farOf_17 : decode cX12_farOf 17 = .ok (.goto 16, 3) := by decide +kernel
theorem dX12_farOf_20 : decode cX12_farOf 20 = .ok (.aload_n 0, 1) := by decide +kernel
theorem dX12_farOf_21 : decode cX12_farOf 21 = .ok (.iload_n 1, 1) := by decide +kernel
theorem dX12_farOf_22 : decode cX12_farOf 22 = .ok (.iload_n 2, 1) := by decide +kernel
theorem dX12_farOf_23 : decode cX12_farOf 23 = .ok (.aload_n 0, 1) := by decide +kernel
theorem dX12_farOf_24 : decode cX12_farOf 24 = .ok (.iload 4, 2) := by decide +kernel
theorem dX12_farOf_26 : decode cX12_farOf 26 = .ok (.iload_n 3, 1) := by decide +kernel
theorem dX12_farOf_27 : decode cX12_farOf 27 = .ok (.invokevirtual 267, 3) := by decide +kernel
theorem dX12_farOf_30 : decode cX12_farOf 30 = .ok (.invokevirtual 303, 3) := by decide +kernel
theorem dX12_farOf_33 : decode cX12_farOf 33 = .ok (.ireturn, 1) := by decide +kernel
theorem dX12_fault_0 : decode cX12_fault 0 = .ok (.aload_n 0, 1) := by decide +kernel
theorem dX12_fault_1 : decode cX12_fault 1 = .ok (.iconst 0, 1) := by decide +kernel
theorem dX12_fault_2 : decode cX12_fault 2 = .ok (.putfield 74, 3) := by decide +kernel
theorem dX12_fault_5 : decode cX12_fault 5 = .ok (.iload_n 1, 1) := by decide +kernel
theorem dX12_fault_6 : decode cX12_fault 6 = .ok (.ifCond .ne 10, 3) := by decide +kernel
theorem dX12_fault_9 : decode cX12_fault 9 = .ok (.aload_n 0, 1) := by decide +kernel
theorem dX12_fault_10 : decode cX12_fault 10 = .ok (.getfield 153, 3) := by decide +kernel
theorem dX12_fault_13 : decode cX12_fault 13 = .ok (.goto 16, 3) := by decide +kernel
theorem dX12_fault_16 : decode cX12_fault 16 = .ok (.iload_n 1, 1) := by decide +kernel
theorem dX12_fault_17 : decode cX12_fault 17 = .ok (.iconst 1, 1) := by decide +kernel
theorem dX12_fault_18 : decode cX12_fault 18 = .ok (.if_icmp .ne 10, 3) := by decide +kernel
theorem dX12_fault_21 : decode cX12_fault 21 = .ok (.aload_n 0, 1) := by decide +kernel
theorem dX12_fault_22 : decode cX12_fault 22 = .ok (.getfield 27, 3) := by decide +kernel
theorem dX12_fault_25 : decode cX12_fault 25 = .ok (.goto 4, 3) := by decide +kernel
theorem dX12_fault_28 : decode cX12_fault 28 = .ok (.iconst (-1), 1) := by decide +kernel
theorem dX12_fault_29 : decode cX12_fault 29 = .ok (.ireturn, 1) := by decide +kernel
theorem dX12_feed_0 : decode cX12_feed 0 = .ok (.aload_n 0, 1) := by decide +kernel
theorem dX12_feed_1 : decode cX12_feed 1 = .ok (.iconst 0, 1) := by decide +kernel
theorem dX12_feed_2 : decode cX12_feed 2 = .ok (.putfield 74, 3) := by decide +kernel
theorem dX12_feed_5 : decode cX12_feed 5 = .ok (.aload_n 0, 1) := by decide +kernel
theorem dX12_feed_6 : decode cX12_feed 6 = .ok (.getfield 91, 3) := by decide +kernel
theorem dX12_feed_9 : decode cX12_feed 9 = .ok (.bipush 20, 2) := by decide +kernel
theorem dX12_feed_11 : decode cX12_feed 11 = .ok (.iadd, 1) := by decide +kernel
theorem dX12_feed_12 : decode cX12_feed 12 = .ok (.sipush 1400, 3) := by decide +kernel
theorem dX12_feed_15 : decode cX12_feed 15 = .ok (.if_icmp .le 5, 3) := by decide +kernel
theorem dX12_feed_18 : decode cX12_feed 18 = .ok (.iconst (-1), 1) := by decide +kernel
theorem dX12_feed_19 : decode cX12_feed 19 = .ok (.ireturn, 1) := by decide +kernel
theorem dX12_feed_20 : decode cX12_feed 20 = .ok (.aload_n 0, 1) := by decide +kernel
theorem dX12_feed_21 : decode cX12_feed 21 = .ok (.iload_n 1, 1) := by decide +kernel
theorem dX12_feed_22 : decode cX12_feed 22 = .ok (.invokevirtual 94, 3) := by decide +kernel
theorem dX12_feed_25 : decode cX12_feed 25 = .ok (.aload_n 0, 1) := by decide +kernel
theorem dX12_feed_26 : decode cX12_feed 26 = .ok (.iload_n 2, 1) := by decide +kernel
theorem dX12_feed_27 : decode cX12_feed 27 = .ok (.invokevirtual 94, 3) := by decide +kernel
theorem dX12_feed_30 : decode cX12_feed 30 = .ok (.aload_n 0, 1) := by decide +kernel
theorem dX12_feed_31 : decode cX12_feed 31 = .ok (.iload_n 3, 1) := by decide +kernel
theorem dX12_feed_32 : decode cX12_feed 32 = .ok (.invokevirtual 94, 3) := by decide +kernel
theorem dX12_feed_35 : decode cX12_feed 35 = .ok (.aload_n 0, 1) := by decide +kernel
theorem dX12_feed_36 : decode cX12_feed 36 = .ok (.iload 4, 2) := by decide +kernel
theorem dX12_feed_38 : decode cX12_feed 38 = .ok (.invokevirtual 94, 3) := by decide +kernel
theorem dX12_feed_41 : decode cX12_feed 41 = .ok (.aload_n 0, 1) := by decide +kernel
theorem dX12_feed_42 : decode cX12_feed 42 = .ok (.iload 5, 2) := by decide +kernel
theorem dX12_feed_44 : decode cX12_feed 44 = .ok (.invokevirtual 94, 3) := by decide +kernel
theorem dX12_feed_47 : decode cX12_feed 47 = .ok (.aload_n 0, 1) := by decide +kernel
theorem dX12_feed_48 : decode cX12_feed 48 = .ok (.getfield 91, 3) := by decide +kernel
theorem dX12_feed_51 : decode cX12_feed 51 = .ok (.ireturn, 1) := by decide +kernel
theorem dX12_fell_0 : decode cX12_fell 0 = .ok (.aload_n 0, 1) := by decide +kernel
theorem dX12_fell_1 : decode cX12_fell 1 = .ok (.iconst 0, 1) := by decide +kernel
theorem dX12_fell_2 : decode cX12_fell 2 = .ok (.putfield 74, 3) := by decide +kernel
theorem dX12_fell_5 : decode cX12_fell 5 = .ok (.aload_n 0, 1) := by decide +kernel
theorem dX12_fell_6 : decode cX12_fell 6 = .ok (.iload_n 1, 1) := by decide +kernel
theorem dX12_fell_7 : decode cX12_fell 7 = .ok (.invokevirtual 398, 3) := by decide +kernel
theorem dX12_fell_10 : decode cX12_fell 10 = .ok (.istore_n 2, 1) := by decide +kernel
theorem dX12_fell_11 : decode cX12_fell 11 = .ok (.iload_n 2, 1) := by decide +kernel
theorem dX12_fell_12 : decode cX12_fell 12 = .ok (.ifCond .eq 6, 3) := by decide +kernel
theorem dX12_fell_15 : decode cX12_fell 15 = .ok (.iload_n 2, 1) := by decide +kernel
theorem dX12_fell_16 : decode cX12_fell 16 = .ok (.i2l, 1) := by decide +kernel
theorem dX12_fell_17 : decode cX12_fell 17 = .ok (.lreturn, 1) := by decide +kernel
theorem dX12_fell_18 : decode cX12_fell 18 = .ok (.aload_n 0, 1) := by decide +kernel
theorem dX12_fell_19 : decode cX12_fell 19 = .ok (.invokevirtual 276, 3) := by decide +kernel
theorem dX12_fell_22 : decode cX12_fell 22 = .ok (.lconst 0, 1) := by decide +kernel
theorem dX12_fell_23 : decode cX12_fell 23 = .ok (.lstore_n 3, 1) := by decide +kernel
theorem dX12_fell_24 : decode cX12_fell 24 = .ok (.iconst 0, 1) := by decide +kernel
theorem dX12_fell_25 : decode cX12_fell 25 = .ok (.istore 5, 2) := by decide +kernel
theorem dX12_fell_27 : decode cX12_fell 27 = .ok (.iload 5, 2) := by decide +kernel
theorem dX12_fell_29 : decode cX12_fell 29 = .ok (.bipush 60, 2) := by decide +kernel
theorem dX12_fell_31 : decode cX12_fell 31 = .ok (.if_icmp .ge 30, 3) := by decide +kernel
theorem dX12_fell_34 : decode cX12_fell 34 = .ok (.lload_n 3, 1) := by decide +kernel
theorem dX12_fell_35 : decode cX12_fell 35 = .ok (.aload_n 0, 1) := by decide +kernel
theorem dX12_fell_36 : decode cX12_fell 36 = .ok (.iload_n 1, 1) := by decide +kernel
theorem dX12_fell_37 : decode cX12_fell 37 = .ok (.iload 5, 2) := by decide +kernel
theorem dX12_fell_39 : decode cX12_fell 39 = .ok (.invokevirtual 401, 3) := by decide +kernel
theorem dX12_fell_42 : decode cX12_fell 42 = .ok (.ifCond .eq 10, 3) := by decide +kernel
theorem dX12_fell_45 : decode cX12_fell 45 = .ok (.lconst 1, 1) := by decide +kernel
theorem dX12_fell_46 : decode cX12_fell 46 = .ok (.iload 5, 2) := by decide +kernel
theorem dX12_fell_48 : decode cX12_fell 48 = .ok (.lshl, 1) := by decide +kernel
theorem dX12_fell_49 : decode cX12_fell 49 = .ok (.goto 4, 3) := by decide +kernel
theorem dX12_fell_52 : decode cX12_fell 52 = .ok (.lconst 0, 1) := by decide +kernel
theorem dX12_fell_53 : decode cX12_fell 53 = .ok (.lor, 1) := by decide +kernel
theorem dX12_fell_54 : decode cX12_fell 54 = .ok (.lstore_n 3, 1) := by decide +kernel
theorem dX12_fell_55 : decode cX12_fell 55 = .ok (.iinc 5 1, 3) := by decide +kernel
theorem dX12_fell_58 : decode cX12_fell 58 = .ok (.goto (-31), 3) := by decide +kernel
theorem dX12_fell_61 : decode cX12_fell 61 = .ok (.lload_n 3, 1) := by decide +kernel
theorem dX12_fell_62 : decode cX12_fell 62 = .ok (.lreturn, 1) := by decide +kernel
theorem dX12_four_0 : decode cX12_four 0 = .ok (.bipush 24, 2) := by decide +kernel
theorem dX12_four_2 : decode cX12_four 2 = .ok (.istore_n 2, 1) := by decide +kernel
theorem dX12_four_3 : decode cX12_four 3 = .ok (.iload_n 2, 1) := by decide +kernel
theorem dX12_four_4 : decode cX12_four 4 = .ok (.ifCond .lt 32, 3) := by decide +kernel
theorem dX12_four_7 : decode cX12_four 7 = .ok (.aload_n 0, 1) := by decide +kernel
theorem dX12_four_8 : decode cX12_four 8 = .ok (.getfield 23, 3) := by decide +kernel
theorem dX12_four_11 : decode cX12_four 11 = .ok (.aload_n 0, 1) := by decide +kernel
theorem dX12_four_12 : decode cX12_four 12 = .ok (.getfield 91, 3) := by decide +kernel
theorem dX12_four_15 : decode cX12_four 15 = .ok (.iload_n 1, 1) := by decide +kernel
theorem dX12_four_16 : decode cX12_four 16 = .ok (.iload_n 2, 1) := by decide +kernel
theorem dX12_four_17 : decode cX12_four 17 = .ok (.ishr, 1) := by decide +kernel
theorem dX12_four_18 : decode cX12_four 18 = .ok (.i2b, 1) := by decide +kernel
theorem dX12_four_19 : decode cX12_four 19 = .ok (.bastore, 1) := by decide +kernel
theorem dX12_four_20 : decode cX12_four 20 = .ok (.aload_n 0, 1) := by decide +kernel
theorem dX12_four_21 : decode cX12_four 21 = .ok (.dup, 1) := by decide +kernel
theorem dX12_four_22 : decode cX12_four 22 = .ok (.getfield 91, 3) := by decide +kernel
theorem dX12_four_25 : decode cX12_four 25 = .ok (.iconst 1, 1) := by decide +kernel
theorem dX12_four_26 : decode cX12_four 26 = .ok (.iadd, 1) := by decide +kernel
theorem dX12_four_27 : decode cX12_four 27 = .ok (.putfield 91, 3) := by decide +kernel
theorem dX12_four_30 : decode cX12_four 30 = .ok (.iinc 2 (-8), 3) := by decide +kernel
theorem dX12_four_33 : decode cX12_four 33 = .ok (.goto (-30), 3) := by decide +kernel
theorem dX12_four_36 : decode cX12_four 36 = .ok (.return_, 1) := by decide +kernel
theorem dX12_goes_0 : decode cX12_goes 0 = .ok (.aload_n 0, 1) := by decide +kernel
theorem dX12_goes_1 : decode cX12_goes 1 = .ok (.iconst 0, 1) := by decide +kernel
theorem dX12_goes_2 : decode cX12_goes 2 = .ok (.putfield 74, 3) := by decide +kernel
theorem dX12_goes_5 : decode cX12_goes 5 = .ok (.aload_n 0, 1) := by decide +kernel
theorem dX12_goes_6 : decode cX12_goes 6 = .ok (.iload_n 1, 1) := by decide +kernel
theorem dX12_goes_7 : decode cX12_goes 7 = .ok (.i2l, 1) := by decide +kernel
theorem dX12_goes_8 : decode cX12_goes 8 = .ok (.iload_n 2, 1) := by decide +kernel
theorem dX12_goes_9 : decode cX12_goes 9 = .ok (.i2l, 1) := by decide +kernel
theorem dX12_goes_10 : decode cX12_goes 10 = .ok (.invokevirtual 253, 3) := by decide +kernel
theorem dX12_goes_13 : decode cX12_goes 13 = .ok (.ifCond .eq 24, 3) := by decide +kernel
theorem dX12_goes_16 : decode cX12_goes 16 = .ok (.iload_n 3, 1) := by decide +kernel
theorem dX12_goes_17 : decode cX12_goes 17 = .ok (.i2l, 1) := by decide +kernel
theorem dX12_goes_18 : decode cX12_goes 18 = .ok (.lconst 1, 1) := by decide +kernel
theorem dX12_goes_19 : decode cX12_goes 19 = .ok (.ldc2_w 363, 3) := by decide +kernel
theorem dX12_goes_22 : decode cX12_goes 22 = .ok (.invokestatic 79, 3) := by decide +kernel
theorem dX12_goes_25 : decode cX12_goes 25 = .ok (.ifCond .eq 12, 3) := by decide +kernel
theorem dX12_goes_28 : decode cX12_goes 28 = .ok (.aload_n 0, 1) := by decide +kernel
theorem dX12_goes_29 : decode cX12_goes 29 = .ok (.getfield 34, 3) := by decide +kernel
theorem dX12_goes_32 : decode cX12_goes 32 = .ok (.iconst 3, 1) := by decide +kernel
theorem dX12_goes_33 : decode cX12_goes 33 = .ok (.iaload, 1) := by decide +kernel
theorem dX12_goes_34 : decode cX12_goes 34 = .ok (.ifCond .ne 6, 3) := by decide +kernel
theorem dX12_goes_37 : decode cX12_goes 37 = .ok (.bipush (-2), 2) := by decide +kernel
theorem dX12_goes_39 : decode cX12_goes 39 = .ok (.ireturn, 1) := by decide +kernel
theorem dX12_goes_40 : decode cX12_goes 40 = .ok (.aload_n 0, 1) := by decide +kernel
theorem dX12_goes_41 : decode cX12_goes 41 = .ok (.invokevirtual 276, 3) := by decide +kernel
theorem dX12_goes_44 : decode cX12_goes 44 = .ok (.aload_n 0, 1) := by decide +kernel
theorem dX12_goes_45 : decode cX12_goes 45 = .ok (.iload_n 1, 1) := by decide +kernel
theorem dX12_goes_46 : decode cX12_goes 46 = .ok (.iload_n 2, 1) := by decide +kernel
theorem dX12_goes_47 : decode cX12_goes 47 = .ok (.iload_n 3, 1) := by decide +kernel
theorem dX12_goes_48 : decode cX12_goes 48 = .ok (.invokevirtual 413, 3) := by decide +kernel
theorem dX12_goes_51 : decode cX12_goes 51 = .ok (.pop, 1) := by decide +kernel
theorem dX12_goes_52 : decode cX12_goes 52 = .ok (.aload_n 0, 1) := by decide +kernel
theorem dX12_goes_53 : decode cX12_goes 53 = .ok (.getfield 407, 3) := by decide +kernel
theorem dX12_goes_56 : decode cX12_goes 56 = .ok (.ireturn, 1) := by decide +kernel
theorem dX12_goesOut_0 : decode cX12_goesOut 0 = .ok (.aload_n 0, 1) := by decide +kernel
theorem dX12_goesOut_1 : decode cX12_goesOut 1 = .ok (.getfield 59, 3) := by decide +kernel
theorem dX12_goesOut_4 : decode cX12_goesOut 4 = .ok (.bipush 7, 2) := by decide +kernel
theorem dX12_goesOut_6 : decode cX12_goesOut 6 = .ok (.iload_n 1, 1) := by decide +kernel
theorem dX12_goesOut_7 : decode cX12_goesOut 7 = .ok (.iconst 2, 1) := by decide +kernel
theorem dX12_goesOut_8 : decode cX12_goesOut 8 = .ok (.idiv, 1) := by decide +kernel
theorem dX12_goesOut_9 : decode cX12_goesOut 9 = .ok (.imul, 1) := by decide +kernel
theorem dX12_goesOut_10 : decode cX12_goesOut 10 = .ok (.iconst 5, 1) := by decide +kernel
theorem dX12_goesOut_11 : decode cX12_goesOut 11 = .ok (.iadd, 1) := by decide +kernel
theorem dX12_goesOut_12 : decode cX12_goesOut 12 = .ok (.dup2, 1) := by decide +kernel
theorem dX12_goesOut_13 : decode cX12_goesOut 13 = .ok (.iaload, 1) := by decide +kernel
theorem dX12_goesOut_14 : decode cX12_goesOut 14 = .ok (.iconst 1, 1) := by decide +kernel
theorem dX12_goesOut_15 : decode cX12_goesOut 15 = .ok (.iadd, 1) := by decide +kernel
theorem dX12_goesOut_16 : decode cX12_goesOut 16 = .ok (.iastore, 1) := by decide +kernel
theorem dX12_goesOut_17 : decode cX12_goesOut 17 = .ok (.iload_n 1, 1) := by decide +kernel
theorem dX12_goesOut_18 : decode cX12_goesOut 18 = .ok (.istore_n 2, 1) := by decide +kernel
theorem dX12_goesOut_19 : decode cX12_goesOut 19 = .ok (.aload_n 0, 1) := by decide +kernel
theorem dX12_goesOut_20 : decode cX12_goesOut 20 = .ok (.getfield 62, 3) := by decide +kernel
theorem dX12_goesOut_23 : decode cX12_goesOut 23 = .ok (.iload_n 2, 1) := by decide +kernel
theorem dX12_goesOut_24 : decode cX12_goesOut 24 = .ok (.iaload, 1) := by decide +kernel
theorem dX12_goesOut_25 : decode cX12_goesOut 25 = .ok (.iload_n 2, 1) := by decide +kernel
theorem dX12_goesOut_26 : decode cX12_goesOut 26 = .ok (.if_icmp .eq 111, 3) := by decide +kernel
theorem dX12_goesOut_29 : decode cX12_goesOut 29 = .ok (.aload_n 0, 1) := by decide +kernel
theorem dX12_goesOut_30 : decode cX12_goesOut 30 = .ok (.getfield 62, 3) := by decide +kernel
theorem dX12_goesOut_33 : decode cX12_goesOut 33 = .ok (.iload_n 2, 1) := by decide +kernel
theorem dX12_goesOut_34 : decode cX12_goesOut 34 = .ok (.iaload, 1) := by decide +kernel
theorem dX12_goesOut_35 : decode cX12_goesOut 35 = .ok (.istore_n 3, 1) := by decide +kernel
theorem dX12_goesOut_36 : decode cX12_goesOut 36 = .ok (.aload_n 0, 1) := by decide +kernel
theorem dX12_goesOut_37 : decode cX12_goesOut 37 = .ok (.getfield 65, 3) := by decide +kernel
theorem dX12_goesOut_40 : decode cX12_goesOut 40 = .ok (.iload_n 2, 1) := by decide +kernel
theorem dX12_goesOut_41 : decode cX12_goesOut 41 = .ok (.iaload, 1) := by decide +kernel
theorem dX12_goesOut_42 : decode cX12_goesOut 42 = .ok (.bipush 6, 2) := by decide +kernel
theorem dX12_goesOut_44 : decode cX12_goesOut 44 = .ok (.if_icmp .ne 35, 3) := by decide +kernel
theorem dX12_goesOut_47 : decode cX12_goesOut 47 = .ok (.aload_n 0, 1) := by decide +kernel
theorem dX12_goesOut_48 : decode cX12_goesOut 48 = .ok (.getfield 59, 3) := by decide +kernel
theorem dX12_goesOut_51 : decode cX12_goesOut 51 = .ok (.bipush 7, 2) := by decide +kernel
theorem dX12_goesOut_53 : decode cX12_goesOut 53 = .ok (.iload_n 2, 1) := by decide +kernel
theorem dX12_goesOut_54 : decode cX12_goesOut 54 = .ok (.iconst 2, 1) := by decide +kernel
theorem dX12_goesOut_55 : decode cX12_goesOut 55 = .ok (.idiv, 1) := by decide +kernel
theorem dX12_goesOut_56 : decode cX12_goesOut 56 = .ok (.imul, 1) := by decide +kernel
theorem dX12_goesOut_57 : decode cX12_goesOut 57 = .ok (.bipush 6, 2) := by decide +kernel
theorem dX12_goesOut_59 : decode cX12_goesOut 59 = .ok (.iadd, 1) := by decide +kernel
theorem dX12_goesOut_60 : decode cX12_goesOut 60 = .ok (.dup2, 1) := by decide +kernel
theorem dX12_goesOut_61 : decode cX12_goesOut 61 = .ok (.iaload, 1) := by decide +kernel
theorem dX12_goesOut_62 : decode cX12_goesOut 62 = .ok (.iload_n 2, 1) := by decide +kernel
theorem dX12_goesOut_63 : decode cX12_goesOut 63 = .ok (.iconst 2, 1) := by decide +kernel
theorem dX12_goesOut_64 : decode cX12_goesOut 64 = .ok (.irem, 1) := by decide +kernel
theorem dX12_goesOut_65 : decode cX12_goesOut 65 = .ok (.iconst 1, 1) := by decide +kernel
theorem dX12_goesOut_66 : decode cX12_goesOut 66 = .ok (.if_icmp .ne 7, 3) := by decide +kernel
theorem dX12_goesOut_69 : decode cX12_goesOut 69 = .ok (.iconst 1, 1) := by decide +kernel
theorem dX12_goesOut_70 : decode cX12_goesOut 70 = .ok (.goto 4, 3) := by decide +kernel
theorem dX12_goesOut_73 : decode cX12_goesOut 73 = .ok (.iconst (-1), 1) := by decide +kernel
theorem dX12_goesOut_74 : decode cX12_goesOut 74 = .ok (.iadd, 1) := by decide +kernel
theorem dX12_goesOut_75 : decode cX12_goesOut 75 = .ok (.iastore, 1) := by decide +kernel
theorem dX12_goesOut_76 : decode cX12_goesOut 76 = .ok (.goto 56, 3) := by decide +kernel
theorem dX12_goesOut_79 : decode cX12_goesOut 79 = .ok (.iload_n 2, 1) := by decide +kernel
theorem dX12_goesOut_80 : decode cX12_goesOut 80 = .ok (.iconst 2, 1) := by decide +kernel
theorem dX12_goesOut_81 : decode cX12_goesOut 81 = .ok (.irem, 1) := by decide +kernel
theorem dX12_goesOut_82 : decode cX12_goesOut 82 = .ok (.ifCond .ne 28, 3) := by decide +kernel
theorem dX12_goesOut_85 : decode cX12_goesOut 85 = .ok (.aload_n 0, 1) := by decide +kernel
theorem dX12_goesOut_86 : decode cX12_goesOut 86 = .ok (.getfield 59, 3) := by decide +kernel
theorem dX12_goesOut_89 : decode cX12_goesOut 89 = .ok (.bipush 7, 2) := by decide +kernel
theorem dX12_goesOut_91 : decode cX12_goesOut 91 = .ok (.iload_n 3, 1) := by decide +kernel
theorem dX12_goesOut_92 : decode cX12_goesOut 92 = .ok (.iconst 2, 1) := by decide +kernel
theorem dX12_goesOut_93 : decode cX12_goesOut 93 = .ok (.idiv, 1) := by decide +kernel
theorem dX12_goesOut_94 : decode cX12_goesOut 94 = .ok (.imul, 1) := by decide +kernel
theorem dX12_goesOut_95 : decode cX12_goesOut 95 = .ok (.aload_n 0, 1) := by decide +kernel
theorem dX12_goesOut_96 : decode cX12_goesOut 96 = .ok (.getfield 65, 3) := by decide +kernel
theorem dX12_goesOut_99 : decode cX12_goesOut 99 = .ok (.iload_n 2, 1) := by decide +kernel
theorem dX12_goesOut_100 : decode cX12_goesOut 100 = .ok (.iaload, 1) := by decide +kernel
theorem dX12_goesOut_101 : decode cX12_goesOut 101 = .ok (.iadd, 1) := by decide +kernel
theorem dX12_goesOut_102 : decode cX12_goesOut 102 = .ok (.dup2, 1) := by decide +kernel
theorem dX12_goesOut_103 : decode cX12_goesOut 103 = .ok (.iaload, 1) := by decide +kernel
theorem dX12_goesOut_104 : decode cX12_goesOut 104 = .ok (.iconst 1, 1) := by decide +kernel
theorem dX12_goesOut_105 : decode cX12_goesOut 105 = .ok (.iadd, 1) := by decide +kernel
theorem dX12_goesOut_106 : decode cX12_goesOut 106 = .ok (.iastore, 1) := by decide +kernel
theorem dX12_goesOut_107 : decode cX12_goesOut 107 = .ok (.goto 25, 3) := by decide +kernel
theorem dX12_goesOut_110 : decode cX12_goesOut 110 = .ok (.aload_n 0, 1) := by decide +kernel
theorem dX12_goesOut_111 : decode cX12_goesOut 111 = .ok (.getfield 59, 3) := by decide +kernel
theorem dX12_goesOut_114 : decode cX12_goesOut 114 = .ok (.bipush 7, 2) := by decide +kernel
theorem dX12_goesOut_116 : decode cX12_goesOut 116 = .ok (.iload_n 2, 1) := by decide +kernel
theorem dX12_goesOut_117 : decode cX12_goesOut 117 = .ok (.iconst 2, 1) := by decide +kernel
theorem dX12_goesOut_118 : decode cX12_goesOut 118 = .ok (.idiv, 1) := by decide +kernel
theorem dX12_goesOut_119 : decode cX12_goesOut 119 = .ok (.imul, 1) := by decide +kernel
theorem dX12_goesOut_120 : decode cX12_goesOut 120 = .ok (.aload_n 0, 1) := by decide +kernel
theorem dX12_goesOut_121 : decode cX12_goesOut 121 = .ok (.getfield 65, 3) := by decide +kernel
theorem dX12_goesOut_124 : decode cX12_goesOut 124 = .ok (.iload_n 2, 1) := by decide +kernel
theorem dX12_goesOut_125 : decode cX12_goesOut 125 = .ok (.iaload, 1) := by decide +kernel
theorem dX12_goesOut_126 : decode cX12_goesOut 126 = .ok (.iadd, 1) := by decide +kernel
theorem dX12_goesOut_127 : decode cX12_goesOut 127 = .ok (.dup2, 1) := by decide +kernel
theorem dX12_goesOut_128 : decode cX12_goesOut 128 = .ok (.iaload, 1) := by decide +kernel
theorem dX12_goesOut_129 : decode cX12_goesOut 129 = .ok (.iconst 1, 1) := by decide +kernel
theorem dX12_goesOut_130 : decode cX12_goesOut 130 = .ok (.isub, 1) := by decide +kernel
theorem dX12_goesOut_131 : decode cX12_goesOut 131 = .ok (.iastore, 1) := by decide +kernel
theorem dX12_goesOut_132 : decode cX12_goesOut 132 = .ok (.iload_n 3, 1) := by decide +kernel
theorem dX12_goesOut_133 : decode cX12_goesOut 133 = .ok (.istore_n 2, 1) := by decide +kernel
theorem dX12_goesOut_134 : decode cX12_goesOut 134 = .ok (.goto (-115), 3) := by decide +kernel
theorem dX12_goesOut_137 : decode cX12_goesOut 137 = .ok (.return_, 1) := by decide +kernel
theorem dX12_goesTo_0 : decode cX12_goesTo 0 = .ok (.aload_n 0, 1) := by decide +kernel
theorem dX12_goesTo_1 : decode cX12_goesTo 1 = .ok (.getfield 53, 3) := by decide +kernel
theorem dX12_goesTo_4 : decode cX12_goesTo 4 = .ok (.bipush 7, 2) := by decide +kernel
theorem dX12_goesTo_6 : decode cX12_goesTo 6 = .ok (.iload_n 2, 1) := by decide +kernel
theorem dX12_goesTo_7 : decode cX12_goesTo 7 = .ok (.imul, 1) := by decide +kernel
theorem dX12_goesTo_8 : decode cX12_goesTo 8 = .ok (.iload_n 1, 1) := by decide +kernel
theorem dX12_goesTo_9 : decode cX12_goesTo 9 = .ok (.iadd, 1) := by decide +kernel
theorem dX12_goesTo_10 : decode cX12_goesTo 10 = .ok (.iaload, 1) := by decide +kernel
theorem dX12_goesTo_11 : decode cX12_goesTo 11 = .ok (.istore_n 3, 1) := by decide +kernel
theorem dX12_goesTo_12 : decode cX12_goesTo 12 = .ok (.aload_n 0, 1) := by decide +kernel
theorem dX12_goesTo_13 : decode cX12_goesTo 13 = .ok (.iload_n 1, 1) := by decide +kernel
theorem dX12_goesTo_14 : decode cX12_goesTo 14 = .ok (.iload_n 2, 1) := by decide +kernel
theorem dX12_goesTo_15 : decode cX12_goesTo 15 = .ok (.invokevirtual 257, 3) := by decide +kernel
theorem dX12_goesTo_18 : decode cX12_goesTo 18 = .ok (.ifCond .eq 5, 3) := by decide +kernel
theorem dX12_goesTo_21 : decode cX12_goesTo 21 = .ok (.iload_n 3, 1) := by decide +kernel
theorem dX12_goesTo_22 : decode cX12_goesTo 22 = .ok (.ireturn, 1) := by decide +kernel
theorem dX12_goesTo_23 : decode cX12_goesTo 23 = .ok (.aload_n 0, 1) := by decide +kernel
theorem dX12_goesTo_24 : decode cX12_goesTo 24 = .ok (.iload_n 3, 1) := by decide +kernel
theorem dX12_goesTo_25 : decode cX12_goesTo 25 = .ok (.iconst 3, 1) := by decide +kernel
theorem dX12_goesTo_26 : decode cX12_goesTo 26 = .ok (.invokevirtual 244, 3) := by decide +kernel
theorem dX12_goesTo_29 : decode cX12_goesTo 29 = .ok (.istore 4, 2) := by decide +kernel
theorem dX12_goesTo_31 : decode cX12_goesTo 31 = .ok (.iconst 1, 1) := by decide +kernel
theorem dX12_goesTo_32 : decode cX12_goesTo 32 = .ok (.istore 5, 2) := by decide +kernel
theorem dX12_goesTo_34 : decode cX12_goesTo 34 = .ok (.iload 5, 2) := by decide +kernel
theorem dX12_goesTo_36 : decode cX12_goesTo 36 = .ok (.bipush 9, 2) := by decide +kernel
theorem dX12_goesTo_38 : decode cX12_goesTo 38 = .ok (.if_icmp .gt 42, 3) := by decide +kernel
theorem dX12_goesTo_41 : decode cX12_goesTo 41 = .ok (.iload 4, 2) := by decide +kernel
theorem dX12_goesTo_43 : decode cX12_goesTo 43 = .ok (.aload_n 0, 1) := by decide +kernel
theorem dX12_goesTo_44 : decode cX12_goesTo 44 = .ok (.getfield 34, 3) := by decide +kernel
theorem dX12_goesTo_47 : decode cX12_goesTo 47 = .ok (.iconst 3, 1) := by decide +kernel
theorem dX12_goesTo_48 : decode cX12_goesTo 48 = .ok (.iaload, 1) := by decide +kernel
theorem dX12_goesTo_49 : decode cX12_goesTo 49 = .ok (.if_icmp .ge 31, 3) := by decide +kernel
theorem dX12_goesTo_52 : decode cX12_goesTo 52 = .ok (.aload_n 0, 1) := by decide +kernel
theorem dX12_goesTo_53 : decode cX12_goesTo 53 = .ok (.iload 4, 2) := by decide +kernel
theorem dX12_goesTo_55 : decode cX12_goesTo 55 = .ok (.iload_n 2, 1) := by decide +kernel
theorem dX12_goesTo_56 : decode cX12_goesTo 56 = .ok (.invokevirtual 261, 3) := by decide +kernel
theorem dX12_goesTo_59 : decode cX12_goesTo 59 = .ok (.ifCond .ne 6, 3) := by decide +kernel
theorem dX12_goesTo_62 : decode cX12_goesTo 62 = .ok (.iload 4, 2) := by decide +kernel
theorem dX12_goesTo_64 : decode cX12_goesTo 64 = .ok (.ireturn, 1) := by decide +kernel
theorem dX12_goesTo_65 : decode cX12_goesTo 65 = .ok (.aload_n 0, 1) := by decide +kernel
theorem dX12_goesTo_66 : decode cX12_goesTo 66 = .ok (.iload 4, 2) := by decide +kernel
theorem dX12_goesTo_68 : decode cX12_goesTo 68 = .ok (.iconst 3, 1) := by decide +kernel
theorem dX12_goesTo_69 : decode cX12_goesTo 69 = .ok (.invokevirtual 244, 3) := by decide +kernel
theorem dX12_goesTo_72 : decode cX12_goesTo 72 = .ok (.istore 4, 2) := by decide +kernel
theorem dX12_goesTo_74 : decode cX12_goesTo 74 = .ok (.iinc 5 1, 3) := by decide +kernel
theorem dX12_goesTo_77 : decode cX12_goesTo 77 = .ok (.goto (-43), 3) := by decide +kernel
theorem dX12_goesTo_80 : decode cX12_goesTo 80 = .ok (.iload_n 3, 1) := by decide +kernel
theorem dX12_goesTo_81 : decode cX12_goesTo 81 = .ok (.ireturn, 1) := by decide +kernel
theorem dX12_hall_0 : decode cX12_hall 0 = .ok (.aload_n 0, 1) := by decide +kernel
theorem dX12_hall_1 : decode cX12_hall 1 = .ok (.iconst 0, 1) := by decide +kernel
theorem dX12_hall_2 : decode cX12_hall 2 = .ok (.putfield 74, 3) := by decide +kernel
theorem dX12_hall_5 : decode cX12_hall 5 = .ok (.aload_n 0, 1) := by decide +kernel
theorem dX12_hall_6 : decode cX12_hall 6 = .ok (.invokevirtual 203, 3) := by decide +kernel
theorem dX12_hall_9 : decode cX12_hall 9 = .ok (.aload_n 0, 1) := by decide +kernel
theorem dX12_hall_10 : decode cX12_hall 10 = .ok (.invokevirtual 206, 3) := by decide +kernel
theorem dX12_hall_13 : decode cX12_hall 13 = .ok (.aload_n 0, 1) := by decide +kernel
theorem dX12_hall_14 : decode cX12_hall 14 = .ok (.invokevirtual 184, 3) := by decide +kernel
theorem dX12_hall_17 : decode cX12_hall 17 = .ok (.ifCond .eq 108, 3) := by decide +kernel
theorem dX12_hall_20 : decode cX12_hall 20 = .ok (.aload_n 0, 1) := by decide +kernel
theorem dX12_hall_21 : decode cX12_hall 21 = .ok (.getfield 115, 3) := by decide +kernel
theorem dX12_hall_24 : decode cX12_hall 24 = .ok (.ifCond .eq 101, 3) := by decide +kernel
theorem dX12_hall_27 : decode cX12_hall 27 = .ok (.aload_n 0, 1) := by decide +kernel
theorem dX12_hall_28 : decode cX12_hall 28 = .ok (.getfield 31, 3) := by decide +kernel
theorem dX12_hall_31 : decode cX12_hall 31 = .ok (.iconst 4, 1) := by decide +kernel
theorem dX12_hall_32 : decode cX12_hall 32 = .ok (.iaload, 1) := by decide +kernel
theorem dX12_hall_33 : decode cX12_hall 33 = .ok (.ifCond .ne 64, 3) := by decide +kernel
theorem dX12_hall_36 : decode cX12_hall 36 = .ok (.aload_n 0, 1) := by decide +kernel
theorem dX12_hall_37 : decode cX12_hall 37 = .ok (.ldc2_w 209, 3) := by decide +kernel
theorem dX12_hall_40 : decode cX12_hall 40 = .ok (.invokevirtual 145, 3) := by decide +kernel
theorem dX12_hall_43 : decode cX12_hall 43 = .ok (.aload_n 0, 1) := by decide +kernel
theorem dX12_hall_44 : decode cX12_hall 44 = .ok (.getfield 34, 3) := by decide +kernel
theorem dX12_hall_47 : decode cX12_hall 47 = .ok (.bipush 24, 2) := by decide +kernel
theorem dX12_hall_49 : decode cX12_hall 49 = .ok (.aload_n 0, 1) := by decide +kernel
theorem dX12_hall_50 : decode cX12_hall 50 = .ok (.ldc2_w 211, 3) := by decide +kernel
theorem dX12_hall_53 : decode cX12_hall 53 = .ok (.iconst 1, 1) := by decide +kernel
theorem dX12_hall_54 : decode cX12_hall 54 = .ok (.bipush 6, 2) := by decide +kernel
theorem dX12_hall_56 : decode cX12_hall 56 = .ok (.invokevirtual 172, 3) := by decide +kernel
theorem dX12_hall_59 : decode cX12_hall 59 = .ok (.iastore, 1) := by decide +kernel
theorem dX12_hall_60 : decode cX12_hall 60 = .ok (.aload_n 0, 1) := by decide +kernel
theorem dX12_hall_61 : decode cX12_hall 61 = .ok (.getfield 34, 3) := by decide +kernel
theorem dX12_hall_64 : decode cX12_hall 64 = .ok (.bipush 25, 2) := by decide +kernel
theorem dX12_hall_66 : decode cX12_hall 66 = .ok (.aload_n 0, 1) := by decide +kernel
theorem dX12_hall_67 : decode cX12_hall 67 = .ok (.ldc2_w 213, 3) := by decide +kernel
theorem dX12_hall_70 : decode cX12_hall 70 = .ok (.iconst 1, 1) := by decide +kernel
theorem dX12_hall_71 : decode cX12_hall 71 = .ok (.bipush 6, 2) := by decide +kernel
theorem dX12_hall_73 : decode cX12_hall 73 = .ok (.invokevirtual 172, 3) := by decide +kernel
theorem dX12_hall_76 : decode cX12_hall 76 = .ok (.iastore, 1) := by decide +kernel
theorem dX12_hall_77 : decode cX12_hall 77 = .ok (.aload_n 0, 1) := by decide +kernel
theorem dX12_hall_78 : decode cX12_hall 78 = .ok (.getfield 34, 3) := by decide +kernel
theorem dX12_hall_81 : decode cX12_hall 81 = .ok (.bipush 26, 2) := by decide +kernel
theorem dX12_hall_83 : decode cX12_hall 83 = .ok (.aload_n 0, 1) := by decide +kernel
theorem dX12_hall_84 : decode cX12_hall 84 = .ok (.ldc2_w 215, 3) := by decide +kernel
theorem dX12_hall_87 : decode cX12_hall 87 = .ok (.iconst 0, 1) := by decide +kernel
theorem dX12_hall_88 : decode cX12_hall 88 = .ok (.bipush 12, 2) := by decide +kernel
theorem dX12_hall_90 : decode cX12_hall 90 = .ok (.invokevirtual 172, 3) := by decide +kernel
theorem dX12_hall_93 : decode cX12_hall 93 = .ok (.iastore, 1) := by decide +kernel
theorem dX12_hall_94 : decode cX12_hall 94 = .ok (.goto 7, 3) := by decide +kernel
theorem dX12_hall_97 : decode cX12_hall 97 = .ok (.aload_n 0, 1) := by decide +kernel
theorem dX12_hall_98 : decode cX12_hall 98 = .ok (.invokevirtual 217, 3) := by decide +kernel
theorem dX12_hall_101 : decode cX12_hall 101 = .ok (.aload_n 0, 1) := by decide +kernel
theorem dX12_hall_102 : decode cX12_hall 102 = .ok (.invokevirtual 184, 3) := by decide +kernel
theorem dX12_hall_105 : decode cX12_hall 105 = .ok (.ifCond .eq 7, 3) := by decide +kernel
theorem dX12_hall_108 : decode cX12_hall 108 = .ok (.aload_n 0, 1) := by decide +kernel
theorem dX12_hall_109 : decode cX12_hall 109 = .ok (.invokevirtual 220, 3) := by decide +kernel
theorem dX12_hall_112 : decode cX12_hall 112 = .ok (.aload_n 0, 1) := by decide +kernel
theorem dX12_hall_113 : decode cX12_hall 113 = .ok (.getfield 31, 3) := by decide +kernel
theorem dX12_hall_116 : decode cX12_hall 116 = .ok (.iconst 4, 1) := by decide +kernel
theorem dX12_hall_117 : decode cX12_hall 117 = .ok (.dup2, 1) := by decide +kernel
theorem dX12_hall_118 : decode cX12_hall 118 = .ok (.iaload, 1) := by decide +kernel
theorem dX12_hall_119 : decode cX12_hall 119 = .ok (.iconst 1, 1) := by decide +kernel
theorem dX12_hall_120 : decode cX12_hall 120 = .ok (.iadd, 1) := by decide +kernel
theorem dX12_hall_121 : decode cX12_hall 121 = .ok (.iastore, 1) := by decide +kernel
theorem dX12_hall_122 : decode cX12_hall 122 = .ok (.goto (-109), 3) := by decide +kernel
theorem dX12_hall_125 : decode cX12_hall 125 = .ok (.aload_n 0, 1) := by decide +kernel
theorem dX12_hall_126 : decode cX12_hall 126 = .ok (.invokevirtual 223, 3) := by decide +kernel
theorem dX12_hall_129 : decode cX12_hall 129 = .ok (.aload_n 0, 1) := by decide +kernel
theorem dX12_hall_130 : decode cX12_hall 130 = .ok (.getfield 126, 3) := by decide +kernel
theorem dX12_hall_133 : decode cX12_hall 133 = .ok (.ifCond .eq 6, 3) := by decide +kernel
theorem dX12_hall_136 : decode cX12_hall 136 = .ok (.bipush (-4), 2) := by decide +kernel
theorem dX12_hall_138 : decode cX12_hall 138 = .ok (.ireturn, 1) := by decide +kernel
theorem dX12_hall_139 : decode cX12_hall 139 = .ok (.aload_n 0, 1) := by decide +kernel
theorem dX12_hall_140 : decode cX12_hall 140 = .ok (.iconst 4, 1) := by decide +kernel
theorem dX12_hall_141 : decode cX12_hall 141 = .ok (.iconst 0, 1) := by decide +kernel
theorem dX12_hall_142 : decode cX12_hall 142 = .ok (.invokevirtual 226, 3) := by decide +kernel
theorem dX12_hall_145 : decode cX12_hall 145 = .ok (.aload_n 0, 1) := by decide +kernel
theorem dX12_hall_146 : decode cX12_hall 146 = .ok (.getfield 31, 3) := by decide +kernel
theorem dX12_hall_149 : decode cX12_hall 149 = .ok (.iconst 0, 1) := by decide +kernel
theorem dX12_hall_150 : decode cX12_hall 150 = .ok (.iaload, 1) := by decide +kernel
theorem dX12_hall_151 : decode cX12_hall 151 = .ok (.ireturn, 1) := by decide +kernel
theorem dX12_hasExit_0 : decode cX12_hasExit 0 = .ok (.iconst 0, 1) := by decide +kernel
theorem dX12_hasExit_1 : decode cX12_hasExit 1 = .ok (.istore_n 2, 1) := by decide +kernel
theorem dX12_hasExit_2 : decode cX12_hasExit 2 = .ok (.iload_n 2, 1) := by decide +kernel
theorem dX12_hasExit_3 : decode cX12_hasExit 3 = .ok (.aload_n 0, 1) := by decide +kernel
theorem dX12_hasExit_4 : decode cX12_hasExit 4 = .ok (.iconst 4, 1) := by decide +kernel
theorem dX12_hasExit_5 : decode cX12_hasExit 5 = .ok (.invokevirtual 156, 3) := by decide +kernel
theorem dX12_hasExit_8 : decode cX12_hasExit 8 = .ok (.if_icmp .ge 26, 3) := by decide +kernel
theorem dX12_hasExit_11 : decode cX12_hasExit 11 = .ok (.aload_n 0, 1) := by decide +kernel
theorem dX12_hasExit_12 : decode cX12_hasExit 12 = .ok (.getfield 40, 3) := by decide +kernel
theorem dX12_hasExit_15 : decode cX12_hasExit 15 = .ok (.iconst 4, 1) := by decide +kernel
theorem dX12_hasExit_16 : decode cX12_hasExit 16 = .ok (.bipush 28, 2) := by decide +kernel
theorem dX12_hasExit_18 : decode cX12_hasExit 18 = .ok (.iload_n 2, 1) := by decide +kernel
theorem dX12_hasExit_19 : decode cX12_hasExit 19 = .ok (.iadd, 1) := by decide +kernel
theorem dX12_hasExit_20 : decode cX12_hasExit 20 = .ok (.imul, 1) := by decide +kernel
theorem dX12_hasExit_21 : decode cX12_hasExit 21 = .ok (.iaload, 1) := by decide +kernel
theorem dX12_hasExit_22 : decode cX12_hasExit 22 = .ok (.iload_n 1, 1) := by decide +kernel
theorem dX12_hasExit_23 : decode cX12_hasExit 23 = .ok (.if_icmp .ne 5, 3) := by decide +kernel
theorem dX12_hasExit_26 : decode cX12_hasExit 26 = .ok (.iconst 1, 1) := by decide +kernel
theorem dX12_hasExit_27 : decode cX12_hasExit 27 = .ok (.ireturn, 1) := by decide +kernel
theorem dX12_hasExit_28 : decode cX12_hasExit 28 = .ok (.iinc 2 1, 3) := by decide +kernel
theorem dX12_hasExit_31 : decode cX12_hasExit 31 = .ok (.goto (-29), 3) := by decide +kernel
theorem dX12_hasExit_34 : decode cX12_hasExit 34 = .ok (.iconst 0, 1) := by decide +kernel
theorem dX12_hasExit_35 : decode cX12_hasExit 35 = .ok (.ireturn, 1) := by decide +kernel
theorem dX12_hasRead_0 : decode cX12_hasRead 0 = .ok (.aload_n 0, 1) := by decide +kernel
theorem dX12_hasRead_1 : decode cX12_hasRead 1 = .ok (.getfield 34, 3) := by decide +kernel
theorem dX12_hasRead_4 : decode cX12_hasRead 4 = .ok (.bipush 24, 2) := by decide +kernel
theorem dX12_hasRead_6 : decode cX12_hasRead 6 = .ok (.iload_n 1, 1) := by decide +kernel
theorem dX12_hasRead_7 : decode cX12_hasRead 7 = .ok (.iadd, 1) := by decide +kernel
theorem dX12_hasRead_8 : decode cX12_hasRead 8 = .ok (.iaload, 1) := by decide +kernel
theorem dX12_hasRead_9 : decode cX12_hasRead 9 = .ok (.ireturn, 1) := by decide +kernel
theorem dX12_holds_0 : decode cX12_holds 0 = .ok (.aload_n 0, 1) := by decide +kernel
theorem dX12_holds_1 : decode cX12_holds 1 = .ok (.getfield 56, 3) := by decide +kernel
theorem dX12_holds_4 : decode cX12_holds 4 = .ok (.iload_n 1, 1) := by decide +kernel
theorem dX12_holds_5 : decode cX12_holds 5 = .ok (.iaload, 1) := by decide +kernel
theorem dX12_holds_6 : decode cX12_holds 6 = .ok (.iconst 1, 1) := by decide +kernel
theorem dX12_holds_7 : decode cX12_holds 7 = .ok (.if_icmp .le 12, 3) := by decide +kernel
theorem dX12_holds_10 : decode cX12_holds 10 = .ok (.aload_n 0, 1) := by decide +kernel
theorem dX12_holds_11 : decode cX12_holds 11 = .ok (.getfield 56, 3) := by decide +kernel
theorem dX12_holds_14 : decode cX12_holds 14 = .ok (.iload_n 1, 1) := by decide +kernel
theorem dX12_holds_15 : decode cX12_holds 15 = .ok (.iaload, 1) := by decide +kernel
theorem dX12_holds_16 : decode cX12_holds 16 = .ok (.goto 4, 3) := by decide +kernel
theorem dX12_holds_19 : decode cX12_holds 19 = .ok (.iconst 1, 1) := by decide +kernel
theorem dX12_holds_20 : decode cX12_holds 20 = .ok (.ireturn, 1) := by decide +kernel
theorem dX12_image_0 : decode cX12_image 0 = .ok (.aload_n 0, 1) := by decide +kernel
theorem dX12_image_1 : decode cX12_image 1 = .ok (.iconst 0, 1) := by decide +kernel
theorem dX12_image_2 : decode cX12_image 2 = .ok (.putfield 74, 3) := by decide +kernel
theorem dX12_image_5 : decode cX12_image 5 = .ok (.iload_n 1, 1) := by decide +kernel
theorem dX12_image_6 : decode cX12_image 6 = .ok (.i2l, 1) := by decide +kernel
theorem dX12_image_7 : decode cX12_image 7 = .ok (.lconst 0, 1) := by decide +kernel
theorem dX12_image_8 : decode cX12_image 8 = .ok (.ldc2_w 453, 3) := by decide +kernel
theorem dX12_image_11 : decode cX12_image 11 = .ok (.invokestatic 79, 3) := by decide +kernel
theorem dX12_image_14 : decode cX12_image 14 = .ok (.ifCond .ne 6, 3) := by decide +kernel
theorem dX12_image_17 : decode cX12_image 17 = .ok (.bipush (-2), 2) := by decide +kernel
theorem dX12_image_19 : decode cX12_image 19 = .ok (.ireturn, 1) := by decide +kernel
theorem dX12_image_20 : decode cX12_image 20 = .ok (.aload_n 0, 1) := by decide +kernel
theorem dX12_image_21 : decode cX12_image 21 = .ok (.iconst 0, 1) := by decide +kernel
theorem dX12_image_22 : decode cX12_image 22 = .ok (.iconst 1, 1) := by decide +kernel
theorem dX12_image_23 : decode cX12_image 23 = .ok (.iload_n 1, 1) := by decide +kernel
theorem dX12_image_24 : decode cX12_image 24 = .ok (.iadd, 1) := by decide +kernel
theorem dX12_image_25 : decode cX12_image 25 = .ok (.invokevirtual 226, 3) := by decide +kernel
theorem dX12_image_28 : decode cX12_image 28 = .ok (.aload_n 0, 1) := by decide +kernel
theorem dX12_image_29 : decode cX12_image 29 = .ok (.getfield 50, 3) := by decide +kernel
theorem dX12_image_32 : decode cX12_image 32 = .ok (.iload_n 1, 1) := by decide +kernel
theorem dX12_image_33 : decode cX12_image 33 = .ok (.iconst 1, 1) := by decide +kernel
theorem dX12_image_34 : decode cX12_image 34 = .ok (.bastore, 1) := by decide +kernel
theorem dX12_image_35 : decode cX12_image 35 = .ok (.iconst 0, 1) := by decide +kernel
theorem dX12_image_36 : decode cX12_image 36 = .ok (.ireturn, 1) := by decide +kernel
theorem dX12_in_0 : decode cX12_in 0 = .ok (.lload_n 0, 1) := by decide +kernel
theorem dX12_in_1 : decode cX12_in 1 = .ok (.lload_n 2, 1) := by decide +kernel
theorem dX12_in_2 : decode cX12_in 2 = .ok (.lcmp, 1) := by decide +kernel
theorem dX12_in_3 : decode cX12_in 3 = .ok (.ifCond .lt 14, 3) := by decide +kernel
theorem dX12_in_6 : decode cX12_in 6 = .ok (.lload_n 0, 1) := by decide +kernel
theorem dX12_in_7 : decode cX12_in 7 = .ok (.lload 4, 2) := by decide +kernel
theorem dX12_in_9 : decode cX12_in 9 = .ok (.lcmp, 1) := by decide +kernel
theorem dX12_in_10 : decode cX12_in 10 = .ok (.ifCond .gt 7, 3) := by decide +kernel
theorem dX12_in_13 : decode cX12_in 13 = .ok (.iconst 1, 1) := by decide +kernel
theorem dX12_in_14 : decode cX12_in 14 = .ok (.goto 4, 3) := by decide +kernel
theorem dX12_in_17 : decode cX12_in 17 = .ok (.iconst 0, 1) := by decide +kernel
theorem dX12_in_18 : decode cX12_in 18 = .ok (.ireturn, 1) := by decide +kernel
theorem dX12_init_0 : decode cX12_init 0 = .ok (.aload_n 0, 1) := by decide +kernel
theorem dX12_init_1 : decode cX12_init 1 = .ok (.invokespecial 1, 3) := by decide +kernel
theorem dX12_init_4 : decode cX12_init 4 = .ok (.aload_n 0, 1) := by decide +kernel
theorem dX12_init_5 : decode cX12_init 5 = .ok (.iconst 4, 1) := by decide +kernel
theorem dX12_init_6 : decode cX12_init 6 = .ok (.newarray .int, 2) := by decide +kernel
theorem dX12_init_8 : decode cX12_init 8 = .ok (.putfield 7, 3) := by decide +kernel
theorem dX12_init_11 : decode cX12_init 11 = .ok (.aload_n 0, 1) := by decide +kernel
theorem dX12_init_12 : decode cX12_init 12 = .ok (.iconst 4, 1) := by decide +kernel
theorem dX12_init_13 : decode cX12_init 13 = .ok (.newarray .int, 2) := by decide +kernel
theorem dX12_init_15 : decode cX12_init 15 = .ok (.putfield 13, 3) := by decide +kernel
theorem dX12_init_18 : decode cX12_init 18 = .ok (.aload_n 0, 1) := by decide +kernel
theorem dX12_init_19 : decode cX12_init 19 = .ok (.sipush 240, 3) := by decide +kernel
theorem dX12_init_22 : decode cX12_init 22 = .ok (.newarray .long, 2) := by decide +kernel
theorem dX12_init_24 : decode cX12_init 24 = .ok (.putfield 16, 3) := by decide +kernel
theorem dX12_init_27 : decode cX12_init 27 = .ok (.aload_n 0, 1) := by decide +kernel
theorem dX12_init_28 : decode cX12_init 28 = .ok (.bipush 60, 2) := by decide +kernel
theorem dX12_init_30 : decode cX12_init 30 = .ok (.newarray .long, 2) := by decide +kernel
theorem dX12_init_32 : decode cX12_init 32 = .ok (.putfield 20, 3) := by decide +kernel
theorem dX12_init_35 : decode cX12_init 35 = .ok (.aload_n 0, 1) := by decide +kernel
theorem dX12_init_36 : decode cX12_init 36 = .ok (.sipush 1400, 3) := by decide +kernel
theorem dX12_init_39 : decode cX12_init 39 = .ok (.newarray .byte, 2) := by decide +kernel
theorem dX12_init_41 : decode cX12_init 41 = .ok (.putfield 23, 3) := by decide +kernel
theorem dX12_init_44 : decode cX12_init 44 = .ok (.aload_n 0, 1) := by decide +kernel
theorem dX12_init_45 : decode cX12_init 45 = .ok (.iconst (-1), 1) := by decide +kernel
theorem dX12_init_46 : decode cX12_init 46 = .ok (.putfield 27, 3) := by decide +kernel
theorem dX12_init_49 : decode cX12_init 49 = .ok (.aload_n 0, 1) := by decide +kernel
theorem dX12_init_50 : decode cX12_init 50 = .ok (.iconst 5, 1) := by decide +kernel
theorem dX12_init_51 : decode cX12_init 51 = .ok (.newarray .int, 2) := by decide +kernel
theorem dX12_init_53 : decode cX12_init 53 = .ok (.putfield 31, 3) := by decide +kernel
theorem dX12_init_56 : decode cX12_init 56 = .ok (.aload_n 0, 1) := by decide +kernel
theorem dX12_init_57 : decode cX12_init 57 = .ok (.bipush 30, 2) := by decide +kernel
theorem dX12_init_59 : decode cX12_init 59 = .ok (.newarray .int, 2) := by decide +kernel
theorem dX12_init_61 : decode cX12_init 61 = .ok (.putfield 34, 3) := by decide +kernel
theorem dX12_init_64 : decode cX12_init 64 = .ok (.aload_n 0, 1) := by decide +kernel
theorem dX12_init_65 : decode cX12_init 65 = .ok (.sipush 180, 3) := by decide +kernel
theorem dX12_init_68 : decode cX12_init 68 = .ok (.newarray .int, 2) := by decide +kernel
theorem dX12_init_70 : decode cX12_init 70 = .ok (.putfield 37, 3) := by decide +kernel
theorem dX12_init_73 : decode cX12_init 73 = .ok (.aload_n 0, 1) := by decide +kernel
theorem dX12_init_74 : decode cX12_init 74 = .ok (.sipush 140, 3) := by decide +kernel
theorem dX12_init_77 : decode cX12_init 77 = .ok (.newarray .int, 2) := by decide +kernel
theorem dX12_init_79 : decode cX12_init 79 = .ok (.putfield 40, 3) := by decide +kernel
theorem dX12_init_82 : decode cX12_init 82 = .ok (.aload_n 0, 1) := by decide +kernel
theorem dX12_init_83 : decode cX12_init 83 = .ok (.sipush 180, 3) := by decide +kernel
theorem dX12_init_86 : decode cX12_init 86 = .ok (.newarray .boolean, 2) := by decide +kernel
theorem dX12_init_88 : decode cX12_init 88 = .ok (.putfield 43, 3) := by decide +kernel
theorem dX12_init_91 : decode cX12_init 91 = .ok (.aload_n 0, 1) := by decide +kernel
theorem dX12_init_92 : decode cX12_init 92 = .ok (.sipush 800, 3) := by decide +kernel
theorem dX12_init_95 : decode cX12_init 95 = .ok (.newarray .int, 2) := by decide +kernel
theorem dX12_init_97 : decode cX12_init 97 = .ok (.putfield 47, 3) := by decide +kernel
theorem dX12_init_100 : decode cX12_init 100 = .ok (.aload_n 0, 1) := by decide +kernel
theorem dX12_init_101 : decode cX12_init 101 = .ok (.iconst 3, 1) := by decide +kernel
theorem dX12_init_102 : decode cX12_init 102 = .ok (.newarray .boolean, 2) := by decide +kernel
theorem dX12_init_104 : decode cX12_init 104 = .ok (.putfield 50, 3) := by decide +kernel
theorem dX12_init_107 : decode cX12_init 107 = .ok (.aload_n 0, 1) := by decide +kernel
theorem dX12_init_108 : decode cX12_init 108 = .ok (.sipush 420, 3) := by decide +kernel
theorem dX12_init_111 : decode cX12_init 111 = .ok (.newarray .int, 2) := by decide +kernel
theorem dX12_init_113 : decode cX12_init 113 = .ok (.putfield 53, 3) := by decide +kernel
theorem dX12_init_116 : decode cX12_init 116 = .ok (.aload_n 0, 1) := by decide +kernel
theorem dX12_init_117 : decode cX12_init 117 = .ok (.bipush 36, 2) := by decide +kernel
theorem dX12_init_119 : decode cX12_init 119 = .ok (.newarray .int, 2) := by decide +kernel
theorem dX12_init_121 : decode cX12_init 121 = .ok (.putfield 56, 3) := by decide +kernel
theorem dX12_init_124 : decode cX12_init 124 = .ok (.aload_n 0, 1) := by decide +kernel
theorem dX12_init_125 : decode cX12_init 125 = .ok (.sipush 5040, 3) := by decide +kernel
theorem dX12_init_128 : decode cX12_init 128 = .ok (.newarray .int, 2) := by decide +kernel
theorem dX12_init_130 : decode cX12_init 130 = .ok (.putfield 59, 3) := by decide +kernel
theorem dX12_init_133 : decode cX12_init 133 = .ok (.aload_n 0, 1) := by decide +kernel
theorem dX12_init_134 : decode cX12_init 134 = .ok (.sipush 1440, 3) := by decide +kernel
theorem dX12_init_137 : decode cX12_init 137 = .ok (.newarray .int, 2) := by decide +kernel
theorem dX12_init_139 : decode cX12_init 139 = .ok (.putfield 62, 3) := by decide +kernel
theorem dX12_init_142 : decode cX12_init 142 = .ok (.aload_n 0, 1) := by decide +kernel
theorem dX12_init_143 : decode cX12_init 143 = .ok (.sipush 1440, 3) := by decide +kernel
theorem dX12_init_146 : decode cX12_init 146 = .ok (.newarray .int, 2) := by decide +kernel
theorem dX12_init_148 : decode cX12_init 148 = .ok (.putfield 65, 3) := by decide +kernel
theorem dX12_init_151 : decode cX12_init 151 = .ok (.aload_n 0, 1) := by decide +kernel
theorem dX12_init_152 : decode cX12_init 152 = .ok (.sipush 1440, 3) := by decide +kernel
theorem dX12_init_155 : decode cX12_init 155 = .ok (.newarray .int, 2) := by decide +kernel
theorem dX12_init_157 : decode cX12_init 157 = .ok (.putfield 68, 3) := by decide +kernel
theorem dX12_init_160 : decode cX12_init 160 = .ok (.aload_n 0, 1) := by decide +kernel
theorem dX12_init_161 : decode cX12_init 161 = .ok (.bipush 6, 2) := by decide +kernel
theorem dX12_init_163 : decode cX12_init 163 = .ok (.newarray .int, 2) := by decide +kernel
theorem dX12_init_165 : decode cX12_init 165 = .ok (.putfield 71, 3) := by decide +kernel
theorem dX12_init_168 : decode cX12_init 168 = .ok (.iconst 0, 1) := by decide +kernel
theorem dX12_init_169 : decode cX12_init 169 = .ok (.istore_n 1, 1) := by decide +kernel
theorem dX12_init_170 : decode cX12_init 170 = .ok (.iload_n 1, 1) := by decide +kernel
theorem dX12_init_171 : decode cX12_init 171 = .ok (.iconst 4, 1) := by decide +kernel
theorem dX12_init_172 : decode cX12_init 172 = .ok (.if_icmp .ge 16, 3) := by decide +kernel
theorem dX12_init_175 : decode cX12_init 175 = .ok (.aload_n 0, 1) := by decide +kernel
theorem dX12_init_176 : decode cX12_init 176 = .ok (.getfield 7, 3) := by decide +kernel
theorem dX12_init_179 : decode cX12_init 179 = .ok (.iload_n 1, 1) := by decide +kernel
theorem dX12_init_180 : decode cX12_init 180 = .ok (.iconst (-1), 1) := by decide +kernel
theorem dX12_init_181 : decode cX12_init 181 = .ok (.iastore, 1) := by decide +kernel
theorem dX12_init_182 : decode cX12_init 182 = .ok (.iinc 1 1, 3) := by decide +kernel
theorem dX12_init_185 : decode cX12_init 185 = .ok (.goto (-15), 3) := by decide +kernel
theorem dX12_init_188 : decode cX12_init 188 = .ok (.return_, 1) := by decide +kernel
theorem dX12_is_0 : decode cX12_is 0 = .ok (.aload_n 0, 1) := by decide +kernel
theorem dX12_is_1 : decode cX12_is 1 = .ok (.getfield 126, 3) := by decide +kernel
theorem dX12_is_4 : decode cX12_is 4 = .ok (.ifCond .ne 24, 3) := by decide +kernel
theorem dX12_is_7 : decode cX12_is 7 = .ok (.aload_n 0, 1) := by decide +kernel
theorem dX12_is_8 : decode cX12_is 8 = .ok (.getfield 115, 3) := by decide +kernel
theorem dX12_is_11 : decode cX12_is 11 = .ok (.iconst 1, 1) := by decide +kernel
theorem dX12_is_12 : decode cX12_is 12 = .ok (.if_icmp .ne 16, 3) := by decide +kernel
theorem dX12_is_15 : decode cX12_is 15 = .ok (.aload_n 0, 1) := by decide +kernel
theorem dX12_is_16 : decode cX12_is 16 = .ok (.getfield 111, 3) := by decide +kernel
theorem dX12_is_19 : decode cX12_is 19 = .ok (.lload_n 1, 1) := by decide +kernel
theorem dX12_is_20 : decode cX12_is 20 = .ok (.lcmp, 1) := by decide +kernel
theorem dX12_is_21 : decode cX12_is 21 = .ok (.ifCond .ne 7, 3) := by decide +kernel
theorem dX12_is_24 : decode cX12_is 24 = .ok (.iconst 1, 1) := by decide +kernel
theorem dX12_is_25 : decode cX12_is 25 = .ok (.goto 4, 3) := by decide +kernel
theorem dX12_is_28 : decode cX12_is 28 = .ok (.iconst 0, 1) := by decide +kernel
theorem dX12_is_29 : decode cX12_is 29 = .ok (.ireturn, 1) := by decide +kernel
theorem dX12_isAct_0 : decode cX12_isAct 0 = .ok (.aload_n 0, 1) := by decide +kernel
theorem dX12_isAct_1 : decode cX12_isAct 1 = .ok (.invokevirtual 237, 3) := by decide +kernel
theorem dX12_isAct_4 : decode cX12_isAct 4 = .ok (.ifCond .eq 19, 3) := by decide +kernel
theorem dX12_isAct_7 : decode cX12_isAct 7 = .ok (.iload_n 1, 1) := by decide +kernel
theorem dX12_isAct_8 : decode cX12_isAct 8 = .ok (.i2l, 1) := by decide +kernel
theorem dX12_isAct_9 : decode cX12_isAct 9 = .ok (.lconst 0, 1) := by decide +kernel
theorem dX12_isAct_10 : decode cX12_isAct 10 = .ok (.ldc2_w 240, 3) := by decide +kernel
theorem dX12_isAct_13 : decode cX12_isAct 13 = .ok (.invokestatic 79, 3) := by decide +kernel
theorem dX12_isAct_16 : decode cX12_isAct 16 = .ok (.ifCond .eq 7, 3) := by decide +kernel
theorem dX12_isAct_19 : decode cX12_isAct 19 = .ok (.iconst 1, 1) := by decide +kernel
theorem dX12_isAct_20 : decode cX12_isAct 20 = .ok (.goto 4, 3) := by decide +kernel
theorem dX12_isAct_23 : decode cX12_isAct 23 = .ok (.iconst 0, 1) := by decide +kernel
theorem dX12_isAct_24 : decode cX12_isAct 24 = .ok (.ireturn, 1) := by decide +kernel
theorem dX12_isBehind_0 : decode cX12_isBehind 0 = .ok (.lload_n 0, 1) := by decide +kernel
theorem dX12_isBehind_1 : decode cX12_isBehind 1 = .ok (.lconst 0, 1) := by decide +kernel
theorem dX12_isBehind_2 : decode cX12_isBehind 2 = .ok (.ldc2_w 242, 3) := by decide +kernel
theorem dX12_isBehind_5 : decode cX12_isBehind 5 = .ok (.invokestatic 79, 3) := by decide +kernel
theorem dX12_isBehind_8 : decode cX12_isBehind 8 = .ok (.ireturn, 1) := by decide +kernel
theorem dX12_isBit_0 : decode cX12_isBit 0 = .ok (.iload_n 0, 1) := by decide +kernel
theorem dX12_isBit_1 : decode cX12_isBit 1 = .ok (.iload_n 1, 1) := by decide +kernel
theorem dX12_isBit_2 : decode cX12_isBit 2 = .ok (.ishr, 1) := by decide +kernel
theorem dX12_isBit_3 : decode cX12_isBit 3 = .ok (.iconst 1, 1) := by decide +kernel
theorem dX12_isBit_4 : decode cX12_isBit 4 = .ok (.iand, 1) := by decide +kernel
theorem dX12_isBit_5 : decode cX12_isBit 5 = .ok (.iconst 1, 1) := by decide +kernel
theorem dX12_isBit_6 : decode cX12_isBit 6 = .ok (.if_icmp .ne 7, 3) := by decide +kernel
theorem dX12_isBit_9 : decode cX12_isBit 9 = .ok (.iconst 1, 1) := by decide +kernel
theorem dX12_isBit_10 : decode cX12_isBit 10 = .ok (.goto 4, 3) := by decide +kernel
theorem dX12_isBit_13 : decode cX12_isBit 13 = .ok (.iconst 0, 1) := by decide +kernel
theorem dX12_isBit_14 : decode cX12_isBit 14 = .ok (.ireturn, 1) := by decide +kernel
theorem dX12_isByte_0 : decode cX12_isByte 0 = .ok (.iload_n 1, 1) := by decide +kernel
theorem dX12_isByte_1 : decode cX12_isByte 1 = .ok (.aload_n 0, 1) := by decide +kernel
theorem dX12_isByte_2 : decode cX12_isByte 2 = .ok (.getfield 91, 3) := by decide +kernel
theorem dX12_isByte_5 : decode cX12_isByte 5 = .ok (.if_icmp .ge 27, 3) := by decide +kernel
theorem dX12_isByte_8 : decode cX12_isByte 8 = .ok (.aload_n 0, 1) := by decide +kernel
theorem dX12_isByte_9 : decode cX12_isByte 9 = .ok (.getfield 23, 3) := by decide +kernel
theorem dX12_isByte_12 : decode cX12_isByte 12 = .ok (.iload_n 1, 1) := by decide +kernel
theorem dX12_isByte_13 : decode cX12_isByte 13 = .ok (.baload, 1) := by decide +kernel
theorem dX12_isByte_14 : decode cX12_isByte 14 = .ok (.iload_n 2, 1) := by decide +kernel
theorem dX12_isByte_15 : decode cX12_isByte 15 = .ok (.if_icmp .lt 17, 3) := by decide +kernel
theorem dX12_isByte_18 : decode cX12_isByte 18 = .ok (.aload_n 0, 1) := by decide +kernel
theorem dX12_isByte_19 : decode cX12_isByte 19 = .ok (.getfield 23, 3) := by decide +kernel
theorem dX12_isByte_22 : decode cX12_isByte 22 = .ok (.iload_n 1, 1) := by decide +kernel
theorem dX12_isByte_23 : decode cX12_isByte 23 = .ok (.baload, 1) := by decide +kernel
theorem dX12_isByte_24 : decode cX12_isByte 24 = .ok (.iload_n 3, 1) := by decide +kernel
theorem dX12_isByte_25 : decode cX12_isByte 25 = .ok (.if_icmp .gt 7, 3) := by decide +kernel
theorem dX12_isByte_28 : decode cX12_isByte 28 = .ok (.iconst 1, 1) := by decide +kernel
theorem dX12_isByte_29 : decode cX12_isByte 29 = .ok (.goto 4, 3) := by decide +kernel
theorem dX12_isByte_32 : decode cX12_isByte 32 = .ok (.iconst 0, 1) := by decide +kernel
theorem dX12_isByte_33 : decode cX12_isByte 33 = .ok (.ireturn, 1) := by decide +kernel
theorem dX12_isDraw_0 : decode cX12_isDraw 0 = .ok (.aload_n 0, 1) := by decide +kernel
theorem dX12_isDraw_1 : decode cX12_isDraw 1 = .ok (.iload_n 2, 1) := by decide +kernel
theorem dX12_isDraw_2 : decode cX12_isDraw 2 = .ok (.invokevirtual 273, 3) := by decide +kernel
theorem dX12_isDraw_5 : decode cX12_isDraw 5 = .ok (.ifCond .eq 28, 3) := by decide +kernel
theorem dX12_isDraw_8 : decode cX12_isDraw 8 = .ok (.iload_n 1, 1) := by decide +kernel
theorem dX12_isDraw_9 : decode cX12_isDraw 9 = .ok (.i2l, 1) := by decide +kernel
theorem dX12_isDraw_10 : decode cX12_isDraw 10 = .ok (.lconst 0, 1) := by decide +kernel
theorem dX12_isDraw_11 : decode cX12_isDraw 11 = .ok (.ldc2_w 442, 3) := by decide +kernel
theorem dX12_isDraw_14 : decode cX12_isDraw 14 = .ok (.invokestatic 79, 3) := by decide +kernel
theorem dX12_isDraw_17 : decode cX12_isDraw 17 = .ok (.ifCond .eq 16, 3) := by decide +kernel
theorem dX12_isDraw_20 : decode cX12_isDraw 20 = .ok (.aload_n 0, 1) := by decide +kernel
theorem dX12_isDraw_21 : decode cX12_isDraw 21 = .ok (.getfield 34, 3) := by decide +kernel
theorem dX12_isDraw_24 : decode cX12_isDraw 24 = .ok (.iconst 4, 1) := by decide +kernel
theorem dX12_isDraw_25 : decode cX12_isDraw 25 = .ok (.iaload, 1) := by decide +kernel
theorem dX12_isDraw_26 : decode cX12_isDraw 26 = .ok (.ifCond .le 7, 3) := by decide +kernel
theorem dX12_isDraw_29 : decode cX12_isDraw 29 = .ok (.iconst 1, 1) := by decide +kernel
theorem dX12_isDraw_30 : decode cX12_isDraw 30 = .ok (.goto 4, 3) := by decide +kernel
theorem dX12_isDraw_33 : decode cX12_isDraw 33 = .ok (.iconst 0, 1) := by decide +kernel
theorem dX12_isDraw_34 : decode cX12_isDraw 34 = .ok (.ireturn, 1) := by decide +kernel
theorem dX12_isExit_0 : decode cX12_isExit 0 = .ok (.lload_n 1, 1) := by decide +kernel
theorem dX12_isExit_1 : decode cX12_isExit 1 = .ok (.lconst 0, 1) := by decide +kernel
theorem dX12_isExit_2 : decode cX12_isExit 2 = .ok (.aload_n 0, 1) := by decide +kernel
theorem dX12_isExit_3 : decode cX12_isExit 3 = .ok (.getfield 34, 3) := by decide +kernel
theorem dX12_isExit_6 : decode cX12_isExit 6 = .ok (.iconst 4, 1) := by decide +kernel
theorem dX12_isExit_7 : decode cX12_isExit 7 = .ok (.iaload, 1) := by decide +kernel
theorem dX12_isExit_8 : decode cX12_isExit 8 = .ok (.i2l, 1) := by decide +kernel
theorem dX12_isExit_9 : decode cX12_isExit 9 = .ok (.lconst 1, 1) := by decide +kernel
theorem dX12_isExit_10 : decode cX12_isExit 10 = .ok (.lsub, 1) := by decide +kernel
theorem dX12_isExit_11 : decode cX12_isExit 11 = .ok (.invokestatic 79, 3) := by decide +kernel
theorem dX12_isExit_14 : decode cX12_isExit 14 = .ok (.ireturn, 1) := by decide +kernel
theorem dX12_isFell_0 : decode cX12_isFell 0 = .ok (.iconst 0, 1) := by decide +kernel
theorem dX12_isFell_1 : decode cX12_isFell 1 = .ok (.istore_n 3, 1) := by decide +kernel
theorem dX12_isFell_2 : decode cX12_isFell 2 = .ok (.iload_n 3, 1) := by decide +kernel
theorem dX12_isFell_3 : decode cX12_isFell 3 = .ok (.aload_n 0, 1) := by decide +kernel
theorem dX12_isFell_4 : decode cX12_isFell 4 = .ok (.getfield 13, 3) := by decide +kernel
theorem dX12_isFell_7 : decode cX12_isFell 7 = .ok (.iload_n 1, 1) := by decide +kernel
theorem dX12_isFell_8 : decode cX12_isFell 8 = .ok (.iaload, 1) := by decide +kernel
theorem dX12_isFell_9 : decode cX12_isFell 9 = .ok (.if_icmp .ge 45, 3) := by decide +kernel
theorem dX12_isFell_12 : decode cX12_isFell 12 = .ok (.aload_n 0, 1) := by decide +kernel
theorem dX12_isFell_13 : decode cX12_isFell 13 = .ok (.aload_n 0, 1) := by decide +kernel
theorem dX12_isFell_14 : decode cX12_isFell 14 = .ok (.iload_n 1, 1) := by decide +kernel
theorem dX12_isFell_15 : decode cX12_isFell 15 = .ok (.iload_n 3, 1) := by decide +kernel
theorem dX12_isFell_16 : decode cX12_isFell 16 = .ok (.invokevirtual 382, 3) := by decide +kernel
theorem dX12_isFell_19 : decode cX12_isFell 19 = .ok (.l2i, 1) := by decide +kernel
theorem dX12_isFell_20 : decode cX12_isFell 20 = .ok (.aload_n 0, 1) := by decide +kernel
theorem dX12_isFell_21 : decode cX12_isFell 21 = .ok (.iload_n 1, 1) := by decide +kernel
theorem dX12_isFell_22 : decode cX12_isFell 22 = .ok (.iload_n 3, 1) := by decide +kernel
theorem dX12_isFell_23 : decode cX12_isFell 23 = .ok (.iconst 1, 1) := by decide +kernel
theorem dX12_isFell_24 : decode cX12_isFell 24 = .ok (.iadd, 1) := by decide +kernel
theorem dX12_isFell_25 : decode cX12_isFell 25 = .ok (.invokevirtual 382, 3) := by decide +kernel
theorem dX12_isFell_28 : decode cX12_isFell 28 = .ok (.l2i, 1) := by decide +kernel
theorem dX12_isFell_29 : decode cX12_isFell 29 = .ok (.iload_n 2, 1) := by decide +kernel
theorem dX12_isFell_30 : decode cX12_isFell 30 = .ok (.invokevirtual 314, 3) := by decide +kernel
theorem dX12_isFell_33 : decode cX12_isFell 33 = .ok (.i2l, 1) := by decide +kernel
theorem dX12_isFell_34 : decode cX12_isFell 34 = .ok (.aload_n 0, 1) := by decide +kernel
theorem dX12_isFell_35 : decode cX12_isFell 35 = .ok (.iload_n 1, 1) := by decide +kernel
theorem dX12_isFell_36 : decode cX12_isFell 36 = .ok (.iload_n 3, 1) := by decide +kernel
theorem dX12_isFell_37 : decode cX12_isFell 37 = .ok (.iconst 2, 1) := by decide +kernel
theorem dX12_isFell_38 : decode cX12_isFell 38 = .ok (.iadd, 1) := by decide +kernel
theorem dX12_isFell_39 : decode cX12_isFell 39 = .ok (.invokevirtual 382, 3) := by decide +kernel
theorem dX12_isFell_42 : decode cX12_isFell 42 = .ok (.lcmp, 1) := by decide +kernel
theorem dX12_isFell_43 : decode cX12_isFell 43 = .ok (.ifCond .eq 5, 3) := by decide +kernel
theorem dX12_isFell_46 : decode cX12_isFell 46 = .ok (.iconst 0, 1) := by decide +kernel
theorem dX12_isFell_47 : decode cX12_isFell 47 = .ok (.ireturn, 1) := by decide +kernel
theorem dX12_isFell_48 : decode cX12_isFell 48 = .ok (.iinc 3 3, 3) := by decide +kernel
theorem dX12_isFell_51 : decode cX12_isFell 51 = .ok (.goto (-49), 3) := by decide +kernel
theorem dX12_isFell_54 : decode cX12_isFell 54 = .ok (.iconst 1, 1) := by decide +kernel
theorem dX12_isFell_55 : decode cX12_isFell 55 = .ok (.ireturn, 1) := by decide +kernel
theorem dX12_isGood_0 : decode cX12_isGood 0 = .ok (.aload_n 0, 1) := by decide +kernel
theorem dX12_isGood_1 : decode cX12_isGood 1 = .ok (.getfield 126, 3) := by decide +kernel
theorem dX12_isGood_4 : decode cX12_isGood 4 = .ok (.ifCond .ne 7, 3) := by decide +kernel
theorem dX12_isGood_7 : decode cX12_isGood 7 = .ok (.iconst 1, 1) := by decide +kernel
theorem dX12_isGood_8 : decode cX12_isGood 8 = .ok (.goto 4, 3) := by decide +kernel
theorem dX12_isGood_11 : decode cX12_isGood 11 = .ok (.iconst 0, 1) := by decide +kernel
theorem dX12_isGood_12 : decode cX12_isGood 12 = .ok (.ireturn, 1) := by decide +kernel
theorem dX12_isGoodExit_0 : decode cX12_isGoodExit 0 = .ok (.aload_n 0, 1) := by decide +kernel
theorem dX12_isGoodExit_1 : decode cX12_isGoodExit 1 = .ok (.aload_n 0, 1) := by decide +kernel
theorem dX12_isGoodExit_2 : decode cX12_isGoodExit 2 = .ok (.iload_n 1, 1) := by decide +kernel
theorem dX12_isGoodExit_3 : decode cX12_isGoodExit 3 = .ok (.iload_n 2, 1) := by decide +kernel
theorem dX12_isGoodExit_4 : decode cX12_isGoodExit 4 = .ok (.invokevirtual 267, 3) := by decide +kernel
theorem dX12_isGoodExit_7 : decode cX12_isGoodExit 7 = .ok (.invokevirtual 270, 3) := by decide +kernel
theorem dX12_isGoodExit_10 : decode cX12_isGoodExit 10 = .ok (.ireturn, 1) := by decide +kernel
theorem dX12_isGoodNow_0 : decode cX12_isGoodNow 0 = .ok (.aload_n 0, 1) := by decide +kernel
theorem dX12_isGoodNow_1 : decode cX12_isGoodNow 1 = .ok (.iload_n 1, 1) := by decide +kernel
theorem dX12_isGoodNow_2 : decode cX12_isGoodNow 2 = .ok (.invokevirtual 270, 3) := by decide +kernel
theorem dX12_isGoodNow_5 : decode cX12_isGoodNow 5 = .ok (.ifCond .eq 16, 3) := by decide +kernel
theorem dX12_isGoodNow_8 : decode cX12_isGoodNow 8 = .ok (.aload_n 0, 1) := by decide +kernel
theorem dX12_isGoodNow_9 : decode cX12_isGoodNow 9 = .ok (.iload_n 1, 1) := by decide +kernel
theorem dX12_isGoodNow_10 : decode cX12_isGoodNow 10 = .ok (.iload_n 2, 1) := by decide +kernel
theorem dX12_isGoodNow_11 : decode cX12_isGoodNow 11 = .ok (.invokevirtual 279, 3) := by decide +kernel
theorem dX12_isGoodNow_14 : decode cX12_isGoodNow 14 = .ok (.ifCond .eq 7, 3) := by decide +kernel
theorem dX12_isGoodNow_17 : decode cX12_isGoodNow 17 = .ok (.iconst 1, 1) := by decide +kernel
theorem dX12_isGoodNow_18 : decode cX12_isGoodNow 18 = .ok (.goto 4, 3) := by decide +kernel
theorem dX12_isGoodNow_21 : decode cX12_isGoodNow 21 = .ok (.iconst 0, 1) := by decide +kernel
theorem dX12_isGoodNow_22 : decode cX12_isGoodNow 22 = .ok (.ireturn, 1) := by decide +kernel
theorem dX12_isGoodPlace_0 : decode cX12_isGoodPlace 0 = .ok (.aload_n 0, 1) := by decide +kernel
theorem dX12_isGoodPlace_1 : decode cX12_isGoodPlace 1 = .ok (.iload_n 1, 1) := by decide +kernel
theorem dX12_isGoodPlace_2 : decode cX12_isGoodPlace 2 = .ok (.iconst 2, 1) := by decide +kernel
theorem dX12_isGoodPlace_3 : decode cX12_isGoodPlace 3 = .ok (.invokevirtual 244, 3) := by decide +kernel
theorem dX12_isGoodPlace_6 : decode cX12_isGoodPlace 6 = .ok (.ifCond .eq 13, 3) := by decide +kernel
theorem dX12_isGoodPlace_9 : decode cX12_isGoodPlace 9 = .ok (.aload_n 0, 1) := by decide +kernel
theorem dX12_isGoodPlace_10 : decode cX12_isGoodPlace 10 = .ok (.iload_n 1, 1) := by decide +kernel
theorem dX12_isGoodPlace_11 : decode cX12_isGoodPlace 11 = .ok (.iconst 2, 1) := by decide +kernel
theorem dX12_isGoodPlace_12 : decode cX12_isGoodPlace 12 = .ok (.invokevirtual 244, 3) := by decide +kernel
theorem dX12_isGoodPlace_15 : decode cX12_isGoodPlace 15 = .ok (.iconst 4, 1) := by decide +kernel
theorem dX12_isGoodPlace_16 : decode cX12_isGoodPlace 16 = .ok (.if_icmp .ne 7, 3) := by decide +kernel
theorem dX12_isGoodPlace_19 : decode cX12_isGoodPlace 19 = .ok (.iconst 1, 1) := by decide +kernel
theorem dX12_isGoodPlace_20 : decode cX12_isGoodPlace 20 = .ok (.goto 4, 3) := by decide +kernel
theorem dX12_isGoodPlace_23 : decode cX12_isGoodPlace 23 = .ok (.iconst 0, 1) := by decide +kernel
theorem dX12_isGoodPlace_24 : decode cX12_isGoodPlace 24 = .ok (.ireturn, 1) := by decide +kernel
theorem dX12_isHall_0 : decode cX12_isHall 0 = .ok (.aload_n 0, 1) := by decide +kernel
theorem dX12_isHall_1 : decode cX12_isHall 1 = .ok (.getfield 31, 3) := by decide +kernel
theorem dX12_isHall_4 : decode cX12_isHall 4 = .ok (.iconst 0, 1) := by decide +kernel
theorem dX12_isHall_5 : decode cX12_isHall 5 = .ok (.iaload, 1) := by decide +kernel
theorem dX12_isHall_6 : decode cX12_isHall 6 = .ok (.ifCond .le 7, 3) := by decide +kernel
theorem dX12_isHall_9 : decode cX12_isHall 9 = .ok (.iconst 1, 1) := by decide +kernel
theorem dX12_isHall_10 : decode cX12_isHall 10 = .ok (.goto 4, 3) := by decide +kernel
theorem dX12_isHall_13 : decode cX12_isHall 13 = .ok (.iconst 0, 1) := by decide +kernel
theorem dX12_isHall_14 : decode cX12_isHall 14 = .ok (.ireturn, 1) := by decide +kernel
theorem dX12_isLawful_0 : decode cX12_isLawful 0 = .ok (.aload_n 0, 1) := by decide +kernel
theorem dX12_isLawful_1 : decode cX12_isLawful 1 = .ok (.iload_n 1, 1) := by decide +kernel
theorem dX12_isLawful_2 : decode cX12_isLawful 2 = .ok (.invokevirtual 317, 3) := by decide +kernel
theorem dX12_isLawful_5 : decode cX12_isLawful 5 = .ok (.i2l, 1) := by decide +kernel
theorem dX12_isLawful_6 : decode cX12_isLawful 6 = .ok (.lconst 1, 1) := by decide +kernel
theorem dX12_isLawful_7 : decode cX12_isLawful 7 = .ok (.aload_n 0, 1) := by decide +kernel
theorem dX12_isLawful_8 : decode cX12_isLawful 8 = .ok (.getfield 34, 3) := by decide +kernel
theorem dX12_isLawful_11 : decode cX12_isLawful 11 = .ok (.iconst 2, 1) := by decide +kernel
theorem dX12_isLawful_12 : decode cX12_isLawful 12 = .ok (.iaload, 1) := by decide +kernel
theorem dX12_isLawful_13 : decode cX12_isLawful 13 = .ok (.i2l, 1) := by decide +kernel
theorem dX12_isLawful_14 : decode cX12_isLawful 14 = .ok (.invokestatic 79, 3) := by decide +kernel
theorem dX12_isLawful_17 : decode cX12_isLawful 17 = .ok (.ireturn, 1) := by decide +kernel
theorem dX12_isOver_0 : decode cX12_isOver 0 = .ok (.aload_n 0, 1) := by decide +kernel
theorem dX12_isOver_1 : decode cX12_isOver 1 = .ok (.iconst 0, 1) := by decide +kernel
theorem dX12_isOver_2 : decode cX12_isOver 2 = .ok (.putfield 91, 3) := by decide +kernel
theorem dX12_isOver_5 : decode cX12_isOver 5 = .ok (.aload_n 0, 1) := by decide +kernel
theorem dX12_isOver_6 : decode cX12_isOver 6 = .ok (.aload_n 0, 1) := by decide +kernel
theorem dX12_isOver_7 : decode cX12_isOver 7 = .ok (.getfield 126, 3) := by decide +kernel
theorem dX12_isOver_10 : decode cX12_isOver 10 = .ok (.putfield 153, 3) := by decide +kernel
theorem dX12_isOver_13 : decode cX12_isOver 13 = .ok (.aload_n 0, 1) := by decide +kernel
theorem dX12_isOver_14 : decode cX12_isOver 14 = .ok (.aload_n 0, 1) := by decide +kernel
theorem dX12_isOver_15 : decode cX12_isOver 15 = .ok (.getfield 126, 3) := by decide +kernel
theorem dX12_isOver_18 : decode cX12_isOver 18 = .ok (.ifCond .ne 7, 3) := by decide +kernel
theorem dX12_isOver_21 : decode cX12_isOver 21 = .ok (.iconst (-1), 1) := by decide +kernel
theorem dX12_isOver_22 : decode cX12_isOver 22 = .ok (.goto 7, 3) := by decide +kernel
theorem dX12_isOver_25 : decode cX12_isOver 25 = .ok (.aload_n 0, 1) := by decide +kernel
theorem dX12_isOver_26 : decode cX12_isOver 26 = .ok (.getfield 129, 3) := by decide +kernel
theorem dX12_isOver_29 : decode cX12_isOver 29 = .ok (.putfield 27, 3) := by decide +kernel
theorem dX12_isOver_32 : decode cX12_isOver 32 = .ok (.return_, 1) := by decide +kernel
theorem dX12_isPlace_0 : decode cX12_isPlace 0 = .ok (.lload_n 1, 1) := by decide +kernel
theorem dX12_isPlace_1 : decode cX12_isPlace 1 = .ok (.lconst 0, 1) := by decide +kernel
theorem dX12_isPlace_2 : decode cX12_isPlace 2 = .ok (.aload_n 0, 1) := by decide +kernel
theorem dX12_isPlace_3 : decode cX12_isPlace 3 = .ok (.getfield 34, 3) := by decide +kernel
theorem dX12_isPlace_6 : decode cX12_isPlace 6 = .ok (.iconst 3, 1) := by decide +kernel
theorem dX12_isPlace_7 : decode cX12_isPlace 7 = .ok (.iaload, 1) := by decide +kernel
theorem dX12_isPlace_8 : decode cX12_isPlace 8 = .ok (.i2l, 1) := by decide +kernel
theorem dX12_isPlace_9 : decode cX12_isPlace 9 = .ok (.lconst 1, 1) := by decide +kernel
theorem dX12_isPlace_10 : decode cX12_isPlace 10 = .ok (.lsub, 1) := by decide +kernel
theorem dX12_isPlace_11 : decode cX12_isPlace 11 = .ok (.invokestatic 79, 3) := by decide +kernel
theorem dX12_isPlace_14 : decode cX12_isPlace 14 = .ok (.ireturn, 1) := by decide +kernel
theorem dX12_isRow_0 : decode cX12_isRow 0 = .ok (.lload_n 1, 1) := by decide +kernel
theorem dX12_isRow_1 : decode cX12_isRow 1 = .ok (.lconst 0, 1) := by decide +kernel
theorem dX12_isRow_2 : decode cX12_isRow 2 = .ok (.aload_n 0, 1) := by decide +kernel
theorem dX12_isRow_3 : decode cX12_isRow 3 = .ok (.getfield 34, 3) := by decide +kernel
theorem dX12_isRow_6 : decode cX12_isRow 6 = .ok (.iconst 0, 1) := by decide +kernel
theorem dX12_isRow_7 : decode cX12_isRow 7 = .ok (.iaload, 1) := by decide +kernel
theorem dX12_isRow_8 : decode cX12_isRow 8 = .ok (.i2l, 1) := by decide +kernel
theorem dX12_isRow_9 : decode cX12_isRow 9 = .ok (.lconst 1, 1) := by decide +kernel
theorem dX12_isRow_10 : decode cX12_isRow 10 = .ok (.lsub, 1) := by decide +kernel
theorem dX12_isRow_11 : decode cX12_isRow 11 = .ok (.invokestatic 79, 3) := by decide +kernel
theorem dX12_isRow_14 : decode cX12_isRow 14 = .ok (.ireturn, 1) := by decide +kernel
theorem dX12_isSeat_0 : decode cX12_isSeat 0 = .ok (.aload_n 0, 1) := by decide +kernel
theorem dX12_isSeat_1 : decode cX12_isSeat 1 = .ok (.lload_n 1, 1) := by decide +kernel
theorem dX12_isSeat_2 : decode cX12_isSeat 2 = .ok (.invokevirtual 234, 3) := by decide +kernel
theorem dX12_isSeat_5 : decode cX12_isSeat 5 = .ok (.ifCond .eq 24, 3) := by decide +kernel
theorem dX12_isSeat_8 : decode cX12_isSeat 8 = .ok (.lload_n 3, 1) := by decide +kernel
theorem dX12_isSeat_9 : decode cX12_isSeat 9 = .ok (.lconst 0, 1) := by decide +kernel
theorem dX12_isSeat_10 : decode cX12_isSeat 10 = .ok (.aload_n 0, 1) := by decide +kernel
theorem dX12_isSeat_11 : decode cX12_isSeat 11 = .ok (.getfield 34, 3) := by decide +kernel
theorem dX12_isSeat_14 : decode cX12_isSeat 14 = .ok (.iconst 1, 1) := by decide +kernel
theorem dX12_isSeat_15 : decode cX12_isSeat 15 = .ok (.iaload, 1) := by decide +kernel
theorem dX12_isSeat_16 : decode cX12_isSeat 16 = .ok (.i2l, 1) := by decide +kernel
theorem dX12_isSeat_17 : decode cX12_isSeat 17 = .ok (.lconst 1, 1) := by decide +kernel
theorem dX12_isSeat_18 : decode cX12_isSeat 18 = .ok (.lsub, 1) := by decide +kernel
theorem dX12_isSeat_19 : decode cX12_isSeat 19 = .ok (.invokestatic 79, 3) := by decide +kernel
theorem dX12_isSeat_22 : decode cX12_isSeat 22 = .ok (.ifCond .eq 7, 3) := by decide +kernel
theorem dX12_isSeat_25 : decode cX12_isSeat 25 = .ok (.iconst 1, 1) := by decide +kernel
theorem dX12_isSeat_26 : decode cX12_isSeat 26 = .ok (.goto 4, 3) := by decide +kernel
theorem dX12_isSeat_29 : decode cX12_isSeat 29 = .ok (.iconst 0, 1) := by decide +kernel
theorem dX12_isSeat_30 : decode cX12_isSeat 30 = .ok (.ireturn, 1) := by decide +kernel
theorem dX12_isSeen_0 : decode cX12_isSeen 0 = .ok (.iconst 0, 1) := by decide +kernel
theorem dX12_isSeen_1 : decode cX12_isSeen 1 = .ok (.istore_n 3, 1) := by decide +kernel
theorem dX12_isSeen_2 : decode cX12_isSeen 2 = .ok (.iload_n 3, 1) := by decide +kernel
theorem dX12_isSeen_3 : decode cX12_isSeen 3 = .ok (.aload_n 0, 1) := by decide +kernel
theorem dX12_isSeen_4 : decode cX12_isSeen 4 = .ok (.getfield 13, 3) := by decide +kernel
theorem dX12_isSeen_7 : decode cX12_isSeen 7 = .ok (.iload_n 1, 1) := by decide +kernel
theorem dX12_isSeen_8 : decode cX12_isSeen 8 = .ok (.iaload, 1) := by decide +kernel
theorem dX12_isSeen_9 : decode cX12_isSeen 9 = .ok (.if_icmp .ge 36, 3) := by decide +kernel
theorem dX12_isSeen_12 : decode cX12_isSeen 12 = .ok (.aload_n 0, 1) := by decide +kernel
theorem dX12_isSeen_13 : decode cX12_isSeen 13 = .ok (.aload_n 0, 1) := by decide +kernel
theorem dX12_isSeen_14 : decode cX12_isSeen 14 = .ok (.iload_n 1, 1) := by decide +kernel
theorem dX12_isSeen_15 : decode cX12_isSeen 15 = .ok (.iload_n 3, 1) := by decide +kernel
theorem dX12_isSeen_16 : decode cX12_isSeen 16 = .ok (.invokevirtual 382, 3) := by decide +kernel
theorem dX12_isSeen_19 : decode cX12_isSeen 19 = .ok (.l2i, 1) := by decide +kernel
theorem dX12_isSeen_20 : decode cX12_isSeen 20 = .ok (.iload_n 2, 1) := by decide +kernel
theorem dX12_isSeen_21 : decode cX12_isSeen 21 = .ok (.invokevirtual 267, 3) := by decide +kernel
theorem dX12_isSeen_24 : decode cX12_isSeen 24 = .ok (.i2l, 1) := by decide +kernel
theorem dX12_isSeen_25 : decode cX12_isSeen 25 = .ok (.aload_n 0, 1) := by decide +kernel
theorem dX12_isSeen_26 : decode cX12_isSeen 26 = .ok (.iload_n 1, 1) := by decide +kernel
theorem dX12_isSeen_27 : decode cX12_isSeen 27 = .ok (.iload_n 3, 1) := by decide +kernel
theorem dX12_isSeen_28 : decode cX12_isSeen 28 = .ok (.iconst 1, 1) := by decide +kernel
theorem dX12_isSeen_29 : decode cX12_isSeen 29 = .ok (.iadd, 1) := by decide +kernel
theorem dX12_isSeen_30 : decode cX12_isSeen 30 = .ok (.invokevirtual 382, 3) := by decide +kernel
theorem dX12_isSeen_33 : decode cX12_isSeen 33 = .ok (.lcmp, 1) := by decide +kernel
theorem dX12_isSeen_34 : decode cX12_isSeen 34 = .ok (.ifCond .eq 5, 3) := by decide +kernel
theorem dX12_isSeen_37 : decode cX12_isSeen 37 = .ok (.iconst 0, 1) := by decide +kernel
theorem dX12_isSeen_38 : decode cX12_isSeen 38 = .ok (.ireturn, 1) := by decide +kernel
theorem dX12_isSeen_39 : decode cX12_isSeen 39 = .ok (.iinc 3 2, 3) := by decide +kernel
theorem dX12_isSeen_42 : decode cX12_isSeen 42 = .ok (.goto (-40), 3) := by decide +kernel
theorem dX12_isSeen_45 : decode cX12_isSeen 45 = .ok (.iconst 1, 1) := by decide +kernel
theorem dX12_isSeen_46 : decode cX12_isSeen 46 = .ok (.ireturn, 1) := by decide +kernel
theorem dX12_isSlot_0 : decode cX12_isSlot 0 = .ok (.iload_n 0, 1) := by decide +kernel
theorem dX12_isSlot_1 : decode cX12_isSlot 1 = .ok (.i2l, 1) := by decide +kernel
theorem dX12_isSlot_2 : decode cX12_isSlot 2 = .ok (.lconst 0, 1) := by decide +kernel
theorem dX12_isSlot_3 : decode cX12_isSlot 3 = .ok (.ldc2_w 77, 3) := by decide +kernel
theorem dX12_isSlot_6 : decode cX12_isSlot 6 = .ok (.invokestatic 79, 3) := by decide +kernel
theorem dX12_isSlot_9 : decode cX12_isSlot 9 = .ok (.ireturn, 1) := by decide +kernel
theorem dX12_isStayed_0 : decode cX12_isStayed 0 = .ok (.iconst 0, 1) := by decide +kernel
theorem dX12_isStayed_1 : decode cX12_isStayed 1 = .ok (.istore_n 3, 1) := by decide +kernel
theorem dX12_isStayed_2 : decode cX12_isStayed 2 = .ok (.iload_n 3, 1) := by decide +kernel
theorem dX12_isStayed_3 : decode cX12_isStayed 3 = .ok (.aload_n 0, 1) := by decide +kernel
theorem dX12_isStayed_4 : decode cX12_isStayed 4 = .ok (.getfield 34, 3) := by decide +kernel
theorem dX12_isStayed_7 : decode cX12_isStayed 7 = .ok (.iconst 4, 1) := by decide +kernel
theorem dX12_isStayed_8 : decode cX12_isStayed 8 = .ok (.iaload, 1) := by decide +kernel
theorem dX12_isStayed_9 : decode cX12_isStayed 9 = .ok (.if_icmp .ge 35, 3) := by decide +kernel
theorem dX12_isStayed_12 : decode cX12_isStayed 12 = .ok (.aload_n 0, 1) := by decide +kernel
theorem dX12_isStayed_13 : decode cX12_isStayed 13 = .ok (.iload_n 3, 1) := by decide +kernel
theorem dX12_isStayed_14 : decode cX12_isStayed 14 = .ok (.iload_n 2, 1) := by decide +kernel
theorem dX12_isStayed_15 : decode cX12_isStayed 15 = .ok (.invokevirtual 257, 3) := by decide +kernel
theorem dX12_isStayed_18 : decode cX12_isStayed 18 = .ok (.ifCond .eq 20, 3) := by decide +kernel
theorem dX12_isStayed_21 : decode cX12_isStayed 21 = .ok (.aload_n 0, 1) := by decide +kernel
theorem dX12_isStayed_22 : decode cX12_isStayed 22 = .ok (.getfield 53, 3) := by decide +kernel
theorem dX12_isStayed_25 : decode cX12_isStayed 25 = .ok (.bipush 7, 2) := by decide +kernel
theorem dX12_isStayed_27 : decode cX12_isStayed 27 = .ok (.iload_n 2, 1) := by decide +kernel
theorem dX12_isStayed_28 : decode cX12_isStayed 28 = .ok (.imul, 1) := by decide +kernel
theorem dX12_isStayed_29 : decode cX12_isStayed 29 = .ok (.iload_n 3, 1) := by decide +kernel
theorem dX12_isStayed_30 : decode cX12_isStayed 30 = .ok (.iadd, 1) := by decide +kernel
theorem dX12_isStayed_31 : decode cX12_isStayed 31 = .ok (.iaload, 1) := by decide +kernel
theorem dX12_isStayed_32 : decode cX12_isStayed 32 = .ok (.iload_n 1, 1) := by decide +kernel
theorem dX12_isStayed_33 : decode cX12_isStayed 33 = .ok (.if_icmp .ne 5, 3) := by decide +kernel
theorem dX12_isStayed_36 : decode cX12_isStayed 36 = .ok (.iconst 1, 1) := by decide +kernel
theorem dX12_isStayed_37 : decode cX12_isStayed 37 = .ok (.ireturn, 1) := by decide +kernel
theorem dX12_isStayed_38 : decode cX12_isStayed 38 = .ok (.iinc 3 1, 3) := by decide +kernel
theorem dX12_isStayed_41 : decode cX12_isStayed 41 = .ok (.goto (-39), 3) := by decide +kernel
theorem dX12_isStayed_44 : decode cX12_isStayed 44 = .ok (.iconst 0, 1) := by decide +kernel
theorem dX12_isStayed_45 : decode cX12_isStayed 45 = .ok (.ireturn, 1) := by decide +kernel
theorem dX12_kept_0 : decode cX12_kept 0 = .ok (.aload_n 0, 1) := by decide +kernel
theorem dX12_kept_1 : decode cX12_kept 1 = .ok (.iconst 0, 1) := by decide +kernel
theorem dX12_kept_2 : decode cX12_kept 2 = .ok (.putfield 74, 3) := by decide +kernel
theorem dX12_kept_5 : decode cX12_kept 5 = .ok (.aload_n 0, 1) := by decide +kernel
theorem dX12_kept_6 : decode cX12_kept 6 = .ok (.iload_n 1, 1) := by decide +kernel
theorem dX12_kept_7 : decode cX12_kept 7 = .ok (.invokevirtual 273, 3) := by decide +kernel
theorem dX12_kept_10 : decode cX12_kept 10 = .ok (.ifCond .ne 6, 3) := by decide +kernel
theorem dX12_kept_13 : decode cX12_kept 13 = .ok (.bipush (-2), 2) := by decide +kernel
theorem dX12_kept_15 : decode cX12_kept 15 = .ok (.ireturn, 1) := by decide +kernel
theorem dX12_kept_16 : decode cX12_kept 16 = .ok (.aload_n 0, 1) := by decide +kernel
theorem dX12_kept_17 : decode cX12_kept 17 = .ok (.invokevirtual 276, 3) := by decide +kernel
theorem dX12_kept_20 : decode cX12_kept 20 = .ok (.aload_n 0, 1) := by decide +kernel
theorem dX12_kept_21 : decode cX12_kept 21 = .ok (.iload_n 1, 1) := by decide +kernel
theorem dX12_kept_22 : decode cX12_kept 22 = .ok (.invokevirtual 320, 3) := by decide +kernel
theorem dX12_kept_25 : decode cX12_kept 25 = .ok (.ifCond .eq 7, 3) := by decide +kernel
theorem dX12_kept_28 : decode cX12_kept 28 = .ok (.iconst 1, 1) := by decide +kernel
theorem dX12_kept_29 : decode cX12_kept 29 = .ok (.goto 4, 3) := by decide +kernel
theorem dX12_kept_32 : decode cX12_kept 32 = .ok (.iconst 0, 1) := by decide +kernel
theorem dX12_kept_33 : decode cX12_kept 33 = .ok (.ireturn, 1) := by decide +kernel
theorem dX12_king_0 : decode cX12_king 0 = .ok (.aload_n 0, 1) := by decide +kernel
theorem dX12_king_1 : decode cX12_king 1 = .ok (.iconst 0, 1) := by decide +kernel
theorem dX12_king_2 : decode cX12_king 2 = .ok (.putfield 74, 3) := by decide +kernel
theorem dX12_king_5 : decode cX12_king 5 = .ok (.iload_n 2, 1) := by decide +kernel
theorem dX12_king_6 : decode cX12_king 6 = .ok (.iconst (-1), 1) := by decide +kernel
theorem dX12_king_7 : decode cX12_king 7 = .ok (.if_icmp .ne 12, 3) := by decide +kernel
theorem dX12_king_10 : decode cX12_king 10 = .ok (.iload_n 3, 1) := by decide +kernel
theorem dX12_king_11 : decode cX12_king 11 = .ok (.iconst (-1), 1) := by decide +kernel
theorem dX12_king_12 : decode cX12_king 12 = .ok (.if_icmp .ne 7, 3) := by decide +kernel
theorem dX12_king_15 : decode cX12_king 15 = .ok (.iconst 1, 1) := by decide +kernel
theorem dX12_king_16 : decode cX12_king 16 = .ok (.goto 4, 3) := by decide +kernel
theorem dX12_king_19 : decode cX12_king 19 = .ok (.iconst 0, 1) := by decide +kernel
theorem dX12_king_20 : decode cX12_king 20 = .ok (.istore 4, 2) := by decide +kernel
theorem dX12_king_22 : decode cX12_king 22 = .ok (.aload_n 0, 1) := by decide +kernel
theorem dX12_king_23 : decode cX12_king 23 = .ok (.iload_n 1, 1) := by decide +kernel
theorem dX12_king_24 : decode cX12_king 24 = .ok (.i2l, 1) := by decide +kernel
theorem dX12_king_25 : decode cX12_king 25 = .ok (.invokevirtual 250, 3) := by decide +kernel
theorem dX12_king_28 : decode cX12_king 28 = .ok (.ifCond .eq 33, 3) := by decide +kernel
theorem dX12_king_31 : decode cX12_king 31 = .ok (.iload 4, 2) := by decide +kernel
theorem dX12_king_33 : decode cX12_king 33 = .ok (.ifCond .ne 31, 3) := by decide +kernel
theorem dX12_king_36 : decode cX12_king 36 = .ok (.iload_n 2, 1) := by decide +kernel
theorem dX12_king_37 : decode cX12_king 37 = .ok (.i2l, 1) := by decide +kernel
theorem dX12_king_38 : decode cX12_king 38 = .ok (.lconst 0, 1) := by decide +kernel
theorem dX12_king_39 : decode cX12_king 39 = .ok (.ldc2_w 240, 3) := by decide +kernel
theorem dX12_king_42 : decode cX12_king 42 = .ok (.invokestatic 79, 3) := by decide +kernel
theorem dX12_king_45 : decode cX12_king 45 = .ok (.ifCond .eq 16, 3) := by decide +kernel
theorem dX12_king_48 : decode cX12_king 48 = .ok (.iload_n 3, 1) := by decide +kernel
theorem dX12_king_49 : decode cX12_king 49 = .ok (.i2l, 1) := by decide +kernel
theorem dX12_king_50 : decode cX12_king 50 = .ok (.iload_n 2, 1) := by decide +kernel
theorem dX12_king_51 : decode cX12_king 51 = .ok (.i2l, 1) := by decide +kernel
theorem dX12_king_52 : decode cX12_king 52 = .ok (.ldc2_w 240, 3) := by decide +kernel
theorem dX12_king_55 : decode cX12_king 55 = .ok (.invokestatic 79, 3) := by decide +kernel
theorem dX12_king_58 : decode cX12_king 58 = .ok (.ifCond .ne 6, 3) := by decide +kernel
theorem dX12_king_61 : decode cX12_king 61 = .ok (.bipush (-2), 2) := by decide +kernel
theorem dX12_king_63 : decode cX12_king 63 = .ok (.ireturn, 1) := by decide +kernel
theorem dX12_king_64 : decode cX12_king 64 = .ok (.aload_n 0, 1) := by decide +kernel
theorem dX12_king_65 : decode cX12_king 65 = .ok (.getfield 34, 3) := by decide +kernel
theorem dX12_king_68 : decode cX12_king 68 = .ok (.iconst 5, 1) := by decide +kernel
theorem dX12_king_69 : decode cX12_king 69 = .ok (.iaload, 1) := by decide +kernel
theorem dX12_king_70 : decode cX12_king 70 = .ok (.bipush 40, 2) := by decide +kernel
theorem dX12_king_72 : decode cX12_king 72 = .ok (.if_icmp .ne 6, 3) := by decide +kernel
theorem dX12_king_75 : decode cX12_king 75 = .ok (.bipush (-5), 2) := by decide +kernel
theorem dX12_king_77 : decode cX12_king 77 = .ok (.ireturn, 1) := by decide +kernel
theorem dX12_king_78 : decode cX12_king 78 = .ok (.aload_n 0, 1) := by decide +kernel
theorem dX12_king_79 : decode cX12_king 79 = .ok (.iconst 1, 1) := by decide +kernel
theorem dX12_king_80 : decode cX12_king 80 = .ok (.iload_n 1, 1) := by decide +kernel
theorem dX12_king_81 : decode cX12_king 81 = .ok (.aload_n 0, 1) := by decide +kernel
theorem dX12_king_82 : decode cX12_king 82 = .ok (.getfield 40, 3) := by decide +kernel
theorem dX12_king_85 : decode cX12_king 85 = .ok (.iconst 4, 1) := by decide +kernel
theorem dX12_king_86 : decode cX12_king 86 = .ok (.iload_n 1, 1) := by decide +kernel
theorem dX12_king_87 : decode cX12_king 87 = .ok (.imul, 1) := by decide +kernel
theorem dX12_king_88 : decode cX12_king 88 = .ok (.iconst 2, 1) := by decide +kernel
theorem dX12_king_89 : decode cX12_king 89 = .ok (.iadd, 1) := by decide +kernel
theorem dX12_king_90 : decode cX12_king 90 = .ok (.iaload, 1) := by decide +kernel
theorem dX12_king_91 : decode cX12_king 91 = .ok (.aload_n 0, 1) := by decide +kernel
theorem dX12_king_92 : decode cX12_king 92 = .ok (.getfield 40, 3) := by decide +kernel
theorem dX12_king_95 : decode cX12_king 95 = .ok (.iconst 4, 1) := by decide +kernel
theorem dX12_king_96 : decode cX12_king 96 = .ok (.iload_n 1, 1) := by decide +kernel
theorem dX12_king_97 : decode cX12_king 97 = .ok (.imul, 1) := by decide +kernel
theorem dX12_king_98 : decode cX12_king 98 = .ok (.iconst 3, 1) := by decide +kernel
theorem dX12_king_99 : decode cX12_king 99 = .ok (.iadd, 1) := by decide +kernel
theorem dX12_king_100 : decode cX12_king 100 = .ok (.iaload, 1) := by decide +kernel
theorem dX12_king_101 : decode cX12_king 101 = .ok (.invokevirtual 430, 3) := by decide +kernel
theorem dX12_king_104 : decode cX12_king 104 = .ok (.aload_n 0, 1) := by decide +kernel
theorem dX12_king_105 : decode cX12_king 105 = .ok (.getfield 40, 3) := by decide +kernel
theorem dX12_king_108 : decode cX12_king 108 = .ok (.iconst 4, 1) := by decide +kernel
theorem dX12_king_109 : decode cX12_king 109 = .ok (.iload_n 1, 1) := by decide +kernel
theorem dX12_king_110 : decode cX12_king 110 = .ok (.imul, 1) := by decide +kernel
theorem dX12_king_111 : decode cX12_king 111 = .ok (.iconst 2, 1) := by decide +kernel
theorem dX12_king_112 : decode cX12_king 112 = .ok (.iadd, 1) := by decide +kernel
theorem dX12_king_113 : decode cX12_king 113 = .ok (.iload_n 2, 1) := by decide +kernel
theorem dX12_king_114 : decode cX12_king 114 = .ok (.iastore, 1) := by decide +kernel
theorem dX12_king_115 : decode cX12_king 115 = .ok (.aload_n 0, 1) := by decide +kernel
theorem dX12_king_116 : decode cX12_king 116 = .ok (.getfield 40, 3) := by decide +kernel
theorem dX12_king_119 : decode cX12_king 119 = .ok (.iconst 4, 1) := by decide +kernel
theorem dX12_king_120 : decode cX12_king 120 = .ok (.iload_n 1, 1) := by decide +kernel
theorem dX12_king_121 : decode cX12_king 121 = .ok (.imul, 1) := by decide +kernel
theorem dX12_king_122 : decode cX12_king 122 = .ok (.iconst 3, 1) := by decide +kernel
theorem dX12_king_123 : decode cX12_king 123 = .ok (.iadd, 1) := by decide +kernel
theorem dX12_king_124 : decode cX12_king 124 = .ok (.iload_n 3, 1) := by decide +kernel
theorem dX12_king_125 : decode cX12_king 125 = .ok (.iastore, 1) := by decide +kernel
theorem dX12_king_126 : decode cX12_king 126 = .ok (.iconst 0, 1) := by decide +kernel
theorem dX12_king_127 : decode cX12_king 127 = .ok (.ireturn, 1) := by decide +kernel
theorem dX12_known_0 : decode cX12_known 0 = .ok (.aload_n 0, 1) := by decide +kernel
theorem dX12_known_1 : decode cX12_known 1 = .ok (.iconst 0, 1) := by decide +kernel
theorem dX12_known_2 : decode cX12_known 2 = .ok (.putfield 74, 3) := by decide +kernel
theorem dX12_known_5 : decode cX12_known 5 = .ok (.aload_n 0, 1) := by decide +kernel
theorem dX12_known_6 : decode cX12_known 6 = .ok (.iload_n 1, 1) := by decide +kernel
theorem dX12_known_7 : decode cX12_known 7 = .ok (.i2l, 1) := by decide +kernel
theorem dX12_known_8 : decode cX12_known 8 = .ok (.iload_n 2, 1) := by decide +kernel
theorem dX12_known_9 : decode cX12_known 9 = .ok (.i2l, 1) := by decide +kernel
theorem dX12_known_10 : decode cX12_known 10 = .ok (.invokevirtual 253, 3) := by decide +kernel
theorem dX12_known_13 : decode cX12_known 13 = .ok (.ifCond .eq 15, 3) := by decide +kernel
theorem dX12_known_16 : decode cX12_known 16 = .ok (.iload_n 3, 1) := by decide +kernel
theorem dX12_known_17 : decode cX12_known 17 = .ok (.i2l, 1) := by decide +kernel
theorem dX12_known_18 : decode cX12_known 18 = .ok (.lconst 1, 1) := by decide +kernel
theorem dX12_known_19 : decode cX12_known 19 = .ok (.ldc2_w 363, 3) := by decide +kernel
theorem dX12_known_22 : decode cX12_known 22 = .ok (.invokestatic 79, 3) := by decide +kernel
theorem dX12_known_25 : decode cX12_known 25 = .ok (.ifCond .ne 6, 3) := by decide +kernel
theorem dX12_known_28 : decode cX12_known 28 = .ok (.bipush (-2), 2) := by decide +kernel
theorem dX12_known_30 : decode cX12_known 30 = .ok (.ireturn, 1) := by decide +kernel
theorem dX12_known_31 : decode cX12_known 31 = .ok (.aload_n 0, 1) := by decide +kernel
theorem dX12_known_32 : decode cX12_known 32 = .ok (.invokevirtual 276, 3) := by decide +kernel
theorem dX12_known_35 : decode cX12_known 35 = .ok (.aload_n 0, 1) := by decide +kernel
theorem dX12_known_36 : decode cX12_known 36 = .ok (.iload_n 1, 1) := by decide +kernel
theorem dX12_known_37 : decode cX12_known 37 = .ok (.iload_n 2, 1) := by decide +kernel
theorem dX12_known_38 : decode cX12_known 38 = .ok (.iload_n 3, 1) := by decide +kernel
theorem dX12_known_39 : decode cX12_known 39 = .ok (.invokevirtual 410, 3) := by decide +kernel
theorem dX12_known_42 : decode cX12_known 42 = .ok (.ireturn, 1) := by decide +kernel
theorem dX12_knownOf_0 : decode cX12_knownOf 0 = .ok (.iconst 0, 1) := by decide +kernel
theorem dX12_knownOf_1 : decode cX12_knownOf 1 = .ok (.istore 4, 2) := by decide +kernel
theorem dX12_knownOf_3 : decode cX12_knownOf 3 = .ok (.iconst 0, 1) := by decide +kernel
theorem dX12_knownOf_4 : decode cX12_knownOf 4 = .ok (.istore 5, 2) := by decide +kernel
theorem dX12_knownOf_6 : decode cX12_knownOf 6 = .ok (.iload 5, 2) := by decide +kernel
theorem dX12_knownOf_8 : decode cX12_knownOf 8 = .ok (.iload_n 3, 1) := by decide +kernel
theorem dX12_knownOf_9 : decode cX12_knownOf 9 = .ok (.if_icmp .ge 39, 3) := by decide +kernel
theorem dX12_knownOf_12 : decode cX12_knownOf 12 = .ok (.iload 4, 2) := by decide +kernel
theorem dX12_knownOf_14 : decode cX12_knownOf 14 = .ok (.aload_n 0, 1) := by decide +kernel
theorem dX12_knownOf_15 : decode cX12_knownOf 15 = .ok (.iload_n 1, 1) := by decide +kernel
theorem dX12_knownOf_16 : decode cX12_knownOf 16 = .ok (.iload_n 2, 1) := by decide +kernel
theorem dX12_knownOf_17 : decode cX12_knownOf 17 = .ok (.iload 5, 2) := by decide +kernel
theorem dX12_knownOf_19 : decode cX12_knownOf 19 = .ok (.invokevirtual 311, 3) := by decide +kernel
theorem dX12_knownOf_22 : decode cX12_knownOf 22 = .ok (.iconst (-1), 1) := by decide +kernel
theorem dX12_knownOf_23 : decode cX12_knownOf 23 = .ok (.if_icmp .ne 8, 3) := by decide +kernel
theorem dX12_knownOf_26 : decode cX12_knownOf 26 = .ok (.bipush 50, 2) := by decide +kernel
theorem dX12_knownOf_28 : decode cX12_knownOf 28 = .ok (.goto 11, 3) := by decide +kernel
theorem dX12_knownOf_31 : decode cX12_knownOf 31 = .ok (.aload_n 0, 1) := by decide +kernel
theorem dX12_knownOf_32 : decode cX12_knownOf 32 = .ok (.iload_n 1, 1) := by decide +kernel
theorem dX12_knownOf_33 : decode cX12_knownOf 33 = .ok (.iload_n 2, 1) := by decide +kernel
theorem dX12_knownOf_34 : decode cX12_knownOf 34 = .ok (.iload 5, 2) := by decide +kernel
theorem dX12_knownOf_36 : decode cX12_knownOf 36 = .ok (.invokevirtual 311, 3) := by decide +kernel
theorem dX12_knownOf_39 : decode cX12_knownOf 39 = .ok (.iadd, 1) := by decide +kernel
theorem dX12_knownOf_40 : decode cX12_knownOf 40 = .ok (.istore 4, 2) := by decide +kernel
theorem dX12_knownOf_42 : decode cX12_knownOf 42 = .ok (.iinc 5 1, 3) := by decide +kernel
theorem dX12_knownOf_45 : decode cX12_knownOf 45 = .ok (.goto (-39), 3) := by decide +kernel
theorem dX12_knownOf_48 : decode cX12_knownOf 48 = .ok (.iload 4, 2) := by decide +kernel
theorem dX12_knownOf_50 : decode cX12_knownOf 50 = .ok (.ireturn, 1) := by decide +kernel
theorem dX12_lastly_0 : decode cX12_lastly 0 = .ok (.aload_n 0, 1) := by decide +kernel
theorem dX12_lastly_1 : decode cX12_lastly 1 = .ok (.iconst 0, 1) := by decide +kernel
theorem dX12_lastly_2 : decode cX12_lastly 2 = .ok (.putfield 74, 3) := by decide +kernel
theorem dX12_lastly_5 : decode cX12_lastly 5 = .ok (.aload_n 0, 1) := by decide +kernel
theorem dX12_lastly_6 : decode cX12_lastly 6 = .ok (.iload_n 1, 1) := by decide +kernel
theorem dX12_lastly_7 : decode cX12_lastly 7 = .ok (.i2l, 1) := by decide +kernel
theorem dX12_lastly_8 : decode cX12_lastly 8 = .ok (.invokevirtual 250, 3) := by decide +kernel
theorem dX12_lastly_11 : decode cX12_lastly 11 = .ok (.ifCond .eq 11, 3) := by decide +kernel
theorem dX12_lastly_14 : decode cX12_lastly 14 = .ok (.aload_n 0, 1) := by decide +kernel
theorem dX12_lastly_15 : decode cX12_lastly 15 = .ok (.iload_n 2, 1) := by decide +kernel
theorem dX12_lastly_16 : decode cX12_lastly 16 = .ok (.invokevirtual 273, 3) := by decide +kernel
theorem dX12_lastly_19 : decode cX12_lastly 19 = .ok (.ifCond .ne 6, 3) := by decide +kernel
theorem dX12_lastly_22 : decode cX12_lastly 22 = .ok (.bipush (-2), 2) := by decide +kernel
theorem dX12_lastly_24 : decode cX12_lastly 24 = .ok (.ireturn, 1) := by decide +kernel
theorem dX12_lastly_25 : decode cX12_lastly 25 = .ok (.aload_n 0, 1) := by decide +kernel
theorem dX12_lastly_26 : decode cX12_lastly 26 = .ok (.iload_n 1, 1) := by decide +kernel
theorem dX12_lastly_27 : decode cX12_lastly 27 = .ok (.iload_n 2, 1) := by decide +kernel
theorem dX12_lastly_28 : decode cX12_lastly 28 = .ok (.invokevirtual 425, 3) := by decide +kernel
theorem dX12_lastly_31 : decode cX12_lastly 31 = .ok (.aload_n 0, 1) := by decide +kernel
theorem dX12_lastly_32 : decode cX12_lastly 32 = .ok (.getfield 422, 3) := by decide +kernel
theorem dX12_lastly_35 : decode cX12_lastly 35 = .ok (.ireturn, 1) := by decide +kernel
theorem dX12_lawful_0 : decode cX12_lawful 0 = .ok (.aload_n 0, 1) := by decide +kernel
theorem dX12_lawful_1 : decode cX12_lawful 1 = .ok (.iconst 0, 1) := by decide +kernel
theorem dX12_lawful_2 : decode cX12_lawful 2 = .ok (.putfield 74, 3) := by decide +kernel
theorem dX12_lawful_5 : decode cX12_lawful 5 = .ok (.aload_n 0, 1) := by decide +kernel
theorem dX12_lawful_6 : decode cX12_lawful 6 = .ok (.invokevirtual 237, 3) := by decide +kernel
theorem dX12_lawful_9 : decode cX12_lawful 9 = .ok (.ifCond .ne 6, 3) := by decide +kernel
theorem dX12_lawful_12 : decode cX12_lawful 12 = .ok (.bipush (-2), 2) := by decide +kernel
theorem dX12_lawful_14 : decode cX12_lawful 14 = .ok (.ireturn, 1) := by decide +kernel
theorem dX12_lawful_15 : decode cX12_lawful 15 = .ok (.aload_n 0, 1) := by decide +kernel
theorem dX12_lawful_16 : decode cX12_lawful 16 = .ok (.invokevirtual 276, 3) := by decide +kernel
theorem dX12_lawful_19 : decode cX12_lawful 19 = .ok (.iconst 0, 1) := by decide +kernel
theorem dX12_lawful_20 : decode cX12_lawful 20 = .ok (.istore_n 1, 1) := by decide +kernel
theorem dX12_lawful_21 : decode cX12_lawful 21 = .ok (.iconst 0, 1) := by decide +kernel
theorem dX12_lawful_22 : decode cX12_lawful 22 = .ok (.istore_n 2, 1) := by decide +kernel
theorem dX12_lawful_23 : decode cX12_lawful 23 = .ok (.iload_n 2, 1) := by decide +kernel
theorem dX12_lawful_24 : decode cX12_lawful 24 = .ok (.bipush 60, 2) := by decide +kernel
theorem dX12_lawful_26 : decode cX12_lawful 26 = .ok (.if_icmp .ge 25, 3) := by decide +kernel
theorem dX12_lawful_29 : decode cX12_lawful 29 = .ok (.iload_n 1, 1) := by decide +kernel
theorem dX12_lawful_30 : decode cX12_lawful 30 = .ok (.aload_n 0, 1) := by decide +kernel
theorem dX12_lawful_31 : decode cX12_lawful 31 = .ok (.iload_n 2, 1) := by decide +kernel
theorem dX12_lawful_32 : decode cX12_lawful 32 = .ok (.invokevirtual 320, 3) := by decide +kernel
theorem dX12_lawful_35 : decode cX12_lawful 35 = .ok (.ifCond .eq 7, 3) := by decide +kernel
theorem dX12_lawful_38 : decode cX12_lawful 38 = .ok (.iconst 1, 1) := by decide +kernel
theorem dX12_lawful_39 : decode cX12_lawful 39 = .ok (.goto 4, 3) := by decide +kernel
theorem dX12_lawful_42 : decode cX12_lawful 42 = .ok (.iconst 0, 1) := by decide +kernel
theorem dX12_lawful_43 : decode cX12_lawful 43 = .ok (.iadd, 1) := by decide +kernel
theorem dX12_lawful_44 : decode cX12_lawful 44 = .ok (.istore_n 1, 1) := by decide +kernel
theorem dX12_lawful_45 : decode cX12_lawful 45 = .ok (.iinc 2 1, 3) := by decide +kernel
theorem dX12_lawful_48 : decode cX12_lawful 48 = .ok (.goto (-25), 3) := by decide +kernel
theorem dX12_lawful_51 : decode cX12_lawful 51 = .ok (.iload_n 1, 1) := by decide +kernel
theorem dX12_lawful_52 : decode cX12_lawful 52 = .ok (.ireturn, 1) := by decide +kernel
theorem dX12_lays_0 : decode cX12_lays 0 = .ok (.iconst 0, 1) := by decide +kernel
theorem dX12_lays_1 : decode cX12_lays 1 = .ok (.istore_n 1, 1) := by decide +kernel
theorem dX12_lays_2 : decode cX12_lays 2 = .ok (.iload_n 1, 1) := by decide +kernel
theorem dX12_lays_3 : decode cX12_lays 3 = .ok (.aload_n 0, 1) := by decide +kernel
theorem dX12_lays_4 : decode cX12_lays 4 = .ok (.getfield 34, 3) := by decide +kernel
theorem dX12_lays_7 : decode cX12_lays 7 = .ok (.iconst 4, 1) := by decide +kernel
theorem dX12_lays_8 : decode cX12_lays 8 = .ok (.iaload, 1) := by decide +kernel
theorem dX12_lays_9 : decode cX12_lays 9 = .ok (.if_icmp .ge 23, 3) := by decide +kernel
theorem dX12_lays_12 : decode cX12_lays 12 = .ok (.aload_n 0, 1) := by decide +kernel
theorem dX12_lays_13 : decode cX12_lays 13 = .ok (.getfield 53, 3) := by decide +kernel
theorem dX12_lays_16 : decode cX12_lays 16 = .ok (.iload_n 1, 1) := by decide +kernel
theorem dX12_lays_17 : decode cX12_lays 17 = .ok (.aload_n 0, 1) := by decide +kernel
theorem dX12_lays_18 : decode cX12_lays 18 = .ok (.getfield 40, 3) := by decide +kernel
theorem dX12_lays_21 : decode cX12_lays 21 = .ok (.iconst 4, 1) := by decide +kernel
theorem dX12_lays_22 : decode cX12_lays 22 = .ok (.iload_n 1, 1) := by decide +kernel
theorem dX12_lays_23 : decode cX12_lays 23 = .ok (.imul, 1) := by decide +kernel
theorem dX12_lays_24 : decode cX12_lays 24 = .ok (.iaload, 1) := by decide +kernel
theorem dX12_lays_25 : decode cX12_lays 25 = .ok (.iastore, 1) := by decide +kernel
theorem dX12_lays_26 : decode cX12_lays 26 = .ok (.iinc 1 1, 3) := by decide +kernel
theorem dX12_lays_29 : decode cX12_lays 29 = .ok (.goto (-27), 3) := by decide +kernel
theorem dX12_lays_32 : decode cX12_lays 32 = .ok (.iconst 0, 1) := by decide +kernel
theorem dX12_lays_33 : decode cX12_lays 33 = .ok (.istore_n 1, 1) := by decide +kernel
theorem dX12_lays_34 : decode cX12_lays 34 = .ok (.iload_n 1, 1) := by decide +kernel
theorem dX12_lays_35 : decode cX12_lays 35 = .ok (.iconst 1, 1) := by decide +kernel
theorem dX12_lays_36 : decode cX12_lays 36 = .ok (.iadd, 1) := by decide +kernel
theorem dX12_lays_37 : decode cX12_lays 37 = .ok (.bipush 60, 2) := by decide +kernel
theorem dX12_lays_39 : decode cX12_lays 39 = .ok (.if_icmp .ge 46, 3) := by decide +kernel
theorem dX12_lays_42 : decode cX12_lays 42 = .ok (.iconst 0, 1) := by decide +kernel
theorem dX12_lays_43 : decode cX12_lays 43 = .ok (.istore_n 2, 1) := by decide +kernel
theorem dX12_lays_44 : decode cX12_lays 44 = .ok (.iload_n 2, 1) := by decide +kernel
theorem dX12_lays_45 : decode cX12_lays 45 = .ok (.aload_n 0, 1) := by decide +kernel
theorem dX12_lays_46 : decode cX12_lays 46 = .ok (.getfield 34, 3) := by decide +kernel
theorem dX12_lays_49 : decode cX12_lays 49 = .ok (.iconst 4, 1) := by decide +kernel
theorem dX12_lays_50 : decode cX12_lays 50 = .ok (.iaload, 1) := by decide +kernel
theorem dX12_lays_51 : decode cX12_lays 51 = .ok (.if_icmp .ge 28, 3) := by decide +kernel
theorem dX12_lays_54 : decode cX12_lays 54 = .ok (.aload_n 0, 1) := by decide +kernel
theorem dX12_lays_55 : decode cX12_lays 55 = .ok (.getfield 53, 3) := by decide +kernel
theorem dX12_lays_58 : decode cX12_lays 58 = .ok (.bipush 7, 2) := by decide +kernel
theorem dX12_lays_60 : decode cX12_lays 60 = .ok (.iload_n 1, 1) := by decide +kernel
theorem dX12_lays_61 : decode cX12_lays 61 = .ok (.iconst 1, 1) := by decide +kernel
theorem dX12_lays_62 : decode cX12_lays 62 = .ok (.iadd, 1) := by decide +kernel
theorem dX12_lays_63 : decode cX12_lays 63 = .ok (.imul, 1) := by decide +kernel
theorem dX12_lays_64 : decode cX12_lays 64 = .ok (.iload_n 2, 1) := by decide +kernel
theorem dX12_lays_65 : decode cX12_lays 65 = .ok (.iadd, 1) := by decide +kernel
theorem dX12_lays_66 : decode cX12_lays 66 = .ok (.aload_n 0, 1) := by decide +kernel
theorem dX12_lays_67 : decode cX12_lays 67 = .ok (.iload_n 2, 1) := by decide +kernel
theorem dX12_lays_68 : decode cX12_lays 68 = .ok (.iload_n 1, 1) := by decide +kernel
theorem dX12_lays_69 : decode cX12_lays 69 = .ok (.invokevirtual 264, 3) := by decide +kernel
theorem dX12_lays_72 : decode cX12_lays 72 = .ok (.iastore, 1) := by decide +kernel
theorem dX12_lays_73 : decode cX12_lays 73 = .ok (.iinc 2 1, 3) := by decide +kernel
theorem dX12_lays_76 : decode cX12_lays 76 = .ok (.goto (-32), 3) := by decide +kernel
theorem dX12_lays_79 : decode cX12_lays 79 = .ok (.iinc 1 1, 3) := by decide +kernel
theorem dX12_lays_82 : decode cX12_lays 82 = .ok (.goto (-48), 3) := by decide +kernel
theorem dX12_lays_85 : decode cX12_lays 85 = .ok (.return_, 1) := by decide +kernel
theorem dX12_laysDoors_0 : decode cX12_laysDoors 0 = .ok (.iconst 0, 1) := by decide +kernel
theorem dX12_laysDoors_1 : decode cX12_laysDoors 1 = .ok (.istore_n 3, 1) := by decide +kernel
theorem dX12_laysDoors_2 : decode cX12_laysDoors 2 = .ok (.iload_n 3, 1) := by decide +kernel
theorem dX12_laysDoors_3 : decode cX12_laysDoors 3 = .ok (.bipush 36, 2) := by decide +kernel
theorem dX12_laysDoors_5 : decode cX12_laysDoors 5 = .ok (.if_icmp .ge 16, 3) := by decide +kernel
theorem dX12_laysDoors_8 : decode cX12_laysDoors 8 = .ok (.aload_n 0, 1) := by decide +kernel
theorem dX12_laysDoors_9 : decode cX12_laysDoors 9 = .ok (.getfield 56, 3) := by decide +kernel
theorem dX12_laysDoors_12 : decode cX12_laysDoors 12 = .ok (.iload_n 3, 1) := by decide +kernel
theorem dX12_laysDoors_13 : decode cX12_laysDoors 13 = .ok (.iconst 0, 1) := by decide +kernel
theorem dX12_laysDoors_14 : decode cX12_laysDoors 14 = .ok (.iastore, 1) := by decide +kernel
theorem dX12_laysDoors_15 : decode cX12_laysDoors 15 = .ok (.iinc 3 1, 3) := by decide +kernel
theorem dX12_laysDoors_18 : decode cX12_laysDoors 18 = .ok (.goto (-16), 3) := by decide +kernel
theorem dX12_laysDoors_21 : decode cX12_laysDoors 21 = .ok (.iconst 0, 1) := by decide +kernel
theorem dX12_laysDoors_22 : decode cX12_laysDoors 22 = .ok (.istore_n 3, 1) := by decide +kernel
theorem dX12_laysDoors_23 : decode cX12_laysDoors 23 = .ok (.iload_n 3, 1) := by decide +kernel
theorem dX12_laysDoors_24 : decode cX12_laysDoors 24 = .ok (.aload_n 0, 1) := by decide +kernel
theorem dX12_laysDoors_25 : decode cX12_laysDoors 25 = .ok (.getfield 34, 3) := by decide +kernel
theorem dX12_laysDoors_28 : decode cX12_laysDoors 28 = .ok (.iconst 4, 1) := by decide +kernel
theorem dX12_laysDoors_29 : decode cX12_laysDoors 29 = .ok (.iaload, 1) := by decide +kernel
theorem dX12_laysDoors_30 : decode cX12_laysDoors 30 = .ok (.if_icmp .ge 76, 3) := by decide +kernel
theorem dX12_laysDoors_33 : decode cX12_laysDoors 33 = .ok (.aload_n 0, 1) := by decide +kernel
theorem dX12_laysDoors_34 : decode cX12_laysDoors 34 = .ok (.iload_n 3, 1) := by decide +kernel
theorem dX12_laysDoors_35 : decode cX12_laysDoors 35 = .ok (.iload_n 1, 1) := by decide +kernel
theorem dX12_laysDoors_36 : decode cX12_laysDoors 36 = .ok (.invokevirtual 300, 3) := by decide +kernel
theorem dX12_laysDoors_39 : decode cX12_laysDoors 39 = .ok (.ifCond .ne 6, 3) := by decide +kernel
theorem dX12_laysDoors_42 : decode cX12_laysDoors 42 = .ok (.goto 58, 3) := by decide +kernel
theorem dX12_laysDoors_45 : decode cX12_laysDoors 45 = .ok (.aload_n 0, 1) := by decide +kernel
theorem dX12_laysDoors_46 : decode cX12_laysDoors 46 = .ok (.iload_n 3, 1) := by decide +kernel
theorem dX12_laysDoors_47 : decode cX12_laysDoors 47 = .ok (.iload_n 1, 1) := by decide +kernel
theorem dX12_laysDoors_48 : decode cX12_laysDoors 48 = .ok (.invokevirtual 267, 3) := by decide +kernel
theorem dX12_laysDoors_51 : decode cX12_laysDoors 51 = .ok (.istore 4, 2) := by decide +kernel
theorem dX12_laysDoors_53 : decode cX12_laysDoors 53 = .ok (.aload_n 0, 1) := by decide +kernel
theorem dX12_laysDoors_54 : decode cX12_laysDoors 54 = .ok (.getfield 56, 3) := by decide +kernel
theorem dX12_laysDoors_57 : decode cX12_laysDoors 57 = .ok (.bipush 6, 2) := by decide +kernel
theorem dX12_laysDoors_59 : decode cX12_laysDoors 59 = .ok (.aload_n 0, 1) := by decide +kernel
theorem dX12_laysDoors_60 : decode cX12_laysDoors 60 = .ok (.iload 4, 2) := by decide +kernel
theorem dX12_laysDoors_62 : decode cX12_laysDoors 62 = .ok (.iconst 0, 1) := by decide +kernel
theorem dX12_laysDoors_63 : decode cX12_laysDoors 63 = .ok (.invokevirtual 244, 3) := by decide +kernel
theorem dX12_laysDoors_66 : decode cX12_laysDoors 66 = .ok (.imul, 1) := by decide +kernel
theorem dX12_laysDoors_67 : decode cX12_laysDoors 67 = .ok (.aload_n 0, 1) := by decide +kernel
theorem dX12_laysDoors_68 : decode cX12_laysDoors 68 = .ok (.iload 4, 2) := by decide +kernel
theorem dX12_laysDoors_70 : decode cX12_laysDoors 70 = .ok (.iconst 1, 1) := by decide +kernel
theorem dX12_laysDoors_71 : decode cX12_laysDoors 71 = .ok (.invokevirtual 244, 3) := by decide +kernel
theorem dX12_laysDoors_74 : decode cX12_laysDoors 74 = .ok (.iadd, 1) := by decide +kernel
theorem dX12_laysDoors_75 : decode cX12_laysDoors 75 = .ok (.dup2, 1) := by decide +kernel
theorem dX12_laysDoors_76 : decode cX12_laysDoors 76 = .ok (.iaload, 1) := by decide +kernel
theorem dX12_laysDoors_77 : decode cX12_laysDoors 77 = .ok (.aload_n 0, 1) := by decide +kernel
theorem dX12_laysDoors_78 : decode cX12_laysDoors 78 = .ok (.getfield 40, 3) := by decide +kernel
theorem dX12_laysDoors_81 : decode cX12_laysDoors 81 = .ok (.iconst 4, 1) := by decide +kernel
theorem dX12_laysDoors_82 : decode cX12_laysDoors 82 = .ok (.iload_n 3, 1) := by decide +kernel
theorem dX12_laysDoors_83 : decode cX12_laysDoors 83 = .ok (.imul, 1) := by decide +kernel
theorem dX12_laysDoors_84 : decode cX12_laysDoors 84 = .ok (.iconst 1, 1) := by decide +kernel
theorem dX12_laysDoors_85 : decode cX12_laysDoors 85 = .ok (.iadd, 1) := by decide +kernel
theorem dX12_laysDoors_86 : decode cX12_laysDoors 86 = .ok (.iaload, 1) := by decide +kernel
theorem dX12_laysDoors_87 : decode cX12_laysDoors 87 = .ok (.iload_n 3, 1) := by decide +kernel
theorem dX12_laysDoors_88 : decode cX12_laysDoors 88 = .ok (.iload_n 2, 1) := by decide +kernel
theorem dX12_laysDoors_89 : decode cX12_laysDoors 89 = .ok (.if_icmp .ne 7, 3) := by decide +kernel
theorem dX12_laysDoors_92 : decode cX12_laysDoors 92 = .ok (.iconst 1, 1) := by decide +kernel
theorem dX12_laysDoors_93 : decode cX12_laysDoors 93 = .ok (.goto 4, 3) := by decide +kernel
theorem dX12_laysDoors_96 : decode cX12_laysDoors 96 = .ok (.iconst 0, 1) := by decide +kernel
theorem dX12_laysDoors_97 : decode cX12_laysDoors 97 = .ok (.iadd, 1) := by decide +kernel
theorem dX12_laysDoors_98 : decode cX12_laysDoors 98 = .ok (.iadd, 1) := by decide +kernel
theorem dX12_laysDoors_99 : decode cX12_laysDoors 99 = .ok (.iastore, 1) := by decide +kernel
theorem dX12_laysDoors_100 : decode cX12_laysDoors 100 = .ok (.iinc 3 1, 3) := by decide +kernel
theorem dX12_laysDoors_103 : decode cX12_laysDoors 103 = .ok (.goto (-80), 3) := by decide +kernel
theorem dX12_laysDoors_106 : decode cX12_laysDoors 106 = .ok (.return_, 1) := by decide +kernel
theorem dX12_leads_0 : decode cX12_leads 0 = .ok (.aload_n 0, 1) := by decide +kernel
theorem dX12_leads_1 : decode cX12_leads 1 = .ok (.iconst 0, 1) := by decide +kernel
theorem dX12_leads_2 : decode cX12_leads 2 = .ok (.putfield 74, 3) := by decide +kernel
theorem dX12_leads_5 : decode cX12_leads 5 = .ok (.aload_n 0, 1) := by decide +kernel
theorem dX12_leads_6 : decode cX12_leads 6 = .ok (.iload_n 1, 1) := by decide +kernel
theorem dX12_leads_7 : decode cX12_leads 7 = .ok (.invokevirtual 273, 3) := by decide +kernel
theorem dX12_leads_10 : decode cX12_leads 10 = .ok (.ifCond .eq 11, 3) := by decide +kernel
theorem dX12_leads_13 : decode cX12_leads 13 = .ok (.iload_n 2, 1) := by decide +kernel
theorem dX12_leads_14 : decode cX12_leads 14 = .ok (.i2l, 1) := by decide +kernel
theorem dX12_leads_15 : decode cX12_leads 15 = .ok (.invokestatic 285, 3) := by decide +kernel
theorem dX12_leads_18 : decode cX12_leads 18 = .ok (.ifCond .ne 6, 3) := by decide +kernel
theorem dX12_leads_21 : decode cX12_leads 21 = .ok (.bipush (-2), 2) := by decide +kernel
theorem dX12_leads_23 : decode cX12_leads 23 = .ok (.ireturn, 1) := by decide +kernel
theorem dX12_leads_24 : decode cX12_leads 24 = .ok (.aload_n 0, 1) := by decide +kernel
theorem dX12_leads_25 : decode cX12_leads 25 = .ok (.invokevirtual 276, 3) := by decide +kernel
theorem dX12_leads_28 : decode cX12_leads 28 = .ok (.iconst 0, 1) := by decide +kernel
theorem dX12_leads_29 : decode cX12_leads 29 = .ok (.istore_n 3, 1) := by decide +kernel
theorem dX12_leads_30 : decode cX12_leads 30 = .ok (.iconst 0, 1) := by decide +kernel
theorem dX12_leads_31 : decode cX12_leads 31 = .ok (.istore 4, 2) := by decide +kernel
theorem dX12_leads_33 : decode cX12_leads 33 = .ok (.iload 4, 2) := by decide +kernel
theorem dX12_leads_35 : decode cX12_leads 35 = .ok (.aload_n 0, 1) := by decide +kernel
theorem dX12_leads_36 : decode cX12_leads 36 = .ok (.getfield 34, 3) := by decide +kernel
theorem dX12_leads_39 : decode cX12_leads 39 = .ok (.iconst 4, 1) := by decide +kernel
theorem dX12_leads_40 : decode cX12_leads 40 = .ok (.iaload, 1) := by decide +kernel
theorem dX12_leads_41 : decode cX12_leads 41 = .ok (.if_icmp .ge 31, 3) := by decide +kernel
theorem dX12_leads_44 : decode cX12_leads 44 = .ok (.iload_n 3, 1) := by decide +kernel
theorem dX12_leads_45 : decode cX12_leads 45 = .ok (.aload_n 0, 1) := by decide +kernel
theorem dX12_leads_46 : decode cX12_leads 46 = .ok (.iload 4, 2) := by decide +kernel
theorem dX12_leads_48 : decode cX12_leads 48 = .ok (.iload_n 1, 1) := by decide +kernel
theorem dX12_leads_49 : decode cX12_leads 49 = .ok (.invokevirtual 282, 3) := by decide +kernel
theorem dX12_leads_52 : decode cX12_leads 52 = .ok (.iload_n 2, 1) := by decide +kernel
theorem dX12_leads_53 : decode cX12_leads 53 = .ok (.if_icmp .ne 10, 3) := by decide +kernel
theorem dX12_leads_56 : decode cX12_leads 56 = .ok (.iconst 1, 1) := by decide +kernel
theorem dX12_leads_57 : decode cX12_leads 57 = .ok (.iload 4, 2) := by decide +kernel
theorem dX12_leads_59 : decode cX12_leads 59 = .ok (.ishl, 1) := by decide +kernel
theorem dX12_leads_60 : decode cX12_leads 60 = .ok (.goto 4, 3) := by decide +kernel
theorem dX12_leads_63 : decode cX12_leads 63 = .ok (.iconst 0, 1) := by decide +kernel
theorem dX12_leads_64 : decode cX12_leads 64 = .ok (.ior, 1) := by decide +kernel
theorem dX12_leads_65 : decode cX12_leads 65 = .ok (.istore_n 3, 1) := by decide +kernel
theorem dX12_leads_66 : decode cX12_leads 66 = .ok (.iinc 4 1, 3) := by decide +kernel
theorem dX12_leads_69 : decode cX12_leads 69 = .ok (.goto (-36), 3) := by decide +kernel
theorem dX12_leads_72 : decode cX12_leads 72 = .ok (.iload_n 3, 1) := by decide +kernel
theorem dX12_leads_73 : decode cX12_leads 73 = .ok (.ireturn, 1) := by decide +kernel
theorem dX12_leaves_0 : decode cX12_leaves 0 = .ok (.aload_n 0, 1) := by decide +kernel
theorem dX12_leaves_1 : decode cX12_leaves 1 = .ok (.iconst 0, 1) := by decide +kernel
theorem dX12_leaves_2 : decode cX12_leaves 2 = .ok (.putfield 74, 3) := by decide +kernel
theorem dX12_leaves_5 : decode cX12_leaves 5 = .ok (.aload_n 0, 1) := by decide +kernel
theorem dX12_leaves_6 : decode cX12_leaves 6 = .ok (.iload_n 1, 1) := by decide +kernel
theorem dX12_leaves_7 : decode cX12_leaves 7 = .ok (.invokevirtual 386, 3) := by decide +kernel
theorem dX12_leaves_10 : decode cX12_leaves 10 = .ok (.istore_n 2, 1) := by decide +kernel
theorem dX12_leaves_11 : decode cX12_leaves 11 = .ok (.iload_n 2, 1) := by decide +kernel
theorem dX12_leaves_12 : decode cX12_leaves 12 = .ok (.ifCond .eq 5, 3) := by decide +kernel
theorem dX12_leaves_15 : decode cX12_leaves 15 = .ok (.iload_n 2, 1) := by decide +kernel
theorem dX12_leaves_16 : decode cX12_leaves 16 = .ok (.ireturn, 1) := by decide +kernel
theorem dX12_leaves_17 : decode cX12_leaves 17 = .ok (.aload_n 0, 1) := by decide +kernel
theorem dX12_leaves_18 : decode cX12_leaves 18 = .ok (.iload_n 1, 1) := by decide +kernel
theorem dX12_leaves_19 : decode cX12_leaves 19 = .ok (.invokevirtual 395, 3) := by decide +kernel
theorem dX12_leaves_22 : decode cX12_leaves 22 = .ok (.pop, 1) := by decide +kernel
theorem dX12_leaves_23 : decode cX12_leaves 23 = .ok (.aload_n 0, 1) := by decide +kernel
theorem dX12_leaves_24 : decode cX12_leaves 24 = .ok (.getfield 392, 3) := by decide +kernel
theorem dX12_leaves_27 : decode cX12_leaves 27 = .ok (.ireturn, 1) := by decide +kernel
theorem dX12_line_0 : decode cX12_line 0 = .ok (.aload_n 0, 1) := by decide +kernel
theorem dX12_line_1 : decode cX12_line 1 = .ok (.ldc2_w 188, 3) := by decide +kernel
theorem dX12_line_4 : decode cX12_line 4 = .ok (.invokevirtual 132, 3) := by decide +kernel
theorem dX12_line_7 : decode cX12_line 7 = .ok (.istore_n 1, 1) := by decide +kernel
theorem dX12_line_8 : decode cX12_line 8 = .ok (.aload_n 0, 1) := by decide +kernel
theorem dX12_line_9 : decode cX12_line 9 = .ok (.ldc2_w 190, 3) := by decide +kernel
theorem dX12_line_12 : decode cX12_line 12 = .ok (.invokevirtual 132, 3) := by decide +kernel
theorem dX12_line_15 : decode cX12_line 15 = .ok (.istore_n 2, 1) := by decide +kernel
theorem dX12_line_16 : decode cX12_line 16 = .ok (.iload_n 1, 1) := by decide +kernel
theorem dX12_line_17 : decode cX12_line 17 = .ok (.ifCond .eq 13, 3) := by decide +kernel
theorem dX12_line_20 : decode cX12_line 20 = .ok (.aload_n 0, 1) := by decide +kernel
theorem dX12_line_21 : decode cX12_line 21 = .ok (.iconst 3, 1) := by decide +kernel
theorem dX12_line_22 : decode cX12_line 22 = .ok (.invokevirtual 156, 3) := by decide +kernel
theorem dX12_line_25 : decode cX12_line 25 = .ok (.bipush 9, 2) := by decide +kernel
theorem dX12_line_27 : decode cX12_line 27 = .ok (.if_icmp .eq 17, 3) := by decide +kernel
theorem dX12_line_30 : decode cX12_line 30 = .ok (.iload_n 2, 1) := by decide +kernel
theorem dX12_line_31 : decode cX12_line 31 = .ok (.ifCond .eq 18, 3) := by decide +kernel
theorem dX12_line_34 : decode cX12_line 34 = .ok (.aload_n 0, 1) := by decide +kernel
theorem dX12_line_35 : decode cX12_line 35 = .ok (.iconst 4, 1) := by decide +kernel
theorem dX12_line_36 : decode cX12_line 36 = .ok (.invokevirtual 156, 3) := by decide +kernel
theorem dX12_line_39 : decode cX12_line 39 = .ok (.bipush 7, 2) := by decide +kernel
theorem dX12_line_41 : decode cX12_line 41 = .ok (.if_icmp .ne 8, 3) := by decide +kernel
theorem dX12_line_44 : decode cX12_line 44 = .ok (.aload_n 0, 1) := by decide +kernel
theorem dX12_line_45 : decode cX12_line 45 = .ok (.iconst 3, 1) := by decide +kernel
theorem dX12_line_46 : decode cX12_line 46 = .ok (.invokevirtual 142, 3) := by decide +kernel
theorem dX12_line_49 : decode cX12_line 49 = .ok (.aload_n 0, 1) := by decide +kernel
theorem dX12_line_50 : decode cX12_line 50 = .ok (.getfield 126, 3) := by decide +kernel
theorem dX12_line_53 : decode cX12_line 53 = .ok (.ifCond .eq 4, 3) := by decide +kernel
theorem dX12_line_56 : decode cX12_line 56 = .ok (.return_, 1) := by decide +kernel
theorem dX12_line_57 : decode cX12_line 57 = .ok (.iload_n 1, 1) := by decide +kernel
theorem dX12_line_58 : decode cX12_line 58 = .ok (.ifCond .ne 7, 3) := by decide +kernel
theorem dX12_line_61 : decode cX12_line 61 = .ok (.iload_n 2, 1) := by decide +kernel
theorem dX12_line_62 : decode cX12_line 62 = .ok (.ifCond .eq 25, 3) := by decide +kernel
theorem dX12_line_65 : decode cX12_line 65 = .ok (.aload_n 0, 1) := by decide +kernel
theorem dX12_line_66 : decode cX12_line 66 = .ok (.invokevirtual 136, 3) := by decide +kernel
theorem dX12_line_69 : decode cX12_line 69 = .ok (.iload_n 1, 1) := by decide +kernel
theorem dX12_line_70 : decode cX12_line 70 = .ok (.ifCond .eq 10, 3) := by decide +kernel
theorem dX12_line_73 : decode cX12_line 73 = .ok (.aload_n 0, 1) := by decide +kernel
theorem dX12_line_74 : decode cX12_line 74 = .ok (.invokevirtual 192, 3) := by decide +kernel
theorem dX12_line_77 : decode cX12_line 77 = .ok (.goto 21, 3) := by decide +kernel
theorem dX12_line_80 : decode cX12_line 80 = .ok (.aload_n 0, 1) := by decide +kernel
theorem dX12_line_81 : decode cX12_line 81 = .ok (.invokevirtual 195, 3) := by decide +kernel
theorem dX12_line_84 : decode cX12_line 84 = .ok (.goto 14, 3) := by decide +kernel
theorem dX12_line_87 : decode cX12_line 87 = .ok (.aload_n 0, 1) := by decide +kernel
theorem dX12_line_88 : decode cX12_line 88 = .ok (.ldc2_w 198, 3) := by decide +kernel
theorem dX12_line_91 : decode cX12_line 91 = .ok (.invokevirtual 145, 3) := by decide +kernel
theorem dX12_line_94 : decode cX12_line 94 = .ok (.aload_n 0, 1) := by decide +kernel
theorem dX12_line_95 : decode cX12_line 95 = .ok (.invokevirtual 200, 3) := by decide +kernel
theorem dX12_line_98 : decode cX12_line 98 = .ok (.return_, 1) := by decide +kernel
theorem dX12_lucky_0 : decode cX12_lucky 0 = .ok (.aload_n 0, 1) := by decide +kernel
theorem dX12_lucky_1 : decode cX12_lucky 1 = .ok (.iconst 0, 1) := by decide +kernel
theorem dX12_lucky_2 : decode cX12_lucky 2 = .ok (.putfield 74, 3) := by decide +kernel
theorem dX12_lucky_5 : decode cX12_lucky 5 = .ok (.aload_n 0, 1) := by decide +kernel
theorem dX12_lucky_6 : decode cX12_lucky 6 = .ok (.iload_n 1, 1) := by decide +kernel
theorem dX12_lucky_7 : decode cX12_lucky 7 = .ok (.iload_n 3, 1) := by decide +kernel
theorem dX12_lucky_8 : decode cX12_lucky 8 = .ok (.invokevirtual 444, 3) := by decide +kernel
theorem dX12_lucky_11 : decode cX12_lucky 11 = .ok (.ifCond .eq 15, 3) := by decide +kernel
theorem dX12_lucky_14 : decode cX12_lucky 14 = .ok (.iload_n 2, 1) := by decide +kernel
theorem dX12_lucky_15 : decode cX12_lucky 15 = .ok (.i2l, 1) := by decide +kernel
theorem dX12_lucky_16 : decode cX12_lucky 16 = .ok (.lconst 1, 1) := by decide +kernel
theorem dX12_lucky_17 : decode cX12_lucky 17 = .ok (.ldc2_w 349, 3) := by decide +kernel
theorem dX12_lucky_20 : decode cX12_lucky 20 = .ok (.invokestatic 79, 3) := by decide +kernel
theorem dX12_lucky_23 : decode cX12_lucky 23 = .ok (.ifCond .ne 6, 3) := by decide +kernel
theorem dX12_lucky_26 : decode cX12_lucky 26 = .ok (.bipush (-2), 2) := by decide +kernel
theorem dX12_lucky_28 : decode cX12_lucky 28 = .ok (.ireturn, 1) := by decide +kernel
theorem dX12_lucky_29 : decode cX12_lucky 29 = .ok (.aload_n 0, 1) := by decide +kernel
theorem dX12_lucky_30 : decode cX12_lucky 30 = .ok (.invokevirtual 276, 3) := by decide +kernel
theorem dX12_lucky_33 : decode cX12_lucky 33 = .ok (.iconst 0, 1) := by decide +kernel
theorem dX12_lucky_34 : decode cX12_lucky 34 = .ok (.istore 4, 2) := by decide +kernel
theorem dX12_lucky_36 : decode cX12_lucky 36 = .ok (.iconst 0, 1) := by decide +kernel
theorem dX12_lucky_37 : decode cX12_lucky 37 = .ok (.istore 5, 2) := by decide +kernel
theorem dX12_lucky_39 : decode cX12_lucky 39 = .ok (.iload 5, 2) := by decide +kernel
theorem dX12_lucky_41 : decode cX12_lucky 41 = .ok (.iload_n 2, 1) := by decide +kernel
theorem dX12_lucky_42 : decode cX12_lucky 42 = .ok (.if_icmp .ge 53, 3) := by decide +kernel
theorem dX12_lucky_45 : decode cX12_lucky 45 = .ok (.aload_n 0, 1) := by decide +kernel
theorem dX12_lucky_46 : decode cX12_lucky 46 = .ok (.iload_n 1, 1) := by decide +kernel
theorem dX12_lucky_47 : decode cX12_lucky 47 = .ok (.i2l, 1) := by decide +kernel
theorem dX12_lucky_48 : decode cX12_lucky 48 = .ok (.iload 5, 2) := by decide +kernel
theorem dX12_lucky_50 : decode cX12_lucky 50 = .ok (.i2l, 1) := by decide +kernel
theorem dX12_lucky_51 : decode cX12_lucky 51 = .ok (.ladd, 1) := by decide +kernel
theorem dX12_lucky_52 : decode cX12_lucky 52 = .ok (.iload_n 3, 1) := by decide +kernel
theorem dX12_lucky_53 : decode cX12_lucky 53 = .ok (.invokevirtual 449, 3) := by decide +kernel
theorem dX12_lucky_56 : decode cX12_lucky 56 = .ok (.iload 4, 2) := by decide +kernel
theorem dX12_lucky_58 : decode cX12_lucky 58 = .ok (.aload_n 0, 1) := by decide +kernel
theorem dX12_lucky_59 : decode cX12_lucky 59 = .ok (.getfield 71, 3) := by decide +kernel
theorem dX12_lucky_62 : decode cX12_lucky 62 = .ok (.iconst 1, 1) := by decide +kernel
theorem dX12_lucky_63 : decode cX12_lucky 63 = .ok (.iaload, 1) := by decide +kernel
theorem dX12_lucky_64 : decode cX12_lucky 64 = .ok (.aload_n 0, 1) := by decide +kernel
theorem dX12_lucky_65 : decode cX12_lucky 65 = .ok (.getfield 71, 3) := by decide +kernel
theorem dX12_lucky_68 : decode cX12_lucky 68 = .ok (.iconst 2, 1) := by decide +kernel
theorem dX12_lucky_69 : decode cX12_lucky 69 = .ok (.iaload, 1) := by decide +kernel
theorem dX12_lucky_70 : decode cX12_lucky 70 = .ok (.iadd, 1) := by decide +kernel
theorem dX12_lucky_71 : decode cX12_lucky 71 = .ok (.aload_n 0, 1) := by decide +kernel
theorem dX12_lucky_72 : decode cX12_lucky 72 = .ok (.getfield 71, 3) := by decide +kernel
theorem dX12_lucky_75 : decode cX12_lucky 75 = .ok (.iconst 3, 1) := by decide +kernel
theorem dX12_lucky_76 : decode cX12_lucky 76 = .ok (.iaload, 1) := by decide +kernel
theorem dX12_lucky_77 : decode cX12_lucky 77 = .ok (.iadd, 1) := by decide +kernel
theorem dX12_lucky_78 : decode cX12_lucky 78 = .ok (.ifCond .ne 7, 3) := by decide +kernel
theorem dX12_lucky_81 : decode cX12_lucky 81 = .ok (.iconst 1, 1) := by decide +kernel
theorem dX12_lucky_82 : decode cX12_lucky 82 = .ok (.goto 4, 3) := by decide +kernel
theorem dX12_lucky_85 : decode cX12_lucky 85 = .ok (.iconst 0, 1) := by decide +kernel
theorem dX12_lucky_86 : decode cX12_lucky 86 = .ok (.iadd, 1) := by decide +kernel
theorem dX12_lucky_87 : decode cX12_lucky 87 = .ok (.istore 4, 2) := by decide +kernel
theorem dX12_lucky_89 : decode cX12_lucky 89 = .ok (.iinc 5 1, 3) := by decide +kernel
theorem dX12_lucky_92 : decode cX12_lucky 92 = .ok (.goto (-53), 3) := by decide +kernel
theorem dX12_lucky_95 : decode cX12_lucky 95 = .ok (.iload 4, 2) := by decide +kernel
theorem dX12_lucky_97 : decode cX12_lucky 97 = .ok (.ireturn, 1) := by decide +kernel
theorem dX12_lured_0 : decode cX12_lured 0 = .ok (.aload_n 0, 1) := by decide +kernel
theorem dX12_lured_1 : decode cX12_lured 1 = .ok (.iconst 0, 1) := by decide +kernel
theorem dX12_lured_2 : decode cX12_lured 2 = .ok (.putfield 74, 3) := by decide +kernel
theorem dX12_lured_5 : decode cX12_lured 5 = .ok (.aload_n 0, 1) := by decide +kernel
theorem dX12_lured_6 : decode cX12_lured 6 = .ok (.iload_n 1, 1) := by decide +kernel
theorem dX12_lured_7 : decode cX12_lured 7 = .ok (.invokevirtual 273, 3) := by decide +kernel
theorem dX12_lured_10 : decode cX12_lured 10 = .ok (.ifCond .eq 11, 3) := by decide +kernel
theorem dX12_lured_13 : decode cX12_lured 13 = .ok (.iload_n 2, 1) := by decide +kernel
theorem dX12_lured_14 : decode cX12_lured 14 = .ok (.i2l, 1) := by decide +kernel
theorem dX12_lured_15 : decode cX12_lured 15 = .ok (.invokestatic 285, 3) := by decide +kernel
theorem dX12_lured_18 : decode cX12_lured 18 = .ok (.ifCond .ne 6, 3) := by decide +kernel
theorem dX12_lured_21 : decode cX12_lured 21 = .ok (.bipush (-2), 2) := by decide +kernel
theorem dX12_lured_23 : decode cX12_lured 23 = .ok (.ireturn, 1) := by decide +kernel
theorem dX12_lured_24 : decode cX12_lured 24 = .ok (.aload_n 0, 1) := by decide +kernel
theorem dX12_lured_25 : decode cX12_lured 25 = .ok (.invokevirtual 276, 3) := by decide +kernel
theorem dX12_lured_28 : decode cX12_lured 28 = .ok (.aload_n 0, 1) := by decide +kernel
theorem dX12_lured_29 : decode cX12_lured 29 = .ok (.iload_n 1, 1) := by decide +kernel
theorem dX12_lured_30 : decode cX12_lured 30 = .ok (.iload_n 2, 1) := by decide +kernel
theorem dX12_lured_31 : decode cX12_lured 31 = .ok (.invokevirtual 416, 3) := by decide +kernel
theorem dX12_lured_34 : decode cX12_lured 34 = .ok (.ireturn, 1) := by decide +kernel
theorem dX12_luredOf_0 : decode cX12_luredOf 0 = .ok (.iconst 0, 1) := by decide +kernel
theorem dX12_luredOf_1 : decode cX12_luredOf 1 = .ok (.istore_n 3, 1) := by decide +kernel
theorem dX12_luredOf_2 : decode cX12_luredOf 2 = .ok (.iconst 0, 1) := by decide +kernel
theorem dX12_luredOf_3 : decode cX12_luredOf 3 = .ok (.istore 4, 2) := by decide +kernel
theorem dX12_luredOf_5 : decode cX12_luredOf 5 = .ok (.iload 4, 2) := by decide +kernel
theorem dX12_luredOf_7 : decode cX12_luredOf 7 = .ok (.bipush 36, 2) := by decide +kernel
theorem dX12_luredOf_9 : decode cX12_luredOf 9 = .ok (.if_icmp .ge 46, 3) := by decide +kernel
theorem dX12_luredOf_12 : decode cX12_luredOf 12 = .ok (.iload_n 3, 1) := by decide +kernel
theorem dX12_luredOf_13 : decode cX12_luredOf 13 = .ok (.aload_n 0, 1) := by decide +kernel
theorem dX12_luredOf_14 : decode cX12_luredOf 14 = .ok (.getfield 43, 3) := by decide +kernel
theorem dX12_luredOf_17 : decode cX12_luredOf 17 = .ok (.iload 4, 2) := by decide +kernel
theorem dX12_luredOf_19 : decode cX12_luredOf 19 = .ok (.baload, 1) := by decide +kernel
theorem dX12_luredOf_20 : decode cX12_luredOf 20 = .ok (.ifCond .eq 26, 3) := by decide +kernel
theorem dX12_luredOf_23 : decode cX12_luredOf 23 = .ok (.aload_n 0, 1) := by decide +kernel
theorem dX12_luredOf_24 : decode cX12_luredOf 24 = .ok (.iload 4, 2) := by decide +kernel
theorem dX12_luredOf_26 : decode cX12_luredOf 26 = .ok (.bipush 6, 2) := by decide +kernel
theorem dX12_luredOf_28 : decode cX12_luredOf 28 = .ok (.idiv, 1) := by decide +kernel
theorem dX12_luredOf_29 : decode cX12_luredOf 29 = .ok (.iload 4, 2) := by decide +kernel
theorem dX12_luredOf_31 : decode cX12_luredOf 31 = .ok (.bipush 6, 2) := by decide +kernel
theorem dX12_luredOf_33 : decode cX12_luredOf 33 = .ok (.irem, 1) := by decide +kernel
theorem dX12_luredOf_34 : decode cX12_luredOf 34 = .ok (.iload_n 1, 1) := by decide +kernel
theorem dX12_luredOf_35 : decode cX12_luredOf 35 = .ok (.invokevirtual 314, 3) := by decide +kernel
theorem dX12_luredOf_38 : decode cX12_luredOf 38 = .ok (.iload_n 2, 1) := by decide +kernel
theorem dX12_luredOf_39 : decode cX12_luredOf 39 = .ok (.if_icmp .ne 7, 3) := by decide +kernel
theorem dX12_luredOf_42 : decode cX12_luredOf 42 = .ok (.iconst 1, 1) := by decide +kernel
theorem dX12_luredOf_43 : decode cX12_luredOf 43 = .ok (.goto 4, 3) := by decide +kernel
theorem dX12_luredOf_46 : decode cX12_luredOf 46 = .ok (.iconst 0, 1) := by decide +kernel
theorem dX12_luredOf_47 : decode cX12_luredOf 47 = .ok (.iadd, 1) := by decide +kernel
theorem dX12_luredOf_48 : decode cX12_luredOf 48 = .ok (.istore_n 3, 1) := by decide +kernel
theorem dX12_luredOf_49 : decode cX12_luredOf 49 = .ok (.iinc 4 1, 3) := by decide +kernel
theorem dX12_luredOf_52 : decode cX12_luredOf 52 = .ok (.goto (-47), 3) := by decide +kernel
theorem dX12_luredOf_55 : decode cX12_luredOf 55 = .ok (.iload_n 3, 1) := by decide +kernel
theorem dX12_luredOf_56 : decode cX12_luredOf 56 = .ok (.ireturn, 1) := by decide +kernel
theorem dX12_many_0 : decode cX12_many 0 = .ok (.aload_n 0, 1) := by decide +kernel
theorem dX12_many_1 : decode cX12_many 1 = .ok (.iconst 0, 1) := by decide +kernel
theorem dX12_many_2 : decode cX12_many 2 = .ok (.putfield 74, 3) := by decide +kernel
theorem dX12_many_5 : decode cX12_many 5 = .ok (.aload_n 0, 1) := by decide +kernel
theorem dX12_many_6 : decode cX12_many 6 = .ok (.iload_n 1, 1) := by decide +kernel
theorem dX12_many_7 : decode cX12_many 7 = .ok (.invokevirtual 398, 3) := by decide +kernel
theorem dX12_many_10 : decode cX12_many 10 = .ok (.istore_n 2, 1) := by decide +kernel
theorem dX12_many_11 : decode cX12_many 11 = .ok (.iload_n 2, 1) := by decide +kernel
theorem dX12_many_12 : decode cX12_many 12 = .ok (.ifCond .eq 5, 3) := by decide +kernel
theorem dX12_many_15 : decode cX12_many 15 = .ok (.iload_n 2, 1) := by decide +kernel
theorem dX12_many_16 : decode cX12_many 16 = .ok (.ireturn, 1) := by decide +kernel
theorem dX12_many_17 : decode cX12_many 17 = .ok (.aload_n 0, 1) := by decide +kernel
theorem dX12_many_18 : decode cX12_many 18 = .ok (.invokevirtual 276, 3) := by decide +kernel
theorem dX12_many_21 : decode cX12_many 21 = .ok (.iconst 0, 1) := by decide +kernel
theorem dX12_many_22 : decode cX12_many 22 = .ok (.istore_n 3, 1) := by decide +kernel
theorem dX12_many_23 : decode cX12_many 23 = .ok (.iconst 0, 1) := by decide +kernel
theorem dX12_many_24 : decode cX12_many 24 = .ok (.istore 4, 2) := by decide +kernel
theorem dX12_many_26 : decode cX12_many 26 = .ok (.iload 4, 2) := by decide +kernel
theorem dX12_many_28 : decode cX12_many 28 = .ok (.bipush 60, 2) := by decide +kernel
theorem dX12_many_30 : decode cX12_many 30 = .ok (.if_icmp .ge 27, 3) := by decide +kernel
theorem dX12_many_33 : decode cX12_many 33 = .ok (.iload_n 3, 1) := by decide +kernel
theorem dX12_many_34 : decode cX12_many 34 = .ok (.aload_n 0, 1) := by decide +kernel
theorem dX12_many_35 : decode cX12_many 35 = .ok (.iload_n 1, 1) := by decide +kernel
theorem dX12_many_36 : decode cX12_many 36 = .ok (.iload 4, 2) := by decide +kernel
theorem dX12_many_38 : decode cX12_many 38 = .ok (.invokevirtual 401, 3) := by decide +kernel
theorem dX12_many_41 : decode cX12_many 41 = .ok (.ifCond .eq 7, 3) := by decide +kernel
theorem dX12_many_44 : decode cX12_many 44 = .ok (.iconst 1, 1) := by decide +kernel
theorem dX12_many_45 : decode cX12_many 45 = .ok (.goto 4, 3) := by decide +kernel
theorem dX12_many_48 : decode cX12_many 48 = .ok (.iconst 0, 1) := by decide +kernel
theorem dX12_many_49 : decode cX12_many 49 = .ok (.iadd, 1) := by decide +kernel
theorem dX12_many_50 : decode cX12_many 50 = .ok (.istore_n 3, 1) := by decide +kernel
theorem dX12_many_51 : decode cX12_many 51 = .ok (.iinc 4 1, 3) := by decide +kernel
theorem dX12_many_54 : decode cX12_many 54 = .ok (.goto (-28), 3) := by decide +kernel
theorem dX12_many_57 : decode cX12_many 57 = .ok (.iload_n 3, 1) := by decide +kernel
theorem dX12_many_58 : decode cX12_many 58 = .ok (.ireturn, 1) := by decide +kernel
theorem dX12_nearest_0 : decode cX12_nearest 0 = .ok (.iconst (-1), 1) := by decide +kernel
theorem dX12_nearest_1 : decode cX12_nearest 1 = .ok (.istore 5, 2) := by decide +kernel
theorem dX12_nearest_3 : decode cX12_nearest 3 = .ok (.iconst 0, 1) := by decide +kernel
theorem dX12_nearest_4 : decode cX12_nearest 4 = .ok (.istore 6, 2) := by decide +kernel
theorem dX12_nearest_6 : decode cX12_nearest 6 = .ok (.iload 6, 2) := by decide +kernel
theorem dX12_nearest_8 : decode cX12_nearest 8 = .ok (.aload_n 0, 1) := by decide +kernel
theorem dX12_nearest_9 : decode cX12_nearest 9 = .ok (.getfield 34, 3) := by decide +kernel
theorem dX12_nearest_12 : decode cX12_nearest 12 = .ok (.iconst 4, 1) := by decide +kernel
theorem dX12_nearest_13 : decode cX12_nearest 13 = .ok (.iaload, 1) := by decide +kernel
theorem dX12_nearest_14 : decode cX12_nearest 14 = .ok (.if_icmp .ge 66, 3) := by decide +kernel
theorem dX12_nearest_17 : decode cX12_nearest 17 = .ok (.iload 4, 2) := by decide +kernel
theorem dX12_nearest_19 : decode cX12_nearest 19 = .ok (.ifCond .eq 16, 3) := by decide +kernel
theorem dX12_nearest_22 : decode cX12_nearest 22 = .ok (.aload_n 0, 1) := by decide +kernel
theorem dX12_nearest_23 : decode cX12_nearest 23 = .ok (.iload 6, 2) := by decide +kernel
theorem dX12_nearest_25 : decode cX12_nearest 25 = .ok (.iload_n 3, 1) := by decide +kernel
theorem dX12_nearest_26 : decode cX12_nearest 26 = .ok (.invokevirtual 300, 3) := by decide +kernel
theorem dX12_nearest_29 : decode cX12_nearest 29 = .ok (.ifCond .ne 6, 3) := by decide +kernel
theorem dX12_nearest_32 : decode cX12_nearest 32 = .ok (.goto 42, 3) := by decide +kernel
theorem dX12_nearest_35 : decode cX12_nearest 35 = .ok (.iload 5, 2) := by decide +kernel
theorem dX12_nearest_37 : decode cX12_nearest 37 = .ok (.iconst (-1), 1) := by decide +kernel
theorem dX12_nearest_38 : decode cX12_nearest 38 = .ok (.if_icmp .eq 32, 3) := by decide +kernel
theorem dX12_nearest_41 : decode cX12_nearest 41 = .ok (.aload_n 0, 1) := by decide +kernel
theorem dX12_nearest_42 : decode cX12_nearest 42 = .ok (.iload_n 1, 1) := by decide +kernel
theorem dX12_nearest_43 : decode cX12_nearest 43 = .ok (.iload_n 2, 1) := by decide +kernel
theorem dX12_nearest_44 : decode cX12_nearest 44 = .ok (.aload_n 0, 1) := by decide +kernel
theorem dX12_nearest_45 : decode cX12_nearest 45 = .ok (.iload 6, 2) := by decide +kernel
theorem dX12_nearest_47 : decode cX12_nearest 47 = .ok (.iload_n 3, 1) := by decide +kernel
theorem dX12_nearest_48 : decode cX12_nearest 48 = .ok (.invokevirtual 267, 3) := by decide +kernel
theorem dX12_nearest_51 : decode cX12_nearest 51 = .ok (.invokevirtual 303, 3) := by decide +kernel
theorem dX12_nearest_54 : decode cX12_nearest 54 = .ok (.aload_n 0, 1) := by decide +kernel
theorem dX12_nearest_55 : decode cX12_nearest 55 = .ok (.iload_n 1, 1) := by decide +kernel
theorem dX12_nearest_56 : decode cX12_nearest 56 = .ok (.iload_n 2, 1) := by decide +kernel
theorem dX12_nearest_57 : decode cX12_nearest 57 = .ok (.aload_n 0, 1) := by decide +kernel
theorem dX12_nearest_58 : decode cX12_nearest 58 = .ok (.iload 5, 2) := by decide +kernel
theorem dX12_nearest_60 : decode cX12_nearest 60 = .ok (.iload_n 3, 1) := by decide +kernel
theorem dX12_nearest_61 : decode cX12_nearest 61 = .ok (.invokevirtual 267, 3) := by decide +kernel
theorem dX12_nearest_64 : decode cX12_nearest 64 = .ok (.invokevirtual 303, 3) := by decide +kernel
theorem dX12_nearest_67 : decode cX12_nearest 67 = .ok (.if_icmp .ge 7, 3) := by decide +kernel
theorem dX12_nearest_70 : decode cX12_nearest 70 = .ok (.iload 6, 2) := by decide +kernel
theorem dX12_nearest_72 : decode cX12_nearest 72 = .ok (.istore 5, 2) := by decide +kernel
theorem dX12_nearest_74 : decode cX12_nearest 74 = .ok (.iinc 6 1, 3) := by decide +kernel
theorem dX12_nearest_77 : decode cX12_nearest 77 = .ok (.goto (-71), 3) := by decide +kernel
theorem dX12_nearest_80 : decode cX12_nearest 80 = .ok (.iload 5, 2) := by decide +kernel
theorem dX12_nearest_82 : decode cX12_nearest 82 = .ok (.ireturn, 1) := by decide +kernel
theorem dX12_needs_0 : decode cX12_needs 0 = .ok (.aload_n 0, 1) := by decide +kernel
theorem dX12_needs_1 : decode cX12_needs 1 = .ok (.iconst 0, 1) := by decide +kernel
theorem dX12_needs_2 : decode cX12_needs 2 = .ok (.putfield 74, 3) := by decide +kernel
theorem dX12_needs_5 : decode cX12_needs 5 = .ok (.aload_n 0, 1) := by decide +kernel
theorem dX12_needs_6 : decode cX12_needs 6 = .ok (.invokevirtual 237, 3) := by decide +kernel
theorem dX12_needs_9 : decode cX12_needs 9 = .ok (.ifCond .ne 6, 3) := by decide +kernel
theorem dX12_needs_12 : decode cX12_needs 12 = .ok (.bipush (-2), 2) := by decide +kernel
theorem dX12_needs_14 : decode cX12_needs 14 = .ok (.ireturn, 1) := by decide +kernel
theorem dX12_needs_15 : decode cX12_needs 15 = .ok (.iconst 1, 1) := by decide +kernel
theorem dX12_needs_16 : decode cX12_needs 16 = .ok (.istore_n 1, 1) := by decide +kernel
theorem dX12_needs_17 : decode cX12_needs 17 = .ok (.iload_n 1, 1) := by decide +kernel
theorem dX12_needs_18 : decode cX12_needs 18 = .ok (.bipush 7, 2) := by decide +kernel
theorem dX12_needs_20 : decode cX12_needs 20 = .ok (.if_icmp .gt 38, 3) := by decide +kernel
theorem dX12_needs_23 : decode cX12_needs 23 = .ok (.aload_n 0, 1) := by decide +kernel
theorem dX12_needs_24 : decode cX12_needs 24 = .ok (.iload_n 1, 1) := by decide +kernel
theorem dX12_needs_25 : decode cX12_needs 25 = .ok (.invokevirtual 376, 3) := by decide +kernel
theorem dX12_needs_28 : decode cX12_needs 28 = .ok (.iconst (-1), 1) := by decide +kernel
theorem dX12_needs_29 : decode cX12_needs 29 = .ok (.if_icmp .eq 23, 3) := by decide +kernel
theorem dX12_needs_32 : decode cX12_needs 32 = .ok (.aload_n 0, 1) := by decide +kernel
theorem dX12_needs_33 : decode cX12_needs 33 = .ok (.aload_n 0, 1) := by decide +kernel
theorem dX12_needs_34 : decode cX12_needs 34 = .ok (.iload_n 1, 1) := by decide +kernel
theorem dX12_needs_35 : decode cX12_needs 35 = .ok (.invokevirtual 376, 3) := by decide +kernel
theorem dX12_needs_38 : decode cX12_needs 38 = .ok (.invokevirtual 371, 3) := by decide +kernel
theorem dX12_needs_41 : decode cX12_needs 41 = .ok (.aload_n 0, 1) := by decide +kernel
theorem dX12_needs_42 : decode cX12_needs 42 = .ok (.getfield 34, 3) := by decide +kernel
theorem dX12_needs_45 : decode cX12_needs 45 = .ok (.iconst 2, 1) := by decide +kernel
theorem dX12_needs_46 : decode cX12_needs 46 = .ok (.iaload, 1) := by decide +kernel
theorem dX12_needs_47 : decode cX12_needs 47 = .ok (.if_icmp .gt 5, 3) := by decide +kernel
theorem dX12_needs_50 : decode cX12_needs 50 = .ok (.iload_n 1, 1) := by decide +kernel
theorem dX12_needs_51 : decode cX12_needs 51 = .ok (.ireturn, 1) := by decide +kernel
theorem dX12_needs_52 : decode cX12_needs 52 = .ok (.iinc 1 1, 3) := by decide +kernel
theorem dX12_needs_55 : decode cX12_needs 55 = .ok (.goto (-38), 3) := by decide +kernel
theorem dX12_needs_58 : decode cX12_needs 58 = .ok (.iconst (-1), 1) := by decide +kernel
theorem dX12_needs_59 : decode cX12_needs 59 = .ok (.ireturn, 1) := by decide +kernel
theorem dX12_next_0 : decode cX12_next 0 = .ok (.aload_n 0, 1) := by decide +kernel
theorem dX12_next_1 : decode cX12_next 1 = .ok (.aload_n 0, 1) := by decide +kernel
theorem dX12_next_2 : decode cX12_next 2 = .ok (.getfield 98, 3) := by decide +kernel
theorem dX12_next_5 : decode cX12_next 5 = .ok (.bipush 32, 2) := by decide +kernel
theorem dX12_next_7 : decode cX12_next 7 = .ok (.bipush 32, 2) := by decide +kernel
theorem dX12_next_9 : decode cX12_next 9 = .ok (.invokevirtual 101, 3) := by decide +kernel
theorem dX12_next_12 : decode cX12_next 12 = .ok (.ifCond .ne 18, 3) := by decide +kernel
theorem dX12_next_15 : decode cX12_next 15 = .ok (.aload_n 0, 1) := by decide +kernel
theorem dX12_next_16 : decode cX12_next 16 = .ok (.aload_n 0, 1) := by decide +kernel
theorem dX12_next_17 : decode cX12_next 17 = .ok (.getfield 98, 3) := by decide +kernel
theorem dX12_next_20 : decode cX12_next 20 = .ok (.bipush 10, 2) := by decide +kernel
theorem dX12_next_22 : decode cX12_next 22 = .ok (.bipush 10, 2) := by decide +kernel
theorem dX12_next_24 : decode cX12_next 24 = .ok (.invokevirtual 101, 3) := by decide +kernel
theorem dX12_next_27 : decode cX12_next 27 = .ok (.ifCond .eq 16, 3) := by decide +kernel
theorem dX12_next_30 : decode cX12_next 30 = .ok (.aload_n 0, 1) := by decide +kernel
theorem dX12_next_31 : decode cX12_next 31 = .ok (.dup, 1) := by decide +kernel
theorem dX12_next_32 : decode cX12_next 32 = .ok (.getfield 98, 3) := by decide +kernel
theorem dX12_next_35 : decode cX12_next 35 = .ok (.iconst 1, 1) := by decide +kernel
theorem dX12_next_36 : decode cX12_next 36 = .ok (.iadd, 1) := by decide +kernel
theorem dX12_next_37 : decode cX12_next 37 = .ok (.putfield 98, 3) := by decide +kernel
theorem dX12_next_40 : decode cX12_next 40 = .ok (.goto (-40), 3) := by decide +kernel
theorem dX12_next_43 : decode cX12_next 43 = .ok (.aload_n 0, 1) := by decide +kernel
theorem dX12_next_44 : decode cX12_next 44 = .ok (.aload_n 0, 1) := by decide +kernel
theorem dX12_next_45 : decode cX12_next 45 = .ok (.getfield 98, 3) := by decide +kernel
theorem dX12_next_48 : decode cX12_next 48 = .ok (.putfield 105, 3) := by decide +kernel
theorem dX12_next_51 : decode cX12_next 51 = .ok (.aload_n 0, 1) := by decide +kernel
theorem dX12_next_52 : decode cX12_next 52 = .ok (.iconst 0, 1) := by decide +kernel
theorem dX12_next_53 : decode cX12_next 53 = .ok (.putfield 108, 3) := by decide +kernel
theorem dX12_next_56 : decode cX12_next 56 = .ok (.aload_n 0, 1) := by decide +kernel
theorem dX12_next_57 : decode cX12_next 57 = .ok (.lconst 0, 1) := by decide +kernel
theorem dX12_next_58 : decode cX12_next 58 = .ok (.putfield 111, 3) := by decide +kernel
theorem dX12_next_61 : decode cX12_next 61 = .ok (.aload_n 0, 1) := by decide +kernel
theorem dX12_next_62 : decode cX12_next 62 = .ok (.getfield 98, 3) := by decide +kernel
theorem dX12_next_65 : decode cX12_next 65 = .ok (.aload_n 0, 1) := by decide +kernel
theorem dX12_next_66 : decode cX12_next 66 = .ok (.getfield 91, 3) := by decide +kernel
theorem dX12_next_69 : decode cX12_next 69 = .ok (.if_icmp .ne 11, 3) := by decide +kernel
theorem dX12_next_72 : decode cX12_next 72 = .ok (.aload_n 0, 1) := by decide +kernel
theorem dX12_next_73 : decode cX12_next 73 = .ok (.iconst 0, 1) := by decide +kernel
theorem dX12_next_74 : decode cX12_next 74 = .ok (.putfield 115, 3) := by decide +kernel
theorem dX12_next_77 : decode cX12_next 77 = .ok (.goto 230, 3) := by decide +kernel
theorem dX12_next_80 : decode cX12_next 80 = .ok (.aload_n 0, 1) := by decide +kernel
theorem dX12_next_81 : decode cX12_next 81 = .ok (.aload_n 0, 1) := by decide +kernel
theorem dX12_next_82 : decode cX12_next 82 = .ok (.getfield 98, 3) := by decide +kernel
theorem dX12_next_85 : decode cX12_next 85 = .ok (.bipush 97, 2) := by decide +kernel
theorem dX12_next_87 : decode cX12_next 87 = .ok (.bipush 122, 2) := by decide +kernel
theorem dX12_next_89 : decode cX12_next 89 = .ok (.invokevirtual 101, 3) := by decide +kernel
theorem dX12_next_92 : decode cX12_next 92 = .ok (.ifCond .eq 96, 3) := by decide +kernel
theorem dX12_next_95 : decode cX12_next 95 = .ok (.aload_n 0, 1) := by decide +kernel
theorem dX12_next_96 : decode cX12_next 96 = .ok (.iconst 1, 1) := by decide +kernel
theorem dX12_next_97 : decode cX12_next 97 = .ok (.putfield 115, 3) := by decide +kernel
theorem dX12_next_100 : decode cX12_next 100 = .ok (.iconst 0, 1) := by decide +kernel
theorem dX12_next_101 : decode cX12_next 101 = .ok (.istore_n 1, 1) := by decide +kernel
theorem dX12_next_102 : decode cX12_next 102 = .ok (.aload_n 0, 1) := by decide +kernel
theorem dX12_next_103 : decode cX12_next 103 = .ok (.aload_n 0, 1) := by decide +kernel
theorem dX12_next_104 : decode cX12_next 104 = .ok (.getfield 98, 3) := by decide +kernel
theorem dX12_next_107 : decode cX12_next 107 = .ok (.bipush 97, 2) := by decide +kernel
theorem dX12_next_109 : decode cX12_next 109 = .ok (.bipush 122, 2) := by decide +kernel
theorem dX12_next_111 : decode cX12_next 111 = .ok (.invokevirtual 101, 3) := by decide +kernel
theorem dX12_next_114 : decode cX12_next 114 = .ok (.ifCond .eq 71, 3) := by decide +kernel
theorem dX12_next_117 : decode cX12_next 117 = .ok (.aload_n 0, 1) := by decide +kernel
theorem dX12_next_118 : decode cX12_next 118 = .ok (.iload_n 1, 1) := by decide +kernel
theorem dX12_next_119 : decode cX12_next 119 = .ok (.bipush 11, 2) := by decide +kernel
theorem dX12_next_121 : decode cX12_next 121 = .ok (.if_icmp .le 9, 3) := by decide +kernel
theorem dX12_next_124 : decode cX12_next 124 = .ok (.ldc2_w 118, 3) := by decide +kernel
theorem dX12_next_127 : decode cX12_next 127 = .ok (.goto 26, 3) := by decide +kernel
theorem dX12_next_130 : decode cX12_next 130 = .ok (.ldc2_w 120, 3) := by decide +kernel
theorem dX12_next_133 : decode cX12_next 133 = .ok (.aload_n 0, 1) := by decide +kernel
theorem dX12_next_134 : decode cX12_next 134 = .ok (.getfield 111, 3) := by decide +kernel
theorem dX12_next_137 : decode cX12_next 137 = .ok (.lmul, 1) := by decide +kernel
theorem dX12_next_138 : decode cX12_next 138 = .ok (.aload_n 0, 1) := by decide +kernel
theorem dX12_next_139 : decode cX12_next 139 = .ok (.getfield 23, 3) := by decide +kernel
theorem dX12_next_142 : decode cX12_next 142 = .ok (.aload_n 0, 1) := by decide +kernel
theorem dX12_next_143 : decode cX12_next 143 = .ok (.getfield 98, 3) := by decide +kernel
theorem dX12_next_146 : decode cX12_next 146 = .ok (.baload, 1) := by decide +kernel
theorem dX12_next_147 : decode cX12_next 147 = .ok (.i2l, 1) := by decide +kernel
theorem dX12_next_148 : decode cX12_next 148 = .ok (.ladd, 1) := by decide +kernel
theorem dX12_next_149 : decode cX12_next 149 = .ok (.ldc2_w 122, 3) := by decide +kernel
theorem dX12_next_152 : decode cX12_next 152 = .ok (.lsub, 1) := by decide +kernel
theorem dX12_next_153 : decode cX12_next 153 = .ok (.putfield 111, 3) := by decide +kernel
theorem dX12_next_156 : decode cX12_next 156 = .ok (.iload_n 1, 1) := by decide +kernel
theorem dX12_next_157 : decode cX12_next 157 = .ok (.bipush 11, 2) := by decide +kernel
theorem dX12_next_159 : decode cX12_next 159 = .ok (.if_icmp .le 10, 3) := by decide +kernel
theorem dX12_next_162 : decode cX12_next 162 = .ok (.aload_n 0, 1) := by decide +kernel
theorem dX12_next_163 : decode cX12_next 163 = .ok (.ldc2_w 118, 3) := by decide +kernel
theorem dX12_next_166 : decode cX12_next 166 = .ok (.putfield 111, 3) := by decide +kernel
theorem dX12_next_169 : decode cX12_next 169 = .ok (.aload_n 0, 1) := by decide +kernel
theorem dX12_next_170 : decode cX12_next 170 = .ok (.dup, 1) := by decide +kernel
theorem dX12_next_171 : decode cX12_next 171 = .ok (.getfield 98, 3) := by decide +kernel
theorem dX12_next_174 : decode cX12_next 174 = .ok (.iconst 1, 1) := by decide +kernel
theorem dX12_next_175 : decode cX12_next 175 = .ok (.iadd, 1) := by decide +kernel
theorem dX12_next_176 : decode cX12_next 176 = .ok (.putfield 98, 3) := by decide +kernel
theorem dX12_next_179 : decode cX12_next 179 = .ok (.iinc 1 1, 3) := by decide +kernel
theorem dX12_next_182 : decode cX12_next 182 = .ok (.goto (-80), 3) := by decide +kernel
theorem dX12_next_185 : decode cX12_next 185 = .ok (.goto 122, 3) := by decide +kernel
theorem dX12_next_188 : decode cX12_next 188 = .ok (.aload_n 0, 1) := by decide +kernel
theorem dX12_next_189 : decode cX12_next 189 = .ok (.aload_n 0, 1) := by decide +kernel
theorem dX12_next_190 : decode cX12_next 190 = .ok (.getfield 98, 3) := by decide +kernel
theorem dX12_next_193 : decode cX12_next 193 = .ok (.bipush 48, 2) := by decide +kernel
theorem dX12_next_195 : decode cX12_next 195 = .ok (.bipush 57, 2) := by decide +kernel
theorem dX12_next_197 : decode cX12_next 197 = .ok (.invokevirtual 101, 3) := by decide +kernel
theorem dX12_next_200 : decode cX12_next 200 = .ok (.ifCond .eq 74, 3) := by decide +kernel
theorem dX12_next_203 : decode cX12_next 203 = .ok (.aload_n 0, 1) := by decide +kernel
theorem dX12_next_204 : decode cX12_next 204 = .ok (.iconst 2, 1) := by decide +kernel
theorem dX12_next_205 : decode cX12_next 205 = .ok (.putfield 115, 3) := by decide +kernel
theorem dX12_next_208 : decode cX12_next 208 = .ok (.aload_n 0, 1) := by decide +kernel
theorem dX12_next_209 : decode cX12_next 209 = .ok (.aload_n 0, 1) := by decide +kernel
theorem dX12_next_210 : decode cX12_next 210 = .ok (.getfield 98, 3) := by decide +kernel
theorem dX12_next_213 : decode cX12_next 213 = .ok (.bipush 48, 2) := by decide +kernel
theorem dX12_next_215 : decode cX12_next 215 = .ok (.bipush 57, 2) := by decide +kernel
theorem dX12_next_217 : decode cX12_next 217 = .ok (.invokevirtual 101, 3) := by decide +kernel
theorem dX12_next_220 : decode cX12_next 220 = .ok (.ifCond .eq 87, 3) := by decide +kernel
theorem dX12_next_223 : decode cX12_next 223 = .ok (.aload_n 0, 1) := by decide +kernel
theorem dX12_next_224 : decode cX12_next 224 = .ok (.aload_n 0, 1) := by decide +kernel
theorem dX12_next_225 : decode cX12_next 225 = .ok (.getfield 108, 3) := by decide +kernel
theorem dX12_next_228 : decode cX12_next 228 = .ok (.ldc 124, 2) := by decide +kernel
theorem dX12_next_230 : decode cX12_next 230 = .ok (.if_icmp .le 8, 3) := by decide +kernel
theorem dX12_next_233 : decode cX12_next 233 = .ok (.ldc 125, 2) := by decide +kernel
theorem dX12_next_235 : decode cX12_next 235 = .ok (.goto 23, 3) := by decide +kernel
theorem dX12_next_238 : decode cX12_next 238 = .ok (.bipush 10, 2) := by decide +kernel
theorem dX12_next_240 : decode cX12_next 240 = .ok (.aload_n 0, 1) := by decide +kernel
theorem dX12_next_241 : decode cX12_next 241 = .ok (.getfield 108, 3) := by decide +kernel
theorem dX12_next_244 : decode cX12_next 244 = .ok (.imul, 1) := by decide +kernel
theorem dX12_next_245 : decode cX12_next 245 = .ok (.aload_n 0, 1) := by decide +kernel
theorem dX12_next_246 : decode cX12_next 246 = .ok (.getfield 23, 3) := by decide +kernel
theorem dX12_next_249 : decode cX12_next 249 = .ok (.aload_n 0, 1) := by decide +kernel
theorem dX12_next_250 : decode cX12_next 250 = .ok (.getfield 98, 3) := by decide +kernel
theorem dX12_next_253 : decode cX12_next 253 = .ok (.baload, 1) := by decide +kernel
theorem dX12_next_254 : decode cX12_next 254 = .ok (.iadd, 1) := by decide +kernel
theorem dX12_next_255 : decode cX12_next 255 = .ok (.bipush 48, 2) := by decide +kernel
theorem dX12_next_257 : decode cX12_next 257 = .ok (.isub, 1) := by decide +kernel
theorem dX12_next_258 : decode cX12_next 258 = .ok (.putfield 108, 3) := by decide +kernel
theorem dX12_next_261 : decode cX12_next 261 = .ok (.aload_n 0, 1) := by decide +kernel
theorem dX12_next_262 : decode cX12_next 262 = .ok (.dup, 1) := by decide +kernel
theorem dX12_next_263 : decode cX12_next 263 = .ok (.getfield 98, 3) := by decide +kernel
theorem dX12_next_266 : decode cX12_next 266 = .ok (.iconst 1, 1) := by decide +kernel
theorem dX12_next_267 : decode cX12_next 267 = .ok (.iadd, 1) := by decide +kernel
theorem dX12_next_268 : decode cX12_next 268 = .ok (.putfield 98, 3) := by decide +kernel
theorem dX12_next_271 : decode cX12_next 271 = .ok (.goto (-63), 3) := by decide +kernel
theorem dX12_next_274 : decode cX12_next 274 = .ok (.aload_n 0, 1) := by decide +kernel
theorem dX12_next_275 : decode cX12_next 275 = .ok (.aload_n 0, 1) := by decide +kernel
theorem dX12_next_276 : decode cX12_next 276 = .ok (.getfield 23, 3) := by decide +kernel
theorem dX12_next_279 : decode cX12_next 279 = .ok (.aload_n 0, 1) := by decide +kernel
theorem dX12_next_280 : decode cX12_next 280 = .ok (.getfield 98, 3) := by decide +kernel
theorem dX12_next_283 : decode cX12_next 283 = .ok (.baload, 1) := by decide +kernel
theorem dX12_next_284 : decode cX12_next 284 = .ok (.bipush 59, 2) := by decide +kernel
theorem dX12_next_286 : decode cX12_next 286 = .ok (.if_icmp .ne 7, 3) := by decide +kernel
theorem dX12_next_289 : decode cX12_next 289 = .ok (.iconst 3, 1) := by decide +kernel
theorem dX12_next_290 : decode cX12_next 290 = .ok (.goto 4, 3) := by decide +kernel
theorem dX12_next_293 : decode cX12_next 293 = .ok (.iconst 4, 1) := by decide +kernel
theorem dX12_next_294 : decode cX12_next 294 = .ok (.putfield 115, 3) := by decide +kernel
theorem dX12_next_297 : decode cX12_next 297 = .ok (.aload_n 0, 1) := by decide +kernel
theorem dX12_next_298 : decode cX12_next 298 = .ok (.dup, 1) := by decide +kernel
theorem dX12_next_299 : decode cX12_next 299 = .ok (.getfield 98, 3) := by decide +kernel
theorem dX12_next_302 : decode cX12_next 302 = .ok (.iconst 1, 1) := by decide +kernel
theorem dX12_next_303 : decode cX12_next 303 = .ok (.iadd, 1) := by decide +kernel
theorem dX12_next_304 : decode cX12_next 304 = .ok (.putfield 98, 3) := by decide +kernel
theorem dX12_next_307 : decode cX12_next 307 = .ok (.return_, 1) := by decide +kernel
theorem dX12_next__0 : decode cX12_next_ 0 = .ok (.aload_n 0, 1) := by decide +kernel
theorem dX12_next__1 : decode cX12_next_ 1 = .ok (.iconst 0, 1) := by decide +kernel
theorem dX12_next__2 : decode cX12_next_ 2 = .ok (.putfield 74, 3) := by decide +kernel
theorem dX12_next__5 : decode cX12_next_ 5 = .ok (.aload_n 0, 1) := by decide +kernel
theorem dX12_next__6 : decode cX12_next_ 6 = .ok (.iload_n 1, 1) := by decide +kernel
theorem dX12_next__7 : decode cX12_next_ 7 = .ok (.i2l, 1) := by decide +kernel
theorem dX12_next__8 : decode cX12_next_ 8 = .ok (.invokevirtual 250, 3) := by decide +kernel
theorem dX12_next__11 : decode cX12_next_ 11 = .ok (.ifCond .eq 20, 3) := by decide +kernel
theorem dX12_next__14 : decode cX12_next_ 14 = .ok (.aload_n 0, 1) := by decide +kernel
theorem dX12_next__15 : decode cX12_next_ 15 = .ok (.iload_n 2, 1) := by decide +kernel
theorem dX12_next__16 : decode cX12_next_ 16 = .ok (.i2l, 1) := by decide +kernel
theorem dX12_next__17 : decode cX12_next_ 17 = .ok (.invokevirtual 247, 3) := by decide +kernel
theorem dX12_next__20 : decode cX12_next_ 20 = .ok (.ifCond .eq 11, 3) := by decide +kernel
theorem dX12_next__23 : decode cX12_next_ 23 = .ok (.aload_n 0, 1) := by decide +kernel
theorem dX12_next__24 : decode cX12_next_ 24 = .ok (.iload_n 3, 1) := by decide +kernel
theorem dX12_next__25 : decode cX12_next_ 25 = .ok (.invokevirtual 273, 3) := by decide +kernel
theorem dX12_next__28 : decode cX12_next_ 28 = .ok (.ifCond .ne 6, 3) := by decide +kernel
theorem dX12_next__31 : decode cX12_next_ 31 = .ok (.bipush (-2), 2) := by decide +kernel
theorem dX12_next__33 : decode cX12_next_ 33 = .ok (.ireturn, 1) := by decide +kernel
theorem dX12_next__34 : decode cX12_next_ 34 = .ok (.aload_n 0, 1) := by decide +kernel
theorem dX12_next__35 : decode cX12_next_ 35 = .ok (.invokevirtual 276, 3) := by decide +kernel
theorem dX12_next__38 : decode cX12_next_ 38 = .ok (.iload_n 3, 1) := by decide +kernel
theorem dX12_next__39 : decode cX12_next_ 39 = .ok (.istore 4, 2) := by decide +kernel
theorem dX12_next__41 : decode cX12_next_ 41 = .ok (.iload 4, 2) := by decide +kernel
theorem dX12_next__43 : decode cX12_next_ 43 = .ok (.bipush 60, 2) := by decide +kernel
theorem dX12_next__45 : decode cX12_next_ 45 = .ok (.if_icmp .ge 23, 3) := by decide +kernel
theorem dX12_next__48 : decode cX12_next_ 48 = .ok (.aload_n 0, 1) := by decide +kernel
theorem dX12_next__49 : decode cX12_next_ 49 = .ok (.iload_n 1, 1) := by decide +kernel
theorem dX12_next__50 : decode cX12_next_ 50 = .ok (.iload 4, 2) := by decide +kernel
theorem dX12_next__52 : decode cX12_next_ 52 = .ok (.invokevirtual 267, 3) := by decide +kernel
theorem dX12_next__55 : decode cX12_next_ 55 = .ok (.iload_n 2, 1) := by decide +kernel
theorem dX12_next__56 : decode cX12_next_ 56 = .ok (.if_icmp .ne 6, 3) := by decide +kernel
theorem dX12_next__59 : decode cX12_next_ 59 = .ok (.iload 4, 2) := by decide +kernel
theorem dX12_next__61 : decode cX12_next_ 61 = .ok (.ireturn, 1) := by decide +kernel
theorem dX12_next__62 : decode cX12_next_ 62 = .ok (.iinc 4 1, 3) := by decide +kernel
theorem dX12_next__65 : decode cX12_next_ 65 = .ok (.goto (-24), 3) := by decide +kernel
theorem dX12_next__68 : decode cX12_next_ 68 = .ok (.iconst (-1), 1) := by decide +kernel
theorem dX12_next__69 : decode cX12_next_ 69 = .ok (.ireturn, 1) := by decide +kernel
theorem dX12_node_0 : decode cX12_node 0 = .ok (.iconst 2, 1) := by decide +kernel
theorem dX12_node_1 : decode cX12_node 1 = .ok (.bipush 36, 2) := by decide +kernel
theorem dX12_node_3 : decode cX12_node 3 = .ok (.iload_n 0, 1) := by decide +kernel
theorem dX12_node_4 : decode cX12_node 4 = .ok (.imul, 1) := by decide +kernel
theorem dX12_node_5 : decode cX12_node 5 = .ok (.iload_n 1, 1) := by decide +kernel
theorem dX12_node_6 : decode cX12_node 6 = .ok (.iadd, 1) := by decide +kernel
theorem dX12_node_7 : decode cX12_node 7 = .ok (.imul, 1) := by decide +kernel
theorem dX12_node_8 : decode cX12_node 8 = .ok (.iload_n 2, 1) := by decide +kernel
theorem dX12_node_9 : decode cX12_node 9 = .ok (.ifCond .eq 7, 3) := by decide +kernel
theorem dX12_node_12 : decode cX12_node 12 = .ok (.iconst 1, 1) := by decide +kernel
theorem dX12_node_13 : decode cX12_node 13 = .ok (.goto 4, 3) := by decide +kernel
theorem dX12_node_16 : decode cX12_node 16 = .ok (.iconst 0, 1) := by decide +kernel
theorem dX12_node_17 : decode cX12_node 17 = .ok (.iadd, 1) := by decide +kernel
theorem dX12_node_18 : decode cX12_node 18 = .ok (.ireturn, 1) := by decide +kernel
theorem dX12_number_0 : decode cX12_number 0 = .ok (.aload_n 0, 1) := by decide +kernel
theorem dX12_number_1 : decode cX12_number 1 = .ok (.getfield 126, 3) := by decide +kernel
theorem dX12_number_4 : decode cX12_number 4 = .ok (.ifCond .eq 5, 3) := by decide +kernel
theorem dX12_number_7 : decode cX12_number 7 = .ok (.iload_n 1, 1) := by decide +kernel
theorem dX12_number_8 : decode cX12_number 8 = .ok (.ireturn, 1) := by decide +kernel
theorem dX12_number_9 : decode cX12_number 9 = .ok (.aload_n 0, 1) := by decide +kernel
theorem dX12_number_10 : decode cX12_number 10 = .ok (.getfield 115, 3) := by decide +kernel
theorem dX12_number_13 : decode cX12_number 13 = .ok (.iconst 2, 1) := by decide +kernel
theorem dX12_number_14 : decode cX12_number 14 = .ok (.if_icmp .eq 10, 3) := by decide +kernel
theorem dX12_number_17 : decode cX12_number 17 = .ok (.aload_n 0, 1) := by decide +kernel
theorem dX12_number_18 : decode cX12_number 18 = .ok (.iconst 1, 1) := by decide +kernel
theorem dX12_number_19 : decode cX12_number 19 = .ok (.invokevirtual 142, 3) := by decide +kernel
theorem dX12_number_22 : decode cX12_number 22 = .ok (.iload_n 1, 1) := by decide +kernel
theorem dX12_number_23 : decode cX12_number 23 = .ok (.ireturn, 1) := by decide +kernel
theorem dX12_number_24 : decode cX12_number 24 = .ok (.aload_n 0, 1) := by decide +kernel
theorem dX12_number_25 : decode cX12_number 25 = .ok (.getfield 108, 3) := by decide +kernel
theorem dX12_number_28 : decode cX12_number 28 = .ok (.i2l, 1) := by decide +kernel
theorem dX12_number_29 : decode cX12_number 29 = .ok (.iload_n 1, 1) := by decide +kernel
theorem dX12_number_30 : decode cX12_number 30 = .ok (.i2l, 1) := by decide +kernel
theorem dX12_number_31 : decode cX12_number 31 = .ok (.iload_n 2, 1) := by decide +kernel
theorem dX12_number_32 : decode cX12_number 32 = .ok (.i2l, 1) := by decide +kernel
theorem dX12_number_33 : decode cX12_number 33 = .ok (.invokestatic 79, 3) := by decide +kernel
theorem dX12_number_36 : decode cX12_number 36 = .ok (.ifCond .ne 10, 3) := by decide +kernel
theorem dX12_number_39 : decode cX12_number 39 = .ok (.aload_n 0, 1) := by decide +kernel
theorem dX12_number_40 : decode cX12_number 40 = .ok (.iconst 2, 1) := by decide +kernel
theorem dX12_number_41 : decode cX12_number 41 = .ok (.invokevirtual 142, 3) := by decide +kernel
theorem dX12_number_44 : decode cX12_number 44 = .ok (.iload_n 1, 1) := by decide +kernel
theorem dX12_number_45 : decode cX12_number 45 = .ok (.ireturn, 1) := by decide +kernel
theorem dX12_number_46 : decode cX12_number 46 = .ok (.aload_n 0, 1) := by decide +kernel
theorem dX12_number_47 : decode cX12_number 47 = .ok (.getfield 108, 3) := by decide +kernel
theorem dX12_number_50 : decode cX12_number 50 = .ok (.istore_n 3, 1) := by decide +kernel
theorem dX12_number_51 : decode cX12_number 51 = .ok (.aload_n 0, 1) := by decide +kernel
theorem dX12_number_52 : decode cX12_number 52 = .ok (.invokevirtual 136, 3) := by decide +kernel
theorem dX12_number_55 : decode cX12_number 55 = .ok (.iload_n 3, 1) := by decide +kernel
theorem dX12_number_56 : decode cX12_number 56 = .ok (.ireturn, 1) := by decide +kernel
theorem dX12_number__0 : decode cX12_number_ 0 = .ok (.aload_n 0, 1) := by decide +kernel
theorem dX12_number__1 : decode cX12_number_ 1 = .ok (.lload_n 1, 1) := by decide +kernel
theorem dX12_number__2 : decode cX12_number_ 2 = .ok (.invokevirtual 145, 3) := by decide +kernel
theorem dX12_number__5 : decode cX12_number_ 5 = .ok (.aload_n 0, 1) := by decide +kernel
theorem dX12_number__6 : decode cX12_number_ 6 = .ok (.iload_n 3, 1) := by decide +kernel
theorem dX12_number__7 : decode cX12_number_ 7 = .ok (.iload 4, 2) := by decide +kernel
theorem dX12_number__9 : decode cX12_number_ 9 = .ok (.invokevirtual 149, 3) := by decide +kernel
theorem dX12_number__12 : decode cX12_number_ 12 = .ok (.ireturn, 1) := by decide +kernel
theorem dX12_of_0 : decode cX12_of 0 = .ok (.aload_n 0, 1) := by decide +kernel
theorem dX12_of_1 : decode cX12_of 1 = .ok (.getfield 37, 3) := by decide +kernel
theorem dX12_of_4 : decode cX12_of 4 = .ok (.iconst 4, 1) := by decide +kernel
theorem dX12_of_5 : decode cX12_of 5 = .ok (.iload_n 1, 1) := by decide +kernel
theorem dX12_of_6 : decode cX12_of 6 = .ok (.imul, 1) := by decide +kernel
theorem dX12_of_7 : decode cX12_of 7 = .ok (.iload_n 2, 1) := by decide +kernel
theorem dX12_of_8 : decode cX12_of 8 = .ok (.iadd, 1) := by decide +kernel
theorem dX12_of_9 : decode cX12_of 9 = .ok (.iaload, 1) := by decide +kernel
theorem dX12_of_10 : decode cX12_of 10 = .ok (.ireturn, 1) := by decide +kernel
theorem dX12_out_0 : decode cX12_out 0 = .ok (.aload_n 0, 1) := by decide +kernel
theorem dX12_out_1 : decode cX12_out 1 = .ok (.iconst 0, 1) := by decide +kernel
theorem dX12_out_2 : decode cX12_out 2 = .ok (.putfield 74, 3) := by decide +kernel
theorem dX12_out_5 : decode cX12_out 5 = .ok (.aload_n 0, 1) := by decide +kernel
theorem dX12_out_6 : decode cX12_out 6 = .ok (.iload_n 1, 1) := by decide +kernel
theorem dX12_out_7 : decode cX12_out 7 = .ok (.invokevirtual 273, 3) := by decide +kernel
theorem dX12_out_10 : decode cX12_out 10 = .ok (.ifCond .eq 15, 3) := by decide +kernel
theorem dX12_out_13 : decode cX12_out 13 = .ok (.iload_n 2, 1) := by decide +kernel
theorem dX12_out_14 : decode cX12_out 14 = .ok (.i2l, 1) := by decide +kernel
theorem dX12_out_15 : decode cX12_out 15 = .ok (.lconst 0, 1) := by decide +kernel
theorem dX12_out_16 : decode cX12_out 16 = .ok (.ldc2_w 349, 3) := by decide +kernel
theorem dX12_out_19 : decode cX12_out 19 = .ok (.invokestatic 79, 3) := by decide +kernel
theorem dX12_out_22 : decode cX12_out 22 = .ok (.ifCond .ne 6, 3) := by decide +kernel
theorem dX12_out_25 : decode cX12_out 25 = .ok (.bipush (-2), 2) := by decide +kernel
theorem dX12_out_27 : decode cX12_out 27 = .ok (.ireturn, 1) := by decide +kernel
theorem dX12_out_28 : decode cX12_out 28 = .ok (.aload_n 0, 1) := by decide +kernel
theorem dX12_out_29 : decode cX12_out 29 = .ok (.invokevirtual 276, 3) := by decide +kernel
theorem dX12_out_32 : decode cX12_out 32 = .ok (.aload_n 0, 1) := by decide +kernel
theorem dX12_out_33 : decode cX12_out 33 = .ok (.iload_n 1, 1) := by decide +kernel
theorem dX12_out_34 : decode cX12_out 34 = .ok (.iconst (-1), 1) := by decide +kernel
theorem dX12_out_35 : decode cX12_out 35 = .ok (.invokevirtual 351, 3) := by decide +kernel
theorem dX12_out_38 : decode cX12_out 38 = .ok (.aload_n 0, 1) := by decide +kernel
theorem dX12_out_39 : decode cX12_out 39 = .ok (.iload_n 2, 1) := by decide +kernel
theorem dX12_out_40 : decode cX12_out 40 = .ok (.invokevirtual 354, 3) := by decide +kernel
theorem dX12_out_43 : decode cX12_out 43 = .ok (.ireturn, 1) := by decide +kernel
theorem dX12_outsOf_0 : decode cX12_outsOf 0 = .ok (.aload_n 0, 1) := by decide +kernel
theorem dX12_outsOf_1 : decode cX12_outsOf 1 = .ok (.iload_n 1, 1) := by decide +kernel
theorem dX12_outsOf_2 : decode cX12_outsOf 2 = .ok (.putfield 326, 3) := by decide +kernel
theorem dX12_outsOf_5 : decode cX12_outsOf 5 = .ok (.iconst 0, 1) := by decide +kernel
theorem dX12_outsOf_6 : decode cX12_outsOf 6 = .ok (.istore_n 2, 1) := by decide +kernel
theorem dX12_outsOf_7 : decode cX12_outsOf 7 = .ok (.iload_n 2, 1) := by decide +kernel
theorem dX12_outsOf_8 : decode cX12_outsOf 8 = .ok (.sipush 252, 3) := by decide +kernel
theorem dX12_outsOf_11 : decode cX12_outsOf 11 = .ok (.iload_n 1, 1) := by decide +kernel
theorem dX12_outsOf_12 : decode cX12_outsOf 12 = .ok (.imul, 1) := by decide +kernel
theorem dX12_outsOf_13 : decode cX12_outsOf 13 = .ok (.if_icmp .ge 16, 3) := by decide +kernel
theorem dX12_outsOf_16 : decode cX12_outsOf 16 = .ok (.aload_n 0, 1) := by decide +kernel
theorem dX12_outsOf_17 : decode cX12_outsOf 17 = .ok (.getfield 59, 3) := by decide +kernel
theorem dX12_outsOf_20 : decode cX12_outsOf 20 = .ok (.iload_n 2, 1) := by decide +kernel
theorem dX12_outsOf_21 : decode cX12_outsOf 21 = .ok (.iconst 0, 1) := by decide +kernel
theorem dX12_outsOf_22 : decode cX12_outsOf 22 = .ok (.iastore, 1) := by decide +kernel
theorem dX12_outsOf_23 : decode cX12_outsOf 23 = .ok (.iinc 2 1, 3) := by decide +kernel
theorem dX12_outsOf_26 : decode cX12_outsOf 26 = .ok (.goto (-19), 3) := by decide +kernel
theorem dX12_outsOf_29 : decode cX12_outsOf 29 = .ok (.iconst 0, 1) := by decide +kernel
theorem dX12_outsOf_30 : decode cX12_outsOf 30 = .ok (.istore_n 2, 1) := by decide +kernel
theorem dX12_outsOf_31 : decode cX12_outsOf 31 = .ok (.iconst 0, 1) := by decide +kernel
theorem dX12_outsOf_32 : decode cX12_outsOf 32 = .ok (.istore_n 3, 1) := by decide +kernel
theorem dX12_outsOf_33 : decode cX12_outsOf 33 = .ok (.iload_n 3, 1) := by decide +kernel
theorem dX12_outsOf_34 : decode cX12_outsOf 34 = .ok (.bipush 36, 2) := by decide +kernel
theorem dX12_outsOf_36 : decode cX12_outsOf 36 = .ok (.if_icmp .ge 50, 3) := by decide +kernel
theorem dX12_outsOf_39 : decode cX12_outsOf 39 = .ok (.iload_n 1, 1) := by decide +kernel
theorem dX12_outsOf_40 : decode cX12_outsOf 40 = .ok (.ifCond .le 46, 3) := by decide +kernel
theorem dX12_outsOf_43 : decode cX12_outsOf 43 = .ok (.aload_n 0, 1) := by decide +kernel
theorem dX12_outsOf_44 : decode cX12_outsOf 44 = .ok (.getfield 43, 3) := by decide +kernel
theorem dX12_outsOf_47 : decode cX12_outsOf 47 = .ok (.iload_n 3, 1) := by decide +kernel
theorem dX12_outsOf_48 : decode cX12_outsOf 48 = .ok (.baload, 1) := by decide +kernel
theorem dX12_outsOf_49 : decode cX12_outsOf 49 = .ok (.ifCond .ne 6, 3) := by decide +kernel
theorem dX12_outsOf_52 : decode cX12_outsOf 52 = .ok (.goto 28, 3) := by decide +kernel
theorem dX12_outsOf_55 : decode cX12_outsOf 55 = .ok (.aload_n 0, 1) := by decide +kernel
theorem dX12_outsOf_56 : decode cX12_outsOf 56 = .ok (.iload_n 3, 1) := by decide +kernel
theorem dX12_outsOf_57 : decode cX12_outsOf 57 = .ok (.invokevirtual 343, 3) := by decide +kernel
theorem dX12_outsOf_60 : decode cX12_outsOf 60 = .ok (.istore 4, 2) := by decide +kernel
theorem dX12_outsOf_62 : decode cX12_outsOf 62 = .ok (.iload 4, 2) := by decide +kernel
theorem dX12_outsOf_64 : decode cX12_outsOf 64 = .ok (.iconst (-1), 1) := by decide +kernel
theorem dX12_outsOf_65 : decode cX12_outsOf 65 = .ok (.if_icmp .ne 6, 3) := by decide +kernel
theorem dX12_outsOf_68 : decode cX12_outsOf 68 = .ok (.goto 12, 3) := by decide +kernel
theorem dX12_outsOf_71 : decode cX12_outsOf 71 = .ok (.aload_n 0, 1) := by decide +kernel
theorem dX12_outsOf_72 : decode cX12_outsOf 72 = .ok (.iload 4, 2) := by decide +kernel
theorem dX12_outsOf_74 : decode cX12_outsOf 74 = .ok (.invokevirtual 346, 3) := by decide +kernel
theorem dX12_outsOf_77 : decode cX12_outsOf 77 = .ok (.iinc 2 1, 3) := by decide +kernel
theorem dX12_outsOf_80 : decode cX12_outsOf 80 = .ok (.iinc 3 1, 3) := by decide +kernel
theorem dX12_outsOf_83 : decode cX12_outsOf 83 = .ok (.goto (-50), 3) := by decide +kernel
theorem dX12_outsOf_86 : decode cX12_outsOf 86 = .ok (.iload_n 2, 1) := by decide +kernel
theorem dX12_outsOf_87 : decode cX12_outsOf 87 = .ok (.ireturn, 1) := by decide +kernel
theorem dX12_paste_0 : decode cX12_paste 0 = .ok (.aload_n 0, 1) := by decide +kernel
theorem dX12_paste_1 : decode cX12_paste 1 = .ok (.iconst 0, 1) := by decide +kernel
theorem dX12_paste_2 : decode cX12_paste 2 = .ok (.putfield 74, 3) := by decide +kernel
theorem dX12_paste_5 : decode cX12_paste 5 = .ok (.iload_n 1, 1) := by decide +kernel
theorem dX12_paste_6 : decode cX12_paste 6 = .ok (.invokestatic 83, 3) := by decide +kernel
theorem dX12_paste_9 : decode cX12_paste 9 = .ok (.ifCond .eq 10, 3) := by decide +kernel
theorem dX12_paste_12 : decode cX12_paste 12 = .ok (.iload_n 3, 1) := by decide +kernel
theorem dX12_paste_13 : decode cX12_paste 13 = .ok (.invokestatic 83, 3) := by decide +kernel
theorem dX12_paste_16 : decode cX12_paste 16 = .ok (.ifCond .ne 6, 3) := by decide +kernel
theorem dX12_paste_19 : decode cX12_paste 19 = .ok (.bipush (-2), 2) := by decide +kernel
theorem dX12_paste_21 : decode cX12_paste 21 = .ok (.ireturn, 1) := by decide +kernel
theorem dX12_paste_22 : decode cX12_paste 22 = .ok (.aload_n 0, 1) := by decide +kernel
theorem dX12_paste_23 : decode cX12_paste 23 = .ok (.getfield 7, 3) := by decide +kernel
theorem dX12_paste_26 : decode cX12_paste 26 = .ok (.iload_n 1, 1) := by decide +kernel
theorem dX12_paste_27 : decode cX12_paste 27 = .ok (.iaload, 1) := by decide +kernel
theorem dX12_paste_28 : decode cX12_paste 28 = .ok (.iconst (-1), 1) := by decide +kernel
theorem dX12_paste_29 : decode cX12_paste 29 = .ok (.if_icmp .eq 13, 3) := by decide +kernel
theorem dX12_paste_32 : decode cX12_paste 32 = .ok (.aload_n 0, 1) := by decide +kernel
theorem dX12_paste_33 : decode cX12_paste 33 = .ok (.getfield 7, 3) := by decide +kernel
theorem dX12_paste_36 : decode cX12_paste 36 = .ok (.iload_n 3, 1) := by decide +kernel
theorem dX12_paste_37 : decode cX12_paste 37 = .ok (.iaload, 1) := by decide +kernel
theorem dX12_paste_38 : decode cX12_paste 38 = .ok (.iconst (-1), 1) := by decide +kernel
theorem dX12_paste_39 : decode cX12_paste 39 = .ok (.if_icmp .ne 6, 3) := by decide +kernel
theorem dX12_paste_42 : decode cX12_paste 42 = .ok (.bipush (-6), 2) := by decide +kernel
theorem dX12_paste_44 : decode cX12_paste 44 = .ok (.ireturn, 1) := by decide +kernel
theorem dX12_paste_45 : decode cX12_paste 45 = .ok (.aload_n 0, 1) := by decide +kernel
theorem dX12_paste_46 : decode cX12_paste 46 = .ok (.getfield 7, 3) := by decide +kernel
theorem dX12_paste_49 : decode cX12_paste 49 = .ok (.iload_n 1, 1) := by decide +kernel
theorem dX12_paste_50 : decode cX12_paste 50 = .ok (.iaload, 1) := by decide +kernel
theorem dX12_paste_51 : decode cX12_paste 51 = .ok (.aload_n 0, 1) := by decide +kernel
theorem dX12_paste_52 : decode cX12_paste 52 = .ok (.getfield 7, 3) := by decide +kernel
theorem dX12_paste_55 : decode cX12_paste 55 = .ok (.iload_n 3, 1) := by decide +kernel
theorem dX12_paste_56 : decode cX12_paste 56 = .ok (.iaload, 1) := by decide +kernel
theorem dX12_paste_57 : decode cX12_paste 57 = .ok (.if_icmp .eq 6, 3) := by decide +kernel
theorem dX12_paste_60 : decode cX12_paste 60 = .ok (.bipush (-8), 2) := by decide +kernel
theorem dX12_paste_62 : decode cX12_paste 62 = .ok (.ireturn, 1) := by decide +kernel
theorem dX12_paste_63 : decode cX12_paste 63 = .ok (.iload_n 2, 1) := by decide +kernel
theorem dX12_paste_64 : decode cX12_paste 64 = .ok (.ifCond .lt 48, 3) := by decide +kernel
theorem dX12_paste_67 : decode cX12_paste 67 = .ok (.iload 4, 2) := by decide +kernel
theorem dX12_paste_69 : decode cX12_paste 69 = .ok (.ifCond .lt 43, 3) := by decide +kernel
theorem dX12_paste_72 : decode cX12_paste 72 = .ok (.iload 5, 2) := by decide +kernel
theorem dX12_paste_74 : decode cX12_paste 74 = .ok (.ifCond .lt 38, 3) := by decide +kernel
theorem dX12_paste_77 : decode cX12_paste 77 = .ok (.iload_n 2, 1) := by decide +kernel
theorem dX12_paste_78 : decode cX12_paste 78 = .ok (.i2l, 1) := by decide +kernel
theorem dX12_paste_79 : decode cX12_paste 79 = .ok (.iload 5, 2) := by decide +kernel
theorem dX12_paste_81 : decode cX12_paste 81 = .ok (.i2l, 1) := by decide +kernel
theorem dX12_paste_82 : decode cX12_paste 82 = .ok (.ladd, 1) := by decide +kernel
theorem dX12_paste_83 : decode cX12_paste 83 = .ok (.aload_n 0, 1) := by decide +kernel
theorem dX12_paste_84 : decode cX12_paste 84 = .ok (.getfield 13, 3) := by decide +kernel
theorem dX12_paste_87 : decode cX12_paste 87 = .ok (.iload_n 1, 1) := by decide +kernel
theorem dX12_paste_88 : decode cX12_paste 88 = .ok (.iaload, 1) := by decide +kernel
theorem dX12_paste_89 : decode cX12_paste 89 = .ok (.i2l, 1) := by decide +kernel
theorem dX12_paste_90 : decode cX12_paste 90 = .ok (.lcmp, 1) := by decide +kernel
theorem dX12_paste_91 : decode cX12_paste 91 = .ok (.ifCond .gt 21, 3) := by decide +kernel
theorem dX12_paste_94 : decode cX12_paste 94 = .ok (.iload 4, 2) := by decide +kernel
theorem dX12_paste_96 : decode cX12_paste 96 = .ok (.i2l, 1) := by decide +kernel
theorem dX12_paste_97 : decode cX12_paste 97 = .ok (.iload 5, 2) := by decide +kernel
theorem dX12_paste_99 : decode cX12_paste 99 = .ok (.i2l, 1) := by decide +kernel
theorem dX12_paste_100 : decode cX12_paste 100 = .ok (.ladd, 1) := by decide +kernel
theorem dX12_paste_101 : decode cX12_paste 101 = .ok (.aload_n 0, 1) := by decide +kernel
theorem dX12_paste_102 : decode cX12_paste 102 = .ok (.getfield 13, 3) := by decide +kernel
theorem dX12_paste_105 : decode cX12_paste 105 = .ok (.iload_n 3, 1) := by decide +kernel
theorem dX12_paste_106 : decode cX12_paste 106 = .ok (.iaload, 1) := by decide +kernel
theorem dX12_paste_107 : decode cX12_paste 107 = .ok (.i2l, 1) := by decide +kernel
theorem dX12_paste_108 : decode cX12_paste 108 = .ok (.lcmp, 1) := by decide +kernel
theorem dX12_paste_109 : decode cX12_paste 109 = .ok (.ifCond .le 6, 3) := by decide +kernel
theorem dX12_paste_112 : decode cX12_paste 112 = .ok (.bipush (-7), 2) := by decide +kernel
theorem dX12_paste_114 : decode cX12_paste 114 = .ok (.ireturn, 1) := by decide +kernel
theorem dX12_paste_115 : decode cX12_paste 115 = .ok (.iconst 0, 1) := by decide +kernel
theorem dX12_paste_116 : decode cX12_paste 116 = .ok (.istore 6, 2) := by decide +kernel
theorem dX12_paste_118 : decode cX12_paste 118 = .ok (.iload 6, 2) := by decide +kernel
theorem dX12_paste_120 : decode cX12_paste 120 = .ok (.iload 5, 2) := by decide +kernel
theorem dX12_paste_122 : decode cX12_paste 122 = .ok (.if_icmp .ge 30, 3) := by decide +kernel
theorem dX12_paste_125 : decode cX12_paste 125 = .ok (.aload_n 0, 1) := by decide +kernel
theorem dX12_paste_126 : decode cX12_paste 126 = .ok (.getfield 20, 3) := by decide +kernel
theorem dX12_paste_129 : decode cX12_paste 129 = .ok (.iload 6, 2) := by decide +kernel
theorem dX12_paste_131 : decode cX12_paste 131 = .ok (.aload_n 0, 1) := by decide +kernel
theorem dX12_paste_132 : decode cX12_paste 132 = .ok (.getfield 16, 3) := by decide +kernel
theorem dX12_paste_135 : decode cX12_paste 135 = .ok (.bipush 60, 2) := by decide +kernel
theorem dX12_paste_137 : decode cX12_paste 137 = .ok (.iload_n 1, 1) := by decide +kernel
theorem dX12_paste_138 : decode cX12_paste 138 = .ok (.imul, 1) := by decide +kernel
theorem dX12_paste_139 : decode cX12_paste 139 = .ok (.iload_n 2, 1) := by decide +kernel
theorem dX12_paste_140 : decode cX12_paste 140 = .ok (.iadd, 1) := by decide +kernel
theorem dX12_paste_141 : decode cX12_paste 141 = .ok (.iload 6, 2) := by decide +kernel
theorem dX12_paste_143 : decode cX12_paste 143 = .ok (.iadd, 1) := by decide +kernel
theorem dX12_paste_144 : decode cX12_paste 144 = .ok (.laload, 1) := by decide +kernel
theorem dX12_paste_145 : decode cX12_paste 145 = .ok (.lastore, 1) := by decide +kernel
theorem dX12_paste_146 : decode cX12_paste 146 = .ok (.iinc 6 1, 3) := by decide +kernel
theorem dX12_paste_149 : decode cX12_paste 149 = .ok (.goto (-31), 3) := by decide +kernel
theorem dX12_paste_152 : decode cX12_paste 152 = .ok (.iconst 0, 1) := by decide +kernel
theorem dX12_paste_153 : decode cX12_paste 153 = .ok (.istore 6, 2) := by decide +kernel
theorem dX12_paste_155 : decode cX12_paste 155 = .ok (.iload 6, 2) := by decide +kernel
theorem dX12_paste_157 : decode cX12_paste 157 = .ok (.iload 5, 2) := by decide +kernel
theorem dX12_paste_159 : decode cX12_paste 159 = .ok (.if_icmp .ge 31, 3) := by decide +kernel
theorem dX12_paste_162 : decode cX12_paste 162 = .ok (.aload_n 0, 1) := by decide +kernel
theorem dX12_paste_163 : decode cX12_paste 163 = .ok (.getfield 16, 3) := by decide +kernel
theorem dX12_paste_166 : decode cX12_paste 166 = .ok (.bipush 60, 2) := by decide +kernel
theorem dX12_paste_168 : decode cX12_paste 168 = .ok (.iload_n 3, 1) := by decide +kernel
theorem dX12_paste_169 : decode cX12_paste 169 = .ok (.imul, 1) := by decide +kernel
theorem dX12_paste_170 : decode cX12_paste 170 = .ok (.iload 4, 2) := by decide +kernel
theorem dX12_paste_172 : decode cX12_paste 172 = .ok (.iadd, 1) := by decide +kernel
theorem dX12_paste_173 : decode cX12_paste 173 = .ok (.iload 6, 2) := by decide +kernel
theorem dX12_paste_175 : decode cX12_paste 175 = .ok (.iadd, 1) := by decide +kernel
theorem dX12_paste_176 : decode cX12_paste 176 = .ok (.aload_n 0, 1) := by decide +kernel
theorem dX12_paste_177 : decode cX12_paste 177 = .ok (.getfield 20, 3) := by decide +kernel
theorem dX12_paste_180 : decode cX12_paste 180 = .ok (.iload 6, 2) := by decide +kernel
theorem dX12_paste_182 : decode cX12_paste 182 = .ok (.laload, 1) := by decide +kernel
theorem dX12_paste_183 : decode cX12_paste 183 = .ok (.lastore, 1) := by decide +kernel
theorem dX12_paste_184 : decode cX12_paste 184 = .ok (.iinc 6 1, 3) := by decide +kernel
theorem dX12_paste_187 : decode cX12_paste 187 = .ok (.goto (-32), 3) := by decide +kernel
theorem dX12_paste_190 : decode cX12_paste 190 = .ok (.iconst 0, 1) := by decide +kernel
theorem dX12_paste_191 : decode cX12_paste 191 = .ok (.ireturn, 1) := by decide +kernel
theorem dX12_place_0 : decode cX12_place 0 = .ok (.aload_n 0, 1) := by decide +kernel
theorem dX12_place_1 : decode cX12_place 1 = .ok (.iconst 0, 1) := by decide +kernel
theorem dX12_place_2 : decode cX12_place 2 = .ok (.putfield 74, 3) := by decide +kernel
theorem dX12_place_5 : decode cX12_place 5 = .ok (.aload_n 0, 1) := by decide +kernel
theorem dX12_place_6 : decode cX12_place 6 = .ok (.iload_n 1, 1) := by decide +kernel
theorem dX12_place_7 : decode cX12_place 7 = .ok (.i2l, 1) := by decide +kernel
theorem dX12_place_8 : decode cX12_place 8 = .ok (.invokevirtual 247, 3) := by decide +kernel
theorem dX12_place_11 : decode cX12_place 11 = .ok (.ifCond .eq 24, 3) := by decide +kernel
theorem dX12_place_14 : decode cX12_place 14 = .ok (.iload_n 2, 1) := by decide +kernel
theorem dX12_place_15 : decode cX12_place 15 = .ok (.i2l, 1) := by decide +kernel
theorem dX12_place_16 : decode cX12_place 16 = .ok (.lconst 0, 1) := by decide +kernel
theorem dX12_place_17 : decode cX12_place 17 = .ok (.ldc2_w 77, 3) := by decide +kernel
theorem dX12_place_20 : decode cX12_place 20 = .ok (.invokestatic 79, 3) := by decide +kernel
theorem dX12_place_23 : decode cX12_place 23 = .ok (.ifCond .eq 12, 3) := by decide +kernel
theorem dX12_place_26 : decode cX12_place 26 = .ok (.aload_n 0, 1) := by decide +kernel
theorem dX12_place_27 : decode cX12_place 27 = .ok (.iload_n 1, 1) := by decide +kernel
theorem dX12_place_28 : decode cX12_place 28 = .ok (.iload_n 2, 1) := by decide +kernel
theorem dX12_place_29 : decode cX12_place 29 = .ok (.invokevirtual 244, 3) := by decide +kernel
theorem dX12_place_32 : decode cX12_place 32 = .ok (.goto 5, 3) := by decide +kernel
theorem dX12_place_35 : decode cX12_place 35 = .ok (.bipush (-2), 2) := by decide +kernel
theorem dX12_place_37 : decode cX12_place 37 = .ok (.ireturn, 1) := by decide +kernel
theorem dX12_placeAt_0 : decode cX12_placeAt 0 = .ok (.iconst 0, 1) := by decide +kernel
theorem dX12_placeAt_1 : decode cX12_placeAt 1 = .ok (.istore_n 3, 1) := by decide +kernel
theorem dX12_placeAt_2 : decode cX12_placeAt 2 = .ok (.iload_n 3, 1) := by decide +kernel
theorem dX12_placeAt_3 : decode cX12_placeAt 3 = .ok (.aload_n 0, 1) := by decide +kernel
theorem dX12_placeAt_4 : decode cX12_placeAt 4 = .ok (.iconst 3, 1) := by decide +kernel
theorem dX12_placeAt_5 : decode cX12_placeAt 5 = .ok (.invokevirtual 156, 3) := by decide +kernel
theorem dX12_placeAt_8 : decode cX12_placeAt 8 = .ok (.if_icmp .ge 43, 3) := by decide +kernel
theorem dX12_placeAt_11 : decode cX12_placeAt 11 = .ok (.aload_n 0, 1) := by decide +kernel
theorem dX12_placeAt_12 : decode cX12_placeAt 12 = .ok (.getfield 37, 3) := by decide +kernel
theorem dX12_placeAt_15 : decode cX12_placeAt 15 = .ok (.iconst 4, 1) := by decide +kernel
theorem dX12_placeAt_16 : decode cX12_placeAt 16 = .ok (.bipush 36, 2) := by decide +kernel
theorem dX12_placeAt_18 : decode cX12_placeAt 18 = .ok (.iload_n 3, 1) := by decide +kernel
theorem dX12_placeAt_19 : decode cX12_placeAt 19 = .ok (.iadd, 1) := by decide +kernel
theorem dX12_placeAt_20 : decode cX12_placeAt 20 = .ok (.imul, 1) := by decide +kernel
theorem dX12_placeAt_21 : decode cX12_placeAt 21 = .ok (.iaload, 1) := by decide +kernel
theorem dX12_placeAt_22 : decode cX12_placeAt 22 = .ok (.iload_n 1, 1) := by decide +kernel
theorem dX12_placeAt_23 : decode cX12_placeAt 23 = .ok (.if_icmp .ne 22, 3) := by decide +kernel
theorem dX12_placeAt_26 : decode cX12_placeAt 26 = .ok (.aload_n 0, 1) := by decide +kernel
theorem dX12_placeAt_27 : decode cX12_placeAt 27 = .ok (.getfield 37, 3) := by decide +kernel
theorem dX12_placeAt_30 : decode cX12_placeAt 30 = .ok (.iconst 4, 1) := by decide +kernel
theorem dX12_placeAt_31 : decode cX12_placeAt 31 = .ok (.bipush 36, 2) := by decide +kernel
theorem dX12_placeAt_33 : decode cX12_placeAt 33 = .ok (.iload_n 3, 1) := by decide +kernel
theorem dX12_placeAt_34 : decode cX12_placeAt 34 = .ok (.iadd, 1) := by decide +kernel
theorem dX12_placeAt_35 : decode cX12_placeAt 35 = .ok (.imul, 1) := by decide +kernel
theorem dX12_placeAt_36 : decode cX12_placeAt 36 = .ok (.iconst 1, 1) := by decide +kernel
theorem dX12_placeAt_37 : decode cX12_placeAt 37 = .ok (.iadd, 1) := by decide +kernel
theorem dX12_placeAt_38 : decode cX12_placeAt 38 = .ok (.iaload, 1) := by decide +kernel
theorem dX12_placeAt_39 : decode cX12_placeAt 39 = .ok (.iload_n 2, 1) := by decide +kernel
theorem dX12_placeAt_40 : decode cX12_placeAt 40 = .ok (.if_icmp .ne 5, 3) := by decide +kernel
theorem dX12_placeAt_43 : decode cX12_placeAt 43 = .ok (.iload_n 3, 1) := by decide +kernel
theorem dX12_placeAt_44 : decode cX12_placeAt 44 = .ok (.ireturn, 1) := by decide +kernel
theorem dX12_placeAt_45 : decode cX12_placeAt 45 = .ok (.iinc 3 1, 3) := by decide +kernel
theorem dX12_placeAt_48 : decode cX12_placeAt 48 = .ok (.goto (-46), 3) := by decide +kernel
theorem dX12_placeAt_51 : decode cX12_placeAt 51 = .ok (.iconst (-1), 1) := by decide +kernel
theorem dX12_placeAt_52 : decode cX12_placeAt 52 = .ok (.ireturn, 1) := by decide +kernel
theorem dX12_placeLine_0 : decode cX12_placeLine 0 = .ok (.iconst 4, 1) := by decide +kernel
theorem dX12_placeLine_1 : decode cX12_placeLine 1 = .ok (.bipush 36, 2) := by decide +kernel
theorem dX12_placeLine_3 : decode cX12_placeLine 3 = .ok (.aload_n 0, 1) := by decide +kernel
theorem dX12_placeLine_4 : decode cX12_placeLine 4 = .ok (.iconst 3, 1) := by decide +kernel
theorem dX12_placeLine_5 : decode cX12_placeLine 5 = .ok (.invokevirtual 156, 3) := by decide +kernel
theorem dX12_placeLine_8 : decode cX12_placeLine 8 = .ok (.iadd, 1) := by decide +kernel
theorem dX12_placeLine_9 : decode cX12_placeLine 9 = .ok (.imul, 1) := by decide +kernel
theorem dX12_placeLine_10 : decode cX12_placeLine 10 = .ok (.istore_n 1, 1) := by decide +kernel
theorem dX12_placeLine_11 : decode cX12_placeLine 11 = .ok (.aload_n 0, 1) := by decide +kernel
theorem dX12_placeLine_12 : decode cX12_placeLine 12 = .ok (.invokevirtual 160, 3) := by decide +kernel
theorem dX12_placeLine_15 : decode cX12_placeLine 15 = .ok (.istore_n 2, 1) := by decide +kernel
theorem dX12_placeLine_16 : decode cX12_placeLine 16 = .ok (.aload_n 0, 1) := by decide +kernel
theorem dX12_placeLine_17 : decode cX12_placeLine 17 = .ok (.getfield 126, 3) := by decide +kernel
theorem dX12_placeLine_20 : decode cX12_placeLine 20 = .ok (.ifCond .ne 41, 3) := by decide +kernel
theorem dX12_placeLine_23 : decode cX12_placeLine 23 = .ok (.aload_n 0, 1) := by decide +kernel
theorem dX12_placeLine_24 : decode cX12_placeLine 24 = .ok (.getfield 115, 3) := by decide +kernel
theorem dX12_placeLine_27 : decode cX12_placeLine 27 = .ok (.iconst 2, 1) := by decide +kernel
theorem dX12_placeLine_28 : decode cX12_placeLine 28 = .ok (.if_icmp .ne 33, 3) := by decide +kernel
theorem dX12_placeLine_31 : decode cX12_placeLine 31 = .ok (.aload_n 0, 1) := by decide +kernel
theorem dX12_placeLine_32 : decode cX12_placeLine 32 = .ok (.getfield 108, 3) := by decide +kernel
theorem dX12_placeLine_35 : decode cX12_placeLine 35 = .ok (.aload_n 0, 1) := by decide +kernel
theorem dX12_placeLine_36 : decode cX12_placeLine 36 = .ok (.iconst 1, 1) := by decide +kernel
theorem dX12_placeLine_37 : decode cX12_placeLine 37 = .ok (.invokevirtual 156, 3) := by decide +kernel
theorem dX12_placeLine_40 : decode cX12_placeLine 40 = .ok (.if_icmp .ge 21, 3) := by decide +kernel
theorem dX12_placeLine_43 : decode cX12_placeLine 43 = .ok (.aload_n 0, 1) := by decide +kernel
theorem dX12_placeLine_44 : decode cX12_placeLine 44 = .ok (.iload_n 2, 1) := by decide +kernel
theorem dX12_placeLine_45 : decode cX12_placeLine 45 = .ok (.aload_n 0, 1) := by decide +kernel
theorem dX12_placeLine_46 : decode cX12_placeLine 46 = .ok (.getfield 108, 3) := by decide +kernel
theorem dX12_placeLine_49 : decode cX12_placeLine 49 = .ok (.invokevirtual 164, 3) := by decide +kernel
theorem dX12_placeLine_52 : decode cX12_placeLine 52 = .ok (.iconst (-1), 1) := by decide +kernel
theorem dX12_placeLine_53 : decode cX12_placeLine 53 = .ok (.if_icmp .eq 8, 3) := by decide +kernel
theorem dX12_placeLine_56 : decode cX12_placeLine 56 = .ok (.aload_n 0, 1) := by decide +kernel
theorem dX12_placeLine_57 : decode cX12_placeLine 57 = .ok (.iconst 2, 1) := by decide +kernel
theorem dX12_placeLine_58 : decode cX12_placeLine 58 = .ok (.invokevirtual 142, 3) := by decide +kernel
theorem dX12_placeLine_61 : decode cX12_placeLine 61 = .ok (.aload_n 0, 1) := by decide +kernel
theorem dX12_placeLine_62 : decode cX12_placeLine 62 = .ok (.getfield 37, 3) := by decide +kernel
theorem dX12_placeLine_65 : decode cX12_placeLine 65 = .ok (.iload_n 1, 1) := by decide +kernel
theorem dX12_placeLine_66 : decode cX12_placeLine 66 = .ok (.iconst 1, 1) := by decide +kernel
theorem dX12_placeLine_67 : decode cX12_placeLine 67 = .ok (.iadd, 1) := by decide +kernel
theorem dX12_placeLine_68 : decode cX12_placeLine 68 = .ok (.aload_n 0, 1) := by decide +kernel
theorem dX12_placeLine_69 : decode cX12_placeLine 69 = .ok (.invokevirtual 167, 3) := by decide +kernel
theorem dX12_placeLine_72 : decode cX12_placeLine 72 = .ok (.iastore, 1) := by decide +kernel
theorem dX12_placeLine_73 : decode cX12_placeLine 73 = .ok (.aload_n 0, 1) := by decide +kernel
theorem dX12_placeLine_74 : decode cX12_placeLine 74 = .ok (.getfield 37, 3) := by decide +kernel
theorem dX12_placeLine_77 : decode cX12_placeLine 77 = .ok (.iload_n 1, 1) := by decide +kernel
theorem dX12_placeLine_78 : decode cX12_placeLine 78 = .ok (.iload_n 2, 1) := by decide +kernel
theorem dX12_placeLine_79 : decode cX12_placeLine 79 = .ok (.iastore, 1) := by decide +kernel
theorem dX12_placeLine_80 : decode cX12_placeLine 80 = .ok (.aload_n 0, 1) := by decide +kernel
theorem dX12_placeLine_81 : decode cX12_placeLine 81 = .ok (.getfield 37, 3) := by decide +kernel
theorem dX12_placeLine_84 : decode cX12_placeLine 84 = .ok (.iload_n 1, 1) := by decide +kernel
theorem dX12_placeLine_85 : decode cX12_placeLine 85 = .ok (.iconst 2, 1) := by decide +kernel
theorem dX12_placeLine_86 : decode cX12_placeLine 86 = .ok (.iadd, 1) := by decide +kernel
theorem dX12_placeLine_87 : decode cX12_placeLine 87 = .ok (.aload_n 0, 1) := by decide +kernel
theorem dX12_placeLine_88 : decode cX12_placeLine 88 = .ok (.ldc2_w 170, 3) := by decide +kernel
theorem dX12_placeLine_91 : decode cX12_placeLine 91 = .ok (.iconst 0, 1) := by decide +kernel
theorem dX12_placeLine_92 : decode cX12_placeLine 92 = .ok (.iconst 4, 1) := by decide +kernel
theorem dX12_placeLine_93 : decode cX12_placeLine 93 = .ok (.invokevirtual 172, 3) := by decide +kernel
theorem dX12_placeLine_96 : decode cX12_placeLine 96 = .ok (.iastore, 1) := by decide +kernel
theorem dX12_placeLine_97 : decode cX12_placeLine 97 = .ok (.aload_n 0, 1) := by decide +kernel
theorem dX12_placeLine_98 : decode cX12_placeLine 98 = .ok (.getfield 37, 3) := by decide +kernel
theorem dX12_placeLine_101 : decode cX12_placeLine 101 = .ok (.iload_n 1, 1) := by decide +kernel
theorem dX12_placeLine_102 : decode cX12_placeLine 102 = .ok (.iconst 3, 1) := by decide +kernel
theorem dX12_placeLine_103 : decode cX12_placeLine 103 = .ok (.iadd, 1) := by decide +kernel
theorem dX12_placeLine_104 : decode cX12_placeLine 104 = .ok (.aload_n 0, 1) := by decide +kernel
theorem dX12_placeLine_105 : decode cX12_placeLine 105 = .ok (.ldc2_w 175, 3) := by decide +kernel
theorem dX12_placeLine_108 : decode cX12_placeLine 108 = .ok (.iconst 0, 1) := by decide +kernel
theorem dX12_placeLine_109 : decode cX12_placeLine 109 = .ok (.bipush 8, 2) := by decide +kernel
theorem dX12_placeLine_111 : decode cX12_placeLine 111 = .ok (.invokevirtual 172, 3) := by decide +kernel
theorem dX12_placeLine_114 : decode cX12_placeLine 114 = .ok (.iastore, 1) := by decide +kernel
theorem dX12_placeLine_115 : decode cX12_placeLine 115 = .ok (.aload_n 0, 1) := by decide +kernel
theorem dX12_placeLine_116 : decode cX12_placeLine 116 = .ok (.getfield 34, 3) := by decide +kernel
theorem dX12_placeLine_119 : decode cX12_placeLine 119 = .ok (.bipush 27, 2) := by decide +kernel
theorem dX12_placeLine_121 : decode cX12_placeLine 121 = .ok (.dup2, 1) := by decide +kernel
theorem dX12_placeLine_122 : decode cX12_placeLine 122 = .ok (.iaload, 1) := by decide +kernel
theorem dX12_placeLine_123 : decode cX12_placeLine 123 = .ok (.iconst 1, 1) := by decide +kernel
theorem dX12_placeLine_124 : decode cX12_placeLine 124 = .ok (.iadd, 1) := by decide +kernel
theorem dX12_placeLine_125 : decode cX12_placeLine 125 = .ok (.iastore, 1) := by decide +kernel
theorem dX12_placeLine_126 : decode cX12_placeLine 126 = .ok (.return_, 1) := by decide +kernel
theorem dX12_placeOf_0 : decode cX12_placeOf 0 = .ok (.aload_n 0, 1) := by decide +kernel
theorem dX12_placeOf_1 : decode cX12_placeOf 1 = .ok (.getfield 53, 3) := by decide +kernel
theorem dX12_placeOf_4 : decode cX12_placeOf 4 = .ok (.bipush 7, 2) := by decide +kernel
theorem dX12_placeOf_6 : decode cX12_placeOf 6 = .ok (.iload_n 2, 1) := by decide +kernel
theorem dX12_placeOf_7 : decode cX12_placeOf 7 = .ok (.imul, 1) := by decide +kernel
theorem dX12_placeOf_8 : decode cX12_placeOf 8 = .ok (.iload_n 1, 1) := by decide +kernel
theorem dX12_placeOf_9 : decode cX12_placeOf 9 = .ok (.iadd, 1) := by decide +kernel
theorem dX12_placeOf_10 : decode cX12_placeOf 10 = .ok (.iaload, 1) := by decide +kernel
theorem dX12_placeOf_11 : decode cX12_placeOf 11 = .ok (.ireturn, 1) := by decide +kernel
theorem dX12_quickest_0 : decode cX12_quickest 0 = .ok (.aload_n 0, 1) := by decide +kernel
theorem dX12_quickest_1 : decode cX12_quickest 1 = .ok (.iconst 0, 1) := by decide +kernel
theorem dX12_quickest_2 : decode cX12_quickest 2 = .ok (.putfield 74, 3) := by decide +kernel
theorem dX12_quickest_5 : decode cX12_quickest 5 = .ok (.aload_n 0, 1) := by decide +kernel
theorem dX12_quickest_6 : decode cX12_quickest 6 = .ok (.invokevirtual 237, 3) := by decide +kernel
theorem dX12_quickest_9 : decode cX12_quickest 9 = .ok (.ifCond .eq 15, 3) := by decide +kernel
theorem dX12_quickest_12 : decode cX12_quickest 12 = .ok (.iload_n 1, 1) := by decide +kernel
theorem dX12_quickest_13 : decode cX12_quickest 13 = .ok (.i2l, 1) := by decide +kernel
theorem dX12_quickest_14 : decode cX12_quickest 14 = .ok (.lconst 1, 1) := by decide +kernel
theorem dX12_quickest_15 : decode cX12_quickest 15 = .ok (.ldc2_w 363, 3) := by decide +kernel
theorem dX12_quickest_18 : decode cX12_quickest 18 = .ok (.invokestatic 79, 3) := by decide +kernel
theorem dX12_quickest_21 : decode cX12_quickest 21 = .ok (.ifCond .ne 6, 3) := by decide +kernel
theorem dX12_quickest_24 : decode cX12_quickest 24 = .ok (.bipush (-2), 2) := by decide +kernel
theorem dX12_quickest_26 : decode cX12_quickest 26 = .ok (.ireturn, 1) := by decide +kernel
theorem dX12_quickest_27 : decode cX12_quickest 27 = .ok (.aload_n 0, 1) := by decide +kernel
theorem dX12_quickest_28 : decode cX12_quickest 28 = .ok (.invokevirtual 276, 3) := by decide +kernel
theorem dX12_quickest_31 : decode cX12_quickest 31 = .ok (.iconst (-1), 1) := by decide +kernel
theorem dX12_quickest_32 : decode cX12_quickest 32 = .ok (.istore_n 2, 1) := by decide +kernel
theorem dX12_quickest_33 : decode cX12_quickest 33 = .ok (.bipush 21, 2) := by decide +kernel
theorem dX12_quickest_35 : decode cX12_quickest 35 = .ok (.istore_n 3, 1) := by decide +kernel
theorem dX12_quickest_36 : decode cX12_quickest 36 = .ok (.iconst 0, 1) := by decide +kernel
theorem dX12_quickest_37 : decode cX12_quickest 37 = .ok (.istore 4, 2) := by decide +kernel
theorem dX12_quickest_39 : decode cX12_quickest 39 = .ok (.iload 4, 2) := by decide +kernel
theorem dX12_quickest_41 : decode cX12_quickest 41 = .ok (.iload_n 1, 1) := by decide +kernel
theorem dX12_quickest_42 : decode cX12_quickest 42 = .ok (.if_icmp .ge 39, 3) := by decide +kernel
theorem dX12_quickest_45 : decode cX12_quickest 45 = .ok (.iload_n 3, 1) := by decide +kernel
theorem dX12_quickest_46 : decode cX12_quickest 46 = .ok (.ifCond .le 35, 3) := by decide +kernel
theorem dX12_quickest_49 : decode cX12_quickest 49 = .ok (.aload_n 0, 1) := by decide +kernel
theorem dX12_quickest_50 : decode cX12_quickest 50 = .ok (.iload 4, 2) := by decide +kernel
theorem dX12_quickest_52 : decode cX12_quickest 52 = .ok (.iload_n 3, 1) := by decide +kernel
theorem dX12_quickest_53 : decode cX12_quickest 53 = .ok (.iconst 1, 1) := by decide +kernel
theorem dX12_quickest_54 : decode cX12_quickest 54 = .ok (.isub, 1) := by decide +kernel
theorem dX12_quickest_55 : decode cX12_quickest 55 = .ok (.invokevirtual 360, 3) := by decide +kernel
theorem dX12_quickest_58 : decode cX12_quickest 58 = .ok (.istore 5, 2) := by decide +kernel
theorem dX12_quickest_60 : decode cX12_quickest 60 = .ok (.iload 5, 2) := by decide +kernel
theorem dX12_quickest_62 : decode cX12_quickest 62 = .ok (.iconst (-1), 1) := by decide +kernel
theorem dX12_quickest_63 : decode cX12_quickest 63 = .ok (.if_icmp .ne 6, 3) := by decide +kernel
theorem dX12_quickest_66 : decode cX12_quickest 66 = .ok (.goto 9, 3) := by decide +kernel
theorem dX12_quickest_69 : decode cX12_quickest 69 = .ok (.iload 4, 2) := by decide +kernel
theorem dX12_quickest_71 : decode cX12_quickest 71 = .ok (.istore_n 2, 1) := by decide +kernel
theorem dX12_quickest_72 : decode cX12_quickest 72 = .ok (.iload 5, 2) := by decide +kernel
theorem dX12_quickest_74 : decode cX12_quickest 74 = .ok (.istore_n 3, 1) := by decide +kernel
theorem dX12_quickest_75 : decode cX12_quickest 75 = .ok (.iinc 4 1, 3) := by decide +kernel
theorem dX12_quickest_78 : decode cX12_quickest 78 = .ok (.goto (-39), 3) := by decide +kernel
theorem dX12_quickest_81 : decode cX12_quickest 81 = .ok (.iload_n 2, 1) := by decide +kernel
theorem dX12_quickest_82 : decode cX12_quickest 82 = .ok (.ireturn, 1) := by decide +kernel
theorem dX12_round_0 : decode cX12_round 0 = .ok (.aload_n 0, 1) := by decide +kernel
theorem dX12_round_1 : decode cX12_round 1 = .ok (.iconst 0, 1) := by decide +kernel
theorem dX12_round_2 : decode cX12_round 2 = .ok (.putfield 74, 3) := by decide +kernel
theorem dX12_round_5 : decode cX12_round 5 = .ok (.aload_n 0, 1) := by decide +kernel
theorem dX12_round_6 : decode cX12_round 6 = .ok (.invokevirtual 237, 3) := by decide +kernel
theorem dX12_round_9 : decode cX12_round 9 = .ok (.ifCond .ne 6, 3) := by decide +kernel
theorem dX12_round_12 : decode cX12_round 12 = .ok (.bipush (-2), 2) := by decide +kernel
theorem dX12_round_14 : decode cX12_round 14 = .ok (.ireturn, 1) := by decide +kernel
theorem dX12_round_15 : decode cX12_round 15 = .ok (.aload_n 0, 1) := by decide +kernel
theorem dX12_round_16 : decode cX12_round 16 = .ok (.invokevirtual 276, 3) := by decide +kernel
theorem dX12_round_19 : decode cX12_round 19 = .ok (.iconst 1, 1) := by decide +kernel
theorem dX12_round_20 : decode cX12_round 20 = .ok (.istore_n 1, 1) := by decide +kernel
theorem dX12_round_21 : decode cX12_round 21 = .ok (.iload_n 1, 1) := by decide +kernel
theorem dX12_round_22 : decode cX12_round 22 = .ok (.bipush 60, 2) := by decide +kernel
theorem dX12_round_24 : decode cX12_round 24 = .ok (.if_icmp .ge 20, 3) := by decide +kernel
theorem dX12_round_27 : decode cX12_round 27 = .ok (.aload_n 0, 1) := by decide +kernel
theorem dX12_round_28 : decode cX12_round 28 = .ok (.iconst 0, 1) := by decide +kernel
theorem dX12_round_29 : decode cX12_round 29 = .ok (.iload_n 1, 1) := by decide +kernel
theorem dX12_round_30 : decode cX12_round 30 = .ok (.invokevirtual 294, 3) := by decide +kernel
theorem dX12_round_33 : decode cX12_round 33 = .ok (.ifCond .eq 5, 3) := by decide +kernel
theorem dX12_round_36 : decode cX12_round 36 = .ok (.iload_n 1, 1) := by decide +kernel
theorem dX12_round_37 : decode cX12_round 37 = .ok (.ireturn, 1) := by decide +kernel
theorem dX12_round_38 : decode cX12_round 38 = .ok (.iinc 1 1, 3) := by decide +kernel
theorem dX12_round_41 : decode cX12_round 41 = .ok (.goto (-20), 3) := by decide +kernel
theorem dX12_round_44 : decode cX12_round 44 = .ok (.iconst (-1), 1) := by decide +kernel
theorem dX12_round_45 : decode cX12_round 45 = .ok (.ireturn, 1) := by decide +kernel
theorem dX12_row_0 : decode cX12_row 0 = .ok (.aload_n 0, 1) := by decide +kernel
theorem dX12_row_1 : decode cX12_row 1 = .ok (.iconst 0, 1) := by decide +kernel
theorem dX12_row_2 : decode cX12_row 2 = .ok (.putfield 74, 3) := by decide +kernel
theorem dX12_row_5 : decode cX12_row 5 = .ok (.iload_n 1, 1) := by decide +kernel
theorem dX12_row_6 : decode cX12_row 6 = .ok (.invokestatic 83, 3) := by decide +kernel
theorem dX12_row_9 : decode cX12_row 9 = .ok (.ifCond .eq 21, 3) := by decide +kernel
theorem dX12_row_12 : decode cX12_row 12 = .ok (.iload_n 2, 1) := by decide +kernel
theorem dX12_row_13 : decode cX12_row 13 = .ok (.i2l, 1) := by decide +kernel
theorem dX12_row_14 : decode cX12_row 14 = .ok (.lconst 0, 1) := by decide +kernel
theorem dX12_row_15 : decode cX12_row 15 = .ok (.ldc2_w 77, 3) := by decide +kernel
theorem dX12_row_18 : decode cX12_row 18 = .ok (.invokestatic 79, 3) := by decide +kernel
theorem dX12_row_21 : decode cX12_row 21 = .ok (.ifCond .eq 9, 3) := by decide +kernel
theorem dX12_row_24 : decode cX12_row 24 = .ok (.iload_n 3, 1) := by decide +kernel
theorem dX12_row_25 : decode cX12_row 25 = .ok (.bipush 60, 2) := by decide +kernel
theorem dX12_row_27 : decode cX12_row 27 = .ok (.if_icmp .le 6, 3) := by decide +kernel
theorem dX12_row_30 : decode cX12_row 30 = .ok (.bipush (-2), 2) := by decide +kernel
theorem dX12_row_32 : decode cX12_row 32 = .ok (.ireturn, 1) := by decide +kernel
theorem dX12_row_33 : decode cX12_row 33 = .ok (.iload_n 3, 1) := by decide +kernel
theorem dX12_row_34 : decode cX12_row 34 = .ok (.ifCond .ge 6, 3) := by decide +kernel
theorem dX12_row_37 : decode cX12_row 37 = .ok (.bipush (-3), 2) := by decide +kernel
theorem dX12_row_39 : decode cX12_row 39 = .ok (.ireturn, 1) := by decide +kernel
theorem dX12_row_40 : decode cX12_row 40 = .ok (.aload_n 0, 1) := by decide +kernel
theorem dX12_row_41 : decode cX12_row 41 = .ok (.getfield 7, 3) := by decide +kernel
theorem dX12_row_44 : decode cX12_row 44 = .ok (.iload_n 1, 1) := by decide +kernel
theorem dX12_row_45 : decode cX12_row 45 = .ok (.iload_n 2, 1) := by decide +kernel
theorem dX12_row_46 : decode cX12_row 46 = .ok (.iastore, 1) := by decide +kernel
theorem dX12_row_47 : decode cX12_row 47 = .ok (.aload_n 0, 1) := by decide +kernel
theorem dX12_row_48 : decode cX12_row 48 = .ok (.getfield 13, 3) := by decide +kernel
theorem dX12_row_51 : decode cX12_row 51 = .ok (.iload_n 1, 1) := by decide +kernel
theorem dX12_row_52 : decode cX12_row 52 = .ok (.iload_n 3, 1) := by decide +kernel
theorem dX12_row_53 : decode cX12_row 53 = .ok (.iastore, 1) := by decide +kernel
theorem dX12_row_54 : decode cX12_row 54 = .ok (.iconst 0, 1) := by decide +kernel
theorem dX12_row_55 : decode cX12_row 55 = .ok (.istore 4, 2) := by decide +kernel
theorem dX12_row_57 : decode cX12_row 57 = .ok (.iload 4, 2) := by decide +kernel
theorem dX12_row_59 : decode cX12_row 59 = .ok (.iload_n 3, 1) := by decide +kernel
theorem dX12_row_60 : decode cX12_row 60 = .ok (.if_icmp .ge 22, 3) := by decide +kernel
theorem dX12_row_63 : decode cX12_row 63 = .ok (.aload_n 0, 1) := by decide +kernel
theorem dX12_row_64 : decode cX12_row 64 = .ok (.getfield 16, 3) := by decide +kernel
theorem dX12_row_67 : decode cX12_row 67 = .ok (.bipush 60, 2) := by decide +kernel
theorem dX12_row_69 : decode cX12_row 69 = .ok (.iload_n 1, 1) := by decide +kernel
theorem dX12_row_70 : decode cX12_row 70 = .ok (.imul, 1) := by decide +kernel
theorem dX12_row_71 : decode cX12_row 71 = .ok (.iload 4, 2) := by decide +kernel
theorem dX12_row_73 : decode cX12_row 73 = .ok (.iadd, 1) := by decide +kernel
theorem dX12_row_74 : decode cX12_row 74 = .ok (.lconst 0, 1) := by decide +kernel
theorem dX12_row_75 : decode cX12_row 75 = .ok (.lastore, 1) := by decide +kernel
theorem dX12_row_76 : decode cX12_row 76 = .ok (.iinc 4 1, 3) := by decide +kernel
theorem dX12_row_79 : decode cX12_row 79 = .ok (.goto (-22), 3) := by decide +kernel
theorem dX12_row_82 : decode cX12_row 82 = .ok (.iconst 0, 1) := by decide +kernel
theorem dX12_row_83 : decode cX12_row 83 = .ok (.ireturn, 1) := by decide +kernel
theorem dX12_rowHere_0 : decode cX12_rowHere 0 = .ok (.aload_n 0, 1) := by decide +kernel
theorem dX12_rowHere_1 : decode cX12_rowHere 1 = .ok (.iconst 0, 1) := by decide +kernel
theorem dX12_rowHere_2 : decode cX12_rowHere 2 = .ok (.aload_n 0, 1) := by decide +kernel
theorem dX12_rowHere_3 : decode cX12_rowHere 3 = .ok (.iconst 0, 1) := by decide +kernel
theorem dX12_rowHere_4 : decode cX12_rowHere 4 = .ok (.invokevirtual 156, 3) := by decide +kernel
theorem dX12_rowHere_7 : decode cX12_rowHere 7 = .ok (.iconst 1, 1) := by decide +kernel
theorem dX12_rowHere_8 : decode cX12_rowHere 8 = .ok (.isub, 1) := by decide +kernel
theorem dX12_rowHere_9 : decode cX12_rowHere 9 = .ok (.invokevirtual 149, 3) := by decide +kernel
theorem dX12_rowHere_12 : decode cX12_rowHere 12 = .ok (.ireturn, 1) := by decide +kernel
theorem dX12_screw_0 : decode cX12_screw 0 = .ok (.aload_n 0, 1) := by decide +kernel
theorem dX12_screw_1 : decode cX12_screw 1 = .ok (.iconst 0, 1) := by decide +kernel
theorem dX12_screw_2 : decode cX12_screw 2 = .ok (.putfield 74, 3) := by decide +kernel
theorem dX12_screw_5 : decode cX12_screw 5 = .ok (.aload_n 0, 1) := by decide +kernel
theorem dX12_screw_6 : decode cX12_screw 6 = .ok (.iload_n 1, 1) := by decide +kernel
theorem dX12_screw_7 : decode cX12_screw 7 = .ok (.i2l, 1) := by decide +kernel
theorem dX12_screw_8 : decode cX12_screw 8 = .ok (.invokevirtual 247, 3) := by decide +kernel
theorem dX12_screw_11 : decode cX12_screw 11 = .ok (.ifCond .eq 15, 3) := by decide +kernel
theorem dX12_screw_14 : decode cX12_screw 14 = .ok (.iload_n 2, 1) := by decide +kernel
theorem dX12_screw_15 : decode cX12_screw 15 = .ok (.i2l, 1) := by decide +kernel
theorem dX12_screw_16 : decode cX12_screw 16 = .ok (.lconst 0, 1) := by decide +kernel
theorem dX12_screw_17 : decode cX12_screw 17 = .ok (.ldc2_w 428, 3) := by decide +kernel
theorem dX12_screw_20 : decode cX12_screw 20 = .ok (.invokestatic 79, 3) := by decide +kernel
theorem dX12_screw_23 : decode cX12_screw 23 = .ok (.ifCond .ne 6, 3) := by decide +kernel
theorem dX12_screw_26 : decode cX12_screw 26 = .ok (.bipush (-2), 2) := by decide +kernel
theorem dX12_screw_28 : decode cX12_screw 28 = .ok (.ireturn, 1) := by decide +kernel
theorem dX12_screw_29 : decode cX12_screw 29 = .ok (.aload_n 0, 1) := by decide +kernel
theorem dX12_screw_30 : decode cX12_screw 30 = .ok (.getfield 34, 3) := by decide +kernel
theorem dX12_screw_33 : decode cX12_screw 33 = .ok (.iconst 5, 1) := by decide +kernel
theorem dX12_screw_34 : decode cX12_screw 34 = .ok (.iaload, 1) := by decide +kernel
theorem dX12_screw_35 : decode cX12_screw 35 = .ok (.bipush 40, 2) := by decide +kernel
theorem dX12_screw_37 : decode cX12_screw 37 = .ok (.if_icmp .ne 6, 3) := by decide +kernel
theorem dX12_screw_40 : decode cX12_screw 40 = .ok (.bipush (-5), 2) := by decide +kernel
theorem dX12_screw_42 : decode cX12_screw 42 = .ok (.ireturn, 1) := by decide +kernel
theorem dX12_screw_43 : decode cX12_screw 43 = .ok (.aload_n 0, 1) := by decide +kernel
theorem dX12_screw_44 : decode cX12_screw 44 = .ok (.iload_n 1, 1) := by decide +kernel
theorem dX12_screw_45 : decode cX12_screw 45 = .ok (.iconst 3, 1) := by decide +kernel
theorem dX12_screw_46 : decode cX12_screw 46 = .ok (.invokevirtual 244, 3) := by decide +kernel
theorem dX12_screw_49 : decode cX12_screw 49 = .ok (.istore_n 3, 1) := by decide +kernel
theorem dX12_screw_50 : decode cX12_screw 50 = .ok (.aload_n 0, 1) := by decide +kernel
theorem dX12_screw_51 : decode cX12_screw 51 = .ok (.iconst 0, 1) := by decide +kernel
theorem dX12_screw_52 : decode cX12_screw 52 = .ok (.iload_n 1, 1) := by decide +kernel
theorem dX12_screw_53 : decode cX12_screw 53 = .ok (.iload_n 3, 1) := by decide +kernel
theorem dX12_screw_54 : decode cX12_screw 54 = .ok (.iconst 0, 1) := by decide +kernel
theorem dX12_screw_55 : decode cX12_screw 55 = .ok (.invokevirtual 430, 3) := by decide +kernel
theorem dX12_screw_58 : decode cX12_screw 58 = .ok (.aload_n 0, 1) := by decide +kernel
theorem dX12_screw_59 : decode cX12_screw 59 = .ok (.getfield 37, 3) := by decide +kernel
theorem dX12_screw_62 : decode cX12_screw 62 = .ok (.iconst 4, 1) := by decide +kernel
theorem dX12_screw_63 : decode cX12_screw 63 = .ok (.iload_n 1, 1) := by decide +kernel
theorem dX12_screw_64 : decode cX12_screw 64 = .ok (.imul, 1) := by decide +kernel
theorem dX12_screw_65 : decode cX12_screw 65 = .ok (.iconst 3, 1) := by decide +kernel
theorem dX12_screw_66 : decode cX12_screw 66 = .ok (.iadd, 1) := by decide +kernel
theorem dX12_screw_67 : decode cX12_screw 67 = .ok (.iload_n 2, 1) := by decide +kernel
theorem dX12_screw_68 : decode cX12_screw 68 = .ok (.iastore, 1) := by decide +kernel
theorem dX12_screw_69 : decode cX12_screw 69 = .ok (.iload_n 3, 1) := by decide +kernel
theorem dX12_screw_70 : decode cX12_screw 70 = .ok (.ireturn, 1) := by decide +kernel
theorem dX12_screws_0 : decode cX12_screws 0 = .ok (.aload_n 0, 1) := by decide +kernel
theorem dX12_screws_1 : decode cX12_screws 1 = .ok (.iconst 0, 1) := by decide +kernel
theorem dX12_screws_2 : decode cX12_screws 2 = .ok (.putfield 74, 3) := by decide +kernel
theorem dX12_screws_5 : decode cX12_screws 5 = .ok (.aload_n 0, 1) := by decide +kernel
theorem dX12_screws_6 : decode cX12_screws 6 = .ok (.iload_n 1, 1) := by decide +kernel
theorem dX12_screws_7 : decode cX12_screws 7 = .ok (.invokevirtual 273, 3) := by decide +kernel
theorem dX12_screws_10 : decode cX12_screws 10 = .ok (.ifCond .ne 6, 3) := by decide +kernel
theorem dX12_screws_13 : decode cX12_screws 13 = .ok (.bipush (-2), 2) := by decide +kernel
theorem dX12_screws_15 : decode cX12_screws 15 = .ok (.ireturn, 1) := by decide +kernel
theorem dX12_screws_16 : decode cX12_screws 16 = .ok (.aload_n 0, 1) := by decide +kernel
theorem dX12_screws_17 : decode cX12_screws 17 = .ok (.invokevirtual 276, 3) := by decide +kernel
theorem dX12_screws_20 : decode cX12_screws 20 = .ok (.iload_n 1, 1) := by decide +kernel
theorem dX12_screws_21 : decode cX12_screws 21 = .ok (.istore_n 2, 1) := by decide +kernel
theorem dX12_screws_22 : decode cX12_screws 22 = .ok (.iload_n 2, 1) := by decide +kernel
theorem dX12_screws_23 : decode cX12_screws 23 = .ok (.bipush 60, 2) := by decide +kernel
theorem dX12_screws_25 : decode cX12_screws 25 = .ok (.if_icmp .ge 21, 3) := by decide +kernel
theorem dX12_screws_28 : decode cX12_screws 28 = .ok (.aload_n 0, 1) := by decide +kernel
theorem dX12_screws_29 : decode cX12_screws 29 = .ok (.iload_n 2, 1) := by decide +kernel
theorem dX12_screws_30 : decode cX12_screws 30 = .ok (.invokevirtual 320, 3) := by decide +kernel
theorem dX12_screws_33 : decode cX12_screws 33 = .ok (.ifCond .eq 7, 3) := by decide +kernel
theorem dX12_screws_36 : decode cX12_screws 36 = .ok (.iload_n 2, 1) := by decide +kernel
theorem dX12_screws_37 : decode cX12_screws 37 = .ok (.iload_n 1, 1) := by decide +kernel
theorem dX12_screws_38 : decode cX12_screws 38 = .ok (.isub, 1) := by decide +kernel
theorem dX12_screws_39 : decode cX12_screws 39 = .ok (.ireturn, 1) := by decide +kernel
theorem dX12_screws_40 : decode cX12_screws 40 = .ok (.iinc 2 1, 3) := by decide +kernel
theorem dX12_screws_43 : decode cX12_screws 43 = .ok (.goto (-21), 3) := by decide +kernel
theorem dX12_screws_46 : decode cX12_screws 46 = .ok (.iconst (-1), 1) := by decide +kernel
theorem dX12_screws_47 : decode cX12_screws 47 = .ok (.ireturn, 1) := by decide +kernel
theorem dX12_seatHere_0 : decode cX12_seatHere 0 = .ok (.aload_n 0, 1) := by decide +kernel
theorem dX12_seatHere_1 : decode cX12_seatHere 1 = .ok (.iconst 0, 1) := by decide +kernel
theorem dX12_seatHere_2 : decode cX12_seatHere 2 = .ok (.aload_n 0, 1) := by decide +kernel
theorem dX12_seatHere_3 : decode cX12_seatHere 3 = .ok (.iconst 1, 1) := by decide +kernel
theorem dX12_seatHere_4 : decode cX12_seatHere 4 = .ok (.invokevirtual 156, 3) := by decide +kernel
theorem dX12_seatHere_7 : decode cX12_seatHere 7 = .ok (.iconst 1, 1) := by decide +kernel
theorem dX12_seatHere_8 : decode cX12_seatHere 8 = .ok (.isub, 1) := by decide +kernel
theorem dX12_seatHere_9 : decode cX12_seatHere 9 = .ok (.invokevirtual 149, 3) := by decide +kernel
theorem dX12_seatHere_12 : decode cX12_seatHere 12 = .ok (.ireturn, 1) := by decide +kernel
theorem dX12_seats_0 : decode cX12_seats 0 = .ok (.aload_n 0, 1) := by decide +kernel
theorem dX12_seats_1 : decode cX12_seats 1 = .ok (.iconst 0, 1) := by decide +kernel
theorem dX12_seats_2 : decode cX12_seats 2 = .ok (.putfield 74, 3) := by decide +kernel
theorem dX12_seats_5 : decode cX12_seats 5 = .ok (.aload_n 0, 1) := by decide +kernel
theorem dX12_seats_6 : decode cX12_seats 6 = .ok (.iload_n 1, 1) := by decide +kernel
theorem dX12_seats_7 : decode cX12_seats 7 = .ok (.i2l, 1) := by decide +kernel
theorem dX12_seats_8 : decode cX12_seats 8 = .ok (.iload_n 2, 1) := by decide +kernel
theorem dX12_seats_9 : decode cX12_seats 9 = .ok (.i2l, 1) := by decide +kernel
theorem dX12_seats_10 : decode cX12_seats 10 = .ok (.invokevirtual 253, 3) := by decide +kernel
theorem dX12_seats_13 : decode cX12_seats 13 = .ok (.ifCond .eq 13, 3) := by decide +kernel
theorem dX12_seats_16 : decode cX12_seats 16 = .ok (.iload_n 3, 1) := by decide +kernel
theorem dX12_seats_17 : decode cX12_seats 17 = .ok (.i2l, 1) := by decide +kernel
theorem dX12_seats_18 : decode cX12_seats 18 = .ok (.lconst 0, 1) := by decide +kernel
theorem dX12_seats_19 : decode cX12_seats 19 = .ok (.lconst 1, 1) := by decide +kernel
theorem dX12_seats_20 : decode cX12_seats 20 = .ok (.invokestatic 79, 3) := by decide +kernel
theorem dX12_seats_23 : decode cX12_seats 23 = .ok (.ifCond .ne 6, 3) := by decide +kernel
theorem dX12_seats_26 : decode cX12_seats 26 = .ok (.bipush (-2), 2) := by decide +kernel
theorem dX12_seats_28 : decode cX12_seats 28 = .ok (.ireturn, 1) := by decide +kernel
theorem dX12_seats_29 : decode cX12_seats 29 = .ok (.aload_n 0, 1) := by decide +kernel
theorem dX12_seats_30 : decode cX12_seats 30 = .ok (.getfield 34, 3) := by decide +kernel
theorem dX12_seats_33 : decode cX12_seats 33 = .ok (.iconst 5, 1) := by decide +kernel
theorem dX12_seats_34 : decode cX12_seats 34 = .ok (.iaload, 1) := by decide +kernel
theorem dX12_seats_35 : decode cX12_seats 35 = .ok (.bipush 40, 2) := by decide +kernel
theorem dX12_seats_37 : decode cX12_seats 37 = .ok (.if_icmp .ne 6, 3) := by decide +kernel
theorem dX12_seats_40 : decode cX12_seats 40 = .ok (.bipush (-5), 2) := by decide +kernel
theorem dX12_seats_42 : decode cX12_seats 42 = .ok (.ireturn, 1) := by decide +kernel
theorem dX12_seats_43 : decode cX12_seats 43 = .ok (.aload_n 0, 1) := by decide +kernel
theorem dX12_seats_44 : decode cX12_seats 44 = .ok (.getfield 43, 3) := by decide +kernel
theorem dX12_seats_47 : decode cX12_seats 47 = .ok (.bipush 6, 2) := by decide +kernel
theorem dX12_seats_49 : decode cX12_seats 49 = .ok (.iload_n 1, 1) := by decide +kernel
theorem dX12_seats_50 : decode cX12_seats 50 = .ok (.imul, 1) := by decide +kernel
theorem dX12_seats_51 : decode cX12_seats 51 = .ok (.iload_n 2, 1) := by decide +kernel
theorem dX12_seats_52 : decode cX12_seats 52 = .ok (.iadd, 1) := by decide +kernel
theorem dX12_seats_53 : decode cX12_seats 53 = .ok (.baload, 1) := by decide +kernel
theorem dX12_seats_54 : decode cX12_seats 54 = .ok (.ifCond .eq 7, 3) := by decide +kernel
theorem dX12_seats_57 : decode cX12_seats 57 = .ok (.iconst 1, 1) := by decide +kernel
theorem dX12_seats_58 : decode cX12_seats 58 = .ok (.goto 4, 3) := by decide +kernel
theorem dX12_seats_61 : decode cX12_seats 61 = .ok (.iconst 0, 1) := by decide +kernel
theorem dX12_seats_62 : decode cX12_seats 62 = .ok (.istore 4, 2) := by decide +kernel
theorem dX12_seats_64 : decode cX12_seats 64 = .ok (.aload_n 0, 1) := by decide +kernel
theorem dX12_seats_65 : decode cX12_seats 65 = .ok (.iconst 2, 1) := by decide +kernel
theorem dX12_seats_66 : decode cX12_seats 66 = .ok (.bipush 6, 2) := by decide +kernel
theorem dX12_seats_68 : decode cX12_seats 68 = .ok (.iload_n 1, 1) := by decide +kernel
theorem dX12_seats_69 : decode cX12_seats 69 = .ok (.imul, 1) := by decide +kernel
theorem dX12_seats_70 : decode cX12_seats 70 = .ok (.iload_n 2, 1) := by decide +kernel
theorem dX12_seats_71 : decode cX12_seats 71 = .ok (.iadd, 1) := by decide +kernel
theorem dX12_seats_72 : decode cX12_seats 72 = .ok (.iload 4, 2) := by decide +kernel
theorem dX12_seats_74 : decode cX12_seats 74 = .ok (.iconst 0, 1) := by decide +kernel
theorem dX12_seats_75 : decode cX12_seats 75 = .ok (.invokevirtual 430, 3) := by decide +kernel
theorem dX12_seats_78 : decode cX12_seats 78 = .ok (.aload_n 0, 1) := by decide +kernel
theorem dX12_seats_79 : decode cX12_seats 79 = .ok (.getfield 43, 3) := by decide +kernel
theorem dX12_seats_82 : decode cX12_seats 82 = .ok (.bipush 6, 2) := by decide +kernel
theorem dX12_seats_84 : decode cX12_seats 84 = .ok (.iload_n 1, 1) := by decide +kernel
theorem dX12_seats_85 : decode cX12_seats 85 = .ok (.imul, 1) := by decide +kernel
theorem dX12_seats_86 : decode cX12_seats 86 = .ok (.iload_n 2, 1) := by decide +kernel
theorem dX12_seats_87 : decode cX12_seats 87 = .ok (.iadd, 1) := by decide +kernel
theorem dX12_seats_88 : decode cX12_seats 88 = .ok (.iload_n 3, 1) := by decide +kernel
theorem dX12_seats_89 : decode cX12_seats 89 = .ok (.iconst 1, 1) := by decide +kernel
theorem dX12_seats_90 : decode cX12_seats 90 = .ok (.if_icmp .ne 7, 3) := by decide +kernel
theorem dX12_seats_93 : decode cX12_seats 93 = .ok (.iconst 1, 1) := by decide +kernel
theorem dX12_seats_94 : decode cX12_seats 94 = .ok (.goto 4, 3) := by decide +kernel
theorem dX12_seats_97 : decode cX12_seats 97 = .ok (.iconst 0, 1) := by decide +kernel
theorem dX12_seats_98 : decode cX12_seats 98 = .ok (.bastore, 1) := by decide +kernel
theorem dX12_seats_99 : decode cX12_seats 99 = .ok (.iload 4, 2) := by decide +kernel
theorem dX12_seats_101 : decode cX12_seats 101 = .ok (.ireturn, 1) := by decide +kernel
theorem dX12_seeks_0 : decode cX12_seeks 0 = .ok (.iconst 0, 1) := by decide +kernel
theorem dX12_seeks_1 : decode cX12_seeks 1 = .ok (.istore_n 2, 1) := by decide +kernel
theorem dX12_seeks_2 : decode cX12_seeks 2 = .ok (.iload_n 2, 1) := by decide +kernel
theorem dX12_seeks_3 : decode cX12_seeks 3 = .ok (.bipush 72, 2) := by decide +kernel
theorem dX12_seeks_5 : decode cX12_seeks 5 = .ok (.aload_n 0, 1) := by decide +kernel
theorem dX12_seeks_6 : decode cX12_seeks 6 = .ok (.getfield 326, 3) := by decide +kernel
theorem dX12_seeks_9 : decode cX12_seeks 9 = .ok (.imul, 1) := by decide +kernel
theorem dX12_seeks_10 : decode cX12_seeks 10 = .ok (.if_icmp .ge 16, 3) := by decide +kernel
theorem dX12_seeks_13 : decode cX12_seeks 13 = .ok (.aload_n 0, 1) := by decide +kernel
theorem dX12_seeks_14 : decode cX12_seeks 14 = .ok (.getfield 62, 3) := by decide +kernel
theorem dX12_seeks_17 : decode cX12_seeks 17 = .ok (.iload_n 2, 1) := by decide +kernel
theorem dX12_seeks_18 : decode cX12_seeks 18 = .ok (.iconst (-1), 1) := by decide +kernel
theorem dX12_seeks_19 : decode cX12_seeks 19 = .ok (.iastore, 1) := by decide +kernel
theorem dX12_seeks_20 : decode cX12_seeks 20 = .ok (.iinc 2 1, 3) := by decide +kernel
theorem dX12_seeks_23 : decode cX12_seeks 23 = .ok (.goto (-21), 3) := by decide +kernel
theorem dX12_seeks_26 : decode cX12_seeks 26 = .ok (.aload_n 0, 1) := by decide +kernel
theorem dX12_seeks_27 : decode cX12_seeks 27 = .ok (.iconst 0, 1) := by decide +kernel
theorem dX12_seeks_28 : decode cX12_seeks 28 = .ok (.putfield 323, 3) := by decide +kernel
theorem dX12_seeks_31 : decode cX12_seeks 31 = .ok (.aload_n 0, 1) := by decide +kernel
theorem dX12_seeks_32 : decode cX12_seeks 32 = .ok (.iconst 0, 1) := by decide +kernel
theorem dX12_seeks_33 : decode cX12_seeks 33 = .ok (.iload_n 1, 1) := by decide +kernel
theorem dX12_seeks_34 : decode cX12_seeks 34 = .ok (.iconst 0, 1) := by decide +kernel
theorem dX12_seeks_35 : decode cX12_seeks 35 = .ok (.invokestatic 329, 3) := by decide +kernel
theorem dX12_seeks_38 : decode cX12_seeks 38 = .ok (.iconst 0, 1) := by decide +kernel
theorem dX12_seeks_39 : decode cX12_seeks 39 = .ok (.iload_n 1, 1) := by decide +kernel
theorem dX12_seeks_40 : decode cX12_seeks 40 = .ok (.iconst 0, 1) := by decide +kernel
theorem dX12_seeks_41 : decode cX12_seeks 41 = .ok (.invokestatic 329, 3) := by decide +kernel
theorem dX12_seeks_44 : decode cX12_seeks 44 = .ok (.iconst (-1), 1) := by decide +kernel
theorem dX12_seeks_45 : decode cX12_seeks 45 = .ok (.invokevirtual 333, 3) := by decide +kernel
theorem dX12_seeks_48 : decode cX12_seeks 48 = .ok (.iconst 0, 1) := by decide +kernel
theorem dX12_seeks_49 : decode cX12_seeks 49 = .ok (.istore_n 2, 1) := by decide +kernel
theorem dX12_seeks_50 : decode cX12_seeks 50 = .ok (.iload_n 2, 1) := by decide +kernel
theorem dX12_seeks_51 : decode cX12_seeks 51 = .ok (.aload_n 0, 1) := by decide +kernel
theorem dX12_seeks_52 : decode cX12_seeks 52 = .ok (.getfield 323, 3) := by decide +kernel
theorem dX12_seeks_55 : decode cX12_seeks 55 = .ok (.if_icmp .ge 304, 3) := by decide +kernel
theorem dX12_seeks_58 : decode cX12_seeks 58 = .ok (.aload_n 0, 1) := by decide +kernel
theorem dX12_seeks_59 : decode cX12_seeks 59 = .ok (.getfield 68, 3) := by decide +kernel
theorem dX12_seeks_62 : decode cX12_seeks 62 = .ok (.iload_n 2, 1) := by decide +kernel
theorem dX12_seeks_63 : decode cX12_seeks 63 = .ok (.iaload, 1) := by decide +kernel
theorem dX12_seeks_64 : decode cX12_seeks 64 = .ok (.istore_n 3, 1) := by decide +kernel
theorem dX12_seeks_65 : decode cX12_seeks 65 = .ok (.iload_n 3, 1) := by decide +kernel
theorem dX12_seeks_66 : decode cX12_seeks 66 = .ok (.iconst 2, 1) := by decide +kernel
theorem dX12_seeks_67 : decode cX12_seeks 67 = .ok (.idiv, 1) := by decide +kernel
theorem dX12_seeks_68 : decode cX12_seeks 68 = .ok (.bipush 36, 2) := by decide +kernel
theorem dX12_seeks_70 : decode cX12_seeks 70 = .ok (.idiv, 1) := by decide +kernel
theorem dX12_seeks_71 : decode cX12_seeks 71 = .ok (.istore 4, 2) := by decide +kernel
theorem dX12_seeks_73 : decode cX12_seeks 73 = .ok (.iload_n 3, 1) := by decide +kernel
theorem dX12_seeks_74 : decode cX12_seeks 74 = .ok (.iconst 2, 1) := by decide +kernel
theorem dX12_seeks_75 : decode cX12_seeks 75 = .ok (.idiv, 1) := by decide +kernel
theorem dX12_seeks_76 : decode cX12_seeks 76 = .ok (.bipush 36, 2) := by decide +kernel
theorem dX12_seeks_78 : decode cX12_seeks 78 = .ok (.irem, 1) := by decide +kernel
theorem dX12_seeks_79 : decode cX12_seeks 79 = .ok (.istore 5, 2) := by decide +kernel
theorem dX12_seeks_81 : decode cX12_seeks 81 = .ok (.iload_n 3, 1) := by decide +kernel
theorem dX12_seeks_82 : decode cX12_seeks 82 = .ok (.iconst 2, 1) := by decide +kernel
theorem dX12_seeks_83 : decode cX12_seeks 83 = .ok (.irem, 1) := by decide +kernel
theorem dX12_seeks_84 : decode cX12_seeks 84 = .ok (.ifCond .ne 158, 3) := by decide +kernel
theorem dX12_seeks_87 : decode cX12_seeks 87 = .ok (.aload_n 0, 1) := by decide +kernel
theorem dX12_seeks_88 : decode cX12_seeks 88 = .ok (.getfield 59, 3) := by decide +kernel
theorem dX12_seeks_91 : decode cX12_seeks 91 = .ok (.bipush 7, 2) := by decide +kernel
theorem dX12_seeks_93 : decode cX12_seeks 93 = .ok (.iload_n 3, 1) := by decide +kernel
theorem dX12_seeks_94 : decode cX12_seeks 94 = .ok (.iconst 2, 1) := by decide +kernel
theorem dX12_seeks_95 : decode cX12_seeks 95 = .ok (.idiv, 1) := by decide +kernel
theorem dX12_seeks_96 : decode cX12_seeks 96 = .ok (.imul, 1) := by decide +kernel
theorem dX12_seeks_97 : decode cX12_seeks 97 = .ok (.bipush 6, 2) := by decide +kernel
theorem dX12_seeks_99 : decode cX12_seeks 99 = .ok (.iadd, 1) := by decide +kernel
theorem dX12_seeks_100 : decode cX12_seeks 100 = .ok (.iaload, 1) := by decide +kernel
theorem dX12_seeks_101 : decode cX12_seeks 101 = .ok (.aload_n 0, 1) := by decide +kernel
theorem dX12_seeks_102 : decode cX12_seeks 102 = .ok (.iload 5, 2) := by decide +kernel
theorem dX12_seeks_104 : decode cX12_seeks 104 = .ok (.invokevirtual 337, 3) := by decide +kernel
theorem dX12_seeks_107 : decode cX12_seeks 107 = .ok (.if_icmp .ge 13, 3) := by decide +kernel
theorem dX12_seeks_110 : decode cX12_seeks 110 = .ok (.aload_n 0, 1) := by decide +kernel
theorem dX12_seeks_111 : decode cX12_seeks 111 = .ok (.iload_n 3, 1) := by decide +kernel
theorem dX12_seeks_112 : decode cX12_seeks 112 = .ok (.iconst 1, 1) := by decide +kernel
theorem dX12_seeks_113 : decode cX12_seeks 113 = .ok (.iadd, 1) := by decide +kernel
theorem dX12_seeks_114 : decode cX12_seeks 114 = .ok (.iload_n 3, 1) := by decide +kernel
theorem dX12_seeks_115 : decode cX12_seeks 115 = .ok (.bipush 6, 2) := by decide +kernel
theorem dX12_seeks_117 : decode cX12_seeks 117 = .ok (.invokevirtual 333, 3) := by decide +kernel
theorem dX12_seeks_120 : decode cX12_seeks 120 = .ok (.iconst 0, 1) := by decide +kernel
theorem dX12_seeks_121 : decode cX12_seeks 121 = .ok (.istore 6, 2) := by decide +kernel
theorem dX12_seeks_123 : decode cX12_seeks 123 = .ok (.iload 6, 2) := by decide +kernel
theorem dX12_seeks_125 : decode cX12_seeks 125 = .ok (.iconst 5, 1) := by decide +kernel
theorem dX12_seeks_126 : decode cX12_seeks 126 = .ok (.if_icmp .ge 113, 3) := by decide +kernel
theorem dX12_seeks_129 : decode cX12_seeks 129 = .ok (.iload 4, 2) := by decide +kernel
theorem dX12_seeks_131 : decode cX12_seeks 131 = .ok (.ifCond .le 108, 3) := by decide +kernel
theorem dX12_seeks_134 : decode cX12_seeks 134 = .ok (.aload_n 0, 1) := by decide +kernel
theorem dX12_seeks_135 : decode cX12_seeks 135 = .ok (.iload 5, 2) := by decide +kernel
theorem dX12_seeks_137 : decode cX12_seeks 137 = .ok (.iload 6, 2) := by decide +kernel
theorem dX12_seeks_139 : decode cX12_seeks 139 = .ok (.invokevirtual 340, 3) := by decide +kernel
theorem dX12_seeks_142 : decode cX12_seeks 142 = .ok (.istore 7, 2) := by decide +kernel
theorem dX12_seeks_144 : decode cX12_seeks 144 = .ok (.iload 6, 2) := by decide +kernel
theorem dX12_seeks_146 : decode cX12_seeks 146 = .ok (.ifCond .ne 7, 3) := by decide +kernel
theorem dX12_seeks_149 : decode cX12_seeks 149 = .ok (.iconst 0, 1) := by decide +kernel
theorem dX12_seeks_150 : decode cX12_seeks 150 = .ok (.goto 34, 3) := by decide +kernel
theorem dX12_seeks_153 : decode cX12_seeks 153 = .ok (.iload 6, 2) := by decide +kernel
theorem dX12_seeks_155 : decode cX12_seeks 155 = .ok (.iconst 1, 1) := by decide +kernel
theorem dX12_seeks_156 : decode cX12_seeks 156 = .ok (.if_icmp .ne 7, 3) := by decide +kernel
theorem dX12_seeks_159 : decode cX12_seeks 159 = .ok (.iconst 2, 1) := by decide +kernel
theorem dX12_seeks_160 : decode cX12_seeks 160 = .ok (.goto 24, 3) := by decide +kernel
theorem dX12_seeks_163 : decode cX12_seeks 163 = .ok (.iload 6, 2) := by decide +kernel
theorem dX12_seeks_165 : decode cX12_seeks 165 = .ok (.iconst 2, 1) := by decide +kernel
theorem dX12_seeks_166 : decode cX12_seeks 166 = .ok (.if_icmp .ne 7, 3) := by decide +kernel
theorem dX12_seeks_169 : decode cX12_seeks 169 = .ok (.iconst 1, 1) := by decide +kernel
theorem dX12_seeks_170 : decode cX12_seeks 170 = .ok (.goto 14, 3) := by decide +kernel
theorem dX12_seeks_173 : decode cX12_seeks 173 = .ok (.iload 6, 2) := by decide +kernel
theorem dX12_seeks_175 : decode cX12_seeks 175 = .ok (.iconst 3, 1) := by decide +kernel
theorem dX12_seeks_176 : decode cX12_seeks 176 = .ok (.if_icmp .ne 7, 3) := by decide +kernel
theorem dX12_seeks_179 : decode cX12_seeks 179 = .ok (.iconst 4, 1) := by decide +kernel
theorem dX12_seeks_180 : decode cX12_seeks 180 = .ok (.goto 4, 3) := by decide +kernel
theorem dX12_seeks_183 : decode cX12_seeks 183 = .ok (.iconst 3, 1) := by decide +kernel
theorem dX12_seeks_184 : decode cX12_seeks 184 = .ok (.istore 8, 2) := by decide +kernel
theorem dX12_seeks_186 : decode cX12_seeks 186 = .ok (.iload 7, 2) := by decide +kernel
theorem dX12_seeks_188 : decode cX12_seeks 188 = .ok (.iconst (-1), 1) := by decide +kernel
theorem dX12_seeks_189 : decode cX12_seeks 189 = .ok (.if_icmp .eq 44, 3) := by decide +kernel
theorem dX12_seeks_192 : decode cX12_seeks 192 = .ok (.aload_n 0, 1) := by decide +kernel
theorem dX12_seeks_193 : decode cX12_seeks 193 = .ok (.getfield 59, 3) := by decide +kernel
theorem dX12_seeks_196 : decode cX12_seeks 196 = .ok (.bipush 7, 2) := by decide +kernel
theorem dX12_seeks_198 : decode cX12_seeks 198 = .ok (.bipush 36, 2) := by decide +kernel
theorem dX12_seeks_200 : decode cX12_seeks 200 = .ok (.iload 4, 2) := by decide +kernel
theorem dX12_seeks_202 : decode cX12_seeks 202 = .ok (.iconst 1, 1) := by decide +kernel
theorem dX12_seeks_203 : decode cX12_seeks 203 = .ok (.isub, 1) := by decide +kernel
theorem dX12_seeks_204 : decode cX12_seeks 204 = .ok (.imul, 1) := by decide +kernel
theorem dX12_seeks_205 : decode cX12_seeks 205 = .ok (.iload 7, 2) := by decide +kernel
theorem dX12_seeks_207 : decode cX12_seeks 207 = .ok (.iadd, 1) := by decide +kernel
theorem dX12_seeks_208 : decode cX12_seeks 208 = .ok (.imul, 1) := by decide +kernel
theorem dX12_seeks_209 : decode cX12_seeks 209 = .ok (.iload 8, 2) := by decide +kernel
theorem dX12_seeks_211 : decode cX12_seeks 211 = .ok (.iadd, 1) := by decide +kernel
theorem dX12_seeks_212 : decode cX12_seeks 212 = .ok (.iaload, 1) := by decide +kernel
theorem dX12_seeks_213 : decode cX12_seeks 213 = .ok (.ifCond .le 20, 3) := by decide +kernel
theorem dX12_seeks_216 : decode cX12_seeks 216 = .ok (.aload_n 0, 1) := by decide +kernel
theorem dX12_seeks_217 : decode cX12_seeks 217 = .ok (.iload 4, 2) := by decide +kernel
theorem dX12_seeks_219 : decode cX12_seeks 219 = .ok (.iconst 1, 1) := by decide +kernel
theorem dX12_seeks_220 : decode cX12_seeks 220 = .ok (.isub, 1) := by decide +kernel
theorem dX12_seeks_221 : decode cX12_seeks 221 = .ok (.iload 7, 2) := by decide +kernel
theorem dX12_seeks_223 : decode cX12_seeks 223 = .ok (.iconst 1, 1) := by decide +kernel
theorem dX12_seeks_224 : decode cX12_seeks 224 = .ok (.invokestatic 329, 3) := by decide +kernel
theorem dX12_seeks_227 : decode cX12_seeks 227 = .ok (.iload_n 3, 1) := by decide +kernel
theorem dX12_seeks_228 : decode cX12_seeks 228 = .ok (.iload 8, 2) := by decide +kernel
theorem dX12_seeks_230 : decode cX12_seeks 230 = .ok (.invokevirtual 333, 3) := by decide +kernel
theorem dX12_seeks_233 : decode cX12_seeks 233 = .ok (.iinc 6 1, 3) := by decide +kernel
theorem dX12_seeks_236 : decode cX12_seeks 236 = .ok (.goto (-113), 3) := by decide +kernel
theorem dX12_seeks_239 : decode cX12_seeks 239 = .ok (.goto 114, 3) := by decide +kernel
theorem dX12_seeks_242 : decode cX12_seeks 242 = .ok (.aload_n 0, 1) := by decide +kernel
theorem dX12_seeks_243 : decode cX12_seeks 243 = .ok (.getfield 59, 3) := by decide +kernel
theorem dX12_seeks_246 : decode cX12_seeks 246 = .ok (.bipush 7, 2) := by decide +kernel
theorem dX12_seeks_248 : decode cX12_seeks 248 = .ok (.iload_n 3, 1) := by decide +kernel
theorem dX12_seeks_249 : decode cX12_seeks 249 = .ok (.iconst 2, 1) := by decide +kernel
theorem dX12_seeks_250 : decode cX12_seeks 250 = .ok (.idiv, 1) := by decide +kernel
theorem dX12_seeks_251 : decode cX12_seeks 251 = .ok (.imul, 1) := by decide +kernel
theorem dX12_seeks_252 : decode cX12_seeks 252 = .ok (.iconst 5, 1) := by decide +kernel
theorem dX12_seeks_253 : decode cX12_seeks 253 = .ok (.iadd, 1) := by decide +kernel
theorem dX12_seeks_254 : decode cX12_seeks 254 = .ok (.iaload, 1) := by decide +kernel
theorem dX12_seeks_255 : decode cX12_seeks 255 = .ok (.aload_n 0, 1) := by decide +kernel
theorem dX12_seeks_256 : decode cX12_seeks 256 = .ok (.getfield 56, 3) := by decide +kernel
theorem dX12_seeks_259 : decode cX12_seeks 259 = .ok (.iload 5, 2) := by decide +kernel
theorem dX12_seeks_261 : decode cX12_seeks 261 = .ok (.iaload, 1) := by decide +kernel
theorem dX12_seeks_262 : decode cX12_seeks 262 = .ok (.if_icmp .ge 5, 3) := by decide +kernel
theorem dX12_seeks_265 : decode cX12_seeks 265 = .ok (.iload_n 3, 1) := by decide +kernel
theorem dX12_seeks_266 : decode cX12_seeks 266 = .ok (.ireturn, 1) := by decide +kernel
theorem dX12_seeks_267 : decode cX12_seeks 267 = .ok (.aload_n 0, 1) := by decide +kernel
theorem dX12_seeks_268 : decode cX12_seeks 268 = .ok (.getfield 59, 3) := by decide +kernel
theorem dX12_seeks_271 : decode cX12_seeks 271 = .ok (.bipush 7, 2) := by decide +kernel
theorem dX12_seeks_273 : decode cX12_seeks 273 = .ok (.iload_n 3, 1) := by decide +kernel
theorem dX12_seeks_274 : decode cX12_seeks 274 = .ok (.iconst 2, 1) := by decide +kernel
theorem dX12_seeks_275 : decode cX12_seeks 275 = .ok (.idiv, 1) := by decide +kernel
theorem dX12_seeks_276 : decode cX12_seeks 276 = .ok (.imul, 1) := by decide +kernel
theorem dX12_seeks_277 : decode cX12_seeks 277 = .ok (.bipush 6, 2) := by decide +kernel
theorem dX12_seeks_279 : decode cX12_seeks 279 = .ok (.iadd, 1) := by decide +kernel
theorem dX12_seeks_280 : decode cX12_seeks 280 = .ok (.iaload, 1) := by decide +kernel
theorem dX12_seeks_281 : decode cX12_seeks 281 = .ok (.ifCond .le 13, 3) := by decide +kernel
theorem dX12_seeks_284 : decode cX12_seeks 284 = .ok (.aload_n 0, 1) := by decide +kernel
theorem dX12_seeks_285 : decode cX12_seeks 285 = .ok (.iload_n 3, 1) := by decide +kernel
theorem dX12_seeks_286 : decode cX12_seeks 286 = .ok (.iconst 1, 1) := by decide +kernel
theorem dX12_seeks_287 : decode cX12_seeks 287 = .ok (.isub, 1) := by decide +kernel
theorem dX12_seeks_288 : decode cX12_seeks 288 = .ok (.iload_n 3, 1) := by decide +kernel
theorem dX12_seeks_289 : decode cX12_seeks 289 = .ok (.bipush 6, 2) := by decide +kernel
theorem dX12_seeks_291 : decode cX12_seeks 291 = .ok (.invokevirtual 333, 3) := by decide +kernel
theorem dX12_seeks_294 : decode cX12_seeks 294 = .ok (.iconst 0, 1) := by decide +kernel
theorem dX12_seeks_295 : decode cX12_seeks 295 = .ok (.istore 6, 2) := by decide +kernel
theorem dX12_seeks_297 : decode cX12_seeks 297 = .ok (.iload 6, 2) := by decide +kernel
theorem dX12_seeks_299 : decode cX12_seeks 299 = .ok (.iconst 5, 1) := by decide +kernel
theorem dX12_seeks_300 : decode cX12_seeks 300 = .ok (.if_icmp .ge 53, 3) := by decide +kernel
theorem dX12_seeks_303 : decode cX12_seeks 303 = .ok (.iload 4, 2) := by decide +kernel
theorem dX12_seeks_305 : decode cX12_seeks 305 = .ok (.iconst 1, 1) := by decide +kernel
theorem dX12_seeks_306 : decode cX12_seeks 306 = .ok (.iadd, 1) := by decide +kernel
theorem dX12_seeks_307 : decode cX12_seeks 307 = .ok (.aload_n 0, 1) := by decide +kernel
theorem dX12_seeks_308 : decode cX12_seeks 308 = .ok (.getfield 326, 3) := by decide +kernel
theorem dX12_seeks_311 : decode cX12_seeks 311 = .ok (.if_icmp .ge 42, 3) := by decide +kernel
theorem dX12_seeks_314 : decode cX12_seeks 314 = .ok (.aload_n 0, 1) := by decide +kernel
theorem dX12_seeks_315 : decode cX12_seeks 315 = .ok (.iload 5, 2) := by decide +kernel
theorem dX12_seeks_317 : decode cX12_seeks 317 = .ok (.iload 6, 2) := by decide +kernel
theorem dX12_seeks_319 : decode cX12_seeks 319 = .ok (.invokevirtual 340, 3) := by decide +kernel
theorem dX12_seeks_322 : decode cX12_seeks 322 = .ok (.istore 7, 2) := by decide +kernel
theorem dX12_seeks_324 : decode cX12_seeks 324 = .ok (.iload 7, 2) := by decide +kernel
theorem dX12_seeks_326 : decode cX12_seeks 326 = .ok (.iconst (-1), 1) := by decide +kernel
theorem dX12_seeks_327 : decode cX12_seeks 327 = .ok (.if_icmp .eq 20, 3) := by decide +kernel
theorem dX12_seeks_330 : decode cX12_seeks 330 = .ok (.aload_n 0, 1) := by decide +kernel
theorem dX12_seeks_331 : decode cX12_seeks 331 = .ok (.iload 4, 2) := by decide +kernel
theorem dX12_seeks_333 : decode cX12_seeks 333 = .ok (.iconst 1, 1) := by decide +kernel
theorem dX12_seeks_334 : decode cX12_seeks 334 = .ok (.iadd, 1) := by decide +kernel
theorem dX12_seeks_335 : decode cX12_seeks 335 = .ok (.iload 7, 2) := by decide +kernel
theorem dX12_seeks_337 : decode cX12_seeks 337 = .ok (.iconst 0, 1) := by decide +kernel
theorem dX12_seeks_338 : decode cX12_seeks 338 = .ok (.invokestatic 329, 3) := by decide +kernel
theorem dX12_seeks_341 : decode cX12_seeks 341 = .ok (.iload_n 3, 1) := by decide +kernel
theorem dX12_seeks_342 : decode cX12_seeks 342 = .ok (.iload 6, 2) := by decide +kernel
theorem dX12_seeks_344 : decode cX12_seeks 344 = .ok (.invokevirtual 333, 3) := by decide +kernel
theorem dX12_seeks_347 : decode cX12_seeks 347 = .ok (.iinc 6 1, 3) := by decide +kernel
theorem dX12_seeks_350 : decode cX12_seeks 350 = .ok (.goto (-53), 3) := by decide +kernel
theorem dX12_seeks_353 : decode cX12_seeks 353 = .ok (.iinc 2 1, 3) := by decide +kernel
theorem dX12_seeks_356 : decode cX12_seeks 356 = .ok (.goto (-306), 3) := by decide +kernel
theorem dX12_seeks_359 : decode cX12_seeks 359 = .ok (.iconst (-1), 1) := by decide +kernel
theorem dX12_seeks_360 : decode cX12_seeks 360 = .ok (.ireturn, 1) := by decide +kernel
theorem dX12_seen_0 : decode cX12_seen 0 = .ok (.aload_n 0, 1) := by decide +kernel
theorem dX12_seen_1 : decode cX12_seen 1 = .ok (.iconst 0, 1) := by decide +kernel
theorem dX12_seen_2 : decode cX12_seen 2 = .ok (.putfield 74, 3) := by decide +kernel
theorem dX12_seen_5 : decode cX12_seen 5 = .ok (.aload_n 0, 1) := by decide +kernel
theorem dX12_seen_6 : decode cX12_seen 6 = .ok (.iload_n 1, 1) := by decide +kernel
theorem dX12_seen_7 : decode cX12_seen 7 = .ok (.invokevirtual 386, 3) := by decide +kernel
theorem dX12_seen_10 : decode cX12_seen 10 = .ok (.istore_n 2, 1) := by decide +kernel
theorem dX12_seen_11 : decode cX12_seen 11 = .ok (.iload_n 2, 1) := by decide +kernel
theorem dX12_seen_12 : decode cX12_seen 12 = .ok (.ifCond .eq 6, 3) := by decide +kernel
theorem dX12_seen_15 : decode cX12_seen 15 = .ok (.iload_n 2, 1) := by decide +kernel
theorem dX12_seen_16 : decode cX12_seen 16 = .ok (.i2l, 1) := by decide +kernel
theorem dX12_seen_17 : decode cX12_seen 17 = .ok (.lreturn, 1) := by decide +kernel
theorem dX12_seen_18 : decode cX12_seen 18 = .ok (.aload_n 0, 1) := by decide +kernel
theorem dX12_seen_19 : decode cX12_seen 19 = .ok (.invokevirtual 276, 3) := by decide +kernel
theorem dX12_seen_22 : decode cX12_seen 22 = .ok (.lconst 0, 1) := by decide +kernel
theorem dX12_seen_23 : decode cX12_seen 23 = .ok (.lstore_n 3, 1) := by decide +kernel
theorem dX12_seen_24 : decode cX12_seen 24 = .ok (.iconst 0, 1) := by decide +kernel
theorem dX12_seen_25 : decode cX12_seen 25 = .ok (.istore 5, 2) := by decide +kernel
theorem dX12_seen_27 : decode cX12_seen 27 = .ok (.iload 5, 2) := by decide +kernel
theorem dX12_seen_29 : decode cX12_seen 29 = .ok (.bipush 60, 2) := by decide +kernel
theorem dX12_seen_31 : decode cX12_seen 31 = .ok (.if_icmp .ge 30, 3) := by decide +kernel
theorem dX12_seen_34 : decode cX12_seen 34 = .ok (.lload_n 3, 1) := by decide +kernel
theorem dX12_seen_35 : decode cX12_seen 35 = .ok (.aload_n 0, 1) := by decide +kernel
theorem dX12_seen_36 : decode cX12_seen 36 = .ok (.iload_n 1, 1) := by decide +kernel
theorem dX12_seen_37 : decode cX12_seen 37 = .ok (.iload 5, 2) := by decide +kernel
theorem dX12_seen_39 : decode cX12_seen 39 = .ok (.invokevirtual 389, 3) := by decide +kernel
theorem dX12_seen_42 : decode cX12_seen 42 = .ok (.ifCond .eq 10, 3) := by decide +kernel
theorem dX12_seen_45 : decode cX12_seen 45 = .ok (.lconst 1, 1) := by decide +kernel
theorem dX12_seen_46 : decode cX12_seen 46 = .ok (.iload 5, 2) := by decide +kernel
theorem dX12_seen_48 : decode cX12_seen 48 = .ok (.lshl, 1) := by decide +kernel
theorem dX12_seen_49 : decode cX12_seen 49 = .ok (.goto 4, 3) := by decide +kernel
theorem dX12_seen_52 : decode cX12_seen 52 = .ok (.lconst 0, 1) := by decide +kernel
theorem dX12_seen_53 : decode cX12_seen 53 = .ok (.lor, 1) := by decide +kernel
theorem dX12_seen_54 : decode cX12_seen 54 = .ok (.lstore_n 3, 1) := by decide +kernel
theorem dX12_seen_55 : decode cX12_seen 55 = .ok (.iinc 5 1, 3) := by decide +kernel
theorem dX12_seen_58 : decode cX12_seen 58 = .ok (.goto (-31), 3) := by decide +kernel
theorem dX12_seen_61 : decode cX12_seen 61 = .ok (.lload_n 3, 1) := by decide +kernel
theorem dX12_seen_62 : decode cX12_seen 62 = .ok (.lreturn, 1) := by decide +kernel
theorem dX12_sees_0 : decode cX12_sees 0 = .ok (.aload_n 0, 1) := by decide +kernel
theorem dX12_sees_1 : decode cX12_sees 1 = .ok (.iconst 0, 1) := by decide +kernel
theorem dX12_sees_2 : decode cX12_sees 2 = .ok (.putfield 74, 3) := by decide +kernel
theorem dX12_sees_5 : decode cX12_sees 5 = .ok (.aload_n 0, 1) := by decide +kernel
theorem dX12_sees_6 : decode cX12_sees 6 = .ok (.iload_n 1, 1) := by decide +kernel
theorem dX12_sees_7 : decode cX12_sees 7 = .ok (.i2l, 1) := by decide +kernel
theorem dX12_sees_8 : decode cX12_sees 8 = .ok (.invokevirtual 250, 3) := by decide +kernel
theorem dX12_sees_11 : decode cX12_sees 11 = .ok (.ifCond .ne 6, 3) := by decide +kernel
theorem dX12_sees_14 : decode cX12_sees 14 = .ok (.bipush (-2), 2) := by decide +kernel
theorem dX12_sees_16 : decode cX12_sees 16 = .ok (.ireturn, 1) := by decide +kernel
theorem dX12_sees_17 : decode cX12_sees 17 = .ok (.aload_n 0, 1) := by decide +kernel
theorem dX12_sees_18 : decode cX12_sees 18 = .ok (.invokevirtual 276, 3) := by decide +kernel
theorem dX12_sees_21 : decode cX12_sees 21 = .ok (.iconst 0, 1) := by decide +kernel
theorem dX12_sees_22 : decode cX12_sees 22 = .ok (.istore_n 2, 1) := by decide +kernel
theorem dX12_sees_23 : decode cX12_sees 23 = .ok (.iconst 0, 1) := by decide +kernel
theorem dX12_sees_24 : decode cX12_sees 24 = .ok (.istore_n 3, 1) := by decide +kernel
theorem dX12_sees_25 : decode cX12_sees 25 = .ok (.iload_n 3, 1) := by decide +kernel
theorem dX12_sees_26 : decode cX12_sees 26 = .ok (.bipush 60, 2) := by decide +kernel
theorem dX12_sees_28 : decode cX12_sees 28 = .ok (.if_icmp .ge 20, 3) := by decide +kernel
theorem dX12_sees_31 : decode cX12_sees 31 = .ok (.iload_n 2, 1) := by decide +kernel
theorem dX12_sees_32 : decode cX12_sees 32 = .ok (.iconst 1, 1) := by decide +kernel
theorem dX12_sees_33 : decode cX12_sees 33 = .ok (.aload_n 0, 1) := by decide +kernel
theorem dX12_sees_34 : decode cX12_sees 34 = .ok (.iload_n 1, 1) := by decide +kernel
theorem dX12_sees_35 : decode cX12_sees 35 = .ok (.iload_n 3, 1) := by decide +kernel
theorem dX12_sees_36 : decode cX12_sees 36 = .ok (.invokevirtual 267, 3) := by decide +kernel
theorem dX12_sees_39 : decode cX12_sees 39 = .ok (.ishl, 1) := by decide +kernel
theorem dX12_sees_40 : decode cX12_sees 40 = .ok (.ior, 1) := by decide +kernel
theorem dX12_sees_41 : decode cX12_sees 41 = .ok (.istore_n 2, 1) := by decide +kernel
theorem dX12_sees_42 : decode cX12_sees 42 = .ok (.iinc 3 1, 3) := by decide +kernel
theorem dX12_sees_45 : decode cX12_sees 45 = .ok (.goto (-20), 3) := by decide +kernel
theorem dX12_sees_48 : decode cX12_sees 48 = .ok (.iload_n 2, 1) := by decide +kernel
theorem dX12_sees_49 : decode cX12_sees 49 = .ok (.ireturn, 1) := by decide +kernel
theorem dX12_sits_0 : decode cX12_sits 0 = .ok (.aload_n 0, 1) := by decide +kernel
theorem dX12_sits_1 : decode cX12_sits 1 = .ok (.iconst 0, 1) := by decide +kernel
theorem dX12_sits_2 : decode cX12_sits 2 = .ok (.putfield 74, 3) := by decide +kernel
theorem dX12_sits_5 : decode cX12_sits 5 = .ok (.aload_n 0, 1) := by decide +kernel
theorem dX12_sits_6 : decode cX12_sits 6 = .ok (.iload_n 1, 1) := by decide +kernel
theorem dX12_sits_7 : decode cX12_sits 7 = .ok (.i2l, 1) := by decide +kernel
theorem dX12_sits_8 : decode cX12_sits 8 = .ok (.iload_n 2, 1) := by decide +kernel
theorem dX12_sits_9 : decode cX12_sits 9 = .ok (.i2l, 1) := by decide +kernel
theorem dX12_sits_10 : decode cX12_sits 10 = .ok (.invokevirtual 253, 3) := by decide +kernel
theorem dX12_sits_13 : decode cX12_sits 13 = .ok (.ifCond .eq 25, 3) := by decide +kernel
theorem dX12_sits_16 : decode cX12_sits 16 = .ok (.aload_n 0, 1) := by decide +kernel
theorem dX12_sits_17 : decode cX12_sits 17 = .ok (.getfield 43, 3) := by decide +kernel
theorem dX12_sits_20 : decode cX12_sits 20 = .ok (.bipush 6, 2) := by decide +kernel
theorem dX12_sits_22 : decode cX12_sits 22 = .ok (.iload_n 1, 1) := by decide +kernel
theorem dX12_sits_23 : decode cX12_sits 23 = .ok (.imul, 1) := by decide +kernel
theorem dX12_sits_24 : decode cX12_sits 24 = .ok (.iload_n 2, 1) := by decide +kernel
theorem dX12_sits_25 : decode cX12_sits 25 = .ok (.iadd, 1) := by decide +kernel
theorem dX12_sits_26 : decode cX12_sits 26 = .ok (.baload, 1) := by decide +kernel
theorem dX12_sits_27 : decode cX12_sits 27 = .ok (.ifCond .eq 7, 3) := by decide +kernel
theorem dX12_sits_30 : decode cX12_sits 30 = .ok (.iconst 1, 1) := by decide +kernel
theorem dX12_sits_31 : decode cX12_sits 31 = .ok (.goto 9, 3) := by decide +kernel
theorem dX12_sits_34 : decode cX12_sits 34 = .ok (.iconst 0, 1) := by decide +kernel
theorem dX12_sits_35 : decode cX12_sits 35 = .ok (.goto 5, 3) := by decide +kernel
theorem dX12_sits_38 : decode cX12_sits 38 = .ok (.bipush (-2), 2) := by decide +kernel
theorem dX12_sits_40 : decode cX12_sits 40 = .ok (.ireturn, 1) := by decide +kernel
theorem dX12_sitsLine_0 : decode cX12_sitsLine 0 = .ok (.aload_n 0, 1) := by decide +kernel
theorem dX12_sitsLine_1 : decode cX12_sitsLine 1 = .ok (.invokevirtual 160, 3) := by decide +kernel
theorem dX12_sitsLine_4 : decode cX12_sitsLine 4 = .ok (.istore_n 1, 1) := by decide +kernel
theorem dX12_sitsLine_5 : decode cX12_sitsLine 5 = .ok (.aload_n 0, 1) := by decide +kernel
theorem dX12_sitsLine_6 : decode cX12_sitsLine 6 = .ok (.getfield 126, 3) := by decide +kernel
theorem dX12_sitsLine_9 : decode cX12_sitsLine 9 = .ok (.ifCond .ne 49, 3) := by decide +kernel
theorem dX12_sitsLine_12 : decode cX12_sitsLine 12 = .ok (.aload_n 0, 1) := by decide +kernel
theorem dX12_sitsLine_13 : decode cX12_sitsLine 13 = .ok (.getfield 115, 3) := by decide +kernel
theorem dX12_sitsLine_16 : decode cX12_sitsLine 16 = .ok (.iconst 2, 1) := by decide +kernel
theorem dX12_sitsLine_17 : decode cX12_sitsLine 17 = .ok (.if_icmp .ne 41, 3) := by decide +kernel
theorem dX12_sitsLine_20 : decode cX12_sitsLine 20 = .ok (.aload_n 0, 1) := by decide +kernel
theorem dX12_sitsLine_21 : decode cX12_sitsLine 21 = .ok (.getfield 108, 3) := by decide +kernel
theorem dX12_sitsLine_24 : decode cX12_sitsLine 24 = .ok (.aload_n 0, 1) := by decide +kernel
theorem dX12_sitsLine_25 : decode cX12_sitsLine 25 = .ok (.iconst 1, 1) := by decide +kernel
theorem dX12_sitsLine_26 : decode cX12_sitsLine 26 = .ok (.invokevirtual 156, 3) := by decide +kernel
theorem dX12_sitsLine_29 : decode cX12_sitsLine 29 = .ok (.if_icmp .ge 29, 3) := by decide +kernel
theorem dX12_sitsLine_32 : decode cX12_sitsLine 32 = .ok (.aload_n 0, 1) := by decide +kernel
theorem dX12_sitsLine_33 : decode cX12_sitsLine 33 = .ok (.getfield 43, 3) := by decide +kernel
theorem dX12_sitsLine_36 : decode cX12_sitsLine 36 = .ok (.sipush 144, 3) := by decide +kernel
theorem dX12_sitsLine_39 : decode cX12_sitsLine 39 = .ok (.bipush 6, 2) := by decide +kernel
theorem dX12_sitsLine_41 : decode cX12_sitsLine 41 = .ok (.iload_n 1, 1) := by decide +kernel
theorem dX12_sitsLine_42 : decode cX12_sitsLine 42 = .ok (.imul, 1) := by decide +kernel
theorem dX12_sitsLine_43 : decode cX12_sitsLine 43 = .ok (.iadd, 1) := by decide +kernel
theorem dX12_sitsLine_44 : decode cX12_sitsLine 44 = .ok (.aload_n 0, 1) := by decide +kernel
theorem dX12_sitsLine_45 : decode cX12_sitsLine 45 = .ok (.getfield 108, 3) := by decide +kernel
theorem dX12_sitsLine_48 : decode cX12_sitsLine 48 = .ok (.iadd, 1) := by decide +kernel
theorem dX12_sitsLine_49 : decode cX12_sitsLine 49 = .ok (.baload, 1) := by decide +kernel
theorem dX12_sitsLine_50 : decode cX12_sitsLine 50 = .ok (.ifCond .eq 8, 3) := by decide +kernel
theorem dX12_sitsLine_53 : decode cX12_sitsLine 53 = .ok (.aload_n 0, 1) := by decide +kernel
theorem dX12_sitsLine_54 : decode cX12_sitsLine 54 = .ok (.iconst 2, 1) := by decide +kernel
theorem dX12_sitsLine_55 : decode cX12_sitsLine 55 = .ok (.invokevirtual 142, 3) := by decide +kernel
theorem dX12_sitsLine_58 : decode cX12_sitsLine 58 = .ok (.aload_n 0, 1) := by decide +kernel
theorem dX12_sitsLine_59 : decode cX12_sitsLine 59 = .ok (.invokevirtual 167, 3) := by decide +kernel
theorem dX12_sitsLine_62 : decode cX12_sitsLine 62 = .ok (.istore_n 2, 1) := by decide +kernel
theorem dX12_sitsLine_63 : decode cX12_sitsLine 63 = .ok (.aload_n 0, 1) := by decide +kernel
theorem dX12_sitsLine_64 : decode cX12_sitsLine 64 = .ok (.invokevirtual 184, 3) := by decide +kernel
theorem dX12_sitsLine_67 : decode cX12_sitsLine 67 = .ok (.ifCond .eq 19, 3) := by decide +kernel
theorem dX12_sitsLine_70 : decode cX12_sitsLine 70 = .ok (.aload_n 0, 1) := by decide +kernel
theorem dX12_sitsLine_71 : decode cX12_sitsLine 71 = .ok (.getfield 43, 3) := by decide +kernel
theorem dX12_sitsLine_74 : decode cX12_sitsLine 74 = .ok (.sipush 144, 3) := by decide +kernel
theorem dX12_sitsLine_77 : decode cX12_sitsLine 77 = .ok (.bipush 6, 2) := by decide +kernel
theorem dX12_sitsLine_79 : decode cX12_sitsLine 79 = .ok (.iload_n 1, 1) := by decide +kernel
theorem dX12_sitsLine_80 : decode cX12_sitsLine 80 = .ok (.imul, 1) := by decide +kernel
theorem dX12_sitsLine_81 : decode cX12_sitsLine 81 = .ok (.iadd, 1) := by decide +kernel
theorem dX12_sitsLine_82 : decode cX12_sitsLine 82 = .ok (.iload_n 2, 1) := by decide +kernel
theorem dX12_sitsLine_83 : decode cX12_sitsLine 83 = .ok (.iadd, 1) := by decide +kernel
theorem dX12_sitsLine_84 : decode cX12_sitsLine 84 = .ok (.iconst 1, 1) := by decide +kernel
theorem dX12_sitsLine_85 : decode cX12_sitsLine 85 = .ok (.bastore, 1) := by decide +kernel
theorem dX12_sitsLine_86 : decode cX12_sitsLine 86 = .ok (.return_, 1) := by decide +kernel
theorem dX12_sitters_0 : decode cX12_sitters 0 = .ok (.iconst 0, 1) := by decide +kernel
theorem dX12_sitters_1 : decode cX12_sitters 1 = .ok (.istore_n 1, 1) := by decide +kernel
theorem dX12_sitters_2 : decode cX12_sitters 2 = .ok (.iconst 0, 1) := by decide +kernel
theorem dX12_sitters_3 : decode cX12_sitters 3 = .ok (.istore_n 2, 1) := by decide +kernel
theorem dX12_sitters_4 : decode cX12_sitters 4 = .ok (.iload_n 2, 1) := by decide +kernel
theorem dX12_sitters_5 : decode cX12_sitters 5 = .ok (.bipush 36, 2) := by decide +kernel
theorem dX12_sitters_7 : decode cX12_sitters 7 = .ok (.if_icmp .ge 26, 3) := by decide +kernel
theorem dX12_sitters_10 : decode cX12_sitters 10 = .ok (.iload_n 1, 1) := by decide +kernel
theorem dX12_sitters_11 : decode cX12_sitters 11 = .ok (.aload_n 0, 1) := by decide +kernel
theorem dX12_sitters_12 : decode cX12_sitters 12 = .ok (.getfield 43, 3) := by decide +kernel
theorem dX12_sitters_15 : decode cX12_sitters 15 = .ok (.iload_n 2, 1) := by decide +kernel
theorem dX12_sitters_16 : decode cX12_sitters 16 = .ok (.baload, 1) := by decide +kernel
theorem dX12_sitters_17 : decode cX12_sitters 17 = .ok (.ifCond .eq 7, 3) := by decide +kernel
theorem dX12_sitters_20 : decode cX12_sitters 20 = .ok (.iconst 1, 1) := by decide +kernel
theorem dX12_sitters_21 : decode cX12_sitters 21 = .ok (.goto 4, 3) := by decide +kernel
theorem dX12_sitters_24 : decode cX12_sitters 24 = .ok (.iconst 0, 1) := by decide +kernel
theorem dX12_sitters_25 : decode cX12_sitters 25 = .ok (.iadd, 1) := by decide +kernel
theorem dX12_sitters_26 : decode cX12_sitters 26 = .ok (.istore_n 1, 1) := by decide +kernel
theorem dX12_sitters_27 : decode cX12_sitters 27 = .ok (.iinc 2 1, 3) := by decide +kernel
theorem dX12_sitters_30 : decode cX12_sitters 30 = .ok (.goto (-26), 3) := by decide +kernel
theorem dX12_sitters_33 : decode cX12_sitters 33 = .ok (.iload_n 1, 1) := by decide +kernel
theorem dX12_sitters_34 : decode cX12_sitters 34 = .ok (.ireturn, 1) := by decide +kernel
theorem dX12_sizeOf_0 : decode cX12_sizeOf 0 = .ok (.iconst 0, 1) := by decide +kernel
theorem dX12_sizeOf_1 : decode cX12_sizeOf 1 = .ok (.istore_n 1, 1) := by decide +kernel
theorem dX12_sizeOf_2 : decode cX12_sizeOf 2 = .ok (.iload_n 0, 1) := by decide +kernel
theorem dX12_sizeOf_3 : decode cX12_sizeOf 3 = .ok (.istore_n 2, 1) := by decide +kernel
theorem dX12_sizeOf_4 : decode cX12_sizeOf 4 = .ok (.iload_n 2, 1) := by decide +kernel
theorem dX12_sizeOf_5 : decode cX12_sizeOf 5 = .ok (.ifCond .eq 15, 3) := by decide +kernel
theorem dX12_sizeOf_8 : decode cX12_sizeOf 8 = .ok (.iinc 1 1, 3) := by decide +kernel
theorem dX12_sizeOf_11 : decode cX12_sizeOf 11 = .ok (.iload_n 2, 1) := by decide +kernel
theorem dX12_sizeOf_12 : decode cX12_sizeOf 12 = .ok (.iload_n 2, 1) := by decide +kernel
theorem dX12_sizeOf_13 : decode cX12_sizeOf 13 = .ok (.iconst 1, 1) := by decide +kernel
theorem dX12_sizeOf_14 : decode cX12_sizeOf 14 = .ok (.isub, 1) := by decide +kernel
theorem dX12_sizeOf_15 : decode cX12_sizeOf 15 = .ok (.iand, 1) := by decide +kernel
theorem dX12_sizeOf_16 : decode cX12_sizeOf 16 = .ok (.istore_n 2, 1) := by decide +kernel
theorem dX12_sizeOf_17 : decode cX12_sizeOf 17 = .ok (.goto (-13), 3) := by decide +kernel
theorem dX12_sizeOf_20 : decode cX12_sizeOf 20 = .ok (.iload_n 1, 1) := by decide +kernel
theorem dX12_sizeOf_21 : decode cX12_sizeOf 21 = .ok (.ireturn, 1) := by decide +kernel
theorem dX12_slip_0 : decode cX12_slip 0 = .ok (.aload_n 0, 1) := by decide +kernel
theorem dX12_slip_1 : decode cX12_slip 1 = .ok (.iconst 0, 1) := by decide +kernel
theorem dX12_slip_2 : decode cX12_slip 2 = .ok (.putfield 74, 3) := by decide +kernel
theorem dX12_slip_5 : decode cX12_slip 5 = .ok (.aload_n 0, 1) := by decide +kernel
theorem dX12_slip_6 : decode cX12_slip 6 = .ok (.invokevirtual 237, 3) := by decide +kernel
theorem dX12_slip_9 : decode cX12_slip 9 = .ok (.ifCond .ne 6, 3) := by decide +kernel
theorem dX12_slip_12 : decode cX12_slip 12 = .ok (.bipush (-2), 2) := by decide +kernel
theorem dX12_slip_14 : decode cX12_slip 14 = .ok (.ireturn, 1) := by decide +kernel
theorem dX12_slip_15 : decode cX12_slip 15 = .ok (.aload_n 0, 1) := by decide +kernel
theorem dX12_slip_16 : decode cX12_slip 16 = .ok (.invokevirtual 276, 3) := by decide +kernel
theorem dX12_slip_19 : decode cX12_slip 19 = .ok (.iconst 0, 1) := by decide +kernel
theorem dX12_slip_20 : decode cX12_slip 20 = .ok (.istore_n 1, 1) := by decide +kernel
theorem dX12_slip_21 : decode cX12_slip 21 = .ok (.iload_n 1, 1) := by decide +kernel
theorem dX12_slip_22 : decode cX12_slip 22 = .ok (.bipush 60, 2) := by decide +kernel
theorem dX12_slip_24 : decode cX12_slip 24 = .ok (.if_icmp .ge 19, 3) := by decide +kernel
theorem dX12_slip_27 : decode cX12_slip 27 = .ok (.aload_n 0, 1) := by decide +kernel
theorem dX12_slip_28 : decode cX12_slip 28 = .ok (.iload_n 1, 1) := by decide +kernel
theorem dX12_slip_29 : decode cX12_slip 29 = .ok (.invokevirtual 291, 3) := by decide +kernel
theorem dX12_slip_32 : decode cX12_slip 32 = .ok (.ifCond .eq 5, 3) := by decide +kernel
theorem dX12_slip_35 : decode cX12_slip 35 = .ok (.iload_n 1, 1) := by decide +kernel
theorem dX12_slip_36 : decode cX12_slip 36 = .ok (.ireturn, 1) := by decide +kernel
theorem dX12_slip_37 : decode cX12_slip 37 = .ok (.iinc 1 1, 3) := by decide +kernel
theorem dX12_slip_40 : decode cX12_slip 40 = .ok (.goto (-19), 3) := by decide +kernel
theorem dX12_slip_43 : decode cX12_slip 43 = .ok (.iconst (-1), 1) := by decide +kernel
theorem dX12_slip_44 : decode cX12_slip 44 = .ok (.ireturn, 1) := by decide +kernel
theorem dX12_soonest_0 : decode cX12_soonest 0 = .ok (.aload_n 0, 1) := by decide +kernel
theorem dX12_soonest_1 : decode cX12_soonest 1 = .ok (.iconst 0, 1) := by decide +kernel
theorem dX12_soonest_2 : decode cX12_soonest 2 = .ok (.putfield 74, 3) := by decide +kernel
theorem dX12_soonest_5 : decode cX12_soonest 5 = .ok (.aload_n 0, 1) := by decide +kernel
theorem dX12_soonest_6 : decode cX12_soonest 6 = .ok (.iload_n 1, 1) := by decide +kernel
theorem dX12_soonest_7 : decode cX12_soonest 7 = .ok (.invokevirtual 273, 3) := by decide +kernel
theorem dX12_soonest_10 : decode cX12_soonest 10 = .ok (.ifCond .ne 6, 3) := by decide +kernel
theorem dX12_soonest_13 : decode cX12_soonest 13 = .ok (.bipush (-2), 2) := by decide +kernel
theorem dX12_soonest_15 : decode cX12_soonest 15 = .ok (.ireturn, 1) := by decide +kernel
theorem dX12_soonest_16 : decode cX12_soonest 16 = .ok (.aload_n 0, 1) := by decide +kernel
theorem dX12_soonest_17 : decode cX12_soonest 17 = .ok (.invokevirtual 276, 3) := by decide +kernel
theorem dX12_soonest_20 : decode cX12_soonest 20 = .ok (.aload_n 0, 1) := by decide +kernel
theorem dX12_soonest_21 : decode cX12_soonest 21 = .ok (.iload_n 1, 1) := by decide +kernel
theorem dX12_soonest_22 : decode cX12_soonest 22 = .ok (.bipush 20, 2) := by decide +kernel
theorem dX12_soonest_24 : decode cX12_soonest 24 = .ok (.invokevirtual 360, 3) := by decide +kernel
theorem dX12_soonest_27 : decode cX12_soonest 27 = .ok (.ireturn, 1) := by decide +kernel
theorem dX12_soonestOf_0 : decode cX12_soonestOf 0 = .ok (.aload_n 0, 1) := by decide +kernel
theorem dX12_soonestOf_1 : decode cX12_soonestOf 1 = .ok (.iload_n 1, 1) := by decide +kernel
theorem dX12_soonestOf_2 : decode cX12_soonestOf 2 = .ok (.iconst (-1), 1) := by decide +kernel
theorem dX12_soonestOf_3 : decode cX12_soonestOf 3 = .ok (.invokevirtual 351, 3) := by decide +kernel
theorem dX12_soonestOf_6 : decode cX12_soonestOf 6 = .ok (.aload_n 0, 1) := by decide +kernel
theorem dX12_soonestOf_7 : decode cX12_soonestOf 7 = .ok (.invokevirtual 357, 3) := by decide +kernel
theorem dX12_soonestOf_10 : decode cX12_soonestOf 10 = .ok (.istore_n 3, 1) := by decide +kernel
theorem dX12_soonestOf_11 : decode cX12_soonestOf 11 = .ok (.aload_n 0, 1) := by decide +kernel
theorem dX12_soonestOf_12 : decode cX12_soonestOf 12 = .ok (.iload_n 2, 1) := by decide +kernel
theorem dX12_soonestOf_13 : decode cX12_soonestOf 13 = .ok (.invokevirtual 354, 3) := by decide +kernel
theorem dX12_soonestOf_16 : decode cX12_soonestOf 16 = .ok (.iload_n 3, 1) := by decide +kernel
theorem dX12_soonestOf_17 : decode cX12_soonestOf 17 = .ok (.if_icmp .ge 5, 3) := by decide +kernel
theorem dX12_soonestOf_20 : decode cX12_soonestOf 20 = .ok (.iconst (-1), 1) := by decide +kernel
theorem dX12_soonestOf_21 : decode cX12_soonestOf 21 = .ok (.ireturn, 1) := by decide +kernel
theorem dX12_soonestOf_22 : decode cX12_soonestOf 22 = .ok (.iconst 0, 1) := by decide +kernel
theorem dX12_soonestOf_23 : decode cX12_soonestOf 23 = .ok (.istore 4, 2) := by decide +kernel
theorem dX12_soonestOf_25 : decode cX12_soonestOf 25 = .ok (.iload_n 2, 1) := by decide +kernel
theorem dX12_soonestOf_26 : decode cX12_soonestOf 26 = .ok (.istore 5, 2) := by decide +kernel
theorem dX12_soonestOf_28 : decode cX12_soonestOf 28 = .ok (.iload 4, 2) := by decide +kernel
theorem dX12_soonestOf_30 : decode cX12_soonestOf 30 = .ok (.iload 5, 2) := by decide +kernel
theorem dX12_soonestOf_32 : decode cX12_soonestOf 32 = .ok (.if_icmp .ge 38, 3) := by decide +kernel
theorem dX12_soonestOf_35 : decode cX12_soonestOf 35 = .ok (.iload 4, 2) := by decide +kernel
theorem dX12_soonestOf_37 : decode cX12_soonestOf 37 = .ok (.iload 5, 2) := by decide +kernel
theorem dX12_soonestOf_39 : decode cX12_soonestOf 39 = .ok (.iadd, 1) := by decide +kernel
theorem dX12_soonestOf_40 : decode cX12_soonestOf 40 = .ok (.iconst 2, 1) := by decide +kernel
theorem dX12_soonestOf_41 : decode cX12_soonestOf 41 = .ok (.idiv, 1) := by decide +kernel
theorem dX12_soonestOf_42 : decode cX12_soonestOf 42 = .ok (.istore 6, 2) := by decide +kernel
theorem dX12_soonestOf_44 : decode cX12_soonestOf 44 = .ok (.aload_n 0, 1) := by decide +kernel
theorem dX12_soonestOf_45 : decode cX12_soonestOf 45 = .ok (.iload 6, 2) := by decide +kernel
theorem dX12_soonestOf_47 : decode cX12_soonestOf 47 = .ok (.invokevirtual 354, 3) := by decide +kernel
theorem dX12_soonestOf_50 : decode cX12_soonestOf 50 = .ok (.iload_n 3, 1) := by decide +kernel
theorem dX12_soonestOf_51 : decode cX12_soonestOf 51 = .ok (.if_icmp .ge 12, 3) := by decide +kernel
theorem dX12_soonestOf_54 : decode cX12_soonestOf 54 = .ok (.iload 6, 2) := by decide +kernel
theorem dX12_soonestOf_56 : decode cX12_soonestOf 56 = .ok (.iconst 1, 1) := by decide +kernel
theorem dX12_soonestOf_57 : decode cX12_soonestOf 57 = .ok (.iadd, 1) := by decide +kernel
theorem dX12_soonestOf_58 : decode cX12_soonestOf 58 = .ok (.istore 4, 2) := by decide +kernel
theorem dX12_soonestOf_60 : decode cX12_soonestOf 60 = .ok (.goto 7, 3) := by decide +kernel
theorem dX12_soonestOf_63 : decode cX12_soonestOf 63 = .ok (.iload 6, 2) := by decide +kernel
theorem dX12_soonestOf_65 : decode cX12_soonestOf 65 = .ok (.istore 5, 2) := by decide +kernel
theorem dX12_soonestOf_67 : decode cX12_soonestOf 67 = .ok (.goto (-39), 3) := by decide +kernel
theorem dX12_soonestOf_70 : decode cX12_soonestOf 70 = .ok (.iload 4, 2) := by decide +kernel
theorem dX12_soonestOf_72 : decode cX12_soonestOf 72 = .ok (.ireturn, 1) := by decide +kernel
theorem dX12_stand_0 : decode cX12_stand 0 = .ok (.aload_n 0, 1) := by decide +kernel
theorem dX12_stand_1 : decode cX12_stand 1 = .ok (.iconst 0, 1) := by decide +kernel
theorem dX12_stand_2 : decode cX12_stand 2 = .ok (.putfield 74, 3) := by decide +kernel
theorem dX12_stand_5 : decode cX12_stand 5 = .ok (.aload_n 0, 1) := by decide +kernel
theorem dX12_stand_6 : decode cX12_stand 6 = .ok (.invokevirtual 237, 3) := by decide +kernel
theorem dX12_stand_9 : decode cX12_stand 9 = .ok (.ifCond .eq 15, 3) := by decide +kernel
theorem dX12_stand_12 : decode cX12_stand 12 = .ok (.iload_n 1, 1) := by decide +kernel
theorem dX12_stand_13 : decode cX12_stand 13 = .ok (.i2l, 1) := by decide +kernel
theorem dX12_stand_14 : decode cX12_stand 14 = .ok (.lconst 0, 1) := by decide +kernel
theorem dX12_stand_15 : decode cX12_stand 15 = .ok (.ldc2_w 374, 3) := by decide +kernel
theorem dX12_stand_18 : decode cX12_stand 18 = .ok (.invokestatic 79, 3) := by decide +kernel
theorem dX12_stand_21 : decode cX12_stand 21 = .ok (.ifCond .ne 6, 3) := by decide +kernel
theorem dX12_stand_24 : decode cX12_stand 24 = .ok (.bipush (-2), 2) := by decide +kernel
theorem dX12_stand_26 : decode cX12_stand 26 = .ok (.ireturn, 1) := by decide +kernel
theorem dX12_stand_27 : decode cX12_stand 27 = .ok (.aload_n 0, 1) := by decide +kernel
theorem dX12_stand_28 : decode cX12_stand 28 = .ok (.iload_n 1, 1) := by decide +kernel
theorem dX12_stand_29 : decode cX12_stand 29 = .ok (.invokevirtual 376, 3) := by decide +kernel
theorem dX12_stand_32 : decode cX12_stand 32 = .ok (.istore_n 2, 1) := by decide +kernel
theorem dX12_stand_33 : decode cX12_stand 33 = .ok (.iload_n 2, 1) := by decide +kernel
theorem dX12_stand_34 : decode cX12_stand 34 = .ok (.iconst (-1), 1) := by decide +kernel
theorem dX12_stand_35 : decode cX12_stand 35 = .ok (.if_icmp .ne 7, 3) := by decide +kernel
theorem dX12_stand_38 : decode cX12_stand 38 = .ok (.iconst (-1), 1) := by decide +kernel
theorem dX12_stand_39 : decode cX12_stand 39 = .ok (.goto 8, 3) := by decide +kernel
theorem dX12_stand_42 : decode cX12_stand 42 = .ok (.aload_n 0, 1) := by decide +kernel
theorem dX12_stand_43 : decode cX12_stand 43 = .ok (.iload_n 2, 1) := by decide +kernel
theorem dX12_stand_44 : decode cX12_stand 44 = .ok (.invokevirtual 371, 3) := by decide +kernel
theorem dX12_stand_47 : decode cX12_stand 47 = .ok (.ireturn, 1) := by decide +kernel
theorem dX12_standOf_0 : decode cX12_standOf 0 = .ok (.iconst (-1), 1) := by decide +kernel
theorem dX12_standOf_1 : decode cX12_standOf 1 = .ok (.istore_n 2, 1) := by decide +kernel
theorem dX12_standOf_2 : decode cX12_standOf 2 = .ok (.sipush 10000, 3) := by decide +kernel
theorem dX12_standOf_5 : decode cX12_standOf 5 = .ok (.istore_n 3, 1) := by decide +kernel
theorem dX12_standOf_6 : decode cX12_standOf 6 = .ok (.iconst 1, 1) := by decide +kernel
theorem dX12_standOf_7 : decode cX12_standOf 7 = .ok (.istore 4, 2) := by decide +kernel
theorem dX12_standOf_9 : decode cX12_standOf 9 = .ok (.iload 4, 2) := by decide +kernel
theorem dX12_standOf_11 : decode cX12_standOf 11 = .ok (.iconst 1, 1) := by decide +kernel
theorem dX12_standOf_12 : decode cX12_standOf 12 = .ok (.aload_n 0, 1) := by decide +kernel
theorem dX12_standOf_13 : decode cX12_standOf 13 = .ok (.getfield 34, 3) := by decide +kernel
theorem dX12_standOf_16 : decode cX12_standOf 16 = .ok (.iconst 3, 1) := by decide +kernel
theorem dX12_standOf_17 : decode cX12_standOf 17 = .ok (.iaload, 1) := by decide +kernel
theorem dX12_standOf_18 : decode cX12_standOf 18 = .ok (.ishl, 1) := by decide +kernel
theorem dX12_standOf_19 : decode cX12_standOf 19 = .ok (.if_icmp .ge 50, 3) := by decide +kernel
theorem dX12_standOf_22 : decode cX12_standOf 22 = .ok (.iload 4, 2) := by decide +kernel
theorem dX12_standOf_24 : decode cX12_standOf 24 = .ok (.invokestatic 288, 3) := by decide +kernel
theorem dX12_standOf_27 : decode cX12_standOf 27 = .ok (.iload_n 1, 1) := by decide +kernel
theorem dX12_standOf_28 : decode cX12_standOf 28 = .ok (.if_icmp .gt 35, 3) := by decide +kernel
theorem dX12_standOf_31 : decode cX12_standOf 31 = .ok (.aload_n 0, 1) := by decide +kernel
theorem dX12_standOf_32 : decode cX12_standOf 32 = .ok (.iload 4, 2) := by decide +kernel
theorem dX12_standOf_34 : decode cX12_standOf 34 = .ok (.invokevirtual 368, 3) := by decide +kernel
theorem dX12_standOf_37 : decode cX12_standOf 37 = .ok (.ifCond .eq 26, 3) := by decide +kernel
theorem dX12_standOf_40 : decode cX12_standOf 40 = .ok (.aload_n 0, 1) := by decide +kernel
theorem dX12_standOf_41 : decode cX12_standOf 41 = .ok (.iload 4, 2) := by decide +kernel
theorem dX12_standOf_43 : decode cX12_standOf 43 = .ok (.invokevirtual 371, 3) := by decide +kernel
theorem dX12_standOf_46 : decode cX12_standOf 46 = .ok (.iload_n 3, 1) := by decide +kernel
theorem dX12_standOf_47 : decode cX12_standOf 47 = .ok (.if_icmp .lt 6, 3) := by decide +kernel
theorem dX12_standOf_50 : decode cX12_standOf 50 = .ok (.goto 13, 3) := by decide +kernel
theorem dX12_standOf_53 : decode cX12_standOf 53 = .ok (.iload 4, 2) := by decide +kernel
theorem dX12_standOf_55 : decode cX12_standOf 55 = .ok (.istore_n 2, 1) := by decide +kernel
theorem dX12_standOf_56 : decode cX12_standOf 56 = .ok (.aload_n 0, 1) := by decide +kernel
theorem dX12_standOf_57 : decode cX12_standOf 57 = .ok (.iload 4, 2) := by decide +kernel
theorem dX12_standOf_59 : decode cX12_standOf 59 = .ok (.invokevirtual 371, 3) := by decide +kernel
theorem dX12_standOf_62 : decode cX12_standOf 62 = .ok (.istore_n 3, 1) := by decide +kernel
theorem dX12_standOf_63 : decode cX12_standOf 63 = .ok (.iinc 4 1, 3) := by decide +kernel
theorem dX12_standOf_66 : decode cX12_standOf 66 = .ok (.goto (-57), 3) := by decide +kernel
theorem dX12_standOf_69 : decode cX12_standOf 69 = .ok (.iload_n 2, 1) := by decide +kernel
theorem dX12_standOf_70 : decode cX12_standOf 70 = .ok (.ireturn, 1) := by decide +kernel
theorem dX12_stands_0 : decode cX12_stands 0 = .ok (.aload_n 0, 1) := by decide +kernel
theorem dX12_stands_1 : decode cX12_stands 1 = .ok (.iconst 0, 1) := by decide +kernel
theorem dX12_stands_2 : decode cX12_stands 2 = .ok (.putfield 74, 3) := by decide +kernel
theorem dX12_stands_5 : decode cX12_stands 5 = .ok (.aload_n 0, 1) := by decide +kernel
theorem dX12_stands_6 : decode cX12_stands 6 = .ok (.invokevirtual 237, 3) := by decide +kernel
theorem dX12_stands_9 : decode cX12_stands 9 = .ok (.ifCond .eq 23, 3) := by decide +kernel
theorem dX12_stands_12 : decode cX12_stands 12 = .ok (.iload_n 1, 1) := by decide +kernel
theorem dX12_stands_13 : decode cX12_stands 13 = .ok (.i2l, 1) := by decide +kernel
theorem dX12_stands_14 : decode cX12_stands 14 = .ok (.lconst 0, 1) := by decide +kernel
theorem dX12_stands_15 : decode cX12_stands 15 = .ok (.ldc2_w 374, 3) := by decide +kernel
theorem dX12_stands_18 : decode cX12_stands 18 = .ok (.invokestatic 79, 3) := by decide +kernel
theorem dX12_stands_21 : decode cX12_stands 21 = .ok (.ifCond .eq 11, 3) := by decide +kernel
theorem dX12_stands_24 : decode cX12_stands 24 = .ok (.aload_n 0, 1) := by decide +kernel
theorem dX12_stands_25 : decode cX12_stands 25 = .ok (.iload_n 1, 1) := by decide +kernel
theorem dX12_stands_26 : decode cX12_stands 26 = .ok (.invokevirtual 376, 3) := by decide +kernel
theorem dX12_stands_29 : decode cX12_stands 29 = .ok (.goto 5, 3) := by decide +kernel
theorem dX12_stands_32 : decode cX12_stands 32 = .ok (.bipush (-2), 2) := by decide +kernel
theorem dX12_stands_34 : decode cX12_stands 34 = .ok (.ireturn, 1) := by decide +kernel
theorem dX12_stays_0 : decode cX12_stays 0 = .ok (.aload_n 0, 1) := by decide +kernel
theorem dX12_stays_1 : decode cX12_stays 1 = .ok (.getfield 40, 3) := by decide +kernel
theorem dX12_stays_4 : decode cX12_stays 4 = .ok (.iconst 4, 1) := by decide +kernel
theorem dX12_stays_5 : decode cX12_stays 5 = .ok (.iload_n 1, 1) := by decide +kernel
theorem dX12_stays_6 : decode cX12_stays 6 = .ok (.imul, 1) := by decide +kernel
theorem dX12_stays_7 : decode cX12_stays 7 = .ok (.iconst 2, 1) := by decide +kernel
theorem dX12_stays_8 : decode cX12_stays 8 = .ok (.iadd, 1) := by decide +kernel
theorem dX12_stays_9 : decode cX12_stays 9 = .ok (.iaload, 1) := by decide +kernel
theorem dX12_stays_10 : decode cX12_stays 10 = .ok (.iconst (-1), 1) := by decide +kernel
theorem dX12_stays_11 : decode cX12_stays 11 = .ok (.if_icmp .eq 37, 3) := by decide +kernel
theorem dX12_stays_14 : decode cX12_stays 14 = .ok (.aload_n 0, 1) := by decide +kernel
theorem dX12_stays_15 : decode cX12_stays 15 = .ok (.getfield 40, 3) := by decide +kernel
theorem dX12_stays_18 : decode cX12_stays 18 = .ok (.iconst 4, 1) := by decide +kernel
theorem dX12_stays_19 : decode cX12_stays 19 = .ok (.iload_n 1, 1) := by decide +kernel
theorem dX12_stays_20 : decode cX12_stays 20 = .ok (.imul, 1) := by decide +kernel
theorem dX12_stays_21 : decode cX12_stays 21 = .ok (.iconst 2, 1) := by decide +kernel
theorem dX12_stays_22 : decode cX12_stays 22 = .ok (.iadd, 1) := by decide +kernel
theorem dX12_stays_23 : decode cX12_stays 23 = .ok (.iaload, 1) := by decide +kernel
theorem dX12_stays_24 : decode cX12_stays 24 = .ok (.iload_n 2, 1) := by decide +kernel
theorem dX12_stays_25 : decode cX12_stays 25 = .ok (.if_icmp .gt 23, 3) := by decide +kernel
theorem dX12_stays_28 : decode cX12_stays 28 = .ok (.iload_n 2, 1) := by decide +kernel
theorem dX12_stays_29 : decode cX12_stays 29 = .ok (.iconst 1, 1) := by decide +kernel
theorem dX12_stays_30 : decode cX12_stays 30 = .ok (.iadd, 1) := by decide +kernel
theorem dX12_stays_31 : decode cX12_stays 31 = .ok (.aload_n 0, 1) := by decide +kernel
theorem dX12_stays_32 : decode cX12_stays 32 = .ok (.getfield 40, 3) := by decide +kernel
theorem dX12_stays_35 : decode cX12_stays 35 = .ok (.iconst 4, 1) := by decide +kernel
theorem dX12_stays_36 : decode cX12_stays 36 = .ok (.iload_n 1, 1) := by decide +kernel
theorem dX12_stays_37 : decode cX12_stays 37 = .ok (.imul, 1) := by decide +kernel
theorem dX12_stays_38 : decode cX12_stays 38 = .ok (.iconst 3, 1) := by decide +kernel
theorem dX12_stays_39 : decode cX12_stays 39 = .ok (.iadd, 1) := by decide +kernel
theorem dX12_stays_40 : decode cX12_stays 40 = .ok (.iaload, 1) := by decide +kernel
theorem dX12_stays_41 : decode cX12_stays 41 = .ok (.if_icmp .gt 7, 3) := by decide +kernel
theorem dX12_stays_44 : decode cX12_stays 44 = .ok (.iconst 1, 1) := by decide +kernel
theorem dX12_stays_45 : decode cX12_stays 45 = .ok (.goto 4, 3) := by decide +kernel
theorem dX12_stays_48 : decode cX12_stays 48 = .ok (.iconst 0, 1) := by decide +kernel
theorem dX12_stays_49 : decode cX12_stays 49 = .ok (.ireturn, 1) := by decide +kernel
theorem dX12_stepsTo_0 : decode cX12_stepsTo 0 = .ok (.iload_n 1, 1) := by decide +kernel
theorem dX12_stepsTo_1 : decode cX12_stepsTo 1 = .ok (.aload_n 0, 1) := by decide +kernel
theorem dX12_stepsTo_2 : decode cX12_stepsTo 2 = .ok (.iload_n 3, 1) := by decide +kernel
theorem dX12_stepsTo_3 : decode cX12_stepsTo 3 = .ok (.iconst 0, 1) := by decide +kernel
theorem dX12_stepsTo_4 : decode cX12_stepsTo 4 = .ok (.invokevirtual 244, 3) := by decide +kernel
theorem dX12_stepsTo_7 : decode cX12_stepsTo 7 = .ok (.invokestatic 297, 3) := by decide +kernel
theorem dX12_stepsTo_10 : decode cX12_stepsTo 10 = .ok (.iload_n 2, 1) := by decide +kernel
theorem dX12_stepsTo_11 : decode cX12_stepsTo 11 = .ok (.aload_n 0, 1) := by decide +kernel
theorem dX12_stepsTo_12 : decode cX12_stepsTo 12 = .ok (.iload_n 3, 1) := by decide +kernel
theorem dX12_stepsTo_13 : decode cX12_stepsTo 13 = .ok (.iconst 1, 1) := by decide +kernel
theorem dX12_stepsTo_14 : decode cX12_stepsTo 14 = .ok (.invokevirtual 244, 3) := by decide +kernel
theorem dX12_stepsTo_17 : decode cX12_stepsTo 17 = .ok (.invokestatic 297, 3) := by decide +kernel
theorem dX12_stepsTo_20 : decode cX12_stepsTo 20 = .ok (.iadd, 1) := by decide +kernel
theorem dX12_stepsTo_21 : decode cX12_stepsTo 21 = .ok (.iconst 1, 1) := by decide +kernel
theorem dX12_stepsTo_22 : decode cX12_stepsTo 22 = .ok (.iadd, 1) := by decide +kernel
theorem dX12_stepsTo_23 : decode cX12_stepsTo 23 = .ok (.ireturn, 1) := by decide +kernel
theorem dX12_sure_0 : decode cX12_sure 0 = .ok (.aload_n 0, 1) := by decide +kernel
theorem dX12_sure_1 : decode cX12_sure 1 = .ok (.iconst 0, 1) := by decide +kernel
theorem dX12_sure_2 : decode cX12_sure 2 = .ok (.putfield 74, 3) := by decide +kernel
theorem dX12_sure_5 : decode cX12_sure 5 = .ok (.aload_n 0, 1) := by decide +kernel
theorem dX12_sure_6 : decode cX12_sure 6 = .ok (.iload_n 2, 1) := by decide +kernel
theorem dX12_sure_7 : decode cX12_sure 7 = .ok (.i2l, 1) := by decide +kernel
theorem dX12_sure_8 : decode cX12_sure 8 = .ok (.invokevirtual 250, 3) := by decide +kernel
theorem dX12_sure_11 : decode cX12_sure 11 = .ok (.ifCond .eq 11, 3) := by decide +kernel
theorem dX12_sure_14 : decode cX12_sure 14 = .ok (.aload_n 0, 1) := by decide +kernel
theorem dX12_sure_15 : decode cX12_sure 15 = .ok (.iload_n 1, 1) := by decide +kernel
theorem dX12_sure_16 : decode cX12_sure 16 = .ok (.invokevirtual 398, 3) := by decide +kernel
theorem dX12_sure_19 : decode cX12_sure 19 = .ok (.goto 5, 3) := by decide +kernel
theorem dX12_sure_22 : decode cX12_sure 22 = .ok (.bipush (-2), 2) := by decide +kernel
theorem dX12_sure_24 : decode cX12_sure 24 = .ok (.istore_n 3, 1) := by decide +kernel
theorem dX12_sure_25 : decode cX12_sure 25 = .ok (.iload_n 3, 1) := by decide +kernel
theorem dX12_sure_26 : decode cX12_sure 26 = .ok (.ifCond .eq 5, 3) := by decide +kernel
theorem dX12_sure_29 : decode cX12_sure 29 = .ok (.iload_n 3, 1) := by decide +kernel
theorem dX12_sure_30 : decode cX12_sure 30 = .ok (.ireturn, 1) := by decide +kernel
theorem dX12_sure_31 : decode cX12_sure 31 = .ok (.aload_n 0, 1) := by decide +kernel
theorem dX12_sure_32 : decode cX12_sure 32 = .ok (.invokevirtual 276, 3) := by decide +kernel
theorem dX12_sure_35 : decode cX12_sure 35 = .ok (.iconst (-1), 1) := by decide +kernel
theorem dX12_sure_36 : decode cX12_sure 36 = .ok (.istore 4, 2) := by decide +kernel
theorem dX12_sure_38 : decode cX12_sure 38 = .ok (.iconst 0, 1) := by decide +kernel
theorem dX12_sure_39 : decode cX12_sure 39 = .ok (.istore 5, 2) := by decide +kernel
theorem dX12_sure_41 : decode cX12_sure 41 = .ok (.iload 5, 2) := by decide +kernel
theorem dX12_sure_43 : decode cX12_sure 43 = .ok (.bipush 60, 2) := by decide +kernel
theorem dX12_sure_45 : decode cX12_sure 45 = .ok (.if_icmp .ge 51, 3) := by decide +kernel
theorem dX12_sure_48 : decode cX12_sure 48 = .ok (.aload_n 0, 1) := by decide +kernel
theorem dX12_sure_49 : decode cX12_sure 49 = .ok (.iload_n 1, 1) := by decide +kernel
theorem dX12_sure_50 : decode cX12_sure 50 = .ok (.iload 5, 2) := by decide +kernel
theorem dX12_sure_52 : decode cX12_sure 52 = .ok (.invokevirtual 401, 3) := by decide +kernel
theorem dX12_sure_55 : decode cX12_sure 55 = .ok (.ifCond .ne 6, 3) := by decide +kernel
theorem dX12_sure_58 : decode cX12_sure 58 = .ok (.goto 32, 3) := by decide +kernel
theorem dX12_sure_61 : decode cX12_sure 61 = .ok (.iload 4, 2) := by decide +kernel
theorem dX12_sure_63 : decode cX12_sure 63 = .ok (.iconst (-1), 1) := by decide +kernel
theorem dX12_sure_64 : decode cX12_sure 64 = .ok (.if_icmp .eq 17, 3) := by decide +kernel
theorem dX12_sure_67 : decode cX12_sure 67 = .ok (.iload 4, 2) := by decide +kernel
theorem dX12_sure_69 : decode cX12_sure 69 = .ok (.aload_n 0, 1) := by decide +kernel
theorem dX12_sure_70 : decode cX12_sure 70 = .ok (.iload_n 2, 1) := by decide +kernel
theorem dX12_sure_71 : decode cX12_sure 71 = .ok (.iload 5, 2) := by decide +kernel
theorem dX12_sure_73 : decode cX12_sure 73 = .ok (.invokevirtual 267, 3) := by decide +kernel
theorem dX12_sure_76 : decode cX12_sure 76 = .ok (.if_icmp .eq 5, 3) := by decide +kernel
theorem dX12_sure_79 : decode cX12_sure 79 = .ok (.iconst (-1), 1) := by decide +kernel
theorem dX12_sure_80 : decode cX12_sure 80 = .ok (.ireturn, 1) := by decide +kernel
theorem dX12_sure_81 : decode cX12_sure 81 = .ok (.aload_n 0, 1) := by decide +kernel
theorem dX12_sure_82 : decode cX12_sure 82 = .ok (.iload_n 2, 1) := by decide +kernel
theorem dX12_sure_83 : decode cX12_sure 83 = .ok (.iload 5, 2) := by decide +kernel
theorem dX12_sure_85 : decode cX12_sure 85 = .ok (.invokevirtual 267, 3) := by decide +kernel
theorem dX12_sure_88 : decode cX12_sure 88 = .ok (.istore 4, 2) := by decide +kernel
theorem dX12_sure_90 : decode cX12_sure 90 = .ok (.iinc 5 1, 3) := by decide +kernel
theorem dX12_sure_93 : decode cX12_sure 93 = .ok (.goto (-52), 3) := by decide +kernel
theorem dX12_sure_96 : decode cX12_sure 96 = .ok (.iload 4, 2) := by decide +kernel
theorem dX12_sure_98 : decode cX12_sure 98 = .ok (.ireturn, 1) := by decide +kernel
theorem dX12_takes_0 : decode cX12_takes 0 = .ok (.aload_n 0, 1) := by decide +kernel
theorem dX12_takes_1 : decode cX12_takes 1 = .ok (.lload_n 1, 1) := by decide +kernel
theorem dX12_takes_2 : decode cX12_takes 2 = .ok (.invokevirtual 132, 3) := by decide +kernel
theorem dX12_takes_5 : decode cX12_takes 5 = .ok (.ifCond .ne 5, 3) := by decide +kernel
theorem dX12_takes_8 : decode cX12_takes 8 = .ok (.iconst 0, 1) := by decide +kernel
theorem dX12_takes_9 : decode cX12_takes 9 = .ok (.ireturn, 1) := by decide +kernel
theorem dX12_takes_10 : decode cX12_takes 10 = .ok (.aload_n 0, 1) := by decide +kernel
theorem dX12_takes_11 : decode cX12_takes 11 = .ok (.invokevirtual 136, 3) := by decide +kernel
theorem dX12_takes_14 : decode cX12_takes 14 = .ok (.iconst 1, 1) := by decide +kernel
theorem dX12_takes_15 : decode cX12_takes 15 = .ok (.ireturn, 1) := by decide +kernel
theorem dX12_undo_0 : decode cX12_undo 0 = .ok (.aload_n 0, 1) := by decide +kernel
theorem dX12_undo_1 : decode cX12_undo 1 = .ok (.iconst 0, 1) := by decide +kernel
theorem dX12_undo_2 : decode cX12_undo 2 = .ok (.putfield 74, 3) := by decide +kernel
theorem dX12_undo_5 : decode cX12_undo 5 = .ok (.aload_n 0, 1) := by decide +kernel
theorem dX12_undo_6 : decode cX12_undo 6 = .ok (.invokevirtual 237, 3) := by decide +kernel
theorem dX12_undo_9 : decode cX12_undo 9 = .ok (.ifCond .ne 6, 3) := by decide +kernel
theorem dX12_undo_12 : decode cX12_undo 12 = .ok (.bipush (-2), 2) := by decide +kernel
theorem dX12_undo_14 : decode cX12_undo 14 = .ok (.ireturn, 1) := by decide +kernel
theorem dX12_undo_15 : decode cX12_undo 15 = .ok (.aload_n 0, 1) := by decide +kernel
theorem dX12_undo_16 : decode cX12_undo 16 = .ok (.getfield 34, 3) := by decide +kernel
theorem dX12_undo_19 : decode cX12_undo 19 = .ok (.iconst 5, 1) := by decide +kernel
theorem dX12_undo_20 : decode cX12_undo 20 = .ok (.iaload, 1) := by decide +kernel
theorem dX12_undo_21 : decode cX12_undo 21 = .ok (.ifCond .ne 6, 3) := by decide +kernel
theorem dX12_undo_24 : decode cX12_undo 24 = .ok (.bipush (-5), 2) := by decide +kernel
theorem dX12_undo_26 : decode cX12_undo 26 = .ok (.ireturn, 1) := by decide +kernel
theorem dX12_undo_27 : decode cX12_undo 27 = .ok (.aload_n 0, 1) := by decide +kernel
theorem dX12_undo_28 : decode cX12_undo 28 = .ok (.getfield 34, 3) := by decide +kernel
theorem dX12_undo_31 : decode cX12_undo 31 = .ok (.iconst 5, 1) := by decide +kernel
theorem dX12_undo_32 : decode cX12_undo 32 = .ok (.dup2, 1) := by decide +kernel
theorem dX12_undo_33 : decode cX12_undo 33 = .ok (.iaload, 1) := by decide +kernel
theorem dX12_undo_34 : decode cX12_undo 34 = .ok (.iconst 1, 1) := by decide +kernel
theorem dX12_undo_35 : decode cX12_undo 35 = .ok (.isub, 1) := by decide +kernel
theorem dX12_undo_36 : decode cX12_undo 36 = .ok (.iastore, 1) := by decide +kernel
theorem dX12_undo_37 : decode cX12_undo 37 = .ok (.iconst 4, 1) := by decide +kernel
theorem dX12_undo_38 : decode cX12_undo 38 = .ok (.aload_n 0, 1) := by decide +kernel
theorem dX12_undo_39 : decode cX12_undo 39 = .ok (.getfield 34, 3) := by decide +kernel
theorem dX12_undo_42 : decode cX12_undo 42 = .ok (.iconst 5, 1) := by decide +kernel
theorem dX12_undo_43 : decode cX12_undo 43 = .ok (.iaload, 1) := by decide +kernel
theorem dX12_undo_44 : decode cX12_undo 44 = .ok (.imul, 1) := by decide +kernel
theorem dX12_undo_45 : decode cX12_undo 45 = .ok (.istore_n 1, 1) := by decide +kernel
theorem dX12_undo_46 : decode cX12_undo 46 = .ok (.aload_n 0, 1) := by decide +kernel
theorem dX12_undo_47 : decode cX12_undo 47 = .ok (.getfield 47, 3) := by decide +kernel
theorem dX12_undo_50 : decode cX12_undo 50 = .ok (.iload_n 1, 1) := by decide +kernel
theorem dX12_undo_51 : decode cX12_undo 51 = .ok (.iconst 1, 1) := by decide +kernel
theorem dX12_undo_52 : decode cX12_undo 52 = .ok (.iadd, 1) := by decide +kernel
theorem dX12_undo_53 : decode cX12_undo 53 = .ok (.iaload, 1) := by decide +kernel
theorem dX12_undo_54 : decode cX12_undo 54 = .ok (.istore_n 2, 1) := by decide +kernel
theorem dX12_undo_55 : decode cX12_undo 55 = .ok (.aload_n 0, 1) := by decide +kernel
theorem dX12_undo_56 : decode cX12_undo 56 = .ok (.getfield 47, 3) := by decide +kernel
theorem dX12_undo_59 : decode cX12_undo 59 = .ok (.iload_n 1, 1) := by decide +kernel
theorem dX12_undo_60 : decode cX12_undo 60 = .ok (.iaload, 1) := by decide +kernel
theorem dX12_undo_61 : decode cX12_undo 61 = .ok (.ifCond .ne 24, 3) := by decide +kernel
theorem dX12_undo_64 : decode cX12_undo 64 = .ok (.aload_n 0, 1) := by decide +kernel
theorem dX12_undo_65 : decode cX12_undo 65 = .ok (.getfield 37, 3) := by decide +kernel
theorem dX12_undo_68 : decode cX12_undo 68 = .ok (.iconst 4, 1) := by decide +kernel
theorem dX12_undo_69 : decode cX12_undo 69 = .ok (.iload_n 2, 1) := by decide +kernel
theorem dX12_undo_70 : decode cX12_undo 70 = .ok (.imul, 1) := by decide +kernel
theorem dX12_undo_71 : decode cX12_undo 71 = .ok (.iconst 3, 1) := by decide +kernel
theorem dX12_undo_72 : decode cX12_undo 72 = .ok (.iadd, 1) := by decide +kernel
theorem dX12_undo_73 : decode cX12_undo 73 = .ok (.aload_n 0, 1) := by decide +kernel
theorem dX12_undo_74 : decode cX12_undo 74 = .ok (.getfield 47, 3) := by decide +kernel
theorem dX12_undo_77 : decode cX12_undo 77 = .ok (.iload_n 1, 1) := by decide +kernel
theorem dX12_undo_78 : decode cX12_undo 78 = .ok (.iconst 2, 1) := by decide +kernel
theorem dX12_undo_79 : decode cX12_undo 79 = .ok (.iadd, 1) := by decide +kernel
theorem dX12_undo_80 : decode cX12_undo 80 = .ok (.iaload, 1) := by decide +kernel
theorem dX12_undo_81 : decode cX12_undo 81 = .ok (.iastore, 1) := by decide +kernel
theorem dX12_undo_82 : decode cX12_undo 82 = .ok (.goto 75, 3) := by decide +kernel
theorem dX12_undo_85 : decode cX12_undo 85 = .ok (.aload_n 0, 1) := by decide +kernel
theorem dX12_undo_86 : decode cX12_undo 86 = .ok (.getfield 47, 3) := by decide +kernel
theorem dX12_undo_89 : decode cX12_undo 89 = .ok (.iload_n 1, 1) := by decide +kernel
theorem dX12_undo_90 : decode cX12_undo 90 = .ok (.iaload, 1) := by decide +kernel
theorem dX12_undo_91 : decode cX12_undo 91 = .ok (.iconst 1, 1) := by decide +kernel
theorem dX12_undo_92 : decode cX12_undo 92 = .ok (.if_icmp .ne 42, 3) := by decide +kernel
theorem dX12_undo_95 : decode cX12_undo 95 = .ok (.aload_n 0, 1) := by decide +kernel
theorem dX12_undo_96 : decode cX12_undo 96 = .ok (.getfield 40, 3) := by decide +kernel
theorem dX12_undo_99 : decode cX12_undo 99 = .ok (.iconst 4, 1) := by decide +kernel
theorem dX12_undo_100 : decode cX12_undo 100 = .ok (.iload_n 2, 1) := by decide +kernel
theorem dX12_undo_101 : decode cX12_undo 101 = .ok (.imul, 1) := by decide +kernel
theorem dX12_undo_102 : decode cX12_undo 102 = .ok (.iconst 2, 1) := by decide +kernel
theorem dX12_undo_103 : decode cX12_undo 103 = .ok (.iadd, 1) := by decide +kernel
theorem dX12_undo_104 : decode cX12_undo 104 = .ok (.aload_n 0, 1) := by decide +kernel
theorem dX12_undo_105 : decode cX12_undo 105 = .ok (.getfield 47, 3) := by decide +kernel
theorem dX12_undo_108 : decode cX12_undo 108 = .ok (.iload_n 1, 1) := by decide +kernel
theorem dX12_undo_109 : decode cX12_undo 109 = .ok (.iconst 2, 1) := by decide +kernel
theorem dX12_undo_110 : decode cX12_undo 110 = .ok (.iadd, 1) := by decide +kernel
theorem dX12_undo_111 : decode cX12_undo 111 = .ok (.iaload, 1) := by decide +kernel
theorem dX12_undo_112 : decode cX12_undo 112 = .ok (.iastore, 1) := by decide +kernel
theorem dX12_undo_113 : decode cX12_undo 113 = .ok (.aload_n 0, 1) := by decide +kernel
theorem dX12_undo_114 : decode cX12_undo 114 = .ok (.getfield 40, 3) := by decide +kernel
theorem dX12_undo_117 : decode cX12_undo 117 = .ok (.iconst 4, 1) := by decide +kernel
theorem dX12_undo_118 : decode cX12_undo 118 = .ok (.iload_n 2, 1) := by decide +kernel
theorem dX12_undo_119 : decode cX12_undo 119 = .ok (.imul, 1) := by decide +kernel
theorem dX12_undo_120 : decode cX12_undo 120 = .ok (.iconst 3, 1) := by decide +kernel
theorem dX12_undo_121 : decode cX12_undo 121 = .ok (.iadd, 1) := by decide +kernel
theorem dX12_undo_122 : decode cX12_undo 122 = .ok (.aload_n 0, 1) := by decide +kernel
theorem dX12_undo_123 : decode cX12_undo 123 = .ok (.getfield 47, 3) := by decide +kernel
theorem dX12_undo_126 : decode cX12_undo 126 = .ok (.iload_n 1, 1) := by decide +kernel
theorem dX12_undo_127 : decode cX12_undo 127 = .ok (.iconst 3, 1) := by decide +kernel
theorem dX12_undo_128 : decode cX12_undo 128 = .ok (.iadd, 1) := by decide +kernel
theorem dX12_undo_129 : decode cX12_undo 129 = .ok (.iaload, 1) := by decide +kernel
theorem dX12_undo_130 : decode cX12_undo 130 = .ok (.iastore, 1) := by decide +kernel
theorem dX12_undo_131 : decode cX12_undo 131 = .ok (.goto 26, 3) := by decide +kernel
theorem dX12_undo_134 : decode cX12_undo 134 = .ok (.aload_n 0, 1) := by decide +kernel
theorem dX12_undo_135 : decode cX12_undo 135 = .ok (.getfield 43, 3) := by decide +kernel
theorem dX12_undo_138 : decode cX12_undo 138 = .ok (.iload_n 2, 1) := by decide +kernel
theorem dX12_undo_139 : decode cX12_undo 139 = .ok (.aload_n 0, 1) := by decide +kernel
theorem dX12_undo_140 : decode cX12_undo 140 = .ok (.getfield 47, 3) := by decide +kernel
theorem dX12_undo_143 : decode cX12_undo 143 = .ok (.iload_n 1, 1) := by decide +kernel
theorem dX12_undo_144 : decode cX12_undo 144 = .ok (.iconst 2, 1) := by decide +kernel
theorem dX12_undo_145 : decode cX12_undo 145 = .ok (.iadd, 1) := by decide +kernel
theorem dX12_undo_146 : decode cX12_undo 146 = .ok (.iaload, 1) := by decide +kernel
theorem dX12_undo_147 : decode cX12_undo 147 = .ok (.iconst 1, 1) := by decide +kernel
theorem dX12_undo_148 : decode cX12_undo 148 = .ok (.if_icmp .ne 7, 3) := by decide +kernel
theorem dX12_undo_151 : decode cX12_undo 151 = .ok (.iconst 1, 1) := by decide +kernel
theorem dX12_undo_152 : decode cX12_undo 152 = .ok (.goto 4, 3) := by decide +kernel
theorem dX12_undo_155 : decode cX12_undo 155 = .ok (.iconst 0, 1) := by decide +kernel
theorem dX12_undo_156 : decode cX12_undo 156 = .ok (.bastore, 1) := by decide +kernel
theorem dX12_undo_157 : decode cX12_undo 157 = .ok (.aload_n 0, 1) := by decide +kernel
theorem dX12_undo_158 : decode cX12_undo 158 = .ok (.getfield 34, 3) := by decide +kernel
theorem dX12_undo_161 : decode cX12_undo 161 = .ok (.iconst 5, 1) := by decide +kernel
theorem dX12_undo_162 : decode cX12_undo 162 = .ok (.iaload, 1) := by decide +kernel
theorem dX12_undo_163 : decode cX12_undo 163 = .ok (.ireturn, 1) := by decide +kernel
theorem dX12_visits_0 : decode cX12_visits 0 = .ok (.aload_n 0, 1) := by decide +kernel
theorem dX12_visits_1 : decode cX12_visits 1 = .ok (.getfield 62, 3) := by decide +kernel
theorem dX12_visits_4 : decode cX12_visits 4 = .ok (.iload_n 1, 1) := by decide +kernel
theorem dX12_visits_5 : decode cX12_visits 5 = .ok (.iaload, 1) := by decide +kernel
theorem dX12_visits_6 : decode cX12_visits 6 = .ok (.iconst (-1), 1) := by decide +kernel
theorem dX12_visits_7 : decode cX12_visits 7 = .ok (.if_icmp .eq 4, 3) := by decide +kernel
theorem dX12_visits_10 : decode cX12_visits 10 = .ok (.return_, 1) := by decide +kernel
theorem dX12_visits_11 : decode cX12_visits 11 = .ok (.aload_n 0, 1) := by decide +kernel
theorem dX12_visits_12 : decode cX12_visits 12 = .ok (.getfield 62, 3) := by decide +kernel
theorem dX12_visits_15 : decode cX12_visits 15 = .ok (.iload_n 1, 1) := by decide +kernel
theorem dX12_visits_16 : decode cX12_visits 16 = .ok (.iload_n 2, 1) := by decide +kernel
theorem dX12_visits_17 : decode cX12_visits 17 = .ok (.iastore, 1) := by decide +kernel
theorem dX12_visits_18 : decode cX12_visits 18 = .ok (.aload_n 0, 1) := by decide +kernel
theorem dX12_visits_19 : decode cX12_visits 19 = .ok (.getfield 65, 3) := by decide +kernel
theorem dX12_visits_22 : decode cX12_visits 22 = .ok (.iload_n 1, 1) := by decide +kernel
theorem dX12_visits_23 : decode cX12_visits 23 = .ok (.iload_n 3, 1) := by decide +kernel
theorem dX12_visits_24 : decode cX12_visits 24 = .ok (.iastore, 1) := by decide +kernel
theorem dX12_visits_25 : decode cX12_visits 25 = .ok (.aload_n 0, 1) := by decide +kernel
theorem dX12_visits_26 : decode cX12_visits 26 = .ok (.getfield 68, 3) := by decide +kernel
theorem dX12_visits_29 : decode cX12_visits 29 = .ok (.aload_n 0, 1) := by decide +kernel
theorem dX12_visits_30 : decode cX12_visits 30 = .ok (.getfield 323, 3) := by decide +kernel
theorem dX12_visits_33 : decode cX12_visits 33 = .ok (.iload_n 1, 1) := by decide +kernel
theorem dX12_visits_34 : decode cX12_visits 34 = .ok (.iastore, 1) := by decide +kernel
theorem dX12_visits_35 : decode cX12_visits 35 = .ok (.aload_n 0, 1) := by decide +kernel
theorem dX12_visits_36 : decode cX12_visits 36 = .ok (.dup, 1) := by decide +kernel
theorem dX12_visits_37 : decode cX12_visits 37 = .ok (.getfield 323, 3) := by decide +kernel
theorem dX12_visits_40 : decode cX12_visits 40 = .ok (.iconst 1, 1) := by decide +kernel
theorem dX12_visits_41 : decode cX12_visits 41 = .ok (.iadd, 1) := by decide +kernel
theorem dX12_visits_42 : decode cX12_visits 42 = .ok (.putfield 323, 3) := by decide +kernel
theorem dX12_visits_45 : decode cX12_visits 45 = .ok (.return_, 1) := by decide +kernel
theorem dX12_who_0 : decode cX12_who 0 = .ok (.aload_n 0, 1) := by decide +kernel
theorem dX12_who_1 : decode cX12_who 1 = .ok (.iconst 0, 1) := by decide +kernel
theorem dX12_who_2 : decode cX12_who 2 = .ok (.putfield 74, 3) := by decide +kernel
theorem dX12_who_5 : decode cX12_who 5 = .ok (.aload_n 0, 1) := by decide +kernel
theorem dX12_who_6 : decode cX12_who 6 = .ok (.iload_n 1, 1) := by decide +kernel
theorem dX12_who_7 : decode cX12_who 7 = .ok (.i2l, 1) := by decide +kernel
theorem dX12_who_8 : decode cX12_who 8 = .ok (.invokevirtual 247, 3) := by decide +kernel
theorem dX12_who_11 : decode cX12_who 11 = .ok (.ifCond .eq 11, 3) := by decide +kernel
theorem dX12_who_14 : decode cX12_who 14 = .ok (.aload_n 0, 1) := by decide +kernel
theorem dX12_who_15 : decode cX12_who 15 = .ok (.iload_n 2, 1) := by decide +kernel
theorem dX12_who_16 : decode cX12_who 16 = .ok (.invokevirtual 273, 3) := by decide +kernel
theorem dX12_who_19 : decode cX12_who 19 = .ok (.ifCond .ne 6, 3) := by decide +kernel
theorem dX12_who_22 : decode cX12_who 22 = .ok (.bipush (-2), 2) := by decide +kernel
theorem dX12_who_24 : decode cX12_who 24 = .ok (.ireturn, 1) := by decide +kernel
theorem dX12_who_25 : decode cX12_who 25 = .ok (.aload_n 0, 1) := by decide +kernel
theorem dX12_who_26 : decode cX12_who 26 = .ok (.invokevirtual 276, 3) := by decide +kernel
theorem dX12_who_29 : decode cX12_who 29 = .ok (.aload_n 0, 1) := by decide +kernel
theorem dX12_who_30 : decode cX12_who 30 = .ok (.iload_n 1, 1) := by decide +kernel
theorem dX12_who_31 : decode cX12_who 31 = .ok (.iload_n 2, 1) := by decide +kernel
theorem dX12_who_32 : decode cX12_who 32 = .ok (.invokevirtual 279, 3) := by decide +kernel
theorem dX12_who_35 : decode cX12_who 35 = .ok (.ireturn, 1) := by decide +kernel
theorem dX12_whoOf_0 : decode cX12_whoOf 0 = .ok (.iconst 0, 1) := by decide +kernel
theorem dX12_whoOf_1 : decode cX12_whoOf 1 = .ok (.istore_n 3, 1) := by decide +kernel
theorem dX12_whoOf_2 : decode cX12_whoOf 2 = .ok (.iconst 0, 1) := by decide +kernel
theorem dX12_whoOf_3 : decode cX12_whoOf 3 = .ok (.istore 4, 2) := by decide +kernel
theorem dX12_whoOf_5 : decode cX12_whoOf 5 = .ok (.iload 4, 2) := by decide +kernel
theorem dX12_whoOf_7 : decode cX12_whoOf 7 = .ok (.aload_n 0, 1) := by decide +kernel
theorem dX12_whoOf_8 : decode cX12_whoOf 8 = .ok (.getfield 34, 3) := by decide +kernel
theorem dX12_whoOf_11 : decode cX12_whoOf 11 = .ok (.iconst 4, 1) := by decide +kernel
theorem dX12_whoOf_12 : decode cX12_whoOf 12 = .ok (.iaload, 1) := by decide +kernel
theorem dX12_whoOf_13 : decode cX12_whoOf 13 = .ok (.if_icmp .ge 31, 3) := by decide +kernel
theorem dX12_whoOf_16 : decode cX12_whoOf 16 = .ok (.iload_n 3, 1) := by decide +kernel
theorem dX12_whoOf_17 : decode cX12_whoOf 17 = .ok (.aload_n 0, 1) := by decide +kernel
theorem dX12_whoOf_18 : decode cX12_whoOf 18 = .ok (.iload 4, 2) := by decide +kernel
theorem dX12_whoOf_20 : decode cX12_whoOf 20 = .ok (.iload_n 2, 1) := by decide +kernel
theorem dX12_whoOf_21 : decode cX12_whoOf 21 = .ok (.invokevirtual 267, 3) := by decide +kernel
theorem dX12_whoOf_24 : decode cX12_whoOf 24 = .ok (.iload_n 1, 1) := by decide +kernel
theorem dX12_whoOf_25 : decode cX12_whoOf 25 = .ok (.if_icmp .ne 10, 3) := by decide +kernel
theorem dX12_whoOf_28 : decode cX12_whoOf 28 = .ok (.iconst 1, 1) := by decide +kernel
theorem dX12_whoOf_29 : decode cX12_whoOf 29 = .ok (.iload 4, 2) := by decide +kernel
theorem dX12_whoOf_31 : decode cX12_whoOf 31 = .ok (.ishl, 1) := by decide +kernel
theorem dX12_whoOf_32 : decode cX12_whoOf 32 = .ok (.goto 4, 3) := by decide +kernel
theorem dX12_whoOf_35 : decode cX12_whoOf 35 = .ok (.iconst 0, 1) := by decide +kernel
theorem dX12_whoOf_36 : decode cX12_whoOf 36 = .ok (.ior, 1) := by decide +kernel
theorem dX12_whoOf_37 : decode cX12_whoOf 37 = .ok (.istore_n 3, 1) := by decide +kernel
theorem dX12_whoOf_38 : decode cX12_whoOf 38 = .ok (.iinc 4 1, 3) := by decide +kernel
theorem dX12_whoOf_41 : decode cX12_whoOf 41 = .ok (.goto (-36), 3) := by decide +kernel
theorem dX12_whoOf_44 : decode cX12_whoOf 44 = .ok (.iload_n 3, 1) := by decide +kernel
theorem dX12_whoOf_45 : decode cX12_whoOf 45 = .ok (.ireturn, 1) := by decide +kernel
theorem dX12_whyNotFell_0 : decode cX12_whyNotFell 0 = .ok (.iload_n 1, 1) := by decide +kernel
theorem dX12_whyNotFell_1 : decode cX12_whyNotFell 1 = .ok (.invokestatic 83, 3) := by decide +kernel
theorem dX12_whyNotFell_4 : decode cX12_whyNotFell 4 = .ok (.ifCond .eq 10, 3) := by decide +kernel
theorem dX12_whyNotFell_7 : decode cX12_whyNotFell 7 = .ok (.aload_n 0, 1) := by decide +kernel
theorem dX12_whyNotFell_8 : decode cX12_whyNotFell 8 = .ok (.invokevirtual 237, 3) := by decide +kernel
theorem dX12_whyNotFell_11 : decode cX12_whyNotFell 11 = .ok (.ifCond .ne 6, 3) := by decide +kernel
theorem dX12_whyNotFell_14 : decode cX12_whyNotFell 14 = .ok (.bipush (-2), 2) := by decide +kernel
theorem dX12_whyNotFell_16 : decode cX12_whyNotFell 16 = .ok (.ireturn, 1) := by decide +kernel
theorem dX12_whyNotFell_17 : decode cX12_whyNotFell 17 = .ok (.aload_n 0, 1) := by decide +kernel
theorem dX12_whyNotFell_18 : decode cX12_whyNotFell 18 = .ok (.getfield 7, 3) := by decide +kernel
theorem dX12_whyNotFell_21 : decode cX12_whyNotFell 21 = .ok (.iload_n 1, 1) := by decide +kernel
theorem dX12_whyNotFell_22 : decode cX12_whyNotFell 22 = .ok (.iaload, 1) := by decide +kernel
theorem dX12_whyNotFell_23 : decode cX12_whyNotFell 23 = .ok (.iconst (-1), 1) := by decide +kernel
theorem dX12_whyNotFell_24 : decode cX12_whyNotFell 24 = .ok (.if_icmp .ne 6, 3) := by decide +kernel
theorem dX12_whyNotFell_27 : decode cX12_whyNotFell 27 = .ok (.bipush (-6), 2) := by decide +kernel
theorem dX12_whyNotFell_29 : decode cX12_whyNotFell 29 = .ok (.ireturn, 1) := by decide +kernel
theorem dX12_whyNotFell_30 : decode cX12_whyNotFell 30 = .ok (.aload_n 0, 1) := by decide +kernel
theorem dX12_whyNotFell_31 : decode cX12_whyNotFell 31 = .ok (.getfield 13, 3) := by decide +kernel
theorem dX12_whyNotFell_34 : decode cX12_whyNotFell 34 = .ok (.iload_n 1, 1) := by decide +kernel
theorem dX12_whyNotFell_35 : decode cX12_whyNotFell 35 = .ok (.iaload, 1) := by decide +kernel
theorem dX12_whyNotFell_36 : decode cX12_whyNotFell 36 = .ok (.iconst 3, 1) := by decide +kernel
theorem dX12_whyNotFell_37 : decode cX12_whyNotFell 37 = .ok (.irem, 1) := by decide +kernel
theorem dX12_whyNotFell_38 : decode cX12_whyNotFell 38 = .ok (.ifCond .eq 6, 3) := by decide +kernel
theorem dX12_whyNotFell_41 : decode cX12_whyNotFell 41 = .ok (.bipush (-2), 2) := by decide +kernel
theorem dX12_whyNotFell_43 : decode cX12_whyNotFell 43 = .ok (.ireturn, 1) := by decide +kernel
theorem dX12_whyNotFell_44 : decode cX12_whyNotFell 44 = .ok (.iconst 0, 1) := by decide +kernel
theorem dX12_whyNotFell_45 : decode cX12_whyNotFell 45 = .ok (.istore_n 2, 1) := by decide +kernel
theorem dX12_whyNotFell_46 : decode cX12_whyNotFell 46 = .ok (.iload_n 2, 1) := by decide +kernel
theorem dX12_whyNotFell_47 : decode cX12_whyNotFell 47 = .ok (.aload_n 0, 1) := by decide +kernel
theorem dX12_whyNotFell_48 : decode cX12_whyNotFell 48 = .ok (.getfield 13, 3) := by decide +kernel
theorem dX12_whyNotFell_51 : decode cX12_whyNotFell 51 = .ok (.iload_n 1, 1) := by decide +kernel
theorem dX12_whyNotFell_52 : decode cX12_whyNotFell 52 = .ok (.iaload, 1) := by decide +kernel
theorem dX12_whyNotFell_53 : decode cX12_whyNotFell 53 = .ok (.if_icmp .ge 47, 3) := by decide +kernel
theorem dX12_whyNotFell_56 : decode cX12_whyNotFell 56 = .ok (.aload_n 0, 1) := by decide +kernel
theorem dX12_whyNotFell_57 : decode cX12_whyNotFell 57 = .ok (.aload_n 0, 1) := by decide +kernel
theorem dX12_whyNotFell_58 : decode cX12_whyNotFell 58 = .ok (.iload_n 1, 1) := by decide +kernel
theorem dX12_whyNotFell_59 : decode cX12_whyNotFell 59 = .ok (.iload_n 2, 1) := by decide +kernel
theorem dX12_whyNotFell_60 : decode cX12_whyNotFell 60 = .ok (.invokevirtual 382, 3) := by decide +kernel
theorem dX12_whyNotFell_63 : decode cX12_whyNotFell 63 = .ok (.aload_n 0, 1) := by decide +kernel
theorem dX12_whyNotFell_64 : decode cX12_whyNotFell 64 = .ok (.iload_n 1, 1) := by decide +kernel
theorem dX12_whyNotFell_65 : decode cX12_whyNotFell 65 = .ok (.iload_n 2, 1) := by decide +kernel
theorem dX12_whyNotFell_66 : decode cX12_whyNotFell 66 = .ok (.iconst 1, 1) := by decide +kernel
theorem dX12_whyNotFell_67 : decode cX12_whyNotFell 67 = .ok (.iadd, 1) := by decide +kernel
theorem dX12_whyNotFell_68 : decode cX12_whyNotFell 68 = .ok (.invokevirtual 382, 3) := by decide +kernel
theorem dX12_whyNotFell_71 : decode cX12_whyNotFell 71 = .ok (.invokevirtual 253, 3) := by decide +kernel
theorem dX12_whyNotFell_74 : decode cX12_whyNotFell 74 = .ok (.ifCond .eq 17, 3) := by decide +kernel
theorem dX12_whyNotFell_77 : decode cX12_whyNotFell 77 = .ok (.aload_n 0, 1) := by decide +kernel
theorem dX12_whyNotFell_78 : decode cX12_whyNotFell 78 = .ok (.iload_n 1, 1) := by decide +kernel
theorem dX12_whyNotFell_79 : decode cX12_whyNotFell 79 = .ok (.iload_n 2, 1) := by decide +kernel
theorem dX12_whyNotFell_80 : decode cX12_whyNotFell 80 = .ok (.iconst 2, 1) := by decide +kernel
theorem dX12_whyNotFell_81 : decode cX12_whyNotFell 81 = .ok (.iadd, 1) := by decide +kernel
theorem dX12_whyNotFell_82 : decode cX12_whyNotFell 82 = .ok (.invokevirtual 382, 3) := by decide +kernel
theorem dX12_whyNotFell_85 : decode cX12_whyNotFell 85 = .ok (.invokestatic 285, 3) := by decide +kernel
theorem dX12_whyNotFell_88 : decode cX12_whyNotFell 88 = .ok (.ifCond .ne 6, 3) := by decide +kernel
theorem dX12_whyNotFell_91 : decode cX12_whyNotFell 91 = .ok (.bipush (-2), 2) := by decide +kernel
theorem dX12_whyNotFell_93 : decode cX12_whyNotFell 93 = .ok (.ireturn, 1) := by decide +kernel
theorem dX12_whyNotFell_94 : decode cX12_whyNotFell 94 = .ok (.iinc 2 3, 3) := by decide +kernel
theorem dX12_whyNotFell_97 : decode cX12_whyNotFell 97 = .ok (.goto (-51), 3) := by decide +kernel
theorem dX12_whyNotFell_100 : decode cX12_whyNotFell 100 = .ok (.iconst 0, 1) := by decide +kernel
theorem dX12_whyNotFell_101 : decode cX12_whyNotFell 101 = .ok (.ireturn, 1) := by decide +kernel
theorem dX12_whyNotSeen_0 : decode cX12_whyNotSeen 0 = .ok (.iload_n 1, 1) := by decide +kernel
theorem dX12_whyNotSeen_1 : decode cX12_whyNotSeen 1 = .ok (.invokestatic 83, 3) := by decide +kernel
theorem dX12_whyNotSeen_4 : decode cX12_whyNotSeen 4 = .ok (.ifCond .eq 10, 3) := by decide +kernel
theorem dX12_whyNotSeen_7 : decode cX12_whyNotSeen 7 = .ok (.aload_n 0, 1) := by decide +kernel
theorem dX12_whyNotSeen_8 : decode cX12_whyNotSeen 8 = .ok (.invokevirtual 237, 3) := by decide +kernel
theorem dX12_whyNotSeen_11 : decode cX12_whyNotSeen 11 = .ok (.ifCond .ne 6, 3) := by decide +kernel
theorem dX12_whyNotSeen_14 : decode cX12_whyNotSeen 14 = .ok (.bipush (-2), 2) := by decide +kernel
theorem dX12_whyNotSeen_16 : decode cX12_whyNotSeen 16 = .ok (.ireturn, 1) := by decide +kernel
theorem dX12_whyNotSeen_17 : decode cX12_whyNotSeen 17 = .ok (.aload_n 0, 1) := by decide +kernel
theorem dX12_whyNotSeen_18 : decode cX12_whyNotSeen 18 = .ok (.getfield 7, 3) := by decide +kernel
theorem dX12_whyNotSeen_21 : decode cX12_whyNotSeen 21 = .ok (.iload_n 1, 1) := by decide +kernel
theorem dX12_whyNotSeen_22 : decode cX12_whyNotSeen 22 = .ok (.iaload, 1) := by decide +kernel
theorem dX12_whyNotSeen_23 : decode cX12_whyNotSeen 23 = .ok (.iconst (-1), 1) := by decide +kernel
theorem dX12_whyNotSeen_24 : decode cX12_whyNotSeen 24 = .ok (.if_icmp .ne 6, 3) := by decide +kernel
theorem dX12_whyNotSeen_27 : decode cX12_whyNotSeen 27 = .ok (.bipush (-6), 2) := by decide +kernel
theorem dX12_whyNotSeen_29 : decode cX12_whyNotSeen 29 = .ok (.ireturn, 1) := by decide +kernel
theorem dX12_whyNotSeen_30 : decode cX12_whyNotSeen 30 = .ok (.aload_n 0, 1) := by decide +kernel
theorem dX12_whyNotSeen_31 : decode cX12_whyNotSeen 31 = .ok (.getfield 13, 3) := by decide +kernel
theorem dX12_whyNotSeen_34 : decode cX12_whyNotSeen 34 = .ok (.iload_n 1, 1) := by decide +kernel
theorem dX12_whyNotSeen_35 : decode cX12_whyNotSeen 35 = .ok (.iaload, 1) := by decide +kernel
theorem dX12_whyNotSeen_36 : decode cX12_whyNotSeen 36 = .ok (.iconst 2, 1) := by decide +kernel
theorem dX12_whyNotSeen_37 : decode cX12_whyNotSeen 37 = .ok (.irem, 1) := by decide +kernel
theorem dX12_whyNotSeen_38 : decode cX12_whyNotSeen 38 = .ok (.ifCond .eq 6, 3) := by decide +kernel
theorem dX12_whyNotSeen_41 : decode cX12_whyNotSeen 41 = .ok (.bipush (-2), 2) := by decide +kernel
theorem dX12_whyNotSeen_43 : decode cX12_whyNotSeen 43 = .ok (.ireturn, 1) := by decide +kernel
theorem dX12_whyNotSeen_44 : decode cX12_whyNotSeen 44 = .ok (.iconst 0, 1) := by decide +kernel
theorem dX12_whyNotSeen_45 : decode cX12_whyNotSeen 45 = .ok (.istore_n 2, 1) := by decide +kernel
theorem dX12_whyNotSeen_46 : decode cX12_whyNotSeen 46 = .ok (.iload_n 2, 1) := by decide +kernel
theorem dX12_whyNotSeen_47 : decode cX12_whyNotSeen 47 = .ok (.aload_n 0, 1) := by decide +kernel
theorem dX12_whyNotSeen_48 : decode cX12_whyNotSeen 48 = .ok (.getfield 13, 3) := by decide +kernel
theorem dX12_whyNotSeen_51 : decode cX12_whyNotSeen 51 = .ok (.iload_n 1, 1) := by decide +kernel
theorem dX12_whyNotSeen_52 : decode cX12_whyNotSeen 52 = .ok (.iaload, 1) := by decide +kernel
theorem dX12_whyNotSeen_53 : decode cX12_whyNotSeen 53 = .ok (.if_icmp .ge 40, 3) := by decide +kernel
theorem dX12_whyNotSeen_56 : decode cX12_whyNotSeen 56 = .ok (.aload_n 0, 1) := by decide +kernel
theorem dX12_whyNotSeen_57 : decode cX12_whyNotSeen 57 = .ok (.aload_n 0, 1) := by decide +kernel
theorem dX12_whyNotSeen_58 : decode cX12_whyNotSeen 58 = .ok (.iload_n 1, 1) := by decide +kernel
theorem dX12_whyNotSeen_59 : decode cX12_whyNotSeen 59 = .ok (.iload_n 2, 1) := by decide +kernel
theorem dX12_whyNotSeen_60 : decode cX12_whyNotSeen 60 = .ok (.invokevirtual 382, 3) := by decide +kernel
theorem dX12_whyNotSeen_63 : decode cX12_whyNotSeen 63 = .ok (.invokevirtual 250, 3) := by decide +kernel
theorem dX12_whyNotSeen_66 : decode cX12_whyNotSeen 66 = .ok (.ifCond .eq 18, 3) := by decide +kernel
theorem dX12_whyNotSeen_69 : decode cX12_whyNotSeen 69 = .ok (.aload_n 0, 1) := by decide +kernel
theorem dX12_whyNotSeen_70 : decode cX12_whyNotSeen 70 = .ok (.aload_n 0, 1) := by decide +kernel
theorem dX12_whyNotSeen_71 : decode cX12_whyNotSeen 71 = .ok (.iload_n 1, 1) := by decide +kernel
theorem dX12_whyNotSeen_72 : decode cX12_whyNotSeen 72 = .ok (.iload_n 2, 1) := by decide +kernel
theorem dX12_whyNotSeen_73 : decode cX12_whyNotSeen 73 = .ok (.iconst 1, 1) := by decide +kernel
theorem dX12_whyNotSeen_74 : decode cX12_whyNotSeen 74 = .ok (.iadd, 1) := by decide +kernel
theorem dX12_whyNotSeen_75 : decode cX12_whyNotSeen 75 = .ok (.invokevirtual 382, 3) := by decide +kernel
theorem dX12_whyNotSeen_78 : decode cX12_whyNotSeen 78 = .ok (.invokevirtual 247, 3) := by decide +kernel
theorem dX12_whyNotSeen_81 : decode cX12_whyNotSeen 81 = .ok (.ifCond .ne 6, 3) := by decide +kernel
theorem dX12_whyNotSeen_84 : decode cX12_whyNotSeen 84 = .ok (.bipush (-2), 2) := by decide +kernel
theorem dX12_whyNotSeen_86 : decode cX12_whyNotSeen 86 = .ok (.ireturn, 1) := by decide +kernel
theorem dX12_whyNotSeen_87 : decode cX12_whyNotSeen 87 = .ok (.iinc 2 2, 3) := by decide +kernel
theorem dX12_whyNotSeen_90 : decode cX12_whyNotSeen 90 = .ok (.goto (-44), 3) := by decide +kernel
theorem dX12_whyNotSeen_93 : decode cX12_whyNotSeen 93 = .ok (.iconst 0, 1) := by decide +kernel
theorem dX12_whyNotSeen_94 : decode cX12_whyNotSeen 94 = .ok (.ireturn, 1) := by decide +kernel
theorem dX12_wider_0 : decode cX12_wider 0 = .ok (.aload_n 0, 1) := by decide +kernel
theorem dX12_wider_1 : decode cX12_wider 1 = .ok (.iconst 0, 1) := by decide +kernel
theorem dX12_wider_2 : decode cX12_wider 2 = .ok (.putfield 74, 3) := by decide +kernel
theorem dX12_wider_5 : decode cX12_wider 5 = .ok (.aload_n 0, 1) := by decide +kernel
theorem dX12_wider_6 : decode cX12_wider 6 = .ok (.iload_n 1, 1) := by decide +kernel
theorem dX12_wider_7 : decode cX12_wider 7 = .ok (.invokevirtual 273, 3) := by decide +kernel
theorem dX12_wider_10 : decode cX12_wider 10 = .ok (.ifCond .eq 24, 3) := by decide +kernel
theorem dX12_wider_13 : decode cX12_wider 13 = .ok (.iload_n 2, 1) := by decide +kernel
theorem dX12_wider_14 : decode cX12_wider 14 = .ok (.i2l, 1) := by decide +kernel
theorem dX12_wider_15 : decode cX12_wider 15 = .ok (.lconst 0, 1) := by decide +kernel
theorem dX12_wider_16 : decode cX12_wider 16 = .ok (.ldc2_w 349, 3) := by decide +kernel
theorem dX12_wider_19 : decode cX12_wider 19 = .ok (.invokestatic 79, 3) := by decide +kernel
theorem dX12_wider_22 : decode cX12_wider 22 = .ok (.ifCond .eq 12, 3) := by decide +kernel
theorem dX12_wider_25 : decode cX12_wider 25 = .ok (.aload_n 0, 1) := by decide +kernel
theorem dX12_wider_26 : decode cX12_wider 26 = .ok (.iload_n 3, 1) := by decide +kernel
theorem dX12_wider_27 : decode cX12_wider 27 = .ok (.i2l, 1) := by decide +kernel
theorem dX12_wider_28 : decode cX12_wider 28 = .ok (.invokevirtual 250, 3) := by decide +kernel
theorem dX12_wider_31 : decode cX12_wider 31 = .ok (.ifCond .ne 6, 3) := by decide +kernel
theorem dX12_wider_34 : decode cX12_wider 34 = .ok (.bipush (-2), 2) := by decide +kernel
theorem dX12_wider_36 : decode cX12_wider 36 = .ok (.ireturn, 1) := by decide +kernel
theorem dX12_wider_37 : decode cX12_wider 37 = .ok (.aload_n 0, 1) := by decide +kernel
theorem dX12_wider_38 : decode cX12_wider 38 = .ok (.invokevirtual 276, 3) := by decide +kernel
theorem dX12_wider_41 : decode cX12_wider 41 = .ok (.aload_n 0, 1) := by decide +kernel
theorem dX12_wider_42 : decode cX12_wider 42 = .ok (.iload_n 1, 1) := by decide +kernel
theorem dX12_wider_43 : decode cX12_wider 43 = .ok (.iconst (-1), 1) := by decide +kernel
theorem dX12_wider_44 : decode cX12_wider 44 = .ok (.invokevirtual 351, 3) := by decide +kernel
theorem dX12_wider_47 : decode cX12_wider 47 = .ok (.aload_n 0, 1) := by decide +kernel
theorem dX12_wider_48 : decode cX12_wider 48 = .ok (.iload_n 2, 1) := by decide +kernel
theorem dX12_wider_49 : decode cX12_wider 49 = .ok (.invokevirtual 354, 3) := by decide +kernel
theorem dX12_wider_52 : decode cX12_wider 52 = .ok (.istore 4, 2) := by decide +kernel
theorem dX12_wider_54 : decode cX12_wider 54 = .ok (.aload_n 0, 1) := by decide +kernel
theorem dX12_wider_55 : decode cX12_wider 55 = .ok (.iload_n 1, 1) := by decide +kernel
theorem dX12_wider_56 : decode cX12_wider 56 = .ok (.iload_n 3, 1) := by decide +kernel
theorem dX12_wider_57 : decode cX12_wider 57 = .ok (.invokevirtual 351, 3) := by decide +kernel
theorem dX12_wider_60 : decode cX12_wider 60 = .ok (.aload_n 0, 1) := by decide +kernel
theorem dX12_wider_61 : decode cX12_wider 61 = .ok (.iload_n 2, 1) := by decide +kernel
theorem dX12_wider_62 : decode cX12_wider 62 = .ok (.invokevirtual 354, 3) := by decide +kernel
theorem dX12_wider_65 : decode cX12_wider 65 = .ok (.iload 4, 2) := by decide +kernel
theorem dX12_wider_67 : decode cX12_wider 67 = .ok (.isub, 1) := by decide +kernel
theorem dX12_wider_68 : decode cX12_wider 68 = .ok (.ireturn, 1) := by decide +kernel
theorem dX12_wind_0 : decode cX12_wind 0 = .ok (.aload_n 0, 1) := by decide +kernel
theorem dX12_wind_1 : decode cX12_wind 1 = .ok (.iconst 0, 1) := by decide +kernel
theorem dX12_wind_2 : decode cX12_wind 2 = .ok (.putfield 74, 3) := by decide +kernel
theorem dX12_wind_5 : decode cX12_wind 5 = .ok (.aload_n 0, 1) := by decide +kernel
theorem dX12_wind_6 : decode cX12_wind 6 = .ok (.iload_n 1, 1) := by decide +kernel
theorem dX12_wind_7 : decode cX12_wind 7 = .ok (.invokevirtual 273, 3) := by decide +kernel
theorem dX12_wind_10 : decode cX12_wind 10 = .ok (.ifCond .ne 6, 3) := by decide +kernel
theorem dX12_wind_13 : decode cX12_wind 13 = .ok (.bipush (-2), 2) := by decide +kernel
theorem dX12_wind_15 : decode cX12_wind 15 = .ok (.ireturn, 1) := by decide +kernel
theorem dX12_wind_16 : decode cX12_wind 16 = .ok (.aload_n 0, 1) := by decide +kernel
theorem dX12_wind_17 : decode cX12_wind 17 = .ok (.invokevirtual 276, 3) := by decide +kernel
theorem dX12_wind_20 : decode cX12_wind 20 = .ok (.aload_n 0, 1) := by decide +kernel
theorem dX12_wind_21 : decode cX12_wind 21 = .ok (.iload_n 1, 1) := by decide +kernel
theorem dX12_wind_22 : decode cX12_wind 22 = .ok (.invokevirtual 379, 3) := by decide +kernel
theorem dX12_wind_25 : decode cX12_wind 25 = .ok (.ireturn, 1) := by decide +kernel
theorem dX12_windOf_0 : decode cX12_windOf 0 = .ok (.iconst 0, 1) := by decide +kernel
theorem dX12_windOf_1 : decode cX12_windOf 1 = .ok (.istore_n 2, 1) := by decide +kernel
theorem dX12_windOf_2 : decode cX12_windOf 2 = .ok (.iconst 0, 1) := by decide +kernel
theorem dX12_windOf_3 : decode cX12_windOf 3 = .ok (.istore_n 3, 1) := by decide +kernel
theorem dX12_windOf_4 : decode cX12_windOf 4 = .ok (.iload_n 3, 1) := by decide +kernel
theorem dX12_windOf_5 : decode cX12_windOf 5 = .ok (.aload_n 0, 1) := by decide +kernel
theorem dX12_windOf_6 : decode cX12_windOf 6 = .ok (.getfield 34, 3) := by decide +kernel
theorem dX12_windOf_9 : decode cX12_windOf 9 = .ok (.iconst 4, 1) := by decide +kernel
theorem dX12_windOf_10 : decode cX12_windOf 10 = .ok (.iaload, 1) := by decide +kernel
theorem dX12_windOf_11 : decode cX12_windOf 11 = .ok (.if_icmp .ge 97, 3) := by decide +kernel
theorem dX12_windOf_14 : decode cX12_windOf 14 = .ok (.iload_n 3, 1) := by decide +kernel
theorem dX12_windOf_15 : decode cX12_windOf 15 = .ok (.iconst 1, 1) := by decide +kernel
theorem dX12_windOf_16 : decode cX12_windOf 16 = .ok (.iadd, 1) := by decide +kernel
theorem dX12_windOf_17 : decode cX12_windOf 17 = .ok (.istore 4, 2) := by decide +kernel
theorem dX12_windOf_19 : decode cX12_windOf 19 = .ok (.iload 4, 2) := by decide +kernel
theorem dX12_windOf_21 : decode cX12_windOf 21 = .ok (.aload_n 0, 1) := by decide +kernel
theorem dX12_windOf_22 : decode cX12_windOf 22 = .ok (.getfield 34, 3) := by decide +kernel
theorem dX12_windOf_25 : decode cX12_windOf 25 = .ok (.iconst 4, 1) := by decide +kernel
theorem dX12_windOf_26 : decode cX12_windOf 26 = .ok (.iaload, 1) := by decide +kernel
theorem dX12_windOf_27 : decode cX12_windOf 27 = .ok (.if_icmp .ge 75, 3) := by decide +kernel
theorem dX12_windOf_30 : decode cX12_windOf 30 = .ok (.aload_n 0, 1) := by decide +kernel
theorem dX12_windOf_31 : decode cX12_windOf 31 = .ok (.iload_n 3, 1) := by decide +kernel
theorem dX12_windOf_32 : decode cX12_windOf 32 = .ok (.iload_n 1, 1) := by decide +kernel
theorem dX12_windOf_33 : decode cX12_windOf 33 = .ok (.invokevirtual 267, 3) := by decide +kernel
theorem dX12_windOf_36 : decode cX12_windOf 36 = .ok (.istore 5, 2) := by decide +kernel
theorem dX12_windOf_38 : decode cX12_windOf 38 = .ok (.aload_n 0, 1) := by decide +kernel
theorem dX12_windOf_39 : decode cX12_windOf 39 = .ok (.iload 4, 2) := by decide +kernel
theorem dX12_windOf_41 : decode cX12_windOf 41 = .ok (.iload_n 1, 1) := by decide +kernel
theorem dX12_windOf_42 : decode cX12_windOf 42 = .ok (.invokevirtual 267, 3) := by decide +kernel
theorem dX12_windOf_45 : decode cX12_windOf 45 = .ok (.istore 6, 2) := by decide +kernel
theorem dX12_windOf_47 : decode cX12_windOf 47 = .ok (.iload_n 2, 1) := by decide +kernel
theorem dX12_windOf_48 : decode cX12_windOf 48 = .ok (.iload 5, 2) := by decide +kernel
theorem dX12_windOf_50 : decode cX12_windOf 50 = .ok (.iload 6, 2) := by decide +kernel
theorem dX12_windOf_52 : decode cX12_windOf 52 = .ok (.if_icmp .eq 41, 3) := by decide +kernel
theorem dX12_windOf_55 : decode cX12_windOf 55 = .ok (.aload_n 0, 1) := by decide +kernel
theorem dX12_windOf_56 : decode cX12_windOf 56 = .ok (.iload 5, 2) := by decide +kernel
theorem dX12_windOf_58 : decode cX12_windOf 58 = .ok (.iconst 0, 1) := by decide +kernel
theorem dX12_windOf_59 : decode cX12_windOf 59 = .ok (.invokevirtual 244, 3) := by decide +kernel
theorem dX12_windOf_62 : decode cX12_windOf 62 = .ok (.aload_n 0, 1) := by decide +kernel
theorem dX12_windOf_63 : decode cX12_windOf 63 = .ok (.iload 6, 2) := by decide +kernel
theorem dX12_windOf_65 : decode cX12_windOf 65 = .ok (.iconst 0, 1) := by decide +kernel
theorem dX12_windOf_66 : decode cX12_windOf 66 = .ok (.invokevirtual 244, 3) := by decide +kernel
theorem dX12_windOf_69 : decode cX12_windOf 69 = .ok (.if_icmp .eq 20, 3) := by decide +kernel
theorem dX12_windOf_72 : decode cX12_windOf 72 = .ok (.aload_n 0, 1) := by decide +kernel
theorem dX12_windOf_73 : decode cX12_windOf 73 = .ok (.iload 5, 2) := by decide +kernel
theorem dX12_windOf_75 : decode cX12_windOf 75 = .ok (.iconst 1, 1) := by decide +kernel
theorem dX12_windOf_76 : decode cX12_windOf 76 = .ok (.invokevirtual 244, 3) := by decide +kernel
theorem dX12_windOf_79 : decode cX12_windOf 79 = .ok (.aload_n 0, 1) := by decide +kernel
theorem dX12_windOf_80 : decode cX12_windOf 80 = .ok (.iload 6, 2) := by decide +kernel
theorem dX12_windOf_82 : decode cX12_windOf 82 = .ok (.iconst 1, 1) := by decide +kernel
theorem dX12_windOf_83 : decode cX12_windOf 83 = .ok (.invokevirtual 244, 3) := by decide +kernel
theorem dX12_windOf_86 : decode cX12_windOf 86 = .ok (.if_icmp .ne 7, 3) := by decide +kernel
theorem dX12_windOf_89 : decode cX12_windOf 89 = .ok (.iconst 1, 1) := by decide +kernel
theorem dX12_windOf_90 : decode cX12_windOf 90 = .ok (.goto 4, 3) := by decide +kernel
theorem dX12_windOf_93 : decode cX12_windOf 93 = .ok (.iconst 0, 1) := by decide +kernel
theorem dX12_windOf_94 : decode cX12_windOf 94 = .ok (.iadd, 1) := by decide +kernel
theorem dX12_windOf_95 : decode cX12_windOf 95 = .ok (.istore_n 2, 1) := by decide +kernel
theorem dX12_windOf_96 : decode cX12_windOf 96 = .ok (.iinc 4 1, 3) := by decide +kernel
theorem dX12_windOf_99 : decode cX12_windOf 99 = .ok (.goto (-80), 3) := by decide +kernel
theorem dX12_windOf_102 : decode cX12_windOf 102 = .ok (.iinc 3 1, 3) := by decide +kernel
theorem dX12_windOf_105 : decode cX12_windOf 105 = .ok (.goto (-101), 3) := by decide +kernel
theorem dX12_windOf_108 : decode cX12_windOf 108 = .ok (.iload_n 2, 1) := by decide +kernel
theorem dX12_windOf_109 : decode cX12_windOf 109 = .ok (.ireturn, 1) := by decide +kernel
theorem dX12_worst_0 : decode cX12_worst 0 = .ok (.aload_n 0, 1) := by decide +kernel
theorem dX12_worst_1 : decode cX12_worst 1 = .ok (.iconst 0, 1) := by decide +kernel
theorem dX12_worst_2 : decode cX12_worst 2 = .ok (.putfield 74, 3) := by decide +kernel
theorem dX12_worst_5 : decode cX12_worst 5 = .ok (.aload_n 0, 1) := by decide +kernel
theorem dX12_worst_6 : decode cX12_worst 6 = .ok (.iload_n 1, 1) := by decide +kernel
theorem dX12_worst_7 : decode cX12_worst 7 = .ok (.invokevirtual 273, 3) := by decide +kernel
theorem dX12_worst_10 : decode cX12_worst 10 = .ok (.ifCond .ne 6, 3) := by decide +kernel
theorem dX12_worst_13 : decode cX12_worst 13 = .ok (.bipush (-2), 2) := by decide +kernel
theorem dX12_worst_15 : decode cX12_worst 15 = .ok (.ireturn, 1) := by decide +kernel
theorem dX12_worst_16 : decode cX12_worst 16 = .ok (.aload_n 0, 1) := by decide +kernel
theorem dX12_worst_17 : decode cX12_worst 17 = .ok (.invokevirtual 276, 3) := by decide +kernel
theorem dX12_worst_20 : decode cX12_worst 20 = .ok (.aload_n 0, 1) := by decide +kernel
theorem dX12_worst_21 : decode cX12_worst 21 = .ok (.iload_n 1, 1) := by decide +kernel
theorem dX12_worst_22 : decode cX12_worst 22 = .ok (.invokevirtual 317, 3) := by decide +kernel
theorem dX12_worst_25 : decode cX12_worst 25 = .ok (.ireturn, 1) := by decide +kernel
theorem dX12_worstBy_0 : decode cX12_worstBy 0 = .ok (.iconst 0, 1) := by decide +kernel
theorem dX12_worstBy_1 : decode cX12_worstBy 1 = .ok (.istore_n 2, 1) := by decide +kernel
theorem dX12_worstBy_2 : decode cX12_worstBy 2 = .ok (.iconst 0, 1) := by decide +kernel
theorem dX12_worstBy_3 : decode cX12_worstBy 3 = .ok (.istore_n 3, 1) := by decide +kernel
theorem dX12_worstBy_4 : decode cX12_worstBy 4 = .ok (.iload_n 3, 1) := by decide +kernel
theorem dX12_worstBy_5 : decode cX12_worstBy 5 = .ok (.aload_n 0, 1) := by decide +kernel
theorem dX12_worstBy_6 : decode cX12_worstBy 6 = .ok (.getfield 34, 3) := by decide +kernel
theorem dX12_worstBy_9 : decode cX12_worstBy 9 = .ok (.iconst 0, 1) := by decide +kernel
theorem dX12_worstBy_10 : decode cX12_worstBy 10 = .ok (.iaload, 1) := by decide +kernel
theorem dX12_worstBy_11 : decode cX12_worstBy 11 = .ok (.if_icmp .ge 101, 3) := by decide +kernel
theorem dX12_worstBy_14 : decode cX12_worstBy 14 = .ok (.iconst 0, 1) := by decide +kernel
theorem dX12_worstBy_15 : decode cX12_worstBy 15 = .ok (.istore 4, 2) := by decide +kernel
theorem dX12_worstBy_17 : decode cX12_worstBy 17 = .ok (.iload 4, 2) := by decide +kernel
theorem dX12_worstBy_19 : decode cX12_worstBy 19 = .ok (.aload_n 0, 1) := by decide +kernel
theorem dX12_worstBy_20 : decode cX12_worstBy 20 = .ok (.getfield 34, 3) := by decide +kernel
theorem dX12_worstBy_23 : decode cX12_worstBy 23 = .ok (.iconst 1, 1) := by decide +kernel
theorem dX12_worstBy_24 : decode cX12_worstBy 24 = .ok (.iaload, 1) := by decide +kernel
theorem dX12_worstBy_25 : decode cX12_worstBy 25 = .ok (.if_icmp .ge 81, 3) := by decide +kernel
theorem dX12_worstBy_28 : decode cX12_worstBy 28 = .ok (.sipush 10000, 3) := by decide +kernel
theorem dX12_worstBy_31 : decode cX12_worstBy 31 = .ok (.istore 5, 2) := by decide +kernel
theorem dX12_worstBy_33 : decode cX12_worstBy 33 = .ok (.iconst 0, 1) := by decide +kernel
theorem dX12_worstBy_34 : decode cX12_worstBy 34 = .ok (.istore 6, 2) := by decide +kernel
theorem dX12_worstBy_36 : decode cX12_worstBy 36 = .ok (.iload 6, 2) := by decide +kernel
theorem dX12_worstBy_38 : decode cX12_worstBy 38 = .ok (.aload_n 0, 1) := by decide +kernel
theorem dX12_worstBy_39 : decode cX12_worstBy 39 = .ok (.getfield 34, 3) := by decide +kernel
theorem dX12_worstBy_42 : decode cX12_worstBy 42 = .ok (.iconst 3, 1) := by decide +kernel
theorem dX12_worstBy_43 : decode cX12_worstBy 43 = .ok (.iaload, 1) := by decide +kernel
theorem dX12_worstBy_44 : decode cX12_worstBy 44 = .ok (.if_icmp .ge 43, 3) := by decide +kernel
theorem dX12_worstBy_47 : decode cX12_worstBy 47 = .ok (.iload_n 1, 1) := by decide +kernel
theorem dX12_worstBy_48 : decode cX12_worstBy 48 = .ok (.iload 6, 2) := by decide +kernel
theorem dX12_worstBy_50 : decode cX12_worstBy 50 = .ok (.invokestatic 365, 3) := by decide +kernel
theorem dX12_worstBy_53 : decode cX12_worstBy 53 = .ok (.ifCond .eq 28, 3) := by decide +kernel
theorem dX12_worstBy_56 : decode cX12_worstBy 56 = .ok (.aload_n 0, 1) := by decide +kernel
theorem dX12_worstBy_57 : decode cX12_worstBy 57 = .ok (.iload_n 3, 1) := by decide +kernel
theorem dX12_worstBy_58 : decode cX12_worstBy 58 = .ok (.iload 4, 2) := by decide +kernel
theorem dX12_worstBy_60 : decode cX12_worstBy 60 = .ok (.iload 6, 2) := by decide +kernel
theorem dX12_worstBy_62 : decode cX12_worstBy 62 = .ok (.invokevirtual 303, 3) := by decide +kernel
theorem dX12_worstBy_65 : decode cX12_worstBy 65 = .ok (.iload 5, 2) := by decide +kernel
theorem dX12_worstBy_67 : decode cX12_worstBy 67 = .ok (.if_icmp .ge 14, 3) := by decide +kernel
theorem dX12_worstBy_70 : decode cX12_worstBy 70 = .ok (.aload_n 0, 1) := by decide +kernel
theorem dX12_worstBy_71 : decode cX12_worstBy 71 = .ok (.iload_n 3, 1) := by decide +kernel
theorem dX12_worstBy_72 : decode cX12_worstBy 72 = .ok (.iload 4, 2) := by decide +kernel
theorem dX12_worstBy_74 : decode cX12_worstBy 74 = .ok (.iload 6, 2) := by decide +kernel
theorem dX12_worstBy_76 : decode cX12_worstBy 76 = .ok (.invokevirtual 303, 3) := by decide +kernel
theorem dX12_worstBy_79 : decode cX12_worstBy 79 = .ok (.istore 5, 2) := by decide +kernel
theorem dX12_worstBy_81 : decode cX12_worstBy 81 = .ok (.iinc 6 1, 3) := by decide +kernel
theorem dX12_worstBy_84 : decode cX12_worstBy 84 = .ok (.goto (-48), 3) := by decide +kernel
theorem dX12_worstBy_87 : decode cX12_worstBy 87 = .ok (.iload 5, 2) := by decide +kernel
theorem dX12_worstBy_89 : decode cX12_worstBy 89 = .ok (.iload_n 2, 1) := by decide +kernel
theorem dX12_worstBy_90 : decode cX12_worstBy 90 = .ok (.if_icmp .le 8, 3) := by decide +kernel
theorem dX12_worstBy_93 : decode cX12_worstBy 93 = .ok (.iload 5, 2) := by decide +kernel
theorem dX12_worstBy_95 : decode cX12_worstBy 95 = .ok (.goto 4, 3) := by decide +kernel
theorem dX12_worstBy_98 : decode cX12_worstBy 98 = .ok (.iload_n 2, 1) := by decide +kernel
theorem dX12_worstBy_99 : decode cX12_worstBy 99 = .ok (.istore_n 2, 1) := by decide +kernel
theorem dX12_worstBy_100 : decode cX12_worstBy 100 = .ok (.iinc 4 1, 3) := by decide +kernel
theorem dX12_worstBy_103 : decode cX12_worstBy 103 = .ok (.goto (-86), 3) := by decide +kernel
theorem dX12_worstBy_106 : decode cX12_worstBy 106 = .ok (.iinc 3 1, 3) := by decide +kernel
theorem dX12_worstBy_109 : decode cX12_worstBy 109 = .ok (.goto (-105), 3) := by decide +kernel
theorem dX12_worstBy_112 : decode cX12_worstBy 112 = .ok (.iload_n 2, 1) := by decide +kernel
theorem dX12_worstBy_113 : decode cX12_worstBy 113 = .ok (.ireturn, 1) := by decide +kernel
theorem dX12_worstOf_0 : decode cX12_worstOf 0 = .ok (.iconst (-1), 1) := by decide +kernel
theorem dX12_worstOf_1 : decode cX12_worstOf 1 = .ok (.istore_n 2, 1) := by decide +kernel
theorem dX12_worstOf_2 : decode cX12_worstOf 2 = .ok (.iconst 0, 1) := by decide +kernel
theorem dX12_worstOf_3 : decode cX12_worstOf 3 = .ok (.istore_n 3, 1) := by decide +kernel
theorem dX12_worstOf_4 : decode cX12_worstOf 4 = .ok (.iload_n 3, 1) := by decide +kernel
theorem dX12_worstOf_5 : decode cX12_worstOf 5 = .ok (.aload_n 0, 1) := by decide +kernel
theorem dX12_worstOf_6 : decode cX12_worstOf 6 = .ok (.getfield 34, 3) := by decide +kernel
theorem dX12_worstOf_9 : decode cX12_worstOf 9 = .ok (.iconst 0, 1) := by decide +kernel
theorem dX12_worstOf_10 : decode cX12_worstOf 10 = .ok (.iaload, 1) := by decide +kernel
theorem dX12_worstOf_11 : decode cX12_worstOf 11 = .ok (.if_icmp .ge 54, 3) := by decide +kernel
theorem dX12_worstOf_14 : decode cX12_worstOf 14 = .ok (.iconst 0, 1) := by decide +kernel
theorem dX12_worstOf_15 : decode cX12_worstOf 15 = .ok (.istore 4, 2) := by decide +kernel
theorem dX12_worstOf_17 : decode cX12_worstOf 17 = .ok (.iload 4, 2) := by decide +kernel
theorem dX12_worstOf_19 : decode cX12_worstOf 19 = .ok (.aload_n 0, 1) := by decide +kernel
theorem dX12_worstOf_20 : decode cX12_worstOf 20 = .ok (.getfield 34, 3) := by decide +kernel
theorem dX12_worstOf_23 : decode cX12_worstOf 23 = .ok (.iconst 1, 1) := by decide +kernel
theorem dX12_worstOf_24 : decode cX12_worstOf 24 = .ok (.iaload, 1) := by decide +kernel
theorem dX12_worstOf_25 : decode cX12_worstOf 25 = .ok (.if_icmp .ge 34, 3) := by decide +kernel
theorem dX12_worstOf_28 : decode cX12_worstOf 28 = .ok (.aload_n 0, 1) := by decide +kernel
theorem dX12_worstOf_29 : decode cX12_worstOf 29 = .ok (.iload_n 3, 1) := by decide +kernel
theorem dX12_worstOf_30 : decode cX12_worstOf 30 = .ok (.iload 4, 2) := by decide +kernel
theorem dX12_worstOf_32 : decode cX12_worstOf 32 = .ok (.iload_n 1, 1) := by decide +kernel
theorem dX12_worstOf_33 : decode cX12_worstOf 33 = .ok (.invokevirtual 311, 3) := by decide +kernel
theorem dX12_worstOf_36 : decode cX12_worstOf 36 = .ok (.iload_n 2, 1) := by decide +kernel
theorem dX12_worstOf_37 : decode cX12_worstOf 37 = .ok (.if_icmp .le 14, 3) := by decide +kernel
theorem dX12_worstOf_40 : decode cX12_worstOf 40 = .ok (.aload_n 0, 1) := by decide +kernel
theorem dX12_worstOf_41 : decode cX12_worstOf 41 = .ok (.iload_n 3, 1) := by decide +kernel
theorem dX12_worstOf_42 : decode cX12_worstOf 42 = .ok (.iload 4, 2) := by decide +kernel
theorem dX12_worstOf_44 : decode cX12_worstOf 44 = .ok (.iload_n 1, 1) := by decide +kernel
theorem dX12_worstOf_45 : decode cX12_worstOf 45 = .ok (.invokevirtual 311, 3) := by decide +kernel
theorem dX12_worstOf_48 : decode cX12_worstOf 48 = .ok (.goto 4, 3) := by decide +kernel
theorem dX12_worstOf_51 : decode cX12_worstOf 51 = .ok (.iload_n 2, 1) := by decide +kernel
theorem dX12_worstOf_52 : decode cX12_worstOf 52 = .ok (.istore_n 2, 1) := by decide +kernel
theorem dX12_worstOf_53 : decode cX12_worstOf 53 = .ok (.iinc 4 1, 3) := by decide +kernel
theorem dX12_worstOf_56 : decode cX12_worstOf 56 = .ok (.goto (-39), 3) := by decide +kernel
theorem dX12_worstOf_59 : decode cX12_worstOf 59 = .ok (.iinc 3 1, 3) := by decide +kernel
theorem dX12_worstOf_62 : decode cX12_worstOf 62 = .ok (.goto (-58), 3) := by decide +kernel
theorem dX12_worstOf_65 : decode cX12_worstOf 65 = .ok (.iload_n 2, 1) := by decide +kernel
theorem dX12_worstOf_66 : decode cX12_worstOf 66 = .ok (.ireturn, 1) := by decide +kernel
theorem dX12_worth_0 : decode cX12_worth 0 = .ok (.aload_n 0, 1) := by decide +kernel
theorem dX12_worth_1 : decode cX12_worth 1 = .ok (.iconst 0, 1) := by decide +kernel
theorem dX12_worth_2 : decode cX12_worth 2 = .ok (.putfield 74, 3) := by decide +kernel
theorem dX12_worth_5 : decode cX12_worth 5 = .ok (.aload_n 0, 1) := by decide +kernel
theorem dX12_worth_6 : decode cX12_worth 6 = .ok (.invokevirtual 237, 3) := by decide +kernel
theorem dX12_worth_9 : decode cX12_worth 9 = .ok (.ifCond .eq 24, 3) := by decide +kernel
theorem dX12_worth_12 : decode cX12_worth 12 = .ok (.iload_n 1, 1) := by decide +kernel
theorem dX12_worth_13 : decode cX12_worth 13 = .ok (.i2l, 1) := by decide +kernel
theorem dX12_worth_14 : decode cX12_worth 14 = .ok (.lconst 1, 1) := by decide +kernel
theorem dX12_worth_15 : decode cX12_worth 15 = .ok (.ldc2_w 363, 3) := by decide +kernel
theorem dX12_worth_18 : decode cX12_worth 18 = .ok (.invokestatic 79, 3) := by decide +kernel
theorem dX12_worth_21 : decode cX12_worth 21 = .ok (.ifCond .eq 12, 3) := by decide +kernel
theorem dX12_worth_24 : decode cX12_worth 24 = .ok (.aload_n 0, 1) := by decide +kernel
theorem dX12_worth_25 : decode cX12_worth 25 = .ok (.getfield 34, 3) := by decide +kernel
theorem dX12_worth_28 : decode cX12_worth 28 = .ok (.iconst 3, 1) := by decide +kernel
theorem dX12_worth_29 : decode cX12_worth 29 = .ok (.iaload, 1) := by decide +kernel
theorem dX12_worth_30 : decode cX12_worth 30 = .ok (.ifCond .ne 6, 3) := by decide +kernel
theorem dX12_worth_33 : decode cX12_worth 33 = .ok (.bipush (-2), 2) := by decide +kernel
theorem dX12_worth_35 : decode cX12_worth 35 = .ok (.ireturn, 1) := by decide +kernel
theorem dX12_worth_36 : decode cX12_worth 36 = .ok (.aload_n 0, 1) := by decide +kernel
theorem dX12_worth_37 : decode cX12_worth 37 = .ok (.invokevirtual 276, 3) := by decide +kernel
theorem dX12_worth_40 : decode cX12_worth 40 = .ok (.iconst 0, 1) := by decide +kernel
theorem dX12_worth_41 : decode cX12_worth 41 = .ok (.istore_n 2, 1) := by decide +kernel
theorem dX12_worth_42 : decode cX12_worth 42 = .ok (.iconst 0, 1) := by decide +kernel
theorem dX12_worth_43 : decode cX12_worth 43 = .ok (.istore_n 3, 1) := by decide +kernel
theorem dX12_worth_44 : decode cX12_worth 44 = .ok (.iload_n 3, 1) := by decide +kernel
theorem dX12_worth_45 : decode cX12_worth 45 = .ok (.bipush 36, 2) := by decide +kernel
theorem dX12_worth_47 : decode cX12_worth 47 = .ok (.if_icmp .ge 52, 3) := by decide +kernel
theorem dX12_worth_50 : decode cX12_worth 50 = .ok (.iload_n 2, 1) := by decide +kernel
theorem dX12_worth_51 : decode cX12_worth 51 = .ok (.aload_n 0, 1) := by decide +kernel
theorem dX12_worth_52 : decode cX12_worth 52 = .ok (.getfield 43, 3) := by decide +kernel
theorem dX12_worth_55 : decode cX12_worth 55 = .ok (.iload_n 3, 1) := by decide +kernel
theorem dX12_worth_56 : decode cX12_worth 56 = .ok (.baload, 1) := by decide +kernel
theorem dX12_worth_57 : decode cX12_worth 57 = .ok (.ifCond .eq 33, 3) := by decide +kernel
theorem dX12_worth_60 : decode cX12_worth 60 = .ok (.aload_n 0, 1) := by decide +kernel
theorem dX12_worth_61 : decode cX12_worth 61 = .ok (.iload_n 3, 1) := by decide +kernel
theorem dX12_worth_62 : decode cX12_worth 62 = .ok (.bipush 6, 2) := by decide +kernel
theorem dX12_worth_64 : decode cX12_worth 64 = .ok (.idiv, 1) := by decide +kernel
theorem dX12_worth_65 : decode cX12_worth 65 = .ok (.iload_n 3, 1) := by decide +kernel
theorem dX12_worth_66 : decode cX12_worth 66 = .ok (.bipush 6, 2) := by decide +kernel
theorem dX12_worth_68 : decode cX12_worth 68 = .ok (.irem, 1) := by decide +kernel
theorem dX12_worth_69 : decode cX12_worth 69 = .ok (.iload_n 1, 1) := by decide +kernel
theorem dX12_worth_70 : decode cX12_worth 70 = .ok (.invokevirtual 413, 3) := by decide +kernel
theorem dX12_worth_73 : decode cX12_worth 73 = .ok (.aload_n 0, 1) := by decide +kernel
theorem dX12_worth_74 : decode cX12_worth 74 = .ok (.iload_n 3, 1) := by decide +kernel
theorem dX12_worth_75 : decode cX12_worth 75 = .ok (.bipush 6, 2) := by decide +kernel
theorem dX12_worth_77 : decode cX12_worth 77 = .ok (.idiv, 1) := by decide +kernel
theorem dX12_worth_78 : decode cX12_worth 78 = .ok (.iload_n 3, 1) := by decide +kernel
theorem dX12_worth_79 : decode cX12_worth 79 = .ok (.bipush 6, 2) := by decide +kernel
theorem dX12_worth_81 : decode cX12_worth 81 = .ok (.irem, 1) := by decide +kernel
theorem dX12_worth_82 : decode cX12_worth 82 = .ok (.iload_n 1, 1) := by decide +kernel
theorem dX12_worth_83 : decode cX12_worth 83 = .ok (.invokevirtual 410, 3) := by decide +kernel
theorem dX12_worth_86 : decode cX12_worth 86 = .ok (.isub, 1) := by decide +kernel
theorem dX12_worth_87 : decode cX12_worth 87 = .ok (.goto 4, 3) := by decide +kernel
theorem dX12_worth_90 : decode cX12_worth 90 = .ok (.iconst 0, 1) := by decide +kernel
theorem dX12_worth_91 : decode cX12_worth 91 = .ok (.iadd, 1) := by decide +kernel
theorem dX12_worth_92 : decode cX12_worth 92 = .ok (.istore_n 2, 1) := by decide +kernel
theorem dX12_worth_93 : decode cX12_worth 93 = .ok (.iinc 3 1, 3) := by decide +kernel
theorem dX12_worth_96 : decode cX12_worth 96 = .ok (.goto (-52), 3) := by decide +kernel
theorem dX12_worth_99 : decode cX12_worth 99 = .ok (.iload_n 2, 1) := by decide +kernel
theorem dX12_worth_100 : decode cX12_worth 100 = .ok (.ireturn, 1) := by decide +kernel
theorem dX12_write_0 : decode cX12_write 0 = .ok (.aload_n 0, 1) := by decide +kernel
theorem dX12_write_1 : decode cX12_write 1 = .ok (.iconst 0, 1) := by decide +kernel
theorem dX12_write_2 : decode cX12_write 2 = .ok (.putfield 74, 3) := by decide +kernel
theorem dX12_write_5 : decode cX12_write 5 = .ok (.iload_n 1, 1) := by decide +kernel
theorem dX12_write_6 : decode cX12_write 6 = .ok (.invokestatic 83, 3) := by decide +kernel
theorem dX12_write_9 : decode cX12_write 9 = .ok (.ifCond .ne 6, 3) := by decide +kernel
theorem dX12_write_12 : decode cX12_write 12 = .ok (.bipush (-2), 2) := by decide +kernel
theorem dX12_write_14 : decode cX12_write 14 = .ok (.ireturn, 1) := by decide +kernel
theorem dX12_write_15 : decode cX12_write 15 = .ok (.aload_n 0, 1) := by decide +kernel
theorem dX12_write_16 : decode cX12_write 16 = .ok (.getfield 7, 3) := by decide +kernel
theorem dX12_write_19 : decode cX12_write 19 = .ok (.iload_n 1, 1) := by decide +kernel
theorem dX12_write_20 : decode cX12_write 20 = .ok (.iaload, 1) := by decide +kernel
theorem dX12_write_21 : decode cX12_write 21 = .ok (.iconst (-1), 1) := by decide +kernel
theorem dX12_write_22 : decode cX12_write 22 = .ok (.if_icmp .ne 6, 3) := by decide +kernel
theorem dX12_write_25 : decode cX12_write 25 = .ok (.bipush (-6), 2) := by decide +kernel
theorem dX12_write_27 : decode cX12_write 27 = .ok (.ireturn, 1) := by decide +kernel
theorem dX12_write_28 : decode cX12_write 28 = .ok (.iload_n 2, 1) := by decide +kernel
theorem dX12_write_29 : decode cX12_write 29 = .ok (.i2l, 1) := by decide +kernel
theorem dX12_write_30 : decode cX12_write 30 = .ok (.lconst 0, 1) := by decide +kernel
theorem dX12_write_31 : decode cX12_write 31 = .ok (.aload_n 0, 1) := by decide +kernel
theorem dX12_write_32 : decode cX12_write 32 = .ok (.getfield 13, 3) := by decide +kernel
theorem dX12_write_35 : decode cX12_write 35 = .ok (.iload_n 1, 1) := by decide +kernel
theorem dX12_write_36 : decode cX12_write 36 = .ok (.iaload, 1) := by decide +kernel
theorem dX12_write_37 : decode cX12_write 37 = .ok (.iconst 1, 1) := by decide +kernel
theorem dX12_write_38 : decode cX12_write 38 = .ok (.isub, 1) := by decide +kernel
theorem dX12_write_39 : decode cX12_write 39 = .ok (.i2l, 1) := by decide +kernel
theorem dX12_write_40 : decode cX12_write 40 = .ok (.invokestatic 79, 3) := by decide +kernel
theorem dX12_write_43 : decode cX12_write 43 = .ok (.ifCond .ne 6, 3) := by decide +kernel
theorem dX12_write_46 : decode cX12_write 46 = .ok (.bipush (-7), 2) := by decide +kernel
theorem dX12_write_48 : decode cX12_write 48 = .ok (.ireturn, 1) := by decide +kernel
theorem dX12_write_49 : decode cX12_write 49 = .ok (.aload_n 0, 1) := by decide +kernel
theorem dX12_write_50 : decode cX12_write 50 = .ok (.getfield 16, 3) := by decide +kernel
theorem dX12_write_53 : decode cX12_write 53 = .ok (.bipush 60, 2) := by decide +kernel
theorem dX12_write_55 : decode cX12_write 55 = .ok (.iload_n 1, 1) := by decide +kernel
theorem dX12_write_56 : decode cX12_write 56 = .ok (.imul, 1) := by decide +kernel
theorem dX12_write_57 : decode cX12_write 57 = .ok (.iload_n 2, 1) := by decide +kernel
theorem dX12_write_58 : decode cX12_write 58 = .ok (.iadd, 1) := by decide +kernel
theorem dX12_write_59 : decode cX12_write 59 = .ok (.lload_n 3, 1) := by decide +kernel
theorem dX12_write_60 : decode cX12_write 60 = .ok (.aload_n 0, 1) := by decide +kernel
theorem dX12_write_61 : decode cX12_write 61 = .ok (.getfield 7, 3) := by decide +kernel
theorem dX12_write_64 : decode cX12_write 64 = .ok (.iload_n 1, 1) := by decide +kernel
theorem dX12_write_65 : decode cX12_write 65 = .ok (.iaload, 1) := by decide +kernel
theorem dX12_write_66 : decode cX12_write 66 = .ok (.invokestatic 87, 3) := by decide +kernel
theorem dX12_write_69 : decode cX12_write 69 = .ok (.lastore, 1) := by decide +kernel
theorem dX12_write_70 : decode cX12_write 70 = .ok (.iconst 0, 1) := by decide +kernel
theorem dX12_write_71 : decode cX12_write 71 = .ok (.ireturn, 1) := by decide +kernel
