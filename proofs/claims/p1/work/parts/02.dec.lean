theorem dX9_isSlot_0 : decode cX9_isSlot 0 = .ok (.iload_n 0, 1) := by decide +kernel
theorem dX9_isSlot_1 : decode cX9_isSlot 1 = .ok (.ifCond .lt 13, 3) := by decide +kernel
theorem dX9_isSlot_4 : decode cX9_isSlot 4 = .ok (.iload_n 0, 1) := by decide +kernel
theorem dX9_isSlot_5 : decode cX9_isSlot 5 = .ok (.bipush 8, 2) := by decide +kernel
theorem dX9_isSlot_7 : decode cX9_isSlot 7 = .ok (.if_icmp .ge 7, 3) := by decide +kernel
theorem dX9_isSlot_10 : decode cX9_isSlot 10 = .ok (.iconst 1, 1) := by decide +kernel
theorem dX9_isSlot_11 : decode cX9_isSlot 11 = .ok (.goto 4, 3) := by decide +kernel
theorem dX9_isSlot_14 : decode cX9_isSlot 14 = .ok (.iconst 0, 1) := by decide +kernel
theorem dX9_isSlot_15 : decode cX9_isSlot 15 = .ok (.ireturn, 1) := by decide +kernel
theorem dX9_isErrand_0 : decode cX9_isErrand 0 = .ok (.iload_n 0, 1) := by decide +kernel
theorem dX9_isErrand_1 : decode cX9_isErrand 1 = .ok (.ifCond .lt 13, 3) := by decide +kernel
theorem dX9_isErrand_4 : decode cX9_isErrand 4 = .ok (.iload_n 0, 1) := by decide +kernel
theorem dX9_isErrand_5 : decode cX9_isErrand 5 = .ok (.bipush 8, 2) := by decide +kernel
theorem dX9_isErrand_7 : decode cX9_isErrand 7 = .ok (.if_icmp .ge 7, 3) := by decide +kernel
theorem dX9_isErrand_10 : decode cX9_isErrand 10 = .ok (.iconst 1, 1) := by decide +kernel
theorem dX9_isErrand_11 : decode cX9_isErrand 11 = .ok (.goto 4, 3) := by decide +kernel
theorem dX9_isErrand_14 : decode cX9_isErrand 14 = .ok (.iconst 0, 1) := by decide +kernel
theorem dX9_isErrand_15 : decode cX9_isErrand 15 = .ok (.ireturn, 1) := by decide +kernel
theorem dX9_fits_0 : decode cX9_fits 0 = .ok (.iload_n 0, 1) := by decide +kernel
theorem dX9_fits_1 : decode cX9_fits 1 = .ok (.tableswitch 161 0 12 #[67, 67, 67, 67, 72, 94, 159, 159, 117, 132, 159, 159, 159], 67) := by decide +kernel
theorem dX9_fits_68 : decode cX9_fits 68 = .ok (.iload_n 1, 1) := by decide +kernel
theorem dX9_fits_69 : decode cX9_fits 69 = .ok (.invokestatic 62, 3) := by decide +kernel
theorem dX9_fits_72 : decode cX9_fits 72 = .ok (.ireturn, 1) := by decide +kernel
theorem dX9_fits_73 : decode cX9_fits 73 = .ok (.iload_n 1, 1) := by decide +kernel
theorem dX9_fits_74 : decode cX9_fits 74 = .ok (.invokestatic 111, 3) := by decide +kernel
theorem dX9_fits_77 : decode cX9_fits 77 = .ok (.ifCond .eq 16, 3) := by decide +kernel
theorem dX9_fits_80 : decode cX9_fits 80 = .ok (.iload_n 2, 1) := by decide +kernel
theorem dX9_fits_81 : decode cX9_fits 81 = .ok (.ifCond .eq 8, 3) := by decide +kernel
theorem dX9_fits_84 : decode cX9_fits 84 = .ok (.iload_n 2, 1) := by decide +kernel
theorem dX9_fits_85 : decode cX9_fits 85 = .ok (.iconst 1, 1) := by decide +kernel
theorem dX9_fits_86 : decode cX9_fits 86 = .ok (.if_icmp .ne 7, 3) := by decide +kernel
theorem dX9_fits_89 : decode cX9_fits 89 = .ok (.iconst 1, 1) := by decide +kernel
theorem dX9_fits_90 : decode cX9_fits 90 = .ok (.goto 4, 3) := by decide +kernel
theorem dX9_fits_93 : decode cX9_fits 93 = .ok (.iconst 0, 1) := by decide +kernel
theorem dX9_fits_94 : decode cX9_fits 94 = .ok (.ireturn, 1) := by decide +kernel
theorem dX9_fits_95 : decode cX9_fits 95 = .ok (.iload_n 1, 1) := by decide +kernel
theorem dX9_fits_96 : decode cX9_fits 96 = .ok (.invokestatic 111, 3) := by decide +kernel
theorem dX9_fits_99 : decode cX9_fits 99 = .ok (.ifCond .eq 17, 3) := by decide +kernel
theorem dX9_fits_102 : decode cX9_fits 102 = .ok (.iload_n 2, 1) := by decide +kernel
theorem dX9_fits_103 : decode cX9_fits 103 = .ok (.iconst 2, 1) := by decide +kernel
theorem dX9_fits_104 : decode cX9_fits 104 = .ok (.if_icmp .lt 12, 3) := by decide +kernel
theorem dX9_fits_107 : decode cX9_fits 107 = .ok (.iload_n 2, 1) := by decide +kernel
theorem dX9_fits_108 : decode cX9_fits 108 = .ok (.iconst 4, 1) := by decide +kernel
theorem dX9_fits_109 : decode cX9_fits 109 = .ok (.if_icmp .gt 7, 3) := by decide +kernel
theorem dX9_fits_112 : decode cX9_fits 112 = .ok (.iconst 1, 1) := by decide +kernel
theorem dX9_fits_113 : decode cX9_fits 113 = .ok (.goto 4, 3) := by decide +kernel
theorem dX9_fits_116 : decode cX9_fits 116 = .ok (.iconst 0, 1) := by decide +kernel
theorem dX9_fits_117 : decode cX9_fits 117 = .ok (.ireturn, 1) := by decide +kernel
theorem dX9_fits_118 : decode cX9_fits 118 = .ok (.iload_n 1, 1) := by decide +kernel
theorem dX9_fits_119 : decode cX9_fits 119 = .ok (.ifCond .lt 12, 3) := by decide +kernel
theorem dX9_fits_122 : decode cX9_fits 122 = .ok (.iload_n 1, 1) := by decide +kernel
theorem dX9_fits_123 : decode cX9_fits 123 = .ok (.iconst 4, 1) := by decide +kernel
theorem dX9_fits_124 : decode cX9_fits 124 = .ok (.if_icmp .ge 7, 3) := by decide +kernel
theorem dX9_fits_127 : decode cX9_fits 127 = .ok (.iconst 1, 1) := by decide +kernel
theorem dX9_fits_128 : decode cX9_fits 128 = .ok (.goto 4, 3) := by decide +kernel
theorem dX9_fits_131 : decode cX9_fits 131 = .ok (.iconst 0, 1) := by decide +kernel
theorem dX9_fits_132 : decode cX9_fits 132 = .ok (.ireturn, 1) := by decide +kernel
theorem dX9_fits_133 : decode cX9_fits 133 = .ok (.iload_n 1, 1) := by decide +kernel
theorem dX9_fits_134 : decode cX9_fits 134 = .ok (.ifCond .lt 24, 3) := by decide +kernel
theorem dX9_fits_137 : decode cX9_fits 137 = .ok (.iload_n 1, 1) := by decide +kernel
theorem dX9_fits_138 : decode cX9_fits 138 = .ok (.bipush 8, 2) := by decide +kernel
theorem dX9_fits_140 : decode cX9_fits 140 = .ok (.if_icmp .gt 18, 3) := by decide +kernel
theorem dX9_fits_143 : decode cX9_fits 143 = .ok (.iload_n 2, 1) := by decide +kernel
theorem dX9_fits_144 : decode cX9_fits 144 = .ok (.iload_n 3, 1) := by decide +kernel
theorem dX9_fits_145 : decode cX9_fits 145 = .ok (.if_icmp .le 13, 3) := by decide +kernel
theorem dX9_fits_148 : decode cX9_fits 148 = .ok (.iload_n 2, 1) := by decide +kernel
theorem dX9_fits_149 : decode cX9_fits 149 = .ok (.bipush 24, 2) := by decide +kernel
theorem dX9_fits_151 : decode cX9_fits 151 = .ok (.if_icmp .gt 7, 3) := by decide +kernel
theorem dX9_fits_154 : decode cX9_fits 154 = .ok (.iconst 1, 1) := by decide +kernel
theorem dX9_fits_155 : decode cX9_fits 155 = .ok (.goto 4, 3) := by decide +kernel
theorem dX9_fits_158 : decode cX9_fits 158 = .ok (.iconst 0, 1) := by decide +kernel
theorem dX9_fits_159 : decode cX9_fits 159 = .ok (.ireturn, 1) := by decide +kernel
theorem dX9_fits_160 : decode cX9_fits 160 = .ok (.iconst 1, 1) := by decide +kernel
theorem dX9_fits_161 : decode cX9_fits 161 = .ok (.ireturn, 1) := by decide +kernel
theorem dX9_fits_162 : decode cX9_fits 162 = .ok (.iconst 0, 1) := by decide +kernel
theorem dX9_fits_163 : decode cX9_fits 163 = .ok (.ireturn, 1) := by decide +kernel
theorem dX10_isSlot_0 : decode cX10_isSlot 0 = .ok (.iload_n 0, 1) := by decide +kernel
theorem dX10_isSlot_1 : decode cX10_isSlot 1 = .ok (.ifCond .lt 13, 3) := by decide +kernel
theorem dX10_isSlot_4 : decode cX10_isSlot 4 = .ok (.iload_n 0, 1) := by decide +kernel
theorem dX10_isSlot_5 : decode cX10_isSlot 5 = .ok (.bipush 8, 2) := by decide +kernel
theorem dX10_isSlot_7 : decode cX10_isSlot 7 = .ok (.if_icmp .ge 7, 3) := by decide +kernel
theorem dX10_isSlot_10 : decode cX10_isSlot 10 = .ok (.iconst 1, 1) := by decide +kernel
theorem dX10_isSlot_11 : decode cX10_isSlot 11 = .ok (.goto 4, 3) := by decide +kernel
theorem dX10_isSlot_14 : decode cX10_isSlot 14 = .ok (.iconst 0, 1) := by decide +kernel
theorem dX10_isSlot_15 : decode cX10_isSlot 15 = .ok (.ireturn, 1) := by decide +kernel
theorem dX10_isErrand_0 : decode cX10_isErrand 0 = .ok (.iload_n 0, 1) := by decide +kernel
theorem dX10_isErrand_1 : decode cX10_isErrand 1 = .ok (.ifCond .lt 13, 3) := by decide +kernel
theorem dX10_isErrand_4 : decode cX10_isErrand 4 = .ok (.iload_n 0, 1) := by decide +kernel
theorem dX10_isErrand_5 : decode cX10_isErrand 5 = .ok (.bipush 8, 2) := by decide +kernel
theorem dX10_isErrand_7 : decode cX10_isErrand 7 = .ok (.if_icmp .ge 7, 3) := by decide +kernel
theorem dX10_isErrand_10 : decode cX10_isErrand 10 = .ok (.iconst 1, 1) := by decide +kernel
theorem dX10_isErrand_11 : decode cX10_isErrand 11 = .ok (.goto 4, 3) := by decide +kernel
theorem dX10_isErrand_14 : decode cX10_isErrand 14 = .ok (.iconst 0, 1) := by decide +kernel
theorem dX10_isErrand_15 : decode cX10_isErrand 15 = .ok (.ireturn, 1) := by decide +kernel
theorem dX10_areGood_0 : decode cX10_areGood 0 = .ok (.iload_n 0, 1) := by decide +kernel
theorem dX10_areGood_1 : decode cX10_areGood 1 = .ok (.ifCond .lt 9, 3) := by decide +kernel
theorem dX10_areGood_4 : decode cX10_areGood 4 = .ok (.iload_n 0, 1) := by decide +kernel
theorem dX10_areGood_5 : decode cX10_areGood 5 = .ok (.bipush 12, 2) := by decide +kernel
theorem dX10_areGood_7 : decode cX10_areGood 7 = .ok (.if_icmp .le 5, 3) := by decide +kernel
theorem dX10_areGood_10 : decode cX10_areGood 10 = .ok (.iconst 0, 1) := by decide +kernel
theorem dX10_areGood_11 : decode cX10_areGood 11 = .ok (.ireturn, 1) := by decide +kernel
theorem dX10_areGood_12 : decode cX10_areGood 12 = .ok (.iload_n 0, 1) := by decide +kernel
theorem dX10_areGood_13 : decode cX10_areGood 13 = .ok (.iconst 4, 1) := by decide +kernel
theorem dX10_areGood_14 : decode cX10_areGood 14 = .ok (.if_icmp .ge 8, 3) := by decide +kernel
theorem dX10_areGood_17 : decode cX10_areGood 17 = .ok (.iload_n 1, 1) := by decide +kernel
theorem dX10_areGood_18 : decode cX10_areGood 18 = .ok (.invokestatic 172, 3) := by decide +kernel
theorem dX10_areGood_21 : decode cX10_areGood 21 = .ok (.ireturn, 1) := by decide +kernel
theorem dX10_areGood_22 : decode cX10_areGood 22 = .ok (.iload_n 0, 1) := by decide +kernel
theorem dX10_areGood_23 : decode cX10_areGood 23 = .ok (.iconst 4, 1) := by decide +kernel
theorem dX10_areGood_24 : decode cX10_areGood 24 = .ok (.if_icmp .ne 25, 3) := by decide +kernel
theorem dX10_areGood_27 : decode cX10_areGood 27 = .ok (.iload_n 1, 1) := by decide +kernel
theorem dX10_areGood_28 : decode cX10_areGood 28 = .ok (.invokestatic 179, 3) := by decide +kernel
theorem dX10_areGood_31 : decode cX10_areGood 31 = .ok (.ifCond .eq 16, 3) := by decide +kernel
theorem dX10_areGood_34 : decode cX10_areGood 34 = .ok (.iload_n 2, 1) := by decide +kernel
theorem dX10_areGood_35 : decode cX10_areGood 35 = .ok (.ifCond .eq 8, 3) := by decide +kernel
theorem dX10_areGood_38 : decode cX10_areGood 38 = .ok (.iload_n 2, 1) := by decide +kernel
theorem dX10_areGood_39 : decode cX10_areGood 39 = .ok (.iconst 1, 1) := by decide +kernel
theorem dX10_areGood_40 : decode cX10_areGood 40 = .ok (.if_icmp .ne 7, 3) := by decide +kernel
theorem dX10_areGood_43 : decode cX10_areGood 43 = .ok (.iconst 1, 1) := by decide +kernel
theorem dX10_areGood_44 : decode cX10_areGood 44 = .ok (.goto 4, 3) := by decide +kernel
theorem dX10_areGood_47 : decode cX10_areGood 47 = .ok (.iconst 0, 1) := by decide +kernel
theorem dX10_areGood_48 : decode cX10_areGood 48 = .ok (.ireturn, 1) := by decide +kernel
theorem dX10_areGood_49 : decode cX10_areGood 49 = .ok (.iload_n 0, 1) := by decide +kernel
theorem dX10_areGood_50 : decode cX10_areGood 50 = .ok (.iconst 5, 1) := by decide +kernel
theorem dX10_areGood_51 : decode cX10_areGood 51 = .ok (.if_icmp .ne 26, 3) := by decide +kernel
theorem dX10_areGood_54 : decode cX10_areGood 54 = .ok (.iload_n 1, 1) := by decide +kernel
theorem dX10_areGood_55 : decode cX10_areGood 55 = .ok (.invokestatic 179, 3) := by decide +kernel
theorem dX10_areGood_58 : decode cX10_areGood 58 = .ok (.ifCond .eq 17, 3) := by decide +kernel
theorem dX10_areGood_61 : decode cX10_areGood 61 = .ok (.iload_n 2, 1) := by decide +kernel
theorem dX10_areGood_62 : decode cX10_areGood 62 = .ok (.iconst 2, 1) := by decide +kernel
theorem dX10_areGood_63 : decode cX10_areGood 63 = .ok (.if_icmp .lt 12, 3) := by decide +kernel
theorem dX10_areGood_66 : decode cX10_areGood 66 = .ok (.iload_n 2, 1) := by decide +kernel
theorem dX10_areGood_67 : decode cX10_areGood 67 = .ok (.iconst 4, 1) := by decide +kernel
theorem dX10_areGood_68 : decode cX10_areGood 68 = .ok (.if_icmp .gt 7, 3) := by decide +kernel
theorem dX10_areGood_71 : decode cX10_areGood 71 = .ok (.iconst 1, 1) := by decide +kernel
theorem dX10_areGood_72 : decode cX10_areGood 72 = .ok (.goto 4, 3) := by decide +kernel
theorem dX10_areGood_75 : decode cX10_areGood 75 = .ok (.iconst 0, 1) := by decide +kernel
theorem dX10_areGood_76 : decode cX10_areGood 76 = .ok (.ireturn, 1) := by decide +kernel
theorem dX10_areGood_77 : decode cX10_areGood 77 = .ok (.iload_n 0, 1) := by decide +kernel
theorem dX10_areGood_78 : decode cX10_areGood 78 = .ok (.bipush 8, 2) := by decide +kernel
theorem dX10_areGood_80 : decode cX10_areGood 80 = .ok (.if_icmp .ne 18, 3) := by decide +kernel
theorem dX10_areGood_83 : decode cX10_areGood 83 = .ok (.iload_n 1, 1) := by decide +kernel
theorem dX10_areGood_84 : decode cX10_areGood 84 = .ok (.ifCond .lt 12, 3) := by decide +kernel
theorem dX10_areGood_87 : decode cX10_areGood 87 = .ok (.iload_n 1, 1) := by decide +kernel
theorem dX10_areGood_88 : decode cX10_areGood 88 = .ok (.iconst 3, 1) := by decide +kernel
theorem dX10_areGood_89 : decode cX10_areGood 89 = .ok (.if_icmp .gt 7, 3) := by decide +kernel
theorem dX10_areGood_92 : decode cX10_areGood 92 = .ok (.iconst 1, 1) := by decide +kernel
theorem dX10_areGood_93 : decode cX10_areGood 93 = .ok (.goto 4, 3) := by decide +kernel
theorem dX10_areGood_96 : decode cX10_areGood 96 = .ok (.iconst 0, 1) := by decide +kernel
theorem dX10_areGood_97 : decode cX10_areGood 97 = .ok (.ireturn, 1) := by decide +kernel
theorem dX10_areGood_98 : decode cX10_areGood 98 = .ok (.iload_n 0, 1) := by decide +kernel
theorem dX10_areGood_99 : decode cX10_areGood 99 = .ok (.bipush 9, 2) := by decide +kernel
theorem dX10_areGood_101 : decode cX10_areGood 101 = .ok (.if_icmp .ne 24, 3) := by decide +kernel
theorem dX10_areGood_104 : decode cX10_areGood 104 = .ok (.iload_n 1, 1) := by decide +kernel
theorem dX10_areGood_105 : decode cX10_areGood 105 = .ok (.ifCond .lt 24, 3) := by decide +kernel
theorem dX10_areGood_108 : decode cX10_areGood 108 = .ok (.iload_n 1, 1) := by decide +kernel
theorem dX10_areGood_109 : decode cX10_areGood 109 = .ok (.bipush 8, 2) := by decide +kernel
theorem dX10_areGood_111 : decode cX10_areGood 111 = .ok (.if_icmp .gt 18, 3) := by decide +kernel
theorem dX10_areGood_114 : decode cX10_areGood 114 = .ok (.iload_n 2, 1) := by decide +kernel
theorem dX10_areGood_115 : decode cX10_areGood 115 = .ok (.iload_n 3, 1) := by decide +kernel
theorem dX10_areGood_116 : decode cX10_areGood 116 = .ok (.if_icmp .le 13, 3) := by decide +kernel
theorem dX10_areGood_119 : decode cX10_areGood 119 = .ok (.iload_n 2, 1) := by decide +kernel
theorem dX10_areGood_120 : decode cX10_areGood 120 = .ok (.bipush 24, 2) := by decide +kernel
theorem dX10_areGood_122 : decode cX10_areGood 122 = .ok (.if_icmp .gt 7, 3) := by decide +kernel
theorem dX10_areGood_125 : decode cX10_areGood 125 = .ok (.iconst 1, 1) := by decide +kernel
theorem dX10_areGood_126 : decode cX10_areGood 126 = .ok (.goto 4, 3) := by decide +kernel
theorem dX10_areGood_129 : decode cX10_areGood 129 = .ok (.iconst 0, 1) := by decide +kernel
theorem dX10_areGood_130 : decode cX10_areGood 130 = .ok (.ireturn, 1) := by decide +kernel
