theorem dX9_isSlot_0 : decode cX9_isSlot 0 = .ok (.iload_n 0, 1) := by decide +kernel
theorem dX9_isSlot_1 : decode cX9_isSlot 1 = .ok (.ifCond .lt 13, 3) := by decide +kernel
theorem dX9_isSlot_4 : decode cX9_isSlot 4 = .ok (.iload_n 0, 1) := by decide +kernel
theorem dX9_isSlot_5 : decode cX9_isSlot 5 = .ok (.bipush 8, 2) := by decide +kernel
theorem dX9_isSlot_7 : decode cX9_isSlot 7 = .ok (.if_icmp .ge 7, 3) := by decide +kernel
theorem dX9_isSlot_10 : decode cX9_isSlot 10 = .ok (.iconst 1, 1) := by decide +kernel
theorem dX9_isSlot_11 : decode cX9_isSlot 11 = .ok (.goto 4, 3) := by decide +kernel
theorem dX9_isSlot_14 : decode cX9_isSlot 14 = .ok (.iconst 0, 1) := by decide +kernel
theorem dX9_isSlot_15 : decode cX9_isSlot 15 = .ok (.ireturn, 1) := by decide +kernel
theorem dX9_isErrand_0 : decode cX9_isErrand 0 = .ok (.iload_n 0, 1) := by decide +kernel
theorem dX9_isErrand_1 : decode cX9_isErrand 1 = .ok (.ifCond .lt 13, 3) := by decide +kernel
theorem dX9_isErrand_4 : decode cX9_isErrand 4 = .ok (.iload_n 0, 1) := by decide +kernel
theorem dX9_isErrand_5 : decode cX9_isErrand 5 = .ok (.bipush 8, 2) := by decide +kernel
theorem dX9_isErrand_7 : decode cX9_isErrand 7 = .ok (.if_icmp .ge 7, 3) := by decide +kernel
theorem dX9_isErrand_10 : decode cX9_isErrand 10 = .ok (.iconst 1, 1) := by decide +kernel
theorem dX9_isErrand_11 : decode cX9_isErrand 11 = .ok (.goto 4, 3) := by decide +kernel
theorem dX9_isErrand_14 : decode cX9_isErrand 14 = .ok (.iconst 0, 1) := by decide +kernel
theorem dX9_isErrand_15 : decode cX9_isErrand 15 = .ok (.ireturn, 1) := by decide +kernel
theorem dX9_fits_0 : decode cX9_fits 0 = .ok (.iload_n 0, 1) := by decide +kernel
theorem dX9_fits_1 : decode cX9_fits 1 = .ok (.tableswitch 161 0 12 #[67, 67, 67, 67, 72, 94, 159, 159, 117, 132, 159, 159, 159], 67) := by decide +kernel
theorem dX9_fits_68 : decode cX9_fits 68 = .ok (.iload_n 1, 1) := by decide +kernel
theorem dX9_fits_69 : decode cX9_fits 69 = .ok (.invokestatic 62, 3) := by decide +kernel
theorem dX9_fits_72 : decode cX9_fits 72 = .ok (.ireturn, 1) := by decide +kernel
theorem dX9_fits_73 : decode cX9_fits 73 = .ok (.iload_n 1, 1) := by decide +kernel
theorem dX9_fits_74 : decode cX9_fits 74 = .ok (.invokestatic 111, 3) := by decide +kernel
theorem dX9_fits_77 : decode cX9_fits 77 = .ok (.ifCond .eq 16, 3) := by decide +kernel
theorem dX9_fits_80 : decode cX9_fits 80 = .ok (.iload_n 2, 1) := by decide +kernel
theorem dX9_fits_81 : decode cX9_fits 81 = .ok (.ifCond .eq 8, 3) := by decide +kernel
theorem dX9_fits_84 : decode cX9_fits 84 = .ok (.iload_n 2, 1) := by decide +kernel
theorem dX9_fits_85 : decode cX9_fits 85 = .ok (.iconst 1, 1) := by decide +kernel
theorem dX9_fits_86 : decode cX9_fits 86 = .ok (.if_icmp .ne 7, 3) := by decide +kernel
theorem dX9_fits_89 : decode cX9_fits 89 = .ok (.iconst 1, 1) := by decide +kernel
theorem dX9_fits_90 : decode cX9_fits 90 = .ok (.goto 4, 3) := by decide +kernel
theorem dX9_fits_93 : decode cX9_fits 93 = .ok (.iconst 0, 1) := by decide +kernel
theorem dX9_fits_94 : decode cX9_fits 94 = .ok (.ireturn, 1) := by decide +kernel
theorem dX9_fits_95 : decode cX9_fits 95 = .ok (.iload_n 1, 1) := by decide +kernel
theorem dX9_fits_96 : decode cX9_fits 96 = .ok (.invokestatic 111, 3) := by decide +kernel
theorem dX9_fits_99 : decode cX9_fits 99 = .ok (.ifCond .eq 17, 3) := by decide +kernel
theorem dX9_fits_102 : decode cX9_fits 102 = .ok (.iload_n 2, 1) := by decide +kernel
theorem dX9_fits_103 : decode cX9_fits 103 = .ok (.iconst 2, 1) := by decide +kernel
theorem dX9_fits_104 : decode cX9_fits 104 = .ok (.if_icmp .lt 12, 3) := by decide +kernel
theorem dX9_fits_107 : decode cX9_fits 107 = .ok (.iload_n 2, 1) := by decide +kernel
theorem dX9_fits_108 : decode cX9_fits 108 = .ok (.iconst 4, 1) := by decide +kernel
theorem dX9_fits_109 : decode cX9_fits 109 = .ok (.if_icmp .gt 7, 3) := by decide +kernel
theorem dX9_fits_112 : decode cX9_fits 112 = .ok (.iconst 1, 1) := by decide +kernel
theorem dX9_fits_113 : decode cX9_fits 113 = .ok (.goto 4, 3) := by decide +kernel
theorem dX9_fits_116 : decode cX9_fits 116 = .ok (.iconst 0, 1) := by decide +kernel
theorem dX9_fits_117 : decode cX9_fits 117 = .ok (.ireturn, 1) := by decide +kernel
theorem dX9_fits_118 : decode cX9_fits 118 = .ok (.iload_n 1, 1) := by decide +kernel
theorem dX9_fits_119 : decode cX9_fits 119 = .ok (.ifCond .lt 12, 3) := by decide +kernel
theorem dX9_fits_122 : decode cX9_fits 122 = .ok (.iload_n 1, 1) := by decide +kernel
theorem dX9_fits_123 : decode cX9_fits 123 = .ok (.iconst 4, 1) := by decide +kernel
theorem dX9_fits_124 : decode cX9_fits 124 = .ok (.if_icmp .ge 7, 3) := by decide +kernel
theorem dX9_fits_127 : decode cX9_fits 127 = .ok (.iconst 1, 1) := by decide +kernel
theorem dX9_fits_128 : decode cX9_fits 128 = .ok (.goto 4, 3) := by decide +kernel
theorem dX9_fits_131 : decode cX9_fits 131 = .ok (.iconst 0, 1) := by decide +kernel
theorem dX9_fits_132 : decode cX9_fits 132 = .ok (.ireturn, 1) := by decide +kernel
theorem dX9_fits_133 : decode cX9_fits 133 = .ok (.iload_n 1, 1) := by decide +kernel
theorem dX9_fits_134 : decode cX9_fits 134 = .ok (.ifCond .lt 24, 3) := by decide +kernel
theorem dX9_fits_137 : decode cX9_fits 137 = .ok (.iload_n 1, 1) := by decide +kernel
theorem dX9_fits_138 : decode cX9_fits 138 = .ok (.bipush 8, 2) := by decide +kernel
theorem dX9_fits_140 : decode cX9_fits 140 = .ok (.if_icmp .gt 18, 3) := by decide +kernel
theorem dX9_fits_143 : decode cX9_fits 143 = .ok (.iload_n 2, 1) := by decide +kernel
theorem dX9_fits_144 : decode cX9_fits 144 = .ok (.iload_n 3, 1) := by decide +kernel
theorem dX9_fits_145 : decode cX9_fits 145 = .ok (.if_icmp .le 13, 3) := by decide +kernel
theorem dX9_fits_148 : decode cX9_fits 148 = .ok (.iload_n 2, 1) := by decide +kernel
theorem dX9_fits_149 : decode cX9_fits 149 = .ok (.bipush 24, 2) := by decide +kernel
theorem dX9_fits_151 : decode cX9_fits 151 = .ok (.if_icmp .gt 7, 3) := by decide +kernel
theorem dX9_fits_154 : decode cX9_fits 154 = .ok (.iconst 1, 1) := by decide +kernel
theorem dX9_fits_155 : decode cX9_fits 155 = .ok (.goto 4, 3) := by decide +kernel
theorem dX9_fits_158 : decode cX9_fits 158 = .ok (.iconst 0, 1) := by decide +kernel
theorem dX9_fits_159 : decode cX9_fits 159 = .ok (.ireturn, 1) := by decide +kernel
theorem dX9_fits_160 : decode cX9_fits 160 = .ok (.iconst 1, 1) := by decide +kernel
theorem dX9_fits_161 : decode cX9_fits 161 = .ok (.ireturn, 1) := by decide +kernel
theorem dX9_fits_162 : decode cX9_fits 162 = .ok (.iconst 0, 1) := by decide +kernel
theorem dX9_fits_163 : decode cX9_fits 163 = .ok (.ireturn, 1) := by decide +kernel
theorem dX10_isSlot_0 : decode cX10_isSlot 0 = .ok (.iload_n 0, 1) := by decide +kernel
theorem dX10_isSlot_1 : decode cX10_isSlot 1 = .ok (.ifCond .lt 13, 3) := by decide +kernel
theorem dX10_isSlot_4 : decode cX10_isSlot 4 = .ok (.iload_n 0, 1) := by decide +kernel
theorem dX10_isSlot_5 : decode cX10_isSlot 5 = .ok (.bipush 8, 2) := by decide +kernel
theorem dX10_isSlot_7 : decode cX10_isSlot 7 = .ok (.if_icmp .ge 7, 3) := by decide +kernel
theorem dX10_isSlot_10 : decode cX10_isSlot 10 = .ok (.iconst 1, 1) := by decide +kernel
theorem dX10_isSlot_11 : decode cX10_isSlot 11 = .ok (.goto 4, 3) := by decide +kernel
theorem dX10_isSlot_14 : decode cX10_isSlot 14 = .ok (.iconst 0, 1) := by decide +kernel
theorem dX10_isSlot_15 : decode cX10_isSlot 15 = .ok (.ireturn, 1) := by decide +kernel
theorem dX10_isErrand_0 : decode cX10_isErrand 0 = .ok (.iload_n 0, 1) := by decide +kernel
theorem dX10_isErrand_1 : decode cX10_isErrand 1 = .ok (.ifCond .lt 13, 3) := by decide +kernel
theorem dX10_isErrand_4 : decode cX10_isErrand 4 = .ok (.iload_n 0, 1) := by decide +kernel
theorem dX10_isErrand_5 : decode cX10_isErrand 5 = .ok (.bipush 8, 2) := by decide +kernel
theorem dX10_isErrand_7 : decode cX10_isErrand 7 = .ok (.if_icmp .ge 7, 3) := by decide +kernel
theorem dX10_isErrand_10 : decode cX10_isErrand 10 = .ok (.iconst 1, 1) := by decide +kernel
theorem dX10_isErrand_11 : decode cX10_isErrand 11 = .ok (.goto 4, 3) := by decide +kernel
theorem dX10_isErrand_14 : decode cX10_isErrand 14 = .ok (.iconst 0, 1) := by decide +kernel
theorem dX10_isErrand_15 : decode cX10_isErrand 15 = .ok (.ireturn, 1) := by decide +kernel
theorem dX10_areGood_0 : decode cX10_areGood 0 = .ok (.iload_n 0, 1) := by decide +kernel
theorem dX10_areGood_1 : decode cX10_areGood 1 = .ok (.ifCond .lt 9, 3) := by decide +kernel
theorem dX10_areGood_4 : decode cX10_areGood 4 = .ok (.iload_n 0, 1) := by decide +kernel
theorem dX10_areGood_5 : decode cX10_areGood 5 = .ok (.bipush 12, 2) := by decide +kernel
theorem dX10_areGood_7 : decode cX10_areGood 7 = .ok (.if_icmp .le 5, 3) := by decide +kernel
theorem dX10_areGood_10 : decode cX10_areGood 10 = .ok (.iconst 0, 1) := by decide +kernel
theorem dX10_areGood_11 : decode cX10_areGood 11 = .ok (.ireturn, 1) := by decide +kernel
theorem dX10_areGood_12 : decode cX10_areGood 12 = .ok (.iload_n 0, 1) := by decide +kernel
theorem dX10_areGood_13 : decode cX10_areGood 13 = .ok (.iconst 4, 1) := by decide +kernel
theorem dX10_areGood_14 : decode cX10_areGood 14 = .ok (.if_icmp .ge 8, 3) := by decide +kernel
theorem dX10_areGood_17 : decode cX10_areGood 17 = .ok (.iload_n 1, 1) := by decide +kernel
theorem dX10_areGood_18 : decode cX10_areGood 18 = .ok (.invokestatic 172, 3) := by decide +kernel
theorem dX10_areGood_21 : decode cX10_areGood 21 = .ok (.ireturn, 1) := by decide +kernel
theorem dX10_areGood_22 : decode cX10_areGood 22 = .ok (.iload_n 0, 1) := by decide +kernel
theorem dX10_areGood_23 : decode cX10_areGood 23 = .ok (.iconst 4, 1) := by decide +kernel
theorem dX10_areGood_24 : decode cX10_areGood 24 = .ok (.if_icmp .ne 25, 3) := by decide +kernel
theorem dX10_areGood_27 : decode cX10_areGood 27 = .ok (.iload_n 1, 1) := by decide +kernel
theorem dX10_areGood_28 : decode cX10_areGood 28 = .ok (.invokestatic 179, 3) := by decide +kernel
theorem dX10_areGood_31 : decode cX10_areGood 31 = .ok (.ifCond .eq 16, 3) := by decide +kernel
theorem dX10_areGood_34 : decode cX10_areGood 34 = .ok (.iload_n 2, 1) := by decide +kernel
theorem dX10_areGood_35 : decode cX10_areGood 35 = .ok (.ifCond .eq 8, 3) := by decide +kernel
theorem dX10_areGood_38 : decode cX10_areGood 38 = .ok (.iload_n 2, 1) := by decide +kernel
theorem dX10_areGood_39 : decode cX10_areGood 39 = .ok (.iconst 1, 1) := by decide +kernel
theorem dX10_areGood_40 : decode cX10_areGood 40 = .ok (.if_icmp .ne 7, 3) := by decide +kernel
theorem dX10_areGood_43 : decode cX10_areGood 43 = .ok (.iconst 1, 1) := by decide +kernel
theorem dX10_areGood_44 : decode cX10_areGood 44 = .ok (.goto 4, 3) := by decide +kernel
theorem dX10_areGood_47 : decode cX10_areGood 47 = .ok (.iconst 0, 1) := by decide +kernel
theorem dX10_areGood_48 : decode cX10_areGood 48 = .ok (.ireturn, 1) := by decide +kernel
theorem dX10_areGood_49 : decode cX10_areGood 49 = .ok (.iload_n 0, 1) := by decide +kernel
theorem dX10_areGood_50 : decode cX10_areGood 50 = .ok (.iconst 5, 1) := by decide +kernel
theorem dX10_areGood_51 : decode cX10_areGood 51 = .ok (.if_icmp .ne 26, 3) := by decide +kernel
theorem dX10_areGood_54 : decode cX10_areGood 54 = .ok (.iload_n 1, 1) := by decide +kernel
theorem dX10_areGood_55 : decode cX10_areGood 55 = .ok (.invokestatic 179, 3) := by decide +kernel
theorem dX10_areGood_58 : decode cX10_areGood 58 = .ok (.ifCond .eq 17, 3) := by decide +kernel
theorem dX10_areGood_61 : decode cX10_areGood 61 = .ok (.iload_n 2, 1) := by decide +kernel
theorem dX10_areGood_62 : decode cX10_areGood 62 = .ok (.iconst 2, 1) := by decide +kernel
theorem dX10_areGood_63 : decode cX10_areGood 63 = .ok (.if_icmp .lt 12, 3) := by decide +kernel
theorem dX10_areGood_66 : decode cX10_areGood 66 = .ok (.iload_n 2, 1) := by decide +kernel
theorem dX10_areGood_67 : decode cX10_areGood 67 = .ok (.iconst 4, 1) := by decide +kernel
theorem dX10_areGood_68 : decode cX10_areGood 68 = .ok (.if_icmp .gt 7, 3) := by decide +kernel
theorem dX10_areGood_71 : decode cX10_areGood 71 = .ok (.iconst 1, 1) := by decide +kernel
theorem dX10_areGood_72 : decode cX10_areGood 72 = .ok (.goto 4, 3) := by decide +kernel
theorem dX10_areGood_75 : decode cX10_areGood 75 = .ok (.iconst 0, 1) := by decide +kernel
theorem dX10_areGood_76 : decode cX10_areGood 76 = .ok (.ireturn, 1) := by decide +kernel
theorem dX10_areGood_77 : decode cX10_areGood 77 = .ok (.iload_n 0, 1) := by decide +kernel
theorem dX10_areGood_78 : decode cX10_areGood 78 = .ok (.bipush 8, 2) := by decide +kernel
theorem dX10_areGood_80 : decode cX10_areGood 80 = .ok (.if_icmp .ne 18, 3) := by decide +kernel
theorem dX10_areGood_83 : decode cX10_areGood 83 = .ok (.iload_n 1, 1) := by decide +kernel
theorem dX10_areGood_84 : decode cX10_areGood 84 = .ok (.ifCond .lt 12, 3) := by decide +kernel
theorem dX10_areGood_87 : decode cX10_areGood 87 = .ok (.iload_n 1, 1) := by decide +kernel
theorem dX10_areGood_88 : decode cX10_areGood 88 = .ok (.iconst 3, 1) := by decide +kernel
theorem dX10_areGood_89 : decode cX10_areGood 89 = .ok (.if_icmp .gt 7, 3) := by decide +kernel
theorem dX10_areGood_92 : decode cX10_areGood 92 = .ok (.iconst 1, 1) := by decide +kernel
theorem dX10_areGood_93 : decode cX10_areGood 93 = .ok (.goto 4, 3) := by decide +kernel
theorem dX10_areGood_96 : decode cX10_areGood 96 = .ok (.iconst 0, 1) := by decide +kernel
theorem dX10_areGood_97 : decode cX10_areGood 97 = .ok (.ireturn, 1) := by decide +kernel
theorem dX10_areGood_98 : decode cX10_areGood 98 = .ok (.iload_n 0, 1) := by decide +kernel
theorem dX10_areGood_99 : decode cX10_areGood 99 = .ok (.bipush 9, 2) := by decide +kernel
theorem dX10_areGood_101 : decode cX10_areGood 101 = .ok (.if_icmp .ne 24, 3) := by decide +kernel
theorem dX10_areGood_104 : decode cX10_areGood 104 = .ok (.iload_n 1, 1) := by decide +kernel
theorem dX10_areGood_105 : decode cX10_areGood 105 = .ok (.ifCond .lt 24, 3) := by decide +kernel
theorem dX10_areGood_108 : decode cX10_areGood 108 = .ok (.iload_n 1, 1) := by decide +kernel
theorem dX10_areGood_109 : decode cX10_areGood 109 = .ok (.bipush 8, 2) := by decide +kernel
theorem dX10_areGood_111 : decode cX10_areGood 111 = .ok (.if_icmp .gt 18, 3) := by decide +kernel
theorem dX10_areGood_114 : decode cX10_areGood 114 = .ok (.iload_n 2, 1) := by decide +kernel
theorem dX10_areGood_115 : decode cX10_areGood 115 = .ok (.iload_n 3, 1) := by decide +kernel
theorem dX10_areGood_116 : decode cX10_areGood 116 = .ok (.if_icmp .le 13, 3) := by decide +kernel
theorem dX10_areGood_119 : decode cX10_areGood 119 = .ok (.iload_n 2, 1) := by decide +kernel
theorem dX10_areGood_120 : decode cX10_areGood 120 = .ok (.bipush 24, 2) := by decide +kernel
theorem dX10_areGood_122 : decode cX10_areGood 122 = .ok (.if_icmp .gt 7, 3) := by decide +kernel
theorem dX10_areGood_125 : decode cX10_areGood 125 = .ok (.iconst 1, 1) := by decide +kernel
theorem dX10_areGood_126 : decode cX10_areGood 126 = .ok (.goto 4, 3) := by decide +kernel
theorem dX10_areGood_129 : decode cX10_areGood 129 = .ok (.iconst 0, 1) := by decide +kernel
theorem dX10_areGood_130 : decode cX10_areGood 130 = .ok (.ireturn, 1) := by decide +kernel
theorem dX10_isRun_0 : decode cX10_isRun 0 = .ok (.iload_n 1, 1) := by decide +kernel
theorem dX10_isRun_1 : decode cX10_isRun 1 = .ok (.ifCond .lt 15, 3) := by decide +kernel
theorem dX10_isRun_4 : decode cX10_isRun 4 = .ok (.iload_n 1, 1) := by decide +kernel
theorem dX10_isRun_5 : decode cX10_isRun 5 = .ok (.aload_n 0, 1) := by decide +kernel
theorem dX10_isRun_6 : decode cX10_isRun 6 = .ok (.getfield 176, 3) := by decide +kernel
theorem dX10_isRun_9 : decode cX10_isRun 9 = .ok (.if_icmp .ge 7, 3) := by decide +kernel
theorem dX10_isRun_12 : decode cX10_isRun 12 = .ok (.iconst 1, 1) := by decide +kernel
theorem dX10_isRun_13 : decode cX10_isRun 13 = .ok (.goto 4, 3) := by decide +kernel
theorem dX10_isRun_16 : decode cX10_isRun 16 = .ok (.iconst 0, 1) := by decide +kernel
theorem dX10_isRun_17 : decode cX10_isRun 17 = .ok (.ireturn, 1) := by decide +kernel
theorem dX10_isOver_0 : decode cX10_isOver 0 = .ok (.aload_n 0, 1) := by decide +kernel
theorem dX10_isOver_1 : decode cX10_isOver 1 = .ok (.getfield 45, 3) := by decide +kernel
theorem dX10_isOver_4 : decode cX10_isOver 4 = .ok (.iload_n 1, 1) := by decide +kernel
theorem dX10_isOver_5 : decode cX10_isOver 5 = .ok (.iaload, 1) := by decide +kernel
theorem dX10_isOver_6 : decode cX10_isOver 6 = .ok (.iconst 3, 1) := by decide +kernel
theorem dX10_isOver_7 : decode cX10_isOver 7 = .ok (.if_icmp .eq 13, 3) := by decide +kernel
theorem dX10_isOver_10 : decode cX10_isOver 10 = .ok (.aload_n 0, 1) := by decide +kernel
theorem dX10_isOver_11 : decode cX10_isOver 11 = .ok (.getfield 45, 3) := by decide +kernel
theorem dX10_isOver_14 : decode cX10_isOver 14 = .ok (.iload_n 1, 1) := by decide +kernel
theorem dX10_isOver_15 : decode cX10_isOver 15 = .ok (.iaload, 1) := by decide +kernel
theorem dX10_isOver_16 : decode cX10_isOver 16 = .ok (.iconst 4, 1) := by decide +kernel
theorem dX10_isOver_17 : decode cX10_isOver 17 = .ok (.if_icmp .ne 7, 3) := by decide +kernel
theorem dX10_isOver_20 : decode cX10_isOver 20 = .ok (.iconst 1, 1) := by decide +kernel
theorem dX10_isOver_21 : decode cX10_isOver 21 = .ok (.goto 4, 3) := by decide +kernel
theorem dX10_isOver_24 : decode cX10_isOver 24 = .ok (.iconst 0, 1) := by decide +kernel
theorem dX10_isOver_25 : decode cX10_isOver 25 = .ok (.ireturn, 1) := by decide +kernel
theorem dX10_binding_0 : decode cX10_binding 0 = .ok (.aload_n 0, 1) := by decide +kernel
theorem dX10_binding_1 : decode cX10_binding 1 = .ok (.getfield 114, 3) := by decide +kernel
theorem dX10_binding_4 : decode cX10_binding 4 = .ok (.iload_n 1, 1) := by decide +kernel
theorem dX10_binding_5 : decode cX10_binding 5 = .ok (.iaload, 1) := by decide +kernel
theorem dX10_binding_6 : decode cX10_binding 6 = .ok (.iconst 1, 1) := by decide +kernel
theorem dX10_binding_7 : decode cX10_binding 7 = .ok (.isub, 1) := by decide +kernel
theorem dX10_binding_8 : decode cX10_binding 8 = .ok (.istore_n 3, 1) := by decide +kernel
theorem dX10_binding_9 : decode cX10_binding 9 = .ok (.iload_n 3, 1) := by decide +kernel
theorem dX10_binding_10 : decode cX10_binding 10 = .ok (.ifCond .lt 31, 3) := by decide +kernel
theorem dX10_binding_13 : decode cX10_binding 13 = .ok (.aload_n 0, 1) := by decide +kernel
theorem dX10_binding_14 : decode cX10_binding 14 = .ok (.getfield 117, 3) := by decide +kernel
theorem dX10_binding_17 : decode cX10_binding 17 = .ok (.bipush 24, 2) := by decide +kernel
theorem dX10_binding_19 : decode cX10_binding 19 = .ok (.iload_n 1, 1) := by decide +kernel
theorem dX10_binding_20 : decode cX10_binding 20 = .ok (.imul, 1) := by decide +kernel
theorem dX10_binding_21 : decode cX10_binding 21 = .ok (.iload_n 3, 1) := by decide +kernel
theorem dX10_binding_22 : decode cX10_binding 22 = .ok (.iadd, 1) := by decide +kernel
theorem dX10_binding_23 : decode cX10_binding 23 = .ok (.iaload, 1) := by decide +kernel
theorem dX10_binding_24 : decode cX10_binding 24 = .ok (.iload_n 2, 1) := by decide +kernel
theorem dX10_binding_25 : decode cX10_binding 25 = .ok (.if_icmp .ne 10, 3) := by decide +kernel
theorem dX10_binding_28 : decode cX10_binding 28 = .ok (.bipush 24, 2) := by decide +kernel
theorem dX10_binding_30 : decode cX10_binding 30 = .ok (.iload_n 1, 1) := by decide +kernel
theorem dX10_binding_31 : decode cX10_binding 31 = .ok (.imul, 1) := by decide +kernel
theorem dX10_binding_32 : decode cX10_binding 32 = .ok (.iload_n 3, 1) := by decide +kernel
theorem dX10_binding_33 : decode cX10_binding 33 = .ok (.iadd, 1) := by decide +kernel
theorem dX10_binding_34 : decode cX10_binding 34 = .ok (.ireturn, 1) := by decide +kernel
theorem dX10_binding_35 : decode cX10_binding 35 = .ok (.iinc 3 (-1), 3) := by decide +kernel
theorem dX10_binding_38 : decode cX10_binding 38 = .ok (.goto (-29), 3) := by decide +kernel
theorem dX10_binding_41 : decode cX10_binding 41 = .ok (.iconst (-1), 1) := by decide +kernel
theorem dX10_binding_42 : decode cX10_binding 42 = .ok (.ireturn, 1) := by decide +kernel
theorem dX10_reads_0 : decode cX10_reads 0 = .ok (.bipush 8, 2) := by decide +kernel
theorem dX10_reads_2 : decode cX10_reads 2 = .ok (.iload_n 1, 1) := by decide +kernel
theorem dX10_reads_3 : decode cX10_reads 3 = .ok (.imul, 1) := by decide +kernel
theorem dX10_reads_4 : decode cX10_reads 4 = .ok (.iload_n 2, 1) := by decide +kernel
theorem dX10_reads_5 : decode cX10_reads 5 = .ok (.iadd, 1) := by decide +kernel
theorem dX10_reads_6 : decode cX10_reads 6 = .ok (.istore_n 3, 1) := by decide +kernel
theorem dX10_reads_7 : decode cX10_reads 7 = .ok (.aload_n 0, 1) := by decide +kernel
theorem dX10_reads_8 : decode cX10_reads 8 = .ok (.getfield 7, 3) := by decide +kernel
theorem dX10_reads_11 : decode cX10_reads 11 = .ok (.iload_n 2, 1) := by decide +kernel
theorem dX10_reads_12 : decode cX10_reads 12 = .ok (.iaload, 1) := by decide +kernel
theorem dX10_reads_13 : decode cX10_reads 13 = .ok (.tableswitch 162 0 3 #[31, 66, 91, 131], 31) := by decide +kernel
theorem dX10_reads_44 : decode cX10_reads 44 = .ok (.aload_n 0, 1) := by decide +kernel
theorem dX10_reads_45 : decode cX10_reads 45 = .ok (.getfield 111, 3) := by decide +kernel
theorem dX10_reads_48 : decode cX10_reads 48 = .ok (.iload_n 3, 1) := by decide +kernel
theorem dX10_reads_49 : decode cX10_reads 49 = .ok (.baload, 1) := by decide +kernel
theorem dX10_reads_50 : decode cX10_reads 50 = .ok (.ifCond .eq 22, 3) := by decide +kernel
theorem dX10_reads_53 : decode cX10_reads 53 = .ok (.aload_n 0, 1) := by decide +kernel
theorem dX10_reads_54 : decode cX10_reads 54 = .ok (.getfield 60, 3) := by decide +kernel
theorem dX10_reads_57 : decode cX10_reads 57 = .ok (.iload_n 1, 1) := by decide +kernel
theorem dX10_reads_58 : decode cX10_reads 58 = .ok (.iaload, 1) := by decide +kernel
theorem dX10_reads_59 : decode cX10_reads 59 = .ok (.iconst (-1), 1) := by decide +kernel
theorem dX10_reads_60 : decode cX10_reads 60 = .ok (.if_icmp .eq 12, 3) := by decide +kernel
theorem dX10_reads_63 : decode cX10_reads 63 = .ok (.aload_n 0, 1) := by decide +kernel
theorem dX10_reads_64 : decode cX10_reads 64 = .ok (.getfield 108, 3) := by decide +kernel
theorem dX10_reads_67 : decode cX10_reads 67 = .ok (.iload_n 3, 1) := by decide +kernel
theorem dX10_reads_68 : decode cX10_reads 68 = .ok (.iaload, 1) := by decide +kernel
theorem dX10_reads_69 : decode cX10_reads 69 = .ok (.goto 9, 3) := by decide +kernel
theorem dX10_reads_72 : decode cX10_reads 72 = .ok (.aload_n 0, 1) := by decide +kernel
theorem dX10_reads_73 : decode cX10_reads 73 = .ok (.getfield 13, 3) := by decide +kernel
theorem dX10_reads_76 : decode cX10_reads 76 = .ok (.iload_n 2, 1) := by decide +kernel
theorem dX10_reads_77 : decode cX10_reads 77 = .ok (.iaload, 1) := by decide +kernel
theorem dX10_reads_78 : decode cX10_reads 78 = .ok (.ireturn, 1) := by decide +kernel
theorem dX10_reads_79 : decode cX10_reads 79 = .ok (.aload_n 0, 1) := by decide +kernel
theorem dX10_reads_80 : decode cX10_reads 80 = .ok (.getfield 111, 3) := by decide +kernel
theorem dX10_reads_83 : decode cX10_reads 83 = .ok (.iload_n 3, 1) := by decide +kernel
theorem dX10_reads_84 : decode cX10_reads 84 = .ok (.baload, 1) := by decide +kernel
theorem dX10_reads_85 : decode cX10_reads 85 = .ok (.ifCond .eq 12, 3) := by decide +kernel
theorem dX10_reads_88 : decode cX10_reads 88 = .ok (.aload_n 0, 1) := by decide +kernel
theorem dX10_reads_89 : decode cX10_reads 89 = .ok (.getfield 108, 3) := by decide +kernel
theorem dX10_reads_92 : decode cX10_reads 92 = .ok (.iload_n 3, 1) := by decide +kernel
theorem dX10_reads_93 : decode cX10_reads 93 = .ok (.iaload, 1) := by decide +kernel
theorem dX10_reads_94 : decode cX10_reads 94 = .ok (.goto 9, 3) := by decide +kernel
theorem dX10_reads_97 : decode cX10_reads 97 = .ok (.aload_n 0, 1) := by decide +kernel
theorem dX10_reads_98 : decode cX10_reads 98 = .ok (.getfield 105, 3) := by decide +kernel
theorem dX10_reads_101 : decode cX10_reads 101 = .ok (.iload_n 3, 1) := by decide +kernel
theorem dX10_reads_102 : decode cX10_reads 102 = .ok (.iaload, 1) := by decide +kernel
theorem dX10_reads_103 : decode cX10_reads 103 = .ok (.ireturn, 1) := by decide +kernel
theorem dX10_reads_104 : decode cX10_reads 104 = .ok (.bipush 8, 2) := by decide +kernel
theorem dX10_reads_106 : decode cX10_reads 106 = .ok (.aload_n 0, 1) := by decide +kernel
theorem dX10_reads_107 : decode cX10_reads 107 = .ok (.getfield 54, 3) := by decide +kernel
theorem dX10_reads_110 : decode cX10_reads 110 = .ok (.iload_n 1, 1) := by decide +kernel
theorem dX10_reads_111 : decode cX10_reads 111 = .ok (.iaload, 1) := by decide +kernel
theorem dX10_reads_112 : decode cX10_reads 112 = .ok (.imul, 1) := by decide +kernel
theorem dX10_reads_113 : decode cX10_reads 113 = .ok (.iload_n 2, 1) := by decide +kernel
theorem dX10_reads_114 : decode cX10_reads 114 = .ok (.iadd, 1) := by decide +kernel
theorem dX10_reads_115 : decode cX10_reads 115 = .ok (.istore 4, 2) := by decide +kernel
theorem dX10_reads_117 : decode cX10_reads 117 = .ok (.aload_n 0, 1) := by decide +kernel
theorem dX10_reads_118 : decode cX10_reads 118 = .ok (.getfield 111, 3) := by decide +kernel
theorem dX10_reads_121 : decode cX10_reads 121 = .ok (.iload 4, 2) := by decide +kernel
theorem dX10_reads_123 : decode cX10_reads 123 = .ok (.baload, 1) := by decide +kernel
theorem dX10_reads_124 : decode cX10_reads 124 = .ok (.ifCond .eq 13, 3) := by decide +kernel
theorem dX10_reads_127 : decode cX10_reads 127 = .ok (.aload_n 0, 1) := by decide +kernel
theorem dX10_reads_128 : decode cX10_reads 128 = .ok (.getfield 108, 3) := by decide +kernel
theorem dX10_reads_131 : decode cX10_reads 131 = .ok (.iload 4, 2) := by decide +kernel
theorem dX10_reads_133 : decode cX10_reads 133 = .ok (.iaload, 1) := by decide +kernel
theorem dX10_reads_134 : decode cX10_reads 134 = .ok (.goto 9, 3) := by decide +kernel
theorem dX10_reads_137 : decode cX10_reads 137 = .ok (.aload_n 0, 1) := by decide +kernel
theorem dX10_reads_138 : decode cX10_reads 138 = .ok (.getfield 13, 3) := by decide +kernel
theorem dX10_reads_141 : decode cX10_reads 141 = .ok (.iload_n 2, 1) := by decide +kernel
theorem dX10_reads_142 : decode cX10_reads 142 = .ok (.iaload, 1) := by decide +kernel
theorem dX10_reads_143 : decode cX10_reads 143 = .ok (.ireturn, 1) := by decide +kernel
theorem dX10_reads_144 : decode cX10_reads 144 = .ok (.aload_n 0, 1) := by decide +kernel
theorem dX10_reads_145 : decode cX10_reads 145 = .ok (.iload_n 1, 1) := by decide +kernel
theorem dX10_reads_146 : decode cX10_reads 146 = .ok (.iload_n 2, 1) := by decide +kernel
theorem dX10_reads_147 : decode cX10_reads 147 = .ok (.invokevirtual 208, 3) := by decide +kernel
theorem dX10_reads_150 : decode cX10_reads 150 = .ok (.istore 4, 2) := by decide +kernel
theorem dX10_reads_152 : decode cX10_reads 152 = .ok (.iload 4, 2) := by decide +kernel
theorem dX10_reads_154 : decode cX10_reads 154 = .ok (.iconst (-1), 1) := by decide +kernel
theorem dX10_reads_155 : decode cX10_reads 155 = .ok (.if_icmp .ne 12, 3) := by decide +kernel
theorem dX10_reads_158 : decode cX10_reads 158 = .ok (.aload_n 0, 1) := by decide +kernel
theorem dX10_reads_159 : decode cX10_reads 159 = .ok (.getfield 105, 3) := by decide +kernel
theorem dX10_reads_162 : decode cX10_reads 162 = .ok (.iload_n 3, 1) := by decide +kernel
theorem dX10_reads_163 : decode cX10_reads 163 = .ok (.iaload, 1) := by decide +kernel
theorem dX10_reads_164 : decode cX10_reads 164 = .ok (.goto 10, 3) := by decide +kernel
theorem dX10_reads_167 : decode cX10_reads 167 = .ok (.aload_n 0, 1) := by decide +kernel
theorem dX10_reads_168 : decode cX10_reads 168 = .ok (.getfield 120, 3) := by decide +kernel
theorem dX10_reads_171 : decode cX10_reads 171 = .ok (.iload 4, 2) := by decide +kernel
theorem dX10_reads_173 : decode cX10_reads 173 = .ok (.iaload, 1) := by decide +kernel
theorem dX10_reads_174 : decode cX10_reads 174 = .ok (.ireturn, 1) := by decide +kernel
theorem dX10_reads_175 : decode cX10_reads 175 = .ok (.aload_n 0, 1) := by decide +kernel
theorem dX10_reads_176 : decode cX10_reads 176 = .ok (.getfield 111, 3) := by decide +kernel
theorem dX10_reads_179 : decode cX10_reads 179 = .ok (.iload_n 3, 1) := by decide +kernel
theorem dX10_reads_180 : decode cX10_reads 180 = .ok (.baload, 1) := by decide +kernel
theorem dX10_reads_181 : decode cX10_reads 181 = .ok (.ifCond .eq 12, 3) := by decide +kernel
theorem dX10_reads_184 : decode cX10_reads 184 = .ok (.aload_n 0, 1) := by decide +kernel
theorem dX10_reads_185 : decode cX10_reads 185 = .ok (.getfield 108, 3) := by decide +kernel
theorem dX10_reads_188 : decode cX10_reads 188 = .ok (.iload_n 3, 1) := by decide +kernel
theorem dX10_reads_189 : decode cX10_reads 189 = .ok (.iaload, 1) := by decide +kernel
theorem dX10_reads_190 : decode cX10_reads 190 = .ok (.goto 9, 3) := by decide +kernel
theorem dX10_reads_193 : decode cX10_reads 193 = .ok (.aload_n 0, 1) := by decide +kernel
theorem dX10_reads_194 : decode cX10_reads 194 = .ok (.getfield 13, 3) := by decide +kernel
theorem dX10_reads_197 : decode cX10_reads 197 = .ok (.iload_n 2, 1) := by decide +kernel
theorem dX10_reads_198 : decode cX10_reads 198 = .ok (.iaload, 1) := by decide +kernel
theorem dX10_reads_199 : decode cX10_reads 199 = .ok (.ireturn, 1) := by decide +kernel
theorem dX10_areOver_0 : decode cX10_areOver 0 = .ok (.iconst 1, 1) := by decide +kernel
theorem dX10_areOver_1 : decode cX10_areOver 1 = .ok (.istore_n 2, 1) := by decide +kernel
theorem dX10_areOver_2 : decode cX10_areOver 2 = .ok (.iload_n 1, 1) := by decide +kernel
theorem dX10_areOver_3 : decode cX10_areOver 3 = .ok (.iconst 1, 1) := by decide +kernel
theorem dX10_areOver_4 : decode cX10_areOver 4 = .ok (.iadd, 1) := by decide +kernel
theorem dX10_areOver_5 : decode cX10_areOver 5 = .ok (.istore_n 3, 1) := by decide +kernel
theorem dX10_areOver_6 : decode cX10_areOver 6 = .ok (.iload_n 3, 1) := by decide +kernel
theorem dX10_areOver_7 : decode cX10_areOver 7 = .ok (.aload_n 0, 1) := by decide +kernel
theorem dX10_areOver_8 : decode cX10_areOver 8 = .ok (.getfield 176, 3) := by decide +kernel
theorem dX10_areOver_11 : decode cX10_areOver 11 = .ok (.if_icmp .ge 46, 3) := by decide +kernel
theorem dX10_areOver_14 : decode cX10_areOver 14 = .ok (.iload_n 2, 1) := by decide +kernel
theorem dX10_areOver_15 : decode cX10_areOver 15 = .ok (.ifCond .eq 34, 3) := by decide +kernel
theorem dX10_areOver_18 : decode cX10_areOver 18 = .ok (.aload_n 0, 1) := by decide +kernel
theorem dX10_areOver_19 : decode cX10_areOver 19 = .ok (.getfield 51, 3) := by decide +kernel
theorem dX10_areOver_22 : decode cX10_areOver 22 = .ok (.iload_n 3, 1) := by decide +kernel
theorem dX10_areOver_23 : decode cX10_areOver 23 = .ok (.iaload, 1) := by decide +kernel
theorem dX10_areOver_24 : decode cX10_areOver 24 = .ok (.iload_n 1, 1) := by decide +kernel
theorem dX10_areOver_25 : decode cX10_areOver 25 = .ok (.if_icmp .ne 20, 3) := by decide +kernel
theorem dX10_areOver_28 : decode cX10_areOver 28 = .ok (.aload_n 0, 1) := by decide +kernel
theorem dX10_areOver_29 : decode cX10_areOver 29 = .ok (.getfield 87, 3) := by decide +kernel
theorem dX10_areOver_32 : decode cX10_areOver 32 = .ok (.iload_n 3, 1) := by decide +kernel
theorem dX10_areOver_33 : decode cX10_areOver 33 = .ok (.baload, 1) := by decide +kernel
theorem dX10_areOver_34 : decode cX10_areOver 34 = .ok (.ifCond .eq 11, 3) := by decide +kernel
theorem dX10_areOver_37 : decode cX10_areOver 37 = .ok (.aload_n 0, 1) := by decide +kernel
theorem dX10_areOver_38 : decode cX10_areOver 38 = .ok (.iload_n 3, 1) := by decide +kernel
theorem dX10_areOver_39 : decode cX10_areOver 39 = .ok (.invokevirtual 215, 3) := by decide +kernel
theorem dX10_areOver_42 : decode cX10_areOver 42 = .ok (.ifCond .eq 7, 3) := by decide +kernel
theorem dX10_areOver_45 : decode cX10_areOver 45 = .ok (.iconst 1, 1) := by decide +kernel
theorem dX10_areOver_46 : decode cX10_areOver 46 = .ok (.goto 4, 3) := by decide +kernel
theorem dX10_areOver_49 : decode cX10_areOver 49 = .ok (.iconst 0, 1) := by decide +kernel
theorem dX10_areOver_50 : decode cX10_areOver 50 = .ok (.istore_n 2, 1) := by decide +kernel
theorem dX10_areOver_51 : decode cX10_areOver 51 = .ok (.iinc 3 1, 3) := by decide +kernel
theorem dX10_areOver_54 : decode cX10_areOver 54 = .ok (.goto (-48), 3) := by decide +kernel
theorem dX10_areOver_57 : decode cX10_areOver 57 = .ok (.iload_n 2, 1) := by decide +kernel
theorem dX10_areOver_58 : decode cX10_areOver 58 = .ok (.ireturn, 1) := by decide +kernel
theorem dX10_free_0 : decode cX10_free 0 = .ok (.iconst 0, 1) := by decide +kernel
theorem dX10_free_1 : decode cX10_free 1 = .ok (.istore_n 1, 1) := by decide +kernel
theorem dX10_free_2 : decode cX10_free 2 = .ok (.iload_n 1, 1) := by decide +kernel
theorem dX10_free_3 : decode cX10_free 3 = .ok (.aload_n 0, 1) := by decide +kernel
theorem dX10_free_4 : decode cX10_free 4 = .ok (.getfield 38, 3) := by decide +kernel
theorem dX10_free_7 : decode cX10_free 7 = .ok (.if_icmp .ge 21, 3) := by decide +kernel
theorem dX10_free_10 : decode cX10_free 10 = .ok (.aload_n 0, 1) := by decide +kernel
theorem dX10_free_11 : decode cX10_free 11 = .ok (.getfield 42, 3) := by decide +kernel
theorem dX10_free_14 : decode cX10_free 14 = .ok (.iload_n 1, 1) := by decide +kernel
theorem dX10_free_15 : decode cX10_free 15 = .ok (.iaload, 1) := by decide +kernel
theorem dX10_free_16 : decode cX10_free 16 = .ok (.iconst (-1), 1) := by decide +kernel
theorem dX10_free_17 : decode cX10_free 17 = .ok (.if_icmp .ne 5, 3) := by decide +kernel
theorem dX10_free_20 : decode cX10_free 20 = .ok (.iload_n 1, 1) := by decide +kernel
theorem dX10_free_21 : decode cX10_free 21 = .ok (.ireturn, 1) := by decide +kernel
theorem dX10_free_22 : decode cX10_free 22 = .ok (.iinc 1 1, 3) := by decide +kernel
theorem dX10_free_25 : decode cX10_free 25 = .ok (.goto (-23), 3) := by decide +kernel
theorem dX10_free_28 : decode cX10_free 28 = .ok (.iconst (-1), 1) := by decide +kernel
theorem dX10_free_29 : decode cX10_free 29 = .ok (.ireturn, 1) := by decide +kernel
theorem dX10_isLeft_0 : decode cX10_isLeft 0 = .ok (.iconst 0, 1) := by decide +kernel
theorem dX10_isLeft_1 : decode cX10_isLeft 1 = .ok (.istore_n 1, 1) := by decide +kernel
theorem dX10_isLeft_2 : decode cX10_isLeft 2 = .ok (.iconst 0, 1) := by decide +kernel
theorem dX10_isLeft_3 : decode cX10_isLeft 3 = .ok (.istore_n 2, 1) := by decide +kernel
theorem dX10_isLeft_4 : decode cX10_isLeft 4 = .ok (.iload_n 2, 1) := by decide +kernel
theorem dX10_isLeft_5 : decode cX10_isLeft 5 = .ok (.aload_n 0, 1) := by decide +kernel
theorem dX10_isLeft_6 : decode cX10_isLeft 6 = .ok (.getfield 176, 3) := by decide +kernel
theorem dX10_isLeft_9 : decode cX10_isLeft 9 = .ok (.if_icmp .ge 27, 3) := by decide +kernel
theorem dX10_isLeft_12 : decode cX10_isLeft 12 = .ok (.iload_n 1, 1) := by decide +kernel
theorem dX10_isLeft_13 : decode cX10_isLeft 13 = .ok (.ifCond .ne 11, 3) := by decide +kernel
theorem dX10_isLeft_16 : decode cX10_isLeft 16 = .ok (.aload_n 0, 1) := by decide +kernel
theorem dX10_isLeft_17 : decode cX10_isLeft 17 = .ok (.iload_n 2, 1) := by decide +kernel
theorem dX10_isLeft_18 : decode cX10_isLeft 18 = .ok (.invokevirtual 215, 3) := by decide +kernel
theorem dX10_isLeft_21 : decode cX10_isLeft 21 = .ok (.ifCond .ne 7, 3) := by decide +kernel
theorem dX10_isLeft_24 : decode cX10_isLeft 24 = .ok (.iconst 1, 1) := by decide +kernel
theorem dX10_isLeft_25 : decode cX10_isLeft 25 = .ok (.goto 4, 3) := by decide +kernel
theorem dX10_isLeft_28 : decode cX10_isLeft 28 = .ok (.iconst 0, 1) := by decide +kernel
theorem dX10_isLeft_29 : decode cX10_isLeft 29 = .ok (.istore_n 1, 1) := by decide +kernel
theorem dX10_isLeft_30 : decode cX10_isLeft 30 = .ok (.iinc 2 1, 3) := by decide +kernel
theorem dX10_isLeft_33 : decode cX10_isLeft 33 = .ok (.goto (-29), 3) := by decide +kernel
theorem dX10_isLeft_36 : decode cX10_isLeft 36 = .ok (.iload_n 1, 1) := by decide +kernel
theorem dX10_isLeft_37 : decode cX10_isLeft 37 = .ok (.ireturn, 1) := by decide +kernel
theorem dX10_children_0 : decode cX10_children 0 = .ok (.iconst 0, 1) := by decide +kernel
theorem dX10_children_1 : decode cX10_children 1 = .ok (.istore_n 2, 1) := by decide +kernel
theorem dX10_children_2 : decode cX10_children 2 = .ok (.iload_n 1, 1) := by decide +kernel
theorem dX10_children_3 : decode cX10_children 3 = .ok (.iconst 1, 1) := by decide +kernel
theorem dX10_children_4 : decode cX10_children 4 = .ok (.iadd, 1) := by decide +kernel
theorem dX10_children_5 : decode cX10_children 5 = .ok (.istore_n 3, 1) := by decide +kernel
theorem dX10_children_6 : decode cX10_children 6 = .ok (.iload_n 3, 1) := by decide +kernel
theorem dX10_children_7 : decode cX10_children 7 = .ok (.aload_n 0, 1) := by decide +kernel
theorem dX10_children_8 : decode cX10_children 8 = .ok (.getfield 176, 3) := by decide +kernel
theorem dX10_children_11 : decode cX10_children 11 = .ok (.if_icmp .ge 27, 3) := by decide +kernel
theorem dX10_children_14 : decode cX10_children 14 = .ok (.iload_n 2, 1) := by decide +kernel
theorem dX10_children_15 : decode cX10_children 15 = .ok (.aload_n 0, 1) := by decide +kernel
theorem dX10_children_16 : decode cX10_children 16 = .ok (.getfield 51, 3) := by decide +kernel
theorem dX10_children_19 : decode cX10_children 19 = .ok (.iload_n 3, 1) := by decide +kernel
theorem dX10_children_20 : decode cX10_children 20 = .ok (.iaload, 1) := by decide +kernel
theorem dX10_children_21 : decode cX10_children 21 = .ok (.iload_n 1, 1) := by decide +kernel
theorem dX10_children_22 : decode cX10_children 22 = .ok (.if_icmp .ne 7, 3) := by decide +kernel
theorem dX10_children_25 : decode cX10_children 25 = .ok (.iconst 1, 1) := by decide +kernel
theorem dX10_children_26 : decode cX10_children 26 = .ok (.goto 4, 3) := by decide +kernel
theorem dX10_children_29 : decode cX10_children 29 = .ok (.iconst 0, 1) := by decide +kernel
theorem dX10_children_30 : decode cX10_children 30 = .ok (.iadd, 1) := by decide +kernel
theorem dX10_children_31 : decode cX10_children 31 = .ok (.istore_n 2, 1) := by decide +kernel
theorem dX10_children_32 : decode cX10_children 32 = .ok (.iinc 3 1, 3) := by decide +kernel
theorem dX10_children_35 : decode cX10_children 35 = .ok (.goto (-29), 3) := by decide +kernel
theorem dX10_children_38 : decode cX10_children 38 = .ok (.iload_n 2, 1) := by decide +kernel
theorem dX10_children_39 : decode cX10_children 39 = .ok (.ireturn, 1) := by decide +kernel
theorem dX10_inState_0 : decode cX10_inState 0 = .ok (.iconst 0, 1) := by decide +kernel
theorem dX10_inState_1 : decode cX10_inState 1 = .ok (.istore_n 2, 1) := by decide +kernel
theorem dX10_inState_2 : decode cX10_inState 2 = .ok (.iconst 0, 1) := by decide +kernel
theorem dX10_inState_3 : decode cX10_inState 3 = .ok (.istore_n 3, 1) := by decide +kernel
theorem dX10_inState_4 : decode cX10_inState 4 = .ok (.iload_n 3, 1) := by decide +kernel
theorem dX10_inState_5 : decode cX10_inState 5 = .ok (.aload_n 0, 1) := by decide +kernel
theorem dX10_inState_6 : decode cX10_inState 6 = .ok (.getfield 176, 3) := by decide +kernel
theorem dX10_inState_9 : decode cX10_inState 9 = .ok (.if_icmp .ge 27, 3) := by decide +kernel
theorem dX10_inState_12 : decode cX10_inState 12 = .ok (.iload_n 2, 1) := by decide +kernel
theorem dX10_inState_13 : decode cX10_inState 13 = .ok (.aload_n 0, 1) := by decide +kernel
theorem dX10_inState_14 : decode cX10_inState 14 = .ok (.getfield 45, 3) := by decide +kernel
theorem dX10_inState_17 : decode cX10_inState 17 = .ok (.iload_n 3, 1) := by decide +kernel
theorem dX10_inState_18 : decode cX10_inState 18 = .ok (.iaload, 1) := by decide +kernel
theorem dX10_inState_19 : decode cX10_inState 19 = .ok (.iload_n 1, 1) := by decide +kernel
theorem dX10_inState_20 : decode cX10_inState 20 = .ok (.if_icmp .ne 7, 3) := by decide +kernel
theorem dX10_inState_23 : decode cX10_inState 23 = .ok (.iconst 1, 1) := by decide +kernel
theorem dX10_inState_24 : decode cX10_inState 24 = .ok (.goto 4, 3) := by decide +kernel
theorem dX10_inState_27 : decode cX10_inState 27 = .ok (.iconst 0, 1) := by decide +kernel
theorem dX10_inState_28 : decode cX10_inState 28 = .ok (.iadd, 1) := by decide +kernel
theorem dX10_inState_29 : decode cX10_inState 29 = .ok (.istore_n 2, 1) := by decide +kernel
theorem dX10_inState_30 : decode cX10_inState 30 = .ok (.iinc 3 1, 3) := by decide +kernel
theorem dX10_inState_33 : decode cX10_inState 33 = .ok (.goto (-29), 3) := by decide +kernel
theorem dX10_inState_36 : decode cX10_inState 36 = .ok (.iload_n 2, 1) := by decide +kernel
theorem dX10_inState_37 : decode cX10_inState 37 = .ok (.ireturn, 1) := by decide +kernel
