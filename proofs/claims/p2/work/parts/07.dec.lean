set_option maxRecDepth 100000 in
theorem dX4_ways_0 : decode cX4_ways 0 = .ok (.aload_n 0, 1) := by decide +kernel
set_option maxRecDepth 100000 in
theorem dX4_ways_1 : decode cX4_ways 1 = .ok (.aload_n 0, 1) := by decide +kernel
set_option maxRecDepth 100000 in
theorem dX4_ways_2 : decode cX4_ways 2 = .ok (.getfield 62, 3) := by decide +kernel
set_option maxRecDepth 100000 in
theorem dX4_ways_5 : decode cX4_ways 5 = .ok (.ifCond .ne 7, 3) := by decide +kernel
set_option maxRecDepth 100000 in
theorem dX4_ways_8 : decode cX4_ways 8 = .ok (.iconst 1, 1) := by decide +kernel
set_option maxRecDepth 100000 in
theorem dX4_ways_9 : decode cX4_ways 9 = .ok (.goto 18, 3) := by decide +kernel
set_option maxRecDepth 100000 in
theorem dX4_ways_12 : decode cX4_ways 12 = .ok (.iload_n 1, 1) := by decide +kernel
set_option maxRecDepth 100000 in
theorem dX4_ways_13 : decode cX4_ways 13 = .ok (.ifCond .lt 9, 3) := by decide +kernel
set_option maxRecDepth 100000 in
theorem dX4_ways_16 : decode cX4_ways 16 = .ok (.iload_n 1, 1) := by decide +kernel
set_option maxRecDepth 100000 in
theorem dX4_ways_17 : decode cX4_ways 17 = .ok (.bipush 100, 2) := by decide +kernel
set_option maxRecDepth 100000 in
theorem dX4_ways_19 : decode cX4_ways 19 = .ok (.if_icmp .le 7, 3) := by decide +kernel
set_option maxRecDepth 100000 in
theorem dX4_ways_22 : decode cX4_ways 22 = .ok (.iconst 2, 1) := by decide +kernel
set_option maxRecDepth 100000 in
theorem dX4_ways_23 : decode cX4_ways 23 = .ok (.goto 4, 3) := by decide +kernel
set_option maxRecDepth 100000 in
theorem dX4_ways_26 : decode cX4_ways 26 = .ok (.iconst 0, 1) := by decide +kernel
set_option maxRecDepth 100000 in
theorem dX4_ways_27 : decode cX4_ways 27 = .ok (.putfield 51, 3) := by decide +kernel
set_option maxRecDepth 100000 in
theorem dX4_ways_30 : decode cX4_ways 30 = .ok (.aload_n 0, 1) := by decide +kernel
set_option maxRecDepth 100000 in
theorem dX4_ways_31 : decode cX4_ways 31 = .ok (.getfield 51, 3) := by decide +kernel
set_option maxRecDepth 100000 in
theorem dX4_ways_34 : decode cX4_ways 34 = .ok (.ifCond .eq 5, 3) := by decide +kernel
set_option maxRecDepth 100000 in
theorem dX4_ways_37 : decode cX4_ways 37 = .ok (.lconst 0, 1) := by decide +kernel
set_option maxRecDepth 100000 in
theorem dX4_ways_38 : decode cX4_ways 38 = .ok (.lreturn, 1) := by decide +kernel
set_option maxRecDepth 100000 in
theorem dX4_ways_39 : decode cX4_ways 39 = .ok (.sipush 250, 3) := by decide +kernel
set_option maxRecDepth 100000 in
theorem dX4_ways_42 : decode cX4_ways 42 = .ok (.newarray .long, 2) := by decide +kernel
set_option maxRecDepth 100000 in
theorem dX4_ways_44 : decode cX4_ways 44 = .ok (.astore_n 2, 1) := by decide +kernel
set_option maxRecDepth 100000 in
theorem dX4_ways_45 : decode cX4_ways 45 = .ok (.iconst 0, 1) := by decide +kernel
set_option maxRecDepth 100000 in
theorem dX4_ways_46 : decode cX4_ways 46 = .ok (.istore_n 3, 1) := by decide +kernel
set_option maxRecDepth 100000 in
theorem dX4_ways_47 : decode cX4_ways 47 = .ok (.iload_n 3, 1) := by decide +kernel
set_option maxRecDepth 100000 in
theorem dX4_ways_48 : decode cX4_ways 48 = .ok (.aload_n 0, 1) := by decide +kernel
set_option maxRecDepth 100000 in
theorem dX4_ways_49 : decode cX4_ways 49 = .ok (.getfield 133, 3) := by decide +kernel
set_option maxRecDepth 100000 in
theorem dX4_ways_52 : decode cX4_ways 52 = .ok (.if_icmp .ge 13, 3) := by decide +kernel
set_option maxRecDepth 100000 in
theorem dX4_ways_55 : decode cX4_ways 55 = .ok (.aload_n 2, 1) := by decide +kernel
set_option maxRecDepth 100000 in
theorem dX4_ways_56 : decode cX4_ways 56 = .ok (.iload_n 3, 1) := by decide +kernel
set_option maxRecDepth 100000 in
theorem dX4_ways_57 : decode cX4_ways 57 = .ok (.lconst 1, 1) := by decide +kernel
set_option maxRecDepth 100000 in
theorem dX4_ways_58 : decode cX4_ways 58 = .ok (.lastore, 1) := by decide +kernel
set_option maxRecDepth 100000 in
theorem dX4_ways_59 : decode cX4_ways 59 = .ok (.iinc 3 1, 3) := by decide +kernel
set_option maxRecDepth 100000 in
theorem dX4_ways_62 : decode cX4_ways 62 = .ok (.goto (-15), 3) := by decide +kernel
set_option maxRecDepth 100000 in
theorem dX4_ways_65 : decode cX4_ways 65 = .ok (.iconst 0, 1) := by decide +kernel
set_option maxRecDepth 100000 in
theorem dX4_ways_66 : decode cX4_ways 66 = .ok (.istore_n 3, 1) := by decide +kernel
set_option maxRecDepth 100000 in
theorem dX4_ways_67 : decode cX4_ways 67 = .ok (.iload_n 3, 1) := by decide +kernel
set_option maxRecDepth 100000 in
theorem dX4_ways_68 : decode cX4_ways 68 = .ok (.iload_n 1, 1) := by decide +kernel
set_option maxRecDepth 100000 in
theorem dX4_ways_69 : decode cX4_ways 69 = .ok (.if_icmp .ge 84, 3) := by decide +kernel
set_option maxRecDepth 100000 in
theorem dX4_ways_72 : decode cX4_ways 72 = .ok (.sipush 250, 3) := by decide +kernel
set_option maxRecDepth 100000 in
theorem dX4_ways_75 : decode cX4_ways 75 = .ok (.newarray .long, 2) := by decide +kernel
set_option maxRecDepth 100000 in
theorem dX4_ways_77 : decode cX4_ways 77 = .ok (.astore 4, 2) := by decide +kernel
set_option maxRecDepth 100000 in
theorem dX4_ways_79 : decode cX4_ways 79 = .ok (.iconst 0, 1) := by decide +kernel
set_option maxRecDepth 100000 in
theorem dX4_ways_80 : decode cX4_ways 80 = .ok (.istore 5, 2) := by decide +kernel
set_option maxRecDepth 100000 in
theorem dX4_ways_82 : decode cX4_ways 82 = .ok (.iload 5, 2) := by decide +kernel
set_option maxRecDepth 100000 in
theorem dX4_ways_84 : decode cX4_ways 84 = .ok (.aload_n 0, 1) := by decide +kernel
set_option maxRecDepth 100000 in
theorem dX4_ways_85 : decode cX4_ways 85 = .ok (.getfield 108, 3) := by decide +kernel
set_option maxRecDepth 100000 in
theorem dX4_ways_88 : decode cX4_ways 88 = .ok (.if_icmp .ge 56, 3) := by decide +kernel
set_option maxRecDepth 100000 in
theorem dX4_ways_91 : decode cX4_ways 91 = .ok (.iconst 0, 1) := by decide +kernel
set_option maxRecDepth 100000 in
theorem dX4_ways_92 : decode cX4_ways 92 = .ok (.istore 6, 2) := by decide +kernel
set_option maxRecDepth 100000 in
theorem dX4_ways_94 : decode cX4_ways 94 = .ok (.iload 6, 2) := by decide +kernel
set_option maxRecDepth 100000 in
theorem dX4_ways_96 : decode cX4_ways 96 = .ok (.aload_n 0, 1) := by decide +kernel
set_option maxRecDepth 100000 in
theorem dX4_ways_97 : decode cX4_ways 97 = .ok (.getfield 108, 3) := by decide +kernel
set_option maxRecDepth 100000 in
theorem dX4_ways_100 : decode cX4_ways 100 = .ok (.if_icmp .ge 38, 3) := by decide +kernel
set_option maxRecDepth 100000 in
theorem dX4_ways_103 : decode cX4_ways 103 = .ok (.aload_n 0, 1) := by decide +kernel
set_option maxRecDepth 100000 in
theorem dX4_ways_104 : decode cX4_ways 104 = .ok (.getfield 41, 3) := by decide +kernel
set_option maxRecDepth 100000 in
theorem dX4_ways_107 : decode cX4_ways 107 = .ok (.sipush 250, 3) := by decide +kernel
set_option maxRecDepth 100000 in
theorem dX4_ways_110 : decode cX4_ways 110 = .ok (.iload 5, 2) := by decide +kernel
set_option maxRecDepth 100000 in
theorem dX4_ways_112 : decode cX4_ways 112 = .ok (.imul, 1) := by decide +kernel
set_option maxRecDepth 100000 in
theorem dX4_ways_113 : decode cX4_ways 113 = .ok (.iload 6, 2) := by decide +kernel
set_option maxRecDepth 100000 in
theorem dX4_ways_115 : decode cX4_ways 115 = .ok (.iadd, 1) := by decide +kernel
set_option maxRecDepth 100000 in
theorem dX4_ways_116 : decode cX4_ways 116 = .ok (.baload, 1) := by decide +kernel
set_option maxRecDepth 100000 in
theorem dX4_ways_117 : decode cX4_ways 117 = .ok (.ifCond .eq 15, 3) := by decide +kernel
set_option maxRecDepth 100000 in
theorem dX4_ways_120 : decode cX4_ways 120 = .ok (.aload 4, 2) := by decide +kernel
set_option maxRecDepth 100000 in
theorem dX4_ways_122 : decode cX4_ways 122 = .ok (.iload 6, 2) := by decide +kernel
set_option maxRecDepth 100000 in
theorem dX4_ways_124 : decode cX4_ways 124 = .ok (.dup2, 1) := by decide +kernel
set_option maxRecDepth 100000 in
theorem dX4_ways_125 : decode cX4_ways 125 = .ok (.laload, 1) := by decide +kernel
set_option maxRecDepth 100000 in
theorem dX4_ways_126 : decode cX4_ways 126 = .ok (.aload_n 2, 1) := by decide +kernel
set_option maxRecDepth 100000 in
theorem dX4_ways_127 : decode cX4_ways 127 = .ok (.iload 5, 2) := by decide +kernel
set_option maxRecDepth 100000 in
theorem dX4_ways_129 : decode cX4_ways 129 = .ok (.laload, 1) := by decide +kernel
set_option maxRecDepth 100000 in
theorem dX4_ways_130 : decode cX4_ways 130 = .ok (.ladd, 1) := by decide +kernel
set_option maxRecDepth 100000 in
theorem dX4_ways_131 : decode cX4_ways 131 = .ok (.lastore, 1) := by decide +kernel
set_option maxRecDepth 100000 in
theorem dX4_ways_132 : decode cX4_ways 132 = .ok (.iinc 6 1, 3) := by decide +kernel
set_option maxRecDepth 100000 in
theorem dX4_ways_135 : decode cX4_ways 135 = .ok (.goto (-41), 3) := by decide +kernel
set_option maxRecDepth 100000 in
theorem dX4_ways_138 : decode cX4_ways 138 = .ok (.iinc 5 1, 3) := by decide +kernel
set_option maxRecDepth 100000 in
theorem dX4_ways_141 : decode cX4_ways 141 = .ok (.goto (-59), 3) := by decide +kernel
set_option maxRecDepth 100000 in
theorem dX4_ways_144 : decode cX4_ways 144 = .ok (.aload 4, 2) := by decide +kernel
set_option maxRecDepth 100000 in
theorem dX4_ways_146 : decode cX4_ways 146 = .ok (.astore_n 2, 1) := by decide +kernel
set_option maxRecDepth 100000 in
theorem dX4_ways_147 : decode cX4_ways 147 = .ok (.iinc 3 1, 3) := by decide +kernel
set_option maxRecDepth 100000 in
theorem dX4_ways_150 : decode cX4_ways 150 = .ok (.goto (-83), 3) := by decide +kernel
set_option maxRecDepth 100000 in
theorem dX4_ways_153 : decode cX4_ways 153 = .ok (.lconst 0, 1) := by decide +kernel
set_option maxRecDepth 100000 in
theorem dX4_ways_154 : decode cX4_ways 154 = .ok (.lstore_n 3, 1) := by decide +kernel
set_option maxRecDepth 100000 in
theorem dX4_ways_155 : decode cX4_ways 155 = .ok (.iconst 0, 1) := by decide +kernel
set_option maxRecDepth 100000 in
theorem dX4_ways_156 : decode cX4_ways 156 = .ok (.istore 5, 2) := by decide +kernel
set_option maxRecDepth 100000 in
theorem dX4_ways_158 : decode cX4_ways 158 = .ok (.iload 5, 2) := by decide +kernel
set_option maxRecDepth 100000 in
theorem dX4_ways_160 : decode cX4_ways 160 = .ok (.aload_n 0, 1) := by decide +kernel
set_option maxRecDepth 100000 in
theorem dX4_ways_161 : decode cX4_ways 161 = .ok (.getfield 108, 3) := by decide +kernel
set_option maxRecDepth 100000 in
theorem dX4_ways_164 : decode cX4_ways 164 = .ok (.if_icmp .ge 16, 3) := by decide +kernel
set_option maxRecDepth 100000 in
theorem dX4_ways_167 : decode cX4_ways 167 = .ok (.lload_n 3, 1) := by decide +kernel
set_option maxRecDepth 100000 in
theorem dX4_ways_168 : decode cX4_ways 168 = .ok (.aload_n 2, 1) := by decide +kernel
set_option maxRecDepth 100000 in
theorem dX4_ways_169 : decode cX4_ways 169 = .ok (.iload 5, 2) := by decide +kernel
set_option maxRecDepth 100000 in
theorem dX4_ways_171 : decode cX4_ways 171 = .ok (.laload, 1) := by decide +kernel
set_option maxRecDepth 100000 in
theorem dX4_ways_172 : decode cX4_ways 172 = .ok (.ladd, 1) := by decide +kernel
set_option maxRecDepth 100000 in
theorem dX4_ways_173 : decode cX4_ways 173 = .ok (.lstore_n 3, 1) := by decide +kernel
set_option maxRecDepth 100000 in
theorem dX4_ways_174 : decode cX4_ways 174 = .ok (.iinc 5 1, 3) := by decide +kernel
set_option maxRecDepth 100000 in
theorem dX4_ways_177 : decode cX4_ways 177 = .ok (.goto (-19), 3) := by decide +kernel
set_option maxRecDepth 100000 in
theorem dX4_ways_180 : decode cX4_ways 180 = .ok (.lload_n 3, 1) := by decide +kernel
set_option maxRecDepth 100000 in
theorem dX4_ways_181 : decode cX4_ways 181 = .ok (.lreturn, 1) := by decide +kernel
