theorem d_law_0 : decode code 0 = .ok (.new 8, 3) := by decide +kernel
theorem d_law_3 : decode code 3 = .ok (.dup, 1) := by decide +kernel
theorem d_law_4 : decode code 4 = .ok (.invokespecial 23, 3) := by decide +kernel
theorem d_law_7 : decode code 7 = .ok (.astore_n 1, 1) := by decide +kernel
theorem d_law_8 : decode code 8 = .ok (.new 24, 3) := by decide +kernel
theorem d_law_11 : decode code 11 = .ok (.dup, 1) := by decide +kernel
theorem d_law_12 : decode code 12 = .ok (.invokespecial 26, 3) := by decide +kernel
theorem d_law_15 : decode code 15 = .ok (.astore_n 2, 1) := by decide +kernel
theorem d_law_16 : decode code 16 = .ok (.iconst 1, 1) := by decide +kernel
theorem d_law_17 : decode code 17 = .ok (.newarray .long, 2) := by decide +kernel
theorem d_law_19 : decode code 19 = .ok (.astore_n 3, 1) := by decide +kernel
theorem d_law_20 : decode code 20 = .ok (.iconst 0, 1) := by decide +kernel
theorem d_law_21 : decode code 21 = .ok (.istore 4, 2) := by decide +kernel
theorem d_law_23 : decode code 23 = .ok (.iload 4, 2) := by decide +kernel
theorem d_law_25 : decode code 25 = .ok (.aload_n 0, 1) := by decide +kernel
theorem d_law_26 : decode code 26 = .ok (.arraylength, 1) := by decide +kernel
theorem d_law_27 : decode code 27 = .ok (.bipush 8, 2) := by decide +kernel
theorem d_law_29 : decode code 29 = .ok (.isub, 1) := by decide +kernel
theorem d_law_30 : decode code 30 = .ok (.if_icmp .gt 742, 3) := by decide +kernel
theorem d_law_33 : decode code 33 = .ok (.aload_n 0, 1) := by decide +kernel
theorem d_law_34 : decode code 34 = .ok (.iload 4, 2) := by decide +kernel
theorem d_law_36 : decode code 36 = .ok (.iaload, 1) := by decide +kernel
theorem d_law_37 : decode code 37 = .ok (.bipush 15, 2) := by decide +kernel
theorem d_law_39 : decode code 39 = .ok (.iand, 1) := by decide +kernel
theorem d_law_40 : decode code 40 = .ok (.tableswitch 726 0 8 #[52, 196, 347, 504, 567, 609, 634, 676, 701], 52) := by decide +kernel
theorem d_law_92 : decode code 92 = .ok (.aload_n 1, 1) := by decide +kernel
theorem d_law_93 : decode code 93 = .ok (.aload_n 0, 1) := by decide +kernel
theorem d_law_94 : decode code 94 = .ok (.iload 4, 2) := by decide +kernel
theorem d_law_96 : decode code 96 = .ok (.iconst 1, 1) := by decide +kernel
theorem d_law_97 : decode code 97 = .ok (.iadd, 1) := by decide +kernel
theorem d_law_98 : decode code 98 = .ok (.iaload, 1) := by decide +kernel
theorem d_law_99 : decode code 99 = .ok (.aload_n 0, 1) := by decide +kernel
theorem d_law_100 : decode code 100 = .ok (.iload 4, 2) := by decide +kernel
theorem d_law_102 : decode code 102 = .ok (.iconst 2, 1) := by decide +kernel
theorem d_law_103 : decode code 103 = .ok (.iadd, 1) := by decide +kernel
theorem d_law_104 : decode code 104 = .ok (.iaload, 1) := by decide +kernel
theorem d_law_105 : decode code 105 = .ok (.i2l, 1) := by decide +kernel
theorem d_law_106 : decode code 106 = .ok (.bipush 32, 2) := by decide +kernel
theorem d_law_108 : decode code 108 = .ok (.lshl, 1) := by decide +kernel
theorem d_law_109 : decode code 109 = .ok (.aload_n 0, 1) := by decide +kernel
theorem d_law_110 : decode code 110 = .ok (.iload 4, 2) := by decide +kernel
theorem d_law_112 : decode code 112 = .ok (.iconst 3, 1) := by decide +kernel
theorem d_law_113 : decode code 113 = .ok (.iadd, 1) := by decide +kernel
theorem d_law_114 : decode code 114 = .ok (.iaload, 1) := by decide +kernel
theorem d_law_115 : decode code 115 = .ok (.i2l, 1) := by decide +kernel
theorem d_law_116 : decode code 116 = .ok (.ldc2_w 27, 3) := by decide +kernel
theorem d_law_119 : decode code 119 = .ok (.land, 1) := by decide +kernel
theorem d_law_120 : decode code 120 = .ok (.lor, 1) := by decide +kernel
theorem d_law_121 : decode code 121 = .ok (.aload_n 0, 1) := by decide +kernel
theorem d_law_122 : decode code 122 = .ok (.iload 4, 2) := by decide +kernel
theorem d_law_124 : decode code 124 = .ok (.iconst 4, 1) := by decide +kernel
theorem d_law_125 : decode code 125 = .ok (.iadd, 1) := by decide +kernel
theorem d_law_126 : decode code 126 = .ok (.iaload, 1) := by decide +kernel
theorem d_law_127 : decode code 127 = .ok (.i2l, 1) := by decide +kernel
theorem d_law_128 : decode code 128 = .ok (.bipush 32, 2) := by decide +kernel
theorem d_law_130 : decode code 130 = .ok (.lshl, 1) := by decide +kernel
theorem d_law_131 : decode code 131 = .ok (.aload_n 0, 1) := by decide +kernel
theorem d_law_132 : decode code 132 = .ok (.iload 4, 2) := by decide +kernel
theorem d_law_134 : decode code 134 = .ok (.iconst 5, 1) := by decide +kernel
theorem d_law_135 : decode code 135 = .ok (.iadd, 1) := by decide +kernel
