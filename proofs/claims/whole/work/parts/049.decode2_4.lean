theorem d_PatternBookModel_look_21 : decode b_PatternBookModel_look 21 = .ok (.aload_n 0, 1) := by decide +kernel
theorem d_PatternBookModel_look_22 : decode b_PatternBookModel_look 22 = .ok (.getfield 73, 3) := by decide +kernel
theorem d_PatternBookModel_look_25 : decode b_PatternBookModel_look 25 = .ok (.goto 16, 3) := by decide +kernel
theorem d_PatternBookModel_look_28 : decode b_PatternBookModel_look 28 = .ok (.iload_n 1, 1) := by decide +kernel
theorem d_PatternBookModel_look_29 : decode b_PatternBookModel_look 29 = .ok (.iconst 2, 1) := by decide +kernel
theorem d_PatternBookModel_look_30 : decode b_PatternBookModel_look 30 = .ok (.if_icmp .ne 10, 3) := by decide +kernel
theorem d_PatternBookModel_look_33 : decode b_PatternBookModel_look 33 = .ok (.aload_n 0, 1) := by decide +kernel
theorem d_PatternBookModel_look_34 : decode b_PatternBookModel_look 34 = .ok (.getfield 79, 3) := by decide +kernel
theorem d_PatternBookModel_look_37 : decode b_PatternBookModel_look 37 = .ok (.goto 4, 3) := by decide +kernel
theorem d_PatternBookModel_look_40 : decode b_PatternBookModel_look 40 = .ok (.iconst (-1), 1) := by decide +kernel
theorem d_PatternBookModel_look_41 : decode b_PatternBookModel_look 41 = .ok (.ireturn, 1) := by decide +kernel
theorem d_PatternBookModel_part_0 : decode b_PatternBookModel_part 0 = .ok (.aload_n 0, 1) := by decide +kernel
theorem d_PatternBookModel_part_1 : decode b_PatternBookModel_part 1 = .ok (.iconst 0, 1) := by decide +kernel
theorem d_PatternBookModel_part_2 : decode b_PatternBookModel_part 2 = .ok (.putfield 24, 3) := by decide +kernel
theorem d_PatternBookModel_part_5 : decode b_PatternBookModel_part 5 = .ok (.iload_n 1, 1) := by decide +kernel
theorem d_PatternBookModel_part_6 : decode b_PatternBookModel_part 6 = .ok (.ifCond .eq 22, 3) := by decide +kernel
theorem d_PatternBookModel_part_9 : decode b_PatternBookModel_part 9 = .ok (.aload_n 0, 1) := by decide +kernel
theorem d_PatternBookModel_part_10 : decode b_PatternBookModel_part 10 = .ok (.getfield 7, 3) := by decide +kernel
theorem d_PatternBookModel_part_13 : decode b_PatternBookModel_part 13 = .ok (.iconst 3, 1) := by decide +kernel
theorem d_PatternBookModel_part_14 : decode b_PatternBookModel_part 14 = .ok (.laload, 1) := by decide +kernel
theorem d_PatternBookModel_part_15 : decode b_PatternBookModel_part 15 = .ok (.bipush 32, 2) := by decide +kernel
theorem d_PatternBookModel_part_17 : decode b_PatternBookModel_part 17 = .ok (.lshl, 1) := by decide +kernel
theorem d_PatternBookModel_part_18 : decode b_PatternBookModel_part 18 = .ok (.aload_n 0, 1) := by decide +kernel
theorem d_PatternBookModel_part_19 : decode b_PatternBookModel_part 19 = .ok (.getfield 7, 3) := by decide +kernel
theorem d_PatternBookModel_part_22 : decode b_PatternBookModel_part 22 = .ok (.iconst 2, 1) := by decide +kernel
theorem d_PatternBookModel_part_23 : decode b_PatternBookModel_part 23 = .ok (.laload, 1) := by decide +kernel
theorem d_PatternBookModel_part_24 : decode b_PatternBookModel_part 24 = .ok (.lor, 1) := by decide +kernel
theorem d_PatternBookModel_part_25 : decode b_PatternBookModel_part 25 = .ok (.goto 19, 3) := by decide +kernel
theorem d_PatternBookModel_part_28 : decode b_PatternBookModel_part 28 = .ok (.aload_n 0, 1) := by decide +kernel
theorem d_PatternBookModel_part_29 : decode b_PatternBookModel_part 29 = .ok (.getfield 7, 3) := by decide +kernel
theorem d_PatternBookModel_part_32 : decode b_PatternBookModel_part 32 = .ok (.iconst 1, 1) := by decide +kernel
theorem d_PatternBookModel_part_33 : decode b_PatternBookModel_part 33 = .ok (.laload, 1) := by decide +kernel
theorem d_PatternBookModel_part_34 : decode b_PatternBookModel_part 34 = .ok (.bipush 32, 2) := by decide +kernel
theorem d_PatternBookModel_part_36 : decode b_PatternBookModel_part 36 = .ok (.lshl, 1) := by decide +kernel
theorem d_PatternBookModel_part_37 : decode b_PatternBookModel_part 37 = .ok (.aload_n 0, 1) := by decide +kernel
theorem d_PatternBookModel_part_38 : decode b_PatternBookModel_part 38 = .ok (.getfield 7, 3) := by decide +kernel
theorem d_PatternBookModel_part_41 : decode b_PatternBookModel_part 41 = .ok (.iconst 0, 1) := by decide +kernel
theorem d_PatternBookModel_part_42 : decode b_PatternBookModel_part 42 = .ok (.laload, 1) := by decide +kernel
theorem d_PatternBookModel_part_43 : decode b_PatternBookModel_part 43 = .ok (.lor, 1) := by decide +kernel
theorem d_PatternBookModel_part_44 : decode b_PatternBookModel_part 44 = .ok (.lreturn, 1) := by decide +kernel
theorem d_PatternBookModel_digits_0 : decode b_PatternBookModel_digits 0 = .ok (.aload_n 0, 1) := by decide +kernel
theorem d_PatternBookModel_digits_1 : decode b_PatternBookModel_digits 1 = .ok (.iconst 0, 1) := by decide +kernel
theorem d_PatternBookModel_digits_2 : decode b_PatternBookModel_digits 2 = .ok (.putfield 24, 3) := by decide +kernel
theorem d_PatternBookModel_digits_5 : decode b_PatternBookModel_digits 5 = .ok (.iload_n 1, 1) := by decide +kernel
theorem d_PatternBookModel_digits_6 : decode b_PatternBookModel_digits 6 = .ok (.ifCond .lt 10, 3) := by decide +kernel
theorem d_PatternBookModel_digits_9 : decode b_PatternBookModel_digits 9 = .ok (.iload_n 1, 1) := by decide +kernel
theorem d_PatternBookModel_digits_10 : decode b_PatternBookModel_digits 10 = .ok (.sipush 1023, 3) := by decide +kernel
theorem d_PatternBookModel_digits_13 : decode b_PatternBookModel_digits 13 = .ok (.if_icmp .le 7, 3) := by decide +kernel
theorem d_PatternBookModel_digits_16 : decode b_PatternBookModel_digits 16 = .ok (.iconst (-1), 1) := by decide +kernel
theorem d_PatternBookModel_digits_17 : decode b_PatternBookModel_digits 17 = .ok (.goto 9, 3) := by decide +kernel
theorem d_PatternBookModel_digits_20 : decode b_PatternBookModel_digits 20 = .ok (.aload_n 0, 1) := by decide +kernel
theorem d_PatternBookModel_digits_21 : decode b_PatternBookModel_digits 21 = .ok (.getfield 13, 3) := by decide +kernel
theorem d_PatternBookModel_digits_24 : decode b_PatternBookModel_digits 24 = .ok (.iload_n 1, 1) := by decide +kernel
theorem d_PatternBookModel_digits_25 : decode b_PatternBookModel_digits 25 = .ok (.iaload, 1) := by decide +kernel
theorem d_PatternBookModel_digits_26 : decode b_PatternBookModel_digits 26 = .ok (.ireturn, 1) := by decide +kernel
theorem d_PatternBookModel_declet_0 : decode b_PatternBookModel_declet 0 = .ok (.aload_n 0, 1) := by decide +kernel
theorem d_PatternBookModel_declet_1 : decode b_PatternBookModel_declet 1 = .ok (.iconst 0, 1) := by decide +kernel
theorem d_PatternBookModel_declet_2 : decode b_PatternBookModel_declet 2 = .ok (.putfield 24, 3) := by decide +kernel
theorem d_PatternBookModel_declet_5 : decode b_PatternBookModel_declet 5 = .ok (.iload_n 1, 1) := by decide +kernel
theorem d_PatternBookModel_declet_6 : decode b_PatternBookModel_declet 6 = .ok (.ifCond .lt 10, 3) := by decide +kernel
theorem d_PatternBookModel_declet_9 : decode b_PatternBookModel_declet 9 = .ok (.iload_n 1, 1) := by decide +kernel
theorem d_PatternBookModel_declet_10 : decode b_PatternBookModel_declet 10 = .ok (.sipush 999, 3) := by decide +kernel
theorem d_PatternBookModel_declet_13 : decode b_PatternBookModel_declet 13 = .ok (.if_icmp .le 7, 3) := by decide +kernel
theorem d_PatternBookModel_declet_16 : decode b_PatternBookModel_declet 16 = .ok (.iconst (-1), 1) := by decide +kernel
theorem d_PatternBookModel_declet_17 : decode b_PatternBookModel_declet 17 = .ok (.goto 9, 3) := by decide +kernel
theorem d_PatternBookModel_declet_20 : decode b_PatternBookModel_declet 20 = .ok (.aload_n 0, 1) := by decide +kernel
theorem d_PatternBookModel_declet_21 : decode b_PatternBookModel_declet 21 = .ok (.getfield 17, 3) := by decide +kernel
theorem d_PatternBookModel_declet_24 : decode b_PatternBookModel_declet 24 = .ok (.iload_n 1, 1) := by decide +kernel
theorem d_PatternBookModel_declet_25 : decode b_PatternBookModel_declet 25 = .ok (.iaload, 1) := by decide +kernel
theorem d_PatternBookModel_declet_26 : decode b_PatternBookModel_declet 26 = .ok (.ireturn, 1) := by decide +kernel
