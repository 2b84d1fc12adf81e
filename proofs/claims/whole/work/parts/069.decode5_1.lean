theorem d_PatternBookLaw_unpack_0 : decode b_PatternBookLaw_unpack 0 = .ok (.aload 6, 2) := by decide +kernel
theorem d_PatternBookLaw_unpack_2 : decode b_PatternBookLaw_unpack 2 = .ok (.iconst 0, 1) := by decide +kernel
theorem d_PatternBookLaw_unpack_3 : decode b_PatternBookLaw_unpack 3 = .ok (.aload_n 0, 1) := by decide +kernel
theorem d_PatternBookLaw_unpack_4 : decode b_PatternBookLaw_unpack 4 = .ok (.iload_n 1, 1) := by decide +kernel
theorem d_PatternBookLaw_unpack_5 : decode b_PatternBookLaw_unpack 5 = .ok (.lload_n 2, 1) := by decide +kernel
theorem d_PatternBookLaw_unpack_6 : decode b_PatternBookLaw_unpack 6 = .ok (.lload 4, 2) := by decide +kernel
theorem d_PatternBookLaw_unpack_8 : decode b_PatternBookLaw_unpack 8 = .ok (.invokevirtual 7, 3) := by decide +kernel
theorem d_PatternBookLaw_unpack_11 : decode b_PatternBookLaw_unpack 11 = .ok (.i2l, 1) := by decide +kernel
theorem d_PatternBookLaw_unpack_12 : decode b_PatternBookLaw_unpack 12 = .ok (.lastore, 1) := by decide +kernel
theorem d_PatternBookLaw_unpack_13 : decode b_PatternBookLaw_unpack 13 = .ok (.goto 7, 3) := by decide +kernel
theorem d_PatternBookLaw_unpack_16 : decode b_PatternBookLaw_unpack 16 = .ok (.astore 7, 2) := by decide +kernel
theorem d_PatternBookLaw_unpack_18 : decode b_PatternBookLaw_unpack 18 = .ok (.iconst 1, 1) := by decide +kernel
theorem d_PatternBookLaw_unpack_19 : decode b_PatternBookLaw_unpack 19 = .ok (.ireturn, 1) := by decide +kernel
theorem d_PatternBookLaw_unpack_20 : decode b_PatternBookLaw_unpack 20 = .ok (.iconst 0, 1) := by decide +kernel
theorem d_PatternBookLaw_unpack_21 : decode b_PatternBookLaw_unpack 21 = .ok (.ireturn, 1) := by decide +kernel
theorem d_PatternBookLaw_canonical_0 : decode b_PatternBookLaw_canonical 0 = .ok (.aload 6, 2) := by decide +kernel
theorem d_PatternBookLaw_canonical_2 : decode b_PatternBookLaw_canonical 2 = .ok (.iconst 0, 1) := by decide +kernel
theorem d_PatternBookLaw_canonical_3 : decode b_PatternBookLaw_canonical 3 = .ok (.aload_n 0, 1) := by decide +kernel
theorem d_PatternBookLaw_canonical_4 : decode b_PatternBookLaw_canonical 4 = .ok (.iload_n 1, 1) := by decide +kernel
theorem d_PatternBookLaw_canonical_5 : decode b_PatternBookLaw_canonical 5 = .ok (.lload_n 2, 1) := by decide +kernel
theorem d_PatternBookLaw_canonical_6 : decode b_PatternBookLaw_canonical 6 = .ok (.lload 4, 2) := by decide +kernel
theorem d_PatternBookLaw_canonical_8 : decode b_PatternBookLaw_canonical 8 = .ok (.invokevirtual 15, 3) := by decide +kernel
theorem d_PatternBookLaw_canonical_11 : decode b_PatternBookLaw_canonical 11 = .ok (.ifCond .eq 7, 3) := by decide +kernel
theorem d_PatternBookLaw_canonical_14 : decode b_PatternBookLaw_canonical 14 = .ok (.lconst 1, 1) := by decide +kernel
theorem d_PatternBookLaw_canonical_15 : decode b_PatternBookLaw_canonical 15 = .ok (.goto 4, 3) := by decide +kernel
theorem d_PatternBookLaw_canonical_18 : decode b_PatternBookLaw_canonical 18 = .ok (.lconst 0, 1) := by decide +kernel
theorem d_PatternBookLaw_canonical_19 : decode b_PatternBookLaw_canonical 19 = .ok (.lastore, 1) := by decide +kernel
theorem d_PatternBookLaw_canonical_20 : decode b_PatternBookLaw_canonical 20 = .ok (.goto 7, 3) := by decide +kernel
theorem d_PatternBookLaw_canonical_23 : decode b_PatternBookLaw_canonical 23 = .ok (.astore 7, 2) := by decide +kernel
theorem d_PatternBookLaw_canonical_25 : decode b_PatternBookLaw_canonical 25 = .ok (.iconst 1, 1) := by decide +kernel
theorem d_PatternBookLaw_canonical_26 : decode b_PatternBookLaw_canonical 26 = .ok (.ireturn, 1) := by decide +kernel
theorem d_PatternBookLaw_canonical_27 : decode b_PatternBookLaw_canonical 27 = .ok (.iconst 0, 1) := by decide +kernel
theorem d_PatternBookLaw_canonical_28 : decode b_PatternBookLaw_canonical 28 = .ok (.ireturn, 1) := by decide +kernel
theorem d_PatternBookLaw_pack_0 : decode b_PatternBookLaw_pack 0 = .ok (.aload_n 2, 1) := by decide +kernel
theorem d_PatternBookLaw_pack_1 : decode b_PatternBookLaw_pack 1 = .ok (.iconst 0, 1) := by decide +kernel
theorem d_PatternBookLaw_pack_2 : decode b_PatternBookLaw_pack 2 = .ok (.aload_n 0, 1) := by decide +kernel
theorem d_PatternBookLaw_pack_3 : decode b_PatternBookLaw_pack 3 = .ok (.iload_n 1, 1) := by decide +kernel
theorem d_PatternBookLaw_pack_4 : decode b_PatternBookLaw_pack 4 = .ok (.invokevirtual 19, 3) := by decide +kernel
theorem d_PatternBookLaw_pack_7 : decode b_PatternBookLaw_pack 7 = .ok (.ifCond .eq 7, 3) := by decide +kernel
theorem d_PatternBookLaw_pack_10 : decode b_PatternBookLaw_pack 10 = .ok (.lconst 1, 1) := by decide +kernel
theorem d_PatternBookLaw_pack_11 : decode b_PatternBookLaw_pack 11 = .ok (.goto 4, 3) := by decide +kernel
theorem d_PatternBookLaw_pack_14 : decode b_PatternBookLaw_pack 14 = .ok (.lconst 0, 1) := by decide +kernel
theorem d_PatternBookLaw_pack_15 : decode b_PatternBookLaw_pack 15 = .ok (.lastore, 1) := by decide +kernel
theorem d_PatternBookLaw_pack_16 : decode b_PatternBookLaw_pack 16 = .ok (.goto 6, 3) := by decide +kernel
theorem d_PatternBookLaw_pack_19 : decode b_PatternBookLaw_pack 19 = .ok (.astore_n 3, 1) := by decide +kernel
theorem d_PatternBookLaw_pack_20 : decode b_PatternBookLaw_pack 20 = .ok (.iconst 1, 1) := by decide +kernel
theorem d_PatternBookLaw_pack_21 : decode b_PatternBookLaw_pack 21 = .ok (.ireturn, 1) := by decide +kernel
theorem d_PatternBookLaw_pack_22 : decode b_PatternBookLaw_pack 22 = .ok (.iconst 0, 1) := by decide +kernel
theorem d_PatternBookLaw_pack_23 : decode b_PatternBookLaw_pack 23 = .ok (.ireturn, 1) := by decide +kernel
