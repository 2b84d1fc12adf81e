theorem d_PatternBookModel_init_43 : decode b_PatternBookModel_init 43 = .ok (.iload_n 1, 1) := by decide +kernel
theorem d_PatternBookModel_init_44 : decode b_PatternBookModel_init 44 = .ok (.iconst (-1), 1) := by decide +kernel
theorem d_PatternBookModel_init_45 : decode b_PatternBookModel_init 45 = .ok (.iastore, 1) := by decide +kernel
theorem d_PatternBookModel_init_46 : decode b_PatternBookModel_init 46 = .ok (.iinc 1 1, 3) := by decide +kernel
theorem d_PatternBookModel_init_49 : decode b_PatternBookModel_init 49 = .ok (.goto (-17), 3) := by decide +kernel
theorem d_PatternBookModel_init_52 : decode b_PatternBookModel_init 52 = .ok (.iconst 0, 1) := by decide +kernel
theorem d_PatternBookModel_init_53 : decode b_PatternBookModel_init 53 = .ok (.istore_n 1, 1) := by decide +kernel
theorem d_PatternBookModel_init_54 : decode b_PatternBookModel_init 54 = .ok (.iload_n 1, 1) := by decide +kernel
theorem d_PatternBookModel_init_55 : decode b_PatternBookModel_init 55 = .ok (.sipush 1024, 3) := by decide +kernel
theorem d_PatternBookModel_init_58 : decode b_PatternBookModel_init 58 = .ok (.if_icmp .ge 46, 3) := by decide +kernel
theorem d_PatternBookModel_init_61 : decode b_PatternBookModel_init 61 = .ok (.aload_n 0, 1) := by decide +kernel
theorem d_PatternBookModel_init_62 : decode b_PatternBookModel_init 62 = .ok (.getfield 13, 3) := by decide +kernel
theorem d_PatternBookModel_init_65 : decode b_PatternBookModel_init 65 = .ok (.iload_n 1, 1) := by decide +kernel
theorem d_PatternBookModel_init_66 : decode b_PatternBookModel_init 66 = .ok (.iload_n 1, 1) := by decide +kernel
theorem d_PatternBookModel_init_67 : decode b_PatternBookModel_init 67 = .ok (.invokestatic 20, 3) := by decide +kernel
theorem d_PatternBookModel_init_70 : decode b_PatternBookModel_init 70 = .ok (.iastore, 1) := by decide +kernel
theorem d_PatternBookModel_init_71 : decode b_PatternBookModel_init 71 = .ok (.aload_n 0, 1) := by decide +kernel
theorem d_PatternBookModel_init_72 : decode b_PatternBookModel_init 72 = .ok (.getfield 17, 3) := by decide +kernel
theorem d_PatternBookModel_init_75 : decode b_PatternBookModel_init 75 = .ok (.aload_n 0, 1) := by decide +kernel
theorem d_PatternBookModel_init_76 : decode b_PatternBookModel_init 76 = .ok (.getfield 13, 3) := by decide +kernel
theorem d_PatternBookModel_init_79 : decode b_PatternBookModel_init 79 = .ok (.iload_n 1, 1) := by decide +kernel
theorem d_PatternBookModel_init_80 : decode b_PatternBookModel_init 80 = .ok (.iaload, 1) := by decide +kernel
theorem d_PatternBookModel_init_81 : decode b_PatternBookModel_init 81 = .ok (.iaload, 1) := by decide +kernel
theorem d_PatternBookModel_init_82 : decode b_PatternBookModel_init 82 = .ok (.iconst (-1), 1) := by decide +kernel
theorem d_PatternBookModel_init_83 : decode b_PatternBookModel_init 83 = .ok (.if_icmp .ne 15, 3) := by decide +kernel
theorem d_PatternBookModel_init_86 : decode b_PatternBookModel_init 86 = .ok (.aload_n 0, 1) := by decide +kernel
theorem d_PatternBookModel_init_87 : decode b_PatternBookModel_init 87 = .ok (.getfield 17, 3) := by decide +kernel
theorem d_PatternBookModel_init_90 : decode b_PatternBookModel_init 90 = .ok (.aload_n 0, 1) := by decide +kernel
theorem d_PatternBookModel_init_91 : decode b_PatternBookModel_init 91 = .ok (.getfield 13, 3) := by decide +kernel
theorem d_PatternBookModel_init_94 : decode b_PatternBookModel_init 94 = .ok (.iload_n 1, 1) := by decide +kernel
theorem d_PatternBookModel_init_95 : decode b_PatternBookModel_init 95 = .ok (.iaload, 1) := by decide +kernel
theorem d_PatternBookModel_init_96 : decode b_PatternBookModel_init 96 = .ok (.iload_n 1, 1) := by decide +kernel
theorem d_PatternBookModel_init_97 : decode b_PatternBookModel_init 97 = .ok (.iastore, 1) := by decide +kernel
theorem d_PatternBookModel_init_98 : decode b_PatternBookModel_init 98 = .ok (.iinc 1 1, 3) := by decide +kernel
theorem d_PatternBookModel_init_101 : decode b_PatternBookModel_init 101 = .ok (.goto (-47), 3) := by decide +kernel
theorem d_PatternBookModel_init_104 : decode b_PatternBookModel_init 104 = .ok (.return_, 1) := by decide +kernel
