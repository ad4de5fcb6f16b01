theorem dX0_isKind_0 : decode cX0_isKind 0 = .ok (.iload_n 0, 1) := by decide +kernel
theorem dX0_isKind_1 : decode cX0_isKind 1 = .ok (.ifCond .lt 13, 3) := by decide +kernel
theorem dX0_isKind_4 : decode cX0_isKind 4 = .ok (.iload_n 0, 1) := by decide +kernel
theorem dX0_isKind_5 : decode cX0_isKind 5 = .ok (.bipush 7, 2) := by decide +kernel
theorem dX0_isKind_7 : decode cX0_isKind 7 = .ok (.if_icmp .ge 7, 3) := by decide +kernel
theorem dX0_isKind_10 : decode cX0_isKind 10 = .ok (.iconst 1, 1) := by decide +kernel
theorem dX0_isKind_11 : decode cX0_isKind 11 = .ok (.goto 4, 3) := by decide +kernel
theorem dX0_isKind_14 : decode cX0_isKind 14 = .ok (.iconst 0, 1) := by decide +kernel
theorem dX0_isKind_15 : decode cX0_isKind 15 = .ok (.ireturn, 1) := by decide +kernel
theorem dX0_isUnder_0 : decode cX0_isUnder 0 = .ok (.iload_n 0, 1) := by decide +kernel
theorem dX0_isUnder_1 : decode cX0_isUnder 1 = .ok (.istore_n 2, 1) := by decide +kernel
theorem dX0_isUnder_2 : decode cX0_isUnder 2 = .ok (.iconst 0, 1) := by decide +kernel
theorem dX0_isUnder_3 : decode cX0_isUnder 3 = .ok (.istore_n 3, 1) := by decide +kernel
theorem dX0_isUnder_4 : decode cX0_isUnder 4 = .ok (.iload_n 3, 1) := by decide +kernel
theorem dX0_isUnder_5 : decode cX0_isUnder 5 = .ok (.bipush 7, 2) := by decide +kernel
theorem dX0_isUnder_7 : decode cX0_isUnder 7 = .ok (.if_icmp .ge 29, 3) := by decide +kernel
theorem dX0_isUnder_10 : decode cX0_isUnder 10 = .ok (.iload_n 2, 1) := by decide +kernel
theorem dX0_isUnder_11 : decode cX0_isUnder 11 = .ok (.invokestatic 9, 3) := by decide +kernel
theorem dX0_isUnder_14 : decode cX0_isUnder 14 = .ok (.ifCond .eq 22, 3) := by decide +kernel
theorem dX0_isUnder_17 : decode cX0_isUnder 17 = .ok (.iload_n 2, 1) := by decide +kernel
theorem dX0_isUnder_18 : decode cX0_isUnder 18 = .ok (.iload_n 1, 1) := by decide +kernel
theorem dX0_isUnder_19 : decode cX0_isUnder 19 = .ok (.if_icmp .ne 5, 3) := by decide +kernel
theorem dX0_isUnder_22 : decode cX0_isUnder 22 = .ok (.iconst 1, 1) := by decide +kernel
theorem dX0_isUnder_23 : decode cX0_isUnder 23 = .ok (.ireturn, 1) := by decide +kernel
theorem dX0_isUnder_24 : decode cX0_isUnder 24 = .ok (.getstatic 13, 3) := by decide +kernel
theorem dX0_isUnder_27 : decode cX0_isUnder 27 = .ok (.iload_n 2, 1) := by decide +kernel
theorem dX0_isUnder_28 : decode cX0_isUnder 28 = .ok (.iaload, 1) := by decide +kernel
theorem dX0_isUnder_29 : decode cX0_isUnder 29 = .ok (.istore_n 2, 1) := by decide +kernel
theorem dX0_isUnder_30 : decode cX0_isUnder 30 = .ok (.iinc 3 1, 3) := by decide +kernel
theorem dX0_isUnder_33 : decode cX0_isUnder 33 = .ok (.goto (-29), 3) := by decide +kernel
theorem dX0_isUnder_36 : decode cX0_isUnder 36 = .ok (.iconst 0, 1) := by decide +kernel
theorem dX0_isUnder_37 : decode cX0_isUnder 37 = .ok (.ireturn, 1) := by decide +kernel
theorem dX0_eats_0 : decode cX0_eats 0 = .ok (.iload_n 0, 1) := by decide +kernel
theorem dX0_eats_1 : decode cX0_eats 1 = .ok (.tableswitch 67 1 6 #[39, 55, 57, 60, 65, 44], 39) := by decide +kernel
theorem dX0_eats_40 : decode cX0_eats 40 = .ok (.iload_n 1, 1) := by decide +kernel
theorem dX0_eats_41 : decode cX0_eats 41 = .ok (.invokestatic 17, 3) := by decide +kernel
theorem dX0_eats_44 : decode cX0_eats 44 = .ok (.ireturn, 1) := by decide +kernel
theorem dX0_eats_45 : decode cX0_eats 45 = .ok (.iconst 0, 1) := by decide +kernel
theorem dX0_eats_46 : decode cX0_eats 46 = .ok (.iload_n 1, 1) := by decide +kernel
theorem dX0_eats_47 : decode cX0_eats 47 = .ok (.invokestatic 17, 3) := by decide +kernel
theorem dX0_eats_50 : decode cX0_eats 50 = .ok (.iconst 1, 1) := by decide +kernel
theorem dX0_eats_51 : decode cX0_eats 51 = .ok (.isub, 1) := by decide +kernel
theorem dX0_eats_52 : decode cX0_eats 52 = .ok (.invokestatic 21, 3) := by decide +kernel
theorem dX0_eats_55 : decode cX0_eats 55 = .ok (.ireturn, 1) := by decide +kernel
theorem dX0_eats_56 : decode cX0_eats 56 = .ok (.iconst 3, 1) := by decide +kernel
theorem dX0_eats_57 : decode cX0_eats 57 = .ok (.ireturn, 1) := by decide +kernel
theorem dX0_eats_58 : decode cX0_eats 58 = .ok (.bipush 6, 2) := by decide +kernel
theorem dX0_eats_60 : decode cX0_eats 60 = .ok (.ireturn, 1) := by decide +kernel
theorem dX0_eats_61 : decode cX0_eats 61 = .ok (.bipush 6, 2) := by decide +kernel
theorem dX0_eats_63 : decode cX0_eats 63 = .ok (.iload_n 2, 1) := by decide +kernel
theorem dX0_eats_64 : decode cX0_eats 64 = .ok (.isub, 1) := by decide +kernel
theorem dX0_eats_65 : decode cX0_eats 65 = .ok (.ireturn, 1) := by decide +kernel
theorem dX0_eats_66 : decode cX0_eats 66 = .ok (.iconst 1, 1) := by decide +kernel
theorem dX0_eats_67 : decode cX0_eats 67 = .ok (.ireturn, 1) := by decide +kernel
theorem dX0_eats_68 : decode cX0_eats 68 = .ok (.iconst 2, 1) := by decide +kernel
theorem dX0_eats_69 : decode cX0_eats 69 = .ok (.ireturn, 1) := by decide +kernel
theorem dX0_poetEats_0 : decode cX0_poetEats 0 = .ok (.iload_n 0, 1) := by decide +kernel
theorem dX0_poetEats_1 : decode cX0_poetEats 1 = .ok (.bipush 60, 2) := by decide +kernel
theorem dX0_poetEats_3 : decode cX0_poetEats 3 = .ok (.if_icmp .lt 7, 3) := by decide +kernel
theorem dX0_poetEats_6 : decode cX0_poetEats 6 = .ok (.iconst 0, 1) := by decide +kernel
theorem dX0_poetEats_7 : decode cX0_poetEats 7 = .ok (.goto 4, 3) := by decide +kernel
theorem dX0_poetEats_10 : decode cX0_poetEats 10 = .ok (.iconst 2, 1) := by decide +kernel
theorem dX0_poetEats_11 : decode cX0_poetEats 11 = .ok (.ireturn, 1) := by decide +kernel
theorem dX0_writes_0 : decode cX0_writes 0 = .ok (.iload_n 0, 1) := by decide +kernel
theorem dX0_writes_1 : decode cX0_writes 1 = .ok (.tableswitch 70 1 6 #[39, 70, 53, 55, 57, 51], 39) := by decide +kernel
theorem dX0_writes_40 : decode cX0_writes 40 = .ok (.iload_n 1, 1) := by decide +kernel
theorem dX0_writes_41 : decode cX0_writes 41 = .ok (.bipush 20, 2) := by decide +kernel
theorem dX0_writes_43 : decode cX0_writes 43 = .ok (.if_icmp .ge 7, 3) := by decide +kernel
theorem dX0_writes_46 : decode cX0_writes 46 = .ok (.iconst 4, 1) := by decide +kernel
theorem dX0_writes_47 : decode cX0_writes 47 = .ok (.goto 4, 3) := by decide +kernel
theorem dX0_writes_50 : decode cX0_writes 50 = .ok (.iconst 2, 1) := by decide +kernel
theorem dX0_writes_51 : decode cX0_writes 51 = .ok (.ireturn, 1) := by decide +kernel
theorem dX0_writes_52 : decode cX0_writes 52 = .ok (.iconst 1, 1) := by decide +kernel
theorem dX0_writes_53 : decode cX0_writes 53 = .ok (.ireturn, 1) := by decide +kernel
theorem dX0_writes_54 : decode cX0_writes 54 = .ok (.iconst 4, 1) := by decide +kernel
theorem dX0_writes_55 : decode cX0_writes 55 = .ok (.ireturn, 1) := by decide +kernel
theorem dX0_writes_56 : decode cX0_writes 56 = .ok (.iconst 0, 1) := by decide +kernel
theorem dX0_writes_57 : decode cX0_writes 57 = .ok (.ireturn, 1) := by decide +kernel
theorem dX0_writes_58 : decode cX0_writes 58 = .ok (.iload_n 1, 1) := by decide +kernel
theorem dX0_writes_59 : decode cX0_writes 59 = .ok (.iconst 2, 1) := by decide +kernel
theorem dX0_writes_60 : decode cX0_writes 60 = .ok (.irem, 1) := by decide +kernel
theorem dX0_writes_61 : decode cX0_writes 61 = .ok (.iconst 1, 1) := by decide +kernel
theorem dX0_writes_62 : decode cX0_writes 62 = .ok (.if_icmp .ne 7, 3) := by decide +kernel
theorem dX0_writes_65 : decode cX0_writes 65 = .ok (.iconst 1, 1) := by decide +kernel
theorem dX0_writes_66 : decode cX0_writes 66 = .ok (.goto 4, 3) := by decide +kernel
theorem dX0_writes_69 : decode cX0_writes 69 = .ok (.iconst 2, 1) := by decide +kernel
theorem dX0_writes_70 : decode cX0_writes 70 = .ok (.ireturn, 1) := by decide +kernel
theorem dX0_writes_71 : decode cX0_writes 71 = .ok (.iconst 2, 1) := by decide +kernel
theorem dX0_writes_72 : decode cX0_writes 72 = .ok (.ireturn, 1) := by decide +kernel
theorem dX0_isKept_0 : decode cX0_isKept 0 = .ok (.iload_n 0, 1) := by decide +kernel
theorem dX0_isKept_1 : decode cX0_isKept 1 = .ok (.tableswitch 73 1 6 #[39, 73, 49, 61, 63, 39], 39) := by decide +kernel
theorem dX0_isKept_40 : decode cX0_isKept 40 = .ok (.iload_n 2, 1) := by decide +kernel
theorem dX0_isKept_41 : decode cX0_isKept 41 = .ok (.ifCond .eq 7, 3) := by decide +kernel
theorem dX0_isKept_44 : decode cX0_isKept 44 = .ok (.iconst 1, 1) := by decide +kernel
theorem dX0_isKept_45 : decode cX0_isKept 45 = .ok (.goto 4, 3) := by decide +kernel
theorem dX0_isKept_48 : decode cX0_isKept 48 = .ok (.iconst 0, 1) := by decide +kernel
theorem dX0_isKept_49 : decode cX0_isKept 49 = .ok (.ireturn, 1) := by decide +kernel
theorem dX0_isKept_50 : decode cX0_isKept 50 = .ok (.iload_n 2, 1) := by decide +kernel
theorem dX0_isKept_51 : decode cX0_isKept 51 = .ok (.iconst 2, 1) := by decide +kernel
theorem dX0_isKept_52 : decode cX0_isKept 52 = .ok (.irem, 1) := by decide +kernel
theorem dX0_isKept_53 : decode cX0_isKept 53 = .ok (.ifCond .ne 7, 3) := by decide +kernel
theorem dX0_isKept_56 : decode cX0_isKept 56 = .ok (.iconst 1, 1) := by decide +kernel
theorem dX0_isKept_57 : decode cX0_isKept 57 = .ok (.goto 4, 3) := by decide +kernel
theorem dX0_isKept_60 : decode cX0_isKept 60 = .ok (.iconst 0, 1) := by decide +kernel
theorem dX0_isKept_61 : decode cX0_isKept 61 = .ok (.ireturn, 1) := by decide +kernel
theorem dX0_isKept_62 : decode cX0_isKept 62 = .ok (.iconst 0, 1) := by decide +kernel
theorem dX0_isKept_63 : decode cX0_isKept 63 = .ok (.ireturn, 1) := by decide +kernel
theorem dX0_isKept_64 : decode cX0_isKept 64 = .ok (.iload_n 1, 1) := by decide +kernel
theorem dX0_isKept_65 : decode cX0_isKept 65 = .ok (.ifCond .ne 7, 3) := by decide +kernel
theorem dX0_isKept_68 : decode cX0_isKept 68 = .ok (.iconst 1, 1) := by decide +kernel
theorem dX0_isKept_69 : decode cX0_isKept 69 = .ok (.goto 4, 3) := by decide +kernel
theorem dX0_isKept_72 : decode cX0_isKept 72 = .ok (.iconst 0, 1) := by decide +kernel
theorem dX0_isKept_73 : decode cX0_isKept 73 = .ok (.ireturn, 1) := by decide +kernel
theorem dX0_isKept_74 : decode cX0_isKept 74 = .ok (.iconst 1, 1) := by decide +kernel
theorem dX0_isKept_75 : decode cX0_isKept 75 = .ok (.ireturn, 1) := by decide +kernel
theorem dX0_nameOf_0 : decode cX0_nameOf 0 = .ok (.iload_n 0, 1) := by decide +kernel
theorem dX0_nameOf_1 : decode cX0_nameOf 1 = .ok (.tableswitch 57 1 6 #[39, 42, 45, 48, 51, 54], 39) := by decide +kernel
theorem dX0_nameOf_40 : decode cX0_nameOf 40 = .ok (.ldc 27, 2) := by decide +kernel
theorem dX0_nameOf_42 : decode cX0_nameOf 42 = .ok (.areturn, 1) := by decide +kernel
theorem dX0_nameOf_43 : decode cX0_nameOf 43 = .ok (.ldc 29, 2) := by decide +kernel
theorem dX0_nameOf_45 : decode cX0_nameOf 45 = .ok (.areturn, 1) := by decide +kernel
theorem dX0_nameOf_46 : decode cX0_nameOf 46 = .ok (.ldc 31, 2) := by decide +kernel
theorem dX0_nameOf_48 : decode cX0_nameOf 48 = .ok (.areturn, 1) := by decide +kernel
theorem dX0_nameOf_49 : decode cX0_nameOf 49 = .ok (.ldc 33, 2) := by decide +kernel
theorem dX0_nameOf_51 : decode cX0_nameOf 51 = .ok (.areturn, 1) := by decide +kernel
theorem dX0_nameOf_52 : decode cX0_nameOf 52 = .ok (.ldc 35, 2) := by decide +kernel
theorem dX0_nameOf_54 : decode cX0_nameOf 54 = .ok (.areturn, 1) := by decide +kernel
theorem dX0_nameOf_55 : decode cX0_nameOf 55 = .ok (.ldc 37, 2) := by decide +kernel
theorem dX0_nameOf_57 : decode cX0_nameOf 57 = .ok (.areturn, 1) := by decide +kernel
theorem dX0_nameOf_58 : decode cX0_nameOf 58 = .ok (.ldc 39, 2) := by decide +kernel
theorem dX0_nameOf_60 : decode cX0_nameOf 60 = .ok (.areturn, 1) := by decide +kernel
theorem dX1_init_0 : decode cX1_init 0 = .ok (.aload_n 0, 1) := by decide +kernel
theorem dX1_init_1 : decode cX1_init 1 = .ok (.invokespecial 3, 3) := by decide +kernel
theorem dX1_init_4 : decode cX1_init 4 = .ok (.aload_n 0, 1) := by decide +kernel
theorem dX1_init_5 : decode cX1_init 5 = .ok (.bipush 10, 2) := by decide +kernel
theorem dX1_init_7 : decode cX1_init 7 = .ok (.newarray .int, 2) := by decide +kernel
theorem dX1_init_9 : decode cX1_init 9 = .ok (.putfield 9, 3) := by decide +kernel
theorem dX1_init_12 : decode cX1_init 12 = .ok (.aload_n 0, 1) := by decide +kernel
theorem dX1_init_13 : decode cX1_init 13 = .ok (.bipush 6, 2) := by decide +kernel
theorem dX1_init_15 : decode cX1_init 15 = .ok (.newarray .int, 2) := by decide +kernel
theorem dX1_init_17 : decode cX1_init 17 = .ok (.putfield 15, 3) := by decide +kernel
theorem dX1_init_20 : decode cX1_init 20 = .ok (.aload_n 0, 1) := by decide +kernel
theorem dX1_init_21 : decode cX1_init 21 = .ok (.bipush 6, 2) := by decide +kernel
theorem dX1_init_23 : decode cX1_init 23 = .ok (.newarray .int, 2) := by decide +kernel
theorem dX1_init_25 : decode cX1_init 25 = .ok (.putfield 18, 3) := by decide +kernel
theorem dX1_init_28 : decode cX1_init 28 = .ok (.aload_n 0, 1) := by decide +kernel
theorem dX1_init_29 : decode cX1_init 29 = .ok (.bipush 8, 2) := by decide +kernel
theorem dX1_init_31 : decode cX1_init 31 = .ok (.newarray .int, 2) := by decide +kernel
theorem dX1_init_33 : decode cX1_init 33 = .ok (.putfield 21, 3) := by decide +kernel
theorem dX1_init_36 : decode cX1_init 36 = .ok (.aload_n 0, 1) := by decide +kernel
theorem dX1_init_37 : decode cX1_init 37 = .ok (.bipush 8, 2) := by decide +kernel
theorem dX1_init_39 : decode cX1_init 39 = .ok (.newarray .int, 2) := by decide +kernel
theorem dX1_init_41 : decode cX1_init 41 = .ok (.putfield 24, 3) := by decide +kernel
theorem dX1_init_44 : decode cX1_init 44 = .ok (.aload_n 0, 1) := by decide +kernel
theorem dX1_init_45 : decode cX1_init 45 = .ok (.bipush 8, 2) := by decide +kernel
theorem dX1_init_47 : decode cX1_init 47 = .ok (.newarray .int, 2) := by decide +kernel
theorem dX1_init_49 : decode cX1_init 49 = .ok (.putfield 27, 3) := by decide +kernel
theorem dX1_init_52 : decode cX1_init 52 = .ok (.aload_n 0, 1) := by decide +kernel
theorem dX1_init_53 : decode cX1_init 53 = .ok (.bipush 8, 2) := by decide +kernel
theorem dX1_init_55 : decode cX1_init 55 = .ok (.newarray .int, 2) := by decide +kernel
theorem dX1_init_57 : decode cX1_init 57 = .ok (.putfield 30, 3) := by decide +kernel
theorem dX1_init_60 : decode cX1_init 60 = .ok (.aload_n 0, 1) := by decide +kernel
theorem dX1_init_61 : decode cX1_init 61 = .ok (.bipush 8, 2) := by decide +kernel
theorem dX1_init_63 : decode cX1_init 63 = .ok (.newarray .int, 2) := by decide +kernel
theorem dX1_init_65 : decode cX1_init 65 = .ok (.putfield 33, 3) := by decide +kernel
theorem dX1_init_68 : decode cX1_init 68 = .ok (.aload_n 0, 1) := by decide +kernel
theorem dX1_init_69 : decode cX1_init 69 = .ok (.bipush 10, 2) := by decide +kernel
theorem dX1_init_71 : decode cX1_init 71 = .ok (.newarray .int, 2) := by decide +kernel
theorem dX1_init_73 : decode cX1_init 73 = .ok (.putfield 36, 3) := by decide +kernel
theorem dX1_init_76 : decode cX1_init 76 = .ok (.aload_n 0, 1) := by decide +kernel
theorem dX1_init_77 : decode cX1_init 77 = .ok (.iconst 0, 1) := by decide +kernel
theorem dX1_init_78 : decode cX1_init 78 = .ok (.putfield 39, 3) := by decide +kernel
theorem dX1_init_81 : decode cX1_init 81 = .ok (.aload_n 0, 1) := by decide +kernel
theorem dX1_init_82 : decode cX1_init 82 = .ok (.iconst 0, 1) := by decide +kernel
theorem dX1_init_83 : decode cX1_init 83 = .ok (.putfield 43, 3) := by decide +kernel
theorem dX1_init_86 : decode cX1_init 86 = .ok (.aload_n 0, 1) := by decide +kernel
theorem dX1_init_87 : decode cX1_init 87 = .ok (.iconst 1, 1) := by decide +kernel
theorem dX1_init_88 : decode cX1_init 88 = .ok (.putfield 46, 3) := by decide +kernel
theorem dX1_init_91 : decode cX1_init 91 = .ok (.iconst 0, 1) := by decide +kernel
theorem dX1_init_92 : decode cX1_init 92 = .ok (.istore_n 1, 1) := by decide +kernel
theorem dX1_init_93 : decode cX1_init 93 = .ok (.iload_n 1, 1) := by decide +kernel
theorem dX1_init_94 : decode cX1_init 94 = .ok (.bipush 6, 2) := by decide +kernel
theorem dX1_init_96 : decode cX1_init 96 = .ok (.if_icmp .ge 24, 3) := by decide +kernel
theorem dX1_init_99 : decode cX1_init 99 = .ok (.aload_n 0, 1) := by decide +kernel
theorem dX1_init_100 : decode cX1_init 100 = .ok (.getfield 15, 3) := by decide +kernel
theorem dX1_init_103 : decode cX1_init 103 = .ok (.iload_n 1, 1) := by decide +kernel
theorem dX1_init_104 : decode cX1_init 104 = .ok (.bipush 12, 2) := by decide +kernel
theorem dX1_init_106 : decode cX1_init 106 = .ok (.iastore, 1) := by decide +kernel
theorem dX1_init_107 : decode cX1_init 107 = .ok (.aload_n 0, 1) := by decide +kernel
theorem dX1_init_108 : decode cX1_init 108 = .ok (.getfield 18, 3) := by decide +kernel
theorem dX1_init_111 : decode cX1_init 111 = .ok (.iload_n 1, 1) := by decide +kernel
theorem dX1_init_112 : decode cX1_init 112 = .ok (.iconst 3, 1) := by decide +kernel
theorem dX1_init_113 : decode cX1_init 113 = .ok (.iastore, 1) := by decide +kernel
theorem dX1_init_114 : decode cX1_init 114 = .ok (.iinc 1 1, 3) := by decide +kernel
theorem dX1_init_117 : decode cX1_init 117 = .ok (.goto (-24), 3) := by decide +kernel
theorem dX1_init_120 : decode cX1_init 120 = .ok (.iconst 0, 1) := by decide +kernel
theorem dX1_init_121 : decode cX1_init 121 = .ok (.istore_n 1, 1) := by decide +kernel
theorem dX1_init_122 : decode cX1_init 122 = .ok (.iload_n 1, 1) := by decide +kernel
theorem dX1_init_123 : decode cX1_init 123 = .ok (.bipush 10, 2) := by decide +kernel
theorem dX1_init_125 : decode cX1_init 125 = .ok (.if_icmp .ge 16, 3) := by decide +kernel
theorem dX1_init_128 : decode cX1_init 128 = .ok (.aload_n 0, 1) := by decide +kernel
theorem dX1_init_129 : decode cX1_init 129 = .ok (.getfield 36, 3) := by decide +kernel
theorem dX1_init_132 : decode cX1_init 132 = .ok (.iload_n 1, 1) := by decide +kernel
theorem dX1_init_133 : decode cX1_init 133 = .ok (.iconst (-1), 1) := by decide +kernel
theorem dX1_init_134 : decode cX1_init 134 = .ok (.iastore, 1) := by decide +kernel
theorem dX1_init_135 : decode cX1_init 135 = .ok (.iinc 1 1, 3) := by decide +kernel
theorem dX1_init_138 : decode cX1_init 138 = .ok (.goto (-16), 3) := by decide +kernel
theorem dX1_init_141 : decode cX1_init 141 = .ok (.return_, 1) := by decide +kernel
theorem dX1_become_0 : decode cX1_become 0 = .ok (.aload_n 1, 1) := by decide +kernel
theorem dX1_become_1 : decode cX1_become 1 = .ok (.getfield 9, 3) := by decide +kernel
theorem dX1_become_4 : decode cX1_become 4 = .ok (.iconst 0, 1) := by decide +kernel
theorem dX1_become_5 : decode cX1_become 5 = .ok (.aload_n 0, 1) := by decide +kernel
theorem dX1_become_6 : decode cX1_become 6 = .ok (.getfield 9, 3) := by decide +kernel
theorem dX1_become_9 : decode cX1_become 9 = .ok (.iconst 0, 1) := by decide +kernel
theorem dX1_become_10 : decode cX1_become 10 = .ok (.bipush 10, 2) := by decide +kernel
theorem dX1_become_12 : decode cX1_become 12 = .ok (.invokestatic 49, 3) := by decide +kernel
theorem dX1_become_15 : decode cX1_become 15 = .ok (.aload_n 1, 1) := by decide +kernel
theorem dX1_become_16 : decode cX1_become 16 = .ok (.getfield 15, 3) := by decide +kernel
theorem dX1_become_19 : decode cX1_become 19 = .ok (.iconst 0, 1) := by decide +kernel
theorem dX1_become_20 : decode cX1_become 20 = .ok (.aload_n 0, 1) := by decide +kernel
theorem dX1_become_21 : decode cX1_become 21 = .ok (.getfield 15, 3) := by decide +kernel
theorem dX1_become_24 : decode cX1_become 24 = .ok (.iconst 0, 1) := by decide +kernel
theorem dX1_become_25 : decode cX1_become 25 = .ok (.bipush 6, 2) := by decide +kernel
theorem dX1_become_27 : decode cX1_become 27 = .ok (.invokestatic 49, 3) := by decide +kernel
theorem dX1_become_30 : decode cX1_become 30 = .ok (.aload_n 1, 1) := by decide +kernel
theorem dX1_become_31 : decode cX1_become 31 = .ok (.getfield 18, 3) := by decide +kernel
theorem dX1_become_34 : decode cX1_become 34 = .ok (.iconst 0, 1) := by decide +kernel
theorem dX1_become_35 : decode cX1_become 35 = .ok (.aload_n 0, 1) := by decide +kernel
theorem dX1_become_36 : decode cX1_become 36 = .ok (.getfield 18, 3) := by decide +kernel
theorem dX1_become_39 : decode cX1_become 39 = .ok (.iconst 0, 1) := by decide +kernel
theorem dX1_become_40 : decode cX1_become 40 = .ok (.bipush 6, 2) := by decide +kernel
theorem dX1_become_42 : decode cX1_become 42 = .ok (.invokestatic 49, 3) := by decide +kernel
theorem dX1_become_45 : decode cX1_become 45 = .ok (.aload_n 1, 1) := by decide +kernel
theorem dX1_become_46 : decode cX1_become 46 = .ok (.getfield 21, 3) := by decide +kernel
theorem dX1_become_49 : decode cX1_become 49 = .ok (.iconst 0, 1) := by decide +kernel
theorem dX1_become_50 : decode cX1_become 50 = .ok (.aload_n 0, 1) := by decide +kernel
theorem dX1_become_51 : decode cX1_become 51 = .ok (.getfield 21, 3) := by decide +kernel
theorem dX1_become_54 : decode cX1_become 54 = .ok (.iconst 0, 1) := by decide +kernel
theorem dX1_become_55 : decode cX1_become 55 = .ok (.bipush 8, 2) := by decide +kernel
theorem dX1_become_57 : decode cX1_become 57 = .ok (.invokestatic 49, 3) := by decide +kernel
theorem dX1_become_60 : decode cX1_become 60 = .ok (.aload_n 1, 1) := by decide +kernel
theorem dX1_become_61 : decode cX1_become 61 = .ok (.getfield 24, 3) := by decide +kernel
theorem dX1_become_64 : decode cX1_become 64 = .ok (.iconst 0, 1) := by decide +kernel
theorem dX1_become_65 : decode cX1_become 65 = .ok (.aload_n 0, 1) := by decide +kernel
theorem dX1_become_66 : decode cX1_become 66 = .ok (.getfield 24, 3) := by decide +kernel
theorem dX1_become_69 : decode cX1_become 69 = .ok (.iconst 0, 1) := by decide +kernel
theorem dX1_become_70 : decode cX1_become 70 = .ok (.bipush 8, 2) := by decide +kernel
theorem dX1_become_72 : decode cX1_become 72 = .ok (.invokestatic 49, 3) := by decide +kernel
theorem dX1_become_75 : decode cX1_become 75 = .ok (.aload_n 1, 1) := by decide +kernel
theorem dX1_become_76 : decode cX1_become 76 = .ok (.getfield 27, 3) := by decide +kernel
theorem dX1_become_79 : decode cX1_become 79 = .ok (.iconst 0, 1) := by decide +kernel
theorem dX1_become_80 : decode cX1_become 80 = .ok (.aload_n 0, 1) := by decide +kernel
theorem dX1_become_81 : decode cX1_become 81 = .ok (.getfield 27, 3) := by decide +kernel
theorem dX1_become_84 : decode cX1_become 84 = .ok (.iconst 0, 1) := by decide +kernel
theorem dX1_become_85 : decode cX1_become 85 = .ok (.bipush 8, 2) := by decide +kernel
theorem dX1_become_87 : decode cX1_become 87 = .ok (.invokestatic 49, 3) := by decide +kernel
theorem dX1_become_90 : decode cX1_become 90 = .ok (.aload_n 1, 1) := by decide +kernel
theorem dX1_become_91 : decode cX1_become 91 = .ok (.getfield 30, 3) := by decide +kernel
theorem dX1_become_94 : decode cX1_become 94 = .ok (.iconst 0, 1) := by decide +kernel
theorem dX1_become_95 : decode cX1_become 95 = .ok (.aload_n 0, 1) := by decide +kernel
theorem dX1_become_96 : decode cX1_become 96 = .ok (.getfield 30, 3) := by decide +kernel
theorem dX1_become_99 : decode cX1_become 99 = .ok (.iconst 0, 1) := by decide +kernel
theorem dX1_become_100 : decode cX1_become 100 = .ok (.bipush 8, 2) := by decide +kernel
theorem dX1_become_102 : decode cX1_become 102 = .ok (.invokestatic 49, 3) := by decide +kernel
theorem dX1_become_105 : decode cX1_become 105 = .ok (.aload_n 1, 1) := by decide +kernel
theorem dX1_become_106 : decode cX1_become 106 = .ok (.getfield 33, 3) := by decide +kernel
theorem dX1_become_109 : decode cX1_become 109 = .ok (.iconst 0, 1) := by decide +kernel
theorem dX1_become_110 : decode cX1_become 110 = .ok (.aload_n 0, 1) := by decide +kernel
theorem dX1_become_111 : decode cX1_become 111 = .ok (.getfield 33, 3) := by decide +kernel
theorem dX1_become_114 : decode cX1_become 114 = .ok (.iconst 0, 1) := by decide +kernel
theorem dX1_become_115 : decode cX1_become 115 = .ok (.bipush 8, 2) := by decide +kernel
theorem dX1_become_117 : decode cX1_become 117 = .ok (.invokestatic 49, 3) := by decide +kernel
theorem dX1_become_120 : decode cX1_become 120 = .ok (.aload_n 1, 1) := by decide +kernel
theorem dX1_become_121 : decode cX1_become 121 = .ok (.getfield 36, 3) := by decide +kernel
theorem dX1_become_124 : decode cX1_become 124 = .ok (.iconst 0, 1) := by decide +kernel
theorem dX1_become_125 : decode cX1_become 125 = .ok (.aload_n 0, 1) := by decide +kernel
theorem dX1_become_126 : decode cX1_become 126 = .ok (.getfield 36, 3) := by decide +kernel
theorem dX1_become_129 : decode cX1_become 129 = .ok (.iconst 0, 1) := by decide +kernel
theorem dX1_become_130 : decode cX1_become 130 = .ok (.bipush 10, 2) := by decide +kernel
theorem dX1_become_132 : decode cX1_become 132 = .ok (.invokestatic 49, 3) := by decide +kernel
theorem dX1_become_135 : decode cX1_become 135 = .ok (.aload_n 0, 1) := by decide +kernel
theorem dX1_become_136 : decode cX1_become 136 = .ok (.aload_n 1, 1) := by decide +kernel
theorem dX1_become_137 : decode cX1_become 137 = .ok (.getfield 39, 3) := by decide +kernel
theorem dX1_become_140 : decode cX1_become 140 = .ok (.putfield 39, 3) := by decide +kernel
theorem dX1_become_143 : decode cX1_become 143 = .ok (.aload_n 0, 1) := by decide +kernel
theorem dX1_become_144 : decode cX1_become 144 = .ok (.aload_n 1, 1) := by decide +kernel
theorem dX1_become_145 : decode cX1_become 145 = .ok (.getfield 43, 3) := by decide +kernel
theorem dX1_become_148 : decode cX1_become 148 = .ok (.putfield 43, 3) := by decide +kernel
theorem dX1_become_151 : decode cX1_become 151 = .ok (.aload_n 0, 1) := by decide +kernel
theorem dX1_become_152 : decode cX1_become 152 = .ok (.aload_n 1, 1) := by decide +kernel
theorem dX1_become_153 : decode cX1_become 153 = .ok (.getfield 46, 3) := by decide +kernel
theorem dX1_become_156 : decode cX1_become 156 = .ok (.putfield 46, 3) := by decide +kernel
theorem dX1_become_159 : decode cX1_become 159 = .ok (.return_, 1) := by decide +kernel
theorem dX1_isFull_0 : decode cX1_isFull 0 = .ok (.aload_n 0, 1) := by decide +kernel
theorem dX1_isFull_1 : decode cX1_isFull 1 = .ok (.getfield 39, 3) := by decide +kernel
theorem dX1_isFull_4 : decode cX1_isFull 4 = .ok (.bipush 8, 2) := by decide +kernel
theorem dX1_isFull_6 : decode cX1_isFull 6 = .ok (.if_icmp .lt 7, 3) := by decide +kernel
theorem dX1_isFull_9 : decode cX1_isFull 9 = .ok (.iconst 1, 1) := by decide +kernel
theorem dX1_isFull_10 : decode cX1_isFull 10 = .ok (.goto 4, 3) := by decide +kernel
theorem dX1_isFull_13 : decode cX1_isFull 13 = .ok (.iconst 0, 1) := by decide +kernel
theorem dX1_isFull_14 : decode cX1_isFull 14 = .ok (.ireturn, 1) := by decide +kernel
theorem dX1_addWriter_0 : decode cX1_addWriter 0 = .ok (.aload_n 0, 1) := by decide +kernel
theorem dX1_addWriter_1 : decode cX1_addWriter 1 = .ok (.invokevirtual 55, 3) := by decide +kernel
theorem dX1_addWriter_4 : decode cX1_addWriter 4 = .ok (.ifCond .eq 5, 3) := by decide +kernel
theorem dX1_addWriter_7 : decode cX1_addWriter 7 = .ok (.iconst (-1), 1) := by decide +kernel
theorem dX1_addWriter_8 : decode cX1_addWriter 8 = .ok (.ireturn, 1) := by decide +kernel
theorem dX1_addWriter_9 : decode cX1_addWriter 9 = .ok (.aload_n 0, 1) := by decide +kernel
theorem dX1_addWriter_10 : decode cX1_addWriter 10 = .ok (.getfield 39, 3) := by decide +kernel
theorem dX1_addWriter_13 : decode cX1_addWriter 13 = .ok (.istore 4, 2) := by decide +kernel
theorem dX1_addWriter_15 : decode cX1_addWriter 15 = .ok (.aload_n 0, 1) := by decide +kernel
theorem dX1_addWriter_16 : decode cX1_addWriter 16 = .ok (.getfield 21, 3) := by decide +kernel
theorem dX1_addWriter_19 : decode cX1_addWriter 19 = .ok (.iload 4, 2) := by decide +kernel
theorem dX1_addWriter_21 : decode cX1_addWriter 21 = .ok (.iload_n 1, 1) := by decide +kernel
theorem dX1_addWriter_22 : decode cX1_addWriter 22 = .ok (.iastore, 1) := by decide +kernel
theorem dX1_addWriter_23 : decode cX1_addWriter 23 = .ok (.aload_n 0, 1) := by decide +kernel
theorem dX1_addWriter_24 : decode cX1_addWriter 24 = .ok (.getfield 24, 3) := by decide +kernel
theorem dX1_addWriter_27 : decode cX1_addWriter 27 = .ok (.iload 4, 2) := by decide +kernel
theorem dX1_addWriter_29 : decode cX1_addWriter 29 = .ok (.iload_n 2, 1) := by decide +kernel
theorem dX1_addWriter_30 : decode cX1_addWriter 30 = .ok (.iastore, 1) := by decide +kernel
theorem dX1_addWriter_31 : decode cX1_addWriter 31 = .ok (.aload_n 0, 1) := by decide +kernel
theorem dX1_addWriter_32 : decode cX1_addWriter 32 = .ok (.getfield 27, 3) := by decide +kernel
theorem dX1_addWriter_35 : decode cX1_addWriter 35 = .ok (.iload 4, 2) := by decide +kernel
theorem dX1_addWriter_37 : decode cX1_addWriter 37 = .ok (.iconst 0, 1) := by decide +kernel
theorem dX1_addWriter_38 : decode cX1_addWriter 38 = .ok (.iastore, 1) := by decide +kernel
theorem dX1_addWriter_39 : decode cX1_addWriter 39 = .ok (.aload_n 0, 1) := by decide +kernel
theorem dX1_addWriter_40 : decode cX1_addWriter 40 = .ok (.getfield 30, 3) := by decide +kernel
theorem dX1_addWriter_43 : decode cX1_addWriter 43 = .ok (.iload 4, 2) := by decide +kernel
theorem dX1_addWriter_45 : decode cX1_addWriter 45 = .ok (.iload_n 3, 1) := by decide +kernel
theorem dX1_addWriter_46 : decode cX1_addWriter 46 = .ok (.iastore, 1) := by decide +kernel
theorem dX1_addWriter_47 : decode cX1_addWriter 47 = .ok (.aload_n 0, 1) := by decide +kernel
theorem dX1_addWriter_48 : decode cX1_addWriter 48 = .ok (.getfield 33, 3) := by decide +kernel
theorem dX1_addWriter_51 : decode cX1_addWriter 51 = .ok (.iload 4, 2) := by decide +kernel
theorem dX1_addWriter_53 : decode cX1_addWriter 53 = .ok (.iconst 0, 1) := by decide +kernel
theorem dX1_addWriter_54 : decode cX1_addWriter 54 = .ok (.iastore, 1) := by decide +kernel
theorem dX1_addWriter_55 : decode cX1_addWriter 55 = .ok (.aload_n 0, 1) := by decide +kernel
theorem dX1_addWriter_56 : decode cX1_addWriter 56 = .ok (.iload 4, 2) := by decide +kernel
theorem dX1_addWriter_58 : decode cX1_addWriter 58 = .ok (.iconst 1, 1) := by decide +kernel
theorem dX1_addWriter_59 : decode cX1_addWriter 59 = .ok (.iadd, 1) := by decide +kernel
theorem dX1_addWriter_60 : decode cX1_addWriter 60 = .ok (.putfield 39, 3) := by decide +kernel
theorem dX1_addWriter_63 : decode cX1_addWriter 63 = .ok (.iload 4, 2) := by decide +kernel
theorem dX1_addWriter_65 : decode cX1_addWriter 65 = .ok (.ireturn, 1) := by decide +kernel
theorem dX1_row_0 : decode cX1_row 0 = .ok (.iload_n 1, 1) := by decide +kernel
theorem dX1_row_1 : decode cX1_row 1 = .ok (.tableswitch 51 0 3 #[31, 36, 41, 46], 31) := by decide +kernel
theorem dX1_row_32 : decode cX1_row 32 = .ok (.aload_n 0, 1) := by decide +kernel
theorem dX1_row_33 : decode cX1_row 33 = .ok (.getfield 21, 3) := by decide +kernel
theorem dX1_row_36 : decode cX1_row 36 = .ok (.areturn, 1) := by decide +kernel
theorem dX1_row_37 : decode cX1_row 37 = .ok (.aload_n 0, 1) := by decide +kernel
theorem dX1_row_38 : decode cX1_row 38 = .ok (.getfield 24, 3) := by decide +kernel
theorem dX1_row_41 : decode cX1_row 41 = .ok (.areturn, 1) := by decide +kernel
theorem dX1_row_42 : decode cX1_row 42 = .ok (.aload_n 0, 1) := by decide +kernel
theorem dX1_row_43 : decode cX1_row 43 = .ok (.getfield 27, 3) := by decide +kernel
theorem dX1_row_46 : decode cX1_row 46 = .ok (.areturn, 1) := by decide +kernel
theorem dX1_row_47 : decode cX1_row 47 = .ok (.aload_n 0, 1) := by decide +kernel
theorem dX1_row_48 : decode cX1_row 48 = .ok (.getfield 30, 3) := by decide +kernel
theorem dX1_row_51 : decode cX1_row 51 = .ok (.areturn, 1) := by decide +kernel
theorem dX1_row_52 : decode cX1_row 52 = .ok (.aload_n 0, 1) := by decide +kernel
theorem dX1_row_53 : decode cX1_row 53 = .ok (.getfield 33, 3) := by decide +kernel
theorem dX1_row_56 : decode cX1_row 56 = .ok (.areturn, 1) := by decide +kernel
theorem dX1_eats_0 : decode cX1_eats 0 = .ok (.aload_n 0, 1) := by decide +kernel
theorem dX1_eats_1 : decode cX1_eats 1 = .ok (.getfield 21, 3) := by decide +kernel
theorem dX1_eats_4 : decode cX1_eats 4 = .ok (.iload_n 1, 1) := by decide +kernel
theorem dX1_eats_5 : decode cX1_eats 5 = .ok (.iaload, 1) := by decide +kernel
theorem dX1_eats_6 : decode cX1_eats 6 = .ok (.aload_n 0, 1) := by decide +kernel
theorem dX1_eats_7 : decode cX1_eats 7 = .ok (.getfield 30, 3) := by decide +kernel
theorem dX1_eats_10 : decode cX1_eats 10 = .ok (.iload_n 1, 1) := by decide +kernel
theorem dX1_eats_11 : decode cX1_eats 11 = .ok (.iaload, 1) := by decide +kernel
theorem dX1_eats_12 : decode cX1_eats 12 = .ok (.aload_n 0, 1) := by decide +kernel
theorem dX1_eats_13 : decode cX1_eats 13 = .ok (.getfield 27, 3) := by decide +kernel
theorem dX1_eats_16 : decode cX1_eats 16 = .ok (.iload_n 1, 1) := by decide +kernel
theorem dX1_eats_17 : decode cX1_eats 17 = .ok (.iaload, 1) := by decide +kernel
theorem dX1_eats_18 : decode cX1_eats 18 = .ok (.invokestatic 59, 3) := by decide +kernel
theorem dX1_eats_21 : decode cX1_eats 21 = .ok (.ireturn, 1) := by decide +kernel
theorem dX1_writes_0 : decode cX1_writes 0 = .ok (.aload_n 0, 1) := by decide +kernel
theorem dX1_writes_1 : decode cX1_writes 1 = .ok (.getfield 21, 3) := by decide +kernel
theorem dX1_writes_4 : decode cX1_writes 4 = .ok (.iload_n 1, 1) := by decide +kernel
theorem dX1_writes_5 : decode cX1_writes 5 = .ok (.iaload, 1) := by decide +kernel
theorem dX1_writes_6 : decode cX1_writes 6 = .ok (.aload_n 0, 1) := by decide +kernel
theorem dX1_writes_7 : decode cX1_writes 7 = .ok (.getfield 30, 3) := by decide +kernel
theorem dX1_writes_10 : decode cX1_writes 10 = .ok (.iload_n 1, 1) := by decide +kernel
theorem dX1_writes_11 : decode cX1_writes 11 = .ok (.iaload, 1) := by decide +kernel
theorem dX1_writes_12 : decode cX1_writes 12 = .ok (.invokestatic 65, 3) := by decide +kernel
theorem dX1_writes_15 : decode cX1_writes 15 = .ok (.ireturn, 1) := by decide +kernel
theorem dX1_nextLetter_0 : decode cX1_nextLetter 0 = .ok (.aload_n 0, 1) := by decide +kernel
theorem dX1_nextLetter_1 : decode cX1_nextLetter 1 = .ok (.getfield 24, 3) := by decide +kernel
theorem dX1_nextLetter_4 : decode cX1_nextLetter 4 = .ok (.iload_n 1, 1) := by decide +kernel
theorem dX1_nextLetter_5 : decode cX1_nextLetter 5 = .ok (.iaload, 1) := by decide +kernel
theorem dX1_nextLetter_6 : decode cX1_nextLetter 6 = .ok (.aload_n 0, 1) := by decide +kernel
theorem dX1_nextLetter_7 : decode cX1_nextLetter 7 = .ok (.getfield 27, 3) := by decide +kernel
theorem dX1_nextLetter_10 : decode cX1_nextLetter 10 = .ok (.iload_n 1, 1) := by decide +kernel
theorem dX1_nextLetter_11 : decode cX1_nextLetter 11 = .ok (.iaload, 1) := by decide +kernel
theorem dX1_nextLetter_12 : decode cX1_nextLetter 12 = .ok (.invokestatic 69, 3) := by decide +kernel
theorem dX1_nextLetter_15 : decode cX1_nextLetter 15 = .ok (.ireturn, 1) := by decide +kernel
theorem dX1_putNextLetter_0 : decode cX1_putNextLetter 0 = .ok (.aload_n 0, 1) := by decide +kernel
theorem dX1_putNextLetter_1 : decode cX1_putNextLetter 1 = .ok (.getfield 24, 3) := by decide +kernel
theorem dX1_putNextLetter_4 : decode cX1_putNextLetter 4 = .ok (.iload_n 1, 1) := by decide +kernel
theorem dX1_putNextLetter_5 : decode cX1_putNextLetter 5 = .ok (.dup2, 1) := by decide +kernel
theorem dX1_putNextLetter_6 : decode cX1_putNextLetter 6 = .ok (.iaload, 1) := by decide +kernel
theorem dX1_putNextLetter_7 : decode cX1_putNextLetter 7 = .ok (.iload_n 2, 1) := by decide +kernel
theorem dX1_putNextLetter_8 : decode cX1_putNextLetter 8 = .ok (.aload_n 0, 1) := by decide +kernel
theorem dX1_putNextLetter_9 : decode cX1_putNextLetter 9 = .ok (.iload_n 1, 1) := by decide +kernel
theorem dX1_putNextLetter_10 : decode cX1_putNextLetter 10 = .ok (.invokevirtual 72, 3) := by decide +kernel
theorem dX1_putNextLetter_13 : decode cX1_putNextLetter 13 = .ok (.isub, 1) := by decide +kernel
theorem dX1_putNextLetter_14 : decode cX1_putNextLetter 14 = .ok (.getstatic 76, 3) := by decide +kernel
theorem dX1_putNextLetter_17 : decode cX1_putNextLetter 17 = .ok (.aload_n 0, 1) := by decide +kernel
theorem dX1_putNextLetter_18 : decode cX1_putNextLetter 18 = .ok (.getfield 27, 3) := by decide +kernel
theorem dX1_putNextLetter_21 : decode cX1_putNextLetter 21 = .ok (.iload_n 1, 1) := by decide +kernel
theorem dX1_putNextLetter_22 : decode cX1_putNextLetter 22 = .ok (.iaload, 1) := by decide +kernel
theorem dX1_putNextLetter_23 : decode cX1_putNextLetter 23 = .ok (.iaload, 1) := by decide +kernel
theorem dX1_putNextLetter_24 : decode cX1_putNextLetter 24 = .ok (.imul, 1) := by decide +kernel
theorem dX1_putNextLetter_25 : decode cX1_putNextLetter 25 = .ok (.iadd, 1) := by decide +kernel
theorem dX1_putNextLetter_26 : decode cX1_putNextLetter 26 = .ok (.iastore, 1) := by decide +kernel
theorem dX1_putNextLetter_27 : decode cX1_putNextLetter 27 = .ok (.return_, 1) := by decide +kernel
theorem dX1_draw_0 : decode cX1_draw 0 = .ok (.aload_n 0, 1) := by decide +kernel
theorem dX1_draw_1 : decode cX1_draw 1 = .ok (.aload_n 0, 1) := by decide +kernel
theorem dX1_draw_2 : decode cX1_draw 2 = .ok (.getfield 46, 3) := by decide +kernel
theorem dX1_draw_5 : decode cX1_draw 5 = .ok (.ldc 79, 2) := by decide +kernel
theorem dX1_draw_7 : decode cX1_draw 7 = .ok (.imul, 1) := by decide +kernel
theorem dX1_draw_8 : decode cX1_draw 8 = .ok (.sipush 12345, 3) := by decide +kernel
theorem dX1_draw_11 : decode cX1_draw 11 = .ok (.iadd, 1) := by decide +kernel
theorem dX1_draw_12 : decode cX1_draw 12 = .ok (.putfield 46, 3) := by decide +kernel
theorem dX1_draw_15 : decode cX1_draw 15 = .ok (.aload_n 0, 1) := by decide +kernel
theorem dX1_draw_16 : decode cX1_draw 16 = .ok (.getfield 46, 3) := by decide +kernel
theorem dX1_draw_19 : decode cX1_draw 19 = .ok (.bipush 8, 2) := by decide +kernel
theorem dX1_draw_21 : decode cX1_draw 21 = .ok (.iushr, 1) := by decide +kernel
theorem dX1_draw_22 : decode cX1_draw 22 = .ok (.ireturn, 1) := by decide +kernel
theorem dX1_passDays_0 : decode cX1_passDays 0 = .ok (.iconst 0, 1) := by decide +kernel
theorem dX1_passDays_1 : decode cX1_passDays 1 = .ok (.istore_n 3, 1) := by decide +kernel
theorem dX1_passDays_2 : decode cX1_passDays 2 = .ok (.iload_n 3, 1) := by decide +kernel
theorem dX1_passDays_3 : decode cX1_passDays 3 = .ok (.iload_n 1, 1) := by decide +kernel
theorem dX1_passDays_4 : decode cX1_passDays 4 = .ok (.if_icmp .ge 14, 3) := by decide +kernel
theorem dX1_passDays_7 : decode cX1_passDays 7 = .ok (.aload_n 0, 1) := by decide +kernel
theorem dX1_passDays_8 : decode cX1_passDays 8 = .ok (.iload_n 2, 1) := by decide +kernel
theorem dX1_passDays_9 : decode cX1_passDays 9 = .ok (.invokevirtual 80, 3) := by decide +kernel
theorem dX1_passDays_12 : decode cX1_passDays 12 = .ok (.iinc 3 1, 3) := by decide +kernel
theorem dX1_passDays_15 : decode cX1_passDays 15 = .ok (.goto (-13), 3) := by decide +kernel
theorem dX1_passDays_18 : decode cX1_passDays 18 = .ok (.return_, 1) := by decide +kernel
theorem dX1_dayGoesBy_0 : decode cX1_dayGoesBy 0 = .ok (.aload_n 0, 1) := by decide +kernel
theorem dX1_dayGoesBy_1 : decode cX1_dayGoesBy 1 = .ok (.aload_n 0, 1) := by decide +kernel
theorem dX1_dayGoesBy_2 : decode cX1_dayGoesBy 2 = .ok (.getfield 18, 3) := by decide +kernel
theorem dX1_dayGoesBy_5 : decode cX1_dayGoesBy 5 = .ok (.aload_n 0, 1) := by decide +kernel
theorem dX1_dayGoesBy_6 : decode cX1_dayGoesBy 6 = .ok (.getfield 43, 3) := by decide +kernel
theorem dX1_dayGoesBy_9 : decode cX1_dayGoesBy 9 = .ok (.bipush 6, 2) := by decide +kernel
theorem dX1_dayGoesBy_11 : decode cX1_dayGoesBy 11 = .ok (.irem, 1) := by decide +kernel
theorem dX1_dayGoesBy_12 : decode cX1_dayGoesBy 12 = .ok (.iaload, 1) := by decide +kernel
theorem dX1_dayGoesBy_13 : decode cX1_dayGoesBy 13 = .ok (.aload_n 0, 1) := by decide +kernel
theorem dX1_dayGoesBy_14 : decode cX1_dayGoesBy 14 = .ok (.getfield 15, 3) := by decide +kernel
theorem dX1_dayGoesBy_17 : decode cX1_dayGoesBy 17 = .ok (.aload_n 0, 1) := by decide +kernel
theorem dX1_dayGoesBy_18 : decode cX1_dayGoesBy 18 = .ok (.getfield 43, 3) := by decide +kernel
theorem dX1_dayGoesBy_21 : decode cX1_dayGoesBy 21 = .ok (.bipush 6, 2) := by decide +kernel
theorem dX1_dayGoesBy_23 : decode cX1_dayGoesBy 23 = .ok (.irem, 1) := by decide +kernel
theorem dX1_dayGoesBy_24 : decode cX1_dayGoesBy 24 = .ok (.iaload, 1) := by decide +kernel
theorem dX1_dayGoesBy_25 : decode cX1_dayGoesBy 25 = .ok (.iload_n 1, 1) := by decide +kernel
theorem dX1_dayGoesBy_26 : decode cX1_dayGoesBy 26 = .ok (.invokevirtual 84, 3) := by decide +kernel
theorem dX1_dayGoesBy_29 : decode cX1_dayGoesBy 29 = .ok (.iconst 0, 1) := by decide +kernel
theorem dX1_dayGoesBy_30 : decode cX1_dayGoesBy 30 = .ok (.istore_n 2, 1) := by decide +kernel
theorem dX1_dayGoesBy_31 : decode cX1_dayGoesBy 31 = .ok (.iload_n 2, 1) := by decide +kernel
theorem dX1_dayGoesBy_32 : decode cX1_dayGoesBy 32 = .ok (.aload_n 0, 1) := by decide +kernel
theorem dX1_dayGoesBy_33 : decode cX1_dayGoesBy 33 = .ok (.getfield 39, 3) := by decide +kernel
theorem dX1_dayGoesBy_36 : decode cX1_dayGoesBy 36 = .ok (.if_icmp .ge 22, 3) := by decide +kernel
theorem dX1_dayGoesBy_39 : decode cX1_dayGoesBy 39 = .ok (.iload_n 1, 1) := by decide +kernel
theorem dX1_dayGoesBy_40 : decode cX1_dayGoesBy 40 = .ok (.iload_n 2, 1) := by decide +kernel
theorem dX1_dayGoesBy_41 : decode cX1_dayGoesBy 41 = .ok (.ishr, 1) := by decide +kernel
theorem dX1_dayGoesBy_42 : decode cX1_dayGoesBy 42 = .ok (.iconst 1, 1) := by decide +kernel
theorem dX1_dayGoesBy_43 : decode cX1_dayGoesBy 43 = .ok (.iand, 1) := by decide +kernel
theorem dX1_dayGoesBy_44 : decode cX1_dayGoesBy 44 = .ok (.ifCond .ne 8, 3) := by decide +kernel
theorem dX1_dayGoesBy_47 : decode cX1_dayGoesBy 47 = .ok (.aload_n 0, 1) := by decide +kernel
theorem dX1_dayGoesBy_48 : decode cX1_dayGoesBy 48 = .ok (.iload_n 2, 1) := by decide +kernel
theorem dX1_dayGoesBy_49 : decode cX1_dayGoesBy 49 = .ok (.invokevirtual 88, 3) := by decide +kernel
theorem dX1_dayGoesBy_52 : decode cX1_dayGoesBy 52 = .ok (.iinc 2 1, 3) := by decide +kernel
theorem dX1_dayGoesBy_55 : decode cX1_dayGoesBy 55 = .ok (.goto (-24), 3) := by decide +kernel
theorem dX1_dayGoesBy_58 : decode cX1_dayGoesBy 58 = .ok (.iconst 0, 1) := by decide +kernel
theorem dX1_dayGoesBy_59 : decode cX1_dayGoesBy 59 = .ok (.istore_n 2, 1) := by decide +kernel
theorem dX1_dayGoesBy_60 : decode cX1_dayGoesBy 60 = .ok (.iload_n 2, 1) := by decide +kernel
theorem dX1_dayGoesBy_61 : decode cX1_dayGoesBy 61 = .ok (.aload_n 0, 1) := by decide +kernel
theorem dX1_dayGoesBy_62 : decode cX1_dayGoesBy 62 = .ok (.getfield 39, 3) := by decide +kernel
theorem dX1_dayGoesBy_65 : decode cX1_dayGoesBy 65 = .ok (.if_icmp .ge 27, 3) := by decide +kernel
theorem dX1_dayGoesBy_68 : decode cX1_dayGoesBy 68 = .ok (.aload_n 0, 1) := by decide +kernel
theorem dX1_dayGoesBy_69 : decode cX1_dayGoesBy 69 = .ok (.getfield 30, 3) := by decide +kernel
theorem dX1_dayGoesBy_72 : decode cX1_dayGoesBy 72 = .ok (.iload_n 2, 1) := by decide +kernel
theorem dX1_dayGoesBy_73 : decode cX1_dayGoesBy 73 = .ok (.iconst 0, 1) := by decide +kernel
theorem dX1_dayGoesBy_74 : decode cX1_dayGoesBy 74 = .ok (.aload_n 0, 1) := by decide +kernel
theorem dX1_dayGoesBy_75 : decode cX1_dayGoesBy 75 = .ok (.getfield 30, 3) := by decide +kernel
theorem dX1_dayGoesBy_78 : decode cX1_dayGoesBy 78 = .ok (.iload_n 2, 1) := by decide +kernel
theorem dX1_dayGoesBy_79 : decode cX1_dayGoesBy 79 = .ok (.iaload, 1) := by decide +kernel
theorem dX1_dayGoesBy_80 : decode cX1_dayGoesBy 80 = .ok (.iconst 2, 1) := by decide +kernel
theorem dX1_dayGoesBy_81 : decode cX1_dayGoesBy 81 = .ok (.isub, 1) := by decide +kernel
theorem dX1_dayGoesBy_82 : decode cX1_dayGoesBy 82 = .ok (.invokestatic 91, 3) := by decide +kernel
theorem dX1_dayGoesBy_85 : decode cX1_dayGoesBy 85 = .ok (.iastore, 1) := by decide +kernel
theorem dX1_dayGoesBy_86 : decode cX1_dayGoesBy 86 = .ok (.iinc 2 1, 3) := by decide +kernel
theorem dX1_dayGoesBy_89 : decode cX1_dayGoesBy 89 = .ok (.goto (-29), 3) := by decide +kernel
theorem dX1_dayGoesBy_92 : decode cX1_dayGoesBy 92 = .ok (.aload_n 0, 1) := by decide +kernel
theorem dX1_dayGoesBy_93 : decode cX1_dayGoesBy 93 = .ok (.ldc 96, 2) := by decide +kernel
theorem dX1_dayGoesBy_95 : decode cX1_dayGoesBy 95 = .ok (.aload_n 0, 1) := by decide +kernel
theorem dX1_dayGoesBy_96 : decode cX1_dayGoesBy 96 = .ok (.getfield 43, 3) := by decide +kernel
theorem dX1_dayGoesBy_99 : decode cX1_dayGoesBy 99 = .ok (.iconst 1, 1) := by decide +kernel
theorem dX1_dayGoesBy_100 : decode cX1_dayGoesBy 100 = .ok (.iadd, 1) := by decide +kernel
theorem dX1_dayGoesBy_101 : decode cX1_dayGoesBy 101 = .ok (.invokestatic 97, 3) := by decide +kernel
theorem dX1_dayGoesBy_104 : decode cX1_dayGoesBy 104 = .ok (.putfield 43, 3) := by decide +kernel
theorem dX1_dayGoesBy_107 : decode cX1_dayGoesBy 107 = .ok (.aload_n 0, 1) := by decide +kernel
theorem dX1_dayGoesBy_108 : decode cX1_dayGoesBy 108 = .ok (.getfield 43, 3) := by decide +kernel
theorem dX1_dayGoesBy_111 : decode cX1_dayGoesBy 111 = .ok (.bipush 7, 2) := by decide +kernel
theorem dX1_dayGoesBy_113 : decode cX1_dayGoesBy 113 = .ok (.irem, 1) := by decide +kernel
theorem dX1_dayGoesBy_114 : decode cX1_dayGoesBy 114 = .ok (.ifCond .ne 7, 3) := by decide +kernel
theorem dX1_dayGoesBy_117 : decode cX1_dayGoesBy 117 = .ok (.aload_n 0, 1) := by decide +kernel
theorem dX1_dayGoesBy_118 : decode cX1_dayGoesBy 118 = .ok (.invokevirtual 100, 3) := by decide +kernel
theorem dX1_dayGoesBy_121 : decode cX1_dayGoesBy 121 = .ok (.return_, 1) := by decide +kernel
theorem dX1_eatCatch_0 : decode cX1_eatCatch 0 = .ok (.iload_n 1, 1) := by decide +kernel
theorem dX1_eatCatch_1 : decode cX1_eatCatch 1 = .ok (.istore 4, 2) := by decide +kernel
theorem dX1_eatCatch_3 : decode cX1_eatCatch 3 = .ok (.iconst 0, 1) := by decide +kernel
theorem dX1_eatCatch_4 : decode cX1_eatCatch 4 = .ok (.istore 5, 2) := by decide +kernel
theorem dX1_eatCatch_6 : decode cX1_eatCatch 6 = .ok (.iload 5, 2) := by decide +kernel
theorem dX1_eatCatch_8 : decode cX1_eatCatch 8 = .ok (.aload_n 0, 1) := by decide +kernel
theorem dX1_eatCatch_9 : decode cX1_eatCatch 9 = .ok (.getfield 39, 3) := by decide +kernel
theorem dX1_eatCatch_12 : decode cX1_eatCatch 12 = .ok (.if_icmp .ge 76, 3) := by decide +kernel
theorem dX1_eatCatch_15 : decode cX1_eatCatch 15 = .ok (.iload_n 3, 1) := by decide +kernel
theorem dX1_eatCatch_16 : decode cX1_eatCatch 16 = .ok (.iload 5, 2) := by decide +kernel
theorem dX1_eatCatch_18 : decode cX1_eatCatch 18 = .ok (.ishr, 1) := by decide +kernel
theorem dX1_eatCatch_19 : decode cX1_eatCatch 19 = .ok (.iconst 1, 1) := by decide +kernel
theorem dX1_eatCatch_20 : decode cX1_eatCatch 20 = .ok (.iand, 1) := by decide +kernel
theorem dX1_eatCatch_21 : decode cX1_eatCatch 21 = .ok (.ifCond .ne 61, 3) := by decide +kernel
theorem dX1_eatCatch_24 : decode cX1_eatCatch 24 = .ok (.iload 4, 2) := by decide +kernel
theorem dX1_eatCatch_26 : decode cX1_eatCatch 26 = .ok (.aload_n 0, 1) := by decide +kernel
theorem dX1_eatCatch_27 : decode cX1_eatCatch 27 = .ok (.iload 5, 2) := by decide +kernel
theorem dX1_eatCatch_29 : decode cX1_eatCatch 29 = .ok (.invokevirtual 103, 3) := by decide +kernel
theorem dX1_eatCatch_32 : decode cX1_eatCatch 32 = .ok (.invokestatic 97, 3) := by decide +kernel
theorem dX1_eatCatch_35 : decode cX1_eatCatch 35 = .ok (.istore 6, 2) := by decide +kernel
theorem dX1_eatCatch_37 : decode cX1_eatCatch 37 = .ok (.iload 4, 2) := by decide +kernel
theorem dX1_eatCatch_39 : decode cX1_eatCatch 39 = .ok (.iload 6, 2) := by decide +kernel
theorem dX1_eatCatch_41 : decode cX1_eatCatch 41 = .ok (.isub, 1) := by decide +kernel
theorem dX1_eatCatch_42 : decode cX1_eatCatch 42 = .ok (.istore 4, 2) := by decide +kernel
theorem dX1_eatCatch_44 : decode cX1_eatCatch 44 = .ok (.aload_n 0, 1) := by decide +kernel
theorem dX1_eatCatch_45 : decode cX1_eatCatch 45 = .ok (.aload_n 0, 1) := by decide +kernel
theorem dX1_eatCatch_46 : decode cX1_eatCatch 46 = .ok (.getfield 21, 3) := by decide +kernel
theorem dX1_eatCatch_49 : decode cX1_eatCatch 49 = .ok (.iload 5, 2) := by decide +kernel
theorem dX1_eatCatch_51 : decode cX1_eatCatch 51 = .ok (.iaload, 1) := by decide +kernel
theorem dX1_eatCatch_52 : decode cX1_eatCatch 52 = .ok (.iload_n 2, 1) := by decide +kernel
theorem dX1_eatCatch_53 : decode cX1_eatCatch 53 = .ok (.iload 6, 2) := by decide +kernel
theorem dX1_eatCatch_55 : decode cX1_eatCatch 55 = .ok (.invokevirtual 105, 3) := by decide +kernel
theorem dX1_eatCatch_58 : decode cX1_eatCatch 58 = .ok (.aload_n 0, 1) := by decide +kernel
theorem dX1_eatCatch_59 : decode cX1_eatCatch 59 = .ok (.getfield 30, 3) := by decide +kernel
theorem dX1_eatCatch_62 : decode cX1_eatCatch 62 = .ok (.iload 5, 2) := by decide +kernel
theorem dX1_eatCatch_64 : decode cX1_eatCatch 64 = .ok (.bipush 99, 2) := by decide +kernel
theorem dX1_eatCatch_66 : decode cX1_eatCatch 66 = .ok (.aload_n 0, 1) := by decide +kernel
theorem dX1_eatCatch_67 : decode cX1_eatCatch 67 = .ok (.getfield 30, 3) := by decide +kernel
theorem dX1_eatCatch_70 : decode cX1_eatCatch 70 = .ok (.iload 5, 2) := by decide +kernel
theorem dX1_eatCatch_72 : decode cX1_eatCatch 72 = .ok (.iaload, 1) := by decide +kernel
theorem dX1_eatCatch_73 : decode cX1_eatCatch 73 = .ok (.iconst 3, 1) := by decide +kernel
theorem dX1_eatCatch_74 : decode cX1_eatCatch 74 = .ok (.iload 6, 2) := by decide +kernel
theorem dX1_eatCatch_76 : decode cX1_eatCatch 76 = .ok (.imul, 1) := by decide +kernel
theorem dX1_eatCatch_77 : decode cX1_eatCatch 77 = .ok (.iadd, 1) := by decide +kernel
theorem dX1_eatCatch_78 : decode cX1_eatCatch 78 = .ok (.invokestatic 97, 3) := by decide +kernel
theorem dX1_eatCatch_81 : decode cX1_eatCatch 81 = .ok (.iastore, 1) := by decide +kernel
theorem dX1_eatCatch_82 : decode cX1_eatCatch 82 = .ok (.iinc 5 1, 3) := by decide +kernel
theorem dX1_eatCatch_85 : decode cX1_eatCatch 85 = .ok (.goto (-79), 3) := by decide +kernel
theorem dX1_eatCatch_88 : decode cX1_eatCatch 88 = .ok (.return_, 1) := by decide +kernel
theorem dX1_keepBones_0 : decode cX1_keepBones 0 = .ok (.iconst 0, 1) := by decide +kernel
theorem dX1_keepBones_1 : decode cX1_keepBones 1 = .ok (.istore 4, 2) := by decide +kernel
theorem dX1_keepBones_3 : decode cX1_keepBones 3 = .ok (.iload 4, 2) := by decide +kernel
theorem dX1_keepBones_5 : decode cX1_keepBones 5 = .ok (.iconst 3, 1) := by decide +kernel
theorem dX1_keepBones_6 : decode cX1_keepBones 6 = .ok (.if_icmp .ge 50, 3) := by decide +kernel
theorem dX1_keepBones_9 : decode cX1_keepBones 9 = .ok (.iload_n 2, 1) := by decide +kernel
theorem dX1_keepBones_10 : decode cX1_keepBones 10 = .ok (.iload 4, 2) := by decide +kernel
theorem dX1_keepBones_12 : decode cX1_keepBones 12 = .ok (.invokestatic 108, 3) := by decide +kernel
theorem dX1_keepBones_15 : decode cX1_keepBones 15 = .ok (.istore 5, 2) := by decide +kernel
theorem dX1_keepBones_17 : decode cX1_keepBones 17 = .ok (.iload_n 1, 1) := by decide +kernel
theorem dX1_keepBones_18 : decode cX1_keepBones 18 = .ok (.iload 4, 2) := by decide +kernel
theorem dX1_keepBones_20 : decode cX1_keepBones 20 = .ok (.iload 5, 2) := by decide +kernel
theorem dX1_keepBones_22 : decode cX1_keepBones 22 = .ok (.invokestatic 111, 3) := by decide +kernel
theorem dX1_keepBones_25 : decode cX1_keepBones 25 = .ok (.ifCond .eq 25, 3) := by decide +kernel
theorem dX1_keepBones_28 : decode cX1_keepBones 28 = .ok (.aload_n 0, 1) := by decide +kernel
theorem dX1_keepBones_29 : decode cX1_keepBones 29 = .ok (.getfield 9, 3) := by decide +kernel
theorem dX1_keepBones_32 : decode cX1_keepBones 32 = .ok (.iload 5, 2) := by decide +kernel
theorem dX1_keepBones_34 : decode cX1_keepBones 34 = .ok (.sipush 999, 3) := by decide +kernel
theorem dX1_keepBones_37 : decode cX1_keepBones 37 = .ok (.aload_n 0, 1) := by decide +kernel
theorem dX1_keepBones_38 : decode cX1_keepBones 38 = .ok (.getfield 9, 3) := by decide +kernel
theorem dX1_keepBones_41 : decode cX1_keepBones 41 = .ok (.iload 5, 2) := by decide +kernel
theorem dX1_keepBones_43 : decode cX1_keepBones 43 = .ok (.iaload, 1) := by decide +kernel
theorem dX1_keepBones_44 : decode cX1_keepBones 44 = .ok (.iload_n 3, 1) := by decide +kernel
theorem dX1_keepBones_45 : decode cX1_keepBones 45 = .ok (.iadd, 1) := by decide +kernel
theorem dX1_keepBones_46 : decode cX1_keepBones 46 = .ok (.invokestatic 97, 3) := by decide +kernel
theorem dX1_keepBones_49 : decode cX1_keepBones 49 = .ok (.iastore, 1) := by decide +kernel
theorem dX1_keepBones_50 : decode cX1_keepBones 50 = .ok (.iinc 4 1, 3) := by decide +kernel
theorem dX1_keepBones_53 : decode cX1_keepBones 53 = .ok (.goto (-50), 3) := by decide +kernel
theorem dX1_keepBones_56 : decode cX1_keepBones 56 = .ok (.return_, 1) := by decide +kernel
theorem dX1_writeLetters_0 : decode cX1_writeLetters 0 = .ok (.aload_n 0, 1) := by decide +kernel
theorem dX1_writeLetters_1 : decode cX1_writeLetters 1 = .ok (.iload_n 1, 1) := by decide +kernel
theorem dX1_writeLetters_2 : decode cX1_writeLetters 2 = .ok (.invokevirtual 115, 3) := by decide +kernel
theorem dX1_writeLetters_5 : decode cX1_writeLetters 5 = .ok (.istore_n 2, 1) := by decide +kernel
theorem dX1_writeLetters_6 : decode cX1_writeLetters 6 = .ok (.iconst 0, 1) := by decide +kernel
theorem dX1_writeLetters_7 : decode cX1_writeLetters 7 = .ok (.istore_n 3, 1) := by decide +kernel
theorem dX1_writeLetters_8 : decode cX1_writeLetters 8 = .ok (.iload_n 3, 1) := by decide +kernel
theorem dX1_writeLetters_9 : decode cX1_writeLetters 9 = .ok (.iload_n 2, 1) := by decide +kernel
theorem dX1_writeLetters_10 : decode cX1_writeLetters 10 = .ok (.if_icmp .ge 85, 3) := by decide +kernel
theorem dX1_writeLetters_13 : decode cX1_writeLetters 13 = .ok (.aload_n 0, 1) := by decide +kernel
theorem dX1_writeLetters_14 : decode cX1_writeLetters 14 = .ok (.iload_n 1, 1) := by decide +kernel
theorem dX1_writeLetters_15 : decode cX1_writeLetters 15 = .ok (.invokevirtual 72, 3) := by decide +kernel
theorem dX1_writeLetters_18 : decode cX1_writeLetters 18 = .ok (.istore 4, 2) := by decide +kernel
theorem dX1_writeLetters_20 : decode cX1_writeLetters 20 = .ok (.aload_n 0, 1) := by decide +kernel
theorem dX1_writeLetters_21 : decode cX1_writeLetters 21 = .ok (.getfield 9, 3) := by decide +kernel
theorem dX1_writeLetters_24 : decode cX1_writeLetters 24 = .ok (.iload 4, 2) := by decide +kernel
theorem dX1_writeLetters_26 : decode cX1_writeLetters 26 = .ok (.iaload, 1) := by decide +kernel
theorem dX1_writeLetters_27 : decode cX1_writeLetters 27 = .ok (.ifCond .ne 4, 3) := by decide +kernel
theorem dX1_writeLetters_30 : decode cX1_writeLetters 30 = .ok (.return_, 1) := by decide +kernel
theorem dX1_writeLetters_31 : decode cX1_writeLetters 31 = .ok (.aload_n 0, 1) := by decide +kernel
theorem dX1_writeLetters_32 : decode cX1_writeLetters 32 = .ok (.getfield 9, 3) := by decide +kernel
theorem dX1_writeLetters_35 : decode cX1_writeLetters 35 = .ok (.iload 4, 2) := by decide +kernel
theorem dX1_writeLetters_37 : decode cX1_writeLetters 37 = .ok (.dup2, 1) := by decide +kernel
theorem dX1_writeLetters_38 : decode cX1_writeLetters 38 = .ok (.iaload, 1) := by decide +kernel
theorem dX1_writeLetters_39 : decode cX1_writeLetters 39 = .ok (.iconst 1, 1) := by decide +kernel
theorem dX1_writeLetters_40 : decode cX1_writeLetters 40 = .ok (.isub, 1) := by decide +kernel
theorem dX1_writeLetters_41 : decode cX1_writeLetters 41 = .ok (.iastore, 1) := by decide +kernel
theorem dX1_writeLetters_42 : decode cX1_writeLetters 42 = .ok (.aload_n 0, 1) := by decide +kernel
theorem dX1_writeLetters_43 : decode cX1_writeLetters 43 = .ok (.getfield 27, 3) := by decide +kernel
theorem dX1_writeLetters_46 : decode cX1_writeLetters 46 = .ok (.iload_n 1, 1) := by decide +kernel
theorem dX1_writeLetters_47 : decode cX1_writeLetters 47 = .ok (.dup2, 1) := by decide +kernel
theorem dX1_writeLetters_48 : decode cX1_writeLetters 48 = .ok (.iaload, 1) := by decide +kernel
theorem dX1_writeLetters_49 : decode cX1_writeLetters 49 = .ok (.iconst 1, 1) := by decide +kernel
theorem dX1_writeLetters_50 : decode cX1_writeLetters 50 = .ok (.iadd, 1) := by decide +kernel
theorem dX1_writeLetters_51 : decode cX1_writeLetters 51 = .ok (.iastore, 1) := by decide +kernel
theorem dX1_writeLetters_52 : decode cX1_writeLetters 52 = .ok (.aload_n 0, 1) := by decide +kernel
theorem dX1_writeLetters_53 : decode cX1_writeLetters 53 = .ok (.getfield 27, 3) := by decide +kernel
theorem dX1_writeLetters_56 : decode cX1_writeLetters 56 = .ok (.iload_n 1, 1) := by decide +kernel
theorem dX1_writeLetters_57 : decode cX1_writeLetters 57 = .ok (.iaload, 1) := by decide +kernel
theorem dX1_writeLetters_58 : decode cX1_writeLetters 58 = .ok (.iconst 4, 1) := by decide +kernel
theorem dX1_writeLetters_59 : decode cX1_writeLetters 59 = .ok (.if_icmp .lt 30, 3) := by decide +kernel
theorem dX1_writeLetters_62 : decode cX1_writeLetters 62 = .ok (.aload_n 0, 1) := by decide +kernel
theorem dX1_writeLetters_63 : decode cX1_writeLetters 63 = .ok (.getfield 27, 3) := by decide +kernel
theorem dX1_writeLetters_66 : decode cX1_writeLetters 66 = .ok (.iload_n 1, 1) := by decide +kernel
theorem dX1_writeLetters_67 : decode cX1_writeLetters 67 = .ok (.iconst 0, 1) := by decide +kernel
theorem dX1_writeLetters_68 : decode cX1_writeLetters 68 = .ok (.iastore, 1) := by decide +kernel
theorem dX1_writeLetters_69 : decode cX1_writeLetters 69 = .ok (.aload_n 0, 1) := by decide +kernel
theorem dX1_writeLetters_70 : decode cX1_writeLetters 70 = .ok (.getfield 33, 3) := by decide +kernel
theorem dX1_writeLetters_73 : decode cX1_writeLetters 73 = .ok (.iload_n 1, 1) := by decide +kernel
theorem dX1_writeLetters_74 : decode cX1_writeLetters 74 = .ok (.sipush 9999, 3) := by decide +kernel
theorem dX1_writeLetters_77 : decode cX1_writeLetters 77 = .ok (.aload_n 0, 1) := by decide +kernel
theorem dX1_writeLetters_78 : decode cX1_writeLetters 78 = .ok (.getfield 33, 3) := by decide +kernel
theorem dX1_writeLetters_81 : decode cX1_writeLetters 81 = .ok (.iload_n 1, 1) := by decide +kernel
theorem dX1_writeLetters_82 : decode cX1_writeLetters 82 = .ok (.iaload, 1) := by decide +kernel
theorem dX1_writeLetters_83 : decode cX1_writeLetters 83 = .ok (.iconst 1, 1) := by decide +kernel
theorem dX1_writeLetters_84 : decode cX1_writeLetters 84 = .ok (.iadd, 1) := by decide +kernel
theorem dX1_writeLetters_85 : decode cX1_writeLetters 85 = .ok (.invokestatic 97, 3) := by decide +kernel
theorem dX1_writeLetters_88 : decode cX1_writeLetters 88 = .ok (.iastore, 1) := by decide +kernel
theorem dX1_writeLetters_89 : decode cX1_writeLetters 89 = .ok (.iinc 3 1, 3) := by decide +kernel
theorem dX1_writeLetters_92 : decode cX1_writeLetters 92 = .ok (.goto (-84), 3) := by decide +kernel
theorem dX1_writeLetters_95 : decode cX1_writeLetters 95 = .ok (.return_, 1) := by decide +kernel
theorem dX1_cookSoup_0 : decode cX1_cookSoup 0 = .ok (.iconst 0, 1) := by decide +kernel
theorem dX1_cookSoup_1 : decode cX1_cookSoup 1 = .ok (.istore_n 1, 1) := by decide +kernel
theorem dX1_cookSoup_2 : decode cX1_cookSoup 2 = .ok (.iload_n 1, 1) := by decide +kernel
theorem dX1_cookSoup_3 : decode cX1_cookSoup 3 = .ok (.bipush 10, 2) := by decide +kernel
theorem dX1_cookSoup_5 : decode cX1_cookSoup 5 = .ok (.if_icmp .ge 27, 3) := by decide +kernel
theorem dX1_cookSoup_8 : decode cX1_cookSoup 8 = .ok (.aload_n 0, 1) := by decide +kernel
theorem dX1_cookSoup_9 : decode cX1_cookSoup 9 = .ok (.getfield 9, 3) := by decide +kernel
theorem dX1_cookSoup_12 : decode cX1_cookSoup 12 = .ok (.iload_n 1, 1) := by decide +kernel
theorem dX1_cookSoup_13 : decode cX1_cookSoup 13 = .ok (.dup2, 1) := by decide +kernel
theorem dX1_cookSoup_14 : decode cX1_cookSoup 14 = .ok (.iaload, 1) := by decide +kernel
theorem dX1_cookSoup_15 : decode cX1_cookSoup 15 = .ok (.aload_n 0, 1) := by decide +kernel
theorem dX1_cookSoup_16 : decode cX1_cookSoup 16 = .ok (.getfield 9, 3) := by decide +kernel
theorem dX1_cookSoup_19 : decode cX1_cookSoup 19 = .ok (.iload_n 1, 1) := by decide +kernel
theorem dX1_cookSoup_20 : decode cX1_cookSoup 20 = .ok (.iaload, 1) := by decide +kernel
theorem dX1_cookSoup_21 : decode cX1_cookSoup 21 = .ok (.bipush 10, 2) := by decide +kernel
theorem dX1_cookSoup_23 : decode cX1_cookSoup 23 = .ok (.idiv, 1) := by decide +kernel
theorem dX1_cookSoup_24 : decode cX1_cookSoup 24 = .ok (.isub, 1) := by decide +kernel
theorem dX1_cookSoup_25 : decode cX1_cookSoup 25 = .ok (.iastore, 1) := by decide +kernel
theorem dX1_cookSoup_26 : decode cX1_cookSoup 26 = .ok (.iinc 1 1, 3) := by decide +kernel
theorem dX1_cookSoup_29 : decode cX1_cookSoup 29 = .ok (.goto (-27), 3) := by decide +kernel
theorem dX1_cookSoup_32 : decode cX1_cookSoup 32 = .ok (.return_, 1) := by decide +kernel
theorem dX1_sumOf_0 : decode cX1_sumOf 0 = .ok (.aload_n 0, 1) := by decide +kernel
theorem dX1_sumOf_1 : decode cX1_sumOf 1 = .ok (.iload_n 1, 1) := by decide +kernel
theorem dX1_sumOf_2 : decode cX1_sumOf 2 = .ok (.invokevirtual 117, 3) := by decide +kernel
theorem dX1_sumOf_5 : decode cX1_sumOf 5 = .ok (.astore_n 2, 1) := by decide +kernel
theorem dX1_sumOf_6 : decode cX1_sumOf 6 = .ok (.iconst 0, 1) := by decide +kernel
theorem dX1_sumOf_7 : decode cX1_sumOf 7 = .ok (.istore_n 3, 1) := by decide +kernel
theorem dX1_sumOf_8 : decode cX1_sumOf 8 = .ok (.iconst 0, 1) := by decide +kernel
theorem dX1_sumOf_9 : decode cX1_sumOf 9 = .ok (.istore 4, 2) := by decide +kernel
theorem dX1_sumOf_11 : decode cX1_sumOf 11 = .ok (.iload 4, 2) := by decide +kernel
theorem dX1_sumOf_13 : decode cX1_sumOf 13 = .ok (.aload_n 0, 1) := by decide +kernel
theorem dX1_sumOf_14 : decode cX1_sumOf 14 = .ok (.getfield 39, 3) := by decide +kernel
theorem dX1_sumOf_17 : decode cX1_sumOf 17 = .ok (.if_icmp .ge 16, 3) := by decide +kernel
theorem dX1_sumOf_20 : decode cX1_sumOf 20 = .ok (.iload_n 3, 1) := by decide +kernel
theorem dX1_sumOf_21 : decode cX1_sumOf 21 = .ok (.aload_n 2, 1) := by decide +kernel
theorem dX1_sumOf_22 : decode cX1_sumOf 22 = .ok (.iload 4, 2) := by decide +kernel
theorem dX1_sumOf_24 : decode cX1_sumOf 24 = .ok (.iaload, 1) := by decide +kernel
theorem dX1_sumOf_25 : decode cX1_sumOf 25 = .ok (.iadd, 1) := by decide +kernel
theorem dX1_sumOf_26 : decode cX1_sumOf 26 = .ok (.istore_n 3, 1) := by decide +kernel
theorem dX1_sumOf_27 : decode cX1_sumOf 27 = .ok (.iinc 4 1, 3) := by decide +kernel
theorem dX1_sumOf_30 : decode cX1_sumOf 30 = .ok (.goto (-19), 3) := by decide +kernel
theorem dX1_sumOf_33 : decode cX1_sumOf 33 = .ok (.iload_n 3, 1) := by decide +kernel
theorem dX1_sumOf_34 : decode cX1_sumOf 34 = .ok (.ireturn, 1) := by decide +kernel
theorem dX1_lettersInJar_0 : decode cX1_lettersInJar 0 = .ok (.iconst 0, 1) := by decide +kernel
theorem dX1_lettersInJar_1 : decode cX1_lettersInJar 1 = .ok (.istore_n 1, 1) := by decide +kernel
theorem dX1_lettersInJar_2 : decode cX1_lettersInJar 2 = .ok (.iconst 0, 1) := by decide +kernel
theorem dX1_lettersInJar_3 : decode cX1_lettersInJar 3 = .ok (.istore_n 2, 1) := by decide +kernel
theorem dX1_lettersInJar_4 : decode cX1_lettersInJar 4 = .ok (.iload_n 2, 1) := by decide +kernel
theorem dX1_lettersInJar_5 : decode cX1_lettersInJar 5 = .ok (.bipush 10, 2) := by decide +kernel
theorem dX1_lettersInJar_7 : decode cX1_lettersInJar 7 = .ok (.if_icmp .ge 18, 3) := by decide +kernel
theorem dX1_lettersInJar_10 : decode cX1_lettersInJar 10 = .ok (.iload_n 1, 1) := by decide +kernel
theorem dX1_lettersInJar_11 : decode cX1_lettersInJar 11 = .ok (.aload_n 0, 1) := by decide +kernel
theorem dX1_lettersInJar_12 : decode cX1_lettersInJar 12 = .ok (.getfield 9, 3) := by decide +kernel
theorem dX1_lettersInJar_15 : decode cX1_lettersInJar 15 = .ok (.iload_n 2, 1) := by decide +kernel
theorem dX1_lettersInJar_16 : decode cX1_lettersInJar 16 = .ok (.iaload, 1) := by decide +kernel
theorem dX1_lettersInJar_17 : decode cX1_lettersInJar 17 = .ok (.iadd, 1) := by decide +kernel
theorem dX1_lettersInJar_18 : decode cX1_lettersInJar 18 = .ok (.istore_n 1, 1) := by decide +kernel
theorem dX1_lettersInJar_19 : decode cX1_lettersInJar 19 = .ok (.iinc 2 1, 3) := by decide +kernel
theorem dX1_lettersInJar_22 : decode cX1_lettersInJar 22 = .ok (.goto (-18), 3) := by decide +kernel
theorem dX1_lettersInJar_25 : decode cX1_lettersInJar 25 = .ok (.iload_n 1, 1) := by decide +kernel
theorem dX1_lettersInJar_26 : decode cX1_lettersInJar 26 = .ok (.ireturn, 1) := by decide +kernel
theorem dX1_writersWhoWait_0 : decode cX1_writersWhoWait 0 = .ok (.iconst 0, 1) := by decide +kernel
theorem dX1_writersWhoWait_1 : decode cX1_writersWhoWait 1 = .ok (.istore_n 1, 1) := by decide +kernel
theorem dX1_writersWhoWait_2 : decode cX1_writersWhoWait 2 = .ok (.iconst 0, 1) := by decide +kernel
theorem dX1_writersWhoWait_3 : decode cX1_writersWhoWait 3 = .ok (.istore_n 2, 1) := by decide +kernel
theorem dX1_writersWhoWait_4 : decode cX1_writersWhoWait 4 = .ok (.iload_n 2, 1) := by decide +kernel
theorem dX1_writersWhoWait_5 : decode cX1_writersWhoWait 5 = .ok (.aload_n 0, 1) := by decide +kernel
theorem dX1_writersWhoWait_6 : decode cX1_writersWhoWait 6 = .ok (.getfield 39, 3) := by decide +kernel
theorem dX1_writersWhoWait_9 : decode cX1_writersWhoWait 9 = .ok (.if_icmp .ge 28, 3) := by decide +kernel
theorem dX1_writersWhoWait_12 : decode cX1_writersWhoWait 12 = .ok (.aload_n 0, 1) := by decide +kernel
theorem dX1_writersWhoWait_13 : decode cX1_writersWhoWait 13 = .ok (.getfield 9, 3) := by decide +kernel
theorem dX1_writersWhoWait_16 : decode cX1_writersWhoWait 16 = .ok (.aload_n 0, 1) := by decide +kernel
theorem dX1_writersWhoWait_17 : decode cX1_writersWhoWait 17 = .ok (.iload_n 2, 1) := by decide +kernel
theorem dX1_writersWhoWait_18 : decode cX1_writersWhoWait 18 = .ok (.invokevirtual 72, 3) := by decide +kernel
theorem dX1_writersWhoWait_21 : decode cX1_writersWhoWait 21 = .ok (.iaload, 1) := by decide +kernel
theorem dX1_writersWhoWait_22 : decode cX1_writersWhoWait 22 = .ok (.ifCond .ne 9, 3) := by decide +kernel
theorem dX1_writersWhoWait_25 : decode cX1_writersWhoWait 25 = .ok (.iload_n 1, 1) := by decide +kernel
theorem dX1_writersWhoWait_26 : decode cX1_writersWhoWait 26 = .ok (.iconst 1, 1) := by decide +kernel
theorem dX1_writersWhoWait_27 : decode cX1_writersWhoWait 27 = .ok (.iload_n 2, 1) := by decide +kernel
theorem dX1_writersWhoWait_28 : decode cX1_writersWhoWait 28 = .ok (.ishl, 1) := by decide +kernel
theorem dX1_writersWhoWait_29 : decode cX1_writersWhoWait 29 = .ok (.ior, 1) := by decide +kernel
theorem dX1_writersWhoWait_30 : decode cX1_writersWhoWait 30 = .ok (.istore_n 1, 1) := by decide +kernel
theorem dX1_writersWhoWait_31 : decode cX1_writersWhoWait 31 = .ok (.iinc 2 1, 3) := by decide +kernel
theorem dX1_writersWhoWait_34 : decode cX1_writersWhoWait 34 = .ok (.goto (-30), 3) := by decide +kernel
theorem dX1_writersWhoWait_37 : decode cX1_writersWhoWait 37 = .ok (.iload_n 1, 1) := by decide +kernel
theorem dX1_writersWhoWait_38 : decode cX1_writersWhoWait 38 = .ok (.ireturn, 1) := by decide +kernel
theorem dX1_lettersLacking_0 : decode cX1_lettersLacking 0 = .ok (.iconst 0, 1) := by decide +kernel
theorem dX1_lettersLacking_1 : decode cX1_lettersLacking 1 = .ok (.istore_n 1, 1) := by decide +kernel
theorem dX1_lettersLacking_2 : decode cX1_lettersLacking 2 = .ok (.iconst 0, 1) := by decide +kernel
theorem dX1_lettersLacking_3 : decode cX1_lettersLacking 3 = .ok (.istore_n 2, 1) := by decide +kernel
theorem dX1_lettersLacking_4 : decode cX1_lettersLacking 4 = .ok (.iload_n 2, 1) := by decide +kernel
theorem dX1_lettersLacking_5 : decode cX1_lettersLacking 5 = .ok (.bipush 10, 2) := by decide +kernel
theorem dX1_lettersLacking_7 : decode cX1_lettersLacking 7 = .ok (.if_icmp .ge 24, 3) := by decide +kernel
theorem dX1_lettersLacking_10 : decode cX1_lettersLacking 10 = .ok (.aload_n 0, 1) := by decide +kernel
theorem dX1_lettersLacking_11 : decode cX1_lettersLacking 11 = .ok (.getfield 9, 3) := by decide +kernel
theorem dX1_lettersLacking_14 : decode cX1_lettersLacking 14 = .ok (.iload_n 2, 1) := by decide +kernel
theorem dX1_lettersLacking_15 : decode cX1_lettersLacking 15 = .ok (.iaload, 1) := by decide +kernel
theorem dX1_lettersLacking_16 : decode cX1_lettersLacking 16 = .ok (.ifCond .ne 9, 3) := by decide +kernel
theorem dX1_lettersLacking_19 : decode cX1_lettersLacking 19 = .ok (.iload_n 1, 1) := by decide +kernel
theorem dX1_lettersLacking_20 : decode cX1_lettersLacking 20 = .ok (.iconst 1, 1) := by decide +kernel
theorem dX1_lettersLacking_21 : decode cX1_lettersLacking 21 = .ok (.iload_n 2, 1) := by decide +kernel
theorem dX1_lettersLacking_22 : decode cX1_lettersLacking 22 = .ok (.ishl, 1) := by decide +kernel
theorem dX1_lettersLacking_23 : decode cX1_lettersLacking 23 = .ok (.ior, 1) := by decide +kernel
theorem dX1_lettersLacking_24 : decode cX1_lettersLacking 24 = .ok (.istore_n 1, 1) := by decide +kernel
theorem dX1_lettersLacking_25 : decode cX1_lettersLacking 25 = .ok (.iinc 2 1, 3) := by decide +kernel
theorem dX1_lettersLacking_28 : decode cX1_lettersLacking 28 = .ok (.goto (-24), 3) := by decide +kernel
theorem dX1_lettersLacking_31 : decode cX1_lettersLacking 31 = .ok (.iload_n 1, 1) := by decide +kernel
theorem dX1_lettersLacking_32 : decode cX1_lettersLacking 32 = .ok (.ireturn, 1) := by decide +kernel
theorem dX1_writersWhoStarve_0 : decode cX1_writersWhoStarve 0 = .ok (.iconst 0, 1) := by decide +kernel
theorem dX1_writersWhoStarve_1 : decode cX1_writersWhoStarve 1 = .ok (.istore_n 1, 1) := by decide +kernel
theorem dX1_writersWhoStarve_2 : decode cX1_writersWhoStarve 2 = .ok (.iconst 0, 1) := by decide +kernel
theorem dX1_writersWhoStarve_3 : decode cX1_writersWhoStarve 3 = .ok (.istore_n 2, 1) := by decide +kernel
theorem dX1_writersWhoStarve_4 : decode cX1_writersWhoStarve 4 = .ok (.iload_n 2, 1) := by decide +kernel
theorem dX1_writersWhoStarve_5 : decode cX1_writersWhoStarve 5 = .ok (.aload_n 0, 1) := by decide +kernel
theorem dX1_writersWhoStarve_6 : decode cX1_writersWhoStarve 6 = .ok (.getfield 39, 3) := by decide +kernel
theorem dX1_writersWhoStarve_9 : decode cX1_writersWhoStarve 9 = .ok (.if_icmp .ge 24, 3) := by decide +kernel
theorem dX1_writersWhoStarve_12 : decode cX1_writersWhoStarve 12 = .ok (.aload_n 0, 1) := by decide +kernel
theorem dX1_writersWhoStarve_13 : decode cX1_writersWhoStarve 13 = .ok (.getfield 30, 3) := by decide +kernel
theorem dX1_writersWhoStarve_16 : decode cX1_writersWhoStarve 16 = .ok (.iload_n 2, 1) := by decide +kernel
theorem dX1_writersWhoStarve_17 : decode cX1_writersWhoStarve 17 = .ok (.iaload, 1) := by decide +kernel
theorem dX1_writersWhoStarve_18 : decode cX1_writersWhoStarve 18 = .ok (.ifCond .ne 9, 3) := by decide +kernel
theorem dX1_writersWhoStarve_21 : decode cX1_writersWhoStarve 21 = .ok (.iload_n 1, 1) := by decide +kernel
theorem dX1_writersWhoStarve_22 : decode cX1_writersWhoStarve 22 = .ok (.iconst 1, 1) := by decide +kernel
theorem dX1_writersWhoStarve_23 : decode cX1_writersWhoStarve 23 = .ok (.iload_n 2, 1) := by decide +kernel
theorem dX1_writersWhoStarve_24 : decode cX1_writersWhoStarve 24 = .ok (.ishl, 1) := by decide +kernel
theorem dX1_writersWhoStarve_25 : decode cX1_writersWhoStarve 25 = .ok (.ior, 1) := by decide +kernel
theorem dX1_writersWhoStarve_26 : decode cX1_writersWhoStarve 26 = .ok (.istore_n 1, 1) := by decide +kernel
theorem dX1_writersWhoStarve_27 : decode cX1_writersWhoStarve 27 = .ok (.iinc 2 1, 3) := by decide +kernel
theorem dX1_writersWhoStarve_30 : decode cX1_writersWhoStarve 30 = .ok (.goto (-26), 3) := by decide +kernel
theorem dX1_writersWhoStarve_33 : decode cX1_writersWhoStarve 33 = .ok (.iload_n 1, 1) := by decide +kernel
theorem dX1_writersWhoStarve_34 : decode cX1_writersWhoStarve 34 = .ok (.ireturn, 1) := by decide +kernel
theorem dX1_spotsHeld_0 : decode cX1_spotsHeld 0 = .ok (.iconst 0, 1) := by decide +kernel
theorem dX1_spotsHeld_1 : decode cX1_spotsHeld 1 = .ok (.istore_n 1, 1) := by decide +kernel
theorem dX1_spotsHeld_2 : decode cX1_spotsHeld 2 = .ok (.iconst 0, 1) := by decide +kernel
theorem dX1_spotsHeld_3 : decode cX1_spotsHeld 3 = .ok (.istore_n 2, 1) := by decide +kernel
theorem dX1_spotsHeld_4 : decode cX1_spotsHeld 4 = .ok (.iload_n 2, 1) := by decide +kernel
theorem dX1_spotsHeld_5 : decode cX1_spotsHeld 5 = .ok (.bipush 10, 2) := by decide +kernel
theorem dX1_spotsHeld_7 : decode cX1_spotsHeld 7 = .ok (.if_icmp .ge 21, 3) := by decide +kernel
theorem dX1_spotsHeld_10 : decode cX1_spotsHeld 10 = .ok (.aload_n 0, 1) := by decide +kernel
theorem dX1_spotsHeld_11 : decode cX1_spotsHeld 11 = .ok (.getfield 36, 3) := by decide +kernel
theorem dX1_spotsHeld_14 : decode cX1_spotsHeld 14 = .ok (.iload_n 2, 1) := by decide +kernel
theorem dX1_spotsHeld_15 : decode cX1_spotsHeld 15 = .ok (.iaload, 1) := by decide +kernel
theorem dX1_spotsHeld_16 : decode cX1_spotsHeld 16 = .ok (.ifCond .lt 6, 3) := by decide +kernel
theorem dX1_spotsHeld_19 : decode cX1_spotsHeld 19 = .ok (.iinc 1 1, 3) := by decide +kernel
theorem dX1_spotsHeld_22 : decode cX1_spotsHeld 22 = .ok (.iinc 2 1, 3) := by decide +kernel
theorem dX1_spotsHeld_25 : decode cX1_spotsHeld 25 = .ok (.goto (-21), 3) := by decide +kernel
theorem dX1_spotsHeld_28 : decode cX1_spotsHeld 28 = .ok (.iload_n 1, 1) := by decide +kernel
theorem dX1_spotsHeld_29 : decode cX1_spotsHeld 29 = .ok (.ireturn, 1) := by decide +kernel
theorem dX2_init_0 : decode cX2_init 0 = .ok (.aload_n 0, 1) := by decide +kernel
theorem dX2_init_1 : decode cX2_init 1 = .ok (.invokespecial 3, 3) := by decide +kernel
theorem dX2_init_4 : decode cX2_init 4 = .ok (.aload_n 0, 1) := by decide +kernel
theorem dX2_init_5 : decode cX2_init 5 = .ok (.bipush 40, 2) := by decide +kernel
theorem dX2_init_7 : decode cX2_init 7 = .ok (.newarray .int, 2) := by decide +kernel
theorem dX2_init_9 : decode cX2_init 9 = .ok (.putfield 9, 3) := by decide +kernel
theorem dX2_init_12 : decode cX2_init 12 = .ok (.aload_n 0, 1) := by decide +kernel
theorem dX2_init_13 : decode cX2_init 13 = .ok (.iconst 0, 1) := by decide +kernel
theorem dX2_init_14 : decode cX2_init 14 = .ok (.putfield 15, 3) := by decide +kernel
theorem dX2_init_17 : decode cX2_init 17 = .ok (.aload_n 0, 1) := by decide +kernel
theorem dX2_init_18 : decode cX2_init 18 = .ok (.iconst 0, 1) := by decide +kernel
theorem dX2_init_19 : decode cX2_init 19 = .ok (.putfield 19, 3) := by decide +kernel
theorem dX2_init_22 : decode cX2_init 22 = .ok (.return_, 1) := by decide +kernel
theorem dX2_isMissing_0 : decode cX2_isMissing 0 = .ok (.aload_n 0, 1) := by decide +kernel
theorem dX2_isMissing_1 : decode cX2_isMissing 1 = .ok (.getfield 19, 3) := by decide +kernel
theorem dX2_isMissing_4 : decode cX2_isMissing 4 = .ok (.ifCond .ne 7, 3) := by decide +kernel
theorem dX2_isMissing_7 : decode cX2_isMissing 7 = .ok (.iconst 1, 1) := by decide +kernel
theorem dX2_isMissing_8 : decode cX2_isMissing 8 = .ok (.goto 4, 3) := by decide +kernel
theorem dX2_isMissing_11 : decode cX2_isMissing 11 = .ok (.iconst 0, 1) := by decide +kernel
theorem dX2_isMissing_12 : decode cX2_isMissing 12 = .ok (.ireturn, 1) := by decide +kernel
theorem dX2_begin_0 : decode cX2_begin 0 = .ok (.aload_n 0, 1) := by decide +kernel
theorem dX2_begin_1 : decode cX2_begin 1 = .ok (.iload_n 1, 1) := by decide +kernel
theorem dX2_begin_2 : decode cX2_begin 2 = .ok (.putfield 19, 3) := by decide +kernel
theorem dX2_begin_5 : decode cX2_begin 5 = .ok (.aload_n 0, 1) := by decide +kernel
theorem dX2_begin_6 : decode cX2_begin 6 = .ok (.iload_n 1, 1) := by decide +kernel
theorem dX2_begin_7 : decode cX2_begin 7 = .ok (.ifCond .ne 7, 3) := by decide +kernel
theorem dX2_begin_10 : decode cX2_begin 10 = .ok (.iconst 0, 1) := by decide +kernel
theorem dX2_begin_11 : decode cX2_begin 11 = .ok (.goto 4, 3) := by decide +kernel
theorem dX2_begin_14 : decode cX2_begin 14 = .ok (.iload_n 2, 1) := by decide +kernel
theorem dX2_begin_15 : decode cX2_begin 15 = .ok (.putfield 15, 3) := by decide +kernel
theorem dX2_begin_18 : decode cX2_begin 18 = .ok (.iconst 0, 1) := by decide +kernel
theorem dX2_begin_19 : decode cX2_begin 19 = .ok (.istore_n 3, 1) := by decide +kernel
theorem dX2_begin_20 : decode cX2_begin 20 = .ok (.iload_n 3, 1) := by decide +kernel
theorem dX2_begin_21 : decode cX2_begin 21 = .ok (.bipush 40, 2) := by decide +kernel
theorem dX2_begin_23 : decode cX2_begin 23 = .ok (.if_icmp .ge 16, 3) := by decide +kernel
theorem dX2_begin_26 : decode cX2_begin 26 = .ok (.aload_n 0, 1) := by decide +kernel
theorem dX2_begin_27 : decode cX2_begin 27 = .ok (.getfield 9, 3) := by decide +kernel
theorem dX2_begin_30 : decode cX2_begin 30 = .ok (.iload_n 3, 1) := by decide +kernel
theorem dX2_begin_31 : decode cX2_begin 31 = .ok (.iconst 0, 1) := by decide +kernel
theorem dX2_begin_32 : decode cX2_begin 32 = .ok (.iastore, 1) := by decide +kernel
theorem dX2_begin_33 : decode cX2_begin 33 = .ok (.iinc 3 1, 3) := by decide +kernel
theorem dX2_begin_36 : decode cX2_begin 36 = .ok (.goto (-16), 3) := by decide +kernel
theorem dX2_begin_39 : decode cX2_begin 39 = .ok (.return_, 1) := by decide +kernel
theorem dX2_lowestBits_0 : decode cX2_lowestBits 0 = .ok (.aload_n 0, 1) := by decide +kernel
theorem dX2_lowestBits_1 : decode cX2_lowestBits 1 = .ok (.getfield 19, 3) := by decide +kernel
theorem dX2_lowestBits_4 : decode cX2_lowestBits 4 = .ok (.bipush 8, 2) := by decide +kernel
theorem dX2_lowestBits_6 : decode cX2_lowestBits 6 = .ok (.if_icmp .ne 6, 3) := by decide +kernel
theorem dX2_lowestBits_9 : decode cX2_lowestBits 9 = .ok (.iload_n 1, 1) := by decide +kernel
theorem dX2_lowestBits_10 : decode cX2_lowestBits 10 = .ok (.i2b, 1) := by decide +kernel
theorem dX2_lowestBits_11 : decode cX2_lowestBits 11 = .ok (.ireturn, 1) := by decide +kernel
theorem dX2_lowestBits_12 : decode cX2_lowestBits 12 = .ok (.aload_n 0, 1) := by decide +kernel
theorem dX2_lowestBits_13 : decode cX2_lowestBits 13 = .ok (.getfield 19, 3) := by decide +kernel
theorem dX2_lowestBits_16 : decode cX2_lowestBits 16 = .ok (.bipush 16, 2) := by decide +kernel
theorem dX2_lowestBits_18 : decode cX2_lowestBits 18 = .ok (.if_icmp .ne 8, 3) := by decide +kernel
theorem dX2_lowestBits_21 : decode cX2_lowestBits 21 = .ok (.iload_n 1, 1) := by decide +kernel
theorem dX2_lowestBits_22 : decode cX2_lowestBits 22 = .ok (.i2s, 1) := by decide +kernel
theorem dX2_lowestBits_23 : decode cX2_lowestBits 23 = .ok (.goto 4, 3) := by decide +kernel
theorem dX2_lowestBits_26 : decode cX2_lowestBits 26 = .ok (.iload_n 1, 1) := by decide +kernel
theorem dX2_lowestBits_27 : decode cX2_lowestBits 27 = .ok (.ireturn, 1) := by decide +kernel
theorem dX2_has_0 : decode cX2_has 0 = .ok (.iload_n 2, 1) := by decide +kernel
theorem dX2_has_1 : decode cX2_has 1 = .ok (.ifCond .lt 29, 3) := by decide +kernel
theorem dX2_has_4 : decode cX2_has 4 = .ok (.iload_n 1, 1) := by decide +kernel
theorem dX2_has_5 : decode cX2_has 5 = .ok (.ifCond .lt 25, 3) := by decide +kernel
theorem dX2_has_8 : decode cX2_has 8 = .ok (.iload_n 2, 1) := by decide +kernel
theorem dX2_has_9 : decode cX2_has 9 = .ok (.aload_n 0, 1) := by decide +kernel
theorem dX2_has_10 : decode cX2_has 10 = .ok (.getfield 15, 3) := by decide +kernel
theorem dX2_has_13 : decode cX2_has 13 = .ok (.if_icmp .gt 17, 3) := by decide +kernel
theorem dX2_has_16 : decode cX2_has 16 = .ok (.iload_n 1, 1) := by decide +kernel
theorem dX2_has_17 : decode cX2_has 17 = .ok (.aload_n 0, 1) := by decide +kernel
theorem dX2_has_18 : decode cX2_has 18 = .ok (.getfield 15, 3) := by decide +kernel
theorem dX2_has_21 : decode cX2_has 21 = .ok (.iload_n 2, 1) := by decide +kernel
theorem dX2_has_22 : decode cX2_has 22 = .ok (.isub, 1) := by decide +kernel
theorem dX2_has_23 : decode cX2_has 23 = .ok (.if_icmp .gt 7, 3) := by decide +kernel
theorem dX2_has_26 : decode cX2_has 26 = .ok (.iconst 1, 1) := by decide +kernel
theorem dX2_has_27 : decode cX2_has 27 = .ok (.goto 4, 3) := by decide +kernel
theorem dX2_has_30 : decode cX2_has 30 = .ok (.iconst 0, 1) := by decide +kernel
theorem dX2_has_31 : decode cX2_has 31 = .ok (.ireturn, 1) := by decide +kernel
theorem dX3_init_0 : decode cX3_init 0 = .ok (.aload_n 0, 1) := by decide +kernel
theorem dX3_init_1 : decode cX3_init 1 = .ok (.invokespecial 3, 3) := by decide +kernel
theorem dX3_init_4 : decode cX3_init 4 = .ok (.aload_n 0, 1) := by decide +kernel
theorem dX3_init_5 : decode cX3_init 5 = .ok (.bipush 120, 2) := by decide +kernel
theorem dX3_init_7 : decode cX3_init 7 = .ok (.newarray .int, 2) := by decide +kernel
theorem dX3_init_9 : decode cX3_init 9 = .ok (.putfield 9, 3) := by decide +kernel
theorem dX3_init_12 : decode cX3_init 12 = .ok (.aload_n 0, 1) := by decide +kernel
theorem dX3_init_13 : decode cX3_init 13 = .ok (.iconst 0, 1) := by decide +kernel
theorem dX3_init_14 : decode cX3_init 14 = .ok (.putfield 15, 3) := by decide +kernel
theorem dX3_init_17 : decode cX3_init 17 = .ok (.aload_n 0, 1) := by decide +kernel
theorem dX3_init_18 : decode cX3_init 18 = .ok (.iconst 0, 1) := by decide +kernel
theorem dX3_init_19 : decode cX3_init 19 = .ok (.putfield 19, 3) := by decide +kernel
theorem dX3_init_22 : decode cX3_init 22 = .ok (.aload_n 0, 1) := by decide +kernel
theorem dX3_init_23 : decode cX3_init 23 = .ok (.iconst 0, 1) := by decide +kernel
theorem dX3_init_24 : decode cX3_init 24 = .ok (.putfield 22, 3) := by decide +kernel
theorem dX3_init_27 : decode cX3_init 27 = .ok (.aload_n 0, 1) := by decide +kernel
theorem dX3_init_28 : decode cX3_init 28 = .ok (.iconst 0, 1) := by decide +kernel
theorem dX3_init_29 : decode cX3_init 29 = .ok (.putfield 25, 3) := by decide +kernel
theorem dX3_init_32 : decode cX3_init 32 = .ok (.aload_n 0, 1) := by decide +kernel
theorem dX3_init_33 : decode cX3_init 33 = .ok (.iconst 0, 1) := by decide +kernel
theorem dX3_init_34 : decode cX3_init 34 = .ok (.putfield 28, 3) := by decide +kernel
theorem dX3_init_37 : decode cX3_init 37 = .ok (.return_, 1) := by decide +kernel
theorem dX3_add_0 : decode cX3_add 0 = .ok (.aload_n 0, 1) := by decide +kernel
theorem dX3_add_1 : decode cX3_add 1 = .ok (.getfield 15, 3) := by decide +kernel
theorem dX3_add_4 : decode cX3_add 4 = .ok (.bipush 120, 2) := by decide +kernel
theorem dX3_add_6 : decode cX3_add 6 = .ok (.if_icmp .ge 23, 3) := by decide +kernel
theorem dX3_add_9 : decode cX3_add 9 = .ok (.aload_n 0, 1) := by decide +kernel
theorem dX3_add_10 : decode cX3_add 10 = .ok (.getfield 9, 3) := by decide +kernel
theorem dX3_add_13 : decode cX3_add 13 = .ok (.aload_n 0, 1) := by decide +kernel
theorem dX3_add_14 : decode cX3_add 14 = .ok (.getfield 15, 3) := by decide +kernel
theorem dX3_add_17 : decode cX3_add 17 = .ok (.iload_n 1, 1) := by decide +kernel
theorem dX3_add_18 : decode cX3_add 18 = .ok (.iastore, 1) := by decide +kernel
theorem dX3_add_19 : decode cX3_add 19 = .ok (.aload_n 0, 1) := by decide +kernel
theorem dX3_add_20 : decode cX3_add 20 = .ok (.dup, 1) := by decide +kernel
theorem dX3_add_21 : decode cX3_add 21 = .ok (.getfield 15, 3) := by decide +kernel
theorem dX3_add_24 : decode cX3_add 24 = .ok (.iconst 1, 1) := by decide +kernel
theorem dX3_add_25 : decode cX3_add 25 = .ok (.iadd, 1) := by decide +kernel
theorem dX3_add_26 : decode cX3_add 26 = .ok (.putfield 15, 3) := by decide +kernel
theorem dX3_add_29 : decode cX3_add 29 = .ok (.return_, 1) := by decide +kernel
theorem dX3_readInto_0 : decode cX3_readInto 0 = .ok (.aload_n 0, 1) := by decide +kernel
theorem dX3_readInto_1 : decode cX3_readInto 1 = .ok (.iconst 0, 1) := by decide +kernel
theorem dX3_readInto_2 : decode cX3_readInto 2 = .ok (.putfield 25, 3) := by decide +kernel
theorem dX3_readInto_5 : decode cX3_readInto 5 = .ok (.aload_n 0, 1) := by decide +kernel
theorem dX3_readInto_6 : decode cX3_readInto 6 = .ok (.invokevirtual 31, 3) := by decide +kernel
theorem dX3_readInto_9 : decode cX3_readInto 9 = .ok (.iconst 1, 1) := by decide +kernel
theorem dX3_readInto_10 : decode cX3_readInto 10 = .ok (.istore_n 2, 1) := by decide +kernel
theorem dX3_readInto_11 : decode cX3_readInto 11 = .ok (.iload_n 2, 1) := by decide +kernel
theorem dX3_readInto_12 : decode cX3_readInto 12 = .ok (.bipush 120, 2) := by decide +kernel
theorem dX3_readInto_14 : decode cX3_readInto 14 = .ok (.if_icmp .gt 52, 3) := by decide +kernel
theorem dX3_readInto_17 : decode cX3_readInto 17 = .ok (.aload_n 0, 1) := by decide +kernel
theorem dX3_readInto_18 : decode cX3_readInto 18 = .ok (.aload_n 1, 1) := by decide +kernel
theorem dX3_readInto_19 : decode cX3_readInto 19 = .ok (.invokevirtual 34, 3) := by decide +kernel
theorem dX3_readInto_22 : decode cX3_readInto 22 = .ok (.ifCond .ne 10, 3) := by decide +kernel
theorem dX3_readInto_25 : decode cX3_readInto 25 = .ok (.iconst (-1), 1) := by decide +kernel
theorem dX3_readInto_26 : decode cX3_readInto 26 = .ok (.aload_n 0, 1) := by decide +kernel
theorem dX3_readInto_27 : decode cX3_readInto 27 = .ok (.getfield 22, 3) := by decide +kernel
theorem dX3_readInto_30 : decode cX3_readInto 30 = .ok (.isub, 1) := by decide +kernel
theorem dX3_readInto_31 : decode cX3_readInto 31 = .ok (.ireturn, 1) := by decide +kernel
theorem dX3_readInto_32 : decode cX3_readInto 32 = .ok (.aload_n 0, 1) := by decide +kernel
theorem dX3_readInto_33 : decode cX3_readInto 33 = .ok (.getfield 19, 3) := by decide +kernel
theorem dX3_readInto_36 : decode cX3_readInto 36 = .ok (.ifCond .ne 5, 3) := by decide +kernel
theorem dX3_readInto_39 : decode cX3_readInto 39 = .ok (.iload_n 2, 1) := by decide +kernel
theorem dX3_readInto_40 : decode cX3_readInto 40 = .ok (.ireturn, 1) := by decide +kernel
theorem dX3_readInto_41 : decode cX3_readInto 41 = .ok (.aload_n 0, 1) := by decide +kernel
theorem dX3_readInto_42 : decode cX3_readInto 42 = .ok (.getfield 19, 3) := by decide +kernel
theorem dX3_readInto_45 : decode cX3_readInto 45 = .ok (.iconst 3, 1) := by decide +kernel
theorem dX3_readInto_46 : decode cX3_readInto 46 = .ok (.if_icmp .eq 10, 3) := by decide +kernel
theorem dX3_readInto_49 : decode cX3_readInto 49 = .ok (.iconst (-1), 1) := by decide +kernel
theorem dX3_readInto_50 : decode cX3_readInto 50 = .ok (.aload_n 0, 1) := by decide +kernel
theorem dX3_readInto_51 : decode cX3_readInto 51 = .ok (.getfield 22, 3) := by decide +kernel
theorem dX3_readInto_54 : decode cX3_readInto 54 = .ok (.isub, 1) := by decide +kernel
theorem dX3_readInto_55 : decode cX3_readInto 55 = .ok (.ireturn, 1) := by decide +kernel
theorem dX3_readInto_56 : decode cX3_readInto 56 = .ok (.aload_n 0, 1) := by decide +kernel
theorem dX3_readInto_57 : decode cX3_readInto 57 = .ok (.invokevirtual 31, 3) := by decide +kernel
theorem dX3_readInto_60 : decode cX3_readInto 60 = .ok (.iinc 2 1, 3) := by decide +kernel
theorem dX3_readInto_63 : decode cX3_readInto 63 = .ok (.goto (-52), 3) := by decide +kernel
theorem dX3_readInto_66 : decode cX3_readInto 66 = .ok (.iconst (-1), 1) := by decide +kernel
theorem dX3_readInto_67 : decode cX3_readInto 67 = .ok (.aload_n 0, 1) := by decide +kernel
theorem dX3_readInto_68 : decode cX3_readInto 68 = .ok (.getfield 22, 3) := by decide +kernel
theorem dX3_readInto_71 : decode cX3_readInto 71 = .ok (.isub, 1) := by decide +kernel
theorem dX3_readInto_72 : decode cX3_readInto 72 = .ok (.ireturn, 1) := by decide +kernel
theorem dX3_readItem_0 : decode cX3_readItem 0 = .ok (.aload_n 0, 1) := by decide +kernel
theorem dX3_readItem_1 : decode cX3_readItem 1 = .ok (.ldc 38, 2) := by decide +kernel
theorem dX3_readItem_3 : decode cX3_readItem 3 = .ok (.invokevirtual 40, 3) := by decide +kernel
theorem dX3_readItem_6 : decode cX3_readItem 6 = .ok (.ifCond .eq 9, 3) := by decide +kernel
theorem dX3_readItem_9 : decode cX3_readItem 9 = .ok (.aload_n 0, 1) := by decide +kernel
theorem dX3_readItem_10 : decode cX3_readItem 10 = .ok (.aload_n 1, 1) := by decide +kernel
theorem dX3_readItem_11 : decode cX3_readItem 11 = .ok (.invokevirtual 44, 3) := by decide +kernel
theorem dX3_readItem_14 : decode cX3_readItem 14 = .ok (.ireturn, 1) := by decide +kernel
theorem dX3_readItem_15 : decode cX3_readItem 15 = .ok (.aload_n 0, 1) := by decide +kernel
theorem dX3_readItem_16 : decode cX3_readItem 16 = .ok (.ldc 47, 2) := by decide +kernel
theorem dX3_readItem_18 : decode cX3_readItem 18 = .ok (.invokevirtual 40, 3) := by decide +kernel
theorem dX3_readItem_21 : decode cX3_readItem 21 = .ok (.ifCond .eq 9, 3) := by decide +kernel
theorem dX3_readItem_24 : decode cX3_readItem 24 = .ok (.aload_n 0, 1) := by decide +kernel
theorem dX3_readItem_25 : decode cX3_readItem 25 = .ok (.aload_n 1, 1) := by decide +kernel
theorem dX3_readItem_26 : decode cX3_readItem 26 = .ok (.invokevirtual 49, 3) := by decide +kernel
theorem dX3_readItem_29 : decode cX3_readItem 29 = .ok (.ireturn, 1) := by decide +kernel
theorem dX3_readItem_30 : decode cX3_readItem 30 = .ok (.iconst 0, 1) := by decide +kernel
theorem dX3_readItem_31 : decode cX3_readItem 31 = .ok (.istore_n 2, 1) := by decide +kernel
theorem dX3_readItem_32 : decode cX3_readItem 32 = .ok (.iload_n 2, 1) := by decide +kernel
theorem dX3_readItem_33 : decode cX3_readItem 33 = .ok (.bipush 7, 2) := by decide +kernel
theorem dX3_readItem_35 : decode cX3_readItem 35 = .ok (.if_icmp .ge 27, 3) := by decide +kernel
theorem dX3_readItem_38 : decode cX3_readItem 38 = .ok (.aload_n 0, 1) := by decide +kernel
theorem dX3_readItem_39 : decode cX3_readItem 39 = .ok (.iload_n 2, 1) := by decide +kernel
theorem dX3_readItem_40 : decode cX3_readItem 40 = .ok (.invokestatic 54, 3) := by decide +kernel
theorem dX3_readItem_43 : decode cX3_readItem 43 = .ok (.invokevirtual 40, 3) := by decide +kernel
theorem dX3_readItem_46 : decode cX3_readItem 46 = .ok (.ifCond .eq 10, 3) := by decide +kernel
theorem dX3_readItem_49 : decode cX3_readItem 49 = .ok (.aload_n 0, 1) := by decide +kernel
theorem dX3_readItem_50 : decode cX3_readItem 50 = .ok (.aload_n 1, 1) := by decide +kernel
theorem dX3_readItem_51 : decode cX3_readItem 51 = .ok (.iload_n 2, 1) := by decide +kernel
theorem dX3_readItem_52 : decode cX3_readItem 52 = .ok (.invokevirtual 58, 3) := by decide +kernel
theorem dX3_readItem_55 : decode cX3_readItem 55 = .ok (.ireturn, 1) := by decide +kernel
theorem dX3_readItem_56 : decode cX3_readItem 56 = .ok (.iinc 2 1, 3) := by decide +kernel
theorem dX3_readItem_59 : decode cX3_readItem 59 = .ok (.goto (-27), 3) := by decide +kernel
theorem dX3_readItem_62 : decode cX3_readItem 62 = .ok (.iconst 0, 1) := by decide +kernel
theorem dX3_readItem_63 : decode cX3_readItem 63 = .ok (.ireturn, 1) := by decide +kernel
theorem dX3_readWriter_0 : decode cX3_readWriter 0 = .ok (.aload_n 1, 1) := by decide +kernel
theorem dX3_readWriter_1 : decode cX3_readWriter 1 = .ok (.invokevirtual 62, 3) := by decide +kernel
theorem dX3_readWriter_4 : decode cX3_readWriter 4 = .ok (.ifCond .eq 5, 3) := by decide +kernel
theorem dX3_readWriter_7 : decode cX3_readWriter 7 = .ok (.iconst 0, 1) := by decide +kernel
theorem dX3_readWriter_8 : decode cX3_readWriter 8 = .ok (.ireturn, 1) := by decide +kernel
theorem dX3_readWriter_9 : decode cX3_readWriter 9 = .ok (.iconst 0, 1) := by decide +kernel
theorem dX3_readWriter_10 : decode cX3_readWriter 10 = .ok (.istore_n 3, 1) := by decide +kernel
theorem dX3_readWriter_11 : decode cX3_readWriter 11 = .ok (.bipush 30, 2) := by decide +kernel
theorem dX3_readWriter_13 : decode cX3_readWriter 13 = .ok (.istore 4, 2) := by decide +kernel
theorem dX3_readWriter_15 : decode cX3_readWriter 15 = .ok (.aload_n 0, 1) := by decide +kernel
theorem dX3_readWriter_16 : decode cX3_readWriter 16 = .ok (.invokevirtual 31, 3) := by decide +kernel
theorem dX3_readWriter_19 : decode cX3_readWriter 19 = .ok (.aload_n 0, 1) := by decide +kernel
theorem dX3_readWriter_20 : decode cX3_readWriter 20 = .ok (.ldc 68, 2) := by decide +kernel
theorem dX3_readWriter_22 : decode cX3_readWriter 22 = .ok (.invokevirtual 40, 3) := by decide +kernel
theorem dX3_readWriter_25 : decode cX3_readWriter 25 = .ok (.ifCond .eq 24, 3) := by decide +kernel
theorem dX3_readWriter_28 : decode cX3_readWriter 28 = .ok (.aload_n 0, 1) := by decide +kernel
theorem dX3_readWriter_29 : decode cX3_readWriter 29 = .ok (.invokevirtual 31, 3) := by decide +kernel
theorem dX3_readWriter_32 : decode cX3_readWriter 32 = .ok (.aload_n 0, 1) := by decide +kernel
theorem dX3_readWriter_33 : decode cX3_readWriter 33 = .ok (.sipush 9999, 3) := by decide +kernel
theorem dX3_readWriter_36 : decode cX3_readWriter 36 = .ok (.invokevirtual 70, 3) := by decide +kernel
theorem dX3_readWriter_39 : decode cX3_readWriter 39 = .ok (.ifCond .ne 5, 3) := by decide +kernel
theorem dX3_readWriter_42 : decode cX3_readWriter 42 = .ok (.iconst 0, 1) := by decide +kernel
theorem dX3_readWriter_43 : decode cX3_readWriter 43 = .ok (.ireturn, 1) := by decide +kernel
theorem dX3_readWriter_44 : decode cX3_readWriter 44 = .ok (.aload_n 0, 1) := by decide +kernel
theorem dX3_readWriter_45 : decode cX3_readWriter 45 = .ok (.invokevirtual 74, 3) := by decide +kernel
theorem dX3_readWriter_48 : decode cX3_readWriter 48 = .ok (.istore_n 3, 1) := by decide +kernel
theorem dX3_readWriter_49 : decode cX3_readWriter 49 = .ok (.aload_n 0, 1) := by decide +kernel
theorem dX3_readWriter_50 : decode cX3_readWriter 50 = .ok (.ldc 78, 2) := by decide +kernel
theorem dX3_readWriter_52 : decode cX3_readWriter 52 = .ok (.invokevirtual 40, 3) := by decide +kernel
theorem dX3_readWriter_55 : decode cX3_readWriter 55 = .ok (.ifCond .eq 24, 3) := by decide +kernel
theorem dX3_readWriter_58 : decode cX3_readWriter 58 = .ok (.aload_n 0, 1) := by decide +kernel
theorem dX3_readWriter_59 : decode cX3_readWriter 59 = .ok (.invokevirtual 31, 3) := by decide +kernel
theorem dX3_readWriter_62 : decode cX3_readWriter 62 = .ok (.aload_n 0, 1) := by decide +kernel
theorem dX3_readWriter_63 : decode cX3_readWriter 63 = .ok (.bipush 99, 2) := by decide +kernel
theorem dX3_readWriter_65 : decode cX3_readWriter 65 = .ok (.invokevirtual 70, 3) := by decide +kernel
theorem dX3_readWriter_68 : decode cX3_readWriter 68 = .ok (.ifCond .ne 5, 3) := by decide +kernel
theorem dX3_readWriter_71 : decode cX3_readWriter 71 = .ok (.iconst 0, 1) := by decide +kernel
theorem dX3_readWriter_72 : decode cX3_readWriter 72 = .ok (.ireturn, 1) := by decide +kernel
theorem dX3_readWriter_73 : decode cX3_readWriter 73 = .ok (.aload_n 0, 1) := by decide +kernel
theorem dX3_readWriter_74 : decode cX3_readWriter 74 = .ok (.invokevirtual 74, 3) := by decide +kernel
theorem dX3_readWriter_77 : decode cX3_readWriter 77 = .ok (.istore 4, 2) := by decide +kernel
theorem dX3_readWriter_79 : decode cX3_readWriter 79 = .ok (.aload_n 1, 1) := by decide +kernel
theorem dX3_readWriter_80 : decode cX3_readWriter 80 = .ok (.iload_n 2, 1) := by decide +kernel
theorem dX3_readWriter_81 : decode cX3_readWriter 81 = .ok (.iload_n 3, 1) := by decide +kernel
theorem dX3_readWriter_82 : decode cX3_readWriter 82 = .ok (.iload 4, 2) := by decide +kernel
theorem dX3_readWriter_84 : decode cX3_readWriter 84 = .ok (.invokevirtual 80, 3) := by decide +kernel
theorem dX3_readWriter_87 : decode cX3_readWriter 87 = .ok (.pop, 1) := by decide +kernel
theorem dX3_readWriter_88 : decode cX3_readWriter 88 = .ok (.iconst 1, 1) := by decide +kernel
theorem dX3_readWriter_89 : decode cX3_readWriter 89 = .ok (.ireturn, 1) := by decide +kernel
theorem dX3_readFish_0 : decode cX3_readFish 0 = .ok (.aload_n 0, 1) := by decide +kernel
theorem dX3_readFish_1 : decode cX3_readFish 1 = .ok (.invokevirtual 31, 3) := by decide +kernel
theorem dX3_readFish_4 : decode cX3_readFish 4 = .ok (.aload_n 0, 1) := by decide +kernel
theorem dX3_readFish_5 : decode cX3_readFish 5 = .ok (.iconst 5, 1) := by decide +kernel
theorem dX3_readFish_6 : decode cX3_readFish 6 = .ok (.invokevirtual 70, 3) := by decide +kernel
theorem dX3_readFish_9 : decode cX3_readFish 9 = .ok (.ifCond .ne 5, 3) := by decide +kernel
theorem dX3_readFish_12 : decode cX3_readFish 12 = .ok (.iconst 0, 1) := by decide +kernel
theorem dX3_readFish_13 : decode cX3_readFish 13 = .ok (.ireturn, 1) := by decide +kernel
theorem dX3_readFish_14 : decode cX3_readFish 14 = .ok (.aload_n 0, 1) := by decide +kernel
theorem dX3_readFish_15 : decode cX3_readFish 15 = .ok (.invokevirtual 74, 3) := by decide +kernel
theorem dX3_readFish_18 : decode cX3_readFish 18 = .ok (.istore_n 2, 1) := by decide +kernel
theorem dX3_readFish_19 : decode cX3_readFish 19 = .ok (.aload_n 0, 1) := by decide +kernel
theorem dX3_readFish_20 : decode cX3_readFish 20 = .ok (.sipush 999, 3) := by decide +kernel
theorem dX3_readFish_23 : decode cX3_readFish 23 = .ok (.invokevirtual 70, 3) := by decide +kernel
theorem dX3_readFish_26 : decode cX3_readFish 26 = .ok (.ifCond .ne 5, 3) := by decide +kernel
theorem dX3_readFish_29 : decode cX3_readFish 29 = .ok (.iconst 0, 1) := by decide +kernel
theorem dX3_readFish_30 : decode cX3_readFish 30 = .ok (.ireturn, 1) := by decide +kernel
theorem dX3_readFish_31 : decode cX3_readFish 31 = .ok (.aload_n 1, 1) := by decide +kernel
theorem dX3_readFish_32 : decode cX3_readFish 32 = .ok (.getfield 84, 3) := by decide +kernel
theorem dX3_readFish_35 : decode cX3_readFish 35 = .ok (.iload_n 2, 1) := by decide +kernel
theorem dX3_readFish_36 : decode cX3_readFish 36 = .ok (.aload_n 0, 1) := by decide +kernel
theorem dX3_readFish_37 : decode cX3_readFish 37 = .ok (.invokevirtual 74, 3) := by decide +kernel
theorem dX3_readFish_40 : decode cX3_readFish 40 = .ok (.iastore, 1) := by decide +kernel
theorem dX3_readFish_41 : decode cX3_readFish 41 = .ok (.aload_n 0, 1) := by decide +kernel
theorem dX3_readFish_42 : decode cX3_readFish 42 = .ok (.ldc 87, 2) := by decide +kernel
theorem dX3_readFish_44 : decode cX3_readFish 44 = .ok (.invokevirtual 40, 3) := by decide +kernel
theorem dX3_readFish_47 : decode cX3_readFish 47 = .ok (.ifCond .eq 28, 3) := by decide +kernel
theorem dX3_readFish_50 : decode cX3_readFish 50 = .ok (.aload_n 0, 1) := by decide +kernel
theorem dX3_readFish_51 : decode cX3_readFish 51 = .ok (.invokevirtual 31, 3) := by decide +kernel
theorem dX3_readFish_54 : decode cX3_readFish 54 = .ok (.aload_n 0, 1) := by decide +kernel
theorem dX3_readFish_55 : decode cX3_readFish 55 = .ok (.bipush 20, 2) := by decide +kernel
theorem dX3_readFish_57 : decode cX3_readFish 57 = .ok (.invokevirtual 70, 3) := by decide +kernel
theorem dX3_readFish_60 : decode cX3_readFish 60 = .ok (.ifCond .ne 5, 3) := by decide +kernel
theorem dX3_readFish_63 : decode cX3_readFish 63 = .ok (.iconst 0, 1) := by decide +kernel
theorem dX3_readFish_64 : decode cX3_readFish 64 = .ok (.ireturn, 1) := by decide +kernel
theorem dX3_readFish_65 : decode cX3_readFish 65 = .ok (.aload_n 1, 1) := by decide +kernel
theorem dX3_readFish_66 : decode cX3_readFish 66 = .ok (.getfield 89, 3) := by decide +kernel
theorem dX3_readFish_69 : decode cX3_readFish 69 = .ok (.iload_n 2, 1) := by decide +kernel
theorem dX3_readFish_70 : decode cX3_readFish 70 = .ok (.aload_n 0, 1) := by decide +kernel
theorem dX3_readFish_71 : decode cX3_readFish 71 = .ok (.invokevirtual 74, 3) := by decide +kernel
theorem dX3_readFish_74 : decode cX3_readFish 74 = .ok (.iastore, 1) := by decide +kernel
theorem dX3_readFish_75 : decode cX3_readFish 75 = .ok (.iconst 1, 1) := by decide +kernel
theorem dX3_readFish_76 : decode cX3_readFish 76 = .ok (.ireturn, 1) := by decide +kernel
theorem dX3_readJar_0 : decode cX3_readJar 0 = .ok (.aload_n 0, 1) := by decide +kernel
theorem dX3_readJar_1 : decode cX3_readJar 1 = .ok (.invokevirtual 31, 3) := by decide +kernel
theorem dX3_readJar_4 : decode cX3_readJar 4 = .ok (.aload_n 0, 1) := by decide +kernel
theorem dX3_readJar_5 : decode cX3_readJar 5 = .ok (.bipush 9, 2) := by decide +kernel
theorem dX3_readJar_7 : decode cX3_readJar 7 = .ok (.invokevirtual 70, 3) := by decide +kernel
theorem dX3_readJar_10 : decode cX3_readJar 10 = .ok (.ifCond .ne 5, 3) := by decide +kernel
theorem dX3_readJar_13 : decode cX3_readJar 13 = .ok (.iconst 0, 1) := by decide +kernel
theorem dX3_readJar_14 : decode cX3_readJar 14 = .ok (.ireturn, 1) := by decide +kernel
theorem dX3_readJar_15 : decode cX3_readJar 15 = .ok (.aload_n 0, 1) := by decide +kernel
theorem dX3_readJar_16 : decode cX3_readJar 16 = .ok (.invokevirtual 74, 3) := by decide +kernel
theorem dX3_readJar_19 : decode cX3_readJar 19 = .ok (.istore_n 2, 1) := by decide +kernel
theorem dX3_readJar_20 : decode cX3_readJar 20 = .ok (.aload_n 0, 1) := by decide +kernel
theorem dX3_readJar_21 : decode cX3_readJar 21 = .ok (.sipush 999, 3) := by decide +kernel
theorem dX3_readJar_24 : decode cX3_readJar 24 = .ok (.invokevirtual 70, 3) := by decide +kernel
theorem dX3_readJar_27 : decode cX3_readJar 27 = .ok (.ifCond .ne 5, 3) := by decide +kernel
theorem dX3_readJar_30 : decode cX3_readJar 30 = .ok (.iconst 0, 1) := by decide +kernel
theorem dX3_readJar_31 : decode cX3_readJar 31 = .ok (.ireturn, 1) := by decide +kernel
theorem dX3_readJar_32 : decode cX3_readJar 32 = .ok (.aload_n 1, 1) := by decide +kernel
theorem dX3_readJar_33 : decode cX3_readJar 33 = .ok (.getfield 92, 3) := by decide +kernel
theorem dX3_readJar_36 : decode cX3_readJar 36 = .ok (.iload_n 2, 1) := by decide +kernel
theorem dX3_readJar_37 : decode cX3_readJar 37 = .ok (.aload_n 0, 1) := by decide +kernel
theorem dX3_readJar_38 : decode cX3_readJar 38 = .ok (.invokevirtual 74, 3) := by decide +kernel
theorem dX3_readJar_41 : decode cX3_readJar 41 = .ok (.iastore, 1) := by decide +kernel
theorem dX3_readJar_42 : decode cX3_readJar 42 = .ok (.iconst 1, 1) := by decide +kernel
theorem dX3_readJar_43 : decode cX3_readJar 43 = .ok (.ireturn, 1) := by decide +kernel
theorem dX3_isName_0 : decode cX3_isName 0 = .ok (.aload_n 0, 1) := by decide +kernel
theorem dX3_isName_1 : decode cX3_isName 1 = .ok (.getfield 19, 3) := by decide +kernel
theorem dX3_isName_4 : decode cX3_isName 4 = .ok (.iconst 1, 1) := by decide +kernel
theorem dX3_isName_5 : decode cX3_isName 5 = .ok (.if_icmp .ne 19, 3) := by decide +kernel
theorem dX3_isName_8 : decode cX3_isName 8 = .ok (.aload_n 0, 1) := by decide +kernel
theorem dX3_isName_9 : decode cX3_isName 9 = .ok (.getfield 25, 3) := by decide +kernel
theorem dX3_isName_12 : decode cX3_isName 12 = .ok (.aload_n 0, 1) := by decide +kernel
theorem dX3_isName_13 : decode cX3_isName 13 = .ok (.getfield 22, 3) := by decide +kernel
theorem dX3_isName_16 : decode cX3_isName 16 = .ok (.isub, 1) := by decide +kernel
theorem dX3_isName_17 : decode cX3_isName 17 = .ok (.aload_n 1, 1) := by decide +kernel
theorem dX3_isName_18 : decode cX3_isName 18 = .ok (.invokevirtual 94, 3) := by decide +kernel
theorem dX3_isName_21 : decode cX3_isName 21 = .ok (.if_icmp .eq 5, 3) := by decide +kernel
theorem dX3_isName_24 : decode cX3_isName 24 = .ok (.iconst 0, 1) := by decide +kernel
theorem dX3_isName_25 : decode cX3_isName 25 = .ok (.ireturn, 1) := by decide +kernel
theorem dX3_isName_26 : decode cX3_isName 26 = .ok (.iconst 0, 1) := by decide +kernel
theorem dX3_isName_27 : decode cX3_isName 27 = .ok (.istore_n 2, 1) := by decide +kernel
theorem dX3_isName_28 : decode cX3_isName 28 = .ok (.iload_n 2, 1) := by decide +kernel
theorem dX3_isName_29 : decode cX3_isName 29 = .ok (.aload_n 1, 1) := by decide +kernel
theorem dX3_isName_30 : decode cX3_isName 30 = .ok (.invokevirtual 94, 3) := by decide +kernel
theorem dX3_isName_33 : decode cX3_isName 33 = .ok (.if_icmp .ge 41, 3) := by decide +kernel
theorem dX3_isName_36 : decode cX3_isName 36 = .ok (.aload_n 0, 1) := by decide +kernel
theorem dX3_isName_37 : decode cX3_isName 37 = .ok (.getfield 22, 3) := by decide +kernel
theorem dX3_isName_40 : decode cX3_isName 40 = .ok (.iload_n 2, 1) := by decide +kernel
theorem dX3_isName_41 : decode cX3_isName 41 = .ok (.iadd, 1) := by decide +kernel
theorem dX3_isName_42 : decode cX3_isName 42 = .ok (.bipush 120, 2) := by decide +kernel
theorem dX3_isName_44 : decode cX3_isName 44 = .ok (.if_icmp .ge 30, 3) := by decide +kernel
theorem dX3_isName_47 : decode cX3_isName 47 = .ok (.aload_n 0, 1) := by decide +kernel
theorem dX3_isName_48 : decode cX3_isName 48 = .ok (.getfield 9, 3) := by decide +kernel
theorem dX3_isName_51 : decode cX3_isName 51 = .ok (.aload_n 0, 1) := by decide +kernel
theorem dX3_isName_52 : decode cX3_isName 52 = .ok (.getfield 22, 3) := by decide +kernel
theorem dX3_isName_55 : decode cX3_isName 55 = .ok (.iload_n 2, 1) := by decide +kernel
theorem dX3_isName_56 : decode cX3_isName 56 = .ok (.iadd, 1) := by decide +kernel
theorem dX3_isName_57 : decode cX3_isName 57 = .ok (.iaload, 1) := by decide +kernel
theorem dX3_isName_58 : decode cX3_isName 58 = .ok (.aload_n 1, 1) := by decide +kernel
theorem dX3_isName_59 : decode cX3_isName 59 = .ok (.iload_n 2, 1) := by decide +kernel
theorem dX3_isName_60 : decode cX3_isName 60 = .ok (.invokevirtual 99, 3) := by decide +kernel
theorem dX3_isName_63 : decode cX3_isName 63 = .ok (.if_icmp .eq 5, 3) := by decide +kernel
theorem dX3_isName_66 : decode cX3_isName 66 = .ok (.iconst 0, 1) := by decide +kernel
theorem dX3_isName_67 : decode cX3_isName 67 = .ok (.ireturn, 1) := by decide +kernel
theorem dX3_isName_68 : decode cX3_isName 68 = .ok (.iinc 2 1, 3) := by decide +kernel
theorem dX3_isName_71 : decode cX3_isName 71 = .ok (.goto (-43), 3) := by decide +kernel
theorem dX3_isName_74 : decode cX3_isName 74 = .ok (.iconst 1, 1) := by decide +kernel
theorem dX3_isName_75 : decode cX3_isName 75 = .ok (.ireturn, 1) := by decide +kernel
theorem dX3_isNumber_0 : decode cX3_isNumber 0 = .ok (.aload_n 0, 1) := by decide +kernel
theorem dX3_isNumber_1 : decode cX3_isNumber 1 = .ok (.getfield 19, 3) := by decide +kernel
theorem dX3_isNumber_4 : decode cX3_isNumber 4 = .ok (.iconst 2, 1) := by decide +kernel
theorem dX3_isNumber_5 : decode cX3_isNumber 5 = .ok (.if_icmp .ne 15, 3) := by decide +kernel
theorem dX3_isNumber_8 : decode cX3_isNumber 8 = .ok (.aload_n 0, 1) := by decide +kernel
theorem dX3_isNumber_9 : decode cX3_isNumber 9 = .ok (.getfield 28, 3) := by decide +kernel
theorem dX3_isNumber_12 : decode cX3_isNumber 12 = .ok (.iload_n 1, 1) := by decide +kernel
theorem dX3_isNumber_13 : decode cX3_isNumber 13 = .ok (.if_icmp .gt 7, 3) := by decide +kernel
theorem dX3_isNumber_16 : decode cX3_isNumber 16 = .ok (.iconst 1, 1) := by decide +kernel
theorem dX3_isNumber_17 : decode cX3_isNumber 17 = .ok (.goto 4, 3) := by decide +kernel
theorem dX3_isNumber_20 : decode cX3_isNumber 20 = .ok (.iconst 0, 1) := by decide +kernel
theorem dX3_isNumber_21 : decode cX3_isNumber 21 = .ok (.ireturn, 1) := by decide +kernel
theorem dX3_takeNumber_0 : decode cX3_takeNumber 0 = .ok (.aload_n 0, 1) := by decide +kernel
theorem dX3_takeNumber_1 : decode cX3_takeNumber 1 = .ok (.getfield 28, 3) := by decide +kernel
theorem dX3_takeNumber_4 : decode cX3_takeNumber 4 = .ok (.istore_n 1, 1) := by decide +kernel
theorem dX3_takeNumber_5 : decode cX3_takeNumber 5 = .ok (.aload_n 0, 1) := by decide +kernel
theorem dX3_takeNumber_6 : decode cX3_takeNumber 6 = .ok (.invokevirtual 31, 3) := by decide +kernel
theorem dX3_takeNumber_9 : decode cX3_takeNumber 9 = .ok (.iload_n 1, 1) := by decide +kernel
theorem dX3_takeNumber_10 : decode cX3_takeNumber 10 = .ok (.ireturn, 1) := by decide +kernel
theorem dX3_toNextToken_0 : decode cX3_toNextToken 0 = .ok (.aload_n 0, 1) := by decide +kernel
theorem dX3_toNextToken_1 : decode cX3_toNextToken 1 = .ok (.getfield 25, 3) := by decide +kernel
theorem dX3_toNextToken_4 : decode cX3_toNextToken 4 = .ok (.aload_n 0, 1) := by decide +kernel
theorem dX3_toNextToken_5 : decode cX3_toNextToken 5 = .ok (.getfield 15, 3) := by decide +kernel
theorem dX3_toNextToken_8 : decode cX3_toNextToken 8 = .ok (.if_icmp .ge 30, 3) := by decide +kernel
theorem dX3_toNextToken_11 : decode cX3_toNextToken 11 = .ok (.aload_n 0, 1) := by decide +kernel
theorem dX3_toNextToken_12 : decode cX3_toNextToken 12 = .ok (.getfield 9, 3) := by decide +kernel
theorem dX3_toNextToken_15 : decode cX3_toNextToken 15 = .ok (.aload_n 0, 1) := by decide +kernel
theorem dX3_toNextToken_16 : decode cX3_toNextToken 16 = .ok (.getfield 25, 3) := by decide +kernel
theorem dX3_toNextToken_19 : decode cX3_toNextToken 19 = .ok (.iaload, 1) := by decide +kernel
theorem dX3_toNextToken_20 : decode cX3_toNextToken 20 = .ok (.bipush 32, 2) := by decide +kernel
theorem dX3_toNextToken_22 : decode cX3_toNextToken 22 = .ok (.if_icmp .ne 16, 3) := by decide +kernel
theorem dX3_toNextToken_25 : decode cX3_toNextToken 25 = .ok (.aload_n 0, 1) := by decide +kernel
theorem dX3_toNextToken_26 : decode cX3_toNextToken 26 = .ok (.dup, 1) := by decide +kernel
theorem dX3_toNextToken_27 : decode cX3_toNextToken 27 = .ok (.getfield 25, 3) := by decide +kernel
theorem dX3_toNextToken_30 : decode cX3_toNextToken 30 = .ok (.iconst 1, 1) := by decide +kernel
theorem dX3_toNextToken_31 : decode cX3_toNextToken 31 = .ok (.iadd, 1) := by decide +kernel
theorem dX3_toNextToken_32 : decode cX3_toNextToken 32 = .ok (.putfield 25, 3) := by decide +kernel
theorem dX3_toNextToken_35 : decode cX3_toNextToken 35 = .ok (.goto (-35), 3) := by decide +kernel
theorem dX3_toNextToken_38 : decode cX3_toNextToken 38 = .ok (.aload_n 0, 1) := by decide +kernel
theorem dX3_toNextToken_39 : decode cX3_toNextToken 39 = .ok (.aload_n 0, 1) := by decide +kernel
theorem dX3_toNextToken_40 : decode cX3_toNextToken 40 = .ok (.getfield 25, 3) := by decide +kernel
theorem dX3_toNextToken_43 : decode cX3_toNextToken 43 = .ok (.putfield 22, 3) := by decide +kernel
theorem dX3_toNextToken_46 : decode cX3_toNextToken 46 = .ok (.aload_n 0, 1) := by decide +kernel
theorem dX3_toNextToken_47 : decode cX3_toNextToken 47 = .ok (.getfield 25, 3) := by decide +kernel
theorem dX3_toNextToken_50 : decode cX3_toNextToken 50 = .ok (.aload_n 0, 1) := by decide +kernel
theorem dX3_toNextToken_51 : decode cX3_toNextToken 51 = .ok (.getfield 15, 3) := by decide +kernel
theorem dX3_toNextToken_54 : decode cX3_toNextToken 54 = .ok (.if_icmp .lt 11, 3) := by decide +kernel
theorem dX3_toNextToken_57 : decode cX3_toNextToken 57 = .ok (.aload_n 0, 1) := by decide +kernel
theorem dX3_toNextToken_58 : decode cX3_toNextToken 58 = .ok (.iconst 0, 1) := by decide +kernel
theorem dX3_toNextToken_59 : decode cX3_toNextToken 59 = .ok (.putfield 19, 3) := by decide +kernel
theorem dX3_toNextToken_62 : decode cX3_toNextToken 62 = .ok (.goto 189, 3) := by decide +kernel
theorem dX3_toNextToken_65 : decode cX3_toNextToken 65 = .ok (.aload_n 0, 1) := by decide +kernel
theorem dX3_toNextToken_66 : decode cX3_toNextToken 66 = .ok (.getfield 9, 3) := by decide +kernel
theorem dX3_toNextToken_69 : decode cX3_toNextToken 69 = .ok (.aload_n 0, 1) := by decide +kernel
theorem dX3_toNextToken_70 : decode cX3_toNextToken 70 = .ok (.getfield 25, 3) := by decide +kernel
theorem dX3_toNextToken_73 : decode cX3_toNextToken 73 = .ok (.iaload, 1) := by decide +kernel
theorem dX3_toNextToken_74 : decode cX3_toNextToken 74 = .ok (.invokestatic 103, 3) := by decide +kernel
theorem dX3_toNextToken_77 : decode cX3_toNextToken 77 = .ok (.ifCond .eq 47, 3) := by decide +kernel
theorem dX3_toNextToken_80 : decode cX3_toNextToken 80 = .ok (.aload_n 0, 1) := by decide +kernel
theorem dX3_toNextToken_81 : decode cX3_toNextToken 81 = .ok (.iconst 1, 1) := by decide +kernel
theorem dX3_toNextToken_82 : decode cX3_toNextToken 82 = .ok (.putfield 19, 3) := by decide +kernel
theorem dX3_toNextToken_85 : decode cX3_toNextToken 85 = .ok (.aload_n 0, 1) := by decide +kernel
theorem dX3_toNextToken_86 : decode cX3_toNextToken 86 = .ok (.getfield 25, 3) := by decide +kernel
theorem dX3_toNextToken_89 : decode cX3_toNextToken 89 = .ok (.aload_n 0, 1) := by decide +kernel
theorem dX3_toNextToken_90 : decode cX3_toNextToken 90 = .ok (.getfield 15, 3) := by decide +kernel
theorem dX3_toNextToken_93 : decode cX3_toNextToken 93 = .ok (.if_icmp .ge 158, 3) := by decide +kernel
theorem dX3_toNextToken_96 : decode cX3_toNextToken 96 = .ok (.aload_n 0, 1) := by decide +kernel
theorem dX3_toNextToken_97 : decode cX3_toNextToken 97 = .ok (.getfield 9, 3) := by decide +kernel
theorem dX3_toNextToken_100 : decode cX3_toNextToken 100 = .ok (.aload_n 0, 1) := by decide +kernel
theorem dX3_toNextToken_101 : decode cX3_toNextToken 101 = .ok (.getfield 25, 3) := by decide +kernel
theorem dX3_toNextToken_104 : decode cX3_toNextToken 104 = .ok (.iaload, 1) := by decide +kernel
theorem dX3_toNextToken_105 : decode cX3_toNextToken 105 = .ok (.invokestatic 103, 3) := by decide +kernel
theorem dX3_toNextToken_108 : decode cX3_toNextToken 108 = .ok (.ifCond .eq 143, 3) := by decide +kernel
theorem dX3_toNextToken_111 : decode cX3_toNextToken 111 = .ok (.aload_n 0, 1) := by decide +kernel
theorem dX3_toNextToken_112 : decode cX3_toNextToken 112 = .ok (.dup, 1) := by decide +kernel
theorem dX3_toNextToken_113 : decode cX3_toNextToken 113 = .ok (.getfield 25, 3) := by decide +kernel
theorem dX3_toNextToken_116 : decode cX3_toNextToken 116 = .ok (.iconst 1, 1) := by decide +kernel
theorem dX3_toNextToken_117 : decode cX3_toNextToken 117 = .ok (.iadd, 1) := by decide +kernel
theorem dX3_toNextToken_118 : decode cX3_toNextToken 118 = .ok (.putfield 25, 3) := by decide +kernel
theorem dX3_toNextToken_121 : decode cX3_toNextToken 121 = .ok (.goto (-36), 3) := by decide +kernel
theorem dX3_toNextToken_124 : decode cX3_toNextToken 124 = .ok (.aload_n 0, 1) := by decide +kernel
theorem dX3_toNextToken_125 : decode cX3_toNextToken 125 = .ok (.getfield 9, 3) := by decide +kernel
theorem dX3_toNextToken_128 : decode cX3_toNextToken 128 = .ok (.aload_n 0, 1) := by decide +kernel
theorem dX3_toNextToken_129 : decode cX3_toNextToken 129 = .ok (.getfield 25, 3) := by decide +kernel
theorem dX3_toNextToken_132 : decode cX3_toNextToken 132 = .ok (.iaload, 1) := by decide +kernel
theorem dX3_toNextToken_133 : decode cX3_toNextToken 133 = .ok (.invokestatic 106, 3) := by decide +kernel
theorem dX3_toNextToken_136 : decode cX3_toNextToken 136 = .ok (.ifCond .eq 82, 3) := by decide +kernel
theorem dX3_toNextToken_139 : decode cX3_toNextToken 139 = .ok (.aload_n 0, 1) := by decide +kernel
theorem dX3_toNextToken_140 : decode cX3_toNextToken 140 = .ok (.iconst 2, 1) := by decide +kernel
theorem dX3_toNextToken_141 : decode cX3_toNextToken 141 = .ok (.putfield 19, 3) := by decide +kernel
theorem dX3_toNextToken_144 : decode cX3_toNextToken 144 = .ok (.aload_n 0, 1) := by decide +kernel
theorem dX3_toNextToken_145 : decode cX3_toNextToken 145 = .ok (.iconst 0, 1) := by decide +kernel
theorem dX3_toNextToken_146 : decode cX3_toNextToken 146 = .ok (.putfield 28, 3) := by decide +kernel
theorem dX3_toNextToken_149 : decode cX3_toNextToken 149 = .ok (.aload_n 0, 1) := by decide +kernel
theorem dX3_toNextToken_150 : decode cX3_toNextToken 150 = .ok (.getfield 25, 3) := by decide +kernel
theorem dX3_toNextToken_153 : decode cX3_toNextToken 153 = .ok (.aload_n 0, 1) := by decide +kernel
theorem dX3_toNextToken_154 : decode cX3_toNextToken 154 = .ok (.getfield 15, 3) := by decide +kernel
theorem dX3_toNextToken_157 : decode cX3_toNextToken 157 = .ok (.if_icmp .ge 94, 3) := by decide +kernel
theorem dX3_toNextToken_160 : decode cX3_toNextToken 160 = .ok (.aload_n 0, 1) := by decide +kernel
theorem dX3_toNextToken_161 : decode cX3_toNextToken 161 = .ok (.getfield 9, 3) := by decide +kernel
theorem dX3_toNextToken_164 : decode cX3_toNextToken 164 = .ok (.aload_n 0, 1) := by decide +kernel
theorem dX3_toNextToken_165 : decode cX3_toNextToken 165 = .ok (.getfield 25, 3) := by decide +kernel
theorem dX3_toNextToken_168 : decode cX3_toNextToken 168 = .ok (.iaload, 1) := by decide +kernel
theorem dX3_toNextToken_169 : decode cX3_toNextToken 169 = .ok (.invokestatic 106, 3) := by decide +kernel
theorem dX3_toNextToken_172 : decode cX3_toNextToken 172 = .ok (.ifCond .eq 79, 3) := by decide +kernel
theorem dX3_toNextToken_175 : decode cX3_toNextToken 175 = .ok (.aload_n 0, 1) := by decide +kernel
theorem dX3_toNextToken_176 : decode cX3_toNextToken 176 = .ok (.sipush 10000, 3) := by decide +kernel
theorem dX3_toNextToken_179 : decode cX3_toNextToken 179 = .ok (.aload_n 0, 1) := by decide +kernel
theorem dX3_toNextToken_180 : decode cX3_toNextToken 180 = .ok (.getfield 28, 3) := by decide +kernel
theorem dX3_toNextToken_183 : decode cX3_toNextToken 183 = .ok (.bipush 10, 2) := by decide +kernel
theorem dX3_toNextToken_185 : decode cX3_toNextToken 185 = .ok (.imul, 1) := by decide +kernel
theorem dX3_toNextToken_186 : decode cX3_toNextToken 186 = .ok (.aload_n 0, 1) := by decide +kernel
theorem dX3_toNextToken_187 : decode cX3_toNextToken 187 = .ok (.getfield 9, 3) := by decide +kernel
theorem dX3_toNextToken_190 : decode cX3_toNextToken 190 = .ok (.aload_n 0, 1) := by decide +kernel
theorem dX3_toNextToken_191 : decode cX3_toNextToken 191 = .ok (.getfield 25, 3) := by decide +kernel
theorem dX3_toNextToken_194 : decode cX3_toNextToken 194 = .ok (.iaload, 1) := by decide +kernel
theorem dX3_toNextToken_195 : decode cX3_toNextToken 195 = .ok (.iadd, 1) := by decide +kernel
theorem dX3_toNextToken_196 : decode cX3_toNextToken 196 = .ok (.bipush 48, 2) := by decide +kernel
theorem dX3_toNextToken_198 : decode cX3_toNextToken 198 = .ok (.isub, 1) := by decide +kernel
theorem dX3_toNextToken_199 : decode cX3_toNextToken 199 = .ok (.invokestatic 109, 3) := by decide +kernel
theorem dX3_toNextToken_202 : decode cX3_toNextToken 202 = .ok (.putfield 28, 3) := by decide +kernel
theorem dX3_toNextToken_205 : decode cX3_toNextToken 205 = .ok (.aload_n 0, 1) := by decide +kernel
theorem dX3_toNextToken_206 : decode cX3_toNextToken 206 = .ok (.dup, 1) := by decide +kernel
theorem dX3_toNextToken_207 : decode cX3_toNextToken 207 = .ok (.getfield 25, 3) := by decide +kernel
theorem dX3_toNextToken_210 : decode cX3_toNextToken 210 = .ok (.iconst 1, 1) := by decide +kernel
theorem dX3_toNextToken_211 : decode cX3_toNextToken 211 = .ok (.iadd, 1) := by decide +kernel
theorem dX3_toNextToken_212 : decode cX3_toNextToken 212 = .ok (.putfield 25, 3) := by decide +kernel
theorem dX3_toNextToken_215 : decode cX3_toNextToken 215 = .ok (.goto (-66), 3) := by decide +kernel
theorem dX3_toNextToken_218 : decode cX3_toNextToken 218 = .ok (.aload_n 0, 1) := by decide +kernel
theorem dX3_toNextToken_219 : decode cX3_toNextToken 219 = .ok (.aload_n 0, 1) := by decide +kernel
theorem dX3_toNextToken_220 : decode cX3_toNextToken 220 = .ok (.getfield 9, 3) := by decide +kernel
theorem dX3_toNextToken_223 : decode cX3_toNextToken 223 = .ok (.aload_n 0, 1) := by decide +kernel
theorem dX3_toNextToken_224 : decode cX3_toNextToken 224 = .ok (.getfield 25, 3) := by decide +kernel
theorem dX3_toNextToken_227 : decode cX3_toNextToken 227 = .ok (.iaload, 1) := by decide +kernel
theorem dX3_toNextToken_228 : decode cX3_toNextToken 228 = .ok (.bipush 59, 2) := by decide +kernel
theorem dX3_toNextToken_230 : decode cX3_toNextToken 230 = .ok (.if_icmp .ne 7, 3) := by decide +kernel
theorem dX3_toNextToken_233 : decode cX3_toNextToken 233 = .ok (.iconst 3, 1) := by decide +kernel
theorem dX3_toNextToken_234 : decode cX3_toNextToken 234 = .ok (.goto 4, 3) := by decide +kernel
theorem dX3_toNextToken_237 : decode cX3_toNextToken 237 = .ok (.iconst 4, 1) := by decide +kernel
theorem dX3_toNextToken_238 : decode cX3_toNextToken 238 = .ok (.putfield 19, 3) := by decide +kernel
theorem dX3_toNextToken_241 : decode cX3_toNextToken 241 = .ok (.aload_n 0, 1) := by decide +kernel
theorem dX3_toNextToken_242 : decode cX3_toNextToken 242 = .ok (.dup, 1) := by decide +kernel
theorem dX3_toNextToken_243 : decode cX3_toNextToken 243 = .ok (.getfield 25, 3) := by decide +kernel
theorem dX3_toNextToken_246 : decode cX3_toNextToken 246 = .ok (.iconst 1, 1) := by decide +kernel
theorem dX3_toNextToken_247 : decode cX3_toNextToken 247 = .ok (.iadd, 1) := by decide +kernel
theorem dX3_toNextToken_248 : decode cX3_toNextToken 248 = .ok (.putfield 25, 3) := by decide +kernel
theorem dX3_toNextToken_251 : decode cX3_toNextToken 251 = .ok (.return_, 1) := by decide +kernel
theorem dX3_isSmallLetter_0 : decode cX3_isSmallLetter 0 = .ok (.iload_n 0, 1) := by decide +kernel
theorem dX3_isSmallLetter_1 : decode cX3_isSmallLetter 1 = .ok (.bipush 97, 2) := by decide +kernel
theorem dX3_isSmallLetter_3 : decode cX3_isSmallLetter 3 = .ok (.if_icmp .lt 13, 3) := by decide +kernel
theorem dX3_isSmallLetter_6 : decode cX3_isSmallLetter 6 = .ok (.iload_n 0, 1) := by decide +kernel
theorem dX3_isSmallLetter_7 : decode cX3_isSmallLetter 7 = .ok (.bipush 122, 2) := by decide +kernel
theorem dX3_isSmallLetter_9 : decode cX3_isSmallLetter 9 = .ok (.if_icmp .gt 7, 3) := by decide +kernel
theorem dX3_isSmallLetter_12 : decode cX3_isSmallLetter 12 = .ok (.iconst 1, 1) := by decide +kernel
theorem dX3_isSmallLetter_13 : decode cX3_isSmallLetter 13 = .ok (.goto 4, 3) := by decide +kernel
theorem dX3_isSmallLetter_16 : decode cX3_isSmallLetter 16 = .ok (.iconst 0, 1) := by decide +kernel
theorem dX3_isSmallLetter_17 : decode cX3_isSmallLetter 17 = .ok (.ireturn, 1) := by decide +kernel
theorem dX3_isDigit_0 : decode cX3_isDigit 0 = .ok (.iload_n 0, 1) := by decide +kernel
theorem dX3_isDigit_1 : decode cX3_isDigit 1 = .ok (.bipush 48, 2) := by decide +kernel
theorem dX3_isDigit_3 : decode cX3_isDigit 3 = .ok (.if_icmp .lt 13, 3) := by decide +kernel
theorem dX3_isDigit_6 : decode cX3_isDigit 6 = .ok (.iload_n 0, 1) := by decide +kernel
theorem dX3_isDigit_7 : decode cX3_isDigit 7 = .ok (.bipush 57, 2) := by decide +kernel
theorem dX3_isDigit_9 : decode cX3_isDigit 9 = .ok (.if_icmp .gt 7, 3) := by decide +kernel
theorem dX3_isDigit_12 : decode cX3_isDigit 12 = .ok (.iconst 1, 1) := by decide +kernel
theorem dX3_isDigit_13 : decode cX3_isDigit 13 = .ok (.goto 4, 3) := by decide +kernel
theorem dX3_isDigit_16 : decode cX3_isDigit 16 = .ok (.iconst 0, 1) := by decide +kernel
theorem dX3_isDigit_17 : decode cX3_isDigit 17 = .ok (.ireturn, 1) := by decide +kernel
theorem dX4_init_0 : decode cX4_init 0 = .ok (.aload_n 0, 1) := by decide +kernel
theorem dX4_init_1 : decode cX4_init 1 = .ok (.invokespecial 1, 3) := by decide +kernel
theorem dX4_init_4 : decode cX4_init 4 = .ok (.aload_n 0, 1) := by decide +kernel
theorem dX4_init_5 : decode cX4_init 5 = .ok (.new 7, 3) := by decide +kernel
theorem dX4_init_8 : decode cX4_init 8 = .ok (.dup, 1) := by decide +kernel
theorem dX4_init_9 : decode cX4_init 9 = .ok (.invokespecial 9, 3) := by decide +kernel
theorem dX4_init_12 : decode cX4_init 12 = .ok (.putfield 10, 3) := by decide +kernel
theorem dX4_init_15 : decode cX4_init 15 = .ok (.aload_n 0, 1) := by decide +kernel
theorem dX4_init_16 : decode cX4_init 16 = .ok (.new 7, 3) := by decide +kernel
theorem dX4_init_19 : decode cX4_init 19 = .ok (.dup, 1) := by decide +kernel
theorem dX4_init_20 : decode cX4_init 20 = .ok (.invokespecial 9, 3) := by decide +kernel
theorem dX4_init_23 : decode cX4_init 23 = .ok (.putfield 16, 3) := by decide +kernel
theorem dX4_init_26 : decode cX4_init 26 = .ok (.aload_n 0, 1) := by decide +kernel
theorem dX4_init_27 : decode cX4_init 27 = .ok (.new 7, 3) := by decide +kernel
theorem dX4_init_30 : decode cX4_init 30 = .ok (.dup, 1) := by decide +kernel
theorem dX4_init_31 : decode cX4_init 31 = .ok (.invokespecial 9, 3) := by decide +kernel
theorem dX4_init_34 : decode cX4_init 34 = .ok (.putfield 19, 3) := by decide +kernel
theorem dX4_init_37 : decode cX4_init 37 = .ok (.aload_n 0, 1) := by decide +kernel
theorem dX4_init_38 : decode cX4_init 38 = .ok (.iconst 0, 1) := by decide +kernel
theorem dX4_init_39 : decode cX4_init 39 = .ok (.putfield 22, 3) := by decide +kernel
theorem dX4_init_42 : decode cX4_init 42 = .ok (.aload_n 0, 1) := by decide +kernel
theorem dX4_init_43 : decode cX4_init 43 = .ok (.iconst 4, 1) := by decide +kernel
theorem dX4_init_44 : decode cX4_init 44 = .ok (.anewarray 26, 3) := by decide +kernel
theorem dX4_init_47 : decode cX4_init 47 = .ok (.putfield 28, 3) := by decide +kernel
theorem dX4_init_50 : decode cX4_init 50 = .ok (.aload_n 0, 1) := by decide +kernel
theorem dX4_init_51 : decode cX4_init 51 = .ok (.new 32, 3) := by decide +kernel
theorem dX4_init_54 : decode cX4_init 54 = .ok (.dup, 1) := by decide +kernel
theorem dX4_init_55 : decode cX4_init 55 = .ok (.invokespecial 34, 3) := by decide +kernel
theorem dX4_init_58 : decode cX4_init 58 = .ok (.putfield 35, 3) := by decide +kernel
theorem dX4_init_61 : decode cX4_init 61 = .ok (.aload_n 0, 1) := by decide +kernel
theorem dX4_init_62 : decode cX4_init 62 = .ok (.bipush 7, 2) := by decide +kernel
theorem dX4_init_64 : decode cX4_init 64 = .ok (.newarray .int, 2) := by decide +kernel
theorem dX4_init_66 : decode cX4_init 66 = .ok (.putfield 39, 3) := by decide +kernel
theorem dX4_init_69 : decode cX4_init 69 = .ok (.aload_n 0, 1) := by decide +kernel
theorem dX4_init_70 : decode cX4_init 70 = .ok (.iconst 5, 1) := by decide +kernel
theorem dX4_init_71 : decode cX4_init 71 = .ok (.newarray .long, 2) := by decide +kernel
theorem dX4_init_73 : decode cX4_init 73 = .ok (.putfield 43, 3) := by decide +kernel
theorem dX4_init_76 : decode cX4_init 76 = .ok (.iconst 0, 1) := by decide +kernel
theorem dX4_init_77 : decode cX4_init 77 = .ok (.istore_n 1, 1) := by decide +kernel
theorem dX4_init_78 : decode cX4_init 78 = .ok (.iload_n 1, 1) := by decide +kernel
theorem dX4_init_79 : decode cX4_init 79 = .ok (.iconst 4, 1) := by decide +kernel
theorem dX4_init_80 : decode cX4_init 80 = .ok (.if_icmp .ge 22, 3) := by decide +kernel
theorem dX4_init_83 : decode cX4_init 83 = .ok (.aload_n 0, 1) := by decide +kernel
theorem dX4_init_84 : decode cX4_init 84 = .ok (.getfield 28, 3) := by decide +kernel
theorem dX4_init_87 : decode cX4_init 87 = .ok (.iload_n 1, 1) := by decide +kernel
theorem dX4_init_88 : decode cX4_init 88 = .ok (.new 26, 3) := by decide +kernel
theorem dX4_init_91 : decode cX4_init 91 = .ok (.dup, 1) := by decide +kernel
theorem dX4_init_92 : decode cX4_init 92 = .ok (.invokespecial 47, 3) := by decide +kernel
theorem dX4_init_95 : decode cX4_init 95 = .ok (.aastore, 1) := by decide +kernel
theorem dX4_init_96 : decode cX4_init 96 = .ok (.iinc 1 1, 3) := by decide +kernel
theorem dX4_init_99 : decode cX4_init 99 = .ok (.goto (-21), 3) := by decide +kernel
theorem dX4_init_102 : decode cX4_init 102 = .ok (.return_, 1) := by decide +kernel
theorem dX4_jar_0 : decode cX4_jar 0 = .ok (.iload_n 1, 1) := by decide +kernel
theorem dX4_jar_1 : decode cX4_jar 1 = .ok (.invokestatic 48, 3) := by decide +kernel
theorem dX4_jar_4 : decode cX4_jar 4 = .ok (.ifCond .eq 13, 3) := by decide +kernel
theorem dX4_jar_7 : decode cX4_jar 7 = .ok (.iload_n 2, 1) := by decide +kernel
theorem dX4_jar_8 : decode cX4_jar 8 = .ok (.sipush 999, 3) := by decide +kernel
theorem dX4_jar_11 : decode cX4_jar 11 = .ok (.invokestatic 52, 3) := by decide +kernel
theorem dX4_jar_14 : decode cX4_jar 14 = .ok (.ifCond .ne 9, 3) := by decide +kernel
theorem dX4_jar_17 : decode cX4_jar 17 = .ok (.aload_n 0, 1) := by decide +kernel
theorem dX4_jar_18 : decode cX4_jar 18 = .ok (.iconst 0, 1) := by decide +kernel
theorem dX4_jar_19 : decode cX4_jar 19 = .ok (.invokevirtual 56, 3) := by decide +kernel
theorem dX4_jar_22 : decode cX4_jar 22 = .ok (.ireturn, 1) := by decide +kernel
theorem dX4_jar_23 : decode cX4_jar 23 = .ok (.aload_n 0, 1) := by decide +kernel
theorem dX4_jar_24 : decode cX4_jar 24 = .ok (.getfield 10, 3) := by decide +kernel
theorem dX4_jar_27 : decode cX4_jar 27 = .ok (.getfield 60, 3) := by decide +kernel
theorem dX4_jar_30 : decode cX4_jar 30 = .ok (.iload_n 1, 1) := by decide +kernel
theorem dX4_jar_31 : decode cX4_jar 31 = .ok (.iaload, 1) := by decide +kernel
theorem dX4_jar_32 : decode cX4_jar 32 = .ok (.istore_n 3, 1) := by decide +kernel
theorem dX4_jar_33 : decode cX4_jar 33 = .ok (.aload_n 0, 1) := by decide +kernel
theorem dX4_jar_34 : decode cX4_jar 34 = .ok (.getfield 10, 3) := by decide +kernel
theorem dX4_jar_37 : decode cX4_jar 37 = .ok (.getfield 60, 3) := by decide +kernel
theorem dX4_jar_40 : decode cX4_jar 40 = .ok (.iload_n 1, 1) := by decide +kernel
theorem dX4_jar_41 : decode cX4_jar 41 = .ok (.iload_n 2, 1) := by decide +kernel
theorem dX4_jar_42 : decode cX4_jar 42 = .ok (.iastore, 1) := by decide +kernel
theorem dX4_jar_43 : decode cX4_jar 43 = .ok (.iload_n 3, 1) := by decide +kernel
theorem dX4_jar_44 : decode cX4_jar 44 = .ok (.ireturn, 1) := by decide +kernel
theorem dX4_bones_0 : decode cX4_bones 0 = .ok (.iload_n 1, 1) := by decide +kernel
theorem dX4_bones_1 : decode cX4_bones 1 = .ok (.invokestatic 48, 3) := by decide +kernel
theorem dX4_bones_4 : decode cX4_bones 4 = .ok (.ifCond .eq 15, 3) := by decide +kernel
theorem dX4_bones_7 : decode cX4_bones 7 = .ok (.aload_n 0, 1) := by decide +kernel
theorem dX4_bones_8 : decode cX4_bones 8 = .ok (.getfield 10, 3) := by decide +kernel
theorem dX4_bones_11 : decode cX4_bones 11 = .ok (.getfield 60, 3) := by decide +kernel
theorem dX4_bones_14 : decode cX4_bones 14 = .ok (.iload_n 1, 1) := by decide +kernel
theorem dX4_bones_15 : decode cX4_bones 15 = .ok (.iaload, 1) := by decide +kernel
theorem dX4_bones_16 : decode cX4_bones 16 = .ok (.goto 8, 3) := by decide +kernel
theorem dX4_bones_19 : decode cX4_bones 19 = .ok (.aload_n 0, 1) := by decide +kernel
theorem dX4_bones_20 : decode cX4_bones 20 = .ok (.iconst 0, 1) := by decide +kernel
theorem dX4_bones_21 : decode cX4_bones 21 = .ok (.invokevirtual 56, 3) := by decide +kernel
theorem dX4_bones_24 : decode cX4_bones 24 = .ok (.ireturn, 1) := by decide +kernel
theorem dX4_fish_0 : decode cX4_fish 0 = .ok (.iload_n 1, 1) := by decide +kernel
theorem dX4_fish_1 : decode cX4_fish 1 = .ok (.invokestatic 63, 3) := by decide +kernel
theorem dX4_fish_4 : decode cX4_fish 4 = .ok (.ifCond .eq 30, 3) := by decide +kernel
theorem dX4_fish_7 : decode cX4_fish 7 = .ok (.iload_n 2, 1) := by decide +kernel
theorem dX4_fish_8 : decode cX4_fish 8 = .ok (.iconst 1, 1) := by decide +kernel
theorem dX4_fish_9 : decode cX4_fish 9 = .ok (.invokestatic 52, 3) := by decide +kernel
theorem dX4_fish_12 : decode cX4_fish 12 = .ok (.ifCond .eq 22, 3) := by decide +kernel
theorem dX4_fish_15 : decode cX4_fish 15 = .ok (.iload_n 3, 1) := by decide +kernel
theorem dX4_fish_16 : decode cX4_fish 16 = .ok (.iload_n 2, 1) := by decide +kernel
theorem dX4_fish_17 : decode cX4_fish 17 = .ok (.ifCond .ne 9, 3) := by decide +kernel
theorem dX4_fish_20 : decode cX4_fish 20 = .ok (.sipush 999, 3) := by decide +kernel
theorem dX4_fish_23 : decode cX4_fish 23 = .ok (.goto 5, 3) := by decide +kernel
theorem dX4_fish_26 : decode cX4_fish 26 = .ok (.bipush 20, 2) := by decide +kernel
theorem dX4_fish_28 : decode cX4_fish 28 = .ok (.invokestatic 52, 3) := by decide +kernel
theorem dX4_fish_31 : decode cX4_fish 31 = .ok (.ifCond .ne 9, 3) := by decide +kernel
theorem dX4_fish_34 : decode cX4_fish 34 = .ok (.aload_n 0, 1) := by decide +kernel
theorem dX4_fish_35 : decode cX4_fish 35 = .ok (.iconst 0, 1) := by decide +kernel
theorem dX4_fish_36 : decode cX4_fish 36 = .ok (.invokevirtual 56, 3) := by decide +kernel
theorem dX4_fish_39 : decode cX4_fish 39 = .ok (.ireturn, 1) := by decide +kernel
theorem dX4_fish_40 : decode cX4_fish 40 = .ok (.iload_n 2, 1) := by decide +kernel
theorem dX4_fish_41 : decode cX4_fish 41 = .ok (.ifCond .ne 13, 3) := by decide +kernel
theorem dX4_fish_44 : decode cX4_fish 44 = .ok (.aload_n 0, 1) := by decide +kernel
theorem dX4_fish_45 : decode cX4_fish 45 = .ok (.getfield 10, 3) := by decide +kernel
theorem dX4_fish_48 : decode cX4_fish 48 = .ok (.getfield 66, 3) := by decide +kernel
theorem dX4_fish_51 : decode cX4_fish 51 = .ok (.goto 10, 3) := by decide +kernel
theorem dX4_fish_54 : decode cX4_fish 54 = .ok (.aload_n 0, 1) := by decide +kernel
theorem dX4_fish_55 : decode cX4_fish 55 = .ok (.getfield 10, 3) := by decide +kernel
theorem dX4_fish_58 : decode cX4_fish 58 = .ok (.getfield 69, 3) := by decide +kernel
theorem dX4_fish_61 : decode cX4_fish 61 = .ok (.astore 4, 2) := by decide +kernel
theorem dX4_fish_63 : decode cX4_fish 63 = .ok (.aload 4, 2) := by decide +kernel
theorem dX4_fish_65 : decode cX4_fish 65 = .ok (.iload_n 1, 1) := by decide +kernel
theorem dX4_fish_66 : decode cX4_fish 66 = .ok (.iaload, 1) := by decide +kernel
theorem dX4_fish_67 : decode cX4_fish 67 = .ok (.istore 5, 2) := by decide +kernel
theorem dX4_fish_69 : decode cX4_fish 69 = .ok (.aload 4, 2) := by decide +kernel
theorem dX4_fish_71 : decode cX4_fish 71 = .ok (.iload_n 1, 1) := by decide +kernel
theorem dX4_fish_72 : decode cX4_fish 72 = .ok (.iload_n 3, 1) := by decide +kernel
theorem dX4_fish_73 : decode cX4_fish 73 = .ok (.iastore, 1) := by decide +kernel
theorem dX4_fish_74 : decode cX4_fish 74 = .ok (.iload 5, 2) := by decide +kernel
theorem dX4_fish_76 : decode cX4_fish 76 = .ok (.ireturn, 1) := by decide +kernel
theorem dX4_fishOf_0 : decode cX4_fishOf 0 = .ok (.iload_n 1, 1) := by decide +kernel
theorem dX4_fishOf_1 : decode cX4_fishOf 1 = .ok (.invokestatic 63, 3) := by decide +kernel
theorem dX4_fishOf_4 : decode cX4_fishOf 4 = .ok (.ifCond .eq 11, 3) := by decide +kernel
theorem dX4_fishOf_7 : decode cX4_fishOf 7 = .ok (.iload_n 2, 1) := by decide +kernel
theorem dX4_fishOf_8 : decode cX4_fishOf 8 = .ok (.iconst 2, 1) := by decide +kernel
theorem dX4_fishOf_9 : decode cX4_fishOf 9 = .ok (.invokestatic 52, 3) := by decide +kernel
theorem dX4_fishOf_12 : decode cX4_fishOf 12 = .ok (.ifCond .ne 9, 3) := by decide +kernel
theorem dX4_fishOf_15 : decode cX4_fishOf 15 = .ok (.aload_n 0, 1) := by decide +kernel
theorem dX4_fishOf_16 : decode cX4_fishOf 16 = .ok (.iconst 0, 1) := by decide +kernel
theorem dX4_fishOf_17 : decode cX4_fishOf 17 = .ok (.invokevirtual 56, 3) := by decide +kernel
theorem dX4_fishOf_20 : decode cX4_fishOf 20 = .ok (.ireturn, 1) := by decide +kernel
theorem dX4_fishOf_21 : decode cX4_fishOf 21 = .ok (.iload_n 2, 1) := by decide +kernel
theorem dX4_fishOf_22 : decode cX4_fishOf 22 = .ok (.ifCond .ne 13, 3) := by decide +kernel
theorem dX4_fishOf_25 : decode cX4_fishOf 25 = .ok (.aload_n 0, 1) := by decide +kernel
theorem dX4_fishOf_26 : decode cX4_fishOf 26 = .ok (.getfield 10, 3) := by decide +kernel
theorem dX4_fishOf_29 : decode cX4_fishOf 29 = .ok (.getfield 66, 3) := by decide +kernel
theorem dX4_fishOf_32 : decode cX4_fishOf 32 = .ok (.iload_n 1, 1) := by decide +kernel
theorem dX4_fishOf_33 : decode cX4_fishOf 33 = .ok (.iaload, 1) := by decide +kernel
theorem dX4_fishOf_34 : decode cX4_fishOf 34 = .ok (.ireturn, 1) := by decide +kernel
theorem dX4_fishOf_35 : decode cX4_fishOf 35 = .ok (.iload_n 2, 1) := by decide +kernel
theorem dX4_fishOf_36 : decode cX4_fishOf 36 = .ok (.iconst 1, 1) := by decide +kernel
theorem dX4_fishOf_37 : decode cX4_fishOf 37 = .ok (.if_icmp .ne 15, 3) := by decide +kernel
theorem dX4_fishOf_40 : decode cX4_fishOf 40 = .ok (.aload_n 0, 1) := by decide +kernel
theorem dX4_fishOf_41 : decode cX4_fishOf 41 = .ok (.getfield 10, 3) := by decide +kernel
theorem dX4_fishOf_44 : decode cX4_fishOf 44 = .ok (.getfield 69, 3) := by decide +kernel
theorem dX4_fishOf_47 : decode cX4_fishOf 47 = .ok (.iload_n 1, 1) := by decide +kernel
theorem dX4_fishOf_48 : decode cX4_fishOf 48 = .ok (.iaload, 1) := by decide +kernel
theorem dX4_fishOf_49 : decode cX4_fishOf 49 = .ok (.goto 18, 3) := by decide +kernel
theorem dX4_fishOf_52 : decode cX4_fishOf 52 = .ok (.aload_n 0, 1) := by decide +kernel
theorem dX4_fishOf_53 : decode cX4_fishOf 53 = .ok (.getfield 10, 3) := by decide +kernel
theorem dX4_fishOf_56 : decode cX4_fishOf 56 = .ok (.getfield 66, 3) := by decide +kernel
theorem dX4_fishOf_59 : decode cX4_fishOf 59 = .ok (.iload_n 1, 1) := by decide +kernel
theorem dX4_fishOf_60 : decode cX4_fishOf 60 = .ok (.iaload, 1) := by decide +kernel
theorem dX4_fishOf_61 : decode cX4_fishOf 61 = .ok (.invokestatic 72, 3) := by decide +kernel
theorem dX4_fishOf_64 : decode cX4_fishOf 64 = .ok (.invokestatic 75, 3) := by decide +kernel
theorem dX4_fishOf_67 : decode cX4_fishOf 67 = .ok (.ireturn, 1) := by decide +kernel
theorem dX4_writer_0 : decode cX4_writer 0 = .ok (.iload_n 1, 1) := by decide +kernel
theorem dX4_writer_1 : decode cX4_writer 1 = .ok (.invokestatic 80, 3) := by decide +kernel
theorem dX4_writer_4 : decode cX4_writer 4 = .ok (.ifCond .eq 13, 3) := by decide +kernel
theorem dX4_writer_7 : decode cX4_writer 7 = .ok (.iload_n 2, 1) := by decide +kernel
theorem dX4_writer_8 : decode cX4_writer 8 = .ok (.sipush 9999, 3) := by decide +kernel
theorem dX4_writer_11 : decode cX4_writer 11 = .ok (.invokestatic 52, 3) := by decide +kernel
theorem dX4_writer_14 : decode cX4_writer 14 = .ok (.ifCond .ne 9, 3) := by decide +kernel
theorem dX4_writer_17 : decode cX4_writer 17 = .ok (.aload_n 0, 1) := by decide +kernel
theorem dX4_writer_18 : decode cX4_writer 18 = .ok (.iconst 0, 1) := by decide +kernel
theorem dX4_writer_19 : decode cX4_writer 19 = .ok (.invokevirtual 56, 3) := by decide +kernel
theorem dX4_writer_22 : decode cX4_writer 22 = .ok (.ireturn, 1) := by decide +kernel
theorem dX4_writer_23 : decode cX4_writer 23 = .ok (.aload_n 0, 1) := by decide +kernel
theorem dX4_writer_24 : decode cX4_writer 24 = .ok (.getfield 10, 3) := by decide +kernel
theorem dX4_writer_27 : decode cX4_writer 27 = .ok (.invokevirtual 85, 3) := by decide +kernel
theorem dX4_writer_30 : decode cX4_writer 30 = .ok (.ifCond .eq 9, 3) := by decide +kernel
theorem dX4_writer_33 : decode cX4_writer 33 = .ok (.aload_n 0, 1) := by decide +kernel
theorem dX4_writer_34 : decode cX4_writer 34 = .ok (.iconst 1, 1) := by decide +kernel
theorem dX4_writer_35 : decode cX4_writer 35 = .ok (.invokevirtual 56, 3) := by decide +kernel
theorem dX4_writer_38 : decode cX4_writer 38 = .ok (.ireturn, 1) := by decide +kernel
theorem dX4_writer_39 : decode cX4_writer 39 = .ok (.aload_n 0, 1) := by decide +kernel
theorem dX4_writer_40 : decode cX4_writer 40 = .ok (.getfield 10, 3) := by decide +kernel
theorem dX4_writer_43 : decode cX4_writer 43 = .ok (.iload_n 1, 1) := by decide +kernel
theorem dX4_writer_44 : decode cX4_writer 44 = .ok (.iload_n 2, 1) := by decide +kernel
theorem dX4_writer_45 : decode cX4_writer 45 = .ok (.bipush 30, 2) := by decide +kernel
theorem dX4_writer_47 : decode cX4_writer 47 = .ok (.invokevirtual 89, 3) := by decide +kernel
theorem dX4_writer_50 : decode cX4_writer 50 = .ok (.ireturn, 1) := by decide +kernel
theorem dX4_of_0 : decode cX4_of 0 = .ok (.aload_n 0, 1) := by decide +kernel
theorem dX4_of_1 : decode cX4_of 1 = .ok (.iload_n 1, 1) := by decide +kernel
theorem dX4_of_2 : decode cX4_of 2 = .ok (.invokevirtual 93, 3) := by decide +kernel
theorem dX4_of_5 : decode cX4_of 5 = .ok (.ifCond .eq 12, 3) := by decide +kernel
theorem dX4_of_8 : decode cX4_of 8 = .ok (.iload_n 2, 1) := by decide +kernel
theorem dX4_of_9 : decode cX4_of 9 = .ok (.bipush 7, 2) := by decide +kernel
theorem dX4_of_11 : decode cX4_of 11 = .ok (.invokestatic 52, 3) := by decide +kernel
theorem dX4_of_14 : decode cX4_of 14 = .ok (.ifCond .ne 9, 3) := by decide +kernel
theorem dX4_of_17 : decode cX4_of 17 = .ok (.aload_n 0, 1) := by decide +kernel
theorem dX4_of_18 : decode cX4_of 18 = .ok (.iconst 0, 1) := by decide +kernel
theorem dX4_of_19 : decode cX4_of 19 = .ok (.invokevirtual 56, 3) := by decide +kernel
theorem dX4_of_22 : decode cX4_of 22 = .ok (.ireturn, 1) := by decide +kernel
theorem dX4_of_23 : decode cX4_of 23 = .ok (.iload_n 2, 1) := by decide +kernel
theorem dX4_of_24 : decode cX4_of 24 = .ok (.tableswitch 55 5 7 #[28, 37, 46], 28) := by decide +kernel
theorem dX4_of_52 : decode cX4_of 52 = .ok (.aload_n 0, 1) := by decide +kernel
theorem dX4_of_53 : decode cX4_of 53 = .ok (.getfield 10, 3) := by decide +kernel
theorem dX4_of_56 : decode cX4_of 56 = .ok (.iload_n 1, 1) := by decide +kernel
theorem dX4_of_57 : decode cX4_of 57 = .ok (.invokevirtual 96, 3) := by decide +kernel
theorem dX4_of_60 : decode cX4_of 60 = .ok (.ireturn, 1) := by decide +kernel
theorem dX4_of_61 : decode cX4_of 61 = .ok (.aload_n 0, 1) := by decide +kernel
theorem dX4_of_62 : decode cX4_of 62 = .ok (.getfield 10, 3) := by decide +kernel
theorem dX4_of_65 : decode cX4_of 65 = .ok (.iload_n 1, 1) := by decide +kernel
theorem dX4_of_66 : decode cX4_of 66 = .ok (.invokevirtual 99, 3) := by decide +kernel
theorem dX4_of_69 : decode cX4_of 69 = .ok (.ireturn, 1) := by decide +kernel
theorem dX4_of_70 : decode cX4_of 70 = .ok (.aload_n 0, 1) := by decide +kernel
theorem dX4_of_71 : decode cX4_of 71 = .ok (.getfield 10, 3) := by decide +kernel
theorem dX4_of_74 : decode cX4_of 74 = .ok (.iload_n 1, 1) := by decide +kernel
theorem dX4_of_75 : decode cX4_of 75 = .ok (.invokevirtual 102, 3) := by decide +kernel
theorem dX4_of_78 : decode cX4_of 78 = .ok (.ireturn, 1) := by decide +kernel
theorem dX4_of_79 : decode cX4_of 79 = .ok (.aload_n 0, 1) := by decide +kernel
theorem dX4_of_80 : decode cX4_of 80 = .ok (.getfield 10, 3) := by decide +kernel
theorem dX4_of_83 : decode cX4_of 83 = .ok (.iload_n 2, 1) := by decide +kernel
theorem dX4_of_84 : decode cX4_of 84 = .ok (.invokevirtual 105, 3) := by decide +kernel
theorem dX4_of_87 : decode cX4_of 87 = .ok (.iload_n 1, 1) := by decide +kernel
theorem dX4_of_88 : decode cX4_of 88 = .ok (.iaload, 1) := by decide +kernel
theorem dX4_of_89 : decode cX4_of 89 = .ok (.ireturn, 1) := by decide +kernel
theorem dX4_change_0 : decode cX4_change 0 = .ok (.aload_n 0, 1) := by decide +kernel
theorem dX4_change_1 : decode cX4_change 1 = .ok (.iload_n 1, 1) := by decide +kernel
theorem dX4_change_2 : decode cX4_change 2 = .ok (.invokevirtual 93, 3) := by decide +kernel
theorem dX4_change_5 : decode cX4_change 5 = .ok (.ifCond .eq 23, 3) := by decide +kernel
theorem dX4_change_8 : decode cX4_change 8 = .ok (.iload_n 2, 1) := by decide +kernel
theorem dX4_change_9 : decode cX4_change 9 = .ok (.iconst 4, 1) := by decide +kernel
theorem dX4_change_10 : decode cX4_change 10 = .ok (.invokestatic 52, 3) := by decide +kernel
theorem dX4_change_13 : decode cX4_change 13 = .ok (.ifCond .eq 15, 3) := by decide +kernel
theorem dX4_change_16 : decode cX4_change 16 = .ok (.iload_n 3, 1) := by decide +kernel
theorem dX4_change_17 : decode cX4_change 17 = .ok (.getstatic 109, 3) := by decide +kernel
theorem dX4_change_20 : decode cX4_change 20 = .ok (.iload_n 2, 1) := by decide +kernel
theorem dX4_change_21 : decode cX4_change 21 = .ok (.iaload, 1) := by decide +kernel
theorem dX4_change_22 : decode cX4_change 22 = .ok (.invokestatic 52, 3) := by decide +kernel
theorem dX4_change_25 : decode cX4_change 25 = .ok (.ifCond .ne 9, 3) := by decide +kernel
theorem dX4_change_28 : decode cX4_change 28 = .ok (.aload_n 0, 1) := by decide +kernel
theorem dX4_change_29 : decode cX4_change 29 = .ok (.iconst 0, 1) := by decide +kernel
theorem dX4_change_30 : decode cX4_change 30 = .ok (.invokevirtual 56, 3) := by decide +kernel
theorem dX4_change_33 : decode cX4_change 33 = .ok (.ireturn, 1) := by decide +kernel
theorem dX4_change_34 : decode cX4_change 34 = .ok (.aload_n 0, 1) := by decide +kernel
theorem dX4_change_35 : decode cX4_change 35 = .ok (.getfield 10, 3) := by decide +kernel
theorem dX4_change_38 : decode cX4_change 38 = .ok (.iload_n 2, 1) := by decide +kernel
theorem dX4_change_39 : decode cX4_change 39 = .ok (.invokevirtual 105, 3) := by decide +kernel
theorem dX4_change_42 : decode cX4_change 42 = .ok (.astore 4, 2) := by decide +kernel
theorem dX4_change_44 : decode cX4_change 44 = .ok (.aload 4, 2) := by decide +kernel
theorem dX4_change_46 : decode cX4_change 46 = .ok (.iload_n 1, 1) := by decide +kernel
theorem dX4_change_47 : decode cX4_change 47 = .ok (.iaload, 1) := by decide +kernel
theorem dX4_change_48 : decode cX4_change 48 = .ok (.istore 5, 2) := by decide +kernel
theorem dX4_change_50 : decode cX4_change 50 = .ok (.aload 4, 2) := by decide +kernel
theorem dX4_change_52 : decode cX4_change 52 = .ok (.iload_n 1, 1) := by decide +kernel
theorem dX4_change_53 : decode cX4_change 53 = .ok (.iload_n 3, 1) := by decide +kernel
theorem dX4_change_54 : decode cX4_change 54 = .ok (.iastore, 1) := by decide +kernel
theorem dX4_change_55 : decode cX4_change 55 = .ok (.iload 5, 2) := by decide +kernel
theorem dX4_change_57 : decode cX4_change 57 = .ok (.ireturn, 1) := by decide +kernel
theorem dX4_keeps_0 : decode cX4_keeps 0 = .ok (.aload_n 0, 1) := by decide +kernel
theorem dX4_keeps_1 : decode cX4_keeps 1 = .ok (.iload_n 1, 1) := by decide +kernel
theorem dX4_keeps_2 : decode cX4_keeps 2 = .ok (.invokevirtual 93, 3) := by decide +kernel
theorem dX4_keeps_5 : decode cX4_keeps 5 = .ok (.ifCond .eq 10, 3) := by decide +kernel
theorem dX4_keeps_8 : decode cX4_keeps 8 = .ok (.iload_n 2, 1) := by decide +kernel
theorem dX4_keeps_9 : decode cX4_keeps 9 = .ok (.invokestatic 63, 3) := by decide +kernel
theorem dX4_keeps_12 : decode cX4_keeps 12 = .ok (.ifCond .ne 9, 3) := by decide +kernel
theorem dX4_keeps_15 : decode cX4_keeps 15 = .ok (.aload_n 0, 1) := by decide +kernel
theorem dX4_keeps_16 : decode cX4_keeps 16 = .ok (.iconst 0, 1) := by decide +kernel
theorem dX4_keeps_17 : decode cX4_keeps 17 = .ok (.invokevirtual 56, 3) := by decide +kernel
theorem dX4_keeps_20 : decode cX4_keeps 20 = .ok (.ireturn, 1) := by decide +kernel
theorem dX4_keeps_21 : decode cX4_keeps 21 = .ok (.iconst 0, 1) := by decide +kernel
theorem dX4_keeps_22 : decode cX4_keeps 22 = .ok (.istore_n 3, 1) := by decide +kernel
theorem dX4_keeps_23 : decode cX4_keeps 23 = .ok (.iconst 0, 1) := by decide +kernel
theorem dX4_keeps_24 : decode cX4_keeps 24 = .ok (.istore 4, 2) := by decide +kernel
theorem dX4_keeps_26 : decode cX4_keeps 26 = .ok (.iload 4, 2) := by decide +kernel
theorem dX4_keeps_28 : decode cX4_keeps 28 = .ok (.iconst 3, 1) := by decide +kernel
theorem dX4_keeps_29 : decode cX4_keeps 29 = .ok (.if_icmp .ge 51, 3) := by decide +kernel
theorem dX4_keeps_32 : decode cX4_keeps 32 = .ok (.aload_n 0, 1) := by decide +kernel
theorem dX4_keeps_33 : decode cX4_keeps 33 = .ok (.getfield 10, 3) := by decide +kernel
theorem dX4_keeps_36 : decode cX4_keeps 36 = .ok (.getfield 66, 3) := by decide +kernel
theorem dX4_keeps_39 : decode cX4_keeps 39 = .ok (.iload_n 2, 1) := by decide +kernel
theorem dX4_keeps_40 : decode cX4_keeps 40 = .ok (.iaload, 1) := by decide +kernel
theorem dX4_keeps_41 : decode cX4_keeps 41 = .ok (.iload 4, 2) := by decide +kernel
theorem dX4_keeps_43 : decode cX4_keeps 43 = .ok (.invokestatic 112, 3) := by decide +kernel
theorem dX4_keeps_46 : decode cX4_keeps 46 = .ok (.istore 5, 2) := by decide +kernel
theorem dX4_keeps_48 : decode cX4_keeps 48 = .ok (.aload_n 0, 1) := by decide +kernel
theorem dX4_keeps_49 : decode cX4_keeps 49 = .ok (.getfield 10, 3) := by decide +kernel
theorem dX4_keeps_52 : decode cX4_keeps 52 = .ok (.getfield 116, 3) := by decide +kernel
theorem dX4_keeps_55 : decode cX4_keeps 55 = .ok (.iload_n 1, 1) := by decide +kernel
theorem dX4_keeps_56 : decode cX4_keeps 56 = .ok (.iaload, 1) := by decide +kernel
theorem dX4_keeps_57 : decode cX4_keeps 57 = .ok (.iload 4, 2) := by decide +kernel
theorem dX4_keeps_59 : decode cX4_keeps 59 = .ok (.iload 5, 2) := by decide +kernel
theorem dX4_keeps_61 : decode cX4_keeps 61 = .ok (.invokestatic 119, 3) := by decide +kernel
theorem dX4_keeps_64 : decode cX4_keeps 64 = .ok (.ifCond .eq 10, 3) := by decide +kernel
theorem dX4_keeps_67 : decode cX4_keeps 67 = .ok (.iload_n 3, 1) := by decide +kernel
theorem dX4_keeps_68 : decode cX4_keeps 68 = .ok (.iconst 1, 1) := by decide +kernel
theorem dX4_keeps_69 : decode cX4_keeps 69 = .ok (.iload 5, 2) := by decide +kernel
theorem dX4_keeps_71 : decode cX4_keeps 71 = .ok (.ishl, 1) := by decide +kernel
theorem dX4_keeps_72 : decode cX4_keeps 72 = .ok (.ior, 1) := by decide +kernel
theorem dX4_keeps_73 : decode cX4_keeps 73 = .ok (.istore_n 3, 1) := by decide +kernel
theorem dX4_keeps_74 : decode cX4_keeps 74 = .ok (.iinc 4 1, 3) := by decide +kernel
theorem dX4_keeps_77 : decode cX4_keeps 77 = .ok (.goto (-51), 3) := by decide +kernel
theorem dX4_keeps_80 : decode cX4_keeps 80 = .ok (.iload_n 3, 1) := by decide +kernel
theorem dX4_keeps_81 : decode cX4_keeps 81 = .ok (.ireturn, 1) := by decide +kernel
theorem dX4_spells_0 : decode cX4_spells 0 = .ok (.iload_n 1, 1) := by decide +kernel
theorem dX4_spells_1 : decode cX4_spells 1 = .ok (.sipush 9999, 3) := by decide +kernel
theorem dX4_spells_4 : decode cX4_spells 4 = .ok (.invokestatic 52, 3) := by decide +kernel
theorem dX4_spells_7 : decode cX4_spells 7 = .ok (.ifCond .ne 9, 3) := by decide +kernel
theorem dX4_spells_10 : decode cX4_spells 10 = .ok (.aload_n 0, 1) := by decide +kernel
theorem dX4_spells_11 : decode cX4_spells 11 = .ok (.iconst 0, 1) := by decide +kernel
theorem dX4_spells_12 : decode cX4_spells 12 = .ok (.invokevirtual 56, 3) := by decide +kernel
theorem dX4_spells_15 : decode cX4_spells 15 = .ok (.ireturn, 1) := by decide +kernel
theorem dX4_spells_16 : decode cX4_spells 16 = .ok (.sipush 999, 3) := by decide +kernel
theorem dX4_spells_19 : decode cX4_spells 19 = .ok (.istore_n 2, 1) := by decide +kernel
theorem dX4_spells_20 : decode cX4_spells 20 = .ok (.iconst 0, 1) := by decide +kernel
theorem dX4_spells_21 : decode cX4_spells 21 = .ok (.istore_n 3, 1) := by decide +kernel
theorem dX4_spells_22 : decode cX4_spells 22 = .ok (.iload_n 3, 1) := by decide +kernel
theorem dX4_spells_23 : decode cX4_spells 23 = .ok (.iconst 4, 1) := by decide +kernel
theorem dX4_spells_24 : decode cX4_spells 24 = .ok (.if_icmp .ge 42, 3) := by decide +kernel
theorem dX4_spells_27 : decode cX4_spells 27 = .ok (.iload_n 1, 1) := by decide +kernel
theorem dX4_spells_28 : decode cX4_spells 28 = .ok (.iload_n 3, 1) := by decide +kernel
theorem dX4_spells_29 : decode cX4_spells 29 = .ok (.invokestatic 122, 3) := by decide +kernel
theorem dX4_spells_32 : decode cX4_spells 32 = .ok (.istore 4, 2) := by decide +kernel
theorem dX4_spells_34 : decode cX4_spells 34 = .ok (.iload_n 2, 1) := by decide +kernel
theorem dX4_spells_35 : decode cX4_spells 35 = .ok (.aload_n 0, 1) := by decide +kernel
theorem dX4_spells_36 : decode cX4_spells 36 = .ok (.getfield 10, 3) := by decide +kernel
theorem dX4_spells_39 : decode cX4_spells 39 = .ok (.getfield 60, 3) := by decide +kernel
theorem dX4_spells_42 : decode cX4_spells 42 = .ok (.iload 4, 2) := by decide +kernel
theorem dX4_spells_44 : decode cX4_spells 44 = .ok (.iaload, 1) := by decide +kernel
theorem dX4_spells_45 : decode cX4_spells 45 = .ok (.iconst 1, 1) := by decide +kernel
theorem dX4_spells_46 : decode cX4_spells 46 = .ok (.iload 4, 2) := by decide +kernel
theorem dX4_spells_48 : decode cX4_spells 48 = .ok (.iload_n 1, 1) := by decide +kernel
theorem dX4_spells_49 : decode cX4_spells 49 = .ok (.invokestatic 125, 3) := by decide +kernel
theorem dX4_spells_52 : decode cX4_spells 52 = .ok (.invokestatic 128, 3) := by decide +kernel
theorem dX4_spells_55 : decode cX4_spells 55 = .ok (.idiv, 1) := by decide +kernel
theorem dX4_spells_56 : decode cX4_spells 56 = .ok (.invokestatic 133, 3) := by decide +kernel
theorem dX4_spells_59 : decode cX4_spells 59 = .ok (.istore_n 2, 1) := by decide +kernel
theorem dX4_spells_60 : decode cX4_spells 60 = .ok (.iinc 3 1, 3) := by decide +kernel
theorem dX4_spells_63 : decode cX4_spells 63 = .ok (.goto (-41), 3) := by decide +kernel
theorem dX4_spells_66 : decode cX4_spells 66 = .ok (.iload_n 2, 1) := by decide +kernel
theorem dX4_spells_67 : decode cX4_spells 67 = .ok (.ireturn, 1) := by decide +kernel
theorem dX4_go_0 : decode cX4_go 0 = .ok (.iload_n 1, 1) := by decide +kernel
theorem dX4_go_1 : decode cX4_go 1 = .ok (.iconst 1, 1) := by decide +kernel
theorem dX4_go_2 : decode cX4_go 2 = .ok (.if_icmp .lt 9, 3) := by decide +kernel
theorem dX4_go_5 : decode cX4_go 5 = .ok (.iload_n 1, 1) := by decide +kernel
theorem dX4_go_6 : decode cX4_go 6 = .ok (.bipush 60, 2) := by decide +kernel
theorem dX4_go_8 : decode cX4_go 8 = .ok (.if_icmp .le 9, 3) := by decide +kernel
theorem dX4_go_11 : decode cX4_go 11 = .ok (.aload_n 0, 1) := by decide +kernel
theorem dX4_go_12 : decode cX4_go 12 = .ok (.iconst 0, 1) := by decide +kernel
theorem dX4_go_13 : decode cX4_go 13 = .ok (.invokevirtual 56, 3) := by decide +kernel
theorem dX4_go_16 : decode cX4_go 16 = .ok (.ireturn, 1) := by decide +kernel
theorem dX4_go_17 : decode cX4_go 17 = .ok (.aload_n 0, 1) := by decide +kernel
theorem dX4_go_18 : decode cX4_go 18 = .ok (.getfield 10, 3) := by decide +kernel
theorem dX4_go_21 : decode cX4_go 21 = .ok (.getfield 136, 3) := by decide +kernel
theorem dX4_go_24 : decode cX4_go 24 = .ok (.ldc 140, 2) := by decide +kernel
theorem dX4_go_26 : decode cX4_go 26 = .ok (.iload_n 1, 1) := by decide +kernel
theorem dX4_go_27 : decode cX4_go 27 = .ok (.isub, 1) := by decide +kernel
theorem dX4_go_28 : decode cX4_go 28 = .ok (.if_icmp .le 9, 3) := by decide +kernel
theorem dX4_go_31 : decode cX4_go 31 = .ok (.aload_n 0, 1) := by decide +kernel
theorem dX4_go_32 : decode cX4_go 32 = .ok (.iconst 4, 1) := by decide +kernel
theorem dX4_go_33 : decode cX4_go 33 = .ok (.invokevirtual 56, 3) := by decide +kernel
theorem dX4_go_36 : decode cX4_go 36 = .ok (.ireturn, 1) := by decide +kernel
theorem dX4_go_37 : decode cX4_go 37 = .ok (.aload_n 0, 1) := by decide +kernel
theorem dX4_go_38 : decode cX4_go 38 = .ok (.getfield 10, 3) := by decide +kernel
theorem dX4_go_41 : decode cX4_go 41 = .ok (.iload_n 1, 1) := by decide +kernel
theorem dX4_go_42 : decode cX4_go 42 = .ok (.iconst 0, 1) := by decide +kernel
theorem dX4_go_43 : decode cX4_go 43 = .ok (.invokevirtual 141, 3) := by decide +kernel
theorem dX4_go_46 : decode cX4_go 46 = .ok (.aload_n 0, 1) := by decide +kernel
theorem dX4_go_47 : decode cX4_go 47 = .ok (.getfield 10, 3) := by decide +kernel
theorem dX4_go_50 : decode cX4_go 50 = .ok (.iconst 4, 1) := by decide +kernel
theorem dX4_go_51 : decode cX4_go 51 = .ok (.invokevirtual 145, 3) := by decide +kernel
theorem dX4_go_54 : decode cX4_go 54 = .ok (.ireturn, 1) := by decide +kernel
theorem dX4_now_0 : decode cX4_now 0 = .ok (.iload_n 1, 1) := by decide +kernel
theorem dX4_now_1 : decode cX4_now 1 = .ok (.tableswitch 101 0 6 #[43, 51, 60, 68, 77, 85, 93], 43) := by decide +kernel
theorem dX4_now_44 : decode cX4_now 44 = .ok (.aload_n 0, 1) := by decide +kernel
theorem dX4_now_45 : decode cX4_now 45 = .ok (.getfield 10, 3) := by decide +kernel
theorem dX4_now_48 : decode cX4_now 48 = .ok (.getfield 136, 3) := by decide +kernel
theorem dX4_now_51 : decode cX4_now 51 = .ok (.ireturn, 1) := by decide +kernel
theorem dX4_now_52 : decode cX4_now 52 = .ok (.aload_n 0, 1) := by decide +kernel
theorem dX4_now_53 : decode cX4_now 53 = .ok (.getfield 10, 3) := by decide +kernel
theorem dX4_now_56 : decode cX4_now 56 = .ok (.iconst 4, 1) := by decide +kernel
theorem dX4_now_57 : decode cX4_now 57 = .ok (.invokevirtual 145, 3) := by decide +kernel
theorem dX4_now_60 : decode cX4_now 60 = .ok (.ireturn, 1) := by decide +kernel
theorem dX4_now_61 : decode cX4_now 61 = .ok (.aload_n 0, 1) := by decide +kernel
theorem dX4_now_62 : decode cX4_now 62 = .ok (.getfield 10, 3) := by decide +kernel
theorem dX4_now_65 : decode cX4_now 65 = .ok (.invokevirtual 148, 3) := by decide +kernel
theorem dX4_now_68 : decode cX4_now 68 = .ok (.ireturn, 1) := by decide +kernel
theorem dX4_now_69 : decode cX4_now 69 = .ok (.aload_n 0, 1) := by decide +kernel
theorem dX4_now_70 : decode cX4_now 70 = .ok (.getfield 10, 3) := by decide +kernel
theorem dX4_now_73 : decode cX4_now 73 = .ok (.iconst 3, 1) := by decide +kernel
theorem dX4_now_74 : decode cX4_now 74 = .ok (.invokevirtual 145, 3) := by decide +kernel
theorem dX4_now_77 : decode cX4_now 77 = .ok (.ireturn, 1) := by decide +kernel
theorem dX4_now_78 : decode cX4_now 78 = .ok (.aload_n 0, 1) := by decide +kernel
theorem dX4_now_79 : decode cX4_now 79 = .ok (.getfield 10, 3) := by decide +kernel
theorem dX4_now_82 : decode cX4_now 82 = .ok (.invokevirtual 152, 3) := by decide +kernel
theorem dX4_now_85 : decode cX4_now 85 = .ok (.ireturn, 1) := by decide +kernel
theorem dX4_now_86 : decode cX4_now 86 = .ok (.aload_n 0, 1) := by decide +kernel
theorem dX4_now_87 : decode cX4_now 87 = .ok (.getfield 10, 3) := by decide +kernel
theorem dX4_now_90 : decode cX4_now 90 = .ok (.invokevirtual 155, 3) := by decide +kernel
theorem dX4_now_93 : decode cX4_now 93 = .ok (.ireturn, 1) := by decide +kernel
theorem dX4_now_94 : decode cX4_now 94 = .ok (.aload_n 0, 1) := by decide +kernel
theorem dX4_now_95 : decode cX4_now 95 = .ok (.getfield 10, 3) := by decide +kernel
theorem dX4_now_98 : decode cX4_now 98 = .ok (.invokevirtual 158, 3) := by decide +kernel
theorem dX4_now_101 : decode cX4_now 101 = .ok (.ireturn, 1) := by decide +kernel
theorem dX4_now_102 : decode cX4_now 102 = .ok (.aload_n 0, 1) := by decide +kernel
theorem dX4_now_103 : decode cX4_now 103 = .ok (.iconst 0, 1) := by decide +kernel
theorem dX4_now_104 : decode cX4_now 104 = .ok (.invokevirtual 56, 3) := by decide +kernel
theorem dX4_now_107 : decode cX4_now 107 = .ok (.ireturn, 1) := by decide +kernel
theorem dX4_ahead_0 : decode cX4_ahead 0 = .ok (.aload_n 0, 1) := by decide +kernel
theorem dX4_ahead_1 : decode cX4_ahead 1 = .ok (.iload_n 1, 1) := by decide +kernel
theorem dX4_ahead_2 : decode cX4_ahead 2 = .ok (.invokevirtual 93, 3) := by decide +kernel
theorem dX4_ahead_5 : decode cX4_ahead 5 = .ok (.ifCond .eq 22, 3) := by decide +kernel
theorem dX4_ahead_8 : decode cX4_ahead 8 = .ok (.iload_n 2, 1) := by decide +kernel
theorem dX4_ahead_9 : decode cX4_ahead 9 = .ok (.iconst 2, 1) := by decide +kernel
theorem dX4_ahead_10 : decode cX4_ahead 10 = .ok (.if_icmp .lt 17, 3) := by decide +kernel
theorem dX4_ahead_13 : decode cX4_ahead 13 = .ok (.iload_n 2, 1) := by decide +kernel
theorem dX4_ahead_14 : decode cX4_ahead 14 = .ok (.iconst 4, 1) := by decide +kernel
theorem dX4_ahead_15 : decode cX4_ahead 15 = .ok (.if_icmp .gt 12, 3) := by decide +kernel
theorem dX4_ahead_18 : decode cX4_ahead 18 = .ok (.iload_n 3, 1) := by decide +kernel
theorem dX4_ahead_19 : decode cX4_ahead 19 = .ok (.bipush 100, 2) := by decide +kernel
theorem dX4_ahead_21 : decode cX4_ahead 21 = .ok (.invokestatic 52, 3) := by decide +kernel
theorem dX4_ahead_24 : decode cX4_ahead 24 = .ok (.ifCond .ne 9, 3) := by decide +kernel
theorem dX4_ahead_27 : decode cX4_ahead 27 = .ok (.aload_n 0, 1) := by decide +kernel
theorem dX4_ahead_28 : decode cX4_ahead 28 = .ok (.iconst 0, 1) := by decide +kernel
theorem dX4_ahead_29 : decode cX4_ahead 29 = .ok (.invokevirtual 56, 3) := by decide +kernel
theorem dX4_ahead_32 : decode cX4_ahead 32 = .ok (.ireturn, 1) := by decide +kernel
theorem dX4_ahead_33 : decode cX4_ahead 33 = .ok (.aload_n 0, 1) := by decide +kernel
theorem dX4_ahead_34 : decode cX4_ahead 34 = .ok (.getfield 16, 3) := by decide +kernel
theorem dX4_ahead_37 : decode cX4_ahead 37 = .ok (.aload_n 0, 1) := by decide +kernel
theorem dX4_ahead_38 : decode cX4_ahead 38 = .ok (.getfield 10, 3) := by decide +kernel
theorem dX4_ahead_41 : decode cX4_ahead 41 = .ok (.invokevirtual 161, 3) := by decide +kernel
theorem dX4_ahead_44 : decode cX4_ahead 44 = .ok (.aload_n 0, 1) := by decide +kernel
theorem dX4_ahead_45 : decode cX4_ahead 45 = .ok (.getfield 16, 3) := by decide +kernel
theorem dX4_ahead_48 : decode cX4_ahead 48 = .ok (.iload_n 3, 1) := by decide +kernel
theorem dX4_ahead_49 : decode cX4_ahead 49 = .ok (.iconst 0, 1) := by decide +kernel
theorem dX4_ahead_50 : decode cX4_ahead 50 = .ok (.invokevirtual 141, 3) := by decide +kernel
theorem dX4_ahead_53 : decode cX4_ahead 53 = .ok (.aload_n 0, 1) := by decide +kernel
theorem dX4_ahead_54 : decode cX4_ahead 54 = .ok (.getfield 16, 3) := by decide +kernel
theorem dX4_ahead_57 : decode cX4_ahead 57 = .ok (.iload_n 2, 1) := by decide +kernel
theorem dX4_ahead_58 : decode cX4_ahead 58 = .ok (.invokevirtual 105, 3) := by decide +kernel
theorem dX4_ahead_61 : decode cX4_ahead 61 = .ok (.iload_n 1, 1) := by decide +kernel
theorem dX4_ahead_62 : decode cX4_ahead 62 = .ok (.iaload, 1) := by decide +kernel
theorem dX4_ahead_63 : decode cX4_ahead 63 = .ok (.ireturn, 1) := by decide +kernel
theorem dX4_later_0 : decode cX4_later 0 = .ok (.iload_n 1, 1) := by decide +kernel
theorem dX4_later_1 : decode cX4_later 1 = .ok (.invokestatic 48, 3) := by decide +kernel
theorem dX4_later_4 : decode cX4_later 4 = .ok (.ifCond .eq 12, 3) := by decide +kernel
theorem dX4_later_7 : decode cX4_later 7 = .ok (.iload_n 2, 1) := by decide +kernel
theorem dX4_later_8 : decode cX4_later 8 = .ok (.bipush 100, 2) := by decide +kernel
theorem dX4_later_10 : decode cX4_later 10 = .ok (.invokestatic 52, 3) := by decide +kernel
theorem dX4_later_13 : decode cX4_later 13 = .ok (.ifCond .ne 9, 3) := by decide +kernel
theorem dX4_later_16 : decode cX4_later 16 = .ok (.aload_n 0, 1) := by decide +kernel
theorem dX4_later_17 : decode cX4_later 17 = .ok (.iconst 0, 1) := by decide +kernel
theorem dX4_later_18 : decode cX4_later 18 = .ok (.invokevirtual 56, 3) := by decide +kernel
theorem dX4_later_21 : decode cX4_later 21 = .ok (.ireturn, 1) := by decide +kernel
theorem dX4_later_22 : decode cX4_later 22 = .ok (.aload_n 0, 1) := by decide +kernel
theorem dX4_later_23 : decode cX4_later 23 = .ok (.getfield 16, 3) := by decide +kernel
theorem dX4_later_26 : decode cX4_later 26 = .ok (.aload_n 0, 1) := by decide +kernel
theorem dX4_later_27 : decode cX4_later 27 = .ok (.getfield 10, 3) := by decide +kernel
theorem dX4_later_30 : decode cX4_later 30 = .ok (.invokevirtual 161, 3) := by decide +kernel
theorem dX4_later_33 : decode cX4_later 33 = .ok (.aload_n 0, 1) := by decide +kernel
theorem dX4_later_34 : decode cX4_later 34 = .ok (.getfield 16, 3) := by decide +kernel
theorem dX4_later_37 : decode cX4_later 37 = .ok (.iload_n 2, 1) := by decide +kernel
theorem dX4_later_38 : decode cX4_later 38 = .ok (.iconst 0, 1) := by decide +kernel
theorem dX4_later_39 : decode cX4_later 39 = .ok (.invokevirtual 141, 3) := by decide +kernel
theorem dX4_later_42 : decode cX4_later 42 = .ok (.aload_n 0, 1) := by decide +kernel
theorem dX4_later_43 : decode cX4_later 43 = .ok (.getfield 16, 3) := by decide +kernel
theorem dX4_later_46 : decode cX4_later 46 = .ok (.getfield 60, 3) := by decide +kernel
theorem dX4_later_49 : decode cX4_later 49 = .ok (.iload_n 1, 1) := by decide +kernel
theorem dX4_later_50 : decode cX4_later 50 = .ok (.iaload, 1) := by decide +kernel
theorem dX4_later_51 : decode cX4_later 51 = .ok (.ireturn, 1) := by decide +kernel
theorem dX4_when_0 : decode cX4_when 0 = .ok (.aload_n 0, 1) := by decide +kernel
theorem dX4_when_1 : decode cX4_when 1 = .ok (.iload_n 1, 1) := by decide +kernel
theorem dX4_when_2 : decode cX4_when 2 = .ok (.invokevirtual 93, 3) := by decide +kernel
theorem dX4_when_5 : decode cX4_when 5 = .ok (.ifCond .eq 13, 3) := by decide +kernel
theorem dX4_when_8 : decode cX4_when 8 = .ok (.iload_n 2, 1) := by decide +kernel
theorem dX4_when_9 : decode cX4_when 9 = .ok (.sipush 9999, 3) := by decide +kernel
theorem dX4_when_12 : decode cX4_when 12 = .ok (.invokestatic 52, 3) := by decide +kernel
theorem dX4_when_15 : decode cX4_when 15 = .ok (.ifCond .ne 9, 3) := by decide +kernel
theorem dX4_when_18 : decode cX4_when 18 = .ok (.aload_n 0, 1) := by decide +kernel
theorem dX4_when_19 : decode cX4_when 19 = .ok (.iconst 0, 1) := by decide +kernel
theorem dX4_when_20 : decode cX4_when 20 = .ok (.invokevirtual 56, 3) := by decide +kernel
theorem dX4_when_23 : decode cX4_when 23 = .ok (.ireturn, 1) := by decide +kernel
theorem dX4_when_24 : decode cX4_when 24 = .ok (.aload_n 0, 1) := by decide +kernel
theorem dX4_when_25 : decode cX4_when 25 = .ok (.getfield 16, 3) := by decide +kernel
theorem dX4_when_28 : decode cX4_when 28 = .ok (.aload_n 0, 1) := by decide +kernel
theorem dX4_when_29 : decode cX4_when 29 = .ok (.getfield 10, 3) := by decide +kernel
theorem dX4_when_32 : decode cX4_when 32 = .ok (.invokevirtual 161, 3) := by decide +kernel
theorem dX4_when_35 : decode cX4_when 35 = .ok (.iconst 0, 1) := by decide +kernel
theorem dX4_when_36 : decode cX4_when 36 = .ok (.istore_n 3, 1) := by decide +kernel
theorem dX4_when_37 : decode cX4_when 37 = .ok (.iload_n 3, 1) := by decide +kernel
theorem dX4_when_38 : decode cX4_when 38 = .ok (.bipush 100, 2) := by decide +kernel
theorem dX4_when_40 : decode cX4_when 40 = .ok (.if_icmp .gt 32, 3) := by decide +kernel
theorem dX4_when_43 : decode cX4_when 43 = .ok (.aload_n 0, 1) := by decide +kernel
theorem dX4_when_44 : decode cX4_when 44 = .ok (.getfield 16, 3) := by decide +kernel
theorem dX4_when_47 : decode cX4_when 47 = .ok (.getfield 165, 3) := by decide +kernel
theorem dX4_when_50 : decode cX4_when 50 = .ok (.iload_n 1, 1) := by decide +kernel
theorem dX4_when_51 : decode cX4_when 51 = .ok (.iaload, 1) := by decide +kernel
theorem dX4_when_52 : decode cX4_when 52 = .ok (.iload_n 2, 1) := by decide +kernel
theorem dX4_when_53 : decode cX4_when 53 = .ok (.if_icmp .lt 5, 3) := by decide +kernel
theorem dX4_when_56 : decode cX4_when 56 = .ok (.iload_n 3, 1) := by decide +kernel
theorem dX4_when_57 : decode cX4_when 57 = .ok (.ireturn, 1) := by decide +kernel
theorem dX4_when_58 : decode cX4_when 58 = .ok (.aload_n 0, 1) := by decide +kernel
theorem dX4_when_59 : decode cX4_when 59 = .ok (.getfield 16, 3) := by decide +kernel
theorem dX4_when_62 : decode cX4_when 62 = .ok (.iconst 0, 1) := by decide +kernel
theorem dX4_when_63 : decode cX4_when 63 = .ok (.invokevirtual 168, 3) := by decide +kernel
theorem dX4_when_66 : decode cX4_when 66 = .ok (.iinc 3 1, 3) := by decide +kernel
theorem dX4_when_69 : decode cX4_when 69 = .ok (.goto (-32), 3) := by decide +kernel
theorem dX4_when_72 : decode cX4_when 72 = .ok (.aload_n 0, 1) := by decide +kernel
theorem dX4_when_73 : decode cX4_when 73 = .ok (.iconst 3, 1) := by decide +kernel
theorem dX4_when_74 : decode cX4_when 74 = .ok (.invokevirtual 56, 3) := by decide +kernel
theorem dX4_when_77 : decode cX4_when 77 = .ok (.ireturn, 1) := by decide +kernel
theorem dX4_starves_0 : decode cX4_starves 0 = .ok (.aload_n 0, 1) := by decide +kernel
theorem dX4_starves_1 : decode cX4_starves 1 = .ok (.iload_n 1, 1) := by decide +kernel
theorem dX4_starves_2 : decode cX4_starves 2 = .ok (.invokevirtual 93, 3) := by decide +kernel
theorem dX4_starves_5 : decode cX4_starves 5 = .ok (.ifCond .ne 9, 3) := by decide +kernel
theorem dX4_starves_8 : decode cX4_starves 8 = .ok (.aload_n 0, 1) := by decide +kernel
theorem dX4_starves_9 : decode cX4_starves 9 = .ok (.iconst 0, 1) := by decide +kernel
theorem dX4_starves_10 : decode cX4_starves 10 = .ok (.invokevirtual 56, 3) := by decide +kernel
theorem dX4_starves_13 : decode cX4_starves 13 = .ok (.ireturn, 1) := by decide +kernel
theorem dX4_starves_14 : decode cX4_starves 14 = .ok (.aload_n 0, 1) := by decide +kernel
theorem dX4_starves_15 : decode cX4_starves 15 = .ok (.aload_n 0, 1) := by decide +kernel
theorem dX4_starves_16 : decode cX4_starves 16 = .ok (.getfield 16, 3) := by decide +kernel
theorem dX4_starves_19 : decode cX4_starves 19 = .ok (.getfield 172, 3) := by decide +kernel
theorem dX4_starves_22 : decode cX4_starves 22 = .ok (.iload_n 1, 1) := by decide +kernel
theorem dX4_starves_23 : decode cX4_starves 23 = .ok (.invokevirtual 175, 3) := by decide +kernel
theorem dX4_starves_26 : decode cX4_starves 26 = .ok (.ireturn, 1) := by decide +kernel
theorem dX4_out_0 : decode cX4_out 0 = .ok (.iload_n 1, 1) := by decide +kernel
theorem dX4_out_1 : decode cX4_out 1 = .ok (.invokestatic 48, 3) := by decide +kernel
theorem dX4_out_4 : decode cX4_out 4 = .ok (.ifCond .ne 9, 3) := by decide +kernel
theorem dX4_out_7 : decode cX4_out 7 = .ok (.aload_n 0, 1) := by decide +kernel
theorem dX4_out_8 : decode cX4_out 8 = .ok (.iconst 0, 1) := by decide +kernel
theorem dX4_out_9 : decode cX4_out 9 = .ok (.invokevirtual 56, 3) := by decide +kernel
theorem dX4_out_12 : decode cX4_out 12 = .ok (.ireturn, 1) := by decide +kernel
theorem dX4_out_13 : decode cX4_out 13 = .ok (.aload_n 0, 1) := by decide +kernel
theorem dX4_out_14 : decode cX4_out 14 = .ok (.aload_n 0, 1) := by decide +kernel
theorem dX4_out_15 : decode cX4_out 15 = .ok (.getfield 16, 3) := by decide +kernel
theorem dX4_out_18 : decode cX4_out 18 = .ok (.getfield 60, 3) := by decide +kernel
theorem dX4_out_21 : decode cX4_out 21 = .ok (.iload_n 1, 1) := by decide +kernel
theorem dX4_out_22 : decode cX4_out 22 = .ok (.invokevirtual 175, 3) := by decide +kernel
theorem dX4_out_25 : decode cX4_out 25 = .ok (.ireturn, 1) := by decide +kernel
theorem dX4_daysUntilNone_0 : decode cX4_daysUntilNone 0 = .ok (.aload_n 0, 1) := by decide +kernel
theorem dX4_daysUntilNone_1 : decode cX4_daysUntilNone 1 = .ok (.getfield 16, 3) := by decide +kernel
theorem dX4_daysUntilNone_4 : decode cX4_daysUntilNone 4 = .ok (.aload_n 0, 1) := by decide +kernel
theorem dX4_daysUntilNone_5 : decode cX4_daysUntilNone 5 = .ok (.getfield 10, 3) := by decide +kernel
theorem dX4_daysUntilNone_8 : decode cX4_daysUntilNone 8 = .ok (.invokevirtual 161, 3) := by decide +kernel
theorem dX4_daysUntilNone_11 : decode cX4_daysUntilNone 11 = .ok (.iconst 0, 1) := by decide +kernel
theorem dX4_daysUntilNone_12 : decode cX4_daysUntilNone 12 = .ok (.istore_n 3, 1) := by decide +kernel
theorem dX4_daysUntilNone_13 : decode cX4_daysUntilNone 13 = .ok (.iload_n 3, 1) := by decide +kernel
theorem dX4_daysUntilNone_14 : decode cX4_daysUntilNone 14 = .ok (.bipush 100, 2) := by decide +kernel
theorem dX4_daysUntilNone_16 : decode cX4_daysUntilNone 16 = .ok (.if_icmp .gt 25, 3) := by decide +kernel
theorem dX4_daysUntilNone_19 : decode cX4_daysUntilNone 19 = .ok (.aload_n 1, 1) := by decide +kernel
theorem dX4_daysUntilNone_20 : decode cX4_daysUntilNone 20 = .ok (.iload_n 2, 1) := by decide +kernel
theorem dX4_daysUntilNone_21 : decode cX4_daysUntilNone 21 = .ok (.iaload, 1) := by decide +kernel
theorem dX4_daysUntilNone_22 : decode cX4_daysUntilNone 22 = .ok (.ifCond .ne 5, 3) := by decide +kernel
theorem dX4_daysUntilNone_25 : decode cX4_daysUntilNone 25 = .ok (.iload_n 3, 1) := by decide +kernel
theorem dX4_daysUntilNone_26 : decode cX4_daysUntilNone 26 = .ok (.ireturn, 1) := by decide +kernel
theorem dX4_daysUntilNone_27 : decode cX4_daysUntilNone 27 = .ok (.aload_n 0, 1) := by decide +kernel
theorem dX4_daysUntilNone_28 : decode cX4_daysUntilNone 28 = .ok (.getfield 16, 3) := by decide +kernel
theorem dX4_daysUntilNone_31 : decode cX4_daysUntilNone 31 = .ok (.iconst 0, 1) := by decide +kernel
theorem dX4_daysUntilNone_32 : decode cX4_daysUntilNone 32 = .ok (.invokevirtual 168, 3) := by decide +kernel
theorem dX4_daysUntilNone_35 : decode cX4_daysUntilNone 35 = .ok (.iinc 3 1, 3) := by decide +kernel
theorem dX4_daysUntilNone_38 : decode cX4_daysUntilNone 38 = .ok (.goto (-25), 3) := by decide +kernel
theorem dX4_daysUntilNone_41 : decode cX4_daysUntilNone 41 = .ok (.aload_n 0, 1) := by decide +kernel
theorem dX4_daysUntilNone_42 : decode cX4_daysUntilNone 42 = .ok (.iconst 3, 1) := by decide +kernel
theorem dX4_daysUntilNone_43 : decode cX4_daysUntilNone 43 = .ok (.invokevirtual 56, 3) := by decide +kernel
theorem dX4_daysUntilNone_46 : decode cX4_daysUntilNone 46 = .ok (.ireturn, 1) := by decide +kernel
theorem dX4_catchFor_0 : decode cX4_catchFor 0 = .ok (.iload_n 1, 1) := by decide +kernel
theorem dX4_catchFor_1 : decode cX4_catchFor 1 = .ok (.bipush 40, 2) := by decide +kernel
theorem dX4_catchFor_3 : decode cX4_catchFor 3 = .ok (.invokestatic 52, 3) := by decide +kernel
theorem dX4_catchFor_6 : decode cX4_catchFor 6 = .ok (.ifCond .ne 9, 3) := by decide +kernel
theorem dX4_catchFor_9 : decode cX4_catchFor 9 = .ok (.aload_n 0, 1) := by decide +kernel
theorem dX4_catchFor_10 : decode cX4_catchFor 10 = .ok (.iconst 0, 1) := by decide +kernel
theorem dX4_catchFor_11 : decode cX4_catchFor 11 = .ok (.invokevirtual 56, 3) := by decide +kernel
theorem dX4_catchFor_14 : decode cX4_catchFor 14 = .ok (.ireturn, 1) := by decide +kernel
theorem dX4_catchFor_15 : decode cX4_catchFor 15 = .ok (.iconst 0, 1) := by decide +kernel
theorem dX4_catchFor_16 : decode cX4_catchFor 16 = .ok (.istore_n 2, 1) := by decide +kernel
theorem dX4_catchFor_17 : decode cX4_catchFor 17 = .ok (.iconst (-1), 1) := by decide +kernel
theorem dX4_catchFor_18 : decode cX4_catchFor 18 = .ok (.istore_n 3, 1) := by decide +kernel
theorem dX4_catchFor_19 : decode cX4_catchFor 19 = .ok (.iconst 0, 1) := by decide +kernel
theorem dX4_catchFor_20 : decode cX4_catchFor 20 = .ok (.istore 4, 2) := by decide +kernel
theorem dX4_catchFor_22 : decode cX4_catchFor 22 = .ok (.iload 4, 2) := by decide +kernel
theorem dX4_catchFor_24 : decode cX4_catchFor 24 = .ok (.bipush 6, 2) := by decide +kernel
theorem dX4_catchFor_26 : decode cX4_catchFor 26 = .ok (.if_icmp .ge 63, 3) := by decide +kernel
theorem dX4_catchFor_29 : decode cX4_catchFor 29 = .ok (.aload_n 0, 1) := by decide +kernel
theorem dX4_catchFor_30 : decode cX4_catchFor 30 = .ok (.getfield 16, 3) := by decide +kernel
theorem dX4_catchFor_33 : decode cX4_catchFor 33 = .ok (.aload_n 0, 1) := by decide +kernel
theorem dX4_catchFor_34 : decode cX4_catchFor 34 = .ok (.getfield 10, 3) := by decide +kernel
theorem dX4_catchFor_37 : decode cX4_catchFor 37 = .ok (.invokevirtual 161, 3) := by decide +kernel
theorem dX4_catchFor_40 : decode cX4_catchFor 40 = .ok (.aload_n 0, 1) := by decide +kernel
theorem dX4_catchFor_41 : decode cX4_catchFor 41 = .ok (.getfield 16, 3) := by decide +kernel
theorem dX4_catchFor_44 : decode cX4_catchFor 44 = .ok (.getfield 69, 3) := by decide +kernel
theorem dX4_catchFor_47 : decode cX4_catchFor 47 = .ok (.iload 4, 2) := by decide +kernel
theorem dX4_catchFor_49 : decode cX4_catchFor 49 = .ok (.bipush 20, 2) := by decide +kernel
theorem dX4_catchFor_51 : decode cX4_catchFor 51 = .ok (.iastore, 1) := by decide +kernel
theorem dX4_catchFor_52 : decode cX4_catchFor 52 = .ok (.aload_n 0, 1) := by decide +kernel
theorem dX4_catchFor_53 : decode cX4_catchFor 53 = .ok (.getfield 16, 3) := by decide +kernel
theorem dX4_catchFor_56 : decode cX4_catchFor 56 = .ok (.iload_n 1, 1) := by decide +kernel
theorem dX4_catchFor_57 : decode cX4_catchFor 57 = .ok (.iconst 0, 1) := by decide +kernel
theorem dX4_catchFor_58 : decode cX4_catchFor 58 = .ok (.invokevirtual 141, 3) := by decide +kernel
theorem dX4_catchFor_61 : decode cX4_catchFor 61 = .ok (.aload_n 0, 1) := by decide +kernel
theorem dX4_catchFor_62 : decode cX4_catchFor 62 = .ok (.getfield 16, 3) := by decide +kernel
theorem dX4_catchFor_65 : decode cX4_catchFor 65 = .ok (.iconst 4, 1) := by decide +kernel
theorem dX4_catchFor_66 : decode cX4_catchFor 66 = .ok (.invokevirtual 145, 3) := by decide +kernel
theorem dX4_catchFor_69 : decode cX4_catchFor 69 = .ok (.istore 5, 2) := by decide +kernel
theorem dX4_catchFor_71 : decode cX4_catchFor 71 = .ok (.iload 5, 2) := by decide +kernel
theorem dX4_catchFor_73 : decode cX4_catchFor 73 = .ok (.iload_n 3, 1) := by decide +kernel
theorem dX4_catchFor_74 : decode cX4_catchFor 74 = .ok (.if_icmp .le 9, 3) := by decide +kernel
theorem dX4_catchFor_77 : decode cX4_catchFor 77 = .ok (.iload 5, 2) := by decide +kernel
theorem dX4_catchFor_79 : decode cX4_catchFor 79 = .ok (.istore_n 3, 1) := by decide +kernel
theorem dX4_catchFor_80 : decode cX4_catchFor 80 = .ok (.iload 4, 2) := by decide +kernel
theorem dX4_catchFor_82 : decode cX4_catchFor 82 = .ok (.istore_n 2, 1) := by decide +kernel
theorem dX4_catchFor_83 : decode cX4_catchFor 83 = .ok (.iinc 4 1, 3) := by decide +kernel
theorem dX4_catchFor_86 : decode cX4_catchFor 86 = .ok (.goto (-64), 3) := by decide +kernel
theorem dX4_catchFor_89 : decode cX4_catchFor 89 = .ok (.iload_n 2, 1) := by decide +kernel
theorem dX4_catchFor_90 : decode cX4_catchFor 90 = .ok (.ireturn, 1) := by decide +kernel
theorem dX4_fewest_0 : decode cX4_fewest 0 = .ok (.iload_n 1, 1) := by decide +kernel
theorem dX4_fewest_1 : decode cX4_fewest 1 = .ok (.invokestatic 63, 3) := by decide +kernel
theorem dX4_fewest_4 : decode cX4_fewest 4 = .ok (.ifCond .eq 31, 3) := by decide +kernel
theorem dX4_fewest_7 : decode cX4_fewest 7 = .ok (.aload_n 0, 1) := by decide +kernel
theorem dX4_fewest_8 : decode cX4_fewest 8 = .ok (.iload_n 2, 1) := by decide +kernel
theorem dX4_fewest_9 : decode cX4_fewest 9 = .ok (.invokevirtual 93, 3) := by decide +kernel
theorem dX4_fewest_12 : decode cX4_fewest 12 = .ok (.ifCond .eq 23, 3) := by decide +kernel
theorem dX4_fewest_15 : decode cX4_fewest 15 = .ok (.iload_n 3, 1) := by decide +kernel
theorem dX4_fewest_16 : decode cX4_fewest 16 = .ok (.sipush 9999, 3) := by decide +kernel
theorem dX4_fewest_19 : decode cX4_fewest 19 = .ok (.invokestatic 52, 3) := by decide +kernel
theorem dX4_fewest_22 : decode cX4_fewest 22 = .ok (.ifCond .eq 13, 3) := by decide +kernel
theorem dX4_fewest_25 : decode cX4_fewest 25 = .ok (.iload 4, 2) := by decide +kernel
theorem dX4_fewest_27 : decode cX4_fewest 27 = .ok (.bipush 40, 2) := by decide +kernel
theorem dX4_fewest_29 : decode cX4_fewest 29 = .ok (.invokestatic 52, 3) := by decide +kernel
theorem dX4_fewest_32 : decode cX4_fewest 32 = .ok (.ifCond .ne 9, 3) := by decide +kernel
theorem dX4_fewest_35 : decode cX4_fewest 35 = .ok (.aload_n 0, 1) := by decide +kernel
theorem dX4_fewest_36 : decode cX4_fewest 36 = .ok (.iconst 0, 1) := by decide +kernel
theorem dX4_fewest_37 : decode cX4_fewest 37 = .ok (.invokevirtual 56, 3) := by decide +kernel
theorem dX4_fewest_40 : decode cX4_fewest 40 = .ok (.ireturn, 1) := by decide +kernel
theorem dX4_fewest_41 : decode cX4_fewest 41 = .ok (.iconst 0, 1) := by decide +kernel
theorem dX4_fewest_42 : decode cX4_fewest 42 = .ok (.istore 5, 2) := by decide +kernel
theorem dX4_fewest_44 : decode cX4_fewest 44 = .ok (.iload 5, 2) := by decide +kernel
theorem dX4_fewest_46 : decode cX4_fewest 46 = .ok (.bipush 20, 2) := by decide +kernel
theorem dX4_fewest_48 : decode cX4_fewest 48 = .ok (.if_icmp .gt 57, 3) := by decide +kernel
theorem dX4_fewest_51 : decode cX4_fewest 51 = .ok (.aload_n 0, 1) := by decide +kernel
theorem dX4_fewest_52 : decode cX4_fewest 52 = .ok (.getfield 16, 3) := by decide +kernel
theorem dX4_fewest_55 : decode cX4_fewest 55 = .ok (.aload_n 0, 1) := by decide +kernel
theorem dX4_fewest_56 : decode cX4_fewest 56 = .ok (.getfield 10, 3) := by decide +kernel
theorem dX4_fewest_59 : decode cX4_fewest 59 = .ok (.invokevirtual 161, 3) := by decide +kernel
theorem dX4_fewest_62 : decode cX4_fewest 62 = .ok (.aload_n 0, 1) := by decide +kernel
theorem dX4_fewest_63 : decode cX4_fewest 63 = .ok (.getfield 16, 3) := by decide +kernel
theorem dX4_fewest_66 : decode cX4_fewest 66 = .ok (.getfield 69, 3) := by decide +kernel
theorem dX4_fewest_69 : decode cX4_fewest 69 = .ok (.iload_n 1, 1) := by decide +kernel
theorem dX4_fewest_70 : decode cX4_fewest 70 = .ok (.iload 5, 2) := by decide +kernel
theorem dX4_fewest_72 : decode cX4_fewest 72 = .ok (.iastore, 1) := by decide +kernel
theorem dX4_fewest_73 : decode cX4_fewest 73 = .ok (.aload_n 0, 1) := by decide +kernel
theorem dX4_fewest_74 : decode cX4_fewest 74 = .ok (.getfield 16, 3) := by decide +kernel
theorem dX4_fewest_77 : decode cX4_fewest 77 = .ok (.iload 4, 2) := by decide +kernel
theorem dX4_fewest_79 : decode cX4_fewest 79 = .ok (.iconst 0, 1) := by decide +kernel
theorem dX4_fewest_80 : decode cX4_fewest 80 = .ok (.invokevirtual 141, 3) := by decide +kernel
theorem dX4_fewest_83 : decode cX4_fewest 83 = .ok (.aload_n 0, 1) := by decide +kernel
theorem dX4_fewest_84 : decode cX4_fewest 84 = .ok (.getfield 16, 3) := by decide +kernel
theorem dX4_fewest_87 : decode cX4_fewest 87 = .ok (.getfield 165, 3) := by decide +kernel
theorem dX4_fewest_90 : decode cX4_fewest 90 = .ok (.iload_n 2, 1) := by decide +kernel
theorem dX4_fewest_91 : decode cX4_fewest 91 = .ok (.iaload, 1) := by decide +kernel
theorem dX4_fewest_92 : decode cX4_fewest 92 = .ok (.iload_n 3, 1) := by decide +kernel
theorem dX4_fewest_93 : decode cX4_fewest 93 = .ok (.if_icmp .lt 6, 3) := by decide +kernel
theorem dX4_fewest_96 : decode cX4_fewest 96 = .ok (.iload 5, 2) := by decide +kernel
theorem dX4_fewest_98 : decode cX4_fewest 98 = .ok (.ireturn, 1) := by decide +kernel
theorem dX4_fewest_99 : decode cX4_fewest 99 = .ok (.iinc 5 1, 3) := by decide +kernel
theorem dX4_fewest_102 : decode cX4_fewest 102 = .ok (.goto (-58), 3) := by decide +kernel
theorem dX4_fewest_105 : decode cX4_fewest 105 = .ok (.aload_n 0, 1) := by decide +kernel
theorem dX4_fewest_106 : decode cX4_fewest 106 = .ok (.iconst 3, 1) := by decide +kernel
theorem dX4_fewest_107 : decode cX4_fewest 107 = .ok (.invokevirtual 56, 3) := by decide +kernel
theorem dX4_fewest_110 : decode cX4_fewest 110 = .ok (.ireturn, 1) := by decide +kernel
theorem dX4_letterFor_0 : decode cX4_letterFor 0 = .ok (.aload_n 0, 1) := by decide +kernel
theorem dX4_letterFor_1 : decode cX4_letterFor 1 = .ok (.iload_n 1, 1) := by decide +kernel
theorem dX4_letterFor_2 : decode cX4_letterFor 2 = .ok (.invokevirtual 93, 3) := by decide +kernel
theorem dX4_letterFor_5 : decode cX4_letterFor 5 = .ok (.ifCond .eq 12, 3) := by decide +kernel
theorem dX4_letterFor_8 : decode cX4_letterFor 8 = .ok (.iload_n 2, 1) := by decide +kernel
theorem dX4_letterFor_9 : decode cX4_letterFor 9 = .ok (.bipush 40, 2) := by decide +kernel
theorem dX4_letterFor_11 : decode cX4_letterFor 11 = .ok (.invokestatic 52, 3) := by decide +kernel
theorem dX4_letterFor_14 : decode cX4_letterFor 14 = .ok (.ifCond .ne 9, 3) := by decide +kernel
theorem dX4_letterFor_17 : decode cX4_letterFor 17 = .ok (.aload_n 0, 1) := by decide +kernel
theorem dX4_letterFor_18 : decode cX4_letterFor 18 = .ok (.iconst 0, 1) := by decide +kernel
theorem dX4_letterFor_19 : decode cX4_letterFor 19 = .ok (.invokevirtual 56, 3) := by decide +kernel
theorem dX4_letterFor_22 : decode cX4_letterFor 22 = .ok (.ireturn, 1) := by decide +kernel
theorem dX4_letterFor_23 : decode cX4_letterFor 23 = .ok (.iconst 0, 1) := by decide +kernel
theorem dX4_letterFor_24 : decode cX4_letterFor 24 = .ok (.istore_n 3, 1) := by decide +kernel
theorem dX4_letterFor_25 : decode cX4_letterFor 25 = .ok (.iconst (-1), 1) := by decide +kernel
theorem dX4_letterFor_26 : decode cX4_letterFor 26 = .ok (.istore 4, 2) := by decide +kernel
theorem dX4_letterFor_28 : decode cX4_letterFor 28 = .ok (.iconst 0, 1) := by decide +kernel
theorem dX4_letterFor_29 : decode cX4_letterFor 29 = .ok (.istore 5, 2) := by decide +kernel
theorem dX4_letterFor_31 : decode cX4_letterFor 31 = .ok (.iload 5, 2) := by decide +kernel
theorem dX4_letterFor_33 : decode cX4_letterFor 33 = .ok (.bipush 10, 2) := by decide +kernel
theorem dX4_letterFor_35 : decode cX4_letterFor 35 = .ok (.if_icmp .ge 67, 3) := by decide +kernel
theorem dX4_letterFor_38 : decode cX4_letterFor 38 = .ok (.aload_n 0, 1) := by decide +kernel
theorem dX4_letterFor_39 : decode cX4_letterFor 39 = .ok (.getfield 16, 3) := by decide +kernel
theorem dX4_letterFor_42 : decode cX4_letterFor 42 = .ok (.aload_n 0, 1) := by decide +kernel
theorem dX4_letterFor_43 : decode cX4_letterFor 43 = .ok (.getfield 10, 3) := by decide +kernel
theorem dX4_letterFor_46 : decode cX4_letterFor 46 = .ok (.invokevirtual 161, 3) := by decide +kernel
theorem dX4_letterFor_49 : decode cX4_letterFor 49 = .ok (.aload_n 0, 1) := by decide +kernel
theorem dX4_letterFor_50 : decode cX4_letterFor 50 = .ok (.getfield 16, 3) := by decide +kernel
theorem dX4_letterFor_53 : decode cX4_letterFor 53 = .ok (.iload_n 1, 1) := by decide +kernel
theorem dX4_letterFor_54 : decode cX4_letterFor 54 = .ok (.iload 5, 2) := by decide +kernel
theorem dX4_letterFor_56 : decode cX4_letterFor 56 = .ok (.invokevirtual 179, 3) := by decide +kernel
theorem dX4_letterFor_59 : decode cX4_letterFor 59 = .ok (.aload_n 0, 1) := by decide +kernel
theorem dX4_letterFor_60 : decode cX4_letterFor 60 = .ok (.getfield 16, 3) := by decide +kernel
theorem dX4_letterFor_63 : decode cX4_letterFor 63 = .ok (.iload_n 2, 1) := by decide +kernel
theorem dX4_letterFor_64 : decode cX4_letterFor 64 = .ok (.iconst 0, 1) := by decide +kernel
theorem dX4_letterFor_65 : decode cX4_letterFor 65 = .ok (.invokevirtual 141, 3) := by decide +kernel
theorem dX4_letterFor_68 : decode cX4_letterFor 68 = .ok (.aload_n 0, 1) := by decide +kernel
theorem dX4_letterFor_69 : decode cX4_letterFor 69 = .ok (.getfield 16, 3) := by decide +kernel
theorem dX4_letterFor_72 : decode cX4_letterFor 72 = .ok (.getfield 165, 3) := by decide +kernel
theorem dX4_letterFor_75 : decode cX4_letterFor 75 = .ok (.iload_n 1, 1) := by decide +kernel
theorem dX4_letterFor_76 : decode cX4_letterFor 76 = .ok (.iaload, 1) := by decide +kernel
theorem dX4_letterFor_77 : decode cX4_letterFor 77 = .ok (.iload 4, 2) := by decide +kernel
theorem dX4_letterFor_79 : decode cX4_letterFor 79 = .ok (.if_icmp .le 17, 3) := by decide +kernel
theorem dX4_letterFor_82 : decode cX4_letterFor 82 = .ok (.aload_n 0, 1) := by decide +kernel
theorem dX4_letterFor_83 : decode cX4_letterFor 83 = .ok (.getfield 16, 3) := by decide +kernel
theorem dX4_letterFor_86 : decode cX4_letterFor 86 = .ok (.getfield 165, 3) := by decide +kernel
theorem dX4_letterFor_89 : decode cX4_letterFor 89 = .ok (.iload_n 1, 1) := by decide +kernel
theorem dX4_letterFor_90 : decode cX4_letterFor 90 = .ok (.iaload, 1) := by decide +kernel
theorem dX4_letterFor_91 : decode cX4_letterFor 91 = .ok (.istore 4, 2) := by decide +kernel
theorem dX4_letterFor_93 : decode cX4_letterFor 93 = .ok (.iload 5, 2) := by decide +kernel
theorem dX4_letterFor_95 : decode cX4_letterFor 95 = .ok (.istore_n 3, 1) := by decide +kernel
theorem dX4_letterFor_96 : decode cX4_letterFor 96 = .ok (.iinc 5 1, 3) := by decide +kernel
theorem dX4_letterFor_99 : decode cX4_letterFor 99 = .ok (.goto (-68), 3) := by decide +kernel
theorem dX4_letterFor_102 : decode cX4_letterFor 102 = .ok (.iload_n 3, 1) := by decide +kernel
theorem dX4_letterFor_103 : decode cX4_letterFor 103 = .ok (.ireturn, 1) := by decide +kernel
theorem dX4_kindFor_0 : decode cX4_kindFor 0 = .ok (.aload_n 0, 1) := by decide +kernel
theorem dX4_kindFor_1 : decode cX4_kindFor 1 = .ok (.iload_n 1, 1) := by decide +kernel
theorem dX4_kindFor_2 : decode cX4_kindFor 2 = .ok (.invokevirtual 93, 3) := by decide +kernel
theorem dX4_kindFor_5 : decode cX4_kindFor 5 = .ok (.ifCond .eq 12, 3) := by decide +kernel
theorem dX4_kindFor_8 : decode cX4_kindFor 8 = .ok (.iload_n 2, 1) := by decide +kernel
theorem dX4_kindFor_9 : decode cX4_kindFor 9 = .ok (.bipush 40, 2) := by decide +kernel
theorem dX4_kindFor_11 : decode cX4_kindFor 11 = .ok (.invokestatic 52, 3) := by decide +kernel
theorem dX4_kindFor_14 : decode cX4_kindFor 14 = .ok (.ifCond .ne 9, 3) := by decide +kernel
theorem dX4_kindFor_17 : decode cX4_kindFor 17 = .ok (.aload_n 0, 1) := by decide +kernel
theorem dX4_kindFor_18 : decode cX4_kindFor 18 = .ok (.iconst 0, 1) := by decide +kernel
theorem dX4_kindFor_19 : decode cX4_kindFor 19 = .ok (.invokevirtual 56, 3) := by decide +kernel
theorem dX4_kindFor_22 : decode cX4_kindFor 22 = .ok (.ireturn, 1) := by decide +kernel
theorem dX4_kindFor_23 : decode cX4_kindFor 23 = .ok (.iconst 0, 1) := by decide +kernel
theorem dX4_kindFor_24 : decode cX4_kindFor 24 = .ok (.istore_n 3, 1) := by decide +kernel
theorem dX4_kindFor_25 : decode cX4_kindFor 25 = .ok (.iconst (-1), 1) := by decide +kernel
theorem dX4_kindFor_26 : decode cX4_kindFor 26 = .ok (.istore 4, 2) := by decide +kernel
theorem dX4_kindFor_28 : decode cX4_kindFor 28 = .ok (.iconst 0, 1) := by decide +kernel
theorem dX4_kindFor_29 : decode cX4_kindFor 29 = .ok (.istore 5, 2) := by decide +kernel
theorem dX4_kindFor_31 : decode cX4_kindFor 31 = .ok (.iload 5, 2) := by decide +kernel
theorem dX4_kindFor_33 : decode cX4_kindFor 33 = .ok (.bipush 7, 2) := by decide +kernel
theorem dX4_kindFor_35 : decode cX4_kindFor 35 = .ok (.if_icmp .ge 68, 3) := by decide +kernel
theorem dX4_kindFor_38 : decode cX4_kindFor 38 = .ok (.aload_n 0, 1) := by decide +kernel
theorem dX4_kindFor_39 : decode cX4_kindFor 39 = .ok (.getfield 16, 3) := by decide +kernel
theorem dX4_kindFor_42 : decode cX4_kindFor 42 = .ok (.aload_n 0, 1) := by decide +kernel
theorem dX4_kindFor_43 : decode cX4_kindFor 43 = .ok (.getfield 10, 3) := by decide +kernel
theorem dX4_kindFor_46 : decode cX4_kindFor 46 = .ok (.invokevirtual 161, 3) := by decide +kernel
theorem dX4_kindFor_49 : decode cX4_kindFor 49 = .ok (.aload_n 0, 1) := by decide +kernel
theorem dX4_kindFor_50 : decode cX4_kindFor 50 = .ok (.getfield 16, 3) := by decide +kernel
theorem dX4_kindFor_53 : decode cX4_kindFor 53 = .ok (.getfield 116, 3) := by decide +kernel
theorem dX4_kindFor_56 : decode cX4_kindFor 56 = .ok (.iload_n 1, 1) := by decide +kernel
theorem dX4_kindFor_57 : decode cX4_kindFor 57 = .ok (.iload 5, 2) := by decide +kernel
theorem dX4_kindFor_59 : decode cX4_kindFor 59 = .ok (.iastore, 1) := by decide +kernel
theorem dX4_kindFor_60 : decode cX4_kindFor 60 = .ok (.aload_n 0, 1) := by decide +kernel
theorem dX4_kindFor_61 : decode cX4_kindFor 61 = .ok (.getfield 16, 3) := by decide +kernel
theorem dX4_kindFor_64 : decode cX4_kindFor 64 = .ok (.iload_n 2, 1) := by decide +kernel
theorem dX4_kindFor_65 : decode cX4_kindFor 65 = .ok (.iconst 0, 1) := by decide +kernel
theorem dX4_kindFor_66 : decode cX4_kindFor 66 = .ok (.invokevirtual 141, 3) := by decide +kernel
theorem dX4_kindFor_69 : decode cX4_kindFor 69 = .ok (.aload_n 0, 1) := by decide +kernel
theorem dX4_kindFor_70 : decode cX4_kindFor 70 = .ok (.getfield 16, 3) := by decide +kernel
theorem dX4_kindFor_73 : decode cX4_kindFor 73 = .ok (.getfield 165, 3) := by decide +kernel
theorem dX4_kindFor_76 : decode cX4_kindFor 76 = .ok (.iload_n 1, 1) := by decide +kernel
theorem dX4_kindFor_77 : decode cX4_kindFor 77 = .ok (.iaload, 1) := by decide +kernel
theorem dX4_kindFor_78 : decode cX4_kindFor 78 = .ok (.iload 4, 2) := by decide +kernel
theorem dX4_kindFor_80 : decode cX4_kindFor 80 = .ok (.if_icmp .le 17, 3) := by decide +kernel
theorem dX4_kindFor_83 : decode cX4_kindFor 83 = .ok (.aload_n 0, 1) := by decide +kernel
theorem dX4_kindFor_84 : decode cX4_kindFor 84 = .ok (.getfield 16, 3) := by decide +kernel
theorem dX4_kindFor_87 : decode cX4_kindFor 87 = .ok (.getfield 165, 3) := by decide +kernel
theorem dX4_kindFor_90 : decode cX4_kindFor 90 = .ok (.iload_n 1, 1) := by decide +kernel
theorem dX4_kindFor_91 : decode cX4_kindFor 91 = .ok (.iaload, 1) := by decide +kernel
theorem dX4_kindFor_92 : decode cX4_kindFor 92 = .ok (.istore 4, 2) := by decide +kernel
theorem dX4_kindFor_94 : decode cX4_kindFor 94 = .ok (.iload 5, 2) := by decide +kernel
theorem dX4_kindFor_96 : decode cX4_kindFor 96 = .ok (.istore_n 3, 1) := by decide +kernel
theorem dX4_kindFor_97 : decode cX4_kindFor 97 = .ok (.iinc 5 1, 3) := by decide +kernel
theorem dX4_kindFor_100 : decode cX4_kindFor 100 = .ok (.goto (-69), 3) := by decide +kernel
theorem dX4_kindFor_103 : decode cX4_kindFor 103 = .ok (.iload_n 3, 1) := by decide +kernel
theorem dX4_kindFor_104 : decode cX4_kindFor 104 = .ok (.ireturn, 1) := by decide +kernel
theorem dX4_away_0 : decode cX4_away 0 = .ok (.aload_n 0, 1) := by decide +kernel
theorem dX4_away_1 : decode cX4_away 1 = .ok (.iload_n 1, 1) := by decide +kernel
theorem dX4_away_2 : decode cX4_away 2 = .ok (.invokevirtual 93, 3) := by decide +kernel
theorem dX4_away_5 : decode cX4_away 5 = .ok (.ifCond .eq 22, 3) := by decide +kernel
theorem dX4_away_8 : decode cX4_away 8 = .ok (.iload_n 2, 1) := by decide +kernel
theorem dX4_away_9 : decode cX4_away 9 = .ok (.sipush 9999, 3) := by decide +kernel
theorem dX4_away_12 : decode cX4_away 12 = .ok (.invokestatic 52, 3) := by decide +kernel
theorem dX4_away_15 : decode cX4_away 15 = .ok (.ifCond .eq 12, 3) := by decide +kernel
theorem dX4_away_18 : decode cX4_away 18 = .ok (.iload_n 3, 1) := by decide +kernel
theorem dX4_away_19 : decode cX4_away 19 = .ok (.bipush 20, 2) := by decide +kernel
theorem dX4_away_21 : decode cX4_away 21 = .ok (.invokestatic 52, 3) := by decide +kernel
theorem dX4_away_24 : decode cX4_away 24 = .ok (.ifCond .ne 9, 3) := by decide +kernel
theorem dX4_away_27 : decode cX4_away 27 = .ok (.aload_n 0, 1) := by decide +kernel
theorem dX4_away_28 : decode cX4_away 28 = .ok (.iconst 0, 1) := by decide +kernel
theorem dX4_away_29 : decode cX4_away 29 = .ok (.invokevirtual 56, 3) := by decide +kernel
theorem dX4_away_32 : decode cX4_away 32 = .ok (.ireturn, 1) := by decide +kernel
theorem dX4_away_33 : decode cX4_away 33 = .ok (.iconst 1, 1) := by decide +kernel
theorem dX4_away_34 : decode cX4_away 34 = .ok (.aload_n 0, 1) := by decide +kernel
theorem dX4_away_35 : decode cX4_away 35 = .ok (.getfield 10, 3) := by decide +kernel
theorem dX4_away_38 : decode cX4_away 38 = .ok (.getfield 182, 3) := by decide +kernel
theorem dX4_away_41 : decode cX4_away 41 = .ok (.ishl, 1) := by decide +kernel
theorem dX4_away_42 : decode cX4_away 42 = .ok (.istore 4, 2) := by decide +kernel
theorem dX4_away_44 : decode cX4_away 44 = .ok (.iconst 0, 1) := by decide +kernel
theorem dX4_away_45 : decode cX4_away 45 = .ok (.istore 5, 2) := by decide +kernel
theorem dX4_away_47 : decode cX4_away 47 = .ok (.iload 5, 2) := by decide +kernel
theorem dX4_away_49 : decode cX4_away 49 = .ok (.aload_n 0, 1) := by decide +kernel
theorem dX4_away_50 : decode cX4_away 50 = .ok (.getfield 10, 3) := by decide +kernel
theorem dX4_away_53 : decode cX4_away 53 = .ok (.getfield 182, 3) := by decide +kernel
theorem dX4_away_56 : decode cX4_away 56 = .ok (.if_icmp .ge 85, 3) := by decide +kernel
theorem dX4_away_59 : decode cX4_away 59 = .ok (.iconst 0, 1) := by decide +kernel
theorem dX4_away_60 : decode cX4_away 60 = .ok (.istore 6, 2) := by decide +kernel
theorem dX4_away_62 : decode cX4_away 62 = .ok (.iload 6, 2) := by decide +kernel
theorem dX4_away_64 : decode cX4_away 64 = .ok (.iload 4, 2) := by decide +kernel
theorem dX4_away_66 : decode cX4_away 66 = .ok (.if_icmp .ge 69, 3) := by decide +kernel
theorem dX4_away_69 : decode cX4_away 69 = .ok (.iload 6, 2) := by decide +kernel
theorem dX4_away_71 : decode cX4_away 71 = .ok (.invokestatic 75, 3) := by decide +kernel
theorem dX4_away_74 : decode cX4_away 74 = .ok (.iload 5, 2) := by decide +kernel
theorem dX4_away_76 : decode cX4_away 76 = .ok (.if_icmp .ne 53, 3) := by decide +kernel
theorem dX4_away_79 : decode cX4_away 79 = .ok (.iload 6, 2) := by decide +kernel
theorem dX4_away_81 : decode cX4_away 81 = .ok (.iload_n 1, 1) := by decide +kernel
theorem dX4_away_82 : decode cX4_away 82 = .ok (.ishr, 1) := by decide +kernel
theorem dX4_away_83 : decode cX4_away 83 = .ok (.iconst 1, 1) := by decide +kernel
theorem dX4_away_84 : decode cX4_away 84 = .ok (.iand, 1) := by decide +kernel
theorem dX4_away_85 : decode cX4_away 85 = .ok (.iconst 1, 1) := by decide +kernel
theorem dX4_away_86 : decode cX4_away 86 = .ok (.if_icmp .ne 6, 3) := by decide +kernel
theorem dX4_away_89 : decode cX4_away 89 = .ok (.goto 40, 3) := by decide +kernel
theorem dX4_away_92 : decode cX4_away 92 = .ok (.aload_n 0, 1) := by decide +kernel
theorem dX4_away_93 : decode cX4_away 93 = .ok (.getfield 16, 3) := by decide +kernel
theorem dX4_away_96 : decode cX4_away 96 = .ok (.aload_n 0, 1) := by decide +kernel
theorem dX4_away_97 : decode cX4_away 97 = .ok (.getfield 10, 3) := by decide +kernel
theorem dX4_away_100 : decode cX4_away 100 = .ok (.invokevirtual 161, 3) := by decide +kernel
theorem dX4_away_103 : decode cX4_away 103 = .ok (.aload_n 0, 1) := by decide +kernel
theorem dX4_away_104 : decode cX4_away 104 = .ok (.getfield 16, 3) := by decide +kernel
theorem dX4_away_107 : decode cX4_away 107 = .ok (.iload_n 3, 1) := by decide +kernel
theorem dX4_away_108 : decode cX4_away 108 = .ok (.iload 6, 2) := by decide +kernel
theorem dX4_away_110 : decode cX4_away 110 = .ok (.invokevirtual 141, 3) := by decide +kernel
theorem dX4_away_113 : decode cX4_away 113 = .ok (.aload_n 0, 1) := by decide +kernel
theorem dX4_away_114 : decode cX4_away 114 = .ok (.getfield 16, 3) := by decide +kernel
theorem dX4_away_117 : decode cX4_away 117 = .ok (.getfield 165, 3) := by decide +kernel
theorem dX4_away_120 : decode cX4_away 120 = .ok (.iload_n 1, 1) := by decide +kernel
theorem dX4_away_121 : decode cX4_away 121 = .ok (.iaload, 1) := by decide +kernel
theorem dX4_away_122 : decode cX4_away 122 = .ok (.iload_n 2, 1) := by decide +kernel
theorem dX4_away_123 : decode cX4_away 123 = .ok (.if_icmp .lt 6, 3) := by decide +kernel
theorem dX4_away_126 : decode cX4_away 126 = .ok (.iload 6, 2) := by decide +kernel
theorem dX4_away_128 : decode cX4_away 128 = .ok (.ireturn, 1) := by decide +kernel
theorem dX4_away_129 : decode cX4_away 129 = .ok (.iinc 6 1, 3) := by decide +kernel
theorem dX4_away_132 : decode cX4_away 132 = .ok (.goto (-70), 3) := by decide +kernel
theorem dX4_away_135 : decode cX4_away 135 = .ok (.iinc 5 1, 3) := by decide +kernel
theorem dX4_away_138 : decode cX4_away 138 = .ok (.goto (-91), 3) := by decide +kernel
theorem dX4_away_141 : decode cX4_away 141 = .ok (.aload_n 0, 1) := by decide +kernel
theorem dX4_away_142 : decode cX4_away 142 = .ok (.iconst 3, 1) := by decide +kernel
theorem dX4_away_143 : decode cX4_away 143 = .ok (.invokevirtual 56, 3) := by decide +kernel
theorem dX4_away_146 : decode cX4_away 146 = .ok (.ireturn, 1) := by decide +kernel
theorem dX4_bonesFor_0 : decode cX4_bonesFor 0 = .ok (.iload_n 1, 1) := by decide +kernel
theorem dX4_bonesFor_1 : decode cX4_bonesFor 1 = .ok (.invokestatic 63, 3) := by decide +kernel
theorem dX4_bonesFor_4 : decode cX4_bonesFor 4 = .ok (.ifCond .eq 12, 3) := by decide +kernel
theorem dX4_bonesFor_7 : decode cX4_bonesFor 7 = .ok (.iload_n 2, 1) := by decide +kernel
theorem dX4_bonesFor_8 : decode cX4_bonesFor 8 = .ok (.bipush 6, 2) := by decide +kernel
theorem dX4_bonesFor_10 : decode cX4_bonesFor 10 = .ok (.invokestatic 52, 3) := by decide +kernel
theorem dX4_bonesFor_13 : decode cX4_bonesFor 13 = .ok (.ifCond .ne 9, 3) := by decide +kernel
theorem dX4_bonesFor_16 : decode cX4_bonesFor 16 = .ok (.aload_n 0, 1) := by decide +kernel
theorem dX4_bonesFor_17 : decode cX4_bonesFor 17 = .ok (.iconst 0, 1) := by decide +kernel
theorem dX4_bonesFor_18 : decode cX4_bonesFor 18 = .ok (.invokevirtual 56, 3) := by decide +kernel
theorem dX4_bonesFor_21 : decode cX4_bonesFor 21 = .ok (.ireturn, 1) := by decide +kernel
theorem dX4_bonesFor_22 : decode cX4_bonesFor 22 = .ok (.iconst 0, 1) := by decide +kernel
theorem dX4_bonesFor_23 : decode cX4_bonesFor 23 = .ok (.istore_n 3, 1) := by decide +kernel
theorem dX4_bonesFor_24 : decode cX4_bonesFor 24 = .ok (.iconst (-1), 1) := by decide +kernel
theorem dX4_bonesFor_25 : decode cX4_bonesFor 25 = .ok (.istore 4, 2) := by decide +kernel
theorem dX4_bonesFor_27 : decode cX4_bonesFor 27 = .ok (.iconst 0, 1) := by decide +kernel
theorem dX4_bonesFor_28 : decode cX4_bonesFor 28 = .ok (.istore 5, 2) := by decide +kernel
theorem dX4_bonesFor_30 : decode cX4_bonesFor 30 = .ok (.iload 5, 2) := by decide +kernel
theorem dX4_bonesFor_32 : decode cX4_bonesFor 32 = .ok (.sipush 999, 3) := by decide +kernel
theorem dX4_bonesFor_35 : decode cX4_bonesFor 35 = .ok (.if_icmp .gt 63, 3) := by decide +kernel
theorem dX4_bonesFor_38 : decode cX4_bonesFor 38 = .ok (.aload_n 0, 1) := by decide +kernel
theorem dX4_bonesFor_39 : decode cX4_bonesFor 39 = .ok (.getfield 16, 3) := by decide +kernel
theorem dX4_bonesFor_42 : decode cX4_bonesFor 42 = .ok (.aload_n 0, 1) := by decide +kernel
theorem dX4_bonesFor_43 : decode cX4_bonesFor 43 = .ok (.getfield 10, 3) := by decide +kernel
theorem dX4_bonesFor_46 : decode cX4_bonesFor 46 = .ok (.invokevirtual 161, 3) := by decide +kernel
theorem dX4_bonesFor_49 : decode cX4_bonesFor 49 = .ok (.aload_n 0, 1) := by decide +kernel
theorem dX4_bonesFor_50 : decode cX4_bonesFor 50 = .ok (.getfield 16, 3) := by decide +kernel
theorem dX4_bonesFor_53 : decode cX4_bonesFor 53 = .ok (.getfield 66, 3) := by decide +kernel
theorem dX4_bonesFor_56 : decode cX4_bonesFor 56 = .ok (.iload_n 1, 1) := by decide +kernel
theorem dX4_bonesFor_57 : decode cX4_bonesFor 57 = .ok (.iload 5, 2) := by decide +kernel
theorem dX4_bonesFor_59 : decode cX4_bonesFor 59 = .ok (.iastore, 1) := by decide +kernel
theorem dX4_bonesFor_60 : decode cX4_bonesFor 60 = .ok (.aload_n 0, 1) := by decide +kernel
theorem dX4_bonesFor_61 : decode cX4_bonesFor 61 = .ok (.getfield 16, 3) := by decide +kernel
theorem dX4_bonesFor_64 : decode cX4_bonesFor 64 = .ok (.iload_n 2, 1) := by decide +kernel
theorem dX4_bonesFor_65 : decode cX4_bonesFor 65 = .ok (.iconst 0, 1) := by decide +kernel
theorem dX4_bonesFor_66 : decode cX4_bonesFor 66 = .ok (.invokevirtual 141, 3) := by decide +kernel
theorem dX4_bonesFor_69 : decode cX4_bonesFor 69 = .ok (.aload_n 0, 1) := by decide +kernel
theorem dX4_bonesFor_70 : decode cX4_bonesFor 70 = .ok (.getfield 16, 3) := by decide +kernel
theorem dX4_bonesFor_73 : decode cX4_bonesFor 73 = .ok (.invokevirtual 148, 3) := by decide +kernel
theorem dX4_bonesFor_76 : decode cX4_bonesFor 76 = .ok (.istore 6, 2) := by decide +kernel
theorem dX4_bonesFor_78 : decode cX4_bonesFor 78 = .ok (.iload 6, 2) := by decide +kernel
theorem dX4_bonesFor_80 : decode cX4_bonesFor 80 = .ok (.iload 4, 2) := by decide +kernel
theorem dX4_bonesFor_82 : decode cX4_bonesFor 82 = .ok (.if_icmp .le 10, 3) := by decide +kernel
theorem dX4_bonesFor_85 : decode cX4_bonesFor 85 = .ok (.iload 6, 2) := by decide +kernel
theorem dX4_bonesFor_87 : decode cX4_bonesFor 87 = .ok (.istore 4, 2) := by decide +kernel
theorem dX4_bonesFor_89 : decode cX4_bonesFor 89 = .ok (.iload 5, 2) := by decide +kernel
theorem dX4_bonesFor_91 : decode cX4_bonesFor 91 = .ok (.istore_n 3, 1) := by decide +kernel
theorem dX4_bonesFor_92 : decode cX4_bonesFor 92 = .ok (.iinc 5 1, 3) := by decide +kernel
theorem dX4_bonesFor_95 : decode cX4_bonesFor 95 = .ok (.goto (-65), 3) := by decide +kernel
theorem dX4_bonesFor_98 : decode cX4_bonesFor 98 = .ok (.iload_n 3, 1) := by decide +kernel
theorem dX4_bonesFor_99 : decode cX4_bonesFor 99 = .ok (.ireturn, 1) := by decide +kernel
theorem dX4_fits_0 : decode cX4_fits 0 = .ok (.aload_n 0, 1) := by decide +kernel
theorem dX4_fits_1 : decode cX4_fits 1 = .ok (.iload_n 1, 1) := by decide +kernel
theorem dX4_fits_2 : decode cX4_fits 2 = .ok (.iload_n 2, 1) := by decide +kernel
theorem dX4_fits_3 : decode cX4_fits 3 = .ok (.invokevirtual 185, 3) := by decide +kernel
theorem dX4_fits_6 : decode cX4_fits 6 = .ok (.istore_n 3, 1) := by decide +kernel
theorem dX4_fits_7 : decode cX4_fits 7 = .ok (.iload_n 3, 1) := by decide +kernel
theorem dX4_fits_8 : decode cX4_fits 8 = .ok (.ifCond .eq 5, 3) := by decide +kernel
theorem dX4_fits_11 : decode cX4_fits 11 = .ok (.iload_n 3, 1) := by decide +kernel
theorem dX4_fits_12 : decode cX4_fits 12 = .ok (.ireturn, 1) := by decide +kernel
theorem dX4_fits_13 : decode cX4_fits 13 = .ok (.iconst 0, 1) := by decide +kernel
theorem dX4_fits_14 : decode cX4_fits 14 = .ok (.istore 4, 2) := by decide +kernel
theorem dX4_fits_16 : decode cX4_fits 16 = .ok (.iconst 0, 1) := by decide +kernel
theorem dX4_fits_17 : decode cX4_fits 17 = .ok (.istore 5, 2) := by decide +kernel
theorem dX4_fits_19 : decode cX4_fits 19 = .ok (.iload 5, 2) := by decide +kernel
theorem dX4_fits_21 : decode cX4_fits 21 = .ok (.bipush 10, 2) := by decide +kernel
theorem dX4_fits_23 : decode cX4_fits 23 = .ok (.if_icmp .ge 53, 3) := by decide +kernel
theorem dX4_fits_26 : decode cX4_fits 26 = .ok (.aload_n 0, 1) := by decide +kernel
theorem dX4_fits_27 : decode cX4_fits 27 = .ok (.getfield 16, 3) := by decide +kernel
theorem dX4_fits_30 : decode cX4_fits 30 = .ok (.aload_n 0, 1) := by decide +kernel
theorem dX4_fits_31 : decode cX4_fits 31 = .ok (.getfield 10, 3) := by decide +kernel
theorem dX4_fits_34 : decode cX4_fits 34 = .ok (.invokevirtual 161, 3) := by decide +kernel
theorem dX4_fits_37 : decode cX4_fits 37 = .ok (.aload_n 0, 1) := by decide +kernel
theorem dX4_fits_38 : decode cX4_fits 38 = .ok (.getfield 16, 3) := by decide +kernel
theorem dX4_fits_41 : decode cX4_fits 41 = .ok (.iload_n 2, 1) := by decide +kernel
theorem dX4_fits_42 : decode cX4_fits 42 = .ok (.iload 5, 2) := by decide +kernel
theorem dX4_fits_44 : decode cX4_fits 44 = .ok (.invokevirtual 179, 3) := by decide +kernel
theorem dX4_fits_47 : decode cX4_fits 47 = .ok (.aload_n 0, 1) := by decide +kernel
theorem dX4_fits_48 : decode cX4_fits 48 = .ok (.aload_n 0, 1) := by decide +kernel
theorem dX4_fits_49 : decode cX4_fits 49 = .ok (.getfield 28, 3) := by decide +kernel
theorem dX4_fits_52 : decode cX4_fits 52 = .ok (.iload_n 1, 1) := by decide +kernel
theorem dX4_fits_53 : decode cX4_fits 53 = .ok (.aaload, 1) := by decide +kernel
theorem dX4_fits_54 : decode cX4_fits 54 = .ok (.iload_n 2, 1) := by decide +kernel
theorem dX4_fits_55 : decode cX4_fits 55 = .ok (.invokevirtual 188, 3) := by decide +kernel
theorem dX4_fits_58 : decode cX4_fits 58 = .ok (.ifCond .eq 12, 3) := by decide +kernel
theorem dX4_fits_61 : decode cX4_fits 61 = .ok (.iload 4, 2) := by decide +kernel
theorem dX4_fits_63 : decode cX4_fits 63 = .ok (.iconst 1, 1) := by decide +kernel
theorem dX4_fits_64 : decode cX4_fits 64 = .ok (.iload 5, 2) := by decide +kernel
theorem dX4_fits_66 : decode cX4_fits 66 = .ok (.ishl, 1) := by decide +kernel
theorem dX4_fits_67 : decode cX4_fits 67 = .ok (.ior, 1) := by decide +kernel
theorem dX4_fits_68 : decode cX4_fits 68 = .ok (.istore 4, 2) := by decide +kernel
theorem dX4_fits_70 : decode cX4_fits 70 = .ok (.iinc 5 1, 3) := by decide +kernel
theorem dX4_fits_73 : decode cX4_fits 73 = .ok (.goto (-54), 3) := by decide +kernel
theorem dX4_fits_76 : decode cX4_fits 76 = .ok (.iload 4, 2) := by decide +kernel
theorem dX4_fits_78 : decode cX4_fits 78 = .ok (.ireturn, 1) := by decide +kernel
theorem dX4_kinds_0 : decode cX4_kinds 0 = .ok (.aload_n 0, 1) := by decide +kernel
theorem dX4_kinds_1 : decode cX4_kinds 1 = .ok (.iload_n 1, 1) := by decide +kernel
theorem dX4_kinds_2 : decode cX4_kinds 2 = .ok (.iload_n 2, 1) := by decide +kernel
theorem dX4_kinds_3 : decode cX4_kinds 3 = .ok (.invokevirtual 185, 3) := by decide +kernel
theorem dX4_kinds_6 : decode cX4_kinds 6 = .ok (.istore_n 3, 1) := by decide +kernel
theorem dX4_kinds_7 : decode cX4_kinds 7 = .ok (.iload_n 3, 1) := by decide +kernel
theorem dX4_kinds_8 : decode cX4_kinds 8 = .ok (.ifCond .eq 5, 3) := by decide +kernel
theorem dX4_kinds_11 : decode cX4_kinds 11 = .ok (.iload_n 3, 1) := by decide +kernel
theorem dX4_kinds_12 : decode cX4_kinds 12 = .ok (.ireturn, 1) := by decide +kernel
theorem dX4_kinds_13 : decode cX4_kinds 13 = .ok (.iconst 0, 1) := by decide +kernel
theorem dX4_kinds_14 : decode cX4_kinds 14 = .ok (.istore 4, 2) := by decide +kernel
theorem dX4_kinds_16 : decode cX4_kinds 16 = .ok (.iconst 0, 1) := by decide +kernel
theorem dX4_kinds_17 : decode cX4_kinds 17 = .ok (.istore 5, 2) := by decide +kernel
theorem dX4_kinds_19 : decode cX4_kinds 19 = .ok (.iload 5, 2) := by decide +kernel
theorem dX4_kinds_21 : decode cX4_kinds 21 = .ok (.bipush 7, 2) := by decide +kernel
theorem dX4_kinds_23 : decode cX4_kinds 23 = .ok (.if_icmp .ge 54, 3) := by decide +kernel
theorem dX4_kinds_26 : decode cX4_kinds 26 = .ok (.aload_n 0, 1) := by decide +kernel
theorem dX4_kinds_27 : decode cX4_kinds 27 = .ok (.getfield 16, 3) := by decide +kernel
theorem dX4_kinds_30 : decode cX4_kinds 30 = .ok (.aload_n 0, 1) := by decide +kernel
theorem dX4_kinds_31 : decode cX4_kinds 31 = .ok (.getfield 10, 3) := by decide +kernel
theorem dX4_kinds_34 : decode cX4_kinds 34 = .ok (.invokevirtual 161, 3) := by decide +kernel
theorem dX4_kinds_37 : decode cX4_kinds 37 = .ok (.aload_n 0, 1) := by decide +kernel
theorem dX4_kinds_38 : decode cX4_kinds 38 = .ok (.getfield 16, 3) := by decide +kernel
theorem dX4_kinds_41 : decode cX4_kinds 41 = .ok (.getfield 116, 3) := by decide +kernel
theorem dX4_kinds_44 : decode cX4_kinds 44 = .ok (.iload_n 2, 1) := by decide +kernel
theorem dX4_kinds_45 : decode cX4_kinds 45 = .ok (.iload 5, 2) := by decide +kernel
theorem dX4_kinds_47 : decode cX4_kinds 47 = .ok (.iastore, 1) := by decide +kernel
theorem dX4_kinds_48 : decode cX4_kinds 48 = .ok (.aload_n 0, 1) := by decide +kernel
theorem dX4_kinds_49 : decode cX4_kinds 49 = .ok (.aload_n 0, 1) := by decide +kernel
theorem dX4_kinds_50 : decode cX4_kinds 50 = .ok (.getfield 28, 3) := by decide +kernel
theorem dX4_kinds_53 : decode cX4_kinds 53 = .ok (.iload_n 1, 1) := by decide +kernel
theorem dX4_kinds_54 : decode cX4_kinds 54 = .ok (.aaload, 1) := by decide +kernel
theorem dX4_kinds_55 : decode cX4_kinds 55 = .ok (.iload_n 2, 1) := by decide +kernel
theorem dX4_kinds_56 : decode cX4_kinds 56 = .ok (.invokevirtual 188, 3) := by decide +kernel
theorem dX4_kinds_59 : decode cX4_kinds 59 = .ok (.ifCond .eq 12, 3) := by decide +kernel
theorem dX4_kinds_62 : decode cX4_kinds 62 = .ok (.iload 4, 2) := by decide +kernel
theorem dX4_kinds_64 : decode cX4_kinds 64 = .ok (.iconst 1, 1) := by decide +kernel
theorem dX4_kinds_65 : decode cX4_kinds 65 = .ok (.iload 5, 2) := by decide +kernel
theorem dX4_kinds_67 : decode cX4_kinds 67 = .ok (.ishl, 1) := by decide +kernel
theorem dX4_kinds_68 : decode cX4_kinds 68 = .ok (.ior, 1) := by decide +kernel
theorem dX4_kinds_69 : decode cX4_kinds 69 = .ok (.istore 4, 2) := by decide +kernel
theorem dX4_kinds_71 : decode cX4_kinds 71 = .ok (.iinc 5 1, 3) := by decide +kernel
theorem dX4_kinds_74 : decode cX4_kinds 74 = .ok (.goto (-55), 3) := by decide +kernel
theorem dX4_kinds_77 : decode cX4_kinds 77 = .ok (.iload 4, 2) := by decide +kernel
theorem dX4_kinds_79 : decode cX4_kinds 79 = .ok (.ireturn, 1) := by decide +kernel
theorem dX4_findingOf_0 : decode cX4_findingOf 0 = .ok (.iload_n 1, 1) := by decide +kernel
theorem dX4_findingOf_1 : decode cX4_findingOf 1 = .ok (.invokestatic 192, 3) := by decide +kernel
theorem dX4_findingOf_4 : decode cX4_findingOf 4 = .ok (.ifCond .ne 9, 3) := by decide +kernel
theorem dX4_findingOf_7 : decode cX4_findingOf 7 = .ok (.aload_n 0, 1) := by decide +kernel
theorem dX4_findingOf_8 : decode cX4_findingOf 8 = .ok (.iconst 0, 1) := by decide +kernel
theorem dX4_findingOf_9 : decode cX4_findingOf 9 = .ok (.invokevirtual 56, 3) := by decide +kernel
theorem dX4_findingOf_12 : decode cX4_findingOf 12 = .ok (.ireturn, 1) := by decide +kernel
theorem dX4_findingOf_13 : decode cX4_findingOf 13 = .ok (.aload_n 0, 1) := by decide +kernel
theorem dX4_findingOf_14 : decode cX4_findingOf 14 = .ok (.getfield 28, 3) := by decide +kernel
theorem dX4_findingOf_17 : decode cX4_findingOf 17 = .ok (.iload_n 1, 1) := by decide +kernel
theorem dX4_findingOf_18 : decode cX4_findingOf 18 = .ok (.aaload, 1) := by decide +kernel
theorem dX4_findingOf_19 : decode cX4_findingOf 19 = .ok (.invokevirtual 195, 3) := by decide +kernel
theorem dX4_findingOf_22 : decode cX4_findingOf 22 = .ok (.ifCond .eq 9, 3) := by decide +kernel
theorem dX4_findingOf_25 : decode cX4_findingOf 25 = .ok (.aload_n 0, 1) := by decide +kernel
theorem dX4_findingOf_26 : decode cX4_findingOf 26 = .ok (.iconst 5, 1) := by decide +kernel
theorem dX4_findingOf_27 : decode cX4_findingOf 27 = .ok (.invokevirtual 56, 3) := by decide +kernel
theorem dX4_findingOf_30 : decode cX4_findingOf 30 = .ok (.ireturn, 1) := by decide +kernel
theorem dX4_findingOf_31 : decode cX4_findingOf 31 = .ok (.aload_n 0, 1) := by decide +kernel
theorem dX4_findingOf_32 : decode cX4_findingOf 32 = .ok (.iload_n 2, 1) := by decide +kernel
theorem dX4_findingOf_33 : decode cX4_findingOf 33 = .ok (.invokevirtual 93, 3) := by decide +kernel
theorem dX4_findingOf_36 : decode cX4_findingOf 36 = .ok (.ifCond .eq 7, 3) := by decide +kernel
theorem dX4_findingOf_39 : decode cX4_findingOf 39 = .ok (.iconst 0, 1) := by decide +kernel
theorem dX4_findingOf_40 : decode cX4_findingOf 40 = .ok (.goto 8, 3) := by decide +kernel
theorem dX4_findingOf_43 : decode cX4_findingOf 43 = .ok (.aload_n 0, 1) := by decide +kernel
theorem dX4_findingOf_44 : decode cX4_findingOf 44 = .ok (.iconst 0, 1) := by decide +kernel
theorem dX4_findingOf_45 : decode cX4_findingOf 45 = .ok (.invokevirtual 56, 3) := by decide +kernel
theorem dX4_findingOf_48 : decode cX4_findingOf 48 = .ok (.ireturn, 1) := by decide +kernel
theorem dX4_goesAsTold_0 : decode cX4_goesAsTold 0 = .ok (.iconst 0, 1) := by decide +kernel
theorem dX4_goesAsTold_1 : decode cX4_goesAsTold 1 = .ok (.istore_n 3, 1) := by decide +kernel
theorem dX4_goesAsTold_2 : decode cX4_goesAsTold 2 = .ok (.iload_n 3, 1) := by decide +kernel
theorem dX4_goesAsTold_3 : decode cX4_goesAsTold 3 = .ok (.aload_n 1, 1) := by decide +kernel
theorem dX4_goesAsTold_4 : decode cX4_goesAsTold 4 = .ok (.getfield 198, 3) := by decide +kernel
theorem dX4_goesAsTold_7 : decode cX4_goesAsTold 7 = .ok (.if_icmp .ge 51, 3) := by decide +kernel
theorem dX4_goesAsTold_10 : decode cX4_goesAsTold 10 = .ok (.iload_n 3, 1) := by decide +kernel
theorem dX4_goesAsTold_11 : decode cX4_goesAsTold 11 = .ok (.ifCond .le 11, 3) := by decide +kernel
theorem dX4_goesAsTold_14 : decode cX4_goesAsTold 14 = .ok (.aload_n 0, 1) := by decide +kernel
theorem dX4_goesAsTold_15 : decode cX4_goesAsTold 15 = .ok (.getfield 16, 3) := by decide +kernel
theorem dX4_goesAsTold_18 : decode cX4_goesAsTold 18 = .ok (.iconst 0, 1) := by decide +kernel
theorem dX4_goesAsTold_19 : decode cX4_goesAsTold 19 = .ok (.invokevirtual 168, 3) := by decide +kernel
theorem dX4_goesAsTold_22 : decode cX4_goesAsTold 22 = .ok (.aload_n 1, 1) := by decide +kernel
theorem dX4_goesAsTold_23 : decode cX4_goesAsTold 23 = .ok (.getfield 201, 3) := by decide +kernel
theorem dX4_goesAsTold_26 : decode cX4_goesAsTold 26 = .ok (.iload_n 3, 1) := by decide +kernel
theorem dX4_goesAsTold_27 : decode cX4_goesAsTold 27 = .ok (.iaload, 1) := by decide +kernel
theorem dX4_goesAsTold_28 : decode cX4_goesAsTold 28 = .ok (.iconst (-1), 1) := by decide +kernel
theorem dX4_goesAsTold_29 : decode cX4_goesAsTold 29 = .ok (.if_icmp .eq 23, 3) := by decide +kernel
theorem dX4_goesAsTold_32 : decode cX4_goesAsTold 32 = .ok (.aload_n 1, 1) := by decide +kernel
theorem dX4_goesAsTold_33 : decode cX4_goesAsTold 33 = .ok (.getfield 201, 3) := by decide +kernel
theorem dX4_goesAsTold_36 : decode cX4_goesAsTold 36 = .ok (.iload_n 3, 1) := by decide +kernel
theorem dX4_goesAsTold_37 : decode cX4_goesAsTold 37 = .ok (.iaload, 1) := by decide +kernel
theorem dX4_goesAsTold_38 : decode cX4_goesAsTold 38 = .ok (.aload_n 0, 1) := by decide +kernel
theorem dX4_goesAsTold_39 : decode cX4_goesAsTold 39 = .ok (.getfield 16, 3) := by decide +kernel
theorem dX4_goesAsTold_42 : decode cX4_goesAsTold 42 = .ok (.getfield 203, 3) := by decide +kernel
theorem dX4_goesAsTold_45 : decode cX4_goesAsTold 45 = .ok (.iload_n 2, 1) := by decide +kernel
theorem dX4_goesAsTold_46 : decode cX4_goesAsTold 46 = .ok (.iaload, 1) := by decide +kernel
theorem dX4_goesAsTold_47 : decode cX4_goesAsTold 47 = .ok (.if_icmp .eq 5, 3) := by decide +kernel
theorem dX4_goesAsTold_50 : decode cX4_goesAsTold 50 = .ok (.iconst 0, 1) := by decide +kernel
theorem dX4_goesAsTold_51 : decode cX4_goesAsTold 51 = .ok (.ireturn, 1) := by decide +kernel
theorem dX4_goesAsTold_52 : decode cX4_goesAsTold 52 = .ok (.iinc 3 1, 3) := by decide +kernel
theorem dX4_goesAsTold_55 : decode cX4_goesAsTold 55 = .ok (.goto (-53), 3) := by decide +kernel
theorem dX4_goesAsTold_58 : decode cX4_goesAsTold 58 = .ok (.iconst 1, 1) := by decide +kernel
theorem dX4_goesAsTold_59 : decode cX4_goesAsTold 59 = .ok (.ireturn, 1) := by decide +kernel
theorem dX4_texts_0 : decode cX4_texts 0 = .ok (.iload_n 1, 1) := by decide +kernel
theorem dX4_texts_1 : decode cX4_texts 1 = .ok (.bipush 9, 2) := by decide +kernel
theorem dX4_texts_3 : decode cX4_texts 3 = .ok (.invokestatic 52, 3) := by decide +kernel
theorem dX4_texts_6 : decode cX4_texts 6 = .ok (.ifCond .ne 9, 3) := by decide +kernel
theorem dX4_texts_9 : decode cX4_texts 9 = .ok (.aload_n 0, 1) := by decide +kernel
theorem dX4_texts_10 : decode cX4_texts 10 = .ok (.iconst 0, 1) := by decide +kernel
theorem dX4_texts_11 : decode cX4_texts 11 = .ok (.invokevirtual 56, 3) := by decide +kernel
theorem dX4_texts_14 : decode cX4_texts 14 = .ok (.ireturn, 1) := by decide +kernel
theorem dX4_texts_15 : decode cX4_texts 15 = .ok (.iconst 0, 1) := by decide +kernel
theorem dX4_texts_16 : decode cX4_texts 16 = .ok (.istore_n 2, 1) := by decide +kernel
theorem dX4_texts_17 : decode cX4_texts 17 = .ok (.iload_n 2, 1) := by decide +kernel
theorem dX4_texts_18 : decode cX4_texts 18 = .ok (.iconst 4, 1) := by decide +kernel
theorem dX4_texts_19 : decode cX4_texts 19 = .ok (.if_icmp .gt 24, 3) := by decide +kernel
theorem dX4_texts_22 : decode cX4_texts 22 = .ok (.aload_n 0, 1) := by decide +kernel
theorem dX4_texts_23 : decode cX4_texts 23 = .ok (.getfield 43, 3) := by decide +kernel
theorem dX4_texts_26 : decode cX4_texts 26 = .ok (.iload_n 2, 1) := by decide +kernel
theorem dX4_texts_27 : decode cX4_texts 27 = .ok (.iload_n 2, 1) := by decide +kernel
theorem dX4_texts_28 : decode cX4_texts 28 = .ok (.ifCond .ne 7, 3) := by decide +kernel
theorem dX4_texts_31 : decode cX4_texts 31 = .ok (.lconst 1, 1) := by decide +kernel
theorem dX4_texts_32 : decode cX4_texts 32 = .ok (.goto 4, 3) := by decide +kernel
theorem dX4_texts_35 : decode cX4_texts 35 = .ok (.lconst 0, 1) := by decide +kernel
theorem dX4_texts_36 : decode cX4_texts 36 = .ok (.lastore, 1) := by decide +kernel
theorem dX4_texts_37 : decode cX4_texts 37 = .ok (.iinc 2 1, 3) := by decide +kernel
theorem dX4_texts_40 : decode cX4_texts 40 = .ok (.goto (-23), 3) := by decide +kernel
theorem dX4_texts_43 : decode cX4_texts 43 = .ok (.iconst 0, 1) := by decide +kernel
theorem dX4_texts_44 : decode cX4_texts 44 = .ok (.istore_n 2, 1) := by decide +kernel
theorem dX4_texts_45 : decode cX4_texts 45 = .ok (.iload_n 2, 1) := by decide +kernel
theorem dX4_texts_46 : decode cX4_texts 46 = .ok (.bipush 10, 2) := by decide +kernel
theorem dX4_texts_48 : decode cX4_texts 48 = .ok (.if_icmp .ge 96, 3) := by decide +kernel
theorem dX4_texts_51 : decode cX4_texts 51 = .ok (.iload_n 1, 1) := by decide +kernel
theorem dX4_texts_52 : decode cX4_texts 52 = .ok (.ifCond .ne 7, 3) := by decide +kernel
theorem dX4_texts_55 : decode cX4_texts 55 = .ok (.iconst 4, 1) := by decide +kernel
theorem dX4_texts_56 : decode cX4_texts 56 = .ok (.goto 18, 3) := by decide +kernel
theorem dX4_texts_59 : decode cX4_texts 59 = .ok (.iconst 4, 1) := by decide +kernel
theorem dX4_texts_60 : decode cX4_texts 60 = .ok (.aload_n 0, 1) := by decide +kernel
theorem dX4_texts_61 : decode cX4_texts 61 = .ok (.getfield 10, 3) := by decide +kernel
theorem dX4_texts_64 : decode cX4_texts 64 = .ok (.getfield 60, 3) := by decide +kernel
theorem dX4_texts_67 : decode cX4_texts 67 = .ok (.iload_n 2, 1) := by decide +kernel
theorem dX4_texts_68 : decode cX4_texts 68 = .ok (.iaload, 1) := by decide +kernel
theorem dX4_texts_69 : decode cX4_texts 69 = .ok (.iload_n 1, 1) := by decide +kernel
theorem dX4_texts_70 : decode cX4_texts 70 = .ok (.idiv, 1) := by decide +kernel
theorem dX4_texts_71 : decode cX4_texts 71 = .ok (.invokestatic 133, 3) := by decide +kernel
theorem dX4_texts_74 : decode cX4_texts 74 = .ok (.istore_n 3, 1) := by decide +kernel
theorem dX4_texts_75 : decode cX4_texts 75 = .ok (.iconst 4, 1) := by decide +kernel
theorem dX4_texts_76 : decode cX4_texts 76 = .ok (.istore 4, 2) := by decide +kernel
theorem dX4_texts_78 : decode cX4_texts 78 = .ok (.iload 4, 2) := by decide +kernel
theorem dX4_texts_80 : decode cX4_texts 80 = .ok (.iconst 1, 1) := by decide +kernel
theorem dX4_texts_81 : decode cX4_texts 81 = .ok (.if_icmp .lt 57, 3) := by decide +kernel
theorem dX4_texts_84 : decode cX4_texts 84 = .ok (.iconst 1, 1) := by decide +kernel
theorem dX4_texts_85 : decode cX4_texts 85 = .ok (.istore 5, 2) := by decide +kernel
theorem dX4_texts_87 : decode cX4_texts 87 = .ok (.iload 5, 2) := by decide +kernel
theorem dX4_texts_89 : decode cX4_texts 89 = .ok (.iload_n 3, 1) := by decide +kernel
theorem dX4_texts_90 : decode cX4_texts 90 = .ok (.iload 4, 2) := by decide +kernel
theorem dX4_texts_92 : decode cX4_texts 92 = .ok (.invokestatic 133, 3) := by decide +kernel
theorem dX4_texts_95 : decode cX4_texts 95 = .ok (.if_icmp .gt 37, 3) := by decide +kernel
theorem dX4_texts_98 : decode cX4_texts 98 = .ok (.aload_n 0, 1) := by decide +kernel
theorem dX4_texts_99 : decode cX4_texts 99 = .ok (.getfield 43, 3) := by decide +kernel
theorem dX4_texts_102 : decode cX4_texts 102 = .ok (.iload 4, 2) := by decide +kernel
theorem dX4_texts_104 : decode cX4_texts 104 = .ok (.dup2, 1) := by decide +kernel
theorem dX4_texts_105 : decode cX4_texts 105 = .ok (.laload, 1) := by decide +kernel
theorem dX4_texts_106 : decode cX4_texts 106 = .ok (.iload 4, 2) := by decide +kernel
theorem dX4_texts_108 : decode cX4_texts 108 = .ok (.iload 5, 2) := by decide +kernel
theorem dX4_texts_110 : decode cX4_texts 110 = .ok (.invokestatic 206, 3) := by decide +kernel
theorem dX4_texts_113 : decode cX4_texts 113 = .ok (.aload_n 0, 1) := by decide +kernel
theorem dX4_texts_114 : decode cX4_texts 114 = .ok (.getfield 43, 3) := by decide +kernel
theorem dX4_texts_117 : decode cX4_texts 117 = .ok (.iload 4, 2) := by decide +kernel
theorem dX4_texts_119 : decode cX4_texts 119 = .ok (.iload 5, 2) := by decide +kernel
theorem dX4_texts_121 : decode cX4_texts 121 = .ok (.isub, 1) := by decide +kernel
theorem dX4_texts_122 : decode cX4_texts 122 = .ok (.laload, 1) := by decide +kernel
theorem dX4_texts_123 : decode cX4_texts 123 = .ok (.lmul, 1) := by decide +kernel
theorem dX4_texts_124 : decode cX4_texts 124 = .ok (.ladd, 1) := by decide +kernel
theorem dX4_texts_125 : decode cX4_texts 125 = .ok (.lastore, 1) := by decide +kernel
theorem dX4_texts_126 : decode cX4_texts 126 = .ok (.iinc 5 1, 3) := by decide +kernel
theorem dX4_texts_129 : decode cX4_texts 129 = .ok (.goto (-42), 3) := by decide +kernel
theorem dX4_texts_132 : decode cX4_texts 132 = .ok (.iinc 4 (-1), 3) := by decide +kernel
theorem dX4_texts_135 : decode cX4_texts 135 = .ok (.goto (-57), 3) := by decide +kernel
theorem dX4_texts_138 : decode cX4_texts 138 = .ok (.iinc 2 1, 3) := by decide +kernel
theorem dX4_texts_141 : decode cX4_texts 141 = .ok (.goto (-96), 3) := by decide +kernel
theorem dX4_texts_144 : decode cX4_texts 144 = .ok (.aload_n 0, 1) := by decide +kernel
theorem dX4_texts_145 : decode cX4_texts 145 = .ok (.getfield 43, 3) := by decide +kernel
theorem dX4_texts_148 : decode cX4_texts 148 = .ok (.iconst 4, 1) := by decide +kernel
theorem dX4_texts_149 : decode cX4_texts 149 = .ok (.laload, 1) := by decide +kernel
theorem dX4_texts_150 : decode cX4_texts 150 = .ok (.l2i, 1) := by decide +kernel
theorem dX4_texts_151 : decode cX4_texts 151 = .ok (.ireturn, 1) := by decide +kernel
theorem dX4_choices_0 : decode cX4_choices 0 = .ok (.lconst 1, 1) := by decide +kernel
theorem dX4_choices_1 : decode cX4_choices 1 = .ok (.lstore_n 2, 1) := by decide +kernel
theorem dX4_choices_2 : decode cX4_choices 2 = .ok (.iconst 1, 1) := by decide +kernel
theorem dX4_choices_3 : decode cX4_choices 3 = .ok (.istore 4, 2) := by decide +kernel
theorem dX4_choices_5 : decode cX4_choices 5 = .ok (.iload 4, 2) := by decide +kernel
theorem dX4_choices_7 : decode cX4_choices 7 = .ok (.iload_n 1, 1) := by decide +kernel
theorem dX4_choices_8 : decode cX4_choices 8 = .ok (.if_icmp .gt 23, 3) := by decide +kernel
theorem dX4_choices_11 : decode cX4_choices 11 = .ok (.lload_n 2, 1) := by decide +kernel
theorem dX4_choices_12 : decode cX4_choices 12 = .ok (.iload_n 0, 1) := by decide +kernel
theorem dX4_choices_13 : decode cX4_choices 13 = .ok (.iload_n 1, 1) := by decide +kernel
theorem dX4_choices_14 : decode cX4_choices 14 = .ok (.isub, 1) := by decide +kernel
theorem dX4_choices_15 : decode cX4_choices 15 = .ok (.iload 4, 2) := by decide +kernel
theorem dX4_choices_17 : decode cX4_choices 17 = .ok (.iadd, 1) := by decide +kernel
theorem dX4_choices_18 : decode cX4_choices 18 = .ok (.i2l, 1) := by decide +kernel
theorem dX4_choices_19 : decode cX4_choices 19 = .ok (.lmul, 1) := by decide +kernel
theorem dX4_choices_20 : decode cX4_choices 20 = .ok (.iload 4, 2) := by decide +kernel
theorem dX4_choices_22 : decode cX4_choices 22 = .ok (.i2l, 1) := by decide +kernel
theorem dX4_choices_23 : decode cX4_choices 23 = .ok (.ldiv, 1) := by decide +kernel
theorem dX4_choices_24 : decode cX4_choices 24 = .ok (.lstore_n 2, 1) := by decide +kernel
theorem dX4_choices_25 : decode cX4_choices 25 = .ok (.iinc 4 1, 3) := by decide +kernel
theorem dX4_choices_28 : decode cX4_choices 28 = .ok (.goto (-23), 3) := by decide +kernel
theorem dX4_choices_31 : decode cX4_choices 31 = .ok (.lload_n 2, 1) := by decide +kernel
theorem dX4_choices_32 : decode cX4_choices 32 = .ok (.lreturn, 1) := by decide +kernel
theorem dX4_catches_0 : decode cX4_catches 0 = .ok (.iload_n 1, 1) := by decide +kernel
theorem dX4_catches_1 : decode cX4_catches 1 = .ok (.iconst 1, 1) := by decide +kernel
theorem dX4_catches_2 : decode cX4_catches 2 = .ok (.if_icmp .lt 9, 3) := by decide +kernel
theorem dX4_catches_5 : decode cX4_catches 5 = .ok (.iload_n 1, 1) := by decide +kernel
theorem dX4_catches_6 : decode cX4_catches 6 = .ok (.bipush 20, 2) := by decide +kernel
theorem dX4_catches_8 : decode cX4_catches 8 = .ok (.if_icmp .le 9, 3) := by decide +kernel
theorem dX4_catches_11 : decode cX4_catches 11 = .ok (.aload_n 0, 1) := by decide +kernel
theorem dX4_catches_12 : decode cX4_catches 12 = .ok (.iconst 0, 1) := by decide +kernel
theorem dX4_catches_13 : decode cX4_catches 13 = .ok (.invokevirtual 56, 3) := by decide +kernel
theorem dX4_catches_16 : decode cX4_catches 16 = .ok (.ireturn, 1) := by decide +kernel
theorem dX4_catches_17 : decode cX4_catches 17 = .ok (.aload_n 0, 1) := by decide +kernel
theorem dX4_catches_18 : decode cX4_catches 18 = .ok (.getfield 10, 3) := by decide +kernel
theorem dX4_catches_21 : decode cX4_catches 21 = .ok (.getfield 136, 3) := by decide +kernel
theorem dX4_catches_24 : decode cX4_catches 24 = .ok (.ldc 140, 2) := by decide +kernel
theorem dX4_catches_26 : decode cX4_catches 26 = .ok (.iload_n 1, 1) := by decide +kernel
theorem dX4_catches_27 : decode cX4_catches 27 = .ok (.isub, 1) := by decide +kernel
theorem dX4_catches_28 : decode cX4_catches 28 = .ok (.if_icmp .le 9, 3) := by decide +kernel
theorem dX4_catches_31 : decode cX4_catches 31 = .ok (.aload_n 0, 1) := by decide +kernel
theorem dX4_catches_32 : decode cX4_catches 32 = .ok (.iconst 4, 1) := by decide +kernel
theorem dX4_catches_33 : decode cX4_catches 33 = .ok (.invokevirtual 56, 3) := by decide +kernel
theorem dX4_catches_36 : decode cX4_catches 36 = .ok (.ireturn, 1) := by decide +kernel
theorem dX4_catches_37 : decode cX4_catches 37 = .ok (.iconst 0, 1) := by decide +kernel
theorem dX4_catches_38 : decode cX4_catches 38 = .ok (.istore_n 2, 1) := by decide +kernel
theorem dX4_catches_39 : decode cX4_catches 39 = .ok (.iload_n 2, 1) := by decide +kernel
theorem dX4_catches_40 : decode cX4_catches 40 = .ok (.iload_n 1, 1) := by decide +kernel
theorem dX4_catches_41 : decode cX4_catches 41 = .ok (.if_icmp .ge 47, 3) := by decide +kernel
theorem dX4_catches_44 : decode cX4_catches 44 = .ok (.aload_n 0, 1) := by decide +kernel
theorem dX4_catches_45 : decode cX4_catches 45 = .ok (.getfield 10, 3) := by decide +kernel
theorem dX4_catches_48 : decode cX4_catches 48 = .ok (.invokevirtual 210, 3) := by decide +kernel
theorem dX4_catches_51 : decode cX4_catches 51 = .ok (.bipush 6, 2) := by decide +kernel
theorem dX4_catches_53 : decode cX4_catches 53 = .ok (.irem, 1) := by decide +kernel
theorem dX4_catches_54 : decode cX4_catches 54 = .ok (.istore_n 3, 1) := by decide +kernel
theorem dX4_catches_55 : decode cX4_catches 55 = .ok (.aload_n 0, 1) := by decide +kernel
theorem dX4_catches_56 : decode cX4_catches 56 = .ok (.getfield 10, 3) := by decide +kernel
theorem dX4_catches_59 : decode cX4_catches 59 = .ok (.getfield 69, 3) := by decide +kernel
theorem dX4_catches_62 : decode cX4_catches 62 = .ok (.iload_n 3, 1) := by decide +kernel
theorem dX4_catches_63 : decode cX4_catches 63 = .ok (.aload_n 0, 1) := by decide +kernel
theorem dX4_catches_64 : decode cX4_catches 64 = .ok (.getfield 10, 3) := by decide +kernel
theorem dX4_catches_67 : decode cX4_catches 67 = .ok (.invokevirtual 210, 3) := by decide +kernel
theorem dX4_catches_70 : decode cX4_catches 70 = .ok (.bipush 21, 2) := by decide +kernel
theorem dX4_catches_72 : decode cX4_catches 72 = .ok (.irem, 1) := by decide +kernel
theorem dX4_catches_73 : decode cX4_catches 73 = .ok (.iastore, 1) := by decide +kernel
theorem dX4_catches_74 : decode cX4_catches 74 = .ok (.aload_n 0, 1) := by decide +kernel
theorem dX4_catches_75 : decode cX4_catches 75 = .ok (.getfield 10, 3) := by decide +kernel
theorem dX4_catches_78 : decode cX4_catches 78 = .ok (.iconst 0, 1) := by decide +kernel
theorem dX4_catches_79 : decode cX4_catches 79 = .ok (.invokevirtual 168, 3) := by decide +kernel
theorem dX4_catches_82 : decode cX4_catches 82 = .ok (.iinc 2 1, 3) := by decide +kernel
theorem dX4_catches_85 : decode cX4_catches 85 = .ok (.goto (-46), 3) := by decide +kernel
theorem dX4_catches_88 : decode cX4_catches 88 = .ok (.aload_n 0, 1) := by decide +kernel
theorem dX4_catches_89 : decode cX4_catches 89 = .ok (.getfield 10, 3) := by decide +kernel
theorem dX4_catches_92 : decode cX4_catches 92 = .ok (.iconst 4, 1) := by decide +kernel
theorem dX4_catches_93 : decode cX4_catches 93 = .ok (.invokevirtual 145, 3) := by decide +kernel
theorem dX4_catches_96 : decode cX4_catches 96 = .ok (.ireturn, 1) := by decide +kernel
theorem dX4_odds_0 : decode cX4_odds 0 = .ok (.iload_n 1, 1) := by decide +kernel
theorem dX4_odds_1 : decode cX4_odds 1 = .ok (.sipush 9999, 3) := by decide +kernel
theorem dX4_odds_4 : decode cX4_odds 4 = .ok (.invokestatic 52, 3) := by decide +kernel
theorem dX4_odds_7 : decode cX4_odds 7 = .ok (.ifCond .eq 11, 3) := by decide +kernel
theorem dX4_odds_10 : decode cX4_odds 10 = .ok (.iload_n 2, 1) := by decide +kernel
theorem dX4_odds_11 : decode cX4_odds 11 = .ok (.iconst 1, 1) := by decide +kernel
theorem dX4_odds_12 : decode cX4_odds 12 = .ok (.invokestatic 52, 3) := by decide +kernel
theorem dX4_odds_15 : decode cX4_odds 15 = .ok (.ifCond .ne 10, 3) := by decide +kernel
theorem dX4_odds_18 : decode cX4_odds 18 = .ok (.aload_n 0, 1) := by decide +kernel
theorem dX4_odds_19 : decode cX4_odds 19 = .ok (.iconst 0, 1) := by decide +kernel
theorem dX4_odds_20 : decode cX4_odds 20 = .ok (.invokevirtual 56, 3) := by decide +kernel
theorem dX4_odds_23 : decode cX4_odds 23 = .ok (.i2l, 1) := by decide +kernel
theorem dX4_odds_24 : decode cX4_odds 24 = .ok (.lreturn, 1) := by decide +kernel
theorem dX4_odds_25 : decode cX4_odds 25 = .ok (.aload_n 0, 1) := by decide +kernel
theorem dX4_odds_26 : decode cX4_odds 26 = .ok (.getfield 10, 3) := by decide +kernel
theorem dX4_odds_29 : decode cX4_odds 29 = .ok (.invokevirtual 148, 3) := by decide +kernel
theorem dX4_odds_32 : decode cX4_odds 32 = .ok (.i2l, 1) := by decide +kernel
theorem dX4_odds_33 : decode cX4_odds 33 = .ok (.lstore_n 3, 1) := by decide +kernel
theorem dX4_odds_34 : decode cX4_odds 34 = .ok (.lload_n 3, 1) := by decide +kernel
theorem dX4_odds_35 : decode cX4_odds 35 = .ok (.lconst 0, 1) := by decide +kernel
theorem dX4_odds_36 : decode cX4_odds 36 = .ok (.lcmp, 1) := by decide +kernel
theorem dX4_odds_37 : decode cX4_odds 37 = .ok (.ifCond .ne 10, 3) := by decide +kernel
theorem dX4_odds_40 : decode cX4_odds 40 = .ok (.aload_n 0, 1) := by decide +kernel
theorem dX4_odds_41 : decode cX4_odds 41 = .ok (.iconst 4, 1) := by decide +kernel
theorem dX4_odds_42 : decode cX4_odds 42 = .ok (.invokevirtual 56, 3) := by decide +kernel
theorem dX4_odds_45 : decode cX4_odds 45 = .ok (.i2l, 1) := by decide +kernel
theorem dX4_odds_46 : decode cX4_odds 46 = .ok (.lreturn, 1) := by decide +kernel
theorem dX4_odds_47 : decode cX4_odds 47 = .ok (.lconst 1, 1) := by decide +kernel
theorem dX4_odds_48 : decode cX4_odds 48 = .ok (.lstore 5, 2) := by decide +kernel
theorem dX4_odds_50 : decode cX4_odds 50 = .ok (.lconst 1, 1) := by decide +kernel
theorem dX4_odds_51 : decode cX4_odds 51 = .ok (.lstore 7, 2) := by decide +kernel
theorem dX4_odds_53 : decode cX4_odds 53 = .ok (.iconst 0, 1) := by decide +kernel
theorem dX4_odds_54 : decode cX4_odds 54 = .ok (.istore 9, 2) := by decide +kernel
theorem dX4_odds_56 : decode cX4_odds 56 = .ok (.iload 9, 2) := by decide +kernel
theorem dX4_odds_58 : decode cX4_odds 58 = .ok (.iconst 4, 1) := by decide +kernel
theorem dX4_odds_59 : decode cX4_odds 59 = .ok (.if_icmp .ge 35, 3) := by decide +kernel
theorem dX4_odds_62 : decode cX4_odds 62 = .ok (.lload 5, 2) := by decide +kernel
theorem dX4_odds_64 : decode cX4_odds 64 = .ok (.aload_n 0, 1) := by decide +kernel
theorem dX4_odds_65 : decode cX4_odds 65 = .ok (.getfield 10, 3) := by decide +kernel
theorem dX4_odds_68 : decode cX4_odds 68 = .ok (.getfield 60, 3) := by decide +kernel
theorem dX4_odds_71 : decode cX4_odds 71 = .ok (.iload_n 1, 1) := by decide +kernel
theorem dX4_odds_72 : decode cX4_odds 72 = .ok (.iload 9, 2) := by decide +kernel
theorem dX4_odds_74 : decode cX4_odds 74 = .ok (.invokestatic 122, 3) := by decide +kernel
theorem dX4_odds_77 : decode cX4_odds 77 = .ok (.iaload, 1) := by decide +kernel
theorem dX4_odds_78 : decode cX4_odds 78 = .ok (.i2l, 1) := by decide +kernel
theorem dX4_odds_79 : decode cX4_odds 79 = .ok (.lmul, 1) := by decide +kernel
theorem dX4_odds_80 : decode cX4_odds 80 = .ok (.lstore 5, 2) := by decide +kernel
theorem dX4_odds_82 : decode cX4_odds 82 = .ok (.lload 7, 2) := by decide +kernel
theorem dX4_odds_84 : decode cX4_odds 84 = .ok (.lload_n 3, 1) := by decide +kernel
theorem dX4_odds_85 : decode cX4_odds 85 = .ok (.lmul, 1) := by decide +kernel
theorem dX4_odds_86 : decode cX4_odds 86 = .ok (.lstore 7, 2) := by decide +kernel
theorem dX4_odds_88 : decode cX4_odds 88 = .ok (.iinc 9 1, 3) := by decide +kernel
theorem dX4_odds_91 : decode cX4_odds 91 = .ok (.goto (-35), 3) := by decide +kernel
theorem dX4_odds_94 : decode cX4_odds 94 = .ok (.lconst 1, 1) := by decide +kernel
theorem dX4_odds_95 : decode cX4_odds 95 = .ok (.lload 7, 2) := by decide +kernel
theorem dX4_odds_97 : decode cX4_odds 97 = .ok (.lload 5, 2) := by decide +kernel
theorem dX4_odds_99 : decode cX4_odds 99 = .ok (.invokestatic 213, 3) := by decide +kernel
theorem dX4_odds_102 : decode cX4_odds 102 = .ok (.invokestatic 217, 3) := by decide +kernel
theorem dX4_odds_105 : decode cX4_odds 105 = .ok (.lstore 9, 2) := by decide +kernel
theorem dX4_odds_107 : decode cX4_odds 107 = .ok (.iload_n 2, 1) := by decide +kernel
theorem dX4_odds_108 : decode cX4_odds 108 = .ok (.ifCond .ne 11, 3) := by decide +kernel
theorem dX4_odds_111 : decode cX4_odds 111 = .ok (.lload 5, 2) := by decide +kernel
theorem dX4_odds_113 : decode cX4_odds 113 = .ok (.lload 9, 2) := by decide +kernel
theorem dX4_odds_115 : decode cX4_odds 115 = .ok (.ldiv, 1) := by decide +kernel
theorem dX4_odds_116 : decode cX4_odds 116 = .ok (.goto 8, 3) := by decide +kernel
theorem dX4_odds_119 : decode cX4_odds 119 = .ok (.lload 7, 2) := by decide +kernel
theorem dX4_odds_121 : decode cX4_odds 121 = .ok (.lload 9, 2) := by decide +kernel
theorem dX4_odds_123 : decode cX4_odds 123 = .ok (.ldiv, 1) := by decide +kernel
theorem dX4_odds_124 : decode cX4_odds 124 = .ok (.lreturn, 1) := by decide +kernel
theorem dX4_commonDivisor_0 : decode cX4_commonDivisor 0 = .ok (.lload_n 0, 1) := by decide +kernel
theorem dX4_commonDivisor_1 : decode cX4_commonDivisor 1 = .ok (.lstore 4, 2) := by decide +kernel
theorem dX4_commonDivisor_3 : decode cX4_commonDivisor 3 = .ok (.lload_n 2, 1) := by decide +kernel
theorem dX4_commonDivisor_4 : decode cX4_commonDivisor 4 = .ok (.lstore 6, 2) := by decide +kernel
theorem dX4_commonDivisor_6 : decode cX4_commonDivisor 6 = .ok (.iconst 0, 1) := by decide +kernel
theorem dX4_commonDivisor_7 : decode cX4_commonDivisor 7 = .ok (.istore 8, 2) := by decide +kernel
theorem dX4_commonDivisor_9 : decode cX4_commonDivisor 9 = .ok (.iload 8, 2) := by decide +kernel
theorem dX4_commonDivisor_11 : decode cX4_commonDivisor 11 = .ok (.sipush 200, 3) := by decide +kernel
theorem dX4_commonDivisor_14 : decode cX4_commonDivisor 14 = .ok (.if_icmp .ge 31, 3) := by decide +kernel
theorem dX4_commonDivisor_17 : decode cX4_commonDivisor 17 = .ok (.lload 6, 2) := by decide +kernel
theorem dX4_commonDivisor_19 : decode cX4_commonDivisor 19 = .ok (.lconst 0, 1) := by decide +kernel
theorem dX4_commonDivisor_20 : decode cX4_commonDivisor 20 = .ok (.lcmp, 1) := by decide +kernel
theorem dX4_commonDivisor_21 : decode cX4_commonDivisor 21 = .ok (.ifCond .eq 24, 3) := by decide +kernel
theorem dX4_commonDivisor_24 : decode cX4_commonDivisor 24 = .ok (.lload 4, 2) := by decide +kernel
theorem dX4_commonDivisor_26 : decode cX4_commonDivisor 26 = .ok (.lload 6, 2) := by decide +kernel
theorem dX4_commonDivisor_28 : decode cX4_commonDivisor 28 = .ok (.lrem, 1) := by decide +kernel
theorem dX4_commonDivisor_29 : decode cX4_commonDivisor 29 = .ok (.lstore 9, 2) := by decide +kernel
theorem dX4_commonDivisor_31 : decode cX4_commonDivisor 31 = .ok (.lload 6, 2) := by decide +kernel
theorem dX4_commonDivisor_33 : decode cX4_commonDivisor 33 = .ok (.lstore 4, 2) := by decide +kernel
theorem dX4_commonDivisor_35 : decode cX4_commonDivisor 35 = .ok (.lload 9, 2) := by decide +kernel
theorem dX4_commonDivisor_37 : decode cX4_commonDivisor 37 = .ok (.lstore 6, 2) := by decide +kernel
theorem dX4_commonDivisor_39 : decode cX4_commonDivisor 39 = .ok (.iinc 8 1, 3) := by decide +kernel
theorem dX4_commonDivisor_42 : decode cX4_commonDivisor 42 = .ok (.goto (-33), 3) := by decide +kernel
theorem dX4_commonDivisor_45 : decode cX4_commonDivisor 45 = .ok (.lload 4, 2) := by decide +kernel
theorem dX4_commonDivisor_47 : decode cX4_commonDivisor 47 = .ok (.lreturn, 1) := by decide +kernel
theorem dX4_seed_0 : decode cX4_seed 0 = .ok (.aload_n 0, 1) := by decide +kernel
theorem dX4_seed_1 : decode cX4_seed 1 = .ok (.getfield 10, 3) := by decide +kernel
theorem dX4_seed_4 : decode cX4_seed 4 = .ok (.getfield 219, 3) := by decide +kernel
theorem dX4_seed_7 : decode cX4_seed 7 = .ok (.istore_n 2, 1) := by decide +kernel
theorem dX4_seed_8 : decode cX4_seed 8 = .ok (.aload_n 0, 1) := by decide +kernel
theorem dX4_seed_9 : decode cX4_seed 9 = .ok (.getfield 10, 3) := by decide +kernel
theorem dX4_seed_12 : decode cX4_seed 12 = .ok (.iload_n 1, 1) := by decide +kernel
theorem dX4_seed_13 : decode cX4_seed 13 = .ok (.putfield 219, 3) := by decide +kernel
theorem dX4_seed_16 : decode cX4_seed 16 = .ok (.iload_n 2, 1) := by decide +kernel
theorem dX4_seed_17 : decode cX4_seed 17 = .ok (.ireturn, 1) := by decide +kernel
theorem dX4_feed_0 : decode cX4_feed 0 = .ok (.iload_n 2, 1) := by decide +kernel
theorem dX4_feed_1 : decode cX4_feed 1 = .ok (.iconst 1, 1) := by decide +kernel
theorem dX4_feed_2 : decode cX4_feed 2 = .ok (.if_icmp .lt 8, 3) := by decide +kernel
theorem dX4_feed_5 : decode cX4_feed 5 = .ok (.iload_n 2, 1) := by decide +kernel
theorem dX4_feed_6 : decode cX4_feed 6 = .ok (.iconst 4, 1) := by decide +kernel
theorem dX4_feed_7 : decode cX4_feed 7 = .ok (.if_icmp .le 9, 3) := by decide +kernel
theorem dX4_feed_10 : decode cX4_feed 10 = .ok (.aload_n 0, 1) := by decide +kernel
theorem dX4_feed_11 : decode cX4_feed 11 = .ok (.iconst 0, 1) := by decide +kernel
theorem dX4_feed_12 : decode cX4_feed 12 = .ok (.invokevirtual 56, 3) := by decide +kernel
theorem dX4_feed_15 : decode cX4_feed 15 = .ok (.ireturn, 1) := by decide +kernel
theorem dX4_feed_16 : decode cX4_feed 16 = .ok (.aload_n 0, 1) := by decide +kernel
theorem dX4_feed_17 : decode cX4_feed 17 = .ok (.getfield 35, 3) := by decide +kernel
theorem dX4_feed_20 : decode cX4_feed 20 = .ok (.getfield 222, 3) := by decide +kernel
theorem dX4_feed_23 : decode cX4_feed 23 = .ok (.bipush 120, 2) := by decide +kernel
theorem dX4_feed_25 : decode cX4_feed 25 = .ok (.iload_n 2, 1) := by decide +kernel
theorem dX4_feed_26 : decode cX4_feed 26 = .ok (.isub, 1) := by decide +kernel
theorem dX4_feed_27 : decode cX4_feed 27 = .ok (.if_icmp .le 9, 3) := by decide +kernel
theorem dX4_feed_30 : decode cX4_feed 30 = .ok (.aload_n 0, 1) := by decide +kernel
theorem dX4_feed_31 : decode cX4_feed 31 = .ok (.iconst 1, 1) := by decide +kernel
theorem dX4_feed_32 : decode cX4_feed 32 = .ok (.invokevirtual 56, 3) := by decide +kernel
theorem dX4_feed_35 : decode cX4_feed 35 = .ok (.ireturn, 1) := by decide +kernel
theorem dX4_feed_36 : decode cX4_feed 36 = .ok (.iload_n 2, 1) := by decide +kernel
theorem dX4_feed_37 : decode cX4_feed 37 = .ok (.iconst 1, 1) := by decide +kernel
theorem dX4_feed_38 : decode cX4_feed 38 = .ok (.isub, 1) := by decide +kernel
theorem dX4_feed_39 : decode cX4_feed 39 = .ok (.istore_n 3, 1) := by decide +kernel
theorem dX4_feed_40 : decode cX4_feed 40 = .ok (.iload_n 3, 1) := by decide +kernel
theorem dX4_feed_41 : decode cX4_feed 41 = .ok (.ifCond .lt 26, 3) := by decide +kernel
theorem dX4_feed_44 : decode cX4_feed 44 = .ok (.aload_n 0, 1) := by decide +kernel
theorem dX4_feed_45 : decode cX4_feed 45 = .ok (.getfield 35, 3) := by decide +kernel
theorem dX4_feed_48 : decode cX4_feed 48 = .ok (.iload_n 1, 1) := by decide +kernel
theorem dX4_feed_49 : decode cX4_feed 49 = .ok (.bipush 8, 2) := by decide +kernel
theorem dX4_feed_51 : decode cX4_feed 51 = .ok (.iload_n 3, 1) := by decide +kernel
theorem dX4_feed_52 : decode cX4_feed 52 = .ok (.imul, 1) := by decide +kernel
theorem dX4_feed_53 : decode cX4_feed 53 = .ok (.iushr, 1) := by decide +kernel
theorem dX4_feed_54 : decode cX4_feed 54 = .ok (.sipush 255, 3) := by decide +kernel
theorem dX4_feed_57 : decode cX4_feed 57 = .ok (.iand, 1) := by decide +kernel
theorem dX4_feed_58 : decode cX4_feed 58 = .ok (.invokevirtual 223, 3) := by decide +kernel
theorem dX4_feed_61 : decode cX4_feed 61 = .ok (.iinc 3 (-1), 3) := by decide +kernel
theorem dX4_feed_64 : decode cX4_feed 64 = .ok (.goto (-24), 3) := by decide +kernel
theorem dX4_feed_67 : decode cX4_feed 67 = .ok (.aload_n 0, 1) := by decide +kernel
theorem dX4_feed_68 : decode cX4_feed 68 = .ok (.getfield 35, 3) := by decide +kernel
theorem dX4_feed_71 : decode cX4_feed 71 = .ok (.getfield 222, 3) := by decide +kernel
theorem dX4_feed_74 : decode cX4_feed 74 = .ok (.ireturn, 1) := by decide +kernel
theorem dX4_wipe_0 : decode cX4_wipe 0 = .ok (.aload_n 0, 1) := by decide +kernel
theorem dX4_wipe_1 : decode cX4_wipe 1 = .ok (.getfield 35, 3) := by decide +kernel
theorem dX4_wipe_4 : decode cX4_wipe 4 = .ok (.getfield 222, 3) := by decide +kernel
theorem dX4_wipe_7 : decode cX4_wipe 7 = .ok (.istore_n 1, 1) := by decide +kernel
theorem dX4_wipe_8 : decode cX4_wipe 8 = .ok (.aload_n 0, 1) := by decide +kernel
theorem dX4_wipe_9 : decode cX4_wipe 9 = .ok (.getfield 35, 3) := by decide +kernel
theorem dX4_wipe_12 : decode cX4_wipe 12 = .ok (.iconst 0, 1) := by decide +kernel
theorem dX4_wipe_13 : decode cX4_wipe 13 = .ok (.putfield 222, 3) := by decide +kernel
theorem dX4_wipe_16 : decode cX4_wipe 16 = .ok (.iload_n 1, 1) := by decide +kernel
theorem dX4_wipe_17 : decode cX4_wipe 17 = .ok (.ireturn, 1) := by decide +kernel
theorem dX4_text_0 : decode cX4_text 0 = .ok (.aload_n 0, 1) := by decide +kernel
theorem dX4_text_1 : decode cX4_text 1 = .ok (.getfield 16, 3) := by decide +kernel
theorem dX4_text_4 : decode cX4_text 4 = .ok (.aload_n 0, 1) := by decide +kernel
theorem dX4_text_5 : decode cX4_text 5 = .ok (.getfield 10, 3) := by decide +kernel
theorem dX4_text_8 : decode cX4_text 8 = .ok (.invokevirtual 161, 3) := by decide +kernel
theorem dX4_text_11 : decode cX4_text 11 = .ok (.aload_n 0, 1) := by decide +kernel
theorem dX4_text_12 : decode cX4_text 12 = .ok (.getfield 35, 3) := by decide +kernel
theorem dX4_text_15 : decode cX4_text 15 = .ok (.aload_n 0, 1) := by decide +kernel
theorem dX4_text_16 : decode cX4_text 16 = .ok (.getfield 16, 3) := by decide +kernel
theorem dX4_text_19 : decode cX4_text 19 = .ok (.invokevirtual 226, 3) := by decide +kernel
theorem dX4_text_22 : decode cX4_text 22 = .ok (.istore_n 1, 1) := by decide +kernel
theorem dX4_text_23 : decode cX4_text 23 = .ok (.iload_n 1, 1) := by decide +kernel
theorem dX4_text_24 : decode cX4_text 24 = .ok (.ifCond .lt 14, 3) := by decide +kernel
theorem dX4_text_27 : decode cX4_text 27 = .ok (.aload_n 0, 1) := by decide +kernel
theorem dX4_text_28 : decode cX4_text 28 = .ok (.getfield 10, 3) := by decide +kernel
theorem dX4_text_31 : decode cX4_text 31 = .ok (.aload_n 0, 1) := by decide +kernel
theorem dX4_text_32 : decode cX4_text 32 = .ok (.getfield 16, 3) := by decide +kernel
theorem dX4_text_35 : decode cX4_text 35 = .ok (.invokevirtual 161, 3) := by decide +kernel
theorem dX4_text_38 : decode cX4_text 38 = .ok (.aload_n 0, 1) := by decide +kernel
theorem dX4_text_39 : decode cX4_text 39 = .ok (.getfield 35, 3) := by decide +kernel
theorem dX4_text_42 : decode cX4_text 42 = .ok (.iconst 0, 1) := by decide +kernel
theorem dX4_text_43 : decode cX4_text 43 = .ok (.putfield 222, 3) := by decide +kernel
theorem dX4_text_46 : decode cX4_text 46 = .ok (.iload_n 1, 1) := by decide +kernel
theorem dX4_text_47 : decode cX4_text 47 = .ok (.ireturn, 1) := by decide +kernel
theorem dX4_hold_0 : decode cX4_hold 0 = .ok (.iload_n 1, 1) := by decide +kernel
theorem dX4_hold_1 : decode cX4_hold 1 = .ok (.bipush 9, 2) := by decide +kernel
theorem dX4_hold_3 : decode cX4_hold 3 = .ok (.invokestatic 52, 3) := by decide +kernel
theorem dX4_hold_6 : decode cX4_hold 6 = .ok (.ifCond .eq 16, 3) := by decide +kernel
theorem dX4_hold_9 : decode cX4_hold 9 = .ok (.iload_n 2, 1) := by decide +kernel
theorem dX4_hold_10 : decode cX4_hold 10 = .ok (.iconst (-1), 1) := by decide +kernel
theorem dX4_hold_11 : decode cX4_hold 11 = .ok (.if_icmp .eq 17, 3) := by decide +kernel
theorem dX4_hold_14 : decode cX4_hold 14 = .ok (.aload_n 0, 1) := by decide +kernel
theorem dX4_hold_15 : decode cX4_hold 15 = .ok (.iload_n 2, 1) := by decide +kernel
theorem dX4_hold_16 : decode cX4_hold 16 = .ok (.invokevirtual 93, 3) := by decide +kernel
theorem dX4_hold_19 : decode cX4_hold 19 = .ok (.ifCond .ne 9, 3) := by decide +kernel
theorem dX4_hold_22 : decode cX4_hold 22 = .ok (.aload_n 0, 1) := by decide +kernel
theorem dX4_hold_23 : decode cX4_hold 23 = .ok (.iconst 0, 1) := by decide +kernel
theorem dX4_hold_24 : decode cX4_hold 24 = .ok (.invokevirtual 56, 3) := by decide +kernel
theorem dX4_hold_27 : decode cX4_hold 27 = .ok (.ireturn, 1) := by decide +kernel
theorem dX4_hold_28 : decode cX4_hold 28 = .ok (.aload_n 0, 1) := by decide +kernel
theorem dX4_hold_29 : decode cX4_hold 29 = .ok (.getfield 10, 3) := by decide +kernel
theorem dX4_hold_32 : decode cX4_hold 32 = .ok (.getfield 230, 3) := by decide +kernel
theorem dX4_hold_35 : decode cX4_hold 35 = .ok (.iload_n 1, 1) := by decide +kernel
theorem dX4_hold_36 : decode cX4_hold 36 = .ok (.iload_n 2, 1) := by decide +kernel
theorem dX4_hold_37 : decode cX4_hold 37 = .ok (.iastore, 1) := by decide +kernel
theorem dX4_hold_38 : decode cX4_hold 38 = .ok (.iconst 1, 1) := by decide +kernel
theorem dX4_hold_39 : decode cX4_hold 39 = .ok (.ireturn, 1) := by decide +kernel
theorem dX4_as_0 : decode cX4_as 0 = .ok (.iload_n 1, 1) := by decide +kernel
theorem dX4_as_1 : decode cX4_as 1 = .ok (.bipush 9, 2) := by decide +kernel
theorem dX4_as_3 : decode cX4_as 3 = .ok (.invokestatic 52, 3) := by decide +kernel
theorem dX4_as_6 : decode cX4_as 6 = .ok (.ifCond .eq 10, 3) := by decide +kernel
theorem dX4_as_9 : decode cX4_as 9 = .ok (.iload_n 2, 1) := by decide +kernel
theorem dX4_as_10 : decode cX4_as 10 = .ok (.invokestatic 80, 3) := by decide +kernel
theorem dX4_as_13 : decode cX4_as 13 = .ok (.ifCond .ne 9, 3) := by decide +kernel
theorem dX4_as_16 : decode cX4_as 16 = .ok (.aload_n 0, 1) := by decide +kernel
theorem dX4_as_17 : decode cX4_as 17 = .ok (.iconst 0, 1) := by decide +kernel
theorem dX4_as_18 : decode cX4_as 18 = .ok (.invokevirtual 56, 3) := by decide +kernel
theorem dX4_as_21 : decode cX4_as 21 = .ok (.ireturn, 1) := by decide +kernel
theorem dX4_as_22 : decode cX4_as 22 = .ok (.aload_n 0, 1) := by decide +kernel
theorem dX4_as_23 : decode cX4_as 23 = .ok (.getfield 10, 3) := by decide +kernel
theorem dX4_as_26 : decode cX4_as 26 = .ok (.getfield 230, 3) := by decide +kernel
theorem dX4_as_29 : decode cX4_as 29 = .ok (.iload_n 1, 1) := by decide +kernel
theorem dX4_as_30 : decode cX4_as 30 = .ok (.iaload, 1) := by decide +kernel
theorem dX4_as_31 : decode cX4_as 31 = .ok (.istore_n 3, 1) := by decide +kernel
theorem dX4_as_32 : decode cX4_as 32 = .ok (.aload_n 0, 1) := by decide +kernel
theorem dX4_as_33 : decode cX4_as 33 = .ok (.iload_n 3, 1) := by decide +kernel
theorem dX4_as_34 : decode cX4_as 34 = .ok (.invokevirtual 93, 3) := by decide +kernel
theorem dX4_as_37 : decode cX4_as 37 = .ok (.ifCond .ne 9, 3) := by decide +kernel
theorem dX4_as_40 : decode cX4_as 40 = .ok (.aload_n 0, 1) := by decide +kernel
theorem dX4_as_41 : decode cX4_as 41 = .ok (.iconst 5, 1) := by decide +kernel
theorem dX4_as_42 : decode cX4_as 42 = .ok (.invokevirtual 56, 3) := by decide +kernel
theorem dX4_as_45 : decode cX4_as 45 = .ok (.ireturn, 1) := by decide +kernel
theorem dX4_as_46 : decode cX4_as 46 = .ok (.aload_n 0, 1) := by decide +kernel
theorem dX4_as_47 : decode cX4_as 47 = .ok (.getfield 10, 3) := by decide +kernel
theorem dX4_as_50 : decode cX4_as 50 = .ok (.getfield 116, 3) := by decide +kernel
theorem dX4_as_53 : decode cX4_as 53 = .ok (.iload_n 3, 1) := by decide +kernel
theorem dX4_as_54 : decode cX4_as 54 = .ok (.iaload, 1) := by decide +kernel
theorem dX4_as_55 : decode cX4_as 55 = .ok (.iload_n 2, 1) := by decide +kernel
theorem dX4_as_56 : decode cX4_as 56 = .ok (.invokestatic 233, 3) := by decide +kernel
theorem dX4_as_59 : decode cX4_as 59 = .ok (.ifCond .eq 7, 3) := by decide +kernel
theorem dX4_as_62 : decode cX4_as 62 = .ok (.iload_n 3, 1) := by decide +kernel
theorem dX4_as_63 : decode cX4_as 63 = .ok (.goto 8, 3) := by decide +kernel
theorem dX4_as_66 : decode cX4_as 66 = .ok (.aload_n 0, 1) := by decide +kernel
theorem dX4_as_67 : decode cX4_as 67 = .ok (.iconst 2, 1) := by decide +kernel
theorem dX4_as_68 : decode cX4_as 68 = .ok (.invokevirtual 56, 3) := by decide +kernel
theorem dX4_as_71 : decode cX4_as 71 = .ok (.ireturn, 1) := by decide +kernel
theorem dX4_sheet_0 : decode cX4_sheet 0 = .ok (.iload_n 1, 1) := by decide +kernel
theorem dX4_sheet_1 : decode cX4_sheet 1 = .ok (.invokestatic 192, 3) := by decide +kernel
theorem dX4_sheet_4 : decode cX4_sheet 4 = .ok (.ifCond .eq 25, 3) := by decide +kernel
theorem dX4_sheet_7 : decode cX4_sheet 7 = .ok (.iload_n 2, 1) := by decide +kernel
theorem dX4_sheet_8 : decode cX4_sheet 8 = .ok (.ifCond .eq 27, 3) := by decide +kernel
theorem dX4_sheet_11 : decode cX4_sheet 11 = .ok (.iload_n 2, 1) := by decide +kernel
theorem dX4_sheet_12 : decode cX4_sheet 12 = .ok (.bipush 8, 2) := by decide +kernel
theorem dX4_sheet_14 : decode cX4_sheet 14 = .ok (.if_icmp .eq 21, 3) := by decide +kernel
theorem dX4_sheet_17 : decode cX4_sheet 17 = .ok (.iload_n 2, 1) := by decide +kernel
theorem dX4_sheet_18 : decode cX4_sheet 18 = .ok (.bipush 16, 2) := by decide +kernel
theorem dX4_sheet_20 : decode cX4_sheet 20 = .ok (.if_icmp .eq 15, 3) := by decide +kernel
theorem dX4_sheet_23 : decode cX4_sheet 23 = .ok (.iload_n 2, 1) := by decide +kernel
theorem dX4_sheet_24 : decode cX4_sheet 24 = .ok (.bipush 32, 2) := by decide +kernel
theorem dX4_sheet_26 : decode cX4_sheet 26 = .ok (.if_icmp .eq 9, 3) := by decide +kernel
theorem dX4_sheet_29 : decode cX4_sheet 29 = .ok (.aload_n 0, 1) := by decide +kernel
theorem dX4_sheet_30 : decode cX4_sheet 30 = .ok (.iconst 0, 1) := by decide +kernel
theorem dX4_sheet_31 : decode cX4_sheet 31 = .ok (.invokevirtual 56, 3) := by decide +kernel
theorem dX4_sheet_34 : decode cX4_sheet 34 = .ok (.ireturn, 1) := by decide +kernel
theorem dX4_sheet_35 : decode cX4_sheet 35 = .ok (.iload_n 3, 1) := by decide +kernel
theorem dX4_sheet_36 : decode cX4_sheet 36 = .ok (.ifCond .ge 10, 3) := by decide +kernel
theorem dX4_sheet_39 : decode cX4_sheet 39 = .ok (.aload_n 0, 1) := by decide +kernel
theorem dX4_sheet_40 : decode cX4_sheet 40 = .ok (.bipush 6, 2) := by decide +kernel
theorem dX4_sheet_42 : decode cX4_sheet 42 = .ok (.invokevirtual 56, 3) := by decide +kernel
theorem dX4_sheet_45 : decode cX4_sheet 45 = .ok (.ireturn, 1) := by decide +kernel
theorem dX4_sheet_46 : decode cX4_sheet 46 = .ok (.iload_n 3, 1) := by decide +kernel
theorem dX4_sheet_47 : decode cX4_sheet 47 = .ok (.bipush 40, 2) := by decide +kernel
theorem dX4_sheet_49 : decode cX4_sheet 49 = .ok (.if_icmp .le 9, 3) := by decide +kernel
theorem dX4_sheet_52 : decode cX4_sheet 52 = .ok (.aload_n 0, 1) := by decide +kernel
theorem dX4_sheet_53 : decode cX4_sheet 53 = .ok (.iconst 0, 1) := by decide +kernel
theorem dX4_sheet_54 : decode cX4_sheet 54 = .ok (.invokevirtual 56, 3) := by decide +kernel
theorem dX4_sheet_57 : decode cX4_sheet 57 = .ok (.ireturn, 1) := by decide +kernel
theorem dX4_sheet_58 : decode cX4_sheet 58 = .ok (.aload_n 0, 1) := by decide +kernel
theorem dX4_sheet_59 : decode cX4_sheet 59 = .ok (.getfield 28, 3) := by decide +kernel
theorem dX4_sheet_62 : decode cX4_sheet 62 = .ok (.iload_n 1, 1) := by decide +kernel
theorem dX4_sheet_63 : decode cX4_sheet 63 = .ok (.aaload, 1) := by decide +kernel
theorem dX4_sheet_64 : decode cX4_sheet 64 = .ok (.iload_n 2, 1) := by decide +kernel
theorem dX4_sheet_65 : decode cX4_sheet 65 = .ok (.iload_n 3, 1) := by decide +kernel
theorem dX4_sheet_66 : decode cX4_sheet 66 = .ok (.invokevirtual 236, 3) := by decide +kernel
theorem dX4_sheet_69 : decode cX4_sheet 69 = .ok (.aload_n 0, 1) := by decide +kernel
theorem dX4_sheet_70 : decode cX4_sheet 70 = .ok (.getfield 28, 3) := by decide +kernel
theorem dX4_sheet_73 : decode cX4_sheet 73 = .ok (.iload_n 1, 1) := by decide +kernel
theorem dX4_sheet_74 : decode cX4_sheet 74 = .ok (.aaload, 1) := by decide +kernel
theorem dX4_sheet_75 : decode cX4_sheet 75 = .ok (.getfield 198, 3) := by decide +kernel
theorem dX4_sheet_78 : decode cX4_sheet 78 = .ok (.ireturn, 1) := by decide +kernel
theorem dX4_write_0 : decode cX4_write 0 = .ok (.iload_n 1, 1) := by decide +kernel
theorem dX4_write_1 : decode cX4_write 1 = .ok (.invokestatic 192, 3) := by decide +kernel
theorem dX4_write_4 : decode cX4_write 4 = .ok (.ifCond .ne 9, 3) := by decide +kernel
theorem dX4_write_7 : decode cX4_write 7 = .ok (.aload_n 0, 1) := by decide +kernel
theorem dX4_write_8 : decode cX4_write 8 = .ok (.iconst 0, 1) := by decide +kernel
theorem dX4_write_9 : decode cX4_write 9 = .ok (.invokevirtual 56, 3) := by decide +kernel
theorem dX4_write_12 : decode cX4_write 12 = .ok (.ireturn, 1) := by decide +kernel
theorem dX4_write_13 : decode cX4_write 13 = .ok (.aload_n 0, 1) := by decide +kernel
theorem dX4_write_14 : decode cX4_write 14 = .ok (.getfield 28, 3) := by decide +kernel
theorem dX4_write_17 : decode cX4_write 17 = .ok (.iload_n 1, 1) := by decide +kernel
theorem dX4_write_18 : decode cX4_write 18 = .ok (.aaload, 1) := by decide +kernel
theorem dX4_write_19 : decode cX4_write 19 = .ok (.astore 4, 2) := by decide +kernel
theorem dX4_write_21 : decode cX4_write 21 = .ok (.aload 4, 2) := by decide +kernel
theorem dX4_write_23 : decode cX4_write 23 = .ok (.invokevirtual 195, 3) := by decide +kernel
theorem dX4_write_26 : decode cX4_write 26 = .ok (.ifCond .eq 9, 3) := by decide +kernel
theorem dX4_write_29 : decode cX4_write 29 = .ok (.aload_n 0, 1) := by decide +kernel
theorem dX4_write_30 : decode cX4_write 30 = .ok (.iconst 5, 1) := by decide +kernel
theorem dX4_write_31 : decode cX4_write 31 = .ok (.invokevirtual 56, 3) := by decide +kernel
theorem dX4_write_34 : decode cX4_write 34 = .ok (.ireturn, 1) := by decide +kernel
theorem dX4_write_35 : decode cX4_write 35 = .ok (.iload_n 2, 1) := by decide +kernel
theorem dX4_write_36 : decode cX4_write 36 = .ok (.ifCond .lt 12, 3) := by decide +kernel
theorem dX4_write_39 : decode cX4_write 39 = .ok (.iload_n 2, 1) := by decide +kernel
theorem dX4_write_40 : decode cX4_write 40 = .ok (.aload 4, 2) := by decide +kernel
theorem dX4_write_42 : decode cX4_write 42 = .ok (.getfield 198, 3) := by decide +kernel
theorem dX4_write_45 : decode cX4_write 45 = .ok (.if_icmp .lt 9, 3) := by decide +kernel
theorem dX4_write_48 : decode cX4_write 48 = .ok (.aload_n 0, 1) := by decide +kernel
theorem dX4_write_49 : decode cX4_write 49 = .ok (.iconst 0, 1) := by decide +kernel
theorem dX4_write_50 : decode cX4_write 50 = .ok (.invokevirtual 56, 3) := by decide +kernel
theorem dX4_write_53 : decode cX4_write 53 = .ok (.ireturn, 1) := by decide +kernel
theorem dX4_write_54 : decode cX4_write 54 = .ok (.aload 4, 2) := by decide +kernel
theorem dX4_write_56 : decode cX4_write 56 = .ok (.getfield 201, 3) := by decide +kernel
theorem dX4_write_59 : decode cX4_write 59 = .ok (.iload_n 2, 1) := by decide +kernel
theorem dX4_write_60 : decode cX4_write 60 = .ok (.aload 4, 2) := by decide +kernel
theorem dX4_write_62 : decode cX4_write 62 = .ok (.iload_n 3, 1) := by decide +kernel
theorem dX4_write_63 : decode cX4_write 63 = .ok (.invokevirtual 239, 3) := by decide +kernel
theorem dX4_write_66 : decode cX4_write 66 = .ok (.iastore, 1) := by decide +kernel
theorem dX4_write_67 : decode cX4_write 67 = .ok (.iconst 1, 1) := by decide +kernel
theorem dX4_write_68 : decode cX4_write 68 = .ok (.ireturn, 1) := by decide +kernel
theorem dX4_copy_0 : decode cX4_copy 0 = .ok (.iload_n 1, 1) := by decide +kernel
theorem dX4_copy_1 : decode cX4_copy 1 = .ok (.invokestatic 192, 3) := by decide +kernel
theorem dX4_copy_4 : decode cX4_copy 4 = .ok (.ifCond .eq 10, 3) := by decide +kernel
theorem dX4_copy_7 : decode cX4_copy 7 = .ok (.iload_n 3, 1) := by decide +kernel
theorem dX4_copy_8 : decode cX4_copy 8 = .ok (.invokestatic 192, 3) := by decide +kernel
theorem dX4_copy_11 : decode cX4_copy 11 = .ok (.ifCond .ne 9, 3) := by decide +kernel
theorem dX4_copy_14 : decode cX4_copy 14 = .ok (.aload_n 0, 1) := by decide +kernel
theorem dX4_copy_15 : decode cX4_copy 15 = .ok (.iconst 0, 1) := by decide +kernel
theorem dX4_copy_16 : decode cX4_copy 16 = .ok (.invokevirtual 56, 3) := by decide +kernel
theorem dX4_copy_19 : decode cX4_copy 19 = .ok (.ireturn, 1) := by decide +kernel
theorem dX4_copy_20 : decode cX4_copy 20 = .ok (.aload_n 0, 1) := by decide +kernel
theorem dX4_copy_21 : decode cX4_copy 21 = .ok (.getfield 28, 3) := by decide +kernel
theorem dX4_copy_24 : decode cX4_copy 24 = .ok (.iload_n 1, 1) := by decide +kernel
theorem dX4_copy_25 : decode cX4_copy 25 = .ok (.aaload, 1) := by decide +kernel
theorem dX4_copy_26 : decode cX4_copy 26 = .ok (.astore 6, 2) := by decide +kernel
theorem dX4_copy_28 : decode cX4_copy 28 = .ok (.aload_n 0, 1) := by decide +kernel
theorem dX4_copy_29 : decode cX4_copy 29 = .ok (.getfield 28, 3) := by decide +kernel
theorem dX4_copy_32 : decode cX4_copy 32 = .ok (.iload_n 3, 1) := by decide +kernel
theorem dX4_copy_33 : decode cX4_copy 33 = .ok (.aaload, 1) := by decide +kernel
theorem dX4_copy_34 : decode cX4_copy 34 = .ok (.astore 7, 2) := by decide +kernel
theorem dX4_copy_36 : decode cX4_copy 36 = .ok (.aload 6, 2) := by decide +kernel
theorem dX4_copy_38 : decode cX4_copy 38 = .ok (.invokevirtual 195, 3) := by decide +kernel
theorem dX4_copy_41 : decode cX4_copy 41 = .ok (.ifCond .ne 11, 3) := by decide +kernel
theorem dX4_copy_44 : decode cX4_copy 44 = .ok (.aload 7, 2) := by decide +kernel
theorem dX4_copy_46 : decode cX4_copy 46 = .ok (.invokevirtual 195, 3) := by decide +kernel
theorem dX4_copy_49 : decode cX4_copy 49 = .ok (.ifCond .eq 9, 3) := by decide +kernel
theorem dX4_copy_52 : decode cX4_copy 52 = .ok (.aload_n 0, 1) := by decide +kernel
theorem dX4_copy_53 : decode cX4_copy 53 = .ok (.iconst 5, 1) := by decide +kernel
theorem dX4_copy_54 : decode cX4_copy 54 = .ok (.invokevirtual 56, 3) := by decide +kernel
theorem dX4_copy_57 : decode cX4_copy 57 = .ok (.ireturn, 1) := by decide +kernel
theorem dX4_copy_58 : decode cX4_copy 58 = .ok (.aload 6, 2) := by decide +kernel
theorem dX4_copy_60 : decode cX4_copy 60 = .ok (.getfield 242, 3) := by decide +kernel
theorem dX4_copy_63 : decode cX4_copy 63 = .ok (.aload 7, 2) := by decide +kernel
theorem dX4_copy_65 : decode cX4_copy 65 = .ok (.getfield 242, 3) := by decide +kernel
theorem dX4_copy_68 : decode cX4_copy 68 = .ok (.if_icmp .eq 9, 3) := by decide +kernel
theorem dX4_copy_71 : decode cX4_copy 71 = .ok (.aload_n 0, 1) := by decide +kernel
theorem dX4_copy_72 : decode cX4_copy 72 = .ok (.iconst 2, 1) := by decide +kernel
theorem dX4_copy_73 : decode cX4_copy 73 = .ok (.invokevirtual 56, 3) := by decide +kernel
theorem dX4_copy_76 : decode cX4_copy 76 = .ok (.ireturn, 1) := by decide +kernel
theorem dX4_copy_77 : decode cX4_copy 77 = .ok (.aload 6, 2) := by decide +kernel
theorem dX4_copy_79 : decode cX4_copy 79 = .ok (.iload_n 2, 1) := by decide +kernel
theorem dX4_copy_80 : decode cX4_copy 80 = .ok (.iload 5, 2) := by decide +kernel
theorem dX4_copy_82 : decode cX4_copy 82 = .ok (.invokevirtual 245, 3) := by decide +kernel
theorem dX4_copy_85 : decode cX4_copy 85 = .ok (.ifCond .eq 15, 3) := by decide +kernel
theorem dX4_copy_88 : decode cX4_copy 88 = .ok (.aload 7, 2) := by decide +kernel
theorem dX4_copy_90 : decode cX4_copy 90 = .ok (.iload 4, 2) := by decide +kernel
theorem dX4_copy_92 : decode cX4_copy 92 = .ok (.iload 5, 2) := by decide +kernel
theorem dX4_copy_94 : decode cX4_copy 94 = .ok (.invokevirtual 245, 3) := by decide +kernel
theorem dX4_copy_97 : decode cX4_copy 97 = .ok (.ifCond .ne 9, 3) := by decide +kernel
theorem dX4_copy_100 : decode cX4_copy 100 = .ok (.aload_n 0, 1) := by decide +kernel
theorem dX4_copy_101 : decode cX4_copy 101 = .ok (.iconst 0, 1) := by decide +kernel
theorem dX4_copy_102 : decode cX4_copy 102 = .ok (.invokevirtual 56, 3) := by decide +kernel
theorem dX4_copy_105 : decode cX4_copy 105 = .ok (.ireturn, 1) := by decide +kernel
theorem dX4_copy_106 : decode cX4_copy 106 = .ok (.aload 6, 2) := by decide +kernel
theorem dX4_copy_108 : decode cX4_copy 108 = .ok (.getfield 201, 3) := by decide +kernel
theorem dX4_copy_111 : decode cX4_copy 111 = .ok (.iload_n 2, 1) := by decide +kernel
theorem dX4_copy_112 : decode cX4_copy 112 = .ok (.aload 7, 2) := by decide +kernel
theorem dX4_copy_114 : decode cX4_copy 114 = .ok (.getfield 201, 3) := by decide +kernel
theorem dX4_copy_117 : decode cX4_copy 117 = .ok (.iload 4, 2) := by decide +kernel
theorem dX4_copy_119 : decode cX4_copy 119 = .ok (.iload 5, 2) := by decide +kernel
theorem dX4_copy_121 : decode cX4_copy 121 = .ok (.invokestatic 248, 3) := by decide +kernel
theorem dX4_copy_124 : decode cX4_copy 124 = .ok (.iload 5, 2) := by decide +kernel
theorem dX4_copy_126 : decode cX4_copy 126 = .ok (.ireturn, 1) := by decide +kernel
theorem dX4_load_0 : decode cX4_load 0 = .ok (.iload_n 1, 1) := by decide +kernel
theorem dX4_load_1 : decode cX4_load 1 = .ok (.invokestatic 192, 3) := by decide +kernel
theorem dX4_load_4 : decode cX4_load 4 = .ok (.ifCond .ne 9, 3) := by decide +kernel
theorem dX4_load_7 : decode cX4_load 7 = .ok (.aload_n 0, 1) := by decide +kernel
theorem dX4_load_8 : decode cX4_load 8 = .ok (.iconst 0, 1) := by decide +kernel
theorem dX4_load_9 : decode cX4_load 9 = .ok (.invokevirtual 56, 3) := by decide +kernel
theorem dX4_load_12 : decode cX4_load 12 = .ok (.ireturn, 1) := by decide +kernel
theorem dX4_load_13 : decode cX4_load 13 = .ok (.aload_n 0, 1) := by decide +kernel
theorem dX4_load_14 : decode cX4_load 14 = .ok (.getfield 28, 3) := by decide +kernel
theorem dX4_load_17 : decode cX4_load 17 = .ok (.iload_n 1, 1) := by decide +kernel
theorem dX4_load_18 : decode cX4_load 18 = .ok (.aaload, 1) := by decide +kernel
theorem dX4_load_19 : decode cX4_load 19 = .ok (.astore_n 2, 1) := by decide +kernel
theorem dX4_load_20 : decode cX4_load 20 = .ok (.aload_n 2, 1) := by decide +kernel
theorem dX4_load_21 : decode cX4_load 21 = .ok (.invokevirtual 195, 3) := by decide +kernel
theorem dX4_load_24 : decode cX4_load 24 = .ok (.ifCond .eq 9, 3) := by decide +kernel
theorem dX4_load_27 : decode cX4_load 27 = .ok (.aload_n 0, 1) := by decide +kernel
theorem dX4_load_28 : decode cX4_load 28 = .ok (.iconst 5, 1) := by decide +kernel
theorem dX4_load_29 : decode cX4_load 29 = .ok (.invokevirtual 56, 3) := by decide +kernel
theorem dX4_load_32 : decode cX4_load 32 = .ok (.ireturn, 1) := by decide +kernel
theorem dX4_load_33 : decode cX4_load 33 = .ok (.iconst 0, 1) := by decide +kernel
theorem dX4_load_34 : decode cX4_load 34 = .ok (.istore_n 3, 1) := by decide +kernel
theorem dX4_load_35 : decode cX4_load 35 = .ok (.iload_n 3, 1) := by decide +kernel
theorem dX4_load_36 : decode cX4_load 36 = .ok (.aload_n 2, 1) := by decide +kernel
theorem dX4_load_37 : decode cX4_load 37 = .ok (.getfield 198, 3) := by decide +kernel
theorem dX4_load_40 : decode cX4_load 40 = .ok (.if_icmp .ge 45, 3) := by decide +kernel
theorem dX4_load_43 : decode cX4_load 43 = .ok (.iload_n 3, 1) := by decide +kernel
theorem dX4_load_44 : decode cX4_load 44 = .ok (.bipush 10, 2) := by decide +kernel
theorem dX4_load_46 : decode cX4_load 46 = .ok (.if_icmp .ge 39, 3) := by decide +kernel
theorem dX4_load_49 : decode cX4_load 49 = .ok (.aload_n 2, 1) := by decide +kernel
theorem dX4_load_50 : decode cX4_load 50 = .ok (.getfield 201, 3) := by decide +kernel
theorem dX4_load_53 : decode cX4_load 53 = .ok (.iload_n 3, 1) := by decide +kernel
theorem dX4_load_54 : decode cX4_load 54 = .ok (.iaload, 1) := by decide +kernel
theorem dX4_load_55 : decode cX4_load 55 = .ok (.sipush 999, 3) := by decide +kernel
theorem dX4_load_58 : decode cX4_load 58 = .ok (.invokestatic 52, 3) := by decide +kernel
theorem dX4_load_61 : decode cX4_load 61 = .ok (.ifCond .eq 24, 3) := by decide +kernel
theorem dX4_load_64 : decode cX4_load 64 = .ok (.aload_n 0, 1) := by decide +kernel
theorem dX4_load_65 : decode cX4_load 65 = .ok (.getfield 10, 3) := by decide +kernel
theorem dX4_load_68 : decode cX4_load 68 = .ok (.getfield 60, 3) := by decide +kernel
theorem dX4_load_71 : decode cX4_load 71 = .ok (.iload_n 3, 1) := by decide +kernel
theorem dX4_load_72 : decode cX4_load 72 = .ok (.aload_n 2, 1) := by decide +kernel
theorem dX4_load_73 : decode cX4_load 73 = .ok (.getfield 201, 3) := by decide +kernel
theorem dX4_load_76 : decode cX4_load 76 = .ok (.iload_n 3, 1) := by decide +kernel
theorem dX4_load_77 : decode cX4_load 77 = .ok (.iaload, 1) := by decide +kernel
theorem dX4_load_78 : decode cX4_load 78 = .ok (.iastore, 1) := by decide +kernel
theorem dX4_load_79 : decode cX4_load 79 = .ok (.iinc 3 1, 3) := by decide +kernel
theorem dX4_load_82 : decode cX4_load 82 = .ok (.goto (-47), 3) := by decide +kernel
theorem dX4_load_85 : decode cX4_load 85 = .ok (.iload_n 3, 1) := by decide +kernel
theorem dX4_load_86 : decode cX4_load 86 = .ok (.ireturn, 1) := by decide +kernel
theorem dX4_judge_0 : decode cX4_judge 0 = .ok (.iload_n 1, 1) := by decide +kernel
theorem dX4_judge_1 : decode cX4_judge 1 = .ok (.invokestatic 192, 3) := by decide +kernel
theorem dX4_judge_4 : decode cX4_judge 4 = .ok (.ifCond .ne 9, 3) := by decide +kernel
theorem dX4_judge_7 : decode cX4_judge 7 = .ok (.aload_n 0, 1) := by decide +kernel
theorem dX4_judge_8 : decode cX4_judge 8 = .ok (.iconst 0, 1) := by decide +kernel
theorem dX4_judge_9 : decode cX4_judge 9 = .ok (.invokevirtual 56, 3) := by decide +kernel
theorem dX4_judge_12 : decode cX4_judge 12 = .ok (.ireturn, 1) := by decide +kernel
theorem dX4_judge_13 : decode cX4_judge 13 = .ok (.aload_n 0, 1) := by decide +kernel
theorem dX4_judge_14 : decode cX4_judge 14 = .ok (.getfield 28, 3) := by decide +kernel
theorem dX4_judge_17 : decode cX4_judge 17 = .ok (.iload_n 1, 1) := by decide +kernel
theorem dX4_judge_18 : decode cX4_judge 18 = .ok (.aaload, 1) := by decide +kernel
theorem dX4_judge_19 : decode cX4_judge 19 = .ok (.astore_n 2, 1) := by decide +kernel
theorem dX4_judge_20 : decode cX4_judge 20 = .ok (.aload_n 2, 1) := by decide +kernel
theorem dX4_judge_21 : decode cX4_judge 21 = .ok (.invokevirtual 195, 3) := by decide +kernel
theorem dX4_judge_24 : decode cX4_judge 24 = .ok (.ifCond .eq 9, 3) := by decide +kernel
theorem dX4_judge_27 : decode cX4_judge 27 = .ok (.aload_n 0, 1) := by decide +kernel
theorem dX4_judge_28 : decode cX4_judge 28 = .ok (.iconst 5, 1) := by decide +kernel
theorem dX4_judge_29 : decode cX4_judge 29 = .ok (.invokevirtual 56, 3) := by decide +kernel
theorem dX4_judge_32 : decode cX4_judge 32 = .ok (.ireturn, 1) := by decide +kernel
theorem dX4_judge_33 : decode cX4_judge 33 = .ok (.iconst 0, 1) := by decide +kernel
theorem dX4_judge_34 : decode cX4_judge 34 = .ok (.istore_n 3, 1) := by decide +kernel
theorem dX4_judge_35 : decode cX4_judge 35 = .ok (.iload_n 3, 1) := by decide +kernel
theorem dX4_judge_36 : decode cX4_judge 36 = .ok (.aload_n 2, 1) := by decide +kernel
theorem dX4_judge_37 : decode cX4_judge 37 = .ok (.getfield 198, 3) := by decide +kernel
theorem dX4_judge_40 : decode cX4_judge 40 = .ok (.if_icmp .ge 39, 3) := by decide +kernel
theorem dX4_judge_43 : decode cX4_judge 43 = .ok (.aload_n 0, 1) := by decide +kernel
theorem dX4_judge_44 : decode cX4_judge 44 = .ok (.iload_n 3, 1) := by decide +kernel
theorem dX4_judge_45 : decode cX4_judge 45 = .ok (.invokevirtual 93, 3) := by decide +kernel
theorem dX4_judge_48 : decode cX4_judge 48 = .ok (.ifCond .eq 21, 3) := by decide +kernel
theorem dX4_judge_51 : decode cX4_judge 51 = .ok (.aload_n 2, 1) := by decide +kernel
theorem dX4_judge_52 : decode cX4_judge 52 = .ok (.getfield 201, 3) := by decide +kernel
theorem dX4_judge_55 : decode cX4_judge 55 = .ok (.iload_n 3, 1) := by decide +kernel
theorem dX4_judge_56 : decode cX4_judge 56 = .ok (.iaload, 1) := by decide +kernel
theorem dX4_judge_57 : decode cX4_judge 57 = .ok (.aload_n 0, 1) := by decide +kernel
theorem dX4_judge_58 : decode cX4_judge 58 = .ok (.getfield 10, 3) := by decide +kernel
theorem dX4_judge_61 : decode cX4_judge 61 = .ok (.getfield 165, 3) := by decide +kernel
theorem dX4_judge_64 : decode cX4_judge 64 = .ok (.iload_n 3, 1) := by decide +kernel
theorem dX4_judge_65 : decode cX4_judge 65 = .ok (.iaload, 1) := by decide +kernel
theorem dX4_judge_66 : decode cX4_judge 66 = .ok (.if_icmp .eq 7, 3) := by decide +kernel
theorem dX4_judge_69 : decode cX4_judge 69 = .ok (.iconst 1, 1) := by decide +kernel
theorem dX4_judge_70 : decode cX4_judge 70 = .ok (.iload_n 3, 1) := by decide +kernel
theorem dX4_judge_71 : decode cX4_judge 71 = .ok (.iadd, 1) := by decide +kernel
theorem dX4_judge_72 : decode cX4_judge 72 = .ok (.ireturn, 1) := by decide +kernel
theorem dX4_judge_73 : decode cX4_judge 73 = .ok (.iinc 3 1, 3) := by decide +kernel
theorem dX4_judge_76 : decode cX4_judge 76 = .ok (.goto (-41), 3) := by decide +kernel
theorem dX4_judge_79 : decode cX4_judge 79 = .ok (.iconst 0, 1) := by decide +kernel
theorem dX4_judge_80 : decode cX4_judge 80 = .ok (.ireturn, 1) := by decide +kernel
theorem dX4_image_0 : decode cX4_image 0 = .ok (.aload_n 0, 1) := by decide +kernel
theorem dX4_image_1 : decode cX4_image 1 = .ok (.getfield 19, 3) := by decide +kernel
theorem dX4_image_4 : decode cX4_image 4 = .ok (.aload_n 0, 1) := by decide +kernel
theorem dX4_image_5 : decode cX4_image 5 = .ok (.getfield 10, 3) := by decide +kernel
theorem dX4_image_8 : decode cX4_image 8 = .ok (.invokevirtual 161, 3) := by decide +kernel
theorem dX4_image_11 : decode cX4_image 11 = .ok (.aload_n 0, 1) := by decide +kernel
theorem dX4_image_12 : decode cX4_image 12 = .ok (.iconst 1, 1) := by decide +kernel
theorem dX4_image_13 : decode cX4_image 13 = .ok (.putfield 22, 3) := by decide +kernel
theorem dX4_image_16 : decode cX4_image 16 = .ok (.iconst 1, 1) := by decide +kernel
theorem dX4_image_17 : decode cX4_image 17 = .ok (.ireturn, 1) := by decide +kernel
theorem dX4_undo_0 : decode cX4_undo 0 = .ok (.aload_n 0, 1) := by decide +kernel
theorem dX4_undo_1 : decode cX4_undo 1 = .ok (.getfield 22, 3) := by decide +kernel
theorem dX4_undo_4 : decode cX4_undo 4 = .ok (.ifCond .ne 9, 3) := by decide +kernel
theorem dX4_undo_7 : decode cX4_undo 7 = .ok (.aload_n 0, 1) := by decide +kernel
theorem dX4_undo_8 : decode cX4_undo 8 = .ok (.iconst 3, 1) := by decide +kernel
theorem dX4_undo_9 : decode cX4_undo 9 = .ok (.invokevirtual 56, 3) := by decide +kernel
theorem dX4_undo_12 : decode cX4_undo 12 = .ok (.ireturn, 1) := by decide +kernel
theorem dX4_undo_13 : decode cX4_undo 13 = .ok (.aload_n 0, 1) := by decide +kernel
theorem dX4_undo_14 : decode cX4_undo 14 = .ok (.getfield 10, 3) := by decide +kernel
theorem dX4_undo_17 : decode cX4_undo 17 = .ok (.aload_n 0, 1) := by decide +kernel
theorem dX4_undo_18 : decode cX4_undo 18 = .ok (.getfield 19, 3) := by decide +kernel
theorem dX4_undo_21 : decode cX4_undo 21 = .ok (.invokevirtual 161, 3) := by decide +kernel
theorem dX4_undo_24 : decode cX4_undo 24 = .ok (.aload_n 0, 1) := by decide +kernel
theorem dX4_undo_25 : decode cX4_undo 25 = .ok (.getfield 10, 3) := by decide +kernel
theorem dX4_undo_28 : decode cX4_undo 28 = .ok (.getfield 136, 3) := by decide +kernel
theorem dX4_undo_31 : decode cX4_undo 31 = .ok (.ireturn, 1) := by decide +kernel
theorem dX4_tear_0 : decode cX4_tear 0 = .ok (.aload_n 0, 1) := by decide +kernel
theorem dX4_tear_1 : decode cX4_tear 1 = .ok (.getfield 22, 3) := by decide +kernel
theorem dX4_tear_4 : decode cX4_tear 4 = .ok (.ifCond .eq 7, 3) := by decide +kernel
theorem dX4_tear_7 : decode cX4_tear 7 = .ok (.iconst 1, 1) := by decide +kernel
theorem dX4_tear_8 : decode cX4_tear 8 = .ok (.goto 4, 3) := by decide +kernel
theorem dX4_tear_11 : decode cX4_tear 11 = .ok (.iconst 0, 1) := by decide +kernel
theorem dX4_tear_12 : decode cX4_tear 12 = .ok (.istore_n 1, 1) := by decide +kernel
theorem dX4_tear_13 : decode cX4_tear 13 = .ok (.aload_n 0, 1) := by decide +kernel
theorem dX4_tear_14 : decode cX4_tear 14 = .ok (.iconst 0, 1) := by decide +kernel
theorem dX4_tear_15 : decode cX4_tear 15 = .ok (.putfield 22, 3) := by decide +kernel
theorem dX4_tear_18 : decode cX4_tear 18 = .ok (.iload_n 1, 1) := by decide +kernel
theorem dX4_tear_19 : decode cX4_tear 19 = .ok (.ireturn, 1) := by decide +kernel
theorem dX4_count_0 : decode cX4_count 0 = .ok (.iload_n 1, 1) := by decide +kernel
theorem dX4_count_1 : decode cX4_count 1 = .ok (.tableswitch 113 0 7 #[47, 55, 63, 71, 80, 89, 97, 105], 47) := by decide +kernel
theorem dX4_count_48 : decode cX4_count 48 = .ok (.aload_n 0, 1) := by decide +kernel
theorem dX4_count_49 : decode cX4_count 49 = .ok (.getfield 10, 3) := by decide +kernel
theorem dX4_count_52 : decode cX4_count 52 = .ok (.getfield 136, 3) := by decide +kernel
theorem dX4_count_55 : decode cX4_count 55 = .ok (.ireturn, 1) := by decide +kernel
theorem dX4_count_56 : decode cX4_count 56 = .ok (.aload_n 0, 1) := by decide +kernel
theorem dX4_count_57 : decode cX4_count 57 = .ok (.getfield 10, 3) := by decide +kernel
theorem dX4_count_60 : decode cX4_count 60 = .ok (.getfield 182, 3) := by decide +kernel
theorem dX4_count_63 : decode cX4_count 63 = .ok (.ireturn, 1) := by decide +kernel
theorem dX4_count_64 : decode cX4_count 64 = .ok (.aload_n 0, 1) := by decide +kernel
theorem dX4_count_65 : decode cX4_count 65 = .ok (.getfield 10, 3) := by decide +kernel
theorem dX4_count_68 : decode cX4_count 68 = .ok (.invokevirtual 148, 3) := by decide +kernel
theorem dX4_count_71 : decode cX4_count 71 = .ok (.ireturn, 1) := by decide +kernel
theorem dX4_count_72 : decode cX4_count 72 = .ok (.aload_n 0, 1) := by decide +kernel
theorem dX4_count_73 : decode cX4_count 73 = .ok (.getfield 10, 3) := by decide +kernel
theorem dX4_count_76 : decode cX4_count 76 = .ok (.iconst 4, 1) := by decide +kernel
theorem dX4_count_77 : decode cX4_count 77 = .ok (.invokevirtual 145, 3) := by decide +kernel
theorem dX4_count_80 : decode cX4_count 80 = .ok (.ireturn, 1) := by decide +kernel
theorem dX4_count_81 : decode cX4_count 81 = .ok (.aload_n 0, 1) := by decide +kernel
theorem dX4_count_82 : decode cX4_count 82 = .ok (.getfield 10, 3) := by decide +kernel
theorem dX4_count_85 : decode cX4_count 85 = .ok (.iconst 3, 1) := by decide +kernel
theorem dX4_count_86 : decode cX4_count 86 = .ok (.invokevirtual 145, 3) := by decide +kernel
theorem dX4_count_89 : decode cX4_count 89 = .ok (.ireturn, 1) := by decide +kernel
theorem dX4_count_90 : decode cX4_count 90 = .ok (.aload_n 0, 1) := by decide +kernel
theorem dX4_count_91 : decode cX4_count 91 = .ok (.getfield 35, 3) := by decide +kernel
theorem dX4_count_94 : decode cX4_count 94 = .ok (.getfield 222, 3) := by decide +kernel
theorem dX4_count_97 : decode cX4_count 97 = .ok (.ireturn, 1) := by decide +kernel
theorem dX4_count_98 : decode cX4_count 98 = .ok (.aload_n 0, 1) := by decide +kernel
theorem dX4_count_99 : decode cX4_count 99 = .ok (.getfield 10, 3) := by decide +kernel
theorem dX4_count_102 : decode cX4_count 102 = .ok (.getfield 219, 3) := by decide +kernel
theorem dX4_count_105 : decode cX4_count 105 = .ok (.ireturn, 1) := by decide +kernel
theorem dX4_count_106 : decode cX4_count 106 = .ok (.aload_n 0, 1) := by decide +kernel
theorem dX4_count_107 : decode cX4_count 107 = .ok (.getfield 10, 3) := by decide +kernel
theorem dX4_count_110 : decode cX4_count 110 = .ok (.invokevirtual 254, 3) := by decide +kernel
theorem dX4_count_113 : decode cX4_count 113 = .ok (.ireturn, 1) := by decide +kernel
theorem dX4_count_114 : decode cX4_count 114 = .ok (.aload_n 0, 1) := by decide +kernel
theorem dX4_count_115 : decode cX4_count 115 = .ok (.iconst 0, 1) := by decide +kernel
theorem dX4_count_116 : decode cX4_count 116 = .ok (.invokevirtual 56, 3) := by decide +kernel
theorem dX4_count_119 : decode cX4_count 119 = .ok (.ireturn, 1) := by decide +kernel
theorem dX4_status_0 : decode cX4_status 0 = .ok (.iload_n 1, 1) := by decide +kernel
theorem dX4_status_1 : decode cX4_status 1 = .ok (.iconst (-1), 1) := by decide +kernel
theorem dX4_status_2 : decode cX4_status 2 = .ok (.if_icmp .ne 30, 3) := by decide +kernel
theorem dX4_status_5 : decode cX4_status 5 = .ok (.iconst 0, 1) := by decide +kernel
theorem dX4_status_6 : decode cX4_status 6 = .ok (.istore_n 2, 1) := by decide +kernel
theorem dX4_status_7 : decode cX4_status 7 = .ok (.iconst 0, 1) := by decide +kernel
theorem dX4_status_8 : decode cX4_status 8 = .ok (.istore_n 3, 1) := by decide +kernel
theorem dX4_status_9 : decode cX4_status 9 = .ok (.iload_n 3, 1) := by decide +kernel
theorem dX4_status_10 : decode cX4_status 10 = .ok (.bipush 7, 2) := by decide +kernel
theorem dX4_status_12 : decode cX4_status 12 = .ok (.if_icmp .ge 18, 3) := by decide +kernel
theorem dX4_status_15 : decode cX4_status 15 = .ok (.iload_n 2, 1) := by decide +kernel
theorem dX4_status_16 : decode cX4_status 16 = .ok (.aload_n 0, 1) := by decide +kernel
theorem dX4_status_17 : decode cX4_status 17 = .ok (.getfield 39, 3) := by decide +kernel
theorem dX4_status_20 : decode cX4_status 20 = .ok (.iload_n 3, 1) := by decide +kernel
theorem dX4_status_21 : decode cX4_status 21 = .ok (.iaload, 1) := by decide +kernel
theorem dX4_status_22 : decode cX4_status 22 = .ok (.iadd, 1) := by decide +kernel
theorem dX4_status_23 : decode cX4_status 23 = .ok (.istore_n 2, 1) := by decide +kernel
theorem dX4_status_24 : decode cX4_status 24 = .ok (.iinc 3 1, 3) := by decide +kernel
theorem dX4_status_27 : decode cX4_status 27 = .ok (.goto (-18), 3) := by decide +kernel
theorem dX4_status_30 : decode cX4_status 30 = .ok (.iload_n 2, 1) := by decide +kernel
theorem dX4_status_31 : decode cX4_status 31 = .ok (.ireturn, 1) := by decide +kernel
theorem dX4_status_32 : decode cX4_status 32 = .ok (.iload_n 1, 1) := by decide +kernel
theorem dX4_status_33 : decode cX4_status 33 = .ok (.bipush 6, 2) := by decide +kernel
theorem dX4_status_35 : decode cX4_status 35 = .ok (.invokestatic 52, 3) := by decide +kernel
theorem dX4_status_38 : decode cX4_status 38 = .ok (.ifCond .eq 12, 3) := by decide +kernel
theorem dX4_status_41 : decode cX4_status 41 = .ok (.aload_n 0, 1) := by decide +kernel
theorem dX4_status_42 : decode cX4_status 42 = .ok (.getfield 39, 3) := by decide +kernel
theorem dX4_status_45 : decode cX4_status 45 = .ok (.iload_n 1, 1) := by decide +kernel
theorem dX4_status_46 : decode cX4_status 46 = .ok (.iaload, 1) := by decide +kernel
theorem dX4_status_47 : decode cX4_status 47 = .ok (.goto 8, 3) := by decide +kernel
theorem dX4_status_50 : decode cX4_status 50 = .ok (.aload_n 0, 1) := by decide +kernel
theorem dX4_status_51 : decode cX4_status 51 = .ok (.iconst 0, 1) := by decide +kernel
theorem dX4_status_52 : decode cX4_status 52 = .ok (.invokevirtual 56, 3) := by decide +kernel
theorem dX4_status_55 : decode cX4_status 55 = .ok (.ireturn, 1) := by decide +kernel
theorem dX4_finding_0 : decode cX4_finding 0 = .ok (.iload_n 1, 1) := by decide +kernel
theorem dX4_finding_1 : decode cX4_finding 1 = .ok (.bipush 6, 2) := by decide +kernel
theorem dX4_finding_3 : decode cX4_finding 3 = .ok (.invokestatic 52, 3) := by decide +kernel
theorem dX4_finding_6 : decode cX4_finding 6 = .ok (.ifCond .eq 13, 3) := by decide +kernel
theorem dX4_finding_9 : decode cX4_finding 9 = .ok (.aload_n 0, 1) := by decide +kernel
theorem dX4_finding_10 : decode cX4_finding 10 = .ok (.getfield 39, 3) := by decide +kernel
theorem dX4_finding_13 : decode cX4_finding 13 = .ok (.iload_n 1, 1) := by decide +kernel
theorem dX4_finding_14 : decode cX4_finding 14 = .ok (.dup2, 1) := by decide +kernel
theorem dX4_finding_15 : decode cX4_finding 15 = .ok (.iaload, 1) := by decide +kernel
theorem dX4_finding_16 : decode cX4_finding 16 = .ok (.iconst 1, 1) := by decide +kernel
theorem dX4_finding_17 : decode cX4_finding 17 = .ok (.iadd, 1) := by decide +kernel
theorem dX4_finding_18 : decode cX4_finding 18 = .ok (.iastore, 1) := by decide +kernel
theorem dX4_finding_19 : decode cX4_finding 19 = .ok (.ldc_w 257, 3) := by decide +kernel
theorem dX4_finding_22 : decode cX4_finding 22 = .ok (.iload_n 1, 1) := by decide +kernel
theorem dX4_finding_23 : decode cX4_finding 23 = .ok (.isub, 1) := by decide +kernel
theorem dX4_finding_24 : decode cX4_finding 24 = .ok (.ireturn, 1) := by decide +kernel
theorem dX4_isWriter_0 : decode cX4_isWriter 0 = .ok (.iload_n 1, 1) := by decide +kernel
theorem dX4_isWriter_1 : decode cX4_isWriter 1 = .ok (.ifCond .lt 18, 3) := by decide +kernel
theorem dX4_isWriter_4 : decode cX4_isWriter 4 = .ok (.iload_n 1, 1) := by decide +kernel
theorem dX4_isWriter_5 : decode cX4_isWriter 5 = .ok (.aload_n 0, 1) := by decide +kernel
theorem dX4_isWriter_6 : decode cX4_isWriter 6 = .ok (.getfield 10, 3) := by decide +kernel
theorem dX4_isWriter_9 : decode cX4_isWriter 9 = .ok (.getfield 182, 3) := by decide +kernel
theorem dX4_isWriter_12 : decode cX4_isWriter 12 = .ok (.if_icmp .ge 7, 3) := by decide +kernel
theorem dX4_isWriter_15 : decode cX4_isWriter 15 = .ok (.iconst 1, 1) := by decide +kernel
theorem dX4_isWriter_16 : decode cX4_isWriter 16 = .ok (.goto 4, 3) := by decide +kernel
theorem dX4_isWriter_19 : decode cX4_isWriter 19 = .ok (.iconst 0, 1) := by decide +kernel
theorem dX4_isWriter_20 : decode cX4_isWriter 20 = .ok (.ireturn, 1) := by decide +kernel
theorem dX4_isLetter_0 : decode cX4_isLetter 0 = .ok (.iload_n 0, 1) := by decide +kernel
theorem dX4_isLetter_1 : decode cX4_isLetter 1 = .ok (.bipush 9, 2) := by decide +kernel
theorem dX4_isLetter_3 : decode cX4_isLetter 3 = .ok (.invokestatic 52, 3) := by decide +kernel
theorem dX4_isLetter_6 : decode cX4_isLetter 6 = .ok (.ireturn, 1) := by decide +kernel
theorem dX4_isFish_0 : decode cX4_isFish 0 = .ok (.iload_n 0, 1) := by decide +kernel
theorem dX4_isFish_1 : decode cX4_isFish 1 = .ok (.iconst 5, 1) := by decide +kernel
theorem dX4_isFish_2 : decode cX4_isFish 2 = .ok (.invokestatic 52, 3) := by decide +kernel
theorem dX4_isFish_5 : decode cX4_isFish 5 = .ok (.ireturn, 1) := by decide +kernel
theorem dX4_isSheet_0 : decode cX4_isSheet 0 = .ok (.iload_n 0, 1) := by decide +kernel
theorem dX4_isSheet_1 : decode cX4_isSheet 1 = .ok (.iconst 3, 1) := by decide +kernel
theorem dX4_isSheet_2 : decode cX4_isSheet 2 = .ok (.invokestatic 52, 3) := by decide +kernel
theorem dX4_isSheet_5 : decode cX4_isSheet 5 = .ok (.ireturn, 1) := by decide +kernel
theorem dX4_within_0 : decode cX4_within 0 = .ok (.iload_n 0, 1) := by decide +kernel
theorem dX4_within_1 : decode cX4_within 1 = .ok (.ifCond .lt 12, 3) := by decide +kernel
theorem dX4_within_4 : decode cX4_within 4 = .ok (.iload_n 0, 1) := by decide +kernel
theorem dX4_within_5 : decode cX4_within 5 = .ok (.iload_n 1, 1) := by decide +kernel
theorem dX4_within_6 : decode cX4_within 6 = .ok (.if_icmp .gt 7, 3) := by decide +kernel
theorem dX4_within_9 : decode cX4_within 9 = .ok (.iconst 1, 1) := by decide +kernel
theorem dX4_within_10 : decode cX4_within 10 = .ok (.goto 4, 3) := by decide +kernel
theorem dX4_within_13 : decode cX4_within 13 = .ok (.iconst 0, 1) := by decide +kernel
theorem dX4_within_14 : decode cX4_within 14 = .ok (.ireturn, 1) := by decide +kernel
theorem dX4_digit_0 : decode cX4_digit 0 = .ok (.iload_n 0, 1) := by decide +kernel
theorem dX4_digit_1 : decode cX4_digit 1 = .ok (.getstatic 258, 3) := by decide +kernel
theorem dX4_digit_4 : decode cX4_digit 4 = .ok (.iload_n 1, 1) := by decide +kernel
theorem dX4_digit_5 : decode cX4_digit 5 = .ok (.iaload, 1) := by decide +kernel
theorem dX4_digit_6 : decode cX4_digit 6 = .ok (.idiv, 1) := by decide +kernel
theorem dX4_digit_7 : decode cX4_digit 7 = .ok (.bipush 10, 2) := by decide +kernel
theorem dX4_digit_9 : decode cX4_digit 9 = .ok (.irem, 1) := by decide +kernel
theorem dX4_digit_10 : decode cX4_digit 10 = .ok (.ireturn, 1) := by decide +kernel
theorem dX4_bone_0 : decode cX4_bone 0 = .ok (.iload_n 0, 1) := by decide +kernel
theorem dX4_bone_1 : decode cX4_bone 1 = .ok (.getstatic 258, 3) := by decide +kernel
theorem dX4_bone_4 : decode cX4_bone 4 = .ok (.iload_n 1, 1) := by decide +kernel
theorem dX4_bone_5 : decode cX4_bone 5 = .ok (.iconst 1, 1) := by decide +kernel
theorem dX4_bone_6 : decode cX4_bone 6 = .ok (.iadd, 1) := by decide +kernel
theorem dX4_bone_7 : decode cX4_bone 7 = .ok (.iaload, 1) := by decide +kernel
theorem dX4_bone_8 : decode cX4_bone 8 = .ok (.idiv, 1) := by decide +kernel
theorem dX4_bone_9 : decode cX4_bone 9 = .ok (.bipush 10, 2) := by decide +kernel
theorem dX4_bone_11 : decode cX4_bone 11 = .ok (.irem, 1) := by decide +kernel
theorem dX4_bone_12 : decode cX4_bone 12 = .ok (.ireturn, 1) := by decide +kernel
theorem dX4_lettersOf_0 : decode cX4_lettersOf 0 = .ok (.iconst 1, 1) := by decide +kernel
theorem dX4_lettersOf_1 : decode cX4_lettersOf 1 = .ok (.iload_n 0, 1) := by decide +kernel
theorem dX4_lettersOf_2 : decode cX4_lettersOf 2 = .ok (.iconst 0, 1) := by decide +kernel
theorem dX4_lettersOf_3 : decode cX4_lettersOf 3 = .ok (.invokestatic 112, 3) := by decide +kernel
theorem dX4_lettersOf_6 : decode cX4_lettersOf 6 = .ok (.ishl, 1) := by decide +kernel
theorem dX4_lettersOf_7 : decode cX4_lettersOf 7 = .ok (.iconst 1, 1) := by decide +kernel
theorem dX4_lettersOf_8 : decode cX4_lettersOf 8 = .ok (.iload_n 0, 1) := by decide +kernel
theorem dX4_lettersOf_9 : decode cX4_lettersOf 9 = .ok (.iconst 1, 1) := by decide +kernel
theorem dX4_lettersOf_10 : decode cX4_lettersOf 10 = .ok (.invokestatic 112, 3) := by decide +kernel
theorem dX4_lettersOf_13 : decode cX4_lettersOf 13 = .ok (.ishl, 1) := by decide +kernel
theorem dX4_lettersOf_14 : decode cX4_lettersOf 14 = .ok (.ior, 1) := by decide +kernel
theorem dX4_lettersOf_15 : decode cX4_lettersOf 15 = .ok (.iconst 1, 1) := by decide +kernel
theorem dX4_lettersOf_16 : decode cX4_lettersOf 16 = .ok (.iload_n 0, 1) := by decide +kernel
theorem dX4_lettersOf_17 : decode cX4_lettersOf 17 = .ok (.iconst 2, 1) := by decide +kernel
theorem dX4_lettersOf_18 : decode cX4_lettersOf 18 = .ok (.invokestatic 112, 3) := by decide +kernel
theorem dX4_lettersOf_21 : decode cX4_lettersOf 21 = .ok (.ishl, 1) := by decide +kernel
theorem dX4_lettersOf_22 : decode cX4_lettersOf 22 = .ok (.ior, 1) := by decide +kernel
theorem dX4_lettersOf_23 : decode cX4_lettersOf 23 = .ok (.ireturn, 1) := by decide +kernel
theorem dX4_howOften_0 : decode cX4_howOften 0 = .ok (.iconst 0, 1) := by decide +kernel
theorem dX4_howOften_1 : decode cX4_howOften 1 = .ok (.istore_n 2, 1) := by decide +kernel
theorem dX4_howOften_2 : decode cX4_howOften 2 = .ok (.iconst 0, 1) := by decide +kernel
theorem dX4_howOften_3 : decode cX4_howOften 3 = .ok (.istore_n 3, 1) := by decide +kernel
theorem dX4_howOften_4 : decode cX4_howOften 4 = .ok (.iload_n 3, 1) := by decide +kernel
theorem dX4_howOften_5 : decode cX4_howOften 5 = .ok (.iconst 4, 1) := by decide +kernel
theorem dX4_howOften_6 : decode cX4_howOften 6 = .ok (.if_icmp .ge 21, 3) := by decide +kernel
theorem dX4_howOften_9 : decode cX4_howOften 9 = .ok (.iload_n 1, 1) := by decide +kernel
theorem dX4_howOften_10 : decode cX4_howOften 10 = .ok (.iload_n 3, 1) := by decide +kernel
theorem dX4_howOften_11 : decode cX4_howOften 11 = .ok (.invokestatic 122, 3) := by decide +kernel
theorem dX4_howOften_14 : decode cX4_howOften 14 = .ok (.iload_n 0, 1) := by decide +kernel
theorem dX4_howOften_15 : decode cX4_howOften 15 = .ok (.if_icmp .ne 6, 3) := by decide +kernel
theorem dX4_howOften_18 : decode cX4_howOften 18 = .ok (.iinc 2 1, 3) := by decide +kernel
theorem dX4_howOften_21 : decode cX4_howOften 21 = .ok (.iinc 3 1, 3) := by decide +kernel
theorem dX4_howOften_24 : decode cX4_howOften 24 = .ok (.goto (-20), 3) := by decide +kernel
theorem dX4_howOften_27 : decode cX4_howOften 27 = .ok (.iload_n 2, 1) := by decide +kernel
theorem dX4_howOften_28 : decode cX4_howOften 28 = .ok (.ireturn, 1) := by decide +kernel
theorem dX5_init_0 : decode cX5_init 0 = .ok (.aload_n 0, 1) := by decide +kernel
theorem dX5_init_1 : decode cX5_init 1 = .ok (.invokespecial 1, 3) := by decide +kernel
theorem dX5_init_4 : decode cX5_init 4 = .ok (.aload_n 0, 1) := by decide +kernel
theorem dX5_init_5 : decode cX5_init 5 = .ok (.bipush 75, 2) := by decide +kernel
theorem dX5_init_7 : decode cX5_init 7 = .ok (.newarray .int, 2) := by decide +kernel
theorem dX5_init_9 : decode cX5_init 9 = .ok (.putfield 7, 3) := by decide +kernel
theorem dX5_init_12 : decode cX5_init 12 = .ok (.aload_n 0, 1) := by decide +kernel
theorem dX5_init_13 : decode cX5_init 13 = .ok (.bipush 75, 2) := by decide +kernel
theorem dX5_init_15 : decode cX5_init 15 = .ok (.newarray .int, 2) := by decide +kernel
theorem dX5_init_17 : decode cX5_init 17 = .ok (.putfield 13, 3) := by decide +kernel
theorem dX5_init_20 : decode cX5_init 20 = .ok (.aload_n 0, 1) := by decide +kernel
theorem dX5_init_21 : decode cX5_init 21 = .ok (.bipush 75, 2) := by decide +kernel
theorem dX5_init_23 : decode cX5_init 23 = .ok (.newarray .int, 2) := by decide +kernel
theorem dX5_init_25 : decode cX5_init 25 = .ok (.putfield 16, 3) := by decide +kernel
theorem dX5_init_28 : decode cX5_init 28 = .ok (.aload_n 0, 1) := by decide +kernel
theorem dX5_init_29 : decode cX5_init 29 = .ok (.bipush 75, 2) := by decide +kernel
theorem dX5_init_31 : decode cX5_init 31 = .ok (.newarray .int, 2) := by decide +kernel
theorem dX5_init_33 : decode cX5_init 33 = .ok (.putfield 19, 3) := by decide +kernel
theorem dX5_init_36 : decode cX5_init 36 = .ok (.aload_n 0, 1) := by decide +kernel
theorem dX5_init_37 : decode cX5_init 37 = .ok (.bipush 8, 2) := by decide +kernel
theorem dX5_init_39 : decode cX5_init 39 = .ok (.newarray .int, 2) := by decide +kernel
theorem dX5_init_41 : decode cX5_init 41 = .ok (.putfield 22, 3) := by decide +kernel
theorem dX5_init_44 : decode cX5_init 44 = .ok (.aload_n 0, 1) := by decide +kernel
theorem dX5_init_45 : decode cX5_init 45 = .ok (.bipush 120, 2) := by decide +kernel
theorem dX5_init_47 : decode cX5_init 47 = .ok (.newarray .int, 2) := by decide +kernel
theorem dX5_init_49 : decode cX5_init 49 = .ok (.putfield 25, 3) := by decide +kernel
theorem dX5_init_52 : decode cX5_init 52 = .ok (.aload_n 0, 1) := by decide +kernel
theorem dX5_init_53 : decode cX5_init 53 = .ok (.iconst 4, 1) := by decide +kernel
theorem dX5_init_54 : decode cX5_init 54 = .ok (.newarray .int, 2) := by decide +kernel
theorem dX5_init_56 : decode cX5_init 56 = .ok (.dup, 1) := by decide +kernel
theorem dX5_init_57 : decode cX5_init 57 = .ok (.iconst 0, 1) := by decide +kernel
theorem dX5_init_58 : decode cX5_init 58 = .ok (.iconst (-1), 1) := by decide +kernel
theorem dX5_init_59 : decode cX5_init 59 = .ok (.iastore, 1) := by decide +kernel
theorem dX5_init_60 : decode cX5_init 60 = .ok (.dup, 1) := by decide +kernel
theorem dX5_init_61 : decode cX5_init 61 = .ok (.iconst 1, 1) := by decide +kernel
theorem dX5_init_62 : decode cX5_init 62 = .ok (.iconst (-1), 1) := by decide +kernel
theorem dX5_init_63 : decode cX5_init 63 = .ok (.iastore, 1) := by decide +kernel
theorem dX5_init_64 : decode cX5_init 64 = .ok (.dup, 1) := by decide +kernel
theorem dX5_init_65 : decode cX5_init 65 = .ok (.iconst 2, 1) := by decide +kernel
theorem dX5_init_66 : decode cX5_init 66 = .ok (.iconst (-1), 1) := by decide +kernel
theorem dX5_init_67 : decode cX5_init 67 = .ok (.iastore, 1) := by decide +kernel
theorem dX5_init_68 : decode cX5_init 68 = .ok (.dup, 1) := by decide +kernel
theorem dX5_init_69 : decode cX5_init 69 = .ok (.iconst 3, 1) := by decide +kernel
theorem dX5_init_70 : decode cX5_init 70 = .ok (.iconst (-1), 1) := by decide +kernel
theorem dX5_init_71 : decode cX5_init 71 = .ok (.iastore, 1) := by decide +kernel
theorem dX5_init_72 : decode cX5_init 72 = .ok (.putfield 28, 3) := by decide +kernel
theorem dX5_init_75 : decode cX5_init 75 = .ok (.aload_n 0, 1) := by decide +kernel
theorem dX5_init_76 : decode cX5_init 76 = .ok (.iconst 4, 1) := by decide +kernel
theorem dX5_init_77 : decode cX5_init 77 = .ok (.newarray .int, 2) := by decide +kernel
theorem dX5_init_79 : decode cX5_init 79 = .ok (.putfield 31, 3) := by decide +kernel
theorem dX5_init_82 : decode cX5_init 82 = .ok (.aload_n 0, 1) := by decide +kernel
theorem dX5_init_83 : decode cX5_init 83 = .ok (.sipush 160, 3) := by decide +kernel
theorem dX5_init_86 : decode cX5_init 86 = .ok (.newarray .int, 2) := by decide +kernel
theorem dX5_init_88 : decode cX5_init 88 = .ok (.putfield 34, 3) := by decide +kernel
theorem dX5_init_91 : decode cX5_init 91 = .ok (.aload_n 0, 1) := by decide +kernel
theorem dX5_init_92 : decode cX5_init 92 = .ok (.getfield 7, 3) := by decide +kernel
theorem dX5_init_95 : decode cX5_init 95 = .ok (.iconst 2, 1) := by decide +kernel
theorem dX5_init_96 : decode cX5_init 96 = .ok (.iconst 1, 1) := by decide +kernel
theorem dX5_init_97 : decode cX5_init 97 = .ok (.iastore, 1) := by decide +kernel
theorem dX5_init_98 : decode cX5_init 98 = .ok (.iconst 0, 1) := by decide +kernel
theorem dX5_init_99 : decode cX5_init 99 = .ok (.istore_n 1, 1) := by decide +kernel
theorem dX5_init_100 : decode cX5_init 100 = .ok (.iload_n 1, 1) := by decide +kernel
theorem dX5_init_101 : decode cX5_init 101 = .ok (.bipush 6, 2) := by decide +kernel
theorem dX5_init_103 : decode cX5_init 103 = .ok (.if_icmp .ge 30, 3) := by decide +kernel
theorem dX5_init_106 : decode cX5_init 106 = .ok (.aload_n 0, 1) := by decide +kernel
theorem dX5_init_107 : decode cX5_init 107 = .ok (.getfield 7, 3) := by decide +kernel
theorem dX5_init_110 : decode cX5_init 110 = .ok (.bipush 13, 2) := by decide +kernel
theorem dX5_init_112 : decode cX5_init 112 = .ok (.iload_n 1, 1) := by decide +kernel
theorem dX5_init_113 : decode cX5_init 113 = .ok (.iadd, 1) := by decide +kernel
theorem dX5_init_114 : decode cX5_init 114 = .ok (.bipush 12, 2) := by decide +kernel
theorem dX5_init_116 : decode cX5_init 116 = .ok (.iastore, 1) := by decide +kernel
theorem dX5_init_117 : decode cX5_init 117 = .ok (.aload_n 0, 1) := by decide +kernel
theorem dX5_init_118 : decode cX5_init 118 = .ok (.getfield 7, 3) := by decide +kernel
theorem dX5_init_121 : decode cX5_init 121 = .ok (.bipush 19, 2) := by decide +kernel
theorem dX5_init_123 : decode cX5_init 123 = .ok (.iload_n 1, 1) := by decide +kernel
theorem dX5_init_124 : decode cX5_init 124 = .ok (.iadd, 1) := by decide +kernel
theorem dX5_init_125 : decode cX5_init 125 = .ok (.iconst 3, 1) := by decide +kernel
theorem dX5_init_126 : decode cX5_init 126 = .ok (.iastore, 1) := by decide +kernel
theorem dX5_init_127 : decode cX5_init 127 = .ok (.iinc 1 1, 3) := by decide +kernel
theorem dX5_init_130 : decode cX5_init 130 = .ok (.goto (-30), 3) := by decide +kernel
theorem dX5_init_133 : decode cX5_init 133 = .ok (.iconst 0, 1) := by decide +kernel
theorem dX5_init_134 : decode cX5_init 134 = .ok (.istore_n 1, 1) := by decide +kernel
theorem dX5_init_135 : decode cX5_init 135 = .ok (.iload_n 1, 1) := by decide +kernel
theorem dX5_init_136 : decode cX5_init 136 = .ok (.bipush 10, 2) := by decide +kernel
theorem dX5_init_138 : decode cX5_init 138 = .ok (.if_icmp .ge 19, 3) := by decide +kernel
theorem dX5_init_141 : decode cX5_init 141 = .ok (.aload_n 0, 1) := by decide +kernel
theorem dX5_init_142 : decode cX5_init 142 = .ok (.getfield 7, 3) := by decide +kernel
theorem dX5_init_145 : decode cX5_init 145 = .ok (.bipush 65, 2) := by decide +kernel
theorem dX5_init_147 : decode cX5_init 147 = .ok (.iload_n 1, 1) := by decide +kernel
theorem dX5_init_148 : decode cX5_init 148 = .ok (.iadd, 1) := by decide +kernel
theorem dX5_init_149 : decode cX5_init 149 = .ok (.iconst (-1), 1) := by decide +kernel
theorem dX5_init_150 : decode cX5_init 150 = .ok (.iastore, 1) := by decide +kernel
theorem dX5_init_151 : decode cX5_init 151 = .ok (.iinc 1 1, 3) := by decide +kernel
theorem dX5_init_154 : decode cX5_init 154 = .ok (.goto (-19), 3) := by decide +kernel
theorem dX5_init_157 : decode cX5_init 157 = .ok (.return_, 1) := by decide +kernel
theorem dX5_isIn_0 : decode cX5_isIn 0 = .ok (.lload_n 0, 1) := by decide +kernel
theorem dX5_isIn_1 : decode cX5_isIn 1 = .ok (.lload_n 2, 1) := by decide +kernel
theorem dX5_isIn_2 : decode cX5_isIn 2 = .ok (.lcmp, 1) := by decide +kernel
theorem dX5_isIn_3 : decode cX5_isIn 3 = .ok (.ifCond .lt 14, 3) := by decide +kernel
theorem dX5_isIn_6 : decode cX5_isIn 6 = .ok (.lload_n 0, 1) := by decide +kernel
theorem dX5_isIn_7 : decode cX5_isIn 7 = .ok (.lload 4, 2) := by decide +kernel
theorem dX5_isIn_9 : decode cX5_isIn 9 = .ok (.lcmp, 1) := by decide +kernel
theorem dX5_isIn_10 : decode cX5_isIn 10 = .ok (.ifCond .gt 7, 3) := by decide +kernel
theorem dX5_isIn_13 : decode cX5_isIn 13 = .ok (.iconst 1, 1) := by decide +kernel
theorem dX5_isIn_14 : decode cX5_isIn 14 = .ok (.goto 4, 3) := by decide +kernel
theorem dX5_isIn_17 : decode cX5_isIn 17 = .ok (.iconst 0, 1) := by decide +kernel
theorem dX5_isIn_18 : decode cX5_isIn 18 = .ok (.ireturn, 1) := by decide +kernel
theorem dX5_finds_0 : decode cX5_finds 0 = .ok (.aload_n 0, 1) := by decide +kernel
theorem dX5_finds_1 : decode cX5_finds 1 = .ok (.getfield 22, 3) := by decide +kernel
theorem dX5_finds_4 : decode cX5_finds 4 = .ok (.iconst 0, 1) := by decide +kernel
theorem dX5_finds_5 : decode cX5_finds 5 = .ok (.dup2, 1) := by decide +kernel
theorem dX5_finds_6 : decode cX5_finds 6 = .ok (.iaload, 1) := by decide +kernel
theorem dX5_finds_7 : decode cX5_finds 7 = .ok (.iconst 1, 1) := by decide +kernel
theorem dX5_finds_8 : decode cX5_finds 8 = .ok (.iadd, 1) := by decide +kernel
theorem dX5_finds_9 : decode cX5_finds 9 = .ok (.iastore, 1) := by decide +kernel
theorem dX5_finds_10 : decode cX5_finds 10 = .ok (.aload_n 0, 1) := by decide +kernel
theorem dX5_finds_11 : decode cX5_finds 11 = .ok (.getfield 22, 3) := by decide +kernel
theorem dX5_finds_14 : decode cX5_finds 14 = .ok (.ldc 37, 2) := by decide +kernel
theorem dX5_finds_16 : decode cX5_finds 16 = .ok (.iload_n 1, 1) := by decide +kernel
theorem dX5_finds_17 : decode cX5_finds 17 = .ok (.isub, 1) := by decide +kernel
theorem dX5_finds_18 : decode cX5_finds 18 = .ok (.iconst 1, 1) := by decide +kernel
theorem dX5_finds_19 : decode cX5_finds 19 = .ok (.iadd, 1) := by decide +kernel
theorem dX5_finds_20 : decode cX5_finds 20 = .ok (.dup2, 1) := by decide +kernel
theorem dX5_finds_21 : decode cX5_finds 21 = .ok (.iaload, 1) := by decide +kernel
theorem dX5_finds_22 : decode cX5_finds 22 = .ok (.iconst 1, 1) := by decide +kernel
theorem dX5_finds_23 : decode cX5_finds 23 = .ok (.iadd, 1) := by decide +kernel
theorem dX5_finds_24 : decode cX5_finds 24 = .ok (.iastore, 1) := by decide +kernel
theorem dX5_finds_25 : decode cX5_finds 25 = .ok (.iload_n 1, 1) := by decide +kernel
theorem dX5_finds_26 : decode cX5_finds 26 = .ok (.ireturn, 1) := by decide +kernel
theorem dX5_becomes_0 : decode cX5_becomes 0 = .ok (.aload_n 0, 1) := by decide +kernel
theorem dX5_becomes_1 : decode cX5_becomes 1 = .ok (.getfield 7, 3) := by decide +kernel
theorem dX5_becomes_4 : decode cX5_becomes 4 = .ok (.iload_n 1, 1) := by decide +kernel
theorem dX5_becomes_5 : decode cX5_becomes 5 = .ok (.iaload, 1) := by decide +kernel
theorem dX5_becomes_6 : decode cX5_becomes 6 = .ok (.istore_n 3, 1) := by decide +kernel
theorem dX5_becomes_7 : decode cX5_becomes 7 = .ok (.aload_n 0, 1) := by decide +kernel
theorem dX5_becomes_8 : decode cX5_becomes 8 = .ok (.getfield 7, 3) := by decide +kernel
theorem dX5_becomes_11 : decode cX5_becomes 11 = .ok (.iload_n 1, 1) := by decide +kernel
theorem dX5_becomes_12 : decode cX5_becomes 12 = .ok (.iload_n 2, 1) := by decide +kernel
theorem dX5_becomes_13 : decode cX5_becomes 13 = .ok (.iastore, 1) := by decide +kernel
theorem dX5_becomes_14 : decode cX5_becomes 14 = .ok (.iload_n 3, 1) := by decide +kernel
theorem dX5_becomes_15 : decode cX5_becomes 15 = .ok (.ireturn, 1) := by decide +kernel
theorem dX5_copyRow_0 : decode cX5_copyRow 0 = .ok (.iconst 0, 1) := by decide +kernel
theorem dX5_copyRow_1 : decode cX5_copyRow 1 = .ok (.istore_n 2, 1) := by decide +kernel
theorem dX5_copyRow_2 : decode cX5_copyRow 2 = .ok (.iload_n 2, 1) := by decide +kernel
theorem dX5_copyRow_3 : decode cX5_copyRow 3 = .ok (.bipush 75, 2) := by decide +kernel
theorem dX5_copyRow_5 : decode cX5_copyRow 5 = .ok (.if_icmp .ge 15, 3) := by decide +kernel
theorem dX5_copyRow_8 : decode cX5_copyRow 8 = .ok (.aload_n 1, 1) := by decide +kernel
theorem dX5_copyRow_9 : decode cX5_copyRow 9 = .ok (.iload_n 2, 1) := by decide +kernel
theorem dX5_copyRow_10 : decode cX5_copyRow 10 = .ok (.aload_n 0, 1) := by decide +kernel
theorem dX5_copyRow_11 : decode cX5_copyRow 11 = .ok (.iload_n 2, 1) := by decide +kernel
theorem dX5_copyRow_12 : decode cX5_copyRow 12 = .ok (.iaload, 1) := by decide +kernel
theorem dX5_copyRow_13 : decode cX5_copyRow 13 = .ok (.iastore, 1) := by decide +kernel
theorem dX5_copyRow_14 : decode cX5_copyRow 14 = .ok (.iinc 2 1, 3) := by decide +kernel
theorem dX5_copyRow_17 : decode cX5_copyRow 17 = .ok (.goto (-15), 3) := by decide +kernel
theorem dX5_copyRow_20 : decode cX5_copyRow 20 = .ok (.return_, 1) := by decide +kernel
theorem dX5_isLetter10_0 : decode cX5_isLetter10 0 = .ok (.iload_n 0, 1) := by decide +kernel
theorem dX5_isLetter10_1 : decode cX5_isLetter10 1 = .ok (.ifCond .lt 13, 3) := by decide +kernel
theorem dX5_isLetter10_4 : decode cX5_isLetter10 4 = .ok (.iload_n 0, 1) := by decide +kernel
theorem dX5_isLetter10_5 : decode cX5_isLetter10 5 = .ok (.bipush 10, 2) := by decide +kernel
theorem dX5_isLetter10_7 : decode cX5_isLetter10 7 = .ok (.if_icmp .ge 7, 3) := by decide +kernel
theorem dX5_isLetter10_10 : decode cX5_isLetter10 10 = .ok (.iconst 1, 1) := by decide +kernel
theorem dX5_isLetter10_11 : decode cX5_isLetter10 11 = .ok (.goto 4, 3) := by decide +kernel
theorem dX5_isLetter10_14 : decode cX5_isLetter10 14 = .ok (.iconst 0, 1) := by decide +kernel
theorem dX5_isLetter10_15 : decode cX5_isLetter10 15 = .ok (.ireturn, 1) := by decide +kernel
theorem dX5_isFish_0 : decode cX5_isFish 0 = .ok (.iload_n 0, 1) := by decide +kernel
theorem dX5_isFish_1 : decode cX5_isFish 1 = .ok (.ifCond .lt 13, 3) := by decide +kernel
theorem dX5_isFish_4 : decode cX5_isFish 4 = .ok (.iload_n 0, 1) := by decide +kernel
theorem dX5_isFish_5 : decode cX5_isFish 5 = .ok (.bipush 6, 2) := by decide +kernel
theorem dX5_isFish_7 : decode cX5_isFish 7 = .ok (.if_icmp .ge 7, 3) := by decide +kernel
theorem dX5_isFish_10 : decode cX5_isFish 10 = .ok (.iconst 1, 1) := by decide +kernel
theorem dX5_isFish_11 : decode cX5_isFish 11 = .ok (.goto 4, 3) := by decide +kernel
theorem dX5_isFish_14 : decode cX5_isFish 14 = .ok (.iconst 0, 1) := by decide +kernel
theorem dX5_isFish_15 : decode cX5_isFish 15 = .ok (.ireturn, 1) := by decide +kernel
theorem dX5_isWriter_0 : decode cX5_isWriter 0 = .ok (.iload_n 1, 1) := by decide +kernel
theorem dX5_isWriter_1 : decode cX5_isWriter 1 = .ok (.ifCond .lt 17, 3) := by decide +kernel
theorem dX5_isWriter_4 : decode cX5_isWriter 4 = .ok (.iload_n 1, 1) := by decide +kernel
theorem dX5_isWriter_5 : decode cX5_isWriter 5 = .ok (.aload_n 0, 1) := by decide +kernel
theorem dX5_isWriter_6 : decode cX5_isWriter 6 = .ok (.getfield 7, 3) := by decide +kernel
theorem dX5_isWriter_9 : decode cX5_isWriter 9 = .ok (.iconst 0, 1) := by decide +kernel
theorem dX5_isWriter_10 : decode cX5_isWriter 10 = .ok (.iaload, 1) := by decide +kernel
theorem dX5_isWriter_11 : decode cX5_isWriter 11 = .ok (.if_icmp .ge 7, 3) := by decide +kernel
theorem dX5_isWriter_14 : decode cX5_isWriter 14 = .ok (.iconst 1, 1) := by decide +kernel
theorem dX5_isWriter_15 : decode cX5_isWriter 15 = .ok (.goto 4, 3) := by decide +kernel
theorem dX5_isWriter_18 : decode cX5_isWriter 18 = .ok (.iconst 0, 1) := by decide +kernel
theorem dX5_isWriter_19 : decode cX5_isWriter 19 = .ok (.ireturn, 1) := by decide +kernel
theorem dX5_at_0 : decode cX5_at 0 = .ok (.bipush 25, 2) := by decide +kernel
theorem dX5_at_2 : decode cX5_at 2 = .ok (.iconst 5, 1) := by decide +kernel
theorem dX5_at_3 : decode cX5_at 3 = .ok (.iload_n 0, 1) := by decide +kernel
theorem dX5_at_4 : decode cX5_at 4 = .ok (.imul, 1) := by decide +kernel
theorem dX5_at_5 : decode cX5_at 5 = .ok (.iadd, 1) := by decide +kernel
theorem dX5_at_6 : decode cX5_at 6 = .ok (.iload_n 1, 1) := by decide +kernel
theorem dX5_at_7 : decode cX5_at 7 = .ok (.iadd, 1) := by decide +kernel
theorem dX5_at_8 : decode cX5_at 8 = .ok (.ireturn, 1) := by decide +kernel
theorem dX5_its_0 : decode cX5_its 0 = .ok (.aload_n 0, 1) := by decide +kernel
theorem dX5_its_1 : decode cX5_its 1 = .ok (.getfield 7, 3) := by decide +kernel
theorem dX5_its_4 : decode cX5_its 4 = .ok (.bipush 25, 2) := by decide +kernel
theorem dX5_its_6 : decode cX5_its 6 = .ok (.iconst 5, 1) := by decide +kernel
theorem dX5_its_7 : decode cX5_its 7 = .ok (.iload_n 1, 1) := by decide +kernel
theorem dX5_its_8 : decode cX5_its 8 = .ok (.imul, 1) := by decide +kernel
theorem dX5_its_9 : decode cX5_its 9 = .ok (.iadd, 1) := by decide +kernel
theorem dX5_its_10 : decode cX5_its 10 = .ok (.iload_n 2, 1) := by decide +kernel
theorem dX5_its_11 : decode cX5_its 11 = .ok (.iadd, 1) := by decide +kernel
theorem dX5_its_12 : decode cX5_its 12 = .ok (.iaload, 1) := by decide +kernel
theorem dX5_its_13 : decode cX5_its 13 = .ok (.ireturn, 1) := by decide +kernel
theorem dX5_least_0 : decode cX5_least 0 = .ok (.iload_n 0, 1) := by decide +kernel
theorem dX5_least_1 : decode cX5_least 1 = .ok (.iload_n 1, 1) := by decide +kernel
theorem dX5_least_2 : decode cX5_least 2 = .ok (.if_icmp .ge 7, 3) := by decide +kernel
theorem dX5_least_5 : decode cX5_least 5 = .ok (.iload_n 0, 1) := by decide +kernel
theorem dX5_least_6 : decode cX5_least 6 = .ok (.goto 4, 3) := by decide +kernel
theorem dX5_least_9 : decode cX5_least 9 = .ok (.iload_n 1, 1) := by decide +kernel
theorem dX5_least_10 : decode cX5_least 10 = .ok (.ireturn, 1) := by decide +kernel
theorem dX5_greatest_0 : decode cX5_greatest 0 = .ok (.iload_n 0, 1) := by decide +kernel
theorem dX5_greatest_1 : decode cX5_greatest 1 = .ok (.iload_n 1, 1) := by decide +kernel
theorem dX5_greatest_2 : decode cX5_greatest 2 = .ok (.if_icmp .le 7, 3) := by decide +kernel
theorem dX5_greatest_5 : decode cX5_greatest 5 = .ok (.iload_n 0, 1) := by decide +kernel
theorem dX5_greatest_6 : decode cX5_greatest 6 = .ok (.goto 4, 3) := by decide +kernel
theorem dX5_greatest_9 : decode cX5_greatest 9 = .ok (.iload_n 1, 1) := by decide +kernel
theorem dX5_greatest_10 : decode cX5_greatest 10 = .ok (.ireturn, 1) := by decide +kernel
theorem dX5_orNone_0 : decode cX5_orNone 0 = .ok (.iload_n 1, 1) := by decide +kernel
theorem dX5_orNone_1 : decode cX5_orNone 1 = .ok (.ifCond .ge 12, 3) := by decide +kernel
theorem dX5_orNone_4 : decode cX5_orNone 4 = .ok (.aload_n 0, 1) := by decide +kernel
theorem dX5_orNone_5 : decode cX5_orNone 5 = .ok (.ldc 38, 2) := by decide +kernel
theorem dX5_orNone_7 : decode cX5_orNone 7 = .ok (.invokevirtual 39, 3) := by decide +kernel
theorem dX5_orNone_10 : decode cX5_orNone 10 = .ok (.goto 4, 3) := by decide +kernel
theorem dX5_orNone_13 : decode cX5_orNone 13 = .ok (.iload_n 1, 1) := by decide +kernel
theorem dX5_orNone_14 : decode cX5_orNone 14 = .ok (.ireturn, 1) := by decide +kernel
theorem dX5_many_0 : decode cX5_many 0 = .ok (.iconst 0, 1) := by decide +kernel
theorem dX5_many_1 : decode cX5_many 1 = .ok (.istore_n 1, 1) := by decide +kernel
theorem dX5_many_2 : decode cX5_many 2 = .ok (.iload_n 0, 1) := by decide +kernel
theorem dX5_many_3 : decode cX5_many 3 = .ok (.istore_n 2, 1) := by decide +kernel
theorem dX5_many_4 : decode cX5_many 4 = .ok (.iload_n 2, 1) := by decide +kernel
theorem dX5_many_5 : decode cX5_many 5 = .ok (.ifCond .eq 15, 3) := by decide +kernel
theorem dX5_many_8 : decode cX5_many 8 = .ok (.iinc 1 1, 3) := by decide +kernel
theorem dX5_many_11 : decode cX5_many 11 = .ok (.iload_n 2, 1) := by decide +kernel
theorem dX5_many_12 : decode cX5_many 12 = .ok (.iload_n 2, 1) := by decide +kernel
theorem dX5_many_13 : decode cX5_many 13 = .ok (.iconst 1, 1) := by decide +kernel
theorem dX5_many_14 : decode cX5_many 14 = .ok (.isub, 1) := by decide +kernel
theorem dX5_many_15 : decode cX5_many 15 = .ok (.iand, 1) := by decide +kernel
theorem dX5_many_16 : decode cX5_many 16 = .ok (.istore_n 2, 1) := by decide +kernel
theorem dX5_many_17 : decode cX5_many 17 = .ok (.goto (-13), 3) := by decide +kernel
theorem dX5_many_20 : decode cX5_many 20 = .ok (.iload_n 1, 1) := by decide +kernel
theorem dX5_many_21 : decode cX5_many 21 = .ok (.ireturn, 1) := by decide +kernel
theorem dX5_digit_0 : decode cX5_digit 0 = .ok (.iload_n 1, 1) := by decide +kernel
theorem dX5_digit_1 : decode cX5_digit 1 = .ok (.ifCond .ne 11, 3) := by decide +kernel
theorem dX5_digit_4 : decode cX5_digit 4 = .ok (.iload_n 0, 1) := by decide +kernel
theorem dX5_digit_5 : decode cX5_digit 5 = .ok (.sipush 1000, 3) := by decide +kernel
theorem dX5_digit_8 : decode cX5_digit 8 = .ok (.idiv, 1) := by decide +kernel
theorem dX5_digit_9 : decode cX5_digit 9 = .ok (.goto 37, 3) := by decide +kernel
theorem dX5_digit_12 : decode cX5_digit 12 = .ok (.iload_n 1, 1) := by decide +kernel
theorem dX5_digit_13 : decode cX5_digit 13 = .ok (.iconst 1, 1) := by decide +kernel
theorem dX5_digit_14 : decode cX5_digit 14 = .ok (.if_icmp .ne 13, 3) := by decide +kernel
theorem dX5_digit_17 : decode cX5_digit 17 = .ok (.iload_n 0, 1) := by decide +kernel
theorem dX5_digit_18 : decode cX5_digit 18 = .ok (.bipush 100, 2) := by decide +kernel
theorem dX5_digit_20 : decode cX5_digit 20 = .ok (.idiv, 1) := by decide +kernel
theorem dX5_digit_21 : decode cX5_digit 21 = .ok (.bipush 10, 2) := by decide +kernel
theorem dX5_digit_23 : decode cX5_digit 23 = .ok (.irem, 1) := by decide +kernel
theorem dX5_digit_24 : decode cX5_digit 24 = .ok (.goto 22, 3) := by decide +kernel
theorem dX5_digit_27 : decode cX5_digit 27 = .ok (.iload_n 1, 1) := by decide +kernel
theorem dX5_digit_28 : decode cX5_digit 28 = .ok (.iconst 2, 1) := by decide +kernel
theorem dX5_digit_29 : decode cX5_digit 29 = .ok (.if_icmp .ne 13, 3) := by decide +kernel
theorem dX5_digit_32 : decode cX5_digit 32 = .ok (.iload_n 0, 1) := by decide +kernel
theorem dX5_digit_33 : decode cX5_digit 33 = .ok (.bipush 10, 2) := by decide +kernel
theorem dX5_digit_35 : decode cX5_digit 35 = .ok (.idiv, 1) := by decide +kernel
theorem dX5_digit_36 : decode cX5_digit 36 = .ok (.bipush 10, 2) := by decide +kernel
theorem dX5_digit_38 : decode cX5_digit 38 = .ok (.irem, 1) := by decide +kernel
theorem dX5_digit_39 : decode cX5_digit 39 = .ok (.goto 7, 3) := by decide +kernel
theorem dX5_digit_42 : decode cX5_digit 42 = .ok (.iload_n 0, 1) := by decide +kernel
theorem dX5_digit_43 : decode cX5_digit 43 = .ok (.bipush 10, 2) := by decide +kernel
theorem dX5_digit_45 : decode cX5_digit 45 = .ok (.irem, 1) := by decide +kernel
theorem dX5_digit_46 : decode cX5_digit 46 = .ok (.ireturn, 1) := by decide +kernel
theorem dX5_jar_0 : decode cX5_jar 0 = .ok (.iload_n 1, 1) := by decide +kernel
theorem dX5_jar_1 : decode cX5_jar 1 = .ok (.invokestatic 43, 3) := by decide +kernel
theorem dX5_jar_4 : decode cX5_jar 4 = .ok (.ifCond .eq 26, 3) := by decide +kernel
theorem dX5_jar_7 : decode cX5_jar 7 = .ok (.iload_n 2, 1) := by decide +kernel
theorem dX5_jar_8 : decode cX5_jar 8 = .ok (.i2l, 1) := by decide +kernel
theorem dX5_jar_9 : decode cX5_jar 9 = .ok (.lconst 0, 1) := by decide +kernel
theorem dX5_jar_10 : decode cX5_jar 10 = .ok (.ldc2_w 47, 3) := by decide +kernel
theorem dX5_jar_13 : decode cX5_jar 13 = .ok (.invokestatic 49, 3) := by decide +kernel
theorem dX5_jar_16 : decode cX5_jar 16 = .ok (.ifCond .eq 14, 3) := by decide +kernel
theorem dX5_jar_19 : decode cX5_jar 19 = .ok (.aload_n 0, 1) := by decide +kernel
theorem dX5_jar_20 : decode cX5_jar 20 = .ok (.iconst 3, 1) := by decide +kernel
theorem dX5_jar_21 : decode cX5_jar 21 = .ok (.iload_n 1, 1) := by decide +kernel
theorem dX5_jar_22 : decode cX5_jar 22 = .ok (.iadd, 1) := by decide +kernel
theorem dX5_jar_23 : decode cX5_jar 23 = .ok (.iload_n 2, 1) := by decide +kernel
theorem dX5_jar_24 : decode cX5_jar 24 = .ok (.invokevirtual 53, 3) := by decide +kernel
theorem dX5_jar_27 : decode cX5_jar 27 = .ok (.goto 9, 3) := by decide +kernel
theorem dX5_jar_30 : decode cX5_jar 30 = .ok (.aload_n 0, 1) := by decide +kernel
theorem dX5_jar_31 : decode cX5_jar 31 = .ok (.ldc 37, 2) := by decide +kernel
theorem dX5_jar_33 : decode cX5_jar 33 = .ok (.invokevirtual 39, 3) := by decide +kernel
theorem dX5_jar_36 : decode cX5_jar 36 = .ok (.ireturn, 1) := by decide +kernel
theorem dX5_bones_0 : decode cX5_bones 0 = .ok (.iload_n 1, 1) := by decide +kernel
theorem dX5_bones_1 : decode cX5_bones 1 = .ok (.invokestatic 43, 3) := by decide +kernel
theorem dX5_bones_4 : decode cX5_bones 4 = .ok (.ifCond .eq 14, 3) := by decide +kernel
theorem dX5_bones_7 : decode cX5_bones 7 = .ok (.aload_n 0, 1) := by decide +kernel
theorem dX5_bones_8 : decode cX5_bones 8 = .ok (.getfield 7, 3) := by decide +kernel
theorem dX5_bones_11 : decode cX5_bones 11 = .ok (.iconst 3, 1) := by decide +kernel
theorem dX5_bones_12 : decode cX5_bones 12 = .ok (.iload_n 1, 1) := by decide +kernel
theorem dX5_bones_13 : decode cX5_bones 13 = .ok (.iadd, 1) := by decide +kernel
theorem dX5_bones_14 : decode cX5_bones 14 = .ok (.iaload, 1) := by decide +kernel
theorem dX5_bones_15 : decode cX5_bones 15 = .ok (.goto 9, 3) := by decide +kernel
theorem dX5_bones_18 : decode cX5_bones 18 = .ok (.aload_n 0, 1) := by decide +kernel
theorem dX5_bones_19 : decode cX5_bones 19 = .ok (.ldc 37, 2) := by decide +kernel
theorem dX5_bones_21 : decode cX5_bones 21 = .ok (.invokevirtual 39, 3) := by decide +kernel
theorem dX5_bones_24 : decode cX5_bones 24 = .ok (.ireturn, 1) := by decide +kernel
theorem dX5_fish_0 : decode cX5_fish 0 = .ok (.iload_n 1, 1) := by decide +kernel
theorem dX5_fish_1 : decode cX5_fish 1 = .ok (.invokestatic 57, 3) := by decide +kernel
theorem dX5_fish_4 : decode cX5_fish 4 = .ok (.ifCond .eq 35, 3) := by decide +kernel
theorem dX5_fish_7 : decode cX5_fish 7 = .ok (.iload_n 2, 1) := by decide +kernel
theorem dX5_fish_8 : decode cX5_fish 8 = .ok (.i2l, 1) := by decide +kernel
theorem dX5_fish_9 : decode cX5_fish 9 = .ok (.lconst 0, 1) := by decide +kernel
theorem dX5_fish_10 : decode cX5_fish 10 = .ok (.lconst 1, 1) := by decide +kernel
theorem dX5_fish_11 : decode cX5_fish 11 = .ok (.invokestatic 49, 3) := by decide +kernel
theorem dX5_fish_14 : decode cX5_fish 14 = .ok (.ifCond .eq 25, 3) := by decide +kernel
theorem dX5_fish_17 : decode cX5_fish 17 = .ok (.iload_n 3, 1) := by decide +kernel
theorem dX5_fish_18 : decode cX5_fish 18 = .ok (.i2l, 1) := by decide +kernel
theorem dX5_fish_19 : decode cX5_fish 19 = .ok (.lconst 0, 1) := by decide +kernel
theorem dX5_fish_20 : decode cX5_fish 20 = .ok (.iload_n 2, 1) := by decide +kernel
theorem dX5_fish_21 : decode cX5_fish 21 = .ok (.ifCond .ne 9, 3) := by decide +kernel
theorem dX5_fish_24 : decode cX5_fish 24 = .ok (.ldc2_w 47, 3) := by decide +kernel
theorem dX5_fish_27 : decode cX5_fish 27 = .ok (.goto 6, 3) := by decide +kernel
theorem dX5_fish_30 : decode cX5_fish 30 = .ok (.ldc2_w 60, 3) := by decide +kernel
theorem dX5_fish_33 : decode cX5_fish 33 = .ok (.invokestatic 49, 3) := by decide +kernel
theorem dX5_fish_36 : decode cX5_fish 36 = .ok (.ifCond .ne 10, 3) := by decide +kernel
theorem dX5_fish_39 : decode cX5_fish 39 = .ok (.aload_n 0, 1) := by decide +kernel
theorem dX5_fish_40 : decode cX5_fish 40 = .ok (.ldc 37, 2) := by decide +kernel
theorem dX5_fish_42 : decode cX5_fish 42 = .ok (.invokevirtual 39, 3) := by decide +kernel
theorem dX5_fish_45 : decode cX5_fish 45 = .ok (.ireturn, 1) := by decide +kernel
theorem dX5_fish_46 : decode cX5_fish 46 = .ok (.aload_n 0, 1) := by decide +kernel
theorem dX5_fish_47 : decode cX5_fish 47 = .ok (.bipush 13, 2) := by decide +kernel
theorem dX5_fish_49 : decode cX5_fish 49 = .ok (.bipush 6, 2) := by decide +kernel
theorem dX5_fish_51 : decode cX5_fish 51 = .ok (.iload_n 2, 1) := by decide +kernel
theorem dX5_fish_52 : decode cX5_fish 52 = .ok (.imul, 1) := by decide +kernel
theorem dX5_fish_53 : decode cX5_fish 53 = .ok (.iadd, 1) := by decide +kernel
theorem dX5_fish_54 : decode cX5_fish 54 = .ok (.iload_n 1, 1) := by decide +kernel
theorem dX5_fish_55 : decode cX5_fish 55 = .ok (.iadd, 1) := by decide +kernel
theorem dX5_fish_56 : decode cX5_fish 56 = .ok (.iload_n 3, 1) := by decide +kernel
theorem dX5_fish_57 : decode cX5_fish 57 = .ok (.invokevirtual 53, 3) := by decide +kernel
theorem dX5_fish_60 : decode cX5_fish 60 = .ok (.ireturn, 1) := by decide +kernel
theorem dX5_lettersOf_0 : decode cX5_lettersOf 0 = .ok (.iconst 1, 1) := by decide +kernel
theorem dX5_lettersOf_1 : decode cX5_lettersOf 1 = .ok (.iload_n 0, 1) := by decide +kernel
theorem dX5_lettersOf_2 : decode cX5_lettersOf 2 = .ok (.bipush 100, 2) := by decide +kernel
theorem dX5_lettersOf_4 : decode cX5_lettersOf 4 = .ok (.idiv, 1) := by decide +kernel
theorem dX5_lettersOf_5 : decode cX5_lettersOf 5 = .ok (.ishl, 1) := by decide +kernel
theorem dX5_lettersOf_6 : decode cX5_lettersOf 6 = .ok (.iconst 1, 1) := by decide +kernel
theorem dX5_lettersOf_7 : decode cX5_lettersOf 7 = .ok (.iload_n 0, 1) := by decide +kernel
theorem dX5_lettersOf_8 : decode cX5_lettersOf 8 = .ok (.bipush 10, 2) := by decide +kernel
theorem dX5_lettersOf_10 : decode cX5_lettersOf 10 = .ok (.idiv, 1) := by decide +kernel
theorem dX5_lettersOf_11 : decode cX5_lettersOf 11 = .ok (.bipush 10, 2) := by decide +kernel
theorem dX5_lettersOf_13 : decode cX5_lettersOf 13 = .ok (.irem, 1) := by decide +kernel
theorem dX5_lettersOf_14 : decode cX5_lettersOf 14 = .ok (.ishl, 1) := by decide +kernel
theorem dX5_lettersOf_15 : decode cX5_lettersOf 15 = .ok (.ior, 1) := by decide +kernel
theorem dX5_lettersOf_16 : decode cX5_lettersOf 16 = .ok (.iconst 1, 1) := by decide +kernel
theorem dX5_lettersOf_17 : decode cX5_lettersOf 17 = .ok (.iload_n 0, 1) := by decide +kernel
theorem dX5_lettersOf_18 : decode cX5_lettersOf 18 = .ok (.bipush 10, 2) := by decide +kernel
theorem dX5_lettersOf_20 : decode cX5_lettersOf 20 = .ok (.irem, 1) := by decide +kernel
theorem dX5_lettersOf_21 : decode cX5_lettersOf 21 = .ok (.ishl, 1) := by decide +kernel
theorem dX5_lettersOf_22 : decode cX5_lettersOf 22 = .ok (.ior, 1) := by decide +kernel
theorem dX5_lettersOf_23 : decode cX5_lettersOf 23 = .ok (.ireturn, 1) := by decide +kernel
theorem dX5_fishOf_0 : decode cX5_fishOf 0 = .ok (.iload_n 1, 1) := by decide +kernel
theorem dX5_fishOf_1 : decode cX5_fishOf 1 = .ok (.invokestatic 57, 3) := by decide +kernel
theorem dX5_fishOf_4 : decode cX5_fishOf 4 = .ok (.ifCond .eq 15, 3) := by decide +kernel
theorem dX5_fishOf_7 : decode cX5_fishOf 7 = .ok (.iload_n 2, 1) := by decide +kernel
theorem dX5_fishOf_8 : decode cX5_fishOf 8 = .ok (.i2l, 1) := by decide +kernel
theorem dX5_fishOf_9 : decode cX5_fishOf 9 = .ok (.lconst 0, 1) := by decide +kernel
theorem dX5_fishOf_10 : decode cX5_fishOf 10 = .ok (.ldc2_w 62, 3) := by decide +kernel
theorem dX5_fishOf_13 : decode cX5_fishOf 13 = .ok (.invokestatic 49, 3) := by decide +kernel
theorem dX5_fishOf_16 : decode cX5_fishOf 16 = .ok (.ifCond .ne 10, 3) := by decide +kernel
theorem dX5_fishOf_19 : decode cX5_fishOf 19 = .ok (.aload_n 0, 1) := by decide +kernel
theorem dX5_fishOf_20 : decode cX5_fishOf 20 = .ok (.ldc 37, 2) := by decide +kernel
theorem dX5_fishOf_22 : decode cX5_fishOf 22 = .ok (.invokevirtual 39, 3) := by decide +kernel
theorem dX5_fishOf_25 : decode cX5_fishOf 25 = .ok (.ireturn, 1) := by decide +kernel
theorem dX5_fishOf_26 : decode cX5_fishOf 26 = .ok (.iload_n 2, 1) := by decide +kernel
theorem dX5_fishOf_27 : decode cX5_fishOf 27 = .ok (.iconst 2, 1) := by decide +kernel
theorem dX5_fishOf_28 : decode cX5_fishOf 28 = .ok (.if_icmp .ge 20, 3) := by decide +kernel
theorem dX5_fishOf_31 : decode cX5_fishOf 31 = .ok (.aload_n 0, 1) := by decide +kernel
theorem dX5_fishOf_32 : decode cX5_fishOf 32 = .ok (.getfield 7, 3) := by decide +kernel
theorem dX5_fishOf_35 : decode cX5_fishOf 35 = .ok (.bipush 13, 2) := by decide +kernel
theorem dX5_fishOf_37 : decode cX5_fishOf 37 = .ok (.bipush 6, 2) := by decide +kernel
theorem dX5_fishOf_39 : decode cX5_fishOf 39 = .ok (.iload_n 2, 1) := by decide +kernel
theorem dX5_fishOf_40 : decode cX5_fishOf 40 = .ok (.imul, 1) := by decide +kernel
theorem dX5_fishOf_41 : decode cX5_fishOf 41 = .ok (.iadd, 1) := by decide +kernel
theorem dX5_fishOf_42 : decode cX5_fishOf 42 = .ok (.iload_n 1, 1) := by decide +kernel
theorem dX5_fishOf_43 : decode cX5_fishOf 43 = .ok (.iadd, 1) := by decide +kernel
theorem dX5_fishOf_44 : decode cX5_fishOf 44 = .ok (.iaload, 1) := by decide +kernel
theorem dX5_fishOf_45 : decode cX5_fishOf 45 = .ok (.goto 18, 3) := by decide +kernel
theorem dX5_fishOf_48 : decode cX5_fishOf 48 = .ok (.aload_n 0, 1) := by decide +kernel
theorem dX5_fishOf_49 : decode cX5_fishOf 49 = .ok (.getfield 7, 3) := by decide +kernel
theorem dX5_fishOf_52 : decode cX5_fishOf 52 = .ok (.bipush 13, 2) := by decide +kernel
theorem dX5_fishOf_54 : decode cX5_fishOf 54 = .ok (.iload_n 1, 1) := by decide +kernel
theorem dX5_fishOf_55 : decode cX5_fishOf 55 = .ok (.iadd, 1) := by decide +kernel
theorem dX5_fishOf_56 : decode cX5_fishOf 56 = .ok (.iaload, 1) := by decide +kernel
theorem dX5_fishOf_57 : decode cX5_fishOf 57 = .ok (.invokestatic 64, 3) := by decide +kernel
theorem dX5_fishOf_60 : decode cX5_fishOf 60 = .ok (.invokestatic 67, 3) := by decide +kernel
theorem dX5_fishOf_63 : decode cX5_fishOf 63 = .ok (.ireturn, 1) := by decide +kernel
theorem dX5_comes_0 : decode cX5_comes 0 = .ok (.aload_n 0, 1) := by decide +kernel
theorem dX5_comes_1 : decode cX5_comes 1 = .ok (.getfield 7, 3) := by decide +kernel
theorem dX5_comes_4 : decode cX5_comes 4 = .ok (.iconst 0, 1) := by decide +kernel
theorem dX5_comes_5 : decode cX5_comes 5 = .ok (.iaload, 1) := by decide +kernel
theorem dX5_comes_6 : decode cX5_comes 6 = .ok (.istore_n 3, 1) := by decide +kernel
theorem dX5_comes_7 : decode cX5_comes 7 = .ok (.aload_n 0, 1) := by decide +kernel
theorem dX5_comes_8 : decode cX5_comes 8 = .ok (.getfield 7, 3) := by decide +kernel
theorem dX5_comes_11 : decode cX5_comes 11 = .ok (.iload_n 3, 1) := by decide +kernel
theorem dX5_comes_12 : decode cX5_comes 12 = .ok (.iconst 0, 1) := by decide +kernel
theorem dX5_comes_13 : decode cX5_comes 13 = .ok (.invokestatic 70, 3) := by decide +kernel
theorem dX5_comes_16 : decode cX5_comes 16 = .ok (.iload_n 1, 1) := by decide +kernel
theorem dX5_comes_17 : decode cX5_comes 17 = .ok (.iastore, 1) := by decide +kernel
theorem dX5_comes_18 : decode cX5_comes 18 = .ok (.aload_n 0, 1) := by decide +kernel
theorem dX5_comes_19 : decode cX5_comes 19 = .ok (.getfield 7, 3) := by decide +kernel
theorem dX5_comes_22 : decode cX5_comes 22 = .ok (.iload_n 3, 1) := by decide +kernel
theorem dX5_comes_23 : decode cX5_comes 23 = .ok (.iconst 1, 1) := by decide +kernel
theorem dX5_comes_24 : decode cX5_comes 24 = .ok (.invokestatic 70, 3) := by decide +kernel
theorem dX5_comes_27 : decode cX5_comes 27 = .ok (.iload_n 2, 1) := by decide +kernel
theorem dX5_comes_28 : decode cX5_comes 28 = .ok (.iastore, 1) := by decide +kernel
theorem dX5_comes_29 : decode cX5_comes 29 = .ok (.aload_n 0, 1) := by decide +kernel
theorem dX5_comes_30 : decode cX5_comes 30 = .ok (.getfield 7, 3) := by decide +kernel
theorem dX5_comes_33 : decode cX5_comes 33 = .ok (.iload_n 3, 1) := by decide +kernel
theorem dX5_comes_34 : decode cX5_comes 34 = .ok (.iconst 2, 1) := by decide +kernel
theorem dX5_comes_35 : decode cX5_comes 35 = .ok (.invokestatic 70, 3) := by decide +kernel
theorem dX5_comes_38 : decode cX5_comes 38 = .ok (.iconst 0, 1) := by decide +kernel
theorem dX5_comes_39 : decode cX5_comes 39 = .ok (.iastore, 1) := by decide +kernel
theorem dX5_comes_40 : decode cX5_comes 40 = .ok (.aload_n 0, 1) := by decide +kernel
theorem dX5_comes_41 : decode cX5_comes 41 = .ok (.getfield 7, 3) := by decide +kernel
theorem dX5_comes_44 : decode cX5_comes 44 = .ok (.iload_n 3, 1) := by decide +kernel
theorem dX5_comes_45 : decode cX5_comes 45 = .ok (.iconst 3, 1) := by decide +kernel
theorem dX5_comes_46 : decode cX5_comes 46 = .ok (.invokestatic 70, 3) := by decide +kernel
theorem dX5_comes_49 : decode cX5_comes 49 = .ok (.bipush 30, 2) := by decide +kernel
theorem dX5_comes_51 : decode cX5_comes 51 = .ok (.iastore, 1) := by decide +kernel
theorem dX5_comes_52 : decode cX5_comes 52 = .ok (.aload_n 0, 1) := by decide +kernel
theorem dX5_comes_53 : decode cX5_comes 53 = .ok (.getfield 7, 3) := by decide +kernel
theorem dX5_comes_56 : decode cX5_comes 56 = .ok (.iload_n 3, 1) := by decide +kernel
theorem dX5_comes_57 : decode cX5_comes 57 = .ok (.iconst 4, 1) := by decide +kernel
theorem dX5_comes_58 : decode cX5_comes 58 = .ok (.invokestatic 70, 3) := by decide +kernel
theorem dX5_comes_61 : decode cX5_comes 61 = .ok (.iconst 0, 1) := by decide +kernel
theorem dX5_comes_62 : decode cX5_comes 62 = .ok (.iastore, 1) := by decide +kernel
theorem dX5_comes_63 : decode cX5_comes 63 = .ok (.aload_n 0, 1) := by decide +kernel
theorem dX5_comes_64 : decode cX5_comes 64 = .ok (.getfield 7, 3) := by decide +kernel
theorem dX5_comes_67 : decode cX5_comes 67 = .ok (.iconst 0, 1) := by decide +kernel
theorem dX5_comes_68 : decode cX5_comes 68 = .ok (.dup2, 1) := by decide +kernel
theorem dX5_comes_69 : decode cX5_comes 69 = .ok (.iaload, 1) := by decide +kernel
theorem dX5_comes_70 : decode cX5_comes 70 = .ok (.iconst 1, 1) := by decide +kernel
theorem dX5_comes_71 : decode cX5_comes 71 = .ok (.iadd, 1) := by decide +kernel
theorem dX5_comes_72 : decode cX5_comes 72 = .ok (.iastore, 1) := by decide +kernel
theorem dX5_comes_73 : decode cX5_comes 73 = .ok (.return_, 1) := by decide +kernel
theorem dX5_writer_0 : decode cX5_writer 0 = .ok (.iload_n 1, 1) := by decide +kernel
theorem dX5_writer_1 : decode cX5_writer 1 = .ok (.i2l, 1) := by decide +kernel
theorem dX5_writer_2 : decode cX5_writer 2 = .ok (.lconst 0, 1) := by decide +kernel
theorem dX5_writer_3 : decode cX5_writer 3 = .ok (.ldc2_w 73, 3) := by decide +kernel
theorem dX5_writer_6 : decode cX5_writer 6 = .ok (.invokestatic 49, 3) := by decide +kernel
theorem dX5_writer_9 : decode cX5_writer 9 = .ok (.ifCond .eq 15, 3) := by decide +kernel
theorem dX5_writer_12 : decode cX5_writer 12 = .ok (.iload_n 2, 1) := by decide +kernel
theorem dX5_writer_13 : decode cX5_writer 13 = .ok (.i2l, 1) := by decide +kernel
theorem dX5_writer_14 : decode cX5_writer 14 = .ok (.lconst 0, 1) := by decide +kernel
theorem dX5_writer_15 : decode cX5_writer 15 = .ok (.ldc2_w 75, 3) := by decide +kernel
theorem dX5_writer_18 : decode cX5_writer 18 = .ok (.invokestatic 49, 3) := by decide +kernel
theorem dX5_writer_21 : decode cX5_writer 21 = .ok (.ifCond .ne 10, 3) := by decide +kernel
theorem dX5_writer_24 : decode cX5_writer 24 = .ok (.aload_n 0, 1) := by decide +kernel
theorem dX5_writer_25 : decode cX5_writer 25 = .ok (.ldc 37, 2) := by decide +kernel
theorem dX5_writer_27 : decode cX5_writer 27 = .ok (.invokevirtual 39, 3) := by decide +kernel
theorem dX5_writer_30 : decode cX5_writer 30 = .ok (.ireturn, 1) := by decide +kernel
theorem dX5_writer_31 : decode cX5_writer 31 = .ok (.aload_n 0, 1) := by decide +kernel
theorem dX5_writer_32 : decode cX5_writer 32 = .ok (.getfield 7, 3) := by decide +kernel
theorem dX5_writer_35 : decode cX5_writer 35 = .ok (.iconst 0, 1) := by decide +kernel
theorem dX5_writer_36 : decode cX5_writer 36 = .ok (.iaload, 1) := by decide +kernel
theorem dX5_writer_37 : decode cX5_writer 37 = .ok (.bipush 8, 2) := by decide +kernel
theorem dX5_writer_39 : decode cX5_writer 39 = .ok (.if_icmp .ne 10, 3) := by decide +kernel
theorem dX5_writer_42 : decode cX5_writer 42 = .ok (.aload_n 0, 1) := by decide +kernel
theorem dX5_writer_43 : decode cX5_writer 43 = .ok (.ldc 77, 2) := by decide +kernel
theorem dX5_writer_45 : decode cX5_writer 45 = .ok (.invokevirtual 39, 3) := by decide +kernel
theorem dX5_writer_48 : decode cX5_writer 48 = .ok (.ireturn, 1) := by decide +kernel
theorem dX5_writer_49 : decode cX5_writer 49 = .ok (.aload_n 0, 1) := by decide +kernel
theorem dX5_writer_50 : decode cX5_writer 50 = .ok (.iload_n 1, 1) := by decide +kernel
theorem dX5_writer_51 : decode cX5_writer 51 = .ok (.iload_n 2, 1) := by decide +kernel
theorem dX5_writer_52 : decode cX5_writer 52 = .ok (.invokevirtual 78, 3) := by decide +kernel
theorem dX5_writer_55 : decode cX5_writer 55 = .ok (.aload_n 0, 1) := by decide +kernel
theorem dX5_writer_56 : decode cX5_writer 56 = .ok (.getfield 7, 3) := by decide +kernel
theorem dX5_writer_59 : decode cX5_writer 59 = .ok (.iconst 0, 1) := by decide +kernel
theorem dX5_writer_60 : decode cX5_writer 60 = .ok (.iaload, 1) := by decide +kernel
theorem dX5_writer_61 : decode cX5_writer 61 = .ok (.iconst 1, 1) := by decide +kernel
theorem dX5_writer_62 : decode cX5_writer 62 = .ok (.isub, 1) := by decide +kernel
theorem dX5_writer_63 : decode cX5_writer 63 = .ok (.ireturn, 1) := by decide +kernel
theorem dX5_eats_0 : decode cX5_eats 0 = .ok (.aload_n 0, 1) := by decide +kernel
theorem dX5_eats_1 : decode cX5_eats 1 = .ok (.iload_n 1, 1) := by decide +kernel
theorem dX5_eats_2 : decode cX5_eats 2 = .ok (.iconst 3, 1) := by decide +kernel
theorem dX5_eats_3 : decode cX5_eats 3 = .ok (.invokevirtual 82, 3) := by decide +kernel
theorem dX5_eats_6 : decode cX5_eats 6 = .ok (.bipush 60, 2) := by decide +kernel
theorem dX5_eats_8 : decode cX5_eats 8 = .ok (.if_icmp .lt 7, 3) := by decide +kernel
theorem dX5_eats_11 : decode cX5_eats 11 = .ok (.iconst 0, 1) := by decide +kernel
theorem dX5_eats_12 : decode cX5_eats 12 = .ok (.goto 4, 3) := by decide +kernel
theorem dX5_eats_15 : decode cX5_eats 15 = .ok (.iconst 2, 1) := by decide +kernel
theorem dX5_eats_16 : decode cX5_eats 16 = .ok (.istore_n 2, 1) := by decide +kernel
theorem dX5_eats_17 : decode cX5_eats 17 = .ok (.aload_n 0, 1) := by decide +kernel
theorem dX5_eats_18 : decode cX5_eats 18 = .ok (.iload_n 1, 1) := by decide +kernel
theorem dX5_eats_19 : decode cX5_eats 19 = .ok (.iconst 0, 1) := by decide +kernel
theorem dX5_eats_20 : decode cX5_eats 20 = .ok (.invokevirtual 82, 3) := by decide +kernel
theorem dX5_eats_23 : decode cX5_eats 23 = .ok (.tableswitch 64 1 6 #[37, 39, 41, 44, 54, 56], 37) := by decide +kernel
theorem dX5_eats_60 : decode cX5_eats 60 = .ok (.iload_n 2, 1) := by decide +kernel
theorem dX5_eats_61 : decode cX5_eats 61 = .ok (.ireturn, 1) := by decide +kernel
theorem dX5_eats_62 : decode cX5_eats 62 = .ok (.iconst 3, 1) := by decide +kernel
theorem dX5_eats_63 : decode cX5_eats 63 = .ok (.ireturn, 1) := by decide +kernel
theorem dX5_eats_64 : decode cX5_eats 64 = .ok (.bipush 6, 2) := by decide +kernel
theorem dX5_eats_66 : decode cX5_eats 66 = .ok (.ireturn, 1) := by decide +kernel
theorem dX5_eats_67 : decode cX5_eats 67 = .ok (.bipush 6, 2) := by decide +kernel
theorem dX5_eats_69 : decode cX5_eats 69 = .ok (.aload_n 0, 1) := by decide +kernel
theorem dX5_eats_70 : decode cX5_eats 70 = .ok (.iload_n 1, 1) := by decide +kernel
theorem dX5_eats_71 : decode cX5_eats 71 = .ok (.iconst 2, 1) := by decide +kernel
theorem dX5_eats_72 : decode cX5_eats 72 = .ok (.invokevirtual 82, 3) := by decide +kernel
theorem dX5_eats_75 : decode cX5_eats 75 = .ok (.isub, 1) := by decide +kernel
theorem dX5_eats_76 : decode cX5_eats 76 = .ok (.ireturn, 1) := by decide +kernel
theorem dX5_eats_77 : decode cX5_eats 77 = .ok (.iconst 1, 1) := by decide +kernel
theorem dX5_eats_78 : decode cX5_eats 78 = .ok (.ireturn, 1) := by decide +kernel
theorem dX5_eats_79 : decode cX5_eats 79 = .ok (.iconst 0, 1) := by decide +kernel
theorem dX5_eats_80 : decode cX5_eats 80 = .ok (.iload_n 2, 1) := by decide +kernel
theorem dX5_eats_81 : decode cX5_eats 81 = .ok (.iconst 1, 1) := by decide +kernel
theorem dX5_eats_82 : decode cX5_eats 82 = .ok (.isub, 1) := by decide +kernel
theorem dX5_eats_83 : decode cX5_eats 83 = .ok (.invokestatic 85, 3) := by decide +kernel
theorem dX5_eats_86 : decode cX5_eats 86 = .ok (.ireturn, 1) := by decide +kernel
theorem dX5_eats_87 : decode cX5_eats 87 = .ok (.iconst 2, 1) := by decide +kernel
theorem dX5_eats_88 : decode cX5_eats 88 = .ok (.ireturn, 1) := by decide +kernel
theorem dX5_writesMost_0 : decode cX5_writesMost 0 = .ok (.aload_n 0, 1) := by decide +kernel
theorem dX5_writesMost_1 : decode cX5_writesMost 1 = .ok (.iload_n 1, 1) := by decide +kernel
theorem dX5_writesMost_2 : decode cX5_writesMost 2 = .ok (.iconst 0, 1) := by decide +kernel
theorem dX5_writesMost_3 : decode cX5_writesMost 3 = .ok (.invokevirtual 82, 3) := by decide +kernel
theorem dX5_writesMost_6 : decode cX5_writesMost 6 = .ok (.tableswitch 79 1 6 #[38, 79, 55, 57, 59, 77], 38) := by decide +kernel
theorem dX5_writesMost_44 : decode cX5_writesMost 44 = .ok (.aload_n 0, 1) := by decide +kernel
theorem dX5_writesMost_45 : decode cX5_writesMost 45 = .ok (.iload_n 1, 1) := by decide +kernel
theorem dX5_writesMost_46 : decode cX5_writesMost 46 = .ok (.iconst 3, 1) := by decide +kernel
theorem dX5_writesMost_47 : decode cX5_writesMost 47 = .ok (.invokevirtual 82, 3) := by decide +kernel
theorem dX5_writesMost_50 : decode cX5_writesMost 50 = .ok (.bipush 20, 2) := by decide +kernel
theorem dX5_writesMost_52 : decode cX5_writesMost 52 = .ok (.if_icmp .ge 7, 3) := by decide +kernel
theorem dX5_writesMost_55 : decode cX5_writesMost 55 = .ok (.iconst 4, 1) := by decide +kernel
theorem dX5_writesMost_56 : decode cX5_writesMost 56 = .ok (.goto 4, 3) := by decide +kernel
theorem dX5_writesMost_59 : decode cX5_writesMost 59 = .ok (.iconst 2, 1) := by decide +kernel
theorem dX5_writesMost_60 : decode cX5_writesMost 60 = .ok (.ireturn, 1) := by decide +kernel
theorem dX5_writesMost_61 : decode cX5_writesMost 61 = .ok (.iconst 4, 1) := by decide +kernel
theorem dX5_writesMost_62 : decode cX5_writesMost 62 = .ok (.ireturn, 1) := by decide +kernel
theorem dX5_writesMost_63 : decode cX5_writesMost 63 = .ok (.iconst 0, 1) := by decide +kernel
theorem dX5_writesMost_64 : decode cX5_writesMost 64 = .ok (.ireturn, 1) := by decide +kernel
theorem dX5_writesMost_65 : decode cX5_writesMost 65 = .ok (.aload_n 0, 1) := by decide +kernel
theorem dX5_writesMost_66 : decode cX5_writesMost 66 = .ok (.iload_n 1, 1) := by decide +kernel
theorem dX5_writesMost_67 : decode cX5_writesMost 67 = .ok (.iconst 3, 1) := by decide +kernel
theorem dX5_writesMost_68 : decode cX5_writesMost 68 = .ok (.invokevirtual 82, 3) := by decide +kernel
theorem dX5_writesMost_71 : decode cX5_writesMost 71 = .ok (.iconst 2, 1) := by decide +kernel
theorem dX5_writesMost_72 : decode cX5_writesMost 72 = .ok (.irem, 1) := by decide +kernel
theorem dX5_writesMost_73 : decode cX5_writesMost 73 = .ok (.iconst 1, 1) := by decide +kernel
theorem dX5_writesMost_74 : decode cX5_writesMost 74 = .ok (.if_icmp .ne 7, 3) := by decide +kernel
theorem dX5_writesMost_77 : decode cX5_writesMost 77 = .ok (.iconst 1, 1) := by decide +kernel
theorem dX5_writesMost_78 : decode cX5_writesMost 78 = .ok (.goto 4, 3) := by decide +kernel
theorem dX5_writesMost_81 : decode cX5_writesMost 81 = .ok (.iconst 2, 1) := by decide +kernel
theorem dX5_writesMost_82 : decode cX5_writesMost 82 = .ok (.ireturn, 1) := by decide +kernel
theorem dX5_writesMost_83 : decode cX5_writesMost 83 = .ok (.iconst 1, 1) := by decide +kernel
theorem dX5_writesMost_84 : decode cX5_writesMost 84 = .ok (.ireturn, 1) := by decide +kernel
theorem dX5_writesMost_85 : decode cX5_writesMost 85 = .ok (.iconst 2, 1) := by decide +kernel
theorem dX5_writesMost_86 : decode cX5_writesMost 86 = .ok (.ireturn, 1) := by decide +kernel
theorem dX5_next_0 : decode cX5_next 0 = .ok (.aload_n 0, 1) := by decide +kernel
theorem dX5_next_1 : decode cX5_next 1 = .ok (.iload_n 1, 1) := by decide +kernel
theorem dX5_next_2 : decode cX5_next 2 = .ok (.iconst 1, 1) := by decide +kernel
theorem dX5_next_3 : decode cX5_next 3 = .ok (.invokevirtual 82, 3) := by decide +kernel
theorem dX5_next_6 : decode cX5_next 6 = .ok (.aload_n 0, 1) := by decide +kernel
theorem dX5_next_7 : decode cX5_next 7 = .ok (.iload_n 1, 1) := by decide +kernel
theorem dX5_next_8 : decode cX5_next 8 = .ok (.iconst 2, 1) := by decide +kernel
theorem dX5_next_9 : decode cX5_next 9 = .ok (.invokevirtual 82, 3) := by decide +kernel
theorem dX5_next_12 : decode cX5_next 12 = .ok (.invokestatic 88, 3) := by decide +kernel
theorem dX5_next_15 : decode cX5_next 15 = .ok (.ireturn, 1) := by decide +kernel
theorem dX5_isKeptBy_0 : decode cX5_isKeptBy 0 = .ok (.iload_n 0, 1) := by decide +kernel
theorem dX5_isKeptBy_1 : decode cX5_isKeptBy 1 = .ok (.tableswitch 74 1 6 #[39, 74, 49, 61, 63, 39], 39) := by decide +kernel
theorem dX5_isKeptBy_40 : decode cX5_isKeptBy 40 = .ok (.iload_n 2, 1) := by decide +kernel
theorem dX5_isKeptBy_41 : decode cX5_isKeptBy 41 = .ok (.ifCond .eq 7, 3) := by decide +kernel
theorem dX5_isKeptBy_44 : decode cX5_isKeptBy 44 = .ok (.iconst 1, 1) := by decide +kernel
theorem dX5_isKeptBy_45 : decode cX5_isKeptBy 45 = .ok (.goto 4, 3) := by decide +kernel
theorem dX5_isKeptBy_48 : decode cX5_isKeptBy 48 = .ok (.iconst 0, 1) := by decide +kernel
theorem dX5_isKeptBy_49 : decode cX5_isKeptBy 49 = .ok (.ireturn, 1) := by decide +kernel
theorem dX5_isKeptBy_50 : decode cX5_isKeptBy 50 = .ok (.iload_n 2, 1) := by decide +kernel
theorem dX5_isKeptBy_51 : decode cX5_isKeptBy 51 = .ok (.iconst 2, 1) := by decide +kernel
theorem dX5_isKeptBy_52 : decode cX5_isKeptBy 52 = .ok (.irem, 1) := by decide +kernel
theorem dX5_isKeptBy_53 : decode cX5_isKeptBy 53 = .ok (.ifCond .ne 7, 3) := by decide +kernel
theorem dX5_isKeptBy_56 : decode cX5_isKeptBy 56 = .ok (.iconst 1, 1) := by decide +kernel
theorem dX5_isKeptBy_57 : decode cX5_isKeptBy 57 = .ok (.goto 4, 3) := by decide +kernel
theorem dX5_isKeptBy_60 : decode cX5_isKeptBy 60 = .ok (.iconst 0, 1) := by decide +kernel
theorem dX5_isKeptBy_61 : decode cX5_isKeptBy 61 = .ok (.ireturn, 1) := by decide +kernel
theorem dX5_isKeptBy_62 : decode cX5_isKeptBy 62 = .ok (.iconst 0, 1) := by decide +kernel
theorem dX5_isKeptBy_63 : decode cX5_isKeptBy 63 = .ok (.ireturn, 1) := by decide +kernel
theorem dX5_isKeptBy_64 : decode cX5_isKeptBy 64 = .ok (.iload_n 1, 1) := by decide +kernel
theorem dX5_isKeptBy_65 : decode cX5_isKeptBy 65 = .ok (.iconst 1, 1) := by decide +kernel
theorem dX5_isKeptBy_66 : decode cX5_isKeptBy 66 = .ok (.if_icmp .ne 7, 3) := by decide +kernel
theorem dX5_isKeptBy_69 : decode cX5_isKeptBy 69 = .ok (.iconst 1, 1) := by decide +kernel
theorem dX5_isKeptBy_70 : decode cX5_isKeptBy 70 = .ok (.goto 4, 3) := by decide +kernel
theorem dX5_isKeptBy_73 : decode cX5_isKeptBy 73 = .ok (.iconst 0, 1) := by decide +kernel
theorem dX5_isKeptBy_74 : decode cX5_isKeptBy 74 = .ok (.ireturn, 1) := by decide +kernel
theorem dX5_isKeptBy_75 : decode cX5_isKeptBy 75 = .ok (.iconst 1, 1) := by decide +kernel
theorem dX5_isKeptBy_76 : decode cX5_isKeptBy 76 = .ok (.ireturn, 1) := by decide +kernel
theorem dX5_of_0 : decode cX5_of 0 = .ok (.aload_n 0, 1) := by decide +kernel
theorem dX5_of_1 : decode cX5_of 1 = .ok (.iload_n 1, 1) := by decide +kernel
theorem dX5_of_2 : decode cX5_of 2 = .ok (.invokevirtual 91, 3) := by decide +kernel
theorem dX5_of_5 : decode cX5_of 5 = .ok (.ifCond .eq 15, 3) := by decide +kernel
theorem dX5_of_8 : decode cX5_of 8 = .ok (.iload_n 2, 1) := by decide +kernel
theorem dX5_of_9 : decode cX5_of 9 = .ok (.i2l, 1) := by decide +kernel
theorem dX5_of_10 : decode cX5_of 10 = .ok (.lconst 0, 1) := by decide +kernel
theorem dX5_of_11 : decode cX5_of 11 = .ok (.ldc2_w 94, 3) := by decide +kernel
theorem dX5_of_14 : decode cX5_of 14 = .ok (.invokestatic 49, 3) := by decide +kernel
theorem dX5_of_17 : decode cX5_of 17 = .ok (.ifCond .ne 10, 3) := by decide +kernel
theorem dX5_of_20 : decode cX5_of 20 = .ok (.aload_n 0, 1) := by decide +kernel
theorem dX5_of_21 : decode cX5_of 21 = .ok (.ldc 37, 2) := by decide +kernel
theorem dX5_of_23 : decode cX5_of 23 = .ok (.invokevirtual 39, 3) := by decide +kernel
theorem dX5_of_26 : decode cX5_of 26 = .ok (.ireturn, 1) := by decide +kernel
theorem dX5_of_27 : decode cX5_of 27 = .ok (.iload_n 2, 1) := by decide +kernel
theorem dX5_of_28 : decode cX5_of 28 = .ok (.tableswitch 46 5 7 #[28, 34, 40], 28) := by decide +kernel
theorem dX5_of_56 : decode cX5_of 56 = .ok (.aload_n 0, 1) := by decide +kernel
theorem dX5_of_57 : decode cX5_of 57 = .ok (.iload_n 1, 1) := by decide +kernel
theorem dX5_of_58 : decode cX5_of 58 = .ok (.invokevirtual 96, 3) := by decide +kernel
theorem dX5_of_61 : decode cX5_of 61 = .ok (.ireturn, 1) := by decide +kernel
theorem dX5_of_62 : decode cX5_of 62 = .ok (.aload_n 0, 1) := by decide +kernel
theorem dX5_of_63 : decode cX5_of 63 = .ok (.iload_n 1, 1) := by decide +kernel
theorem dX5_of_64 : decode cX5_of 64 = .ok (.invokevirtual 99, 3) := by decide +kernel
theorem dX5_of_67 : decode cX5_of 67 = .ok (.ireturn, 1) := by decide +kernel
theorem dX5_of_68 : decode cX5_of 68 = .ok (.aload_n 0, 1) := by decide +kernel
theorem dX5_of_69 : decode cX5_of 69 = .ok (.iload_n 1, 1) := by decide +kernel
theorem dX5_of_70 : decode cX5_of 70 = .ok (.invokevirtual 102, 3) := by decide +kernel
theorem dX5_of_73 : decode cX5_of 73 = .ok (.ireturn, 1) := by decide +kernel
theorem dX5_of_74 : decode cX5_of 74 = .ok (.aload_n 0, 1) := by decide +kernel
theorem dX5_of_75 : decode cX5_of 75 = .ok (.iload_n 1, 1) := by decide +kernel
theorem dX5_of_76 : decode cX5_of 76 = .ok (.iload_n 2, 1) := by decide +kernel
theorem dX5_of_77 : decode cX5_of 77 = .ok (.invokevirtual 82, 3) := by decide +kernel
theorem dX5_of_80 : decode cX5_of 80 = .ok (.ireturn, 1) := by decide +kernel
theorem dX5_greatestOf_0 : decode cX5_greatestOf 0 = .ok (.iload_n 0, 1) := by decide +kernel
theorem dX5_greatestOf_1 : decode cX5_greatestOf 1 = .ok (.ifCond .ne 8, 3) := by decide +kernel
theorem dX5_greatestOf_4 : decode cX5_greatestOf 4 = .ok (.bipush 6, 2) := by decide +kernel
theorem dX5_greatestOf_6 : decode cX5_greatestOf 6 = .ok (.goto 25, 3) := by decide +kernel
theorem dX5_greatestOf_9 : decode cX5_greatestOf 9 = .ok (.iload_n 0, 1) := by decide +kernel
theorem dX5_greatestOf_10 : decode cX5_greatestOf 10 = .ok (.iconst 2, 1) := by decide +kernel
theorem dX5_greatestOf_11 : decode cX5_greatestOf 11 = .ok (.if_icmp .ne 7, 3) := by decide +kernel
theorem dX5_greatestOf_14 : decode cX5_greatestOf 14 = .ok (.iconst 3, 1) := by decide +kernel
theorem dX5_greatestOf_15 : decode cX5_greatestOf 15 = .ok (.goto 16, 3) := by decide +kernel
theorem dX5_greatestOf_18 : decode cX5_greatestOf 18 = .ok (.iload_n 0, 1) := by decide +kernel
theorem dX5_greatestOf_19 : decode cX5_greatestOf 19 = .ok (.iconst 3, 1) := by decide +kernel
theorem dX5_greatestOf_20 : decode cX5_greatestOf 20 = .ok (.if_icmp .ne 8, 3) := by decide +kernel
theorem dX5_greatestOf_23 : decode cX5_greatestOf 23 = .ok (.bipush 99, 2) := by decide +kernel
theorem dX5_greatestOf_25 : decode cX5_greatestOf 25 = .ok (.goto 6, 3) := by decide +kernel
theorem dX5_greatestOf_28 : decode cX5_greatestOf 28 = .ok (.sipush 9999, 3) := by decide +kernel
theorem dX5_greatestOf_31 : decode cX5_greatestOf 31 = .ok (.ireturn, 1) := by decide +kernel
theorem dX5_change_0 : decode cX5_change 0 = .ok (.aload_n 0, 1) := by decide +kernel
theorem dX5_change_1 : decode cX5_change 1 = .ok (.iload_n 1, 1) := by decide +kernel
theorem dX5_change_2 : decode cX5_change 2 = .ok (.invokevirtual 91, 3) := by decide +kernel
theorem dX5_change_5 : decode cX5_change 5 = .ok (.ifCond .eq 33, 3) := by decide +kernel
theorem dX5_change_8 : decode cX5_change 8 = .ok (.iload_n 2, 1) := by decide +kernel
theorem dX5_change_9 : decode cX5_change 9 = .ok (.i2l, 1) := by decide +kernel
theorem dX5_change_10 : decode cX5_change 10 = .ok (.lconst 0, 1) := by decide +kernel
theorem dX5_change_11 : decode cX5_change 11 = .ok (.ldc2_w 105, 3) := by decide +kernel
theorem dX5_change_14 : decode cX5_change 14 = .ok (.invokestatic 49, 3) := by decide +kernel
theorem dX5_change_17 : decode cX5_change 17 = .ok (.ifCond .eq 21, 3) := by decide +kernel
theorem dX5_change_20 : decode cX5_change 20 = .ok (.iload_n 3, 1) := by decide +kernel
theorem dX5_change_21 : decode cX5_change 21 = .ok (.i2l, 1) := by decide +kernel
theorem dX5_change_22 : decode cX5_change 22 = .ok (.lconst 0, 1) := by decide +kernel
theorem dX5_change_23 : decode cX5_change 23 = .ok (.iload_n 2, 1) := by decide +kernel
theorem dX5_change_24 : decode cX5_change 24 = .ok (.invokestatic 107, 3) := by decide +kernel
theorem dX5_change_27 : decode cX5_change 27 = .ok (.i2l, 1) := by decide +kernel
theorem dX5_change_28 : decode cX5_change 28 = .ok (.invokestatic 49, 3) := by decide +kernel
theorem dX5_change_31 : decode cX5_change 31 = .ok (.ifCond .eq 7, 3) := by decide +kernel
theorem dX5_change_34 : decode cX5_change 34 = .ok (.iconst 1, 1) := by decide +kernel
theorem dX5_change_35 : decode cX5_change 35 = .ok (.goto 4, 3) := by decide +kernel
theorem dX5_change_38 : decode cX5_change 38 = .ok (.iconst 0, 1) := by decide +kernel
theorem dX5_change_39 : decode cX5_change 39 = .ok (.istore 4, 2) := by decide +kernel
theorem dX5_change_41 : decode cX5_change 41 = .ok (.iload 4, 2) := by decide +kernel
theorem dX5_change_43 : decode cX5_change 43 = .ok (.ifCond .eq 16, 3) := by decide +kernel
theorem dX5_change_46 : decode cX5_change 46 = .ok (.aload_n 0, 1) := by decide +kernel
theorem dX5_change_47 : decode cX5_change 47 = .ok (.iload_n 1, 1) := by decide +kernel
theorem dX5_change_48 : decode cX5_change 48 = .ok (.iload_n 2, 1) := by decide +kernel
theorem dX5_change_49 : decode cX5_change 49 = .ok (.invokestatic 70, 3) := by decide +kernel
theorem dX5_change_52 : decode cX5_change 52 = .ok (.iload_n 3, 1) := by decide +kernel
theorem dX5_change_53 : decode cX5_change 53 = .ok (.invokevirtual 53, 3) := by decide +kernel
theorem dX5_change_56 : decode cX5_change 56 = .ok (.goto 9, 3) := by decide +kernel
theorem dX5_change_59 : decode cX5_change 59 = .ok (.aload_n 0, 1) := by decide +kernel
theorem dX5_change_60 : decode cX5_change 60 = .ok (.ldc 37, 2) := by decide +kernel
theorem dX5_change_62 : decode cX5_change 62 = .ok (.invokevirtual 39, 3) := by decide +kernel
theorem dX5_change_65 : decode cX5_change 65 = .ok (.ireturn, 1) := by decide +kernel
theorem dX5_keeps_0 : decode cX5_keeps 0 = .ok (.aload_n 0, 1) := by decide +kernel
theorem dX5_keeps_1 : decode cX5_keeps 1 = .ok (.iload_n 1, 1) := by decide +kernel
theorem dX5_keeps_2 : decode cX5_keeps 2 = .ok (.invokevirtual 91, 3) := by decide +kernel
theorem dX5_keeps_5 : decode cX5_keeps 5 = .ok (.ifCond .eq 10, 3) := by decide +kernel
theorem dX5_keeps_8 : decode cX5_keeps 8 = .ok (.iload_n 2, 1) := by decide +kernel
theorem dX5_keeps_9 : decode cX5_keeps 9 = .ok (.invokestatic 57, 3) := by decide +kernel
theorem dX5_keeps_12 : decode cX5_keeps 12 = .ok (.ifCond .ne 10, 3) := by decide +kernel
theorem dX5_keeps_15 : decode cX5_keeps 15 = .ok (.aload_n 0, 1) := by decide +kernel
theorem dX5_keeps_16 : decode cX5_keeps 16 = .ok (.ldc 37, 2) := by decide +kernel
theorem dX5_keeps_18 : decode cX5_keeps 18 = .ok (.invokevirtual 39, 3) := by decide +kernel
theorem dX5_keeps_21 : decode cX5_keeps 21 = .ok (.ireturn, 1) := by decide +kernel
theorem dX5_keeps_22 : decode cX5_keeps 22 = .ok (.iconst 0, 1) := by decide +kernel
theorem dX5_keeps_23 : decode cX5_keeps 23 = .ok (.istore_n 3, 1) := by decide +kernel
theorem dX5_keeps_24 : decode cX5_keeps 24 = .ok (.iconst 1, 1) := by decide +kernel
theorem dX5_keeps_25 : decode cX5_keeps 25 = .ok (.istore 4, 2) := by decide +kernel
theorem dX5_keeps_27 : decode cX5_keeps 27 = .ok (.iload 4, 2) := by decide +kernel
theorem dX5_keeps_29 : decode cX5_keeps 29 = .ok (.iconst 4, 1) := by decide +kernel
theorem dX5_keeps_30 : decode cX5_keeps 30 = .ok (.if_icmp .ge 52, 3) := by decide +kernel
theorem dX5_keeps_33 : decode cX5_keeps 33 = .ok (.aload_n 0, 1) := by decide +kernel
theorem dX5_keeps_34 : decode cX5_keeps 34 = .ok (.getfield 7, 3) := by decide +kernel
theorem dX5_keeps_37 : decode cX5_keeps 37 = .ok (.bipush 13, 2) := by decide +kernel
theorem dX5_keeps_39 : decode cX5_keeps 39 = .ok (.iload_n 2, 1) := by decide +kernel
theorem dX5_keeps_40 : decode cX5_keeps 40 = .ok (.iadd, 1) := by decide +kernel
theorem dX5_keeps_41 : decode cX5_keeps 41 = .ok (.iaload, 1) := by decide +kernel
theorem dX5_keeps_42 : decode cX5_keeps 42 = .ok (.iload 4, 2) := by decide +kernel
theorem dX5_keeps_44 : decode cX5_keeps 44 = .ok (.invokestatic 88, 3) := by decide +kernel
theorem dX5_keeps_47 : decode cX5_keeps 47 = .ok (.istore 5, 2) := by decide +kernel
theorem dX5_keeps_49 : decode cX5_keeps 49 = .ok (.iload_n 3, 1) := by decide +kernel
theorem dX5_keeps_50 : decode cX5_keeps 50 = .ok (.aload_n 0, 1) := by decide +kernel
theorem dX5_keeps_51 : decode cX5_keeps 51 = .ok (.iload_n 1, 1) := by decide +kernel
theorem dX5_keeps_52 : decode cX5_keeps 52 = .ok (.iconst 0, 1) := by decide +kernel
theorem dX5_keeps_53 : decode cX5_keeps 53 = .ok (.invokevirtual 82, 3) := by decide +kernel
theorem dX5_keeps_56 : decode cX5_keeps 56 = .ok (.iload 4, 2) := by decide +kernel
theorem dX5_keeps_58 : decode cX5_keeps 58 = .ok (.iload 5, 2) := by decide +kernel
theorem dX5_keeps_60 : decode cX5_keeps 60 = .ok (.invokestatic 110, 3) := by decide +kernel
theorem dX5_keeps_63 : decode cX5_keeps 63 = .ok (.ifCond .eq 10, 3) := by decide +kernel
theorem dX5_keeps_66 : decode cX5_keeps 66 = .ok (.iconst 1, 1) := by decide +kernel
theorem dX5_keeps_67 : decode cX5_keeps 67 = .ok (.iload 5, 2) := by decide +kernel
theorem dX5_keeps_69 : decode cX5_keeps 69 = .ok (.ishl, 1) := by decide +kernel
theorem dX5_keeps_70 : decode cX5_keeps 70 = .ok (.goto 4, 3) := by decide +kernel
theorem dX5_keeps_73 : decode cX5_keeps 73 = .ok (.iconst 0, 1) := by decide +kernel
theorem dX5_keeps_74 : decode cX5_keeps 74 = .ok (.ior, 1) := by decide +kernel
theorem dX5_keeps_75 : decode cX5_keeps 75 = .ok (.istore_n 3, 1) := by decide +kernel
theorem dX5_keeps_76 : decode cX5_keeps 76 = .ok (.iinc 4 1, 3) := by decide +kernel
theorem dX5_keeps_79 : decode cX5_keeps 79 = .ok (.goto (-52), 3) := by decide +kernel
theorem dX5_keeps_82 : decode cX5_keeps 82 = .ok (.iload_n 3, 1) := by decide +kernel
theorem dX5_keeps_83 : decode cX5_keeps 83 = .ok (.ireturn, 1) := by decide +kernel
theorem dX5_spellsOf_0 : decode cX5_spellsOf 0 = .ok (.sipush 999, 3) := by decide +kernel
theorem dX5_spellsOf_3 : decode cX5_spellsOf 3 = .ok (.istore_n 2, 1) := by decide +kernel
theorem dX5_spellsOf_4 : decode cX5_spellsOf 4 = .ok (.iconst 0, 1) := by decide +kernel
theorem dX5_spellsOf_5 : decode cX5_spellsOf 5 = .ok (.istore_n 3, 1) := by decide +kernel
theorem dX5_spellsOf_6 : decode cX5_spellsOf 6 = .ok (.iload_n 3, 1) := by decide +kernel
theorem dX5_spellsOf_7 : decode cX5_spellsOf 7 = .ok (.iconst 4, 1) := by decide +kernel
theorem dX5_spellsOf_8 : decode cX5_spellsOf 8 = .ok (.if_icmp .ge 72, 3) := by decide +kernel
theorem dX5_spellsOf_11 : decode cX5_spellsOf 11 = .ok (.iload_n 1, 1) := by decide +kernel
theorem dX5_spellsOf_12 : decode cX5_spellsOf 12 = .ok (.iload_n 3, 1) := by decide +kernel
theorem dX5_spellsOf_13 : decode cX5_spellsOf 13 = .ok (.invokestatic 88, 3) := by decide +kernel
theorem dX5_spellsOf_16 : decode cX5_spellsOf 16 = .ok (.istore 4, 2) := by decide +kernel
theorem dX5_spellsOf_18 : decode cX5_spellsOf 18 = .ok (.iconst 0, 1) := by decide +kernel
theorem dX5_spellsOf_19 : decode cX5_spellsOf 19 = .ok (.istore 5, 2) := by decide +kernel
theorem dX5_spellsOf_21 : decode cX5_spellsOf 21 = .ok (.iconst 0, 1) := by decide +kernel
theorem dX5_spellsOf_22 : decode cX5_spellsOf 22 = .ok (.istore 6, 2) := by decide +kernel
theorem dX5_spellsOf_24 : decode cX5_spellsOf 24 = .ok (.iload 6, 2) := by decide +kernel
theorem dX5_spellsOf_26 : decode cX5_spellsOf 26 = .ok (.iconst 4, 1) := by decide +kernel
theorem dX5_spellsOf_27 : decode cX5_spellsOf 27 = .ok (.if_icmp .ge 30, 3) := by decide +kernel
theorem dX5_spellsOf_30 : decode cX5_spellsOf 30 = .ok (.iload 5, 2) := by decide +kernel
theorem dX5_spellsOf_32 : decode cX5_spellsOf 32 = .ok (.iload_n 1, 1) := by decide +kernel
theorem dX5_spellsOf_33 : decode cX5_spellsOf 33 = .ok (.iload 6, 2) := by decide +kernel
theorem dX5_spellsOf_35 : decode cX5_spellsOf 35 = .ok (.invokestatic 88, 3) := by decide +kernel
theorem dX5_spellsOf_38 : decode cX5_spellsOf 38 = .ok (.iload 4, 2) := by decide +kernel
theorem dX5_spellsOf_40 : decode cX5_spellsOf 40 = .ok (.if_icmp .ne 7, 3) := by decide +kernel
theorem dX5_spellsOf_43 : decode cX5_spellsOf 43 = .ok (.iconst 1, 1) := by decide +kernel
theorem dX5_spellsOf_44 : decode cX5_spellsOf 44 = .ok (.goto 4, 3) := by decide +kernel
theorem dX5_spellsOf_47 : decode cX5_spellsOf 47 = .ok (.iconst 0, 1) := by decide +kernel
theorem dX5_spellsOf_48 : decode cX5_spellsOf 48 = .ok (.iadd, 1) := by decide +kernel
theorem dX5_spellsOf_49 : decode cX5_spellsOf 49 = .ok (.istore 5, 2) := by decide +kernel
theorem dX5_spellsOf_51 : decode cX5_spellsOf 51 = .ok (.iinc 6 1, 3) := by decide +kernel
theorem dX5_spellsOf_54 : decode cX5_spellsOf 54 = .ok (.goto (-30), 3) := by decide +kernel
theorem dX5_spellsOf_57 : decode cX5_spellsOf 57 = .ok (.iload_n 2, 1) := by decide +kernel
theorem dX5_spellsOf_58 : decode cX5_spellsOf 58 = .ok (.aload_n 0, 1) := by decide +kernel
theorem dX5_spellsOf_59 : decode cX5_spellsOf 59 = .ok (.getfield 7, 3) := by decide +kernel
theorem dX5_spellsOf_62 : decode cX5_spellsOf 62 = .ok (.iconst 3, 1) := by decide +kernel
theorem dX5_spellsOf_63 : decode cX5_spellsOf 63 = .ok (.iload 4, 2) := by decide +kernel
theorem dX5_spellsOf_65 : decode cX5_spellsOf 65 = .ok (.iadd, 1) := by decide +kernel
theorem dX5_spellsOf_66 : decode cX5_spellsOf 66 = .ok (.iaload, 1) := by decide +kernel
theorem dX5_spellsOf_67 : decode cX5_spellsOf 67 = .ok (.iload 5, 2) := by decide +kernel
theorem dX5_spellsOf_69 : decode cX5_spellsOf 69 = .ok (.idiv, 1) := by decide +kernel
theorem dX5_spellsOf_70 : decode cX5_spellsOf 70 = .ok (.invokestatic 114, 3) := by decide +kernel
theorem dX5_spellsOf_73 : decode cX5_spellsOf 73 = .ok (.istore_n 2, 1) := by decide +kernel
theorem dX5_spellsOf_74 : decode cX5_spellsOf 74 = .ok (.iinc 3 1, 3) := by decide +kernel
theorem dX5_spellsOf_77 : decode cX5_spellsOf 77 = .ok (.goto (-71), 3) := by decide +kernel
theorem dX5_spellsOf_80 : decode cX5_spellsOf 80 = .ok (.iload_n 2, 1) := by decide +kernel
theorem dX5_spellsOf_81 : decode cX5_spellsOf 81 = .ok (.ireturn, 1) := by decide +kernel
theorem dX5_spells_0 : decode cX5_spells 0 = .ok (.iload_n 1, 1) := by decide +kernel
theorem dX5_spells_1 : decode cX5_spells 1 = .ok (.i2l, 1) := by decide +kernel
theorem dX5_spells_2 : decode cX5_spells 2 = .ok (.lconst 0, 1) := by decide +kernel
theorem dX5_spells_3 : decode cX5_spells 3 = .ok (.ldc2_w 75, 3) := by decide +kernel
theorem dX5_spells_6 : decode cX5_spells 6 = .ok (.invokestatic 49, 3) := by decide +kernel
theorem dX5_spells_9 : decode cX5_spells 9 = .ok (.ifCond .eq 11, 3) := by decide +kernel
theorem dX5_spells_12 : decode cX5_spells 12 = .ok (.aload_n 0, 1) := by decide +kernel
theorem dX5_spells_13 : decode cX5_spells 13 = .ok (.iload_n 1, 1) := by decide +kernel
theorem dX5_spells_14 : decode cX5_spells 14 = .ok (.invokevirtual 117, 3) := by decide +kernel
theorem dX5_spells_17 : decode cX5_spells 17 = .ok (.goto 9, 3) := by decide +kernel
theorem dX5_spells_20 : decode cX5_spells 20 = .ok (.aload_n 0, 1) := by decide +kernel
theorem dX5_spells_21 : decode cX5_spells 21 = .ok (.ldc 37, 2) := by decide +kernel
theorem dX5_spells_23 : decode cX5_spells 23 = .ok (.invokevirtual 39, 3) := by decide +kernel
theorem dX5_spells_26 : decode cX5_spells 26 = .ok (.ireturn, 1) := by decide +kernel
theorem dX5_eatsOne_0 : decode cX5_eatsOne 0 = .ok (.iconst 1, 1) := by decide +kernel
theorem dX5_eatsOne_1 : decode cX5_eatsOne 1 = .ok (.istore_n 3, 1) := by decide +kernel
theorem dX5_eatsOne_2 : decode cX5_eatsOne 2 = .ok (.iload_n 3, 1) := by decide +kernel
theorem dX5_eatsOne_3 : decode cX5_eatsOne 3 = .ok (.iconst 4, 1) := by decide +kernel
theorem dX5_eatsOne_4 : decode cX5_eatsOne 4 = .ok (.if_icmp .ge 57, 3) := by decide +kernel
theorem dX5_eatsOne_7 : decode cX5_eatsOne 7 = .ok (.iload_n 2, 1) := by decide +kernel
theorem dX5_eatsOne_8 : decode cX5_eatsOne 8 = .ok (.iload_n 3, 1) := by decide +kernel
theorem dX5_eatsOne_9 : decode cX5_eatsOne 9 = .ok (.invokestatic 88, 3) := by decide +kernel
theorem dX5_eatsOne_12 : decode cX5_eatsOne 12 = .ok (.istore 4, 2) := by decide +kernel
theorem dX5_eatsOne_14 : decode cX5_eatsOne 14 = .ok (.aload_n 0, 1) := by decide +kernel
theorem dX5_eatsOne_15 : decode cX5_eatsOne 15 = .ok (.iload_n 1, 1) := by decide +kernel
theorem dX5_eatsOne_16 : decode cX5_eatsOne 16 = .ok (.iconst 0, 1) := by decide +kernel
theorem dX5_eatsOne_17 : decode cX5_eatsOne 17 = .ok (.invokevirtual 82, 3) := by decide +kernel
theorem dX5_eatsOne_20 : decode cX5_eatsOne 20 = .ok (.iload_n 3, 1) := by decide +kernel
theorem dX5_eatsOne_21 : decode cX5_eatsOne 21 = .ok (.iload 4, 2) := by decide +kernel
theorem dX5_eatsOne_23 : decode cX5_eatsOne 23 = .ok (.invokestatic 110, 3) := by decide +kernel
theorem dX5_eatsOne_26 : decode cX5_eatsOne 26 = .ok (.ifCond .eq 29, 3) := by decide +kernel
theorem dX5_eatsOne_29 : decode cX5_eatsOne 29 = .ok (.aload_n 0, 1) := by decide +kernel
theorem dX5_eatsOne_30 : decode cX5_eatsOne 30 = .ok (.getfield 7, 3) := by decide +kernel
theorem dX5_eatsOne_33 : decode cX5_eatsOne 33 = .ok (.iconst 3, 1) := by decide +kernel
theorem dX5_eatsOne_34 : decode cX5_eatsOne 34 = .ok (.iload 4, 2) := by decide +kernel
theorem dX5_eatsOne_36 : decode cX5_eatsOne 36 = .ok (.iadd, 1) := by decide +kernel
theorem dX5_eatsOne_37 : decode cX5_eatsOne 37 = .ok (.sipush 999, 3) := by decide +kernel
theorem dX5_eatsOne_40 : decode cX5_eatsOne 40 = .ok (.aload_n 0, 1) := by decide +kernel
theorem dX5_eatsOne_41 : decode cX5_eatsOne 41 = .ok (.getfield 7, 3) := by decide +kernel
theorem dX5_eatsOne_44 : decode cX5_eatsOne 44 = .ok (.iconst 3, 1) := by decide +kernel
theorem dX5_eatsOne_45 : decode cX5_eatsOne 45 = .ok (.iload 4, 2) := by decide +kernel
theorem dX5_eatsOne_47 : decode cX5_eatsOne 47 = .ok (.iadd, 1) := by decide +kernel
theorem dX5_eatsOne_48 : decode cX5_eatsOne 48 = .ok (.iaload, 1) := by decide +kernel
theorem dX5_eatsOne_49 : decode cX5_eatsOne 49 = .ok (.iconst 1, 1) := by decide +kernel
theorem dX5_eatsOne_50 : decode cX5_eatsOne 50 = .ok (.iadd, 1) := by decide +kernel
theorem dX5_eatsOne_51 : decode cX5_eatsOne 51 = .ok (.invokestatic 114, 3) := by decide +kernel
theorem dX5_eatsOne_54 : decode cX5_eatsOne 54 = .ok (.iastore, 1) := by decide +kernel
theorem dX5_eatsOne_55 : decode cX5_eatsOne 55 = .ok (.iinc 3 1, 3) := by decide +kernel
theorem dX5_eatsOne_58 : decode cX5_eatsOne 58 = .ok (.goto (-56), 3) := by decide +kernel
theorem dX5_eatsOne_61 : decode cX5_eatsOne 61 = .ok (.aload_n 0, 1) := by decide +kernel
theorem dX5_eatsOne_62 : decode cX5_eatsOne 62 = .ok (.getfield 7, 3) := by decide +kernel
theorem dX5_eatsOne_65 : decode cX5_eatsOne 65 = .ok (.iload_n 1, 1) := by decide +kernel
theorem dX5_eatsOne_66 : decode cX5_eatsOne 66 = .ok (.iconst 3, 1) := by decide +kernel
theorem dX5_eatsOne_67 : decode cX5_eatsOne 67 = .ok (.invokestatic 70, 3) := by decide +kernel
theorem dX5_eatsOne_70 : decode cX5_eatsOne 70 = .ok (.bipush 99, 2) := by decide +kernel
theorem dX5_eatsOne_72 : decode cX5_eatsOne 72 = .ok (.aload_n 0, 1) := by decide +kernel
theorem dX5_eatsOne_73 : decode cX5_eatsOne 73 = .ok (.iload_n 1, 1) := by decide +kernel
theorem dX5_eatsOne_74 : decode cX5_eatsOne 74 = .ok (.iconst 3, 1) := by decide +kernel
theorem dX5_eatsOne_75 : decode cX5_eatsOne 75 = .ok (.invokevirtual 82, 3) := by decide +kernel
theorem dX5_eatsOne_78 : decode cX5_eatsOne 78 = .ok (.iconst 3, 1) := by decide +kernel
theorem dX5_eatsOne_79 : decode cX5_eatsOne 79 = .ok (.iadd, 1) := by decide +kernel
theorem dX5_eatsOne_80 : decode cX5_eatsOne 80 = .ok (.invokestatic 114, 3) := by decide +kernel
theorem dX5_eatsOne_83 : decode cX5_eatsOne 83 = .ok (.iastore, 1) := by decide +kernel
theorem dX5_eatsOne_84 : decode cX5_eatsOne 84 = .ok (.return_, 1) := by decide +kernel
theorem dX5_writesOne_0 : decode cX5_writesOne 0 = .ok (.aload_n 0, 1) := by decide +kernel
theorem dX5_writesOne_1 : decode cX5_writesOne 1 = .ok (.getfield 7, 3) := by decide +kernel
theorem dX5_writesOne_4 : decode cX5_writesOne 4 = .ok (.iconst 3, 1) := by decide +kernel
theorem dX5_writesOne_5 : decode cX5_writesOne 5 = .ok (.aload_n 0, 1) := by decide +kernel
theorem dX5_writesOne_6 : decode cX5_writesOne 6 = .ok (.iload_n 1, 1) := by decide +kernel
theorem dX5_writesOne_7 : decode cX5_writesOne 7 = .ok (.invokevirtual 102, 3) := by decide +kernel
theorem dX5_writesOne_10 : decode cX5_writesOne 10 = .ok (.iadd, 1) := by decide +kernel
theorem dX5_writesOne_11 : decode cX5_writesOne 11 = .ok (.dup2, 1) := by decide +kernel
theorem dX5_writesOne_12 : decode cX5_writesOne 12 = .ok (.iaload, 1) := by decide +kernel
theorem dX5_writesOne_13 : decode cX5_writesOne 13 = .ok (.iconst 1, 1) := by decide +kernel
theorem dX5_writesOne_14 : decode cX5_writesOne 14 = .ok (.isub, 1) := by decide +kernel
theorem dX5_writesOne_15 : decode cX5_writesOne 15 = .ok (.iastore, 1) := by decide +kernel
theorem dX5_writesOne_16 : decode cX5_writesOne 16 = .ok (.aload_n 0, 1) := by decide +kernel
theorem dX5_writesOne_17 : decode cX5_writesOne 17 = .ok (.getfield 7, 3) := by decide +kernel
theorem dX5_writesOne_20 : decode cX5_writesOne 20 = .ok (.iload_n 1, 1) := by decide +kernel
theorem dX5_writesOne_21 : decode cX5_writesOne 21 = .ok (.iconst 2, 1) := by decide +kernel
theorem dX5_writesOne_22 : decode cX5_writesOne 22 = .ok (.invokestatic 70, 3) := by decide +kernel
theorem dX5_writesOne_25 : decode cX5_writesOne 25 = .ok (.aload_n 0, 1) := by decide +kernel
theorem dX5_writesOne_26 : decode cX5_writesOne 26 = .ok (.iload_n 1, 1) := by decide +kernel
theorem dX5_writesOne_27 : decode cX5_writesOne 27 = .ok (.iconst 2, 1) := by decide +kernel
theorem dX5_writesOne_28 : decode cX5_writesOne 28 = .ok (.invokevirtual 82, 3) := by decide +kernel
theorem dX5_writesOne_31 : decode cX5_writesOne 31 = .ok (.iconst 1, 1) := by decide +kernel
theorem dX5_writesOne_32 : decode cX5_writesOne 32 = .ok (.iadd, 1) := by decide +kernel
theorem dX5_writesOne_33 : decode cX5_writesOne 33 = .ok (.iastore, 1) := by decide +kernel
theorem dX5_writesOne_34 : decode cX5_writesOne 34 = .ok (.aload_n 0, 1) := by decide +kernel
theorem dX5_writesOne_35 : decode cX5_writesOne 35 = .ok (.iload_n 1, 1) := by decide +kernel
theorem dX5_writesOne_36 : decode cX5_writesOne 36 = .ok (.iconst 2, 1) := by decide +kernel
theorem dX5_writesOne_37 : decode cX5_writesOne 37 = .ok (.invokevirtual 82, 3) := by decide +kernel
theorem dX5_writesOne_40 : decode cX5_writesOne 40 = .ok (.iconst 4, 1) := by decide +kernel
theorem dX5_writesOne_41 : decode cX5_writesOne 41 = .ok (.if_icmp .ne 38, 3) := by decide +kernel
theorem dX5_writesOne_44 : decode cX5_writesOne 44 = .ok (.aload_n 0, 1) := by decide +kernel
theorem dX5_writesOne_45 : decode cX5_writesOne 45 = .ok (.getfield 7, 3) := by decide +kernel
theorem dX5_writesOne_48 : decode cX5_writesOne 48 = .ok (.iload_n 1, 1) := by decide +kernel
theorem dX5_writesOne_49 : decode cX5_writesOne 49 = .ok (.iconst 2, 1) := by decide +kernel
theorem dX5_writesOne_50 : decode cX5_writesOne 50 = .ok (.invokestatic 70, 3) := by decide +kernel
theorem dX5_writesOne_53 : decode cX5_writesOne 53 = .ok (.iconst 0, 1) := by decide +kernel
theorem dX5_writesOne_54 : decode cX5_writesOne 54 = .ok (.iastore, 1) := by decide +kernel
theorem dX5_writesOne_55 : decode cX5_writesOne 55 = .ok (.aload_n 0, 1) := by decide +kernel
theorem dX5_writesOne_56 : decode cX5_writesOne 56 = .ok (.getfield 7, 3) := by decide +kernel
theorem dX5_writesOne_59 : decode cX5_writesOne 59 = .ok (.iload_n 1, 1) := by decide +kernel
theorem dX5_writesOne_60 : decode cX5_writesOne 60 = .ok (.iconst 4, 1) := by decide +kernel
theorem dX5_writesOne_61 : decode cX5_writesOne 61 = .ok (.invokestatic 70, 3) := by decide +kernel
theorem dX5_writesOne_64 : decode cX5_writesOne 64 = .ok (.sipush 9999, 3) := by decide +kernel
theorem dX5_writesOne_67 : decode cX5_writesOne 67 = .ok (.aload_n 0, 1) := by decide +kernel
theorem dX5_writesOne_68 : decode cX5_writesOne 68 = .ok (.iload_n 1, 1) := by decide +kernel
theorem dX5_writesOne_69 : decode cX5_writesOne 69 = .ok (.iconst 4, 1) := by decide +kernel
theorem dX5_writesOne_70 : decode cX5_writesOne 70 = .ok (.invokevirtual 82, 3) := by decide +kernel
theorem dX5_writesOne_73 : decode cX5_writesOne 73 = .ok (.iconst 1, 1) := by decide +kernel
theorem dX5_writesOne_74 : decode cX5_writesOne 74 = .ok (.iadd, 1) := by decide +kernel
theorem dX5_writesOne_75 : decode cX5_writesOne 75 = .ok (.invokestatic 114, 3) := by decide +kernel
theorem dX5_writesOne_78 : decode cX5_writesOne 78 = .ok (.iastore, 1) := by decide +kernel
theorem dX5_writesOne_79 : decode cX5_writesOne 79 = .ok (.return_, 1) := by decide +kernel
theorem dX5_dayBut_0 : decode cX5_dayBut 0 = .ok (.aload_n 0, 1) := by decide +kernel
theorem dX5_dayBut_1 : decode cX5_dayBut 1 = .ok (.getfield 7, 3) := by decide +kernel
theorem dX5_dayBut_4 : decode cX5_dayBut 4 = .ok (.iconst 1, 1) := by decide +kernel
theorem dX5_dayBut_5 : decode cX5_dayBut 5 = .ok (.iaload, 1) := by decide +kernel
theorem dX5_dayBut_6 : decode cX5_dayBut 6 = .ok (.bipush 6, 2) := by decide +kernel
theorem dX5_dayBut_8 : decode cX5_dayBut 8 = .ok (.irem, 1) := by decide +kernel
theorem dX5_dayBut_9 : decode cX5_dayBut 9 = .ok (.istore_n 2, 1) := by decide +kernel
theorem dX5_dayBut_10 : decode cX5_dayBut 10 = .ok (.aload_n 0, 1) := by decide +kernel
theorem dX5_dayBut_11 : decode cX5_dayBut 11 = .ok (.getfield 7, 3) := by decide +kernel
theorem dX5_dayBut_14 : decode cX5_dayBut 14 = .ok (.bipush 19, 2) := by decide +kernel
theorem dX5_dayBut_16 : decode cX5_dayBut 16 = .ok (.iload_n 2, 1) := by decide +kernel
theorem dX5_dayBut_17 : decode cX5_dayBut 17 = .ok (.iadd, 1) := by decide +kernel
theorem dX5_dayBut_18 : decode cX5_dayBut 18 = .ok (.iaload, 1) := by decide +kernel
theorem dX5_dayBut_19 : decode cX5_dayBut 19 = .ok (.istore_n 3, 1) := by decide +kernel
theorem dX5_dayBut_20 : decode cX5_dayBut 20 = .ok (.iconst 0, 1) := by decide +kernel
theorem dX5_dayBut_21 : decode cX5_dayBut 21 = .ok (.istore 4, 2) := by decide +kernel
theorem dX5_dayBut_23 : decode cX5_dayBut 23 = .ok (.iload 4, 2) := by decide +kernel
theorem dX5_dayBut_25 : decode cX5_dayBut 25 = .ok (.aload_n 0, 1) := by decide +kernel
theorem dX5_dayBut_26 : decode cX5_dayBut 26 = .ok (.getfield 7, 3) := by decide +kernel
theorem dX5_dayBut_29 : decode cX5_dayBut 29 = .ok (.iconst 0, 1) := by decide +kernel
theorem dX5_dayBut_30 : decode cX5_dayBut 30 = .ok (.iaload, 1) := by decide +kernel
theorem dX5_dayBut_31 : decode cX5_dayBut 31 = .ok (.if_icmp .ge 71, 3) := by decide +kernel
theorem dX5_dayBut_34 : decode cX5_dayBut 34 = .ok (.iload_n 1, 1) := by decide +kernel
theorem dX5_dayBut_35 : decode cX5_dayBut 35 = .ok (.iload 4, 2) := by decide +kernel
theorem dX5_dayBut_37 : decode cX5_dayBut 37 = .ok (.ishr, 1) := by decide +kernel
theorem dX5_dayBut_38 : decode cX5_dayBut 38 = .ok (.iconst 1, 1) := by decide +kernel
theorem dX5_dayBut_39 : decode cX5_dayBut 39 = .ok (.iand, 1) := by decide +kernel
theorem dX5_dayBut_40 : decode cX5_dayBut 40 = .ok (.iconst 1, 1) := by decide +kernel
theorem dX5_dayBut_41 : decode cX5_dayBut 41 = .ok (.if_icmp .ne 7, 3) := by decide +kernel
theorem dX5_dayBut_44 : decode cX5_dayBut 44 = .ok (.iconst 0, 1) := by decide +kernel
theorem dX5_dayBut_45 : decode cX5_dayBut 45 = .ok (.goto 13, 3) := by decide +kernel
theorem dX5_dayBut_48 : decode cX5_dayBut 48 = .ok (.iload_n 3, 1) := by decide +kernel
theorem dX5_dayBut_49 : decode cX5_dayBut 49 = .ok (.aload_n 0, 1) := by decide +kernel
theorem dX5_dayBut_50 : decode cX5_dayBut 50 = .ok (.iload 4, 2) := by decide +kernel
theorem dX5_dayBut_52 : decode cX5_dayBut 52 = .ok (.invokevirtual 96, 3) := by decide +kernel
theorem dX5_dayBut_55 : decode cX5_dayBut 55 = .ok (.invokestatic 114, 3) := by decide +kernel
theorem dX5_dayBut_58 : decode cX5_dayBut 58 = .ok (.istore 5, 2) := by decide +kernel
theorem dX5_dayBut_60 : decode cX5_dayBut 60 = .ok (.iconst 0, 1) := by decide +kernel
theorem dX5_dayBut_61 : decode cX5_dayBut 61 = .ok (.istore 6, 2) := by decide +kernel
theorem dX5_dayBut_63 : decode cX5_dayBut 63 = .ok (.iload 6, 2) := by decide +kernel
theorem dX5_dayBut_65 : decode cX5_dayBut 65 = .ok (.iload 5, 2) := by decide +kernel
theorem dX5_dayBut_67 : decode cX5_dayBut 67 = .ok (.if_icmp .ge 24, 3) := by decide +kernel
theorem dX5_dayBut_70 : decode cX5_dayBut 70 = .ok (.aload_n 0, 1) := by decide +kernel
theorem dX5_dayBut_71 : decode cX5_dayBut 71 = .ok (.iload 4, 2) := by decide +kernel
theorem dX5_dayBut_73 : decode cX5_dayBut 73 = .ok (.aload_n 0, 1) := by decide +kernel
theorem dX5_dayBut_74 : decode cX5_dayBut 74 = .ok (.getfield 7, 3) := by decide +kernel
theorem dX5_dayBut_77 : decode cX5_dayBut 77 = .ok (.bipush 13, 2) := by decide +kernel
theorem dX5_dayBut_79 : decode cX5_dayBut 79 = .ok (.iload_n 2, 1) := by decide +kernel
theorem dX5_dayBut_80 : decode cX5_dayBut 80 = .ok (.iadd, 1) := by decide +kernel
theorem dX5_dayBut_81 : decode cX5_dayBut 81 = .ok (.iaload, 1) := by decide +kernel
theorem dX5_dayBut_82 : decode cX5_dayBut 82 = .ok (.invokevirtual 120, 3) := by decide +kernel
theorem dX5_dayBut_85 : decode cX5_dayBut 85 = .ok (.iinc 6 1, 3) := by decide +kernel
theorem dX5_dayBut_88 : decode cX5_dayBut 88 = .ok (.goto (-25), 3) := by decide +kernel
theorem dX5_dayBut_91 : decode cX5_dayBut 91 = .ok (.iload_n 3, 1) := by decide +kernel
theorem dX5_dayBut_92 : decode cX5_dayBut 92 = .ok (.iload 5, 2) := by decide +kernel
theorem dX5_dayBut_94 : decode cX5_dayBut 94 = .ok (.isub, 1) := by decide +kernel
theorem dX5_dayBut_95 : decode cX5_dayBut 95 = .ok (.istore_n 3, 1) := by decide +kernel
theorem dX5_dayBut_96 : decode cX5_dayBut 96 = .ok (.iinc 4 1, 3) := by decide +kernel
theorem dX5_dayBut_99 : decode cX5_dayBut 99 = .ok (.goto (-76), 3) := by decide +kernel
theorem dX5_dayBut_102 : decode cX5_dayBut 102 = .ok (.iconst 0, 1) := by decide +kernel
theorem dX5_dayBut_103 : decode cX5_dayBut 103 = .ok (.istore 4, 2) := by decide +kernel
theorem dX5_dayBut_105 : decode cX5_dayBut 105 = .ok (.iload 4, 2) := by decide +kernel
theorem dX5_dayBut_107 : decode cX5_dayBut 107 = .ok (.aload_n 0, 1) := by decide +kernel
theorem dX5_dayBut_108 : decode cX5_dayBut 108 = .ok (.getfield 7, 3) := by decide +kernel
theorem dX5_dayBut_111 : decode cX5_dayBut 111 = .ok (.iconst 0, 1) := by decide +kernel
theorem dX5_dayBut_112 : decode cX5_dayBut 112 = .ok (.iaload, 1) := by decide +kernel
theorem dX5_dayBut_113 : decode cX5_dayBut 113 = .ok (.if_icmp .ge 64, 3) := by decide +kernel
theorem dX5_dayBut_116 : decode cX5_dayBut 116 = .ok (.iload_n 1, 1) := by decide +kernel
theorem dX5_dayBut_117 : decode cX5_dayBut 117 = .ok (.iload 4, 2) := by decide +kernel
theorem dX5_dayBut_119 : decode cX5_dayBut 119 = .ok (.ishr, 1) := by decide +kernel
theorem dX5_dayBut_120 : decode cX5_dayBut 120 = .ok (.iconst 1, 1) := by decide +kernel
theorem dX5_dayBut_121 : decode cX5_dayBut 121 = .ok (.iand, 1) := by decide +kernel
theorem dX5_dayBut_122 : decode cX5_dayBut 122 = .ok (.iconst 1, 1) := by decide +kernel
theorem dX5_dayBut_123 : decode cX5_dayBut 123 = .ok (.if_icmp .ne 7, 3) := by decide +kernel
theorem dX5_dayBut_126 : decode cX5_dayBut 126 = .ok (.iconst 0, 1) := by decide +kernel
theorem dX5_dayBut_127 : decode cX5_dayBut 127 = .ok (.goto 9, 3) := by decide +kernel
theorem dX5_dayBut_130 : decode cX5_dayBut 130 = .ok (.aload_n 0, 1) := by decide +kernel
theorem dX5_dayBut_131 : decode cX5_dayBut 131 = .ok (.iload 4, 2) := by decide +kernel
theorem dX5_dayBut_133 : decode cX5_dayBut 133 = .ok (.invokevirtual 99, 3) := by decide +kernel
theorem dX5_dayBut_136 : decode cX5_dayBut 136 = .ok (.istore 5, 2) := by decide +kernel
theorem dX5_dayBut_138 : decode cX5_dayBut 138 = .ok (.iload 5, 2) := by decide +kernel
theorem dX5_dayBut_140 : decode cX5_dayBut 140 = .ok (.ifCond .le 31, 3) := by decide +kernel
theorem dX5_dayBut_143 : decode cX5_dayBut 143 = .ok (.aload_n 0, 1) := by decide +kernel
theorem dX5_dayBut_144 : decode cX5_dayBut 144 = .ok (.getfield 7, 3) := by decide +kernel
theorem dX5_dayBut_147 : decode cX5_dayBut 147 = .ok (.iconst 3, 1) := by decide +kernel
theorem dX5_dayBut_148 : decode cX5_dayBut 148 = .ok (.aload_n 0, 1) := by decide +kernel
theorem dX5_dayBut_149 : decode cX5_dayBut 149 = .ok (.iload 4, 2) := by decide +kernel
theorem dX5_dayBut_151 : decode cX5_dayBut 151 = .ok (.invokevirtual 102, 3) := by decide +kernel
theorem dX5_dayBut_154 : decode cX5_dayBut 154 = .ok (.iadd, 1) := by decide +kernel
theorem dX5_dayBut_155 : decode cX5_dayBut 155 = .ok (.iaload, 1) := by decide +kernel
theorem dX5_dayBut_156 : decode cX5_dayBut 156 = .ok (.ifCond .le 15, 3) := by decide +kernel
theorem dX5_dayBut_159 : decode cX5_dayBut 159 = .ok (.aload_n 0, 1) := by decide +kernel
theorem dX5_dayBut_160 : decode cX5_dayBut 160 = .ok (.iload 4, 2) := by decide +kernel
theorem dX5_dayBut_162 : decode cX5_dayBut 162 = .ok (.invokevirtual 123, 3) := by decide +kernel
theorem dX5_dayBut_165 : decode cX5_dayBut 165 = .ok (.iinc 5 (-1), 3) := by decide +kernel
theorem dX5_dayBut_168 : decode cX5_dayBut 168 = .ok (.goto (-30), 3) := by decide +kernel
theorem dX5_dayBut_171 : decode cX5_dayBut 171 = .ok (.iinc 4 1, 3) := by decide +kernel
theorem dX5_dayBut_174 : decode cX5_dayBut 174 = .ok (.goto (-69), 3) := by decide +kernel
theorem dX5_dayBut_177 : decode cX5_dayBut 177 = .ok (.iconst 0, 1) := by decide +kernel
theorem dX5_dayBut_178 : decode cX5_dayBut 178 = .ok (.istore 4, 2) := by decide +kernel
theorem dX5_dayBut_180 : decode cX5_dayBut 180 = .ok (.iload 4, 2) := by decide +kernel
theorem dX5_dayBut_182 : decode cX5_dayBut 182 = .ok (.aload_n 0, 1) := by decide +kernel
theorem dX5_dayBut_183 : decode cX5_dayBut 183 = .ok (.getfield 7, 3) := by decide +kernel
theorem dX5_dayBut_186 : decode cX5_dayBut 186 = .ok (.iconst 0, 1) := by decide +kernel
theorem dX5_dayBut_187 : decode cX5_dayBut 187 = .ok (.iaload, 1) := by decide +kernel
theorem dX5_dayBut_188 : decode cX5_dayBut 188 = .ok (.if_icmp .ge 33, 3) := by decide +kernel
theorem dX5_dayBut_191 : decode cX5_dayBut 191 = .ok (.aload_n 0, 1) := by decide +kernel
theorem dX5_dayBut_192 : decode cX5_dayBut 192 = .ok (.getfield 7, 3) := by decide +kernel
theorem dX5_dayBut_195 : decode cX5_dayBut 195 = .ok (.iload 4, 2) := by decide +kernel
theorem dX5_dayBut_197 : decode cX5_dayBut 197 = .ok (.iconst 3, 1) := by decide +kernel
theorem dX5_dayBut_198 : decode cX5_dayBut 198 = .ok (.invokestatic 70, 3) := by decide +kernel
theorem dX5_dayBut_201 : decode cX5_dayBut 201 = .ok (.iconst 0, 1) := by decide +kernel
theorem dX5_dayBut_202 : decode cX5_dayBut 202 = .ok (.aload_n 0, 1) := by decide +kernel
theorem dX5_dayBut_203 : decode cX5_dayBut 203 = .ok (.iload 4, 2) := by decide +kernel
theorem dX5_dayBut_205 : decode cX5_dayBut 205 = .ok (.iconst 3, 1) := by decide +kernel
theorem dX5_dayBut_206 : decode cX5_dayBut 206 = .ok (.invokevirtual 82, 3) := by decide +kernel
theorem dX5_dayBut_209 : decode cX5_dayBut 209 = .ok (.iconst 2, 1) := by decide +kernel
theorem dX5_dayBut_210 : decode cX5_dayBut 210 = .ok (.isub, 1) := by decide +kernel
theorem dX5_dayBut_211 : decode cX5_dayBut 211 = .ok (.invokestatic 85, 3) := by decide +kernel
theorem dX5_dayBut_214 : decode cX5_dayBut 214 = .ok (.iastore, 1) := by decide +kernel
theorem dX5_dayBut_215 : decode cX5_dayBut 215 = .ok (.iinc 4 1, 3) := by decide +kernel
theorem dX5_dayBut_218 : decode cX5_dayBut 218 = .ok (.goto (-38), 3) := by decide +kernel
theorem dX5_dayBut_221 : decode cX5_dayBut 221 = .ok (.aload_n 0, 1) := by decide +kernel
theorem dX5_dayBut_222 : decode cX5_dayBut 222 = .ok (.getfield 7, 3) := by decide +kernel
theorem dX5_dayBut_225 : decode cX5_dayBut 225 = .ok (.iconst 1, 1) := by decide +kernel
theorem dX5_dayBut_226 : decode cX5_dayBut 226 = .ok (.dup2, 1) := by decide +kernel
theorem dX5_dayBut_227 : decode cX5_dayBut 227 = .ok (.iaload, 1) := by decide +kernel
theorem dX5_dayBut_228 : decode cX5_dayBut 228 = .ok (.iconst 1, 1) := by decide +kernel
theorem dX5_dayBut_229 : decode cX5_dayBut 229 = .ok (.iadd, 1) := by decide +kernel
theorem dX5_dayBut_230 : decode cX5_dayBut 230 = .ok (.iastore, 1) := by decide +kernel
theorem dX5_dayBut_231 : decode cX5_dayBut 231 = .ok (.iconst 0, 1) := by decide +kernel
theorem dX5_dayBut_232 : decode cX5_dayBut 232 = .ok (.istore 4, 2) := by decide +kernel
theorem dX5_dayBut_234 : decode cX5_dayBut 234 = .ok (.iload 4, 2) := by decide +kernel
theorem dX5_dayBut_236 : decode cX5_dayBut 236 = .ok (.bipush 10, 2) := by decide +kernel
theorem dX5_dayBut_238 : decode cX5_dayBut 238 = .ok (.if_icmp .ge 45, 3) := by decide +kernel
theorem dX5_dayBut_241 : decode cX5_dayBut 241 = .ok (.aload_n 0, 1) := by decide +kernel
theorem dX5_dayBut_242 : decode cX5_dayBut 242 = .ok (.getfield 7, 3) := by decide +kernel
theorem dX5_dayBut_245 : decode cX5_dayBut 245 = .ok (.iconst 1, 1) := by decide +kernel
theorem dX5_dayBut_246 : decode cX5_dayBut 246 = .ok (.iaload, 1) := by decide +kernel
theorem dX5_dayBut_247 : decode cX5_dayBut 247 = .ok (.bipush 7, 2) := by decide +kernel
theorem dX5_dayBut_249 : decode cX5_dayBut 249 = .ok (.irem, 1) := by decide +kernel
theorem dX5_dayBut_250 : decode cX5_dayBut 250 = .ok (.ifCond .ne 33, 3) := by decide +kernel
theorem dX5_dayBut_253 : decode cX5_dayBut 253 = .ok (.aload_n 0, 1) := by decide +kernel
theorem dX5_dayBut_254 : decode cX5_dayBut 254 = .ok (.getfield 7, 3) := by decide +kernel
theorem dX5_dayBut_257 : decode cX5_dayBut 257 = .ok (.iconst 3, 1) := by decide +kernel
theorem dX5_dayBut_258 : decode cX5_dayBut 258 = .ok (.iload 4, 2) := by decide +kernel
theorem dX5_dayBut_260 : decode cX5_dayBut 260 = .ok (.iadd, 1) := by decide +kernel
theorem dX5_dayBut_261 : decode cX5_dayBut 261 = .ok (.dup2, 1) := by decide +kernel
theorem dX5_dayBut_262 : decode cX5_dayBut 262 = .ok (.iaload, 1) := by decide +kernel
theorem dX5_dayBut_263 : decode cX5_dayBut 263 = .ok (.aload_n 0, 1) := by decide +kernel
theorem dX5_dayBut_264 : decode cX5_dayBut 264 = .ok (.getfield 7, 3) := by decide +kernel
theorem dX5_dayBut_267 : decode cX5_dayBut 267 = .ok (.iconst 3, 1) := by decide +kernel
theorem dX5_dayBut_268 : decode cX5_dayBut 268 = .ok (.iload 4, 2) := by decide +kernel
theorem dX5_dayBut_270 : decode cX5_dayBut 270 = .ok (.iadd, 1) := by decide +kernel
theorem dX5_dayBut_271 : decode cX5_dayBut 271 = .ok (.iaload, 1) := by decide +kernel
theorem dX5_dayBut_272 : decode cX5_dayBut 272 = .ok (.bipush 10, 2) := by decide +kernel
theorem dX5_dayBut_274 : decode cX5_dayBut 274 = .ok (.idiv, 1) := by decide +kernel
theorem dX5_dayBut_275 : decode cX5_dayBut 275 = .ok (.isub, 1) := by decide +kernel
theorem dX5_dayBut_276 : decode cX5_dayBut 276 = .ok (.iastore, 1) := by decide +kernel
theorem dX5_dayBut_277 : decode cX5_dayBut 277 = .ok (.iinc 4 1, 3) := by decide +kernel
theorem dX5_dayBut_280 : decode cX5_dayBut 280 = .ok (.goto (-46), 3) := by decide +kernel
theorem dX5_dayBut_283 : decode cX5_dayBut 283 = .ok (.return_, 1) := by decide +kernel
theorem dX5_goes_0 : decode cX5_goes 0 = .ok (.iconst 0, 1) := by decide +kernel
theorem dX5_goes_1 : decode cX5_goes 1 = .ok (.istore_n 2, 1) := by decide +kernel
theorem dX5_goes_2 : decode cX5_goes 2 = .ok (.iload_n 2, 1) := by decide +kernel
theorem dX5_goes_3 : decode cX5_goes 3 = .ok (.iload_n 1, 1) := by decide +kernel
theorem dX5_goes_4 : decode cX5_goes 4 = .ok (.if_icmp .ge 14, 3) := by decide +kernel
theorem dX5_goes_7 : decode cX5_goes 7 = .ok (.aload_n 0, 1) := by decide +kernel
theorem dX5_goes_8 : decode cX5_goes 8 = .ok (.iconst 0, 1) := by decide +kernel
theorem dX5_goes_9 : decode cX5_goes 9 = .ok (.invokevirtual 127, 3) := by decide +kernel
theorem dX5_goes_12 : decode cX5_goes 12 = .ok (.iinc 2 1, 3) := by decide +kernel
theorem dX5_goes_15 : decode cX5_goes 15 = .ok (.goto (-13), 3) := by decide +kernel
theorem dX5_goes_18 : decode cX5_goes 18 = .ok (.return_, 1) := by decide +kernel
theorem dX5_sumOf_0 : decode cX5_sumOf 0 = .ok (.iconst 0, 1) := by decide +kernel
theorem dX5_sumOf_1 : decode cX5_sumOf 1 = .ok (.istore_n 2, 1) := by decide +kernel
theorem dX5_sumOf_2 : decode cX5_sumOf 2 = .ok (.iconst 0, 1) := by decide +kernel
theorem dX5_sumOf_3 : decode cX5_sumOf 3 = .ok (.istore_n 3, 1) := by decide +kernel
theorem dX5_sumOf_4 : decode cX5_sumOf 4 = .ok (.iload_n 3, 1) := by decide +kernel
theorem dX5_sumOf_5 : decode cX5_sumOf 5 = .ok (.aload_n 0, 1) := by decide +kernel
theorem dX5_sumOf_6 : decode cX5_sumOf 6 = .ok (.getfield 7, 3) := by decide +kernel
theorem dX5_sumOf_9 : decode cX5_sumOf 9 = .ok (.iconst 0, 1) := by decide +kernel
theorem dX5_sumOf_10 : decode cX5_sumOf 10 = .ok (.iaload, 1) := by decide +kernel
theorem dX5_sumOf_11 : decode cX5_sumOf 11 = .ok (.if_icmp .ge 18, 3) := by decide +kernel
theorem dX5_sumOf_14 : decode cX5_sumOf 14 = .ok (.iload_n 2, 1) := by decide +kernel
theorem dX5_sumOf_15 : decode cX5_sumOf 15 = .ok (.aload_n 0, 1) := by decide +kernel
theorem dX5_sumOf_16 : decode cX5_sumOf 16 = .ok (.iload_n 3, 1) := by decide +kernel
theorem dX5_sumOf_17 : decode cX5_sumOf 17 = .ok (.iload_n 1, 1) := by decide +kernel
theorem dX5_sumOf_18 : decode cX5_sumOf 18 = .ok (.invokevirtual 82, 3) := by decide +kernel
theorem dX5_sumOf_21 : decode cX5_sumOf 21 = .ok (.iadd, 1) := by decide +kernel
theorem dX5_sumOf_22 : decode cX5_sumOf 22 = .ok (.istore_n 2, 1) := by decide +kernel
theorem dX5_sumOf_23 : decode cX5_sumOf 23 = .ok (.iinc 3 1, 3) := by decide +kernel
theorem dX5_sumOf_26 : decode cX5_sumOf 26 = .ok (.goto (-22), 3) := by decide +kernel
theorem dX5_sumOf_29 : decode cX5_sumOf 29 = .ok (.iload_n 2, 1) := by decide +kernel
theorem dX5_sumOf_30 : decode cX5_sumOf 30 = .ok (.ireturn, 1) := by decide +kernel
theorem dX5_jarAll_0 : decode cX5_jarAll 0 = .ok (.iconst 0, 1) := by decide +kernel
theorem dX5_jarAll_1 : decode cX5_jarAll 1 = .ok (.istore_n 1, 1) := by decide +kernel
theorem dX5_jarAll_2 : decode cX5_jarAll 2 = .ok (.iconst 0, 1) := by decide +kernel
theorem dX5_jarAll_3 : decode cX5_jarAll 3 = .ok (.istore_n 2, 1) := by decide +kernel
theorem dX5_jarAll_4 : decode cX5_jarAll 4 = .ok (.iload_n 2, 1) := by decide +kernel
theorem dX5_jarAll_5 : decode cX5_jarAll 5 = .ok (.bipush 10, 2) := by decide +kernel
theorem dX5_jarAll_7 : decode cX5_jarAll 7 = .ok (.if_icmp .ge 20, 3) := by decide +kernel
theorem dX5_jarAll_10 : decode cX5_jarAll 10 = .ok (.iload_n 1, 1) := by decide +kernel
theorem dX5_jarAll_11 : decode cX5_jarAll 11 = .ok (.aload_n 0, 1) := by decide +kernel
theorem dX5_jarAll_12 : decode cX5_jarAll 12 = .ok (.getfield 7, 3) := by decide +kernel
theorem dX5_jarAll_15 : decode cX5_jarAll 15 = .ok (.iconst 3, 1) := by decide +kernel
theorem dX5_jarAll_16 : decode cX5_jarAll 16 = .ok (.iload_n 2, 1) := by decide +kernel
theorem dX5_jarAll_17 : decode cX5_jarAll 17 = .ok (.iadd, 1) := by decide +kernel
theorem dX5_jarAll_18 : decode cX5_jarAll 18 = .ok (.iaload, 1) := by decide +kernel
theorem dX5_jarAll_19 : decode cX5_jarAll 19 = .ok (.iadd, 1) := by decide +kernel
theorem dX5_jarAll_20 : decode cX5_jarAll 20 = .ok (.istore_n 1, 1) := by decide +kernel
theorem dX5_jarAll_21 : decode cX5_jarAll 21 = .ok (.iinc 2 1, 3) := by decide +kernel
theorem dX5_jarAll_24 : decode cX5_jarAll 24 = .ok (.goto (-20), 3) := by decide +kernel
theorem dX5_jarAll_27 : decode cX5_jarAll 27 = .ok (.iload_n 1, 1) := by decide +kernel
theorem dX5_jarAll_28 : decode cX5_jarAll 28 = .ok (.ireturn, 1) := by decide +kernel
theorem dX5_go_0 : decode cX5_go 0 = .ok (.iload_n 1, 1) := by decide +kernel
theorem dX5_go_1 : decode cX5_go 1 = .ok (.i2l, 1) := by decide +kernel
theorem dX5_go_2 : decode cX5_go 2 = .ok (.lconst 1, 1) := by decide +kernel
theorem dX5_go_3 : decode cX5_go 3 = .ok (.ldc2_w 130, 3) := by decide +kernel
theorem dX5_go_6 : decode cX5_go 6 = .ok (.invokestatic 49, 3) := by decide +kernel
theorem dX5_go_9 : decode cX5_go 9 = .ok (.ifCond .ne 10, 3) := by decide +kernel
theorem dX5_go_12 : decode cX5_go 12 = .ok (.aload_n 0, 1) := by decide +kernel
theorem dX5_go_13 : decode cX5_go 13 = .ok (.ldc 37, 2) := by decide +kernel
theorem dX5_go_15 : decode cX5_go 15 = .ok (.invokevirtual 39, 3) := by decide +kernel
theorem dX5_go_18 : decode cX5_go 18 = .ok (.ireturn, 1) := by decide +kernel
theorem dX5_go_19 : decode cX5_go 19 = .ok (.aload_n 0, 1) := by decide +kernel
theorem dX5_go_20 : decode cX5_go 20 = .ok (.getfield 7, 3) := by decide +kernel
theorem dX5_go_23 : decode cX5_go 23 = .ok (.iconst 1, 1) := by decide +kernel
theorem dX5_go_24 : decode cX5_go 24 = .ok (.iaload, 1) := by decide +kernel
theorem dX5_go_25 : decode cX5_go 25 = .ok (.iload_n 1, 1) := by decide +kernel
theorem dX5_go_26 : decode cX5_go 26 = .ok (.iadd, 1) := by decide +kernel
theorem dX5_go_27 : decode cX5_go 27 = .ok (.ldc 132, 2) := by decide +kernel
theorem dX5_go_29 : decode cX5_go 29 = .ok (.if_icmp .le 10, 3) := by decide +kernel
theorem dX5_go_32 : decode cX5_go 32 = .ok (.aload_n 0, 1) := by decide +kernel
theorem dX5_go_33 : decode cX5_go 33 = .ok (.ldc 133, 2) := by decide +kernel
theorem dX5_go_35 : decode cX5_go 35 = .ok (.invokevirtual 39, 3) := by decide +kernel
theorem dX5_go_38 : decode cX5_go 38 = .ok (.ireturn, 1) := by decide +kernel
theorem dX5_go_39 : decode cX5_go 39 = .ok (.aload_n 0, 1) := by decide +kernel
theorem dX5_go_40 : decode cX5_go 40 = .ok (.iload_n 1, 1) := by decide +kernel
theorem dX5_go_41 : decode cX5_go 41 = .ok (.invokevirtual 134, 3) := by decide +kernel
theorem dX5_go_44 : decode cX5_go 44 = .ok (.aload_n 0, 1) := by decide +kernel
theorem dX5_go_45 : decode cX5_go 45 = .ok (.iconst 4, 1) := by decide +kernel
theorem dX5_go_46 : decode cX5_go 46 = .ok (.invokevirtual 137, 3) := by decide +kernel
theorem dX5_go_49 : decode cX5_go 49 = .ok (.ireturn, 1) := by decide +kernel
theorem dX5_waiting_0 : decode cX5_waiting 0 = .ok (.iconst 0, 1) := by decide +kernel
theorem dX5_waiting_1 : decode cX5_waiting 1 = .ok (.istore_n 1, 1) := by decide +kernel
theorem dX5_waiting_2 : decode cX5_waiting 2 = .ok (.iconst 0, 1) := by decide +kernel
theorem dX5_waiting_3 : decode cX5_waiting 3 = .ok (.istore_n 2, 1) := by decide +kernel
theorem dX5_waiting_4 : decode cX5_waiting 4 = .ok (.iload_n 2, 1) := by decide +kernel
theorem dX5_waiting_5 : decode cX5_waiting 5 = .ok (.aload_n 0, 1) := by decide +kernel
theorem dX5_waiting_6 : decode cX5_waiting 6 = .ok (.getfield 7, 3) := by decide +kernel
theorem dX5_waiting_9 : decode cX5_waiting 9 = .ok (.iconst 0, 1) := by decide +kernel
theorem dX5_waiting_10 : decode cX5_waiting 10 = .ok (.iaload, 1) := by decide +kernel
theorem dX5_waiting_11 : decode cX5_waiting 11 = .ok (.if_icmp .ge 34, 3) := by decide +kernel
theorem dX5_waiting_14 : decode cX5_waiting 14 = .ok (.iload_n 1, 1) := by decide +kernel
theorem dX5_waiting_15 : decode cX5_waiting 15 = .ok (.aload_n 0, 1) := by decide +kernel
theorem dX5_waiting_16 : decode cX5_waiting 16 = .ok (.getfield 7, 3) := by decide +kernel
theorem dX5_waiting_19 : decode cX5_waiting 19 = .ok (.iconst 3, 1) := by decide +kernel
theorem dX5_waiting_20 : decode cX5_waiting 20 = .ok (.aload_n 0, 1) := by decide +kernel
theorem dX5_waiting_21 : decode cX5_waiting 21 = .ok (.iload_n 2, 1) := by decide +kernel
theorem dX5_waiting_22 : decode cX5_waiting 22 = .ok (.invokevirtual 102, 3) := by decide +kernel
theorem dX5_waiting_25 : decode cX5_waiting 25 = .ok (.iadd, 1) := by decide +kernel
theorem dX5_waiting_26 : decode cX5_waiting 26 = .ok (.iaload, 1) := by decide +kernel
theorem dX5_waiting_27 : decode cX5_waiting 27 = .ok (.ifCond .ne 9, 3) := by decide +kernel
theorem dX5_waiting_30 : decode cX5_waiting 30 = .ok (.iconst 1, 1) := by decide +kernel
theorem dX5_waiting_31 : decode cX5_waiting 31 = .ok (.iload_n 2, 1) := by decide +kernel
theorem dX5_waiting_32 : decode cX5_waiting 32 = .ok (.ishl, 1) := by decide +kernel
theorem dX5_waiting_33 : decode cX5_waiting 33 = .ok (.goto 4, 3) := by decide +kernel
theorem dX5_waiting_36 : decode cX5_waiting 36 = .ok (.iconst 0, 1) := by decide +kernel
theorem dX5_waiting_37 : decode cX5_waiting 37 = .ok (.ior, 1) := by decide +kernel
theorem dX5_waiting_38 : decode cX5_waiting 38 = .ok (.istore_n 1, 1) := by decide +kernel
theorem dX5_waiting_39 : decode cX5_waiting 39 = .ok (.iinc 2 1, 3) := by decide +kernel
theorem dX5_waiting_42 : decode cX5_waiting 42 = .ok (.goto (-38), 3) := by decide +kernel
theorem dX5_waiting_45 : decode cX5_waiting 45 = .ok (.iload_n 1, 1) := by decide +kernel
theorem dX5_waiting_46 : decode cX5_waiting 46 = .ok (.ireturn, 1) := by decide +kernel
theorem dX5_lacking_0 : decode cX5_lacking 0 = .ok (.iconst 0, 1) := by decide +kernel
theorem dX5_lacking_1 : decode cX5_lacking 1 = .ok (.istore_n 1, 1) := by decide +kernel
theorem dX5_lacking_2 : decode cX5_lacking 2 = .ok (.iconst 0, 1) := by decide +kernel
theorem dX5_lacking_3 : decode cX5_lacking 3 = .ok (.istore_n 2, 1) := by decide +kernel
theorem dX5_lacking_4 : decode cX5_lacking 4 = .ok (.iload_n 2, 1) := by decide +kernel
theorem dX5_lacking_5 : decode cX5_lacking 5 = .ok (.bipush 10, 2) := by decide +kernel
theorem dX5_lacking_7 : decode cX5_lacking 7 = .ok (.if_icmp .ge 30, 3) := by decide +kernel
theorem dX5_lacking_10 : decode cX5_lacking 10 = .ok (.iload_n 1, 1) := by decide +kernel
theorem dX5_lacking_11 : decode cX5_lacking 11 = .ok (.aload_n 0, 1) := by decide +kernel
theorem dX5_lacking_12 : decode cX5_lacking 12 = .ok (.getfield 7, 3) := by decide +kernel
theorem dX5_lacking_15 : decode cX5_lacking 15 = .ok (.iconst 3, 1) := by decide +kernel
theorem dX5_lacking_16 : decode cX5_lacking 16 = .ok (.iload_n 2, 1) := by decide +kernel
theorem dX5_lacking_17 : decode cX5_lacking 17 = .ok (.iadd, 1) := by decide +kernel
theorem dX5_lacking_18 : decode cX5_lacking 18 = .ok (.iaload, 1) := by decide +kernel
theorem dX5_lacking_19 : decode cX5_lacking 19 = .ok (.ifCond .ne 9, 3) := by decide +kernel
theorem dX5_lacking_22 : decode cX5_lacking 22 = .ok (.iconst 1, 1) := by decide +kernel
theorem dX5_lacking_23 : decode cX5_lacking 23 = .ok (.iload_n 2, 1) := by decide +kernel
theorem dX5_lacking_24 : decode cX5_lacking 24 = .ok (.ishl, 1) := by decide +kernel
theorem dX5_lacking_25 : decode cX5_lacking 25 = .ok (.goto 4, 3) := by decide +kernel
theorem dX5_lacking_28 : decode cX5_lacking 28 = .ok (.iconst 0, 1) := by decide +kernel
theorem dX5_lacking_29 : decode cX5_lacking 29 = .ok (.ior, 1) := by decide +kernel
theorem dX5_lacking_30 : decode cX5_lacking 30 = .ok (.istore_n 1, 1) := by decide +kernel
theorem dX5_lacking_31 : decode cX5_lacking 31 = .ok (.iinc 2 1, 3) := by decide +kernel
theorem dX5_lacking_34 : decode cX5_lacking 34 = .ok (.goto (-30), 3) := by decide +kernel
theorem dX5_lacking_37 : decode cX5_lacking 37 = .ok (.iload_n 1, 1) := by decide +kernel
theorem dX5_lacking_38 : decode cX5_lacking 38 = .ok (.ireturn, 1) := by decide +kernel
theorem dX5_thin_0 : decode cX5_thin 0 = .ok (.iconst 0, 1) := by decide +kernel
theorem dX5_thin_1 : decode cX5_thin 1 = .ok (.istore_n 1, 1) := by decide +kernel
theorem dX5_thin_2 : decode cX5_thin 2 = .ok (.iconst 0, 1) := by decide +kernel
theorem dX5_thin_3 : decode cX5_thin 3 = .ok (.istore_n 2, 1) := by decide +kernel
theorem dX5_thin_4 : decode cX5_thin 4 = .ok (.iload_n 2, 1) := by decide +kernel
theorem dX5_thin_5 : decode cX5_thin 5 = .ok (.aload_n 0, 1) := by decide +kernel
theorem dX5_thin_6 : decode cX5_thin 6 = .ok (.getfield 7, 3) := by decide +kernel
theorem dX5_thin_9 : decode cX5_thin 9 = .ok (.iconst 0, 1) := by decide +kernel
theorem dX5_thin_10 : decode cX5_thin 10 = .ok (.iaload, 1) := by decide +kernel
theorem dX5_thin_11 : decode cX5_thin 11 = .ok (.if_icmp .ge 28, 3) := by decide +kernel
theorem dX5_thin_14 : decode cX5_thin 14 = .ok (.iload_n 1, 1) := by decide +kernel
theorem dX5_thin_15 : decode cX5_thin 15 = .ok (.aload_n 0, 1) := by decide +kernel
theorem dX5_thin_16 : decode cX5_thin 16 = .ok (.iload_n 2, 1) := by decide +kernel
theorem dX5_thin_17 : decode cX5_thin 17 = .ok (.iconst 3, 1) := by decide +kernel
theorem dX5_thin_18 : decode cX5_thin 18 = .ok (.invokevirtual 82, 3) := by decide +kernel
theorem dX5_thin_21 : decode cX5_thin 21 = .ok (.ifCond .ne 9, 3) := by decide +kernel
theorem dX5_thin_24 : decode cX5_thin 24 = .ok (.iconst 1, 1) := by decide +kernel
theorem dX5_thin_25 : decode cX5_thin 25 = .ok (.iload_n 2, 1) := by decide +kernel
theorem dX5_thin_26 : decode cX5_thin 26 = .ok (.ishl, 1) := by decide +kernel
theorem dX5_thin_27 : decode cX5_thin 27 = .ok (.goto 4, 3) := by decide +kernel
theorem dX5_thin_30 : decode cX5_thin 30 = .ok (.iconst 0, 1) := by decide +kernel
theorem dX5_thin_31 : decode cX5_thin 31 = .ok (.ior, 1) := by decide +kernel
theorem dX5_thin_32 : decode cX5_thin 32 = .ok (.istore_n 1, 1) := by decide +kernel
theorem dX5_thin_33 : decode cX5_thin 33 = .ok (.iinc 2 1, 3) := by decide +kernel
theorem dX5_thin_36 : decode cX5_thin 36 = .ok (.goto (-32), 3) := by decide +kernel
theorem dX5_thin_39 : decode cX5_thin 39 = .ok (.iload_n 1, 1) := by decide +kernel
theorem dX5_thin_40 : decode cX5_thin 40 = .ok (.ireturn, 1) := by decide +kernel
theorem dX5_now_0 : decode cX5_now 0 = .ok (.iload_n 1, 1) := by decide +kernel
theorem dX5_now_1 : decode cX5_now 1 = .ok (.tableswitch 82 0 6 #[43, 50, 56, 61, 67, 72, 77], 43) := by decide +kernel
theorem dX5_now_44 : decode cX5_now 44 = .ok (.aload_n 0, 1) := by decide +kernel
theorem dX5_now_45 : decode cX5_now 45 = .ok (.getfield 7, 3) := by decide +kernel
theorem dX5_now_48 : decode cX5_now 48 = .ok (.iconst 1, 1) := by decide +kernel
theorem dX5_now_49 : decode cX5_now 49 = .ok (.iaload, 1) := by decide +kernel
theorem dX5_now_50 : decode cX5_now 50 = .ok (.ireturn, 1) := by decide +kernel
theorem dX5_now_51 : decode cX5_now 51 = .ok (.aload_n 0, 1) := by decide +kernel
theorem dX5_now_52 : decode cX5_now 52 = .ok (.iconst 4, 1) := by decide +kernel
theorem dX5_now_53 : decode cX5_now 53 = .ok (.invokevirtual 137, 3) := by decide +kernel
theorem dX5_now_56 : decode cX5_now 56 = .ok (.ireturn, 1) := by decide +kernel
theorem dX5_now_57 : decode cX5_now 57 = .ok (.aload_n 0, 1) := by decide +kernel
theorem dX5_now_58 : decode cX5_now 58 = .ok (.invokevirtual 140, 3) := by decide +kernel
theorem dX5_now_61 : decode cX5_now 61 = .ok (.ireturn, 1) := by decide +kernel
theorem dX5_now_62 : decode cX5_now 62 = .ok (.aload_n 0, 1) := by decide +kernel
theorem dX5_now_63 : decode cX5_now 63 = .ok (.iconst 3, 1) := by decide +kernel
theorem dX5_now_64 : decode cX5_now 64 = .ok (.invokevirtual 137, 3) := by decide +kernel
theorem dX5_now_67 : decode cX5_now 67 = .ok (.ireturn, 1) := by decide +kernel
theorem dX5_now_68 : decode cX5_now 68 = .ok (.aload_n 0, 1) := by decide +kernel
theorem dX5_now_69 : decode cX5_now 69 = .ok (.invokevirtual 144, 3) := by decide +kernel
theorem dX5_now_72 : decode cX5_now 72 = .ok (.ireturn, 1) := by decide +kernel
theorem dX5_now_73 : decode cX5_now 73 = .ok (.aload_n 0, 1) := by decide +kernel
theorem dX5_now_74 : decode cX5_now 74 = .ok (.invokevirtual 147, 3) := by decide +kernel
theorem dX5_now_77 : decode cX5_now 77 = .ok (.ireturn, 1) := by decide +kernel
theorem dX5_now_78 : decode cX5_now 78 = .ok (.aload_n 0, 1) := by decide +kernel
theorem dX5_now_79 : decode cX5_now 79 = .ok (.invokevirtual 150, 3) := by decide +kernel
theorem dX5_now_82 : decode cX5_now 82 = .ok (.ireturn, 1) := by decide +kernel
theorem dX5_now_83 : decode cX5_now 83 = .ok (.aload_n 0, 1) := by decide +kernel
theorem dX5_now_84 : decode cX5_now 84 = .ok (.ldc 37, 2) := by decide +kernel
theorem dX5_now_86 : decode cX5_now 86 = .ok (.invokevirtual 39, 3) := by decide +kernel
theorem dX5_now_89 : decode cX5_now 89 = .ok (.ireturn, 1) := by decide +kernel
theorem dX5_thenAt_0 : decode cX5_thenAt 0 = .ok (.aload_n 0, 1) := by decide +kernel
theorem dX5_thenAt_1 : decode cX5_thenAt 1 = .ok (.getfield 7, 3) := by decide +kernel
theorem dX5_thenAt_4 : decode cX5_thenAt 4 = .ok (.aload_n 0, 1) := by decide +kernel
theorem dX5_thenAt_5 : decode cX5_thenAt 5 = .ok (.getfield 19, 3) := by decide +kernel
theorem dX5_thenAt_8 : decode cX5_thenAt 8 = .ok (.invokestatic 153, 3) := by decide +kernel
theorem dX5_thenAt_11 : decode cX5_thenAt 11 = .ok (.aload_n 0, 1) := by decide +kernel
theorem dX5_thenAt_12 : decode cX5_thenAt 12 = .ok (.iload_n 2, 1) := by decide +kernel
theorem dX5_thenAt_13 : decode cX5_thenAt 13 = .ok (.invokevirtual 134, 3) := by decide +kernel
theorem dX5_thenAt_16 : decode cX5_thenAt 16 = .ok (.aload_n 0, 1) := by decide +kernel
theorem dX5_thenAt_17 : decode cX5_thenAt 17 = .ok (.getfield 7, 3) := by decide +kernel
theorem dX5_thenAt_20 : decode cX5_thenAt 20 = .ok (.iload_n 1, 1) := by decide +kernel
theorem dX5_thenAt_21 : decode cX5_thenAt 21 = .ok (.iaload, 1) := by decide +kernel
theorem dX5_thenAt_22 : decode cX5_thenAt 22 = .ok (.istore_n 3, 1) := by decide +kernel
theorem dX5_thenAt_23 : decode cX5_thenAt 23 = .ok (.aload_n 0, 1) := by decide +kernel
theorem dX5_thenAt_24 : decode cX5_thenAt 24 = .ok (.getfield 19, 3) := by decide +kernel
theorem dX5_thenAt_27 : decode cX5_thenAt 27 = .ok (.aload_n 0, 1) := by decide +kernel
theorem dX5_thenAt_28 : decode cX5_thenAt 28 = .ok (.getfield 7, 3) := by decide +kernel
theorem dX5_thenAt_31 : decode cX5_thenAt 31 = .ok (.invokestatic 153, 3) := by decide +kernel
theorem dX5_thenAt_34 : decode cX5_thenAt 34 = .ok (.iload_n 3, 1) := by decide +kernel
theorem dX5_thenAt_35 : decode cX5_thenAt 35 = .ok (.ireturn, 1) := by decide +kernel
theorem dX5_ahead_0 : decode cX5_ahead 0 = .ok (.aload_n 0, 1) := by decide +kernel
theorem dX5_ahead_1 : decode cX5_ahead 1 = .ok (.iload_n 1, 1) := by decide +kernel
theorem dX5_ahead_2 : decode cX5_ahead 2 = .ok (.invokevirtual 91, 3) := by decide +kernel
theorem dX5_ahead_5 : decode cX5_ahead 5 = .ok (.ifCond .eq 42, 3) := by decide +kernel
theorem dX5_ahead_8 : decode cX5_ahead 8 = .ok (.iload_n 2, 1) := by decide +kernel
theorem dX5_ahead_9 : decode cX5_ahead 9 = .ok (.i2l, 1) := by decide +kernel
theorem dX5_ahead_10 : decode cX5_ahead 10 = .ok (.ldc2_w 62, 3) := by decide +kernel
theorem dX5_ahead_13 : decode cX5_ahead 13 = .ok (.ldc2_w 105, 3) := by decide +kernel
theorem dX5_ahead_16 : decode cX5_ahead 16 = .ok (.invokestatic 49, 3) := by decide +kernel
theorem dX5_ahead_19 : decode cX5_ahead 19 = .ok (.ifCond .eq 28, 3) := by decide +kernel
theorem dX5_ahead_22 : decode cX5_ahead 22 = .ok (.iload_n 3, 1) := by decide +kernel
theorem dX5_ahead_23 : decode cX5_ahead 23 = .ok (.i2l, 1) := by decide +kernel
theorem dX5_ahead_24 : decode cX5_ahead 24 = .ok (.lconst 0, 1) := by decide +kernel
theorem dX5_ahead_25 : decode cX5_ahead 25 = .ok (.ldc2_w 157, 3) := by decide +kernel
theorem dX5_ahead_28 : decode cX5_ahead 28 = .ok (.invokestatic 49, 3) := by decide +kernel
theorem dX5_ahead_31 : decode cX5_ahead 31 = .ok (.ifCond .eq 16, 3) := by decide +kernel
theorem dX5_ahead_34 : decode cX5_ahead 34 = .ok (.aload_n 0, 1) := by decide +kernel
theorem dX5_ahead_35 : decode cX5_ahead 35 = .ok (.iload_n 1, 1) := by decide +kernel
theorem dX5_ahead_36 : decode cX5_ahead 36 = .ok (.iload_n 2, 1) := by decide +kernel
theorem dX5_ahead_37 : decode cX5_ahead 37 = .ok (.invokestatic 70, 3) := by decide +kernel
theorem dX5_ahead_40 : decode cX5_ahead 40 = .ok (.iload_n 3, 1) := by decide +kernel
theorem dX5_ahead_41 : decode cX5_ahead 41 = .ok (.invokevirtual 159, 3) := by decide +kernel
theorem dX5_ahead_44 : decode cX5_ahead 44 = .ok (.goto 9, 3) := by decide +kernel
theorem dX5_ahead_47 : decode cX5_ahead 47 = .ok (.aload_n 0, 1) := by decide +kernel
theorem dX5_ahead_48 : decode cX5_ahead 48 = .ok (.ldc 37, 2) := by decide +kernel
theorem dX5_ahead_50 : decode cX5_ahead 50 = .ok (.invokevirtual 39, 3) := by decide +kernel
theorem dX5_ahead_53 : decode cX5_ahead 53 = .ok (.ireturn, 1) := by decide +kernel
theorem dX5_later_0 : decode cX5_later 0 = .ok (.iload_n 1, 1) := by decide +kernel
theorem dX5_later_1 : decode cX5_later 1 = .ok (.invokestatic 43, 3) := by decide +kernel
theorem dX5_later_4 : decode cX5_later 4 = .ok (.ifCond .eq 26, 3) := by decide +kernel
theorem dX5_later_7 : decode cX5_later 7 = .ok (.iload_n 2, 1) := by decide +kernel
theorem dX5_later_8 : decode cX5_later 8 = .ok (.i2l, 1) := by decide +kernel
theorem dX5_later_9 : decode cX5_later 9 = .ok (.lconst 0, 1) := by decide +kernel
theorem dX5_later_10 : decode cX5_later 10 = .ok (.ldc2_w 157, 3) := by decide +kernel
theorem dX5_later_13 : decode cX5_later 13 = .ok (.invokestatic 49, 3) := by decide +kernel
theorem dX5_later_16 : decode cX5_later 16 = .ok (.ifCond .eq 14, 3) := by decide +kernel
theorem dX5_later_19 : decode cX5_later 19 = .ok (.aload_n 0, 1) := by decide +kernel
theorem dX5_later_20 : decode cX5_later 20 = .ok (.iconst 3, 1) := by decide +kernel
theorem dX5_later_21 : decode cX5_later 21 = .ok (.iload_n 1, 1) := by decide +kernel
theorem dX5_later_22 : decode cX5_later 22 = .ok (.iadd, 1) := by decide +kernel
theorem dX5_later_23 : decode cX5_later 23 = .ok (.iload_n 2, 1) := by decide +kernel
theorem dX5_later_24 : decode cX5_later 24 = .ok (.invokevirtual 159, 3) := by decide +kernel
theorem dX5_later_27 : decode cX5_later 27 = .ok (.goto 9, 3) := by decide +kernel
theorem dX5_later_30 : decode cX5_later 30 = .ok (.aload_n 0, 1) := by decide +kernel
theorem dX5_later_31 : decode cX5_later 31 = .ok (.ldc 37, 2) := by decide +kernel
theorem dX5_later_33 : decode cX5_later 33 = .ok (.invokevirtual 39, 3) := by decide +kernel
theorem dX5_later_36 : decode cX5_later 36 = .ok (.ireturn, 1) := by decide +kernel
theorem dX5_when_0 : decode cX5_when 0 = .ok (.aload_n 0, 1) := by decide +kernel
theorem dX5_when_1 : decode cX5_when 1 = .ok (.iload_n 1, 1) := by decide +kernel
theorem dX5_when_2 : decode cX5_when 2 = .ok (.invokevirtual 91, 3) := by decide +kernel
theorem dX5_when_5 : decode cX5_when 5 = .ok (.ifCond .eq 15, 3) := by decide +kernel
theorem dX5_when_8 : decode cX5_when 8 = .ok (.iload_n 2, 1) := by decide +kernel
theorem dX5_when_9 : decode cX5_when 9 = .ok (.i2l, 1) := by decide +kernel
theorem dX5_when_10 : decode cX5_when 10 = .ok (.lconst 0, 1) := by decide +kernel
theorem dX5_when_11 : decode cX5_when 11 = .ok (.ldc2_w 75, 3) := by decide +kernel
theorem dX5_when_14 : decode cX5_when 14 = .ok (.invokestatic 49, 3) := by decide +kernel
theorem dX5_when_17 : decode cX5_when 17 = .ok (.ifCond .ne 10, 3) := by decide +kernel
theorem dX5_when_20 : decode cX5_when 20 = .ok (.aload_n 0, 1) := by decide +kernel
theorem dX5_when_21 : decode cX5_when 21 = .ok (.ldc 37, 2) := by decide +kernel
theorem dX5_when_23 : decode cX5_when 23 = .ok (.invokevirtual 39, 3) := by decide +kernel
theorem dX5_when_26 : decode cX5_when 26 = .ok (.ireturn, 1) := by decide +kernel
theorem dX5_when_27 : decode cX5_when 27 = .ok (.aload_n 0, 1) := by decide +kernel
theorem dX5_when_28 : decode cX5_when 28 = .ok (.getfield 7, 3) := by decide +kernel
theorem dX5_when_31 : decode cX5_when 31 = .ok (.aload_n 0, 1) := by decide +kernel
theorem dX5_when_32 : decode cX5_when 32 = .ok (.getfield 19, 3) := by decide +kernel
theorem dX5_when_35 : decode cX5_when 35 = .ok (.invokestatic 153, 3) := by decide +kernel
theorem dX5_when_38 : decode cX5_when 38 = .ok (.iconst 0, 1) := by decide +kernel
theorem dX5_when_39 : decode cX5_when 39 = .ok (.istore_n 3, 1) := by decide +kernel
theorem dX5_when_40 : decode cX5_when 40 = .ok (.iload_n 3, 1) := by decide +kernel
theorem dX5_when_41 : decode cX5_when 41 = .ok (.bipush 100, 2) := by decide +kernel
theorem dX5_when_43 : decode cX5_when 43 = .ok (.if_icmp .gt 24, 3) := by decide +kernel
theorem dX5_when_46 : decode cX5_when 46 = .ok (.aload_n 0, 1) := by decide +kernel
theorem dX5_when_47 : decode cX5_when 47 = .ok (.iload_n 1, 1) := by decide +kernel
theorem dX5_when_48 : decode cX5_when 48 = .ok (.iconst 4, 1) := by decide +kernel
theorem dX5_when_49 : decode cX5_when 49 = .ok (.invokevirtual 82, 3) := by decide +kernel
theorem dX5_when_52 : decode cX5_when 52 = .ok (.iload_n 2, 1) := by decide +kernel
theorem dX5_when_53 : decode cX5_when 53 = .ok (.if_icmp .ge 14, 3) := by decide +kernel
theorem dX5_when_56 : decode cX5_when 56 = .ok (.aload_n 0, 1) := by decide +kernel
theorem dX5_when_57 : decode cX5_when 57 = .ok (.iconst 0, 1) := by decide +kernel
theorem dX5_when_58 : decode cX5_when 58 = .ok (.invokevirtual 127, 3) := by decide +kernel
theorem dX5_when_61 : decode cX5_when 61 = .ok (.iinc 3 1, 3) := by decide +kernel
theorem dX5_when_64 : decode cX5_when 64 = .ok (.goto (-24), 3) := by decide +kernel
theorem dX5_when_67 : decode cX5_when 67 = .ok (.aload_n 0, 1) := by decide +kernel
theorem dX5_when_68 : decode cX5_when 68 = .ok (.getfield 19, 3) := by decide +kernel
theorem dX5_when_71 : decode cX5_when 71 = .ok (.aload_n 0, 1) := by decide +kernel
theorem dX5_when_72 : decode cX5_when 72 = .ok (.getfield 7, 3) := by decide +kernel
theorem dX5_when_75 : decode cX5_when 75 = .ok (.invokestatic 153, 3) := by decide +kernel
theorem dX5_when_78 : decode cX5_when 78 = .ok (.iload_n 3, 1) := by decide +kernel
theorem dX5_when_79 : decode cX5_when 79 = .ok (.bipush 100, 2) := by decide +kernel
theorem dX5_when_81 : decode cX5_when 81 = .ok (.if_icmp .gt 7, 3) := by decide +kernel
theorem dX5_when_84 : decode cX5_when 84 = .ok (.iload_n 3, 1) := by decide +kernel
theorem dX5_when_85 : decode cX5_when 85 = .ok (.goto 9, 3) := by decide +kernel
theorem dX5_when_88 : decode cX5_when 88 = .ok (.aload_n 0, 1) := by decide +kernel
theorem dX5_when_89 : decode cX5_when 89 = .ok (.ldc 38, 2) := by decide +kernel
theorem dX5_when_91 : decode cX5_when 91 = .ok (.invokevirtual 39, 3) := by decide +kernel
theorem dX5_when_94 : decode cX5_when 94 = .ok (.ireturn, 1) := by decide +kernel
theorem dX5_whenNone_0 : decode cX5_whenNone 0 = .ok (.aload_n 0, 1) := by decide +kernel
theorem dX5_whenNone_1 : decode cX5_whenNone 1 = .ok (.getfield 7, 3) := by decide +kernel
theorem dX5_whenNone_4 : decode cX5_whenNone 4 = .ok (.aload_n 0, 1) := by decide +kernel
theorem dX5_whenNone_5 : decode cX5_whenNone 5 = .ok (.getfield 19, 3) := by decide +kernel
theorem dX5_whenNone_8 : decode cX5_whenNone 8 = .ok (.invokestatic 153, 3) := by decide +kernel
theorem dX5_whenNone_11 : decode cX5_whenNone 11 = .ok (.iconst 0, 1) := by decide +kernel
theorem dX5_whenNone_12 : decode cX5_whenNone 12 = .ok (.istore_n 2, 1) := by decide +kernel
theorem dX5_whenNone_13 : decode cX5_whenNone 13 = .ok (.iload_n 2, 1) := by decide +kernel
theorem dX5_whenNone_14 : decode cX5_whenNone 14 = .ok (.bipush 100, 2) := by decide +kernel
theorem dX5_whenNone_16 : decode cX5_whenNone 16 = .ok (.if_icmp .gt 23, 3) := by decide +kernel
theorem dX5_whenNone_19 : decode cX5_whenNone 19 = .ok (.aload_n 0, 1) := by decide +kernel
theorem dX5_whenNone_20 : decode cX5_whenNone 20 = .ok (.getfield 7, 3) := by decide +kernel
theorem dX5_whenNone_23 : decode cX5_whenNone 23 = .ok (.iload_n 1, 1) := by decide +kernel
theorem dX5_whenNone_24 : decode cX5_whenNone 24 = .ok (.iaload, 1) := by decide +kernel
theorem dX5_whenNone_25 : decode cX5_whenNone 25 = .ok (.ifCond .le 14, 3) := by decide +kernel
theorem dX5_whenNone_28 : decode cX5_whenNone 28 = .ok (.aload_n 0, 1) := by decide +kernel
theorem dX5_whenNone_29 : decode cX5_whenNone 29 = .ok (.iconst 0, 1) := by decide +kernel
theorem dX5_whenNone_30 : decode cX5_whenNone 30 = .ok (.invokevirtual 127, 3) := by decide +kernel
theorem dX5_whenNone_33 : decode cX5_whenNone 33 = .ok (.iinc 2 1, 3) := by decide +kernel
theorem dX5_whenNone_36 : decode cX5_whenNone 36 = .ok (.goto (-23), 3) := by decide +kernel
theorem dX5_whenNone_39 : decode cX5_whenNone 39 = .ok (.aload_n 0, 1) := by decide +kernel
theorem dX5_whenNone_40 : decode cX5_whenNone 40 = .ok (.getfield 19, 3) := by decide +kernel
theorem dX5_whenNone_43 : decode cX5_whenNone 43 = .ok (.aload_n 0, 1) := by decide +kernel
theorem dX5_whenNone_44 : decode cX5_whenNone 44 = .ok (.getfield 7, 3) := by decide +kernel
theorem dX5_whenNone_47 : decode cX5_whenNone 47 = .ok (.invokestatic 153, 3) := by decide +kernel
theorem dX5_whenNone_50 : decode cX5_whenNone 50 = .ok (.iload_n 2, 1) := by decide +kernel
theorem dX5_whenNone_51 : decode cX5_whenNone 51 = .ok (.bipush 100, 2) := by decide +kernel
theorem dX5_whenNone_53 : decode cX5_whenNone 53 = .ok (.if_icmp .gt 7, 3) := by decide +kernel
theorem dX5_whenNone_56 : decode cX5_whenNone 56 = .ok (.iload_n 2, 1) := by decide +kernel
theorem dX5_whenNone_57 : decode cX5_whenNone 57 = .ok (.goto 9, 3) := by decide +kernel
theorem dX5_whenNone_60 : decode cX5_whenNone 60 = .ok (.aload_n 0, 1) := by decide +kernel
theorem dX5_whenNone_61 : decode cX5_whenNone 61 = .ok (.ldc 38, 2) := by decide +kernel
theorem dX5_whenNone_63 : decode cX5_whenNone 63 = .ok (.invokevirtual 39, 3) := by decide +kernel
theorem dX5_whenNone_66 : decode cX5_whenNone 66 = .ok (.ireturn, 1) := by decide +kernel
theorem dX5_starves_0 : decode cX5_starves 0 = .ok (.aload_n 0, 1) := by decide +kernel
theorem dX5_starves_1 : decode cX5_starves 1 = .ok (.iload_n 1, 1) := by decide +kernel
theorem dX5_starves_2 : decode cX5_starves 2 = .ok (.invokevirtual 91, 3) := by decide +kernel
theorem dX5_starves_5 : decode cX5_starves 5 = .ok (.ifCond .eq 15, 3) := by decide +kernel
theorem dX5_starves_8 : decode cX5_starves 8 = .ok (.aload_n 0, 1) := by decide +kernel
theorem dX5_starves_9 : decode cX5_starves 9 = .ok (.iload_n 1, 1) := by decide +kernel
theorem dX5_starves_10 : decode cX5_starves 10 = .ok (.iconst 3, 1) := by decide +kernel
theorem dX5_starves_11 : decode cX5_starves 11 = .ok (.invokestatic 70, 3) := by decide +kernel
theorem dX5_starves_14 : decode cX5_starves 14 = .ok (.invokevirtual 162, 3) := by decide +kernel
theorem dX5_starves_17 : decode cX5_starves 17 = .ok (.goto 9, 3) := by decide +kernel
theorem dX5_starves_20 : decode cX5_starves 20 = .ok (.aload_n 0, 1) := by decide +kernel
theorem dX5_starves_21 : decode cX5_starves 21 = .ok (.ldc 37, 2) := by decide +kernel
theorem dX5_starves_23 : decode cX5_starves 23 = .ok (.invokevirtual 39, 3) := by decide +kernel
theorem dX5_starves_26 : decode cX5_starves 26 = .ok (.ireturn, 1) := by decide +kernel
theorem dX5_out_0 : decode cX5_out 0 = .ok (.iload_n 1, 1) := by decide +kernel
theorem dX5_out_1 : decode cX5_out 1 = .ok (.invokestatic 43, 3) := by decide +kernel
theorem dX5_out_4 : decode cX5_out 4 = .ok (.ifCond .eq 13, 3) := by decide +kernel
theorem dX5_out_7 : decode cX5_out 7 = .ok (.aload_n 0, 1) := by decide +kernel
theorem dX5_out_8 : decode cX5_out 8 = .ok (.iconst 3, 1) := by decide +kernel
theorem dX5_out_9 : decode cX5_out 9 = .ok (.iload_n 1, 1) := by decide +kernel
theorem dX5_out_10 : decode cX5_out 10 = .ok (.iadd, 1) := by decide +kernel
theorem dX5_out_11 : decode cX5_out 11 = .ok (.invokevirtual 162, 3) := by decide +kernel
theorem dX5_out_14 : decode cX5_out 14 = .ok (.goto 9, 3) := by decide +kernel
theorem dX5_out_17 : decode cX5_out 17 = .ok (.aload_n 0, 1) := by decide +kernel
theorem dX5_out_18 : decode cX5_out 18 = .ok (.ldc 37, 2) := by decide +kernel
theorem dX5_out_20 : decode cX5_out 20 = .ok (.invokevirtual 39, 3) := by decide +kernel
theorem dX5_out_23 : decode cX5_out 23 = .ok (.ireturn, 1) := by decide +kernel
theorem dX5_catchFor_0 : decode cX5_catchFor 0 = .ok (.iload_n 1, 1) := by decide +kernel
theorem dX5_catchFor_1 : decode cX5_catchFor 1 = .ok (.i2l, 1) := by decide +kernel
theorem dX5_catchFor_2 : decode cX5_catchFor 2 = .ok (.lconst 0, 1) := by decide +kernel
theorem dX5_catchFor_3 : decode cX5_catchFor 3 = .ok (.ldc2_w 165, 3) := by decide +kernel
theorem dX5_catchFor_6 : decode cX5_catchFor 6 = .ok (.invokestatic 49, 3) := by decide +kernel
theorem dX5_catchFor_9 : decode cX5_catchFor 9 = .ok (.ifCond .ne 10, 3) := by decide +kernel
theorem dX5_catchFor_12 : decode cX5_catchFor 12 = .ok (.aload_n 0, 1) := by decide +kernel
theorem dX5_catchFor_13 : decode cX5_catchFor 13 = .ok (.ldc 37, 2) := by decide +kernel
theorem dX5_catchFor_15 : decode cX5_catchFor 15 = .ok (.invokevirtual 39, 3) := by decide +kernel
theorem dX5_catchFor_18 : decode cX5_catchFor 18 = .ok (.ireturn, 1) := by decide +kernel
theorem dX5_catchFor_19 : decode cX5_catchFor 19 = .ok (.iconst 0, 1) := by decide +kernel
theorem dX5_catchFor_20 : decode cX5_catchFor 20 = .ok (.istore_n 2, 1) := by decide +kernel
theorem dX5_catchFor_21 : decode cX5_catchFor 21 = .ok (.iconst (-1), 1) := by decide +kernel
theorem dX5_catchFor_22 : decode cX5_catchFor 22 = .ok (.istore_n 3, 1) := by decide +kernel
theorem dX5_catchFor_23 : decode cX5_catchFor 23 = .ok (.aload_n 0, 1) := by decide +kernel
theorem dX5_catchFor_24 : decode cX5_catchFor 24 = .ok (.getfield 7, 3) := by decide +kernel
theorem dX5_catchFor_27 : decode cX5_catchFor 27 = .ok (.aload_n 0, 1) := by decide +kernel
theorem dX5_catchFor_28 : decode cX5_catchFor 28 = .ok (.getfield 19, 3) := by decide +kernel
theorem dX5_catchFor_31 : decode cX5_catchFor 31 = .ok (.invokestatic 153, 3) := by decide +kernel
theorem dX5_catchFor_34 : decode cX5_catchFor 34 = .ok (.iconst 0, 1) := by decide +kernel
theorem dX5_catchFor_35 : decode cX5_catchFor 35 = .ok (.istore 4, 2) := by decide +kernel
theorem dX5_catchFor_37 : decode cX5_catchFor 37 = .ok (.iload 4, 2) := by decide +kernel
theorem dX5_catchFor_39 : decode cX5_catchFor 39 = .ok (.bipush 6, 2) := by decide +kernel
theorem dX5_catchFor_41 : decode cX5_catchFor 41 = .ok (.if_icmp .ge 64, 3) := by decide +kernel
theorem dX5_catchFor_44 : decode cX5_catchFor 44 = .ok (.aload_n 0, 1) := by decide +kernel
theorem dX5_catchFor_45 : decode cX5_catchFor 45 = .ok (.getfield 7, 3) := by decide +kernel
theorem dX5_catchFor_48 : decode cX5_catchFor 48 = .ok (.bipush 19, 2) := by decide +kernel
theorem dX5_catchFor_50 : decode cX5_catchFor 50 = .ok (.iload 4, 2) := by decide +kernel
theorem dX5_catchFor_52 : decode cX5_catchFor 52 = .ok (.iadd, 1) := by decide +kernel
theorem dX5_catchFor_53 : decode cX5_catchFor 53 = .ok (.bipush 20, 2) := by decide +kernel
theorem dX5_catchFor_55 : decode cX5_catchFor 55 = .ok (.iastore, 1) := by decide +kernel
theorem dX5_catchFor_56 : decode cX5_catchFor 56 = .ok (.aload_n 0, 1) := by decide +kernel
theorem dX5_catchFor_57 : decode cX5_catchFor 57 = .ok (.iload_n 1, 1) := by decide +kernel
theorem dX5_catchFor_58 : decode cX5_catchFor 58 = .ok (.invokevirtual 134, 3) := by decide +kernel
theorem dX5_catchFor_61 : decode cX5_catchFor 61 = .ok (.aload_n 0, 1) := by decide +kernel
theorem dX5_catchFor_62 : decode cX5_catchFor 62 = .ok (.iconst 4, 1) := by decide +kernel
theorem dX5_catchFor_63 : decode cX5_catchFor 63 = .ok (.invokevirtual 137, 3) := by decide +kernel
theorem dX5_catchFor_66 : decode cX5_catchFor 66 = .ok (.istore 5, 2) := by decide +kernel
theorem dX5_catchFor_68 : decode cX5_catchFor 68 = .ok (.aload_n 0, 1) := by decide +kernel
theorem dX5_catchFor_69 : decode cX5_catchFor 69 = .ok (.getfield 19, 3) := by decide +kernel
theorem dX5_catchFor_72 : decode cX5_catchFor 72 = .ok (.aload_n 0, 1) := by decide +kernel
theorem dX5_catchFor_73 : decode cX5_catchFor 73 = .ok (.getfield 7, 3) := by decide +kernel
theorem dX5_catchFor_76 : decode cX5_catchFor 76 = .ok (.invokestatic 153, 3) := by decide +kernel
theorem dX5_catchFor_79 : decode cX5_catchFor 79 = .ok (.iload 5, 2) := by decide +kernel
theorem dX5_catchFor_81 : decode cX5_catchFor 81 = .ok (.iload_n 3, 1) := by decide +kernel
theorem dX5_catchFor_82 : decode cX5_catchFor 82 = .ok (.if_icmp .le 8, 3) := by decide +kernel
theorem dX5_catchFor_85 : decode cX5_catchFor 85 = .ok (.iload 4, 2) := by decide +kernel
theorem dX5_catchFor_87 : decode cX5_catchFor 87 = .ok (.goto 4, 3) := by decide +kernel
theorem dX5_catchFor_90 : decode cX5_catchFor 90 = .ok (.iload_n 2, 1) := by decide +kernel
theorem dX5_catchFor_91 : decode cX5_catchFor 91 = .ok (.istore_n 2, 1) := by decide +kernel
theorem dX5_catchFor_92 : decode cX5_catchFor 92 = .ok (.iload_n 3, 1) := by decide +kernel
theorem dX5_catchFor_93 : decode cX5_catchFor 93 = .ok (.iload 5, 2) := by decide +kernel
theorem dX5_catchFor_95 : decode cX5_catchFor 95 = .ok (.invokestatic 85, 3) := by decide +kernel
theorem dX5_catchFor_98 : decode cX5_catchFor 98 = .ok (.istore_n 3, 1) := by decide +kernel
theorem dX5_catchFor_99 : decode cX5_catchFor 99 = .ok (.iinc 4 1, 3) := by decide +kernel
theorem dX5_catchFor_102 : decode cX5_catchFor 102 = .ok (.goto (-65), 3) := by decide +kernel
theorem dX5_catchFor_105 : decode cX5_catchFor 105 = .ok (.iload_n 2, 1) := by decide +kernel
theorem dX5_catchFor_106 : decode cX5_catchFor 106 = .ok (.ireturn, 1) := by decide +kernel
theorem dX5_fewest_0 : decode cX5_fewest 0 = .ok (.iload_n 1, 1) := by decide +kernel
theorem dX5_fewest_1 : decode cX5_fewest 1 = .ok (.invokestatic 57, 3) := by decide +kernel
theorem dX5_fewest_4 : decode cX5_fewest 4 = .ok (.ifCond .eq 36, 3) := by decide +kernel
theorem dX5_fewest_7 : decode cX5_fewest 7 = .ok (.aload_n 0, 1) := by decide +kernel
theorem dX5_fewest_8 : decode cX5_fewest 8 = .ok (.iload_n 2, 1) := by decide +kernel
theorem dX5_fewest_9 : decode cX5_fewest 9 = .ok (.invokevirtual 91, 3) := by decide +kernel
theorem dX5_fewest_12 : decode cX5_fewest 12 = .ok (.ifCond .eq 28, 3) := by decide +kernel
theorem dX5_fewest_15 : decode cX5_fewest 15 = .ok (.iload_n 3, 1) := by decide +kernel
theorem dX5_fewest_16 : decode cX5_fewest 16 = .ok (.i2l, 1) := by decide +kernel
theorem dX5_fewest_17 : decode cX5_fewest 17 = .ok (.lconst 0, 1) := by decide +kernel
theorem dX5_fewest_18 : decode cX5_fewest 18 = .ok (.ldc2_w 75, 3) := by decide +kernel
theorem dX5_fewest_21 : decode cX5_fewest 21 = .ok (.invokestatic 49, 3) := by decide +kernel
theorem dX5_fewest_24 : decode cX5_fewest 24 = .ok (.ifCond .eq 16, 3) := by decide +kernel
theorem dX5_fewest_27 : decode cX5_fewest 27 = .ok (.iload 4, 2) := by decide +kernel
theorem dX5_fewest_29 : decode cX5_fewest 29 = .ok (.i2l, 1) := by decide +kernel
theorem dX5_fewest_30 : decode cX5_fewest 30 = .ok (.lconst 0, 1) := by decide +kernel
theorem dX5_fewest_31 : decode cX5_fewest 31 = .ok (.ldc2_w 165, 3) := by decide +kernel
theorem dX5_fewest_34 : decode cX5_fewest 34 = .ok (.invokestatic 49, 3) := by decide +kernel
theorem dX5_fewest_37 : decode cX5_fewest 37 = .ok (.ifCond .ne 10, 3) := by decide +kernel
theorem dX5_fewest_40 : decode cX5_fewest 40 = .ok (.aload_n 0, 1) := by decide +kernel
theorem dX5_fewest_41 : decode cX5_fewest 41 = .ok (.ldc 37, 2) := by decide +kernel
theorem dX5_fewest_43 : decode cX5_fewest 43 = .ok (.invokevirtual 39, 3) := by decide +kernel
theorem dX5_fewest_46 : decode cX5_fewest 46 = .ok (.ireturn, 1) := by decide +kernel
theorem dX5_fewest_47 : decode cX5_fewest 47 = .ok (.aload_n 0, 1) := by decide +kernel
theorem dX5_fewest_48 : decode cX5_fewest 48 = .ok (.getfield 7, 3) := by decide +kernel
theorem dX5_fewest_51 : decode cX5_fewest 51 = .ok (.bipush 19, 2) := by decide +kernel
theorem dX5_fewest_53 : decode cX5_fewest 53 = .ok (.iload_n 1, 1) := by decide +kernel
theorem dX5_fewest_54 : decode cX5_fewest 54 = .ok (.iadd, 1) := by decide +kernel
theorem dX5_fewest_55 : decode cX5_fewest 55 = .ok (.iaload, 1) := by decide +kernel
theorem dX5_fewest_56 : decode cX5_fewest 56 = .ok (.istore 5, 2) := by decide +kernel
theorem dX5_fewest_58 : decode cX5_fewest 58 = .ok (.iconst (-1), 1) := by decide +kernel
theorem dX5_fewest_59 : decode cX5_fewest 59 = .ok (.istore 6, 2) := by decide +kernel
theorem dX5_fewest_61 : decode cX5_fewest 61 = .ok (.iconst 0, 1) := by decide +kernel
theorem dX5_fewest_62 : decode cX5_fewest 62 = .ok (.istore 7, 2) := by decide +kernel
theorem dX5_fewest_64 : decode cX5_fewest 64 = .ok (.iload 7, 2) := by decide +kernel
theorem dX5_fewest_66 : decode cX5_fewest 66 = .ok (.bipush 20, 2) := by decide +kernel
theorem dX5_fewest_68 : decode cX5_fewest 68 = .ok (.if_icmp .gt 48, 3) := by decide +kernel
theorem dX5_fewest_71 : decode cX5_fewest 71 = .ok (.iload 6, 2) := by decide +kernel
theorem dX5_fewest_73 : decode cX5_fewest 73 = .ok (.ifCond .ge 43, 3) := by decide +kernel
theorem dX5_fewest_76 : decode cX5_fewest 76 = .ok (.aload_n 0, 1) := by decide +kernel
theorem dX5_fewest_77 : decode cX5_fewest 77 = .ok (.getfield 7, 3) := by decide +kernel
theorem dX5_fewest_80 : decode cX5_fewest 80 = .ok (.bipush 19, 2) := by decide +kernel
theorem dX5_fewest_82 : decode cX5_fewest 82 = .ok (.iload_n 1, 1) := by decide +kernel
theorem dX5_fewest_83 : decode cX5_fewest 83 = .ok (.iadd, 1) := by decide +kernel
theorem dX5_fewest_84 : decode cX5_fewest 84 = .ok (.iload 7, 2) := by decide +kernel
theorem dX5_fewest_86 : decode cX5_fewest 86 = .ok (.iastore, 1) := by decide +kernel
theorem dX5_fewest_87 : decode cX5_fewest 87 = .ok (.aload_n 0, 1) := by decide +kernel
theorem dX5_fewest_88 : decode cX5_fewest 88 = .ok (.iload_n 2, 1) := by decide +kernel
theorem dX5_fewest_89 : decode cX5_fewest 89 = .ok (.iconst 4, 1) := by decide +kernel
theorem dX5_fewest_90 : decode cX5_fewest 90 = .ok (.invokestatic 70, 3) := by decide +kernel
theorem dX5_fewest_93 : decode cX5_fewest 93 = .ok (.iload 4, 2) := by decide +kernel
theorem dX5_fewest_95 : decode cX5_fewest 95 = .ok (.invokevirtual 159, 3) := by decide +kernel
theorem dX5_fewest_98 : decode cX5_fewest 98 = .ok (.iload_n 3, 1) := by decide +kernel
theorem dX5_fewest_99 : decode cX5_fewest 99 = .ok (.if_icmp .lt 8, 3) := by decide +kernel
theorem dX5_fewest_102 : decode cX5_fewest 102 = .ok (.iload 7, 2) := by decide +kernel
theorem dX5_fewest_104 : decode cX5_fewest 104 = .ok (.goto 4, 3) := by decide +kernel
theorem dX5_fewest_107 : decode cX5_fewest 107 = .ok (.iconst (-1), 1) := by decide +kernel
theorem dX5_fewest_108 : decode cX5_fewest 108 = .ok (.istore 6, 2) := by decide +kernel
theorem dX5_fewest_110 : decode cX5_fewest 110 = .ok (.iinc 7 1, 3) := by decide +kernel
theorem dX5_fewest_113 : decode cX5_fewest 113 = .ok (.goto (-49), 3) := by decide +kernel
theorem dX5_fewest_116 : decode cX5_fewest 116 = .ok (.aload_n 0, 1) := by decide +kernel
theorem dX5_fewest_117 : decode cX5_fewest 117 = .ok (.getfield 7, 3) := by decide +kernel
theorem dX5_fewest_120 : decode cX5_fewest 120 = .ok (.bipush 19, 2) := by decide +kernel
theorem dX5_fewest_122 : decode cX5_fewest 122 = .ok (.iload_n 1, 1) := by decide +kernel
theorem dX5_fewest_123 : decode cX5_fewest 123 = .ok (.iadd, 1) := by decide +kernel
theorem dX5_fewest_124 : decode cX5_fewest 124 = .ok (.iload 5, 2) := by decide +kernel
theorem dX5_fewest_126 : decode cX5_fewest 126 = .ok (.iastore, 1) := by decide +kernel
theorem dX5_fewest_127 : decode cX5_fewest 127 = .ok (.aload_n 0, 1) := by decide +kernel
theorem dX5_fewest_128 : decode cX5_fewest 128 = .ok (.iload 6, 2) := by decide +kernel
theorem dX5_fewest_130 : decode cX5_fewest 130 = .ok (.invokevirtual 167, 3) := by decide +kernel
theorem dX5_fewest_133 : decode cX5_fewest 133 = .ok (.ireturn, 1) := by decide +kernel
theorem dX5_wordWith_0 : decode cX5_wordWith 0 = .ok (.aload_n 0, 1) := by decide +kernel
theorem dX5_wordWith_1 : decode cX5_wordWith 1 = .ok (.iload_n 1, 1) := by decide +kernel
theorem dX5_wordWith_2 : decode cX5_wordWith 2 = .ok (.iconst 2, 1) := by decide +kernel
theorem dX5_wordWith_3 : decode cX5_wordWith 3 = .ok (.invokevirtual 82, 3) := by decide +kernel
theorem dX5_wordWith_6 : decode cX5_wordWith 6 = .ok (.ifCond .ne 9, 3) := by decide +kernel
theorem dX5_wordWith_9 : decode cX5_wordWith 9 = .ok (.sipush 1000, 3) := by decide +kernel
theorem dX5_wordWith_12 : decode cX5_wordWith 12 = .ok (.goto 34, 3) := by decide +kernel
theorem dX5_wordWith_15 : decode cX5_wordWith 15 = .ok (.aload_n 0, 1) := by decide +kernel
theorem dX5_wordWith_16 : decode cX5_wordWith 16 = .ok (.iload_n 1, 1) := by decide +kernel
theorem dX5_wordWith_17 : decode cX5_wordWith 17 = .ok (.iconst 2, 1) := by decide +kernel
theorem dX5_wordWith_18 : decode cX5_wordWith 18 = .ok (.invokevirtual 82, 3) := by decide +kernel
theorem dX5_wordWith_21 : decode cX5_wordWith 21 = .ok (.iconst 1, 1) := by decide +kernel
theorem dX5_wordWith_22 : decode cX5_wordWith 22 = .ok (.if_icmp .ne 8, 3) := by decide +kernel
theorem dX5_wordWith_25 : decode cX5_wordWith 25 = .ok (.bipush 100, 2) := by decide +kernel
theorem dX5_wordWith_27 : decode cX5_wordWith 27 = .ok (.goto 19, 3) := by decide +kernel
theorem dX5_wordWith_30 : decode cX5_wordWith 30 = .ok (.aload_n 0, 1) := by decide +kernel
theorem dX5_wordWith_31 : decode cX5_wordWith 31 = .ok (.iload_n 1, 1) := by decide +kernel
theorem dX5_wordWith_32 : decode cX5_wordWith 32 = .ok (.iconst 2, 1) := by decide +kernel
theorem dX5_wordWith_33 : decode cX5_wordWith 33 = .ok (.invokevirtual 82, 3) := by decide +kernel
theorem dX5_wordWith_36 : decode cX5_wordWith 36 = .ok (.iconst 2, 1) := by decide +kernel
theorem dX5_wordWith_37 : decode cX5_wordWith 37 = .ok (.if_icmp .ne 8, 3) := by decide +kernel
theorem dX5_wordWith_40 : decode cX5_wordWith 40 = .ok (.bipush 10, 2) := by decide +kernel
theorem dX5_wordWith_42 : decode cX5_wordWith 42 = .ok (.goto 4, 3) := by decide +kernel
theorem dX5_wordWith_45 : decode cX5_wordWith 45 = .ok (.iconst 1, 1) := by decide +kernel
theorem dX5_wordWith_46 : decode cX5_wordWith 46 = .ok (.istore_n 3, 1) := by decide +kernel
theorem dX5_wordWith_47 : decode cX5_wordWith 47 = .ok (.aload_n 0, 1) := by decide +kernel
theorem dX5_wordWith_48 : decode cX5_wordWith 48 = .ok (.iload_n 1, 1) := by decide +kernel
theorem dX5_wordWith_49 : decode cX5_wordWith 49 = .ok (.iconst 1, 1) := by decide +kernel
theorem dX5_wordWith_50 : decode cX5_wordWith 50 = .ok (.invokevirtual 82, 3) := by decide +kernel
theorem dX5_wordWith_53 : decode cX5_wordWith 53 = .ok (.iload_n 2, 1) := by decide +kernel
theorem dX5_wordWith_54 : decode cX5_wordWith 54 = .ok (.aload_n 0, 1) := by decide +kernel
theorem dX5_wordWith_55 : decode cX5_wordWith 55 = .ok (.iload_n 1, 1) := by decide +kernel
theorem dX5_wordWith_56 : decode cX5_wordWith 56 = .ok (.invokevirtual 102, 3) := by decide +kernel
theorem dX5_wordWith_59 : decode cX5_wordWith 59 = .ok (.isub, 1) := by decide +kernel
theorem dX5_wordWith_60 : decode cX5_wordWith 60 = .ok (.iload_n 3, 1) := by decide +kernel
theorem dX5_wordWith_61 : decode cX5_wordWith 61 = .ok (.imul, 1) := by decide +kernel
theorem dX5_wordWith_62 : decode cX5_wordWith 62 = .ok (.iadd, 1) := by decide +kernel
theorem dX5_wordWith_63 : decode cX5_wordWith 63 = .ok (.ireturn, 1) := by decide +kernel
theorem dX5_isAsked_0 : decode cX5_isAsked 0 = .ok (.aload_n 0, 1) := by decide +kernel
theorem dX5_isAsked_1 : decode cX5_isAsked 1 = .ok (.iload_n 1, 1) := by decide +kernel
theorem dX5_isAsked_2 : decode cX5_isAsked 2 = .ok (.invokevirtual 91, 3) := by decide +kernel
theorem dX5_isAsked_5 : decode cX5_isAsked 5 = .ok (.ifCond .eq 19, 3) := by decide +kernel
theorem dX5_isAsked_8 : decode cX5_isAsked 8 = .ok (.iload_n 2, 1) := by decide +kernel
theorem dX5_isAsked_9 : decode cX5_isAsked 9 = .ok (.i2l, 1) := by decide +kernel
theorem dX5_isAsked_10 : decode cX5_isAsked 10 = .ok (.lconst 0, 1) := by decide +kernel
theorem dX5_isAsked_11 : decode cX5_isAsked 11 = .ok (.ldc2_w 165, 3) := by decide +kernel
theorem dX5_isAsked_14 : decode cX5_isAsked 14 = .ok (.invokestatic 49, 3) := by decide +kernel
theorem dX5_isAsked_17 : decode cX5_isAsked 17 = .ok (.ifCond .eq 7, 3) := by decide +kernel
theorem dX5_isAsked_20 : decode cX5_isAsked 20 = .ok (.iconst 1, 1) := by decide +kernel
theorem dX5_isAsked_21 : decode cX5_isAsked 21 = .ok (.goto 4, 3) := by decide +kernel
theorem dX5_isAsked_24 : decode cX5_isAsked 24 = .ok (.iconst 0, 1) := by decide +kernel
theorem dX5_isAsked_25 : decode cX5_isAsked 25 = .ok (.ireturn, 1) := by decide +kernel
theorem dX5_letterFor_0 : decode cX5_letterFor 0 = .ok (.aload_n 0, 1) := by decide +kernel
theorem dX5_letterFor_1 : decode cX5_letterFor 1 = .ok (.iload_n 1, 1) := by decide +kernel
theorem dX5_letterFor_2 : decode cX5_letterFor 2 = .ok (.iload_n 2, 1) := by decide +kernel
theorem dX5_letterFor_3 : decode cX5_letterFor 3 = .ok (.invokevirtual 170, 3) := by decide +kernel
theorem dX5_letterFor_6 : decode cX5_letterFor 6 = .ok (.ifCond .ne 10, 3) := by decide +kernel
theorem dX5_letterFor_9 : decode cX5_letterFor 9 = .ok (.aload_n 0, 1) := by decide +kernel
theorem dX5_letterFor_10 : decode cX5_letterFor 10 = .ok (.ldc 37, 2) := by decide +kernel
theorem dX5_letterFor_12 : decode cX5_letterFor 12 = .ok (.invokevirtual 39, 3) := by decide +kernel
theorem dX5_letterFor_15 : decode cX5_letterFor 15 = .ok (.ireturn, 1) := by decide +kernel
theorem dX5_letterFor_16 : decode cX5_letterFor 16 = .ok (.aload_n 0, 1) := by decide +kernel
theorem dX5_letterFor_17 : decode cX5_letterFor 17 = .ok (.iload_n 1, 1) := by decide +kernel
theorem dX5_letterFor_18 : decode cX5_letterFor 18 = .ok (.iconst 1, 1) := by decide +kernel
theorem dX5_letterFor_19 : decode cX5_letterFor 19 = .ok (.invokevirtual 82, 3) := by decide +kernel
theorem dX5_letterFor_22 : decode cX5_letterFor 22 = .ok (.istore_n 3, 1) := by decide +kernel
theorem dX5_letterFor_23 : decode cX5_letterFor 23 = .ok (.iconst 0, 1) := by decide +kernel
theorem dX5_letterFor_24 : decode cX5_letterFor 24 = .ok (.istore 4, 2) := by decide +kernel
theorem dX5_letterFor_26 : decode cX5_letterFor 26 = .ok (.iconst (-1), 1) := by decide +kernel
theorem dX5_letterFor_27 : decode cX5_letterFor 27 = .ok (.istore 5, 2) := by decide +kernel
theorem dX5_letterFor_29 : decode cX5_letterFor 29 = .ok (.iconst 0, 1) := by decide +kernel
theorem dX5_letterFor_30 : decode cX5_letterFor 30 = .ok (.istore 6, 2) := by decide +kernel
theorem dX5_letterFor_32 : decode cX5_letterFor 32 = .ok (.iload 6, 2) := by decide +kernel
theorem dX5_letterFor_34 : decode cX5_letterFor 34 = .ok (.bipush 10, 2) := by decide +kernel
theorem dX5_letterFor_36 : decode cX5_letterFor 36 = .ok (.if_icmp .ge 63, 3) := by decide +kernel
theorem dX5_letterFor_39 : decode cX5_letterFor 39 = .ok (.aload_n 0, 1) := by decide +kernel
theorem dX5_letterFor_40 : decode cX5_letterFor 40 = .ok (.getfield 7, 3) := by decide +kernel
theorem dX5_letterFor_43 : decode cX5_letterFor 43 = .ok (.iload_n 1, 1) := by decide +kernel
theorem dX5_letterFor_44 : decode cX5_letterFor 44 = .ok (.iconst 1, 1) := by decide +kernel
theorem dX5_letterFor_45 : decode cX5_letterFor 45 = .ok (.invokestatic 70, 3) := by decide +kernel
theorem dX5_letterFor_48 : decode cX5_letterFor 48 = .ok (.aload_n 0, 1) := by decide +kernel
theorem dX5_letterFor_49 : decode cX5_letterFor 49 = .ok (.iload_n 1, 1) := by decide +kernel
theorem dX5_letterFor_50 : decode cX5_letterFor 50 = .ok (.iload 6, 2) := by decide +kernel
theorem dX5_letterFor_52 : decode cX5_letterFor 52 = .ok (.invokevirtual 174, 3) := by decide +kernel
theorem dX5_letterFor_55 : decode cX5_letterFor 55 = .ok (.iastore, 1) := by decide +kernel
theorem dX5_letterFor_56 : decode cX5_letterFor 56 = .ok (.aload_n 0, 1) := by decide +kernel
theorem dX5_letterFor_57 : decode cX5_letterFor 57 = .ok (.iload_n 1, 1) := by decide +kernel
theorem dX5_letterFor_58 : decode cX5_letterFor 58 = .ok (.iconst 4, 1) := by decide +kernel
theorem dX5_letterFor_59 : decode cX5_letterFor 59 = .ok (.invokestatic 70, 3) := by decide +kernel
theorem dX5_letterFor_62 : decode cX5_letterFor 62 = .ok (.iload_n 2, 1) := by decide +kernel
theorem dX5_letterFor_63 : decode cX5_letterFor 63 = .ok (.invokevirtual 159, 3) := by decide +kernel
theorem dX5_letterFor_66 : decode cX5_letterFor 66 = .ok (.istore 7, 2) := by decide +kernel
theorem dX5_letterFor_68 : decode cX5_letterFor 68 = .ok (.iload 7, 2) := by decide +kernel
theorem dX5_letterFor_70 : decode cX5_letterFor 70 = .ok (.iload 5, 2) := by decide +kernel
theorem dX5_letterFor_72 : decode cX5_letterFor 72 = .ok (.if_icmp .le 8, 3) := by decide +kernel
theorem dX5_letterFor_75 : decode cX5_letterFor 75 = .ok (.iload 6, 2) := by decide +kernel
theorem dX5_letterFor_77 : decode cX5_letterFor 77 = .ok (.goto 5, 3) := by decide +kernel
theorem dX5_letterFor_80 : decode cX5_letterFor 80 = .ok (.iload 4, 2) := by decide +kernel
theorem dX5_letterFor_82 : decode cX5_letterFor 82 = .ok (.istore 4, 2) := by decide +kernel
theorem dX5_letterFor_84 : decode cX5_letterFor 84 = .ok (.iload 5, 2) := by decide +kernel
theorem dX5_letterFor_86 : decode cX5_letterFor 86 = .ok (.iload 7, 2) := by decide +kernel
theorem dX5_letterFor_88 : decode cX5_letterFor 88 = .ok (.invokestatic 85, 3) := by decide +kernel
theorem dX5_letterFor_91 : decode cX5_letterFor 91 = .ok (.istore 5, 2) := by decide +kernel
theorem dX5_letterFor_93 : decode cX5_letterFor 93 = .ok (.iinc 6 1, 3) := by decide +kernel
theorem dX5_letterFor_96 : decode cX5_letterFor 96 = .ok (.goto (-64), 3) := by decide +kernel
theorem dX5_letterFor_99 : decode cX5_letterFor 99 = .ok (.aload_n 0, 1) := by decide +kernel
theorem dX5_letterFor_100 : decode cX5_letterFor 100 = .ok (.getfield 7, 3) := by decide +kernel
theorem dX5_letterFor_103 : decode cX5_letterFor 103 = .ok (.iload_n 1, 1) := by decide +kernel
theorem dX5_letterFor_104 : decode cX5_letterFor 104 = .ok (.iconst 1, 1) := by decide +kernel
theorem dX5_letterFor_105 : decode cX5_letterFor 105 = .ok (.invokestatic 70, 3) := by decide +kernel
theorem dX5_letterFor_108 : decode cX5_letterFor 108 = .ok (.iload_n 3, 1) := by decide +kernel
theorem dX5_letterFor_109 : decode cX5_letterFor 109 = .ok (.iastore, 1) := by decide +kernel
theorem dX5_letterFor_110 : decode cX5_letterFor 110 = .ok (.iload 4, 2) := by decide +kernel
theorem dX5_letterFor_112 : decode cX5_letterFor 112 = .ok (.ireturn, 1) := by decide +kernel
theorem dX5_kindFor_0 : decode cX5_kindFor 0 = .ok (.aload_n 0, 1) := by decide +kernel
theorem dX5_kindFor_1 : decode cX5_kindFor 1 = .ok (.iload_n 1, 1) := by decide +kernel
theorem dX5_kindFor_2 : decode cX5_kindFor 2 = .ok (.iload_n 2, 1) := by decide +kernel
theorem dX5_kindFor_3 : decode cX5_kindFor 3 = .ok (.invokevirtual 170, 3) := by decide +kernel
theorem dX5_kindFor_6 : decode cX5_kindFor 6 = .ok (.ifCond .ne 10, 3) := by decide +kernel
theorem dX5_kindFor_9 : decode cX5_kindFor 9 = .ok (.aload_n 0, 1) := by decide +kernel
theorem dX5_kindFor_10 : decode cX5_kindFor 10 = .ok (.ldc 37, 2) := by decide +kernel
theorem dX5_kindFor_12 : decode cX5_kindFor 12 = .ok (.invokevirtual 39, 3) := by decide +kernel
theorem dX5_kindFor_15 : decode cX5_kindFor 15 = .ok (.ireturn, 1) := by decide +kernel
theorem dX5_kindFor_16 : decode cX5_kindFor 16 = .ok (.aload_n 0, 1) := by decide +kernel
theorem dX5_kindFor_17 : decode cX5_kindFor 17 = .ok (.iload_n 1, 1) := by decide +kernel
theorem dX5_kindFor_18 : decode cX5_kindFor 18 = .ok (.iconst 0, 1) := by decide +kernel
theorem dX5_kindFor_19 : decode cX5_kindFor 19 = .ok (.invokevirtual 82, 3) := by decide +kernel
theorem dX5_kindFor_22 : decode cX5_kindFor 22 = .ok (.istore_n 3, 1) := by decide +kernel
theorem dX5_kindFor_23 : decode cX5_kindFor 23 = .ok (.iconst 0, 1) := by decide +kernel
theorem dX5_kindFor_24 : decode cX5_kindFor 24 = .ok (.istore 4, 2) := by decide +kernel
theorem dX5_kindFor_26 : decode cX5_kindFor 26 = .ok (.iconst (-1), 1) := by decide +kernel
theorem dX5_kindFor_27 : decode cX5_kindFor 27 = .ok (.istore 5, 2) := by decide +kernel
theorem dX5_kindFor_29 : decode cX5_kindFor 29 = .ok (.iconst 0, 1) := by decide +kernel
theorem dX5_kindFor_30 : decode cX5_kindFor 30 = .ok (.istore 6, 2) := by decide +kernel
theorem dX5_kindFor_32 : decode cX5_kindFor 32 = .ok (.iload 6, 2) := by decide +kernel
theorem dX5_kindFor_34 : decode cX5_kindFor 34 = .ok (.bipush 6, 2) := by decide +kernel
theorem dX5_kindFor_36 : decode cX5_kindFor 36 = .ok (.if_icmp .gt 58, 3) := by decide +kernel
theorem dX5_kindFor_39 : decode cX5_kindFor 39 = .ok (.aload_n 0, 1) := by decide +kernel
theorem dX5_kindFor_40 : decode cX5_kindFor 40 = .ok (.getfield 7, 3) := by decide +kernel
theorem dX5_kindFor_43 : decode cX5_kindFor 43 = .ok (.iload_n 1, 1) := by decide +kernel
theorem dX5_kindFor_44 : decode cX5_kindFor 44 = .ok (.iconst 0, 1) := by decide +kernel
theorem dX5_kindFor_45 : decode cX5_kindFor 45 = .ok (.invokestatic 70, 3) := by decide +kernel
theorem dX5_kindFor_48 : decode cX5_kindFor 48 = .ok (.iload 6, 2) := by decide +kernel
theorem dX5_kindFor_50 : decode cX5_kindFor 50 = .ok (.iastore, 1) := by decide +kernel
theorem dX5_kindFor_51 : decode cX5_kindFor 51 = .ok (.aload_n 0, 1) := by decide +kernel
theorem dX5_kindFor_52 : decode cX5_kindFor 52 = .ok (.iload_n 1, 1) := by decide +kernel
theorem dX5_kindFor_53 : decode cX5_kindFor 53 = .ok (.iconst 4, 1) := by decide +kernel
theorem dX5_kindFor_54 : decode cX5_kindFor 54 = .ok (.invokestatic 70, 3) := by decide +kernel
theorem dX5_kindFor_57 : decode cX5_kindFor 57 = .ok (.iload_n 2, 1) := by decide +kernel
theorem dX5_kindFor_58 : decode cX5_kindFor 58 = .ok (.invokevirtual 159, 3) := by decide +kernel
theorem dX5_kindFor_61 : decode cX5_kindFor 61 = .ok (.istore 7, 2) := by decide +kernel
theorem dX5_kindFor_63 : decode cX5_kindFor 63 = .ok (.iload 7, 2) := by decide +kernel
theorem dX5_kindFor_65 : decode cX5_kindFor 65 = .ok (.iload 5, 2) := by decide +kernel
theorem dX5_kindFor_67 : decode cX5_kindFor 67 = .ok (.if_icmp .le 8, 3) := by decide +kernel
theorem dX5_kindFor_70 : decode cX5_kindFor 70 = .ok (.iload 6, 2) := by decide +kernel
theorem dX5_kindFor_72 : decode cX5_kindFor 72 = .ok (.goto 5, 3) := by decide +kernel
theorem dX5_kindFor_75 : decode cX5_kindFor 75 = .ok (.iload 4, 2) := by decide +kernel
theorem dX5_kindFor_77 : decode cX5_kindFor 77 = .ok (.istore 4, 2) := by decide +kernel
theorem dX5_kindFor_79 : decode cX5_kindFor 79 = .ok (.iload 5, 2) := by decide +kernel
theorem dX5_kindFor_81 : decode cX5_kindFor 81 = .ok (.iload 7, 2) := by decide +kernel
theorem dX5_kindFor_83 : decode cX5_kindFor 83 = .ok (.invokestatic 85, 3) := by decide +kernel
theorem dX5_kindFor_86 : decode cX5_kindFor 86 = .ok (.istore 5, 2) := by decide +kernel
theorem dX5_kindFor_88 : decode cX5_kindFor 88 = .ok (.iinc 6 1, 3) := by decide +kernel
theorem dX5_kindFor_91 : decode cX5_kindFor 91 = .ok (.goto (-59), 3) := by decide +kernel
theorem dX5_kindFor_94 : decode cX5_kindFor 94 = .ok (.aload_n 0, 1) := by decide +kernel
theorem dX5_kindFor_95 : decode cX5_kindFor 95 = .ok (.getfield 7, 3) := by decide +kernel
theorem dX5_kindFor_98 : decode cX5_kindFor 98 = .ok (.iload_n 1, 1) := by decide +kernel
theorem dX5_kindFor_99 : decode cX5_kindFor 99 = .ok (.iconst 0, 1) := by decide +kernel
theorem dX5_kindFor_100 : decode cX5_kindFor 100 = .ok (.invokestatic 70, 3) := by decide +kernel
theorem dX5_kindFor_103 : decode cX5_kindFor 103 = .ok (.iload_n 3, 1) := by decide +kernel
theorem dX5_kindFor_104 : decode cX5_kindFor 104 = .ok (.iastore, 1) := by decide +kernel
theorem dX5_kindFor_105 : decode cX5_kindFor 105 = .ok (.iload 4, 2) := by decide +kernel
theorem dX5_kindFor_107 : decode cX5_kindFor 107 = .ok (.ireturn, 1) := by decide +kernel
theorem dX5_away_0 : decode cX5_away 0 = .ok (.aload_n 0, 1) := by decide +kernel
theorem dX5_away_1 : decode cX5_away 1 = .ok (.iload_n 1, 1) := by decide +kernel
theorem dX5_away_2 : decode cX5_away 2 = .ok (.invokevirtual 91, 3) := by decide +kernel
theorem dX5_away_5 : decode cX5_away 5 = .ok (.ifCond .eq 27, 3) := by decide +kernel
theorem dX5_away_8 : decode cX5_away 8 = .ok (.iload_n 2, 1) := by decide +kernel
theorem dX5_away_9 : decode cX5_away 9 = .ok (.i2l, 1) := by decide +kernel
theorem dX5_away_10 : decode cX5_away 10 = .ok (.lconst 0, 1) := by decide +kernel
theorem dX5_away_11 : decode cX5_away 11 = .ok (.ldc2_w 75, 3) := by decide +kernel
theorem dX5_away_14 : decode cX5_away 14 = .ok (.invokestatic 49, 3) := by decide +kernel
theorem dX5_away_17 : decode cX5_away 17 = .ok (.ifCond .eq 15, 3) := by decide +kernel
theorem dX5_away_20 : decode cX5_away 20 = .ok (.iload_n 3, 1) := by decide +kernel
theorem dX5_away_21 : decode cX5_away 21 = .ok (.i2l, 1) := by decide +kernel
theorem dX5_away_22 : decode cX5_away 22 = .ok (.lconst 0, 1) := by decide +kernel
theorem dX5_away_23 : decode cX5_away 23 = .ok (.ldc2_w 60, 3) := by decide +kernel
theorem dX5_away_26 : decode cX5_away 26 = .ok (.invokestatic 49, 3) := by decide +kernel
theorem dX5_away_29 : decode cX5_away 29 = .ok (.ifCond .ne 10, 3) := by decide +kernel
theorem dX5_away_32 : decode cX5_away 32 = .ok (.aload_n 0, 1) := by decide +kernel
theorem dX5_away_33 : decode cX5_away 33 = .ok (.ldc 37, 2) := by decide +kernel
theorem dX5_away_35 : decode cX5_away 35 = .ok (.invokevirtual 39, 3) := by decide +kernel
theorem dX5_away_38 : decode cX5_away 38 = .ok (.ireturn, 1) := by decide +kernel
theorem dX5_away_39 : decode cX5_away 39 = .ok (.iconst (-1), 1) := by decide +kernel
theorem dX5_away_40 : decode cX5_away 40 = .ok (.istore 4, 2) := by decide +kernel
theorem dX5_away_42 : decode cX5_away 42 = .ok (.aload_n 0, 1) := by decide +kernel
theorem dX5_away_43 : decode cX5_away 43 = .ok (.getfield 7, 3) := by decide +kernel
theorem dX5_away_46 : decode cX5_away 46 = .ok (.aload_n 0, 1) := by decide +kernel
theorem dX5_away_47 : decode cX5_away 47 = .ok (.getfield 19, 3) := by decide +kernel
theorem dX5_away_50 : decode cX5_away 50 = .ok (.invokestatic 153, 3) := by decide +kernel
theorem dX5_away_53 : decode cX5_away 53 = .ok (.iconst 0, 1) := by decide +kernel
theorem dX5_away_54 : decode cX5_away 54 = .ok (.istore 5, 2) := by decide +kernel
theorem dX5_away_56 : decode cX5_away 56 = .ok (.iload 5, 2) := by decide +kernel
theorem dX5_away_58 : decode cX5_away 58 = .ok (.iconst 1, 1) := by decide +kernel
theorem dX5_away_59 : decode cX5_away 59 = .ok (.aload_n 0, 1) := by decide +kernel
theorem dX5_away_60 : decode cX5_away 60 = .ok (.getfield 7, 3) := by decide +kernel
theorem dX5_away_63 : decode cX5_away 63 = .ok (.iconst 0, 1) := by decide +kernel
theorem dX5_away_64 : decode cX5_away 64 = .ok (.iaload, 1) := by decide +kernel
theorem dX5_away_65 : decode cX5_away 65 = .ok (.ishl, 1) := by decide +kernel
theorem dX5_away_66 : decode cX5_away 66 = .ok (.if_icmp .ge 87, 3) := by decide +kernel
theorem dX5_away_69 : decode cX5_away 69 = .ok (.iload 5, 2) := by decide +kernel
theorem dX5_away_71 : decode cX5_away 71 = .ok (.iload_n 1, 1) := by decide +kernel
theorem dX5_away_72 : decode cX5_away 72 = .ok (.ishr, 1) := by decide +kernel
theorem dX5_away_73 : decode cX5_away 73 = .ok (.iconst 1, 1) := by decide +kernel
theorem dX5_away_74 : decode cX5_away 74 = .ok (.iand, 1) := by decide +kernel
theorem dX5_away_75 : decode cX5_away 75 = .ok (.ifCond .ne 72, 3) := by decide +kernel
theorem dX5_away_78 : decode cX5_away 78 = .ok (.iload 4, 2) := by decide +kernel
theorem dX5_away_80 : decode cX5_away 80 = .ok (.ifCond .lt 16, 3) := by decide +kernel
theorem dX5_away_83 : decode cX5_away 83 = .ok (.iload 5, 2) := by decide +kernel
theorem dX5_away_85 : decode cX5_away 85 = .ok (.invokestatic 67, 3) := by decide +kernel
theorem dX5_away_88 : decode cX5_away 88 = .ok (.iload 4, 2) := by decide +kernel
theorem dX5_away_90 : decode cX5_away 90 = .ok (.invokestatic 67, 3) := by decide +kernel
theorem dX5_away_93 : decode cX5_away 93 = .ok (.if_icmp .ge 54, 3) := by decide +kernel
theorem dX5_away_96 : decode cX5_away 96 = .ok (.iconst 0, 1) := by decide +kernel
theorem dX5_away_97 : decode cX5_away 97 = .ok (.istore 6, 2) := by decide +kernel
theorem dX5_away_99 : decode cX5_away 99 = .ok (.iload 6, 2) := by decide +kernel
theorem dX5_away_101 : decode cX5_away 101 = .ok (.iload_n 3, 1) := by decide +kernel
theorem dX5_away_102 : decode cX5_away 102 = .ok (.if_icmp .ge 15, 3) := by decide +kernel
theorem dX5_away_105 : decode cX5_away 105 = .ok (.aload_n 0, 1) := by decide +kernel
theorem dX5_away_106 : decode cX5_away 106 = .ok (.iload 5, 2) := by decide +kernel
theorem dX5_away_108 : decode cX5_away 108 = .ok (.invokevirtual 127, 3) := by decide +kernel
theorem dX5_away_111 : decode cX5_away 111 = .ok (.iinc 6 1, 3) := by decide +kernel
theorem dX5_away_114 : decode cX5_away 114 = .ok (.goto (-15), 3) := by decide +kernel
theorem dX5_away_117 : decode cX5_away 117 = .ok (.aload_n 0, 1) := by decide +kernel
theorem dX5_away_118 : decode cX5_away 118 = .ok (.iload_n 1, 1) := by decide +kernel
theorem dX5_away_119 : decode cX5_away 119 = .ok (.iconst 4, 1) := by decide +kernel
theorem dX5_away_120 : decode cX5_away 120 = .ok (.invokevirtual 82, 3) := by decide +kernel
theorem dX5_away_123 : decode cX5_away 123 = .ok (.iload_n 2, 1) := by decide +kernel
theorem dX5_away_124 : decode cX5_away 124 = .ok (.if_icmp .lt 8, 3) := by decide +kernel
theorem dX5_away_127 : decode cX5_away 127 = .ok (.iload 5, 2) := by decide +kernel
theorem dX5_away_129 : decode cX5_away 129 = .ok (.goto 5, 3) := by decide +kernel
theorem dX5_away_132 : decode cX5_away 132 = .ok (.iload 4, 2) := by decide +kernel
theorem dX5_away_134 : decode cX5_away 134 = .ok (.istore 4, 2) := by decide +kernel
theorem dX5_away_136 : decode cX5_away 136 = .ok (.aload_n 0, 1) := by decide +kernel
theorem dX5_away_137 : decode cX5_away 137 = .ok (.getfield 19, 3) := by decide +kernel
theorem dX5_away_140 : decode cX5_away 140 = .ok (.aload_n 0, 1) := by decide +kernel
theorem dX5_away_141 : decode cX5_away 141 = .ok (.getfield 7, 3) := by decide +kernel
theorem dX5_away_144 : decode cX5_away 144 = .ok (.invokestatic 153, 3) := by decide +kernel
theorem dX5_away_147 : decode cX5_away 147 = .ok (.iinc 5 1, 3) := by decide +kernel
theorem dX5_away_150 : decode cX5_away 150 = .ok (.goto (-94), 3) := by decide +kernel
theorem dX5_away_153 : decode cX5_away 153 = .ok (.aload_n 0, 1) := by decide +kernel
theorem dX5_away_154 : decode cX5_away 154 = .ok (.iload 4, 2) := by decide +kernel
theorem dX5_away_156 : decode cX5_away 156 = .ok (.invokevirtual 167, 3) := by decide +kernel
theorem dX5_away_159 : decode cX5_away 159 = .ok (.ireturn, 1) := by decide +kernel
theorem dX5_bonesFor_0 : decode cX5_bonesFor 0 = .ok (.iload_n 1, 1) := by decide +kernel
theorem dX5_bonesFor_1 : decode cX5_bonesFor 1 = .ok (.invokestatic 57, 3) := by decide +kernel
theorem dX5_bonesFor_4 : decode cX5_bonesFor 4 = .ok (.ifCond .eq 15, 3) := by decide +kernel
theorem dX5_bonesFor_7 : decode cX5_bonesFor 7 = .ok (.iload_n 2, 1) := by decide +kernel
theorem dX5_bonesFor_8 : decode cX5_bonesFor 8 = .ok (.i2l, 1) := by decide +kernel
theorem dX5_bonesFor_9 : decode cX5_bonesFor 9 = .ok (.lconst 0, 1) := by decide +kernel
theorem dX5_bonesFor_10 : decode cX5_bonesFor 10 = .ok (.ldc2_w 73, 3) := by decide +kernel
theorem dX5_bonesFor_13 : decode cX5_bonesFor 13 = .ok (.invokestatic 49, 3) := by decide +kernel
theorem dX5_bonesFor_16 : decode cX5_bonesFor 16 = .ok (.ifCond .ne 10, 3) := by decide +kernel
theorem dX5_bonesFor_19 : decode cX5_bonesFor 19 = .ok (.aload_n 0, 1) := by decide +kernel
theorem dX5_bonesFor_20 : decode cX5_bonesFor 20 = .ok (.ldc 37, 2) := by decide +kernel
theorem dX5_bonesFor_22 : decode cX5_bonesFor 22 = .ok (.invokevirtual 39, 3) := by decide +kernel
theorem dX5_bonesFor_25 : decode cX5_bonesFor 25 = .ok (.ireturn, 1) := by decide +kernel
theorem dX5_bonesFor_26 : decode cX5_bonesFor 26 = .ok (.iconst 0, 1) := by decide +kernel
theorem dX5_bonesFor_27 : decode cX5_bonesFor 27 = .ok (.istore_n 3, 1) := by decide +kernel
theorem dX5_bonesFor_28 : decode cX5_bonesFor 28 = .ok (.iconst (-1), 1) := by decide +kernel
theorem dX5_bonesFor_29 : decode cX5_bonesFor 29 = .ok (.istore 4, 2) := by decide +kernel
theorem dX5_bonesFor_31 : decode cX5_bonesFor 31 = .ok (.aload_n 0, 1) := by decide +kernel
theorem dX5_bonesFor_32 : decode cX5_bonesFor 32 = .ok (.getfield 7, 3) := by decide +kernel
theorem dX5_bonesFor_35 : decode cX5_bonesFor 35 = .ok (.aload_n 0, 1) := by decide +kernel
theorem dX5_bonesFor_36 : decode cX5_bonesFor 36 = .ok (.getfield 19, 3) := by decide +kernel
theorem dX5_bonesFor_39 : decode cX5_bonesFor 39 = .ok (.invokestatic 153, 3) := by decide +kernel
theorem dX5_bonesFor_42 : decode cX5_bonesFor 42 = .ok (.iconst 0, 1) := by decide +kernel
theorem dX5_bonesFor_43 : decode cX5_bonesFor 43 = .ok (.istore 5, 2) := by decide +kernel
theorem dX5_bonesFor_45 : decode cX5_bonesFor 45 = .ok (.iload 5, 2) := by decide +kernel
theorem dX5_bonesFor_47 : decode cX5_bonesFor 47 = .ok (.sipush 999, 3) := by decide +kernel
theorem dX5_bonesFor_50 : decode cX5_bonesFor 50 = .ok (.if_icmp .gt 65, 3) := by decide +kernel
theorem dX5_bonesFor_53 : decode cX5_bonesFor 53 = .ok (.aload_n 0, 1) := by decide +kernel
theorem dX5_bonesFor_54 : decode cX5_bonesFor 54 = .ok (.getfield 7, 3) := by decide +kernel
theorem dX5_bonesFor_57 : decode cX5_bonesFor 57 = .ok (.bipush 13, 2) := by decide +kernel
theorem dX5_bonesFor_59 : decode cX5_bonesFor 59 = .ok (.iload_n 1, 1) := by decide +kernel
theorem dX5_bonesFor_60 : decode cX5_bonesFor 60 = .ok (.iadd, 1) := by decide +kernel
theorem dX5_bonesFor_61 : decode cX5_bonesFor 61 = .ok (.iload 5, 2) := by decide +kernel
theorem dX5_bonesFor_63 : decode cX5_bonesFor 63 = .ok (.iastore, 1) := by decide +kernel
theorem dX5_bonesFor_64 : decode cX5_bonesFor 64 = .ok (.aload_n 0, 1) := by decide +kernel
theorem dX5_bonesFor_65 : decode cX5_bonesFor 65 = .ok (.iload_n 2, 1) := by decide +kernel
theorem dX5_bonesFor_66 : decode cX5_bonesFor 66 = .ok (.invokevirtual 134, 3) := by decide +kernel
theorem dX5_bonesFor_69 : decode cX5_bonesFor 69 = .ok (.aload_n 0, 1) := by decide +kernel
theorem dX5_bonesFor_70 : decode cX5_bonesFor 70 = .ok (.invokevirtual 140, 3) := by decide +kernel
theorem dX5_bonesFor_73 : decode cX5_bonesFor 73 = .ok (.istore 6, 2) := by decide +kernel
theorem dX5_bonesFor_75 : decode cX5_bonesFor 75 = .ok (.aload_n 0, 1) := by decide +kernel
theorem dX5_bonesFor_76 : decode cX5_bonesFor 76 = .ok (.getfield 19, 3) := by decide +kernel
theorem dX5_bonesFor_79 : decode cX5_bonesFor 79 = .ok (.aload_n 0, 1) := by decide +kernel
theorem dX5_bonesFor_80 : decode cX5_bonesFor 80 = .ok (.getfield 7, 3) := by decide +kernel
theorem dX5_bonesFor_83 : decode cX5_bonesFor 83 = .ok (.invokestatic 153, 3) := by decide +kernel
theorem dX5_bonesFor_86 : decode cX5_bonesFor 86 = .ok (.iload 6, 2) := by decide +kernel
theorem dX5_bonesFor_88 : decode cX5_bonesFor 88 = .ok (.iload 4, 2) := by decide +kernel
theorem dX5_bonesFor_90 : decode cX5_bonesFor 90 = .ok (.if_icmp .le 8, 3) := by decide +kernel
theorem dX5_bonesFor_93 : decode cX5_bonesFor 93 = .ok (.iload 5, 2) := by decide +kernel
theorem dX5_bonesFor_95 : decode cX5_bonesFor 95 = .ok (.goto 4, 3) := by decide +kernel
theorem dX5_bonesFor_98 : decode cX5_bonesFor 98 = .ok (.iload_n 3, 1) := by decide +kernel
theorem dX5_bonesFor_99 : decode cX5_bonesFor 99 = .ok (.istore_n 3, 1) := by decide +kernel
theorem dX5_bonesFor_100 : decode cX5_bonesFor 100 = .ok (.iload 4, 2) := by decide +kernel
theorem dX5_bonesFor_102 : decode cX5_bonesFor 102 = .ok (.iload 6, 2) := by decide +kernel
theorem dX5_bonesFor_104 : decode cX5_bonesFor 104 = .ok (.invokestatic 85, 3) := by decide +kernel
theorem dX5_bonesFor_107 : decode cX5_bonesFor 107 = .ok (.istore 4, 2) := by decide +kernel
theorem dX5_bonesFor_109 : decode cX5_bonesFor 109 = .ok (.iinc 5 1, 3) := by decide +kernel
theorem dX5_bonesFor_112 : decode cX5_bonesFor 112 = .ok (.goto (-67), 3) := by decide +kernel
theorem dX5_bonesFor_115 : decode cX5_bonesFor 115 = .ok (.iload_n 3, 1) := by decide +kernel
theorem dX5_bonesFor_116 : decode cX5_bonesFor 116 = .ok (.ireturn, 1) := by decide +kernel
theorem dX5_isTold_0 : decode cX5_isTold 0 = .ok (.aload_n 0, 1) := by decide +kernel
theorem dX5_isTold_1 : decode cX5_isTold 1 = .ok (.getfield 7, 3) := by decide +kernel
theorem dX5_isTold_4 : decode cX5_isTold 4 = .ok (.aload_n 0, 1) := by decide +kernel
theorem dX5_isTold_5 : decode cX5_isTold 5 = .ok (.getfield 19, 3) := by decide +kernel
theorem dX5_isTold_8 : decode cX5_isTold 8 = .ok (.invokestatic 153, 3) := by decide +kernel
theorem dX5_isTold_11 : decode cX5_isTold 11 = .ok (.iconst 1, 1) := by decide +kernel
theorem dX5_isTold_12 : decode cX5_isTold 12 = .ok (.istore_n 3, 1) := by decide +kernel
theorem dX5_isTold_13 : decode cX5_isTold 13 = .ok (.iconst 0, 1) := by decide +kernel
theorem dX5_isTold_14 : decode cX5_isTold 14 = .ok (.istore 4, 2) := by decide +kernel
theorem dX5_isTold_16 : decode cX5_isTold 16 = .ok (.iload 4, 2) := by decide +kernel
theorem dX5_isTold_18 : decode cX5_isTold 18 = .ok (.aload_n 0, 1) := by decide +kernel
theorem dX5_isTold_19 : decode cX5_isTold 19 = .ok (.getfield 31, 3) := by decide +kernel
theorem dX5_isTold_22 : decode cX5_isTold 22 = .ok (.iload_n 1, 1) := by decide +kernel
theorem dX5_isTold_23 : decode cX5_isTold 23 = .ok (.iaload, 1) := by decide +kernel
theorem dX5_isTold_24 : decode cX5_isTold 24 = .ok (.if_icmp .ge 55, 3) := by decide +kernel
theorem dX5_isTold_27 : decode cX5_isTold 27 = .ok (.iload_n 3, 1) := by decide +kernel
theorem dX5_isTold_28 : decode cX5_isTold 28 = .ok (.ifCond .eq 51, 3) := by decide +kernel
theorem dX5_isTold_31 : decode cX5_isTold 31 = .ok (.aload_n 0, 1) := by decide +kernel
theorem dX5_isTold_32 : decode cX5_isTold 32 = .ok (.getfield 34, 3) := by decide +kernel
theorem dX5_isTold_35 : decode cX5_isTold 35 = .ok (.bipush 40, 2) := by decide +kernel
theorem dX5_isTold_37 : decode cX5_isTold 37 = .ok (.iload_n 1, 1) := by decide +kernel
theorem dX5_isTold_38 : decode cX5_isTold 38 = .ok (.imul, 1) := by decide +kernel
theorem dX5_isTold_39 : decode cX5_isTold 39 = .ok (.iload 4, 2) := by decide +kernel
theorem dX5_isTold_41 : decode cX5_isTold 41 = .ok (.iadd, 1) := by decide +kernel
theorem dX5_isTold_42 : decode cX5_isTold 42 = .ok (.iaload, 1) := by decide +kernel
theorem dX5_isTold_43 : decode cX5_isTold 43 = .ok (.istore 5, 2) := by decide +kernel
theorem dX5_isTold_45 : decode cX5_isTold 45 = .ok (.iload 5, 2) := by decide +kernel
theorem dX5_isTold_47 : decode cX5_isTold 47 = .ok (.iconst (-1), 1) := by decide +kernel
theorem dX5_isTold_48 : decode cX5_isTold 48 = .ok (.if_icmp .eq 14, 3) := by decide +kernel
theorem dX5_isTold_51 : decode cX5_isTold 51 = .ok (.iload 5, 2) := by decide +kernel
theorem dX5_isTold_53 : decode cX5_isTold 53 = .ok (.aload_n 0, 1) := by decide +kernel
theorem dX5_isTold_54 : decode cX5_isTold 54 = .ok (.iload_n 2, 1) := by decide +kernel
theorem dX5_isTold_55 : decode cX5_isTold 55 = .ok (.iconst 2, 1) := by decide +kernel
theorem dX5_isTold_56 : decode cX5_isTold 56 = .ok (.invokevirtual 82, 3) := by decide +kernel
theorem dX5_isTold_59 : decode cX5_isTold 59 = .ok (.if_icmp .ne 7, 3) := by decide +kernel
theorem dX5_isTold_62 : decode cX5_isTold 62 = .ok (.iconst 1, 1) := by decide +kernel
theorem dX5_isTold_63 : decode cX5_isTold 63 = .ok (.goto 4, 3) := by decide +kernel
theorem dX5_isTold_66 : decode cX5_isTold 66 = .ok (.iconst 0, 1) := by decide +kernel
theorem dX5_isTold_67 : decode cX5_isTold 67 = .ok (.istore_n 3, 1) := by decide +kernel
theorem dX5_isTold_68 : decode cX5_isTold 68 = .ok (.aload_n 0, 1) := by decide +kernel
theorem dX5_isTold_69 : decode cX5_isTold 69 = .ok (.iconst 0, 1) := by decide +kernel
theorem dX5_isTold_70 : decode cX5_isTold 70 = .ok (.invokevirtual 127, 3) := by decide +kernel
theorem dX5_isTold_73 : decode cX5_isTold 73 = .ok (.iinc 4 1, 3) := by decide +kernel
theorem dX5_isTold_76 : decode cX5_isTold 76 = .ok (.goto (-60), 3) := by decide +kernel
theorem dX5_isTold_79 : decode cX5_isTold 79 = .ok (.aload_n 0, 1) := by decide +kernel
theorem dX5_isTold_80 : decode cX5_isTold 80 = .ok (.getfield 19, 3) := by decide +kernel
theorem dX5_isTold_83 : decode cX5_isTold 83 = .ok (.aload_n 0, 1) := by decide +kernel
theorem dX5_isTold_84 : decode cX5_isTold 84 = .ok (.getfield 7, 3) := by decide +kernel
theorem dX5_isTold_87 : decode cX5_isTold 87 = .ok (.invokestatic 153, 3) := by decide +kernel
theorem dX5_isTold_90 : decode cX5_isTold 90 = .ok (.iload_n 3, 1) := by decide +kernel
theorem dX5_isTold_91 : decode cX5_isTold 91 = .ok (.ireturn, 1) := by decide +kernel
theorem dX5_wantsFor_0 : decode cX5_wantsFor 0 = .ok (.aload_n 0, 1) := by decide +kernel
theorem dX5_wantsFor_1 : decode cX5_wantsFor 1 = .ok (.iload_n 1, 1) := by decide +kernel
theorem dX5_wantsFor_2 : decode cX5_wantsFor 2 = .ok (.invokevirtual 177, 3) := by decide +kernel
theorem dX5_wantsFor_5 : decode cX5_wantsFor 5 = .ok (.ifCond .eq 11, 3) := by decide +kernel
theorem dX5_wantsFor_8 : decode cX5_wantsFor 8 = .ok (.aload_n 0, 1) := by decide +kernel
theorem dX5_wantsFor_9 : decode cX5_wantsFor 9 = .ok (.iload_n 1, 1) := by decide +kernel
theorem dX5_wantsFor_10 : decode cX5_wantsFor 10 = .ok (.invokevirtual 177, 3) := by decide +kernel
theorem dX5_wantsFor_13 : decode cX5_wantsFor 13 = .ok (.goto 17, 3) := by decide +kernel
theorem dX5_wantsFor_16 : decode cX5_wantsFor 16 = .ok (.aload_n 0, 1) := by decide +kernel
theorem dX5_wantsFor_17 : decode cX5_wantsFor 17 = .ok (.iload_n 2, 1) := by decide +kernel
theorem dX5_wantsFor_18 : decode cX5_wantsFor 18 = .ok (.invokevirtual 91, 3) := by decide +kernel
theorem dX5_wantsFor_21 : decode cX5_wantsFor 21 = .ok (.ifCond .eq 7, 3) := by decide +kernel
theorem dX5_wantsFor_24 : decode cX5_wantsFor 24 = .ok (.iconst 0, 1) := by decide +kernel
theorem dX5_wantsFor_25 : decode cX5_wantsFor 25 = .ok (.goto 5, 3) := by decide +kernel
theorem dX5_wantsFor_28 : decode cX5_wantsFor 28 = .ok (.ldc 37, 2) := by decide +kernel
theorem dX5_wantsFor_30 : decode cX5_wantsFor 30 = .ok (.ireturn, 1) := by decide +kernel
theorem dX5_fits_0 : decode cX5_fits 0 = .ok (.aload_n 0, 1) := by decide +kernel
theorem dX5_fits_1 : decode cX5_fits 1 = .ok (.iload_n 1, 1) := by decide +kernel
theorem dX5_fits_2 : decode cX5_fits 2 = .ok (.iload_n 2, 1) := by decide +kernel
theorem dX5_fits_3 : decode cX5_fits 3 = .ok (.invokevirtual 180, 3) := by decide +kernel
theorem dX5_fits_6 : decode cX5_fits 6 = .ok (.istore_n 3, 1) := by decide +kernel
theorem dX5_fits_7 : decode cX5_fits 7 = .ok (.iload_n 3, 1) := by decide +kernel
theorem dX5_fits_8 : decode cX5_fits 8 = .ok (.ifCond .eq 9, 3) := by decide +kernel
theorem dX5_fits_11 : decode cX5_fits 11 = .ok (.aload_n 0, 1) := by decide +kernel
theorem dX5_fits_12 : decode cX5_fits 12 = .ok (.iload_n 3, 1) := by decide +kernel
theorem dX5_fits_13 : decode cX5_fits 13 = .ok (.invokevirtual 39, 3) := by decide +kernel
theorem dX5_fits_16 : decode cX5_fits 16 = .ok (.ireturn, 1) := by decide +kernel
theorem dX5_fits_17 : decode cX5_fits 17 = .ok (.aload_n 0, 1) := by decide +kernel
theorem dX5_fits_18 : decode cX5_fits 18 = .ok (.iload_n 2, 1) := by decide +kernel
theorem dX5_fits_19 : decode cX5_fits 19 = .ok (.iconst 1, 1) := by decide +kernel
theorem dX5_fits_20 : decode cX5_fits 20 = .ok (.invokevirtual 82, 3) := by decide +kernel
theorem dX5_fits_23 : decode cX5_fits 23 = .ok (.istore 4, 2) := by decide +kernel
theorem dX5_fits_25 : decode cX5_fits 25 = .ok (.iconst 0, 1) := by decide +kernel
theorem dX5_fits_26 : decode cX5_fits 26 = .ok (.istore 5, 2) := by decide +kernel
theorem dX5_fits_28 : decode cX5_fits 28 = .ok (.iconst 0, 1) := by decide +kernel
theorem dX5_fits_29 : decode cX5_fits 29 = .ok (.istore 6, 2) := by decide +kernel
theorem dX5_fits_31 : decode cX5_fits 31 = .ok (.iload 6, 2) := by decide +kernel
theorem dX5_fits_33 : decode cX5_fits 33 = .ok (.bipush 10, 2) := by decide +kernel
theorem dX5_fits_35 : decode cX5_fits 35 = .ok (.if_icmp .ge 48, 3) := by decide +kernel
theorem dX5_fits_38 : decode cX5_fits 38 = .ok (.aload_n 0, 1) := by decide +kernel
theorem dX5_fits_39 : decode cX5_fits 39 = .ok (.getfield 7, 3) := by decide +kernel
theorem dX5_fits_42 : decode cX5_fits 42 = .ok (.iload_n 2, 1) := by decide +kernel
theorem dX5_fits_43 : decode cX5_fits 43 = .ok (.iconst 1, 1) := by decide +kernel
theorem dX5_fits_44 : decode cX5_fits 44 = .ok (.invokestatic 70, 3) := by decide +kernel
theorem dX5_fits_47 : decode cX5_fits 47 = .ok (.aload_n 0, 1) := by decide +kernel
theorem dX5_fits_48 : decode cX5_fits 48 = .ok (.iload_n 2, 1) := by decide +kernel
theorem dX5_fits_49 : decode cX5_fits 49 = .ok (.iload 6, 2) := by decide +kernel
theorem dX5_fits_51 : decode cX5_fits 51 = .ok (.invokevirtual 174, 3) := by decide +kernel
theorem dX5_fits_54 : decode cX5_fits 54 = .ok (.iastore, 1) := by decide +kernel
theorem dX5_fits_55 : decode cX5_fits 55 = .ok (.iload 5, 2) := by decide +kernel
theorem dX5_fits_57 : decode cX5_fits 57 = .ok (.aload_n 0, 1) := by decide +kernel
theorem dX5_fits_58 : decode cX5_fits 58 = .ok (.iload_n 1, 1) := by decide +kernel
theorem dX5_fits_59 : decode cX5_fits 59 = .ok (.iload_n 2, 1) := by decide +kernel
theorem dX5_fits_60 : decode cX5_fits 60 = .ok (.invokevirtual 183, 3) := by decide +kernel
theorem dX5_fits_63 : decode cX5_fits 63 = .ok (.ifCond .eq 10, 3) := by decide +kernel
theorem dX5_fits_66 : decode cX5_fits 66 = .ok (.iconst 1, 1) := by decide +kernel
theorem dX5_fits_67 : decode cX5_fits 67 = .ok (.iload 6, 2) := by decide +kernel
theorem dX5_fits_69 : decode cX5_fits 69 = .ok (.ishl, 1) := by decide +kernel
theorem dX5_fits_70 : decode cX5_fits 70 = .ok (.goto 4, 3) := by decide +kernel
theorem dX5_fits_73 : decode cX5_fits 73 = .ok (.iconst 0, 1) := by decide +kernel
theorem dX5_fits_74 : decode cX5_fits 74 = .ok (.ior, 1) := by decide +kernel
theorem dX5_fits_75 : decode cX5_fits 75 = .ok (.istore 5, 2) := by decide +kernel
theorem dX5_fits_77 : decode cX5_fits 77 = .ok (.iinc 6 1, 3) := by decide +kernel
theorem dX5_fits_80 : decode cX5_fits 80 = .ok (.goto (-49), 3) := by decide +kernel
theorem dX5_fits_83 : decode cX5_fits 83 = .ok (.aload_n 0, 1) := by decide +kernel
theorem dX5_fits_84 : decode cX5_fits 84 = .ok (.getfield 7, 3) := by decide +kernel
theorem dX5_fits_87 : decode cX5_fits 87 = .ok (.iload_n 2, 1) := by decide +kernel
theorem dX5_fits_88 : decode cX5_fits 88 = .ok (.iconst 1, 1) := by decide +kernel
theorem dX5_fits_89 : decode cX5_fits 89 = .ok (.invokestatic 70, 3) := by decide +kernel
theorem dX5_fits_92 : decode cX5_fits 92 = .ok (.iload 4, 2) := by decide +kernel
theorem dX5_fits_94 : decode cX5_fits 94 = .ok (.iastore, 1) := by decide +kernel
theorem dX5_fits_95 : decode cX5_fits 95 = .ok (.iload 5, 2) := by decide +kernel
theorem dX5_fits_97 : decode cX5_fits 97 = .ok (.ireturn, 1) := by decide +kernel
theorem dX5_kinds_0 : decode cX5_kinds 0 = .ok (.aload_n 0, 1) := by decide +kernel
theorem dX5_kinds_1 : decode cX5_kinds 1 = .ok (.iload_n 1, 1) := by decide +kernel
theorem dX5_kinds_2 : decode cX5_kinds 2 = .ok (.iload_n 2, 1) := by decide +kernel
theorem dX5_kinds_3 : decode cX5_kinds 3 = .ok (.invokevirtual 180, 3) := by decide +kernel
theorem dX5_kinds_6 : decode cX5_kinds 6 = .ok (.istore_n 3, 1) := by decide +kernel
theorem dX5_kinds_7 : decode cX5_kinds 7 = .ok (.iload_n 3, 1) := by decide +kernel
theorem dX5_kinds_8 : decode cX5_kinds 8 = .ok (.ifCond .eq 9, 3) := by decide +kernel
theorem dX5_kinds_11 : decode cX5_kinds 11 = .ok (.aload_n 0, 1) := by decide +kernel
theorem dX5_kinds_12 : decode cX5_kinds 12 = .ok (.iload_n 3, 1) := by decide +kernel
theorem dX5_kinds_13 : decode cX5_kinds 13 = .ok (.invokevirtual 39, 3) := by decide +kernel
theorem dX5_kinds_16 : decode cX5_kinds 16 = .ok (.ireturn, 1) := by decide +kernel
theorem dX5_kinds_17 : decode cX5_kinds 17 = .ok (.aload_n 0, 1) := by decide +kernel
theorem dX5_kinds_18 : decode cX5_kinds 18 = .ok (.iload_n 2, 1) := by decide +kernel
theorem dX5_kinds_19 : decode cX5_kinds 19 = .ok (.iconst 0, 1) := by decide +kernel
theorem dX5_kinds_20 : decode cX5_kinds 20 = .ok (.invokevirtual 82, 3) := by decide +kernel
theorem dX5_kinds_23 : decode cX5_kinds 23 = .ok (.istore 4, 2) := by decide +kernel
theorem dX5_kinds_25 : decode cX5_kinds 25 = .ok (.iconst 0, 1) := by decide +kernel
theorem dX5_kinds_26 : decode cX5_kinds 26 = .ok (.istore 5, 2) := by decide +kernel
theorem dX5_kinds_28 : decode cX5_kinds 28 = .ok (.iconst 0, 1) := by decide +kernel
theorem dX5_kinds_29 : decode cX5_kinds 29 = .ok (.istore 6, 2) := by decide +kernel
theorem dX5_kinds_31 : decode cX5_kinds 31 = .ok (.iload 6, 2) := by decide +kernel
theorem dX5_kinds_33 : decode cX5_kinds 33 = .ok (.bipush 6, 2) := by decide +kernel
theorem dX5_kinds_35 : decode cX5_kinds 35 = .ok (.if_icmp .gt 43, 3) := by decide +kernel
theorem dX5_kinds_38 : decode cX5_kinds 38 = .ok (.aload_n 0, 1) := by decide +kernel
theorem dX5_kinds_39 : decode cX5_kinds 39 = .ok (.getfield 7, 3) := by decide +kernel
theorem dX5_kinds_42 : decode cX5_kinds 42 = .ok (.iload_n 2, 1) := by decide +kernel
theorem dX5_kinds_43 : decode cX5_kinds 43 = .ok (.iconst 0, 1) := by decide +kernel
theorem dX5_kinds_44 : decode cX5_kinds 44 = .ok (.invokestatic 70, 3) := by decide +kernel
theorem dX5_kinds_47 : decode cX5_kinds 47 = .ok (.iload 6, 2) := by decide +kernel
theorem dX5_kinds_49 : decode cX5_kinds 49 = .ok (.iastore, 1) := by decide +kernel
theorem dX5_kinds_50 : decode cX5_kinds 50 = .ok (.iload 5, 2) := by decide +kernel
theorem dX5_kinds_52 : decode cX5_kinds 52 = .ok (.aload_n 0, 1) := by decide +kernel
theorem dX5_kinds_53 : decode cX5_kinds 53 = .ok (.iload_n 1, 1) := by decide +kernel
theorem dX5_kinds_54 : decode cX5_kinds 54 = .ok (.iload_n 2, 1) := by decide +kernel
theorem dX5_kinds_55 : decode cX5_kinds 55 = .ok (.invokevirtual 183, 3) := by decide +kernel
theorem dX5_kinds_58 : decode cX5_kinds 58 = .ok (.ifCond .eq 10, 3) := by decide +kernel
theorem dX5_kinds_61 : decode cX5_kinds 61 = .ok (.iconst 1, 1) := by decide +kernel
theorem dX5_kinds_62 : decode cX5_kinds 62 = .ok (.iload 6, 2) := by decide +kernel
theorem dX5_kinds_64 : decode cX5_kinds 64 = .ok (.ishl, 1) := by decide +kernel
theorem dX5_kinds_65 : decode cX5_kinds 65 = .ok (.goto 4, 3) := by decide +kernel
theorem dX5_kinds_68 : decode cX5_kinds 68 = .ok (.iconst 0, 1) := by decide +kernel
theorem dX5_kinds_69 : decode cX5_kinds 69 = .ok (.ior, 1) := by decide +kernel
theorem dX5_kinds_70 : decode cX5_kinds 70 = .ok (.istore 5, 2) := by decide +kernel
theorem dX5_kinds_72 : decode cX5_kinds 72 = .ok (.iinc 6 1, 3) := by decide +kernel
theorem dX5_kinds_75 : decode cX5_kinds 75 = .ok (.goto (-44), 3) := by decide +kernel
theorem dX5_kinds_78 : decode cX5_kinds 78 = .ok (.aload_n 0, 1) := by decide +kernel
theorem dX5_kinds_79 : decode cX5_kinds 79 = .ok (.getfield 7, 3) := by decide +kernel
theorem dX5_kinds_82 : decode cX5_kinds 82 = .ok (.iload_n 2, 1) := by decide +kernel
theorem dX5_kinds_83 : decode cX5_kinds 83 = .ok (.iconst 0, 1) := by decide +kernel
theorem dX5_kinds_84 : decode cX5_kinds 84 = .ok (.invokestatic 70, 3) := by decide +kernel
theorem dX5_kinds_87 : decode cX5_kinds 87 = .ok (.iload 4, 2) := by decide +kernel
theorem dX5_kinds_89 : decode cX5_kinds 89 = .ok (.iastore, 1) := by decide +kernel
theorem dX5_kinds_90 : decode cX5_kinds 90 = .ok (.iload 5, 2) := by decide +kernel
theorem dX5_kinds_92 : decode cX5_kinds 92 = .ok (.ireturn, 1) := by decide +kernel
theorem dX5_texts_0 : decode cX5_texts 0 = .ok (.iload_n 1, 1) := by decide +kernel
theorem dX5_texts_1 : decode cX5_texts 1 = .ok (.i2l, 1) := by decide +kernel
theorem dX5_texts_2 : decode cX5_texts 2 = .ok (.lconst 0, 1) := by decide +kernel
theorem dX5_texts_3 : decode cX5_texts 3 = .ok (.ldc2_w 186, 3) := by decide +kernel
theorem dX5_texts_6 : decode cX5_texts 6 = .ok (.invokestatic 49, 3) := by decide +kernel
theorem dX5_texts_9 : decode cX5_texts 9 = .ok (.ifCond .ne 10, 3) := by decide +kernel
theorem dX5_texts_12 : decode cX5_texts 12 = .ok (.aload_n 0, 1) := by decide +kernel
theorem dX5_texts_13 : decode cX5_texts 13 = .ok (.ldc 37, 2) := by decide +kernel
theorem dX5_texts_15 : decode cX5_texts 15 = .ok (.invokevirtual 39, 3) := by decide +kernel
theorem dX5_texts_18 : decode cX5_texts 18 = .ok (.ireturn, 1) := by decide +kernel
theorem dX5_texts_19 : decode cX5_texts 19 = .ok (.iconst 0, 1) := by decide +kernel
theorem dX5_texts_20 : decode cX5_texts 20 = .ok (.istore_n 2, 1) := by decide +kernel
theorem dX5_texts_21 : decode cX5_texts 21 = .ok (.iconst 0, 1) := by decide +kernel
theorem dX5_texts_22 : decode cX5_texts 22 = .ok (.istore_n 3, 1) := by decide +kernel
theorem dX5_texts_23 : decode cX5_texts 23 = .ok (.iload_n 3, 1) := by decide +kernel
theorem dX5_texts_24 : decode cX5_texts 24 = .ok (.sipush 9999, 3) := by decide +kernel
theorem dX5_texts_27 : decode cX5_texts 27 = .ok (.if_icmp .gt 26, 3) := by decide +kernel
theorem dX5_texts_30 : decode cX5_texts 30 = .ok (.iload_n 2, 1) := by decide +kernel
theorem dX5_texts_31 : decode cX5_texts 31 = .ok (.aload_n 0, 1) := by decide +kernel
theorem dX5_texts_32 : decode cX5_texts 32 = .ok (.iload_n 3, 1) := by decide +kernel
theorem dX5_texts_33 : decode cX5_texts 33 = .ok (.invokevirtual 117, 3) := by decide +kernel
theorem dX5_texts_36 : decode cX5_texts 36 = .ok (.iload_n 1, 1) := by decide +kernel
theorem dX5_texts_37 : decode cX5_texts 37 = .ok (.if_icmp .lt 7, 3) := by decide +kernel
theorem dX5_texts_40 : decode cX5_texts 40 = .ok (.iconst 1, 1) := by decide +kernel
theorem dX5_texts_41 : decode cX5_texts 41 = .ok (.goto 4, 3) := by decide +kernel
theorem dX5_texts_44 : decode cX5_texts 44 = .ok (.iconst 0, 1) := by decide +kernel
theorem dX5_texts_45 : decode cX5_texts 45 = .ok (.iadd, 1) := by decide +kernel
theorem dX5_texts_46 : decode cX5_texts 46 = .ok (.istore_n 2, 1) := by decide +kernel
theorem dX5_texts_47 : decode cX5_texts 47 = .ok (.iinc 3 1, 3) := by decide +kernel
theorem dX5_texts_50 : decode cX5_texts 50 = .ok (.goto (-27), 3) := by decide +kernel
theorem dX5_texts_53 : decode cX5_texts 53 = .ok (.iload_n 2, 1) := by decide +kernel
theorem dX5_texts_54 : decode cX5_texts 54 = .ok (.ireturn, 1) := by decide +kernel
theorem dX5_draw_0 : decode cX5_draw 0 = .ok (.aload_n 0, 1) := by decide +kernel
theorem dX5_draw_1 : decode cX5_draw 1 = .ok (.getfield 7, 3) := by decide +kernel
theorem dX5_draw_4 : decode cX5_draw 4 = .ok (.iconst 2, 1) := by decide +kernel
theorem dX5_draw_5 : decode cX5_draw 5 = .ok (.aload_n 0, 1) := by decide +kernel
theorem dX5_draw_6 : decode cX5_draw 6 = .ok (.getfield 7, 3) := by decide +kernel
theorem dX5_draw_9 : decode cX5_draw 9 = .ok (.iconst 2, 1) := by decide +kernel
theorem dX5_draw_10 : decode cX5_draw 10 = .ok (.iaload, 1) := by decide +kernel
theorem dX5_draw_11 : decode cX5_draw 11 = .ok (.ldc 188, 2) := by decide +kernel
theorem dX5_draw_13 : decode cX5_draw 13 = .ok (.imul, 1) := by decide +kernel
theorem dX5_draw_14 : decode cX5_draw 14 = .ok (.sipush 12345, 3) := by decide +kernel
theorem dX5_draw_17 : decode cX5_draw 17 = .ok (.iadd, 1) := by decide +kernel
theorem dX5_draw_18 : decode cX5_draw 18 = .ok (.iastore, 1) := by decide +kernel
theorem dX5_draw_19 : decode cX5_draw 19 = .ok (.aload_n 0, 1) := by decide +kernel
theorem dX5_draw_20 : decode cX5_draw 20 = .ok (.getfield 7, 3) := by decide +kernel
theorem dX5_draw_23 : decode cX5_draw 23 = .ok (.iconst 2, 1) := by decide +kernel
theorem dX5_draw_24 : decode cX5_draw 24 = .ok (.iaload, 1) := by decide +kernel
theorem dX5_draw_25 : decode cX5_draw 25 = .ok (.bipush 8, 2) := by decide +kernel
theorem dX5_draw_27 : decode cX5_draw 27 = .ok (.iushr, 1) := by decide +kernel
theorem dX5_draw_28 : decode cX5_draw 28 = .ok (.ireturn, 1) := by decide +kernel
theorem dX5_catches_0 : decode cX5_catches 0 = .ok (.iload_n 1, 1) := by decide +kernel
theorem dX5_catches_1 : decode cX5_catches 1 = .ok (.i2l, 1) := by decide +kernel
theorem dX5_catches_2 : decode cX5_catches 2 = .ok (.lconst 1, 1) := by decide +kernel
theorem dX5_catches_3 : decode cX5_catches 3 = .ok (.ldc2_w 60, 3) := by decide +kernel
theorem dX5_catches_6 : decode cX5_catches 6 = .ok (.invokestatic 49, 3) := by decide +kernel
theorem dX5_catches_9 : decode cX5_catches 9 = .ok (.ifCond .ne 10, 3) := by decide +kernel
theorem dX5_catches_12 : decode cX5_catches 12 = .ok (.aload_n 0, 1) := by decide +kernel
theorem dX5_catches_13 : decode cX5_catches 13 = .ok (.ldc 37, 2) := by decide +kernel
theorem dX5_catches_15 : decode cX5_catches 15 = .ok (.invokevirtual 39, 3) := by decide +kernel
theorem dX5_catches_18 : decode cX5_catches 18 = .ok (.ireturn, 1) := by decide +kernel
theorem dX5_catches_19 : decode cX5_catches 19 = .ok (.aload_n 0, 1) := by decide +kernel
theorem dX5_catches_20 : decode cX5_catches 20 = .ok (.getfield 7, 3) := by decide +kernel
theorem dX5_catches_23 : decode cX5_catches 23 = .ok (.iconst 1, 1) := by decide +kernel
theorem dX5_catches_24 : decode cX5_catches 24 = .ok (.iaload, 1) := by decide +kernel
theorem dX5_catches_25 : decode cX5_catches 25 = .ok (.iload_n 1, 1) := by decide +kernel
theorem dX5_catches_26 : decode cX5_catches 26 = .ok (.iadd, 1) := by decide +kernel
theorem dX5_catches_27 : decode cX5_catches 27 = .ok (.ldc 132, 2) := by decide +kernel
theorem dX5_catches_29 : decode cX5_catches 29 = .ok (.if_icmp .le 10, 3) := by decide +kernel
theorem dX5_catches_32 : decode cX5_catches 32 = .ok (.aload_n 0, 1) := by decide +kernel
theorem dX5_catches_33 : decode cX5_catches 33 = .ok (.ldc 133, 2) := by decide +kernel
theorem dX5_catches_35 : decode cX5_catches 35 = .ok (.invokevirtual 39, 3) := by decide +kernel
theorem dX5_catches_38 : decode cX5_catches 38 = .ok (.ireturn, 1) := by decide +kernel
theorem dX5_catches_39 : decode cX5_catches 39 = .ok (.iconst 0, 1) := by decide +kernel
theorem dX5_catches_40 : decode cX5_catches 40 = .ok (.istore_n 2, 1) := by decide +kernel
theorem dX5_catches_41 : decode cX5_catches 41 = .ok (.iload_n 2, 1) := by decide +kernel
theorem dX5_catches_42 : decode cX5_catches 42 = .ok (.iload_n 1, 1) := by decide +kernel
theorem dX5_catches_43 : decode cX5_catches 43 = .ok (.if_icmp .ge 38, 3) := by decide +kernel
theorem dX5_catches_46 : decode cX5_catches 46 = .ok (.aload_n 0, 1) := by decide +kernel
theorem dX5_catches_47 : decode cX5_catches 47 = .ok (.invokevirtual 189, 3) := by decide +kernel
theorem dX5_catches_50 : decode cX5_catches 50 = .ok (.bipush 6, 2) := by decide +kernel
theorem dX5_catches_52 : decode cX5_catches 52 = .ok (.irem, 1) := by decide +kernel
theorem dX5_catches_53 : decode cX5_catches 53 = .ok (.istore_n 3, 1) := by decide +kernel
theorem dX5_catches_54 : decode cX5_catches 54 = .ok (.aload_n 0, 1) := by decide +kernel
theorem dX5_catches_55 : decode cX5_catches 55 = .ok (.getfield 7, 3) := by decide +kernel
theorem dX5_catches_58 : decode cX5_catches 58 = .ok (.bipush 19, 2) := by decide +kernel
theorem dX5_catches_60 : decode cX5_catches 60 = .ok (.iload_n 3, 1) := by decide +kernel
theorem dX5_catches_61 : decode cX5_catches 61 = .ok (.iadd, 1) := by decide +kernel
theorem dX5_catches_62 : decode cX5_catches 62 = .ok (.aload_n 0, 1) := by decide +kernel
theorem dX5_catches_63 : decode cX5_catches 63 = .ok (.invokevirtual 189, 3) := by decide +kernel
theorem dX5_catches_66 : decode cX5_catches 66 = .ok (.bipush 21, 2) := by decide +kernel
theorem dX5_catches_68 : decode cX5_catches 68 = .ok (.irem, 1) := by decide +kernel
theorem dX5_catches_69 : decode cX5_catches 69 = .ok (.iastore, 1) := by decide +kernel
theorem dX5_catches_70 : decode cX5_catches 70 = .ok (.aload_n 0, 1) := by decide +kernel
theorem dX5_catches_71 : decode cX5_catches 71 = .ok (.iconst 0, 1) := by decide +kernel
theorem dX5_catches_72 : decode cX5_catches 72 = .ok (.invokevirtual 127, 3) := by decide +kernel
theorem dX5_catches_75 : decode cX5_catches 75 = .ok (.iinc 2 1, 3) := by decide +kernel
theorem dX5_catches_78 : decode cX5_catches 78 = .ok (.goto (-37), 3) := by decide +kernel
theorem dX5_catches_81 : decode cX5_catches 81 = .ok (.aload_n 0, 1) := by decide +kernel
theorem dX5_catches_82 : decode cX5_catches 82 = .ok (.iconst 4, 1) := by decide +kernel
theorem dX5_catches_83 : decode cX5_catches 83 = .ok (.invokevirtual 137, 3) := by decide +kernel
theorem dX5_catches_86 : decode cX5_catches 86 = .ok (.ireturn, 1) := by decide +kernel
theorem dX5_odds_0 : decode cX5_odds 0 = .ok (.iload_n 1, 1) := by decide +kernel
theorem dX5_odds_1 : decode cX5_odds 1 = .ok (.i2l, 1) := by decide +kernel
theorem dX5_odds_2 : decode cX5_odds 2 = .ok (.lconst 0, 1) := by decide +kernel
theorem dX5_odds_3 : decode cX5_odds 3 = .ok (.ldc2_w 75, 3) := by decide +kernel
theorem dX5_odds_6 : decode cX5_odds 6 = .ok (.invokestatic 49, 3) := by decide +kernel
theorem dX5_odds_9 : decode cX5_odds 9 = .ok (.ifCond .eq 13, 3) := by decide +kernel
theorem dX5_odds_12 : decode cX5_odds 12 = .ok (.iload_n 2, 1) := by decide +kernel
theorem dX5_odds_13 : decode cX5_odds 13 = .ok (.i2l, 1) := by decide +kernel
theorem dX5_odds_14 : decode cX5_odds 14 = .ok (.lconst 0, 1) := by decide +kernel
theorem dX5_odds_15 : decode cX5_odds 15 = .ok (.lconst 1, 1) := by decide +kernel
theorem dX5_odds_16 : decode cX5_odds 16 = .ok (.invokestatic 49, 3) := by decide +kernel
theorem dX5_odds_19 : decode cX5_odds 19 = .ok (.ifCond .ne 11, 3) := by decide +kernel
theorem dX5_odds_22 : decode cX5_odds 22 = .ok (.aload_n 0, 1) := by decide +kernel
theorem dX5_odds_23 : decode cX5_odds 23 = .ok (.ldc 37, 2) := by decide +kernel
theorem dX5_odds_25 : decode cX5_odds 25 = .ok (.invokevirtual 39, 3) := by decide +kernel
theorem dX5_odds_28 : decode cX5_odds 28 = .ok (.i2l, 1) := by decide +kernel
theorem dX5_odds_29 : decode cX5_odds 29 = .ok (.lreturn, 1) := by decide +kernel
theorem dX5_odds_30 : decode cX5_odds 30 = .ok (.aload_n 0, 1) := by decide +kernel
theorem dX5_odds_31 : decode cX5_odds 31 = .ok (.invokevirtual 140, 3) := by decide +kernel
theorem dX5_odds_34 : decode cX5_odds 34 = .ok (.ifCond .ne 11, 3) := by decide +kernel
theorem dX5_odds_37 : decode cX5_odds 37 = .ok (.aload_n 0, 1) := by decide +kernel
theorem dX5_odds_38 : decode cX5_odds 38 = .ok (.ldc 133, 2) := by decide +kernel
theorem dX5_odds_40 : decode cX5_odds 40 = .ok (.invokevirtual 39, 3) := by decide +kernel
theorem dX5_odds_43 : decode cX5_odds 43 = .ok (.i2l, 1) := by decide +kernel
theorem dX5_odds_44 : decode cX5_odds 44 = .ok (.lreturn, 1) := by decide +kernel
theorem dX5_odds_45 : decode cX5_odds 45 = .ok (.lconst 1, 1) := by decide +kernel
theorem dX5_odds_46 : decode cX5_odds 46 = .ok (.lstore_n 3, 1) := by decide +kernel
theorem dX5_odds_47 : decode cX5_odds 47 = .ok (.lconst 1, 1) := by decide +kernel
theorem dX5_odds_48 : decode cX5_odds 48 = .ok (.lstore 5, 2) := by decide +kernel
theorem dX5_odds_50 : decode cX5_odds 50 = .ok (.iconst 0, 1) := by decide +kernel
theorem dX5_odds_51 : decode cX5_odds 51 = .ok (.istore 7, 2) := by decide +kernel
theorem dX5_odds_53 : decode cX5_odds 53 = .ok (.iload 7, 2) := by decide +kernel
theorem dX5_odds_55 : decode cX5_odds 55 = .ok (.iconst 4, 1) := by decide +kernel
theorem dX5_odds_56 : decode cX5_odds 56 = .ok (.if_icmp .ge 36, 3) := by decide +kernel
theorem dX5_odds_59 : decode cX5_odds 59 = .ok (.lload_n 3, 1) := by decide +kernel
theorem dX5_odds_60 : decode cX5_odds 60 = .ok (.aload_n 0, 1) := by decide +kernel
theorem dX5_odds_61 : decode cX5_odds 61 = .ok (.getfield 7, 3) := by decide +kernel
theorem dX5_odds_64 : decode cX5_odds 64 = .ok (.iconst 3, 1) := by decide +kernel
theorem dX5_odds_65 : decode cX5_odds 65 = .ok (.iload_n 1, 1) := by decide +kernel
theorem dX5_odds_66 : decode cX5_odds 66 = .ok (.iload 7, 2) := by decide +kernel
theorem dX5_odds_68 : decode cX5_odds 68 = .ok (.invokestatic 88, 3) := by decide +kernel
theorem dX5_odds_71 : decode cX5_odds 71 = .ok (.iadd, 1) := by decide +kernel
theorem dX5_odds_72 : decode cX5_odds 72 = .ok (.iaload, 1) := by decide +kernel
theorem dX5_odds_73 : decode cX5_odds 73 = .ok (.i2l, 1) := by decide +kernel
theorem dX5_odds_74 : decode cX5_odds 74 = .ok (.lmul, 1) := by decide +kernel
theorem dX5_odds_75 : decode cX5_odds 75 = .ok (.lstore_n 3, 1) := by decide +kernel
theorem dX5_odds_76 : decode cX5_odds 76 = .ok (.lload 5, 2) := by decide +kernel
theorem dX5_odds_78 : decode cX5_odds 78 = .ok (.aload_n 0, 1) := by decide +kernel
theorem dX5_odds_79 : decode cX5_odds 79 = .ok (.invokevirtual 140, 3) := by decide +kernel
theorem dX5_odds_82 : decode cX5_odds 82 = .ok (.i2l, 1) := by decide +kernel
theorem dX5_odds_83 : decode cX5_odds 83 = .ok (.lmul, 1) := by decide +kernel
theorem dX5_odds_84 : decode cX5_odds 84 = .ok (.lstore 5, 2) := by decide +kernel
theorem dX5_odds_86 : decode cX5_odds 86 = .ok (.iinc 7 1, 3) := by decide +kernel
theorem dX5_odds_89 : decode cX5_odds 89 = .ok (.goto (-36), 3) := by decide +kernel
theorem dX5_odds_92 : decode cX5_odds 92 = .ok (.lload 5, 2) := by decide +kernel
theorem dX5_odds_94 : decode cX5_odds 94 = .ok (.lstore 7, 2) := by decide +kernel
theorem dX5_odds_96 : decode cX5_odds 96 = .ok (.lload_n 3, 1) := by decide +kernel
theorem dX5_odds_97 : decode cX5_odds 97 = .ok (.lstore 9, 2) := by decide +kernel
theorem dX5_odds_99 : decode cX5_odds 99 = .ok (.lload 9, 2) := by decide +kernel
theorem dX5_odds_101 : decode cX5_odds 101 = .ok (.lconst 0, 1) := by decide +kernel
theorem dX5_odds_102 : decode cX5_odds 102 = .ok (.lcmp, 1) := by decide +kernel
theorem dX5_odds_103 : decode cX5_odds 103 = .ok (.ifCond .eq 21, 3) := by decide +kernel
theorem dX5_odds_106 : decode cX5_odds 106 = .ok (.lload 7, 2) := by decide +kernel
theorem dX5_odds_108 : decode cX5_odds 108 = .ok (.lload 9, 2) := by decide +kernel
theorem dX5_odds_110 : decode cX5_odds 110 = .ok (.lrem, 1) := by decide +kernel
theorem dX5_odds_111 : decode cX5_odds 111 = .ok (.lstore 11, 2) := by decide +kernel
theorem dX5_odds_113 : decode cX5_odds 113 = .ok (.lload 9, 2) := by decide +kernel
theorem dX5_odds_115 : decode cX5_odds 115 = .ok (.lstore 7, 2) := by decide +kernel
theorem dX5_odds_117 : decode cX5_odds 117 = .ok (.lload 11, 2) := by decide +kernel
theorem dX5_odds_119 : decode cX5_odds 119 = .ok (.lstore 9, 2) := by decide +kernel
theorem dX5_odds_121 : decode cX5_odds 121 = .ok (.goto (-22), 3) := by decide +kernel
theorem dX5_odds_124 : decode cX5_odds 124 = .ok (.iload_n 2, 1) := by decide +kernel
theorem dX5_odds_125 : decode cX5_odds 125 = .ok (.ifCond .ne 10, 3) := by decide +kernel
theorem dX5_odds_128 : decode cX5_odds 128 = .ok (.lload_n 3, 1) := by decide +kernel
theorem dX5_odds_129 : decode cX5_odds 129 = .ok (.lload 7, 2) := by decide +kernel
theorem dX5_odds_131 : decode cX5_odds 131 = .ok (.ldiv, 1) := by decide +kernel
theorem dX5_odds_132 : decode cX5_odds 132 = .ok (.goto 8, 3) := by decide +kernel
theorem dX5_odds_135 : decode cX5_odds 135 = .ok (.lload 5, 2) := by decide +kernel
theorem dX5_odds_137 : decode cX5_odds 137 = .ok (.lload 7, 2) := by decide +kernel
theorem dX5_odds_139 : decode cX5_odds 139 = .ok (.ldiv, 1) := by decide +kernel
theorem dX5_odds_140 : decode cX5_odds 140 = .ok (.lreturn, 1) := by decide +kernel
theorem dX5_seed_0 : decode cX5_seed 0 = .ok (.aload_n 0, 1) := by decide +kernel
theorem dX5_seed_1 : decode cX5_seed 1 = .ok (.iconst 2, 1) := by decide +kernel
theorem dX5_seed_2 : decode cX5_seed 2 = .ok (.iload_n 1, 1) := by decide +kernel
theorem dX5_seed_3 : decode cX5_seed 3 = .ok (.invokevirtual 53, 3) := by decide +kernel
theorem dX5_seed_6 : decode cX5_seed 6 = .ok (.ireturn, 1) := by decide +kernel
theorem dX5_feed_0 : decode cX5_feed 0 = .ok (.iload_n 2, 1) := by decide +kernel
theorem dX5_feed_1 : decode cX5_feed 1 = .ok (.i2l, 1) := by decide +kernel
theorem dX5_feed_2 : decode cX5_feed 2 = .ok (.lconst 1, 1) := by decide +kernel
theorem dX5_feed_3 : decode cX5_feed 3 = .ok (.ldc2_w 105, 3) := by decide +kernel
theorem dX5_feed_6 : decode cX5_feed 6 = .ok (.invokestatic 49, 3) := by decide +kernel
theorem dX5_feed_9 : decode cX5_feed 9 = .ok (.ifCond .ne 10, 3) := by decide +kernel
theorem dX5_feed_12 : decode cX5_feed 12 = .ok (.aload_n 0, 1) := by decide +kernel
theorem dX5_feed_13 : decode cX5_feed 13 = .ok (.ldc 37, 2) := by decide +kernel
theorem dX5_feed_15 : decode cX5_feed 15 = .ok (.invokevirtual 39, 3) := by decide +kernel
theorem dX5_feed_18 : decode cX5_feed 18 = .ok (.ireturn, 1) := by decide +kernel
theorem dX5_feed_19 : decode cX5_feed 19 = .ok (.aload_n 0, 1) := by decide +kernel
theorem dX5_feed_20 : decode cX5_feed 20 = .ok (.getfield 192, 3) := by decide +kernel
theorem dX5_feed_23 : decode cX5_feed 23 = .ok (.iload_n 2, 1) := by decide +kernel
theorem dX5_feed_24 : decode cX5_feed 24 = .ok (.iadd, 1) := by decide +kernel
theorem dX5_feed_25 : decode cX5_feed 25 = .ok (.bipush 120, 2) := by decide +kernel
theorem dX5_feed_27 : decode cX5_feed 27 = .ok (.if_icmp .le 10, 3) := by decide +kernel
theorem dX5_feed_30 : decode cX5_feed 30 = .ok (.aload_n 0, 1) := by decide +kernel
theorem dX5_feed_31 : decode cX5_feed 31 = .ok (.ldc 77, 2) := by decide +kernel
theorem dX5_feed_33 : decode cX5_feed 33 = .ok (.invokevirtual 39, 3) := by decide +kernel
theorem dX5_feed_36 : decode cX5_feed 36 = .ok (.ireturn, 1) := by decide +kernel
theorem dX5_feed_37 : decode cX5_feed 37 = .ok (.iload_n 2, 1) := by decide +kernel
theorem dX5_feed_38 : decode cX5_feed 38 = .ok (.iconst 1, 1) := by decide +kernel
theorem dX5_feed_39 : decode cX5_feed 39 = .ok (.isub, 1) := by decide +kernel
theorem dX5_feed_40 : decode cX5_feed 40 = .ok (.istore_n 3, 1) := by decide +kernel
theorem dX5_feed_41 : decode cX5_feed 41 = .ok (.iload_n 3, 1) := by decide +kernel
theorem dX5_feed_42 : decode cX5_feed 42 = .ok (.ifCond .lt 38, 3) := by decide +kernel
theorem dX5_feed_45 : decode cX5_feed 45 = .ok (.aload_n 0, 1) := by decide +kernel
theorem dX5_feed_46 : decode cX5_feed 46 = .ok (.getfield 25, 3) := by decide +kernel
theorem dX5_feed_49 : decode cX5_feed 49 = .ok (.aload_n 0, 1) := by decide +kernel
theorem dX5_feed_50 : decode cX5_feed 50 = .ok (.getfield 192, 3) := by decide +kernel
theorem dX5_feed_53 : decode cX5_feed 53 = .ok (.iload_n 1, 1) := by decide +kernel
theorem dX5_feed_54 : decode cX5_feed 54 = .ok (.bipush 8, 2) := by decide +kernel
theorem dX5_feed_56 : decode cX5_feed 56 = .ok (.iload_n 3, 1) := by decide +kernel
theorem dX5_feed_57 : decode cX5_feed 57 = .ok (.imul, 1) := by decide +kernel
theorem dX5_feed_58 : decode cX5_feed 58 = .ok (.ishr, 1) := by decide +kernel
theorem dX5_feed_59 : decode cX5_feed 59 = .ok (.sipush 255, 3) := by decide +kernel
theorem dX5_feed_62 : decode cX5_feed 62 = .ok (.iand, 1) := by decide +kernel
theorem dX5_feed_63 : decode cX5_feed 63 = .ok (.iastore, 1) := by decide +kernel
theorem dX5_feed_64 : decode cX5_feed 64 = .ok (.aload_n 0, 1) := by decide +kernel
theorem dX5_feed_65 : decode cX5_feed 65 = .ok (.dup, 1) := by decide +kernel
theorem dX5_feed_66 : decode cX5_feed 66 = .ok (.getfield 192, 3) := by decide +kernel
theorem dX5_feed_69 : decode cX5_feed 69 = .ok (.iconst 1, 1) := by decide +kernel
theorem dX5_feed_70 : decode cX5_feed 70 = .ok (.iadd, 1) := by decide +kernel
theorem dX5_feed_71 : decode cX5_feed 71 = .ok (.putfield 192, 3) := by decide +kernel
theorem dX5_feed_74 : decode cX5_feed 74 = .ok (.iinc 3 (-1), 3) := by decide +kernel
theorem dX5_feed_77 : decode cX5_feed 77 = .ok (.goto (-36), 3) := by decide +kernel
theorem dX5_feed_80 : decode cX5_feed 80 = .ok (.aload_n 0, 1) := by decide +kernel
theorem dX5_feed_81 : decode cX5_feed 81 = .ok (.getfield 192, 3) := by decide +kernel
theorem dX5_feed_84 : decode cX5_feed 84 = .ok (.ireturn, 1) := by decide +kernel
theorem dX5_wipe_0 : decode cX5_wipe 0 = .ok (.aload_n 0, 1) := by decide +kernel
theorem dX5_wipe_1 : decode cX5_wipe 1 = .ok (.getfield 192, 3) := by decide +kernel
theorem dX5_wipe_4 : decode cX5_wipe 4 = .ok (.istore_n 1, 1) := by decide +kernel
theorem dX5_wipe_5 : decode cX5_wipe 5 = .ok (.aload_n 0, 1) := by decide +kernel
theorem dX5_wipe_6 : decode cX5_wipe 6 = .ok (.iconst 0, 1) := by decide +kernel
theorem dX5_wipe_7 : decode cX5_wipe 7 = .ok (.putfield 192, 3) := by decide +kernel
theorem dX5_wipe_10 : decode cX5_wipe 10 = .ok (.iload_n 1, 1) := by decide +kernel
theorem dX5_wipe_11 : decode cX5_wipe 11 = .ok (.ireturn, 1) := by decide +kernel
theorem dX5_isLetter_0 : decode cX5_isLetter 0 = .ok (.iload_n 0, 1) := by decide +kernel
theorem dX5_isLetter_1 : decode cX5_isLetter 1 = .ok (.bipush 97, 2) := by decide +kernel
theorem dX5_isLetter_3 : decode cX5_isLetter 3 = .ok (.if_icmp .lt 13, 3) := by decide +kernel
theorem dX5_isLetter_6 : decode cX5_isLetter 6 = .ok (.iload_n 0, 1) := by decide +kernel
theorem dX5_isLetter_7 : decode cX5_isLetter 7 = .ok (.bipush 122, 2) := by decide +kernel
theorem dX5_isLetter_9 : decode cX5_isLetter 9 = .ok (.if_icmp .gt 7, 3) := by decide +kernel
theorem dX5_isLetter_12 : decode cX5_isLetter 12 = .ok (.iconst 1, 1) := by decide +kernel
theorem dX5_isLetter_13 : decode cX5_isLetter 13 = .ok (.goto 4, 3) := by decide +kernel
theorem dX5_isLetter_16 : decode cX5_isLetter 16 = .ok (.iconst 0, 1) := by decide +kernel
theorem dX5_isLetter_17 : decode cX5_isLetter 17 = .ok (.ireturn, 1) := by decide +kernel
theorem dX5_isDigit_0 : decode cX5_isDigit 0 = .ok (.iload_n 0, 1) := by decide +kernel
theorem dX5_isDigit_1 : decode cX5_isDigit 1 = .ok (.bipush 48, 2) := by decide +kernel
theorem dX5_isDigit_3 : decode cX5_isDigit 3 = .ok (.if_icmp .lt 13, 3) := by decide +kernel
theorem dX5_isDigit_6 : decode cX5_isDigit 6 = .ok (.iload_n 0, 1) := by decide +kernel
theorem dX5_isDigit_7 : decode cX5_isDigit 7 = .ok (.bipush 57, 2) := by decide +kernel
theorem dX5_isDigit_9 : decode cX5_isDigit 9 = .ok (.if_icmp .gt 7, 3) := by decide +kernel
theorem dX5_isDigit_12 : decode cX5_isDigit 12 = .ok (.iconst 1, 1) := by decide +kernel
theorem dX5_isDigit_13 : decode cX5_isDigit 13 = .ok (.goto 4, 3) := by decide +kernel
theorem dX5_isDigit_16 : decode cX5_isDigit 16 = .ok (.iconst 0, 1) := by decide +kernel
theorem dX5_isDigit_17 : decode cX5_isDigit 17 = .ok (.ireturn, 1) := by decide +kernel
theorem dX5_byteAt_0 : decode cX5_byteAt 0 = .ok (.iload_n 1, 1) := by decide +kernel
theorem dX5_byteAt_1 : decode cX5_byteAt 1 = .ok (.aload_n 0, 1) := by decide +kernel
theorem dX5_byteAt_2 : decode cX5_byteAt 2 = .ok (.getfield 192, 3) := by decide +kernel
theorem dX5_byteAt_5 : decode cX5_byteAt 5 = .ok (.if_icmp .ge 12, 3) := by decide +kernel
theorem dX5_byteAt_8 : decode cX5_byteAt 8 = .ok (.aload_n 0, 1) := by decide +kernel
theorem dX5_byteAt_9 : decode cX5_byteAt 9 = .ok (.getfield 25, 3) := by decide +kernel
theorem dX5_byteAt_12 : decode cX5_byteAt 12 = .ok (.iload_n 1, 1) := by decide +kernel
theorem dX5_byteAt_13 : decode cX5_byteAt 13 = .ok (.iaload, 1) := by decide +kernel
theorem dX5_byteAt_14 : decode cX5_byteAt 14 = .ok (.goto 4, 3) := by decide +kernel
theorem dX5_byteAt_17 : decode cX5_byteAt 17 = .ok (.iconst (-1), 1) := by decide +kernel
theorem dX5_byteAt_18 : decode cX5_byteAt 18 = .ok (.ireturn, 1) := by decide +kernel
theorem dX5_nextToken_0 : decode cX5_nextToken 0 = .ok (.aload_n 0, 1) := by decide +kernel
theorem dX5_nextToken_1 : decode cX5_nextToken 1 = .ok (.aload_n 0, 1) := by decide +kernel
theorem dX5_nextToken_2 : decode cX5_nextToken 2 = .ok (.getfield 196, 3) := by decide +kernel
theorem dX5_nextToken_5 : decode cX5_nextToken 5 = .ok (.putfield 199, 3) := by decide +kernel
theorem dX5_nextToken_8 : decode cX5_nextToken 8 = .ok (.aload_n 0, 1) := by decide +kernel
theorem dX5_nextToken_9 : decode cX5_nextToken 9 = .ok (.aload_n 0, 1) := by decide +kernel
theorem dX5_nextToken_10 : decode cX5_nextToken 10 = .ok (.getfield 199, 3) := by decide +kernel
theorem dX5_nextToken_13 : decode cX5_nextToken 13 = .ok (.invokevirtual 202, 3) := by decide +kernel
theorem dX5_nextToken_16 : decode cX5_nextToken 16 = .ok (.bipush 32, 2) := by decide +kernel
theorem dX5_nextToken_18 : decode cX5_nextToken 18 = .ok (.if_icmp .ne 16, 3) := by decide +kernel
theorem dX5_nextToken_21 : decode cX5_nextToken 21 = .ok (.aload_n 0, 1) := by decide +kernel
theorem dX5_nextToken_22 : decode cX5_nextToken 22 = .ok (.dup, 1) := by decide +kernel
theorem dX5_nextToken_23 : decode cX5_nextToken 23 = .ok (.getfield 199, 3) := by decide +kernel
theorem dX5_nextToken_26 : decode cX5_nextToken 26 = .ok (.iconst 1, 1) := by decide +kernel
theorem dX5_nextToken_27 : decode cX5_nextToken 27 = .ok (.iadd, 1) := by decide +kernel
theorem dX5_nextToken_28 : decode cX5_nextToken 28 = .ok (.putfield 199, 3) := by decide +kernel
theorem dX5_nextToken_31 : decode cX5_nextToken 31 = .ok (.goto (-23), 3) := by decide +kernel
theorem dX5_nextToken_34 : decode cX5_nextToken 34 = .ok (.aload_n 0, 1) := by decide +kernel
theorem dX5_nextToken_35 : decode cX5_nextToken 35 = .ok (.aload_n 0, 1) := by decide +kernel
theorem dX5_nextToken_36 : decode cX5_nextToken 36 = .ok (.getfield 199, 3) := by decide +kernel
theorem dX5_nextToken_39 : decode cX5_nextToken 39 = .ok (.putfield 196, 3) := by decide +kernel
theorem dX5_nextToken_42 : decode cX5_nextToken 42 = .ok (.aload_n 0, 1) := by decide +kernel
theorem dX5_nextToken_43 : decode cX5_nextToken 43 = .ok (.aload_n 0, 1) := by decide +kernel
theorem dX5_nextToken_44 : decode cX5_nextToken 44 = .ok (.getfield 199, 3) := by decide +kernel
theorem dX5_nextToken_47 : decode cX5_nextToken 47 = .ok (.invokevirtual 202, 3) := by decide +kernel
theorem dX5_nextToken_50 : decode cX5_nextToken 50 = .ok (.istore_n 1, 1) := by decide +kernel
theorem dX5_nextToken_51 : decode cX5_nextToken 51 = .ok (.aload_n 0, 1) := by decide +kernel
theorem dX5_nextToken_52 : decode cX5_nextToken 52 = .ok (.iload_n 1, 1) := by decide +kernel
theorem dX5_nextToken_53 : decode cX5_nextToken 53 = .ok (.ifCond .ge 7, 3) := by decide +kernel
theorem dX5_nextToken_56 : decode cX5_nextToken 56 = .ok (.iconst 0, 1) := by decide +kernel
theorem dX5_nextToken_57 : decode cX5_nextToken 57 = .ok (.goto 36, 3) := by decide +kernel
theorem dX5_nextToken_60 : decode cX5_nextToken 60 = .ok (.iload_n 1, 1) := by decide +kernel
theorem dX5_nextToken_61 : decode cX5_nextToken 61 = .ok (.invokestatic 205, 3) := by decide +kernel
theorem dX5_nextToken_64 : decode cX5_nextToken 64 = .ok (.ifCond .eq 7, 3) := by decide +kernel
theorem dX5_nextToken_67 : decode cX5_nextToken 67 = .ok (.iconst 1, 1) := by decide +kernel
theorem dX5_nextToken_68 : decode cX5_nextToken 68 = .ok (.goto 25, 3) := by decide +kernel
theorem dX5_nextToken_71 : decode cX5_nextToken 71 = .ok (.iload_n 1, 1) := by decide +kernel
theorem dX5_nextToken_72 : decode cX5_nextToken 72 = .ok (.invokestatic 208, 3) := by decide +kernel
theorem dX5_nextToken_75 : decode cX5_nextToken 75 = .ok (.ifCond .eq 7, 3) := by decide +kernel
theorem dX5_nextToken_78 : decode cX5_nextToken 78 = .ok (.iconst 2, 1) := by decide +kernel
theorem dX5_nextToken_79 : decode cX5_nextToken 79 = .ok (.goto 14, 3) := by decide +kernel
theorem dX5_nextToken_82 : decode cX5_nextToken 82 = .ok (.iload_n 1, 1) := by decide +kernel
theorem dX5_nextToken_83 : decode cX5_nextToken 83 = .ok (.bipush 59, 2) := by decide +kernel
theorem dX5_nextToken_85 : decode cX5_nextToken 85 = .ok (.if_icmp .ne 7, 3) := by decide +kernel
theorem dX5_nextToken_88 : decode cX5_nextToken 88 = .ok (.iconst 3, 1) := by decide +kernel
theorem dX5_nextToken_89 : decode cX5_nextToken 89 = .ok (.goto 4, 3) := by decide +kernel
theorem dX5_nextToken_92 : decode cX5_nextToken 92 = .ok (.iconst 4, 1) := by decide +kernel
theorem dX5_nextToken_93 : decode cX5_nextToken 93 = .ok (.putfield 211, 3) := by decide +kernel
theorem dX5_nextToken_96 : decode cX5_nextToken 96 = .ok (.aload_n 0, 1) := by decide +kernel
theorem dX5_nextToken_97 : decode cX5_nextToken 97 = .ok (.iconst 0, 1) := by decide +kernel
theorem dX5_nextToken_98 : decode cX5_nextToken 98 = .ok (.putfield 214, 3) := by decide +kernel
theorem dX5_nextToken_101 : decode cX5_nextToken 101 = .ok (.aload_n 0, 1) := by decide +kernel
theorem dX5_nextToken_102 : decode cX5_nextToken 102 = .ok (.getfield 211, 3) := by decide +kernel
theorem dX5_nextToken_105 : decode cX5_nextToken 105 = .ok (.iconst 1, 1) := by decide +kernel
theorem dX5_nextToken_106 : decode cX5_nextToken 106 = .ok (.if_icmp .ne 30, 3) := by decide +kernel
theorem dX5_nextToken_109 : decode cX5_nextToken 109 = .ok (.aload_n 0, 1) := by decide +kernel
theorem dX5_nextToken_110 : decode cX5_nextToken 110 = .ok (.aload_n 0, 1) := by decide +kernel
theorem dX5_nextToken_111 : decode cX5_nextToken 111 = .ok (.getfield 196, 3) := by decide +kernel
theorem dX5_nextToken_114 : decode cX5_nextToken 114 = .ok (.invokevirtual 202, 3) := by decide +kernel
theorem dX5_nextToken_117 : decode cX5_nextToken 117 = .ok (.invokestatic 205, 3) := by decide +kernel
theorem dX5_nextToken_120 : decode cX5_nextToken 120 = .ok (.ifCond .eq 16, 3) := by decide +kernel
theorem dX5_nextToken_123 : decode cX5_nextToken 123 = .ok (.aload_n 0, 1) := by decide +kernel
theorem dX5_nextToken_124 : decode cX5_nextToken 124 = .ok (.dup, 1) := by decide +kernel
theorem dX5_nextToken_125 : decode cX5_nextToken 125 = .ok (.getfield 196, 3) := by decide +kernel
theorem dX5_nextToken_128 : decode cX5_nextToken 128 = .ok (.iconst 1, 1) := by decide +kernel
theorem dX5_nextToken_129 : decode cX5_nextToken 129 = .ok (.iadd, 1) := by decide +kernel
theorem dX5_nextToken_130 : decode cX5_nextToken 130 = .ok (.putfield 196, 3) := by decide +kernel
theorem dX5_nextToken_133 : decode cX5_nextToken 133 = .ok (.goto (-32), 3) := by decide +kernel
theorem dX5_nextToken_136 : decode cX5_nextToken 136 = .ok (.aload_n 0, 1) := by decide +kernel
theorem dX5_nextToken_137 : decode cX5_nextToken 137 = .ok (.getfield 211, 3) := by decide +kernel
theorem dX5_nextToken_140 : decode cX5_nextToken 140 = .ok (.iconst 2, 1) := by decide +kernel
theorem dX5_nextToken_141 : decode cX5_nextToken 141 = .ok (.if_icmp .ne 70, 3) := by decide +kernel
theorem dX5_nextToken_144 : decode cX5_nextToken 144 = .ok (.aload_n 0, 1) := by decide +kernel
theorem dX5_nextToken_145 : decode cX5_nextToken 145 = .ok (.aload_n 0, 1) := by decide +kernel
theorem dX5_nextToken_146 : decode cX5_nextToken 146 = .ok (.getfield 196, 3) := by decide +kernel
theorem dX5_nextToken_149 : decode cX5_nextToken 149 = .ok (.invokevirtual 202, 3) := by decide +kernel
theorem dX5_nextToken_152 : decode cX5_nextToken 152 = .ok (.invokestatic 208, 3) := by decide +kernel
theorem dX5_nextToken_155 : decode cX5_nextToken 155 = .ok (.ifCond .eq 56, 3) := by decide +kernel
theorem dX5_nextToken_158 : decode cX5_nextToken 158 = .ok (.aload_n 0, 1) := by decide +kernel
theorem dX5_nextToken_159 : decode cX5_nextToken 159 = .ok (.aload_n 0, 1) := by decide +kernel
theorem dX5_nextToken_160 : decode cX5_nextToken 160 = .ok (.getfield 214, 3) := by decide +kernel
theorem dX5_nextToken_163 : decode cX5_nextToken 163 = .ok (.sipush 9999, 3) := by decide +kernel
theorem dX5_nextToken_166 : decode cX5_nextToken 166 = .ok (.if_icmp .le 10, 3) := by decide +kernel
theorem dX5_nextToken_169 : decode cX5_nextToken 169 = .ok (.aload_n 0, 1) := by decide +kernel
theorem dX5_nextToken_170 : decode cX5_nextToken 170 = .ok (.getfield 214, 3) := by decide +kernel
theorem dX5_nextToken_173 : decode cX5_nextToken 173 = .ok (.goto 22, 3) := by decide +kernel
theorem dX5_nextToken_176 : decode cX5_nextToken 176 = .ok (.bipush 10, 2) := by decide +kernel
theorem dX5_nextToken_178 : decode cX5_nextToken 178 = .ok (.aload_n 0, 1) := by decide +kernel
theorem dX5_nextToken_179 : decode cX5_nextToken 179 = .ok (.getfield 214, 3) := by decide +kernel
theorem dX5_nextToken_182 : decode cX5_nextToken 182 = .ok (.imul, 1) := by decide +kernel
theorem dX5_nextToken_183 : decode cX5_nextToken 183 = .ok (.aload_n 0, 1) := by decide +kernel
theorem dX5_nextToken_184 : decode cX5_nextToken 184 = .ok (.aload_n 0, 1) := by decide +kernel
theorem dX5_nextToken_185 : decode cX5_nextToken 185 = .ok (.getfield 196, 3) := by decide +kernel
theorem dX5_nextToken_188 : decode cX5_nextToken 188 = .ok (.invokevirtual 202, 3) := by decide +kernel
theorem dX5_nextToken_191 : decode cX5_nextToken 191 = .ok (.iadd, 1) := by decide +kernel
theorem dX5_nextToken_192 : decode cX5_nextToken 192 = .ok (.bipush 48, 2) := by decide +kernel
theorem dX5_nextToken_194 : decode cX5_nextToken 194 = .ok (.isub, 1) := by decide +kernel
theorem dX5_nextToken_195 : decode cX5_nextToken 195 = .ok (.putfield 214, 3) := by decide +kernel
theorem dX5_nextToken_198 : decode cX5_nextToken 198 = .ok (.aload_n 0, 1) := by decide +kernel
theorem dX5_nextToken_199 : decode cX5_nextToken 199 = .ok (.dup, 1) := by decide +kernel
theorem dX5_nextToken_200 : decode cX5_nextToken 200 = .ok (.getfield 196, 3) := by decide +kernel
theorem dX5_nextToken_203 : decode cX5_nextToken 203 = .ok (.iconst 1, 1) := by decide +kernel
theorem dX5_nextToken_204 : decode cX5_nextToken 204 = .ok (.iadd, 1) := by decide +kernel
theorem dX5_nextToken_205 : decode cX5_nextToken 205 = .ok (.putfield 196, 3) := by decide +kernel
theorem dX5_nextToken_208 : decode cX5_nextToken 208 = .ok (.goto (-72), 3) := by decide +kernel
theorem dX5_nextToken_211 : decode cX5_nextToken 211 = .ok (.aload_n 0, 1) := by decide +kernel
theorem dX5_nextToken_212 : decode cX5_nextToken 212 = .ok (.dup, 1) := by decide +kernel
theorem dX5_nextToken_213 : decode cX5_nextToken 213 = .ok (.getfield 196, 3) := by decide +kernel
theorem dX5_nextToken_216 : decode cX5_nextToken 216 = .ok (.aload_n 0, 1) := by decide +kernel
theorem dX5_nextToken_217 : decode cX5_nextToken 217 = .ok (.getfield 211, 3) := by decide +kernel
theorem dX5_nextToken_220 : decode cX5_nextToken 220 = .ok (.iconst 2, 1) := by decide +kernel
theorem dX5_nextToken_221 : decode cX5_nextToken 221 = .ok (.if_icmp .le 7, 3) := by decide +kernel
theorem dX5_nextToken_224 : decode cX5_nextToken 224 = .ok (.iconst 1, 1) := by decide +kernel
theorem dX5_nextToken_225 : decode cX5_nextToken 225 = .ok (.goto 4, 3) := by decide +kernel
theorem dX5_nextToken_228 : decode cX5_nextToken 228 = .ok (.iconst 0, 1) := by decide +kernel
theorem dX5_nextToken_229 : decode cX5_nextToken 229 = .ok (.iadd, 1) := by decide +kernel
theorem dX5_nextToken_230 : decode cX5_nextToken 230 = .ok (.putfield 196, 3) := by decide +kernel
theorem dX5_nextToken_233 : decode cX5_nextToken 233 = .ok (.return_, 1) := by decide +kernel
theorem dX5_has3_0 : decode cX5_has3 0 = .ok (.aload_n 0, 1) := by decide +kernel
theorem dX5_has3_1 : decode cX5_has3 1 = .ok (.aload_n 0, 1) := by decide +kernel
theorem dX5_has3_2 : decode cX5_has3 2 = .ok (.getfield 199, 3) := by decide +kernel
theorem dX5_has3_5 : decode cX5_has3 5 = .ok (.iload_n 1, 1) := by decide +kernel
theorem dX5_has3_6 : decode cX5_has3 6 = .ok (.iadd, 1) := by decide +kernel
theorem dX5_has3_7 : decode cX5_has3 7 = .ok (.invokevirtual 202, 3) := by decide +kernel
theorem dX5_has3_10 : decode cX5_has3 10 = .ok (.iload_n 2, 1) := by decide +kernel
theorem dX5_has3_11 : decode cX5_has3 11 = .ok (.if_icmp .ne 40, 3) := by decide +kernel
theorem dX5_has3_14 : decode cX5_has3 14 = .ok (.aload_n 0, 1) := by decide +kernel
theorem dX5_has3_15 : decode cX5_has3 15 = .ok (.aload_n 0, 1) := by decide +kernel
theorem dX5_has3_16 : decode cX5_has3 16 = .ok (.getfield 199, 3) := by decide +kernel
theorem dX5_has3_19 : decode cX5_has3 19 = .ok (.iload_n 1, 1) := by decide +kernel
theorem dX5_has3_20 : decode cX5_has3 20 = .ok (.iadd, 1) := by decide +kernel
theorem dX5_has3_21 : decode cX5_has3 21 = .ok (.iconst 1, 1) := by decide +kernel
theorem dX5_has3_22 : decode cX5_has3 22 = .ok (.iadd, 1) := by decide +kernel
theorem dX5_has3_23 : decode cX5_has3 23 = .ok (.invokevirtual 202, 3) := by decide +kernel
theorem dX5_has3_26 : decode cX5_has3 26 = .ok (.iload_n 3, 1) := by decide +kernel
theorem dX5_has3_27 : decode cX5_has3 27 = .ok (.if_icmp .ne 24, 3) := by decide +kernel
theorem dX5_has3_30 : decode cX5_has3 30 = .ok (.aload_n 0, 1) := by decide +kernel
theorem dX5_has3_31 : decode cX5_has3 31 = .ok (.aload_n 0, 1) := by decide +kernel
theorem dX5_has3_32 : decode cX5_has3 32 = .ok (.getfield 199, 3) := by decide +kernel
theorem dX5_has3_35 : decode cX5_has3 35 = .ok (.iload_n 1, 1) := by decide +kernel
theorem dX5_has3_36 : decode cX5_has3 36 = .ok (.iadd, 1) := by decide +kernel
theorem dX5_has3_37 : decode cX5_has3 37 = .ok (.iconst 2, 1) := by decide +kernel
theorem dX5_has3_38 : decode cX5_has3 38 = .ok (.iadd, 1) := by decide +kernel
theorem dX5_has3_39 : decode cX5_has3 39 = .ok (.invokevirtual 202, 3) := by decide +kernel
theorem dX5_has3_42 : decode cX5_has3 42 = .ok (.iload 4, 2) := by decide +kernel
theorem dX5_has3_44 : decode cX5_has3 44 = .ok (.if_icmp .ne 7, 3) := by decide +kernel
theorem dX5_has3_47 : decode cX5_has3 47 = .ok (.iconst 1, 1) := by decide +kernel
theorem dX5_has3_48 : decode cX5_has3 48 = .ok (.goto 4, 3) := by decide +kernel
theorem dX5_has3_51 : decode cX5_has3 51 = .ok (.iconst 0, 1) := by decide +kernel
theorem dX5_has3_52 : decode cX5_has3 52 = .ok (.ireturn, 1) := by decide +kernel
theorem dX5_isWord_0 : decode cX5_isWord 0 = .ok (.aload_n 0, 1) := by decide +kernel
theorem dX5_isWord_1 : decode cX5_isWord 1 = .ok (.getfield 211, 3) := by decide +kernel
theorem dX5_isWord_4 : decode cX5_isWord 4 = .ok (.iconst 1, 1) := by decide +kernel
theorem dX5_isWord_5 : decode cX5_isWord 5 = .ok (.if_icmp .ne 20, 3) := by decide +kernel
theorem dX5_isWord_8 : decode cX5_isWord 8 = .ok (.aload_n 0, 1) := by decide +kernel
theorem dX5_isWord_9 : decode cX5_isWord 9 = .ok (.getfield 196, 3) := by decide +kernel
theorem dX5_isWord_12 : decode cX5_isWord 12 = .ok (.aload_n 0, 1) := by decide +kernel
theorem dX5_isWord_13 : decode cX5_isWord 13 = .ok (.getfield 199, 3) := by decide +kernel
theorem dX5_isWord_16 : decode cX5_isWord 16 = .ok (.isub, 1) := by decide +kernel
theorem dX5_isWord_17 : decode cX5_isWord 17 = .ok (.iload_n 1, 1) := by decide +kernel
theorem dX5_isWord_18 : decode cX5_isWord 18 = .ok (.if_icmp .ne 7, 3) := by decide +kernel
theorem dX5_isWord_21 : decode cX5_isWord 21 = .ok (.iconst 1, 1) := by decide +kernel
theorem dX5_isWord_22 : decode cX5_isWord 22 = .ok (.goto 4, 3) := by decide +kernel
theorem dX5_isWord_25 : decode cX5_isWord 25 = .ok (.iconst 0, 1) := by decide +kernel
theorem dX5_isWord_26 : decode cX5_isWord 26 = .ok (.ireturn, 1) := by decide +kernel
theorem dX5_fails_0 : decode cX5_fails 0 = .ok (.aload_n 0, 1) := by decide +kernel
theorem dX5_fails_1 : decode cX5_fails 1 = .ok (.aload_n 0, 1) := by decide +kernel
theorem dX5_fails_2 : decode cX5_fails 2 = .ok (.getfield 199, 3) := by decide +kernel
theorem dX5_fails_5 : decode cX5_fails 5 = .ok (.putfield 217, 3) := by decide +kernel
theorem dX5_fails_8 : decode cX5_fails 8 = .ok (.iconst 0, 1) := by decide +kernel
theorem dX5_fails_9 : decode cX5_fails 9 = .ok (.ireturn, 1) := by decide +kernel
theorem dX5_isFour_0 : decode cX5_isFour 0 = .ok (.aload_n 0, 1) := by decide +kernel
theorem dX5_isFour_1 : decode cX5_isFour 1 = .ok (.iconst 4, 1) := by decide +kernel
theorem dX5_isFour_2 : decode cX5_isFour 2 = .ok (.invokevirtual 220, 3) := by decide +kernel
theorem dX5_isFour_5 : decode cX5_isFour 5 = .ok (.ifCond .eq 30, 3) := by decide +kernel
theorem dX5_isFour_8 : decode cX5_isFour 8 = .ok (.aload_n 0, 1) := by decide +kernel
theorem dX5_isFour_9 : decode cX5_isFour 9 = .ok (.iconst 0, 1) := by decide +kernel
theorem dX5_isFour_10 : decode cX5_isFour 10 = .ok (.iload_n 1, 1) := by decide +kernel
theorem dX5_isFour_11 : decode cX5_isFour 11 = .ok (.iload_n 2, 1) := by decide +kernel
theorem dX5_isFour_12 : decode cX5_isFour 12 = .ok (.iload_n 3, 1) := by decide +kernel
theorem dX5_isFour_13 : decode cX5_isFour 13 = .ok (.invokevirtual 223, 3) := by decide +kernel
theorem dX5_isFour_16 : decode cX5_isFour 16 = .ok (.ifCond .eq 19, 3) := by decide +kernel
theorem dX5_isFour_19 : decode cX5_isFour 19 = .ok (.aload_n 0, 1) := by decide +kernel
theorem dX5_isFour_20 : decode cX5_isFour 20 = .ok (.iconst 1, 1) := by decide +kernel
theorem dX5_isFour_21 : decode cX5_isFour 21 = .ok (.iload_n 2, 1) := by decide +kernel
theorem dX5_isFour_22 : decode cX5_isFour 22 = .ok (.iload_n 3, 1) := by decide +kernel
theorem dX5_isFour_23 : decode cX5_isFour 23 = .ok (.iload 4, 2) := by decide +kernel
theorem dX5_isFour_25 : decode cX5_isFour 25 = .ok (.invokevirtual 223, 3) := by decide +kernel
theorem dX5_isFour_28 : decode cX5_isFour 28 = .ok (.ifCond .eq 7, 3) := by decide +kernel
theorem dX5_isFour_31 : decode cX5_isFour 31 = .ok (.iconst 1, 1) := by decide +kernel
theorem dX5_isFour_32 : decode cX5_isFour 32 = .ok (.goto 4, 3) := by decide +kernel
theorem dX5_isFour_35 : decode cX5_isFour 35 = .ok (.iconst 0, 1) := by decide +kernel
theorem dX5_isFour_36 : decode cX5_isFour 36 = .ok (.ireturn, 1) := by decide +kernel
theorem dX5_isFive_0 : decode cX5_isFive 0 = .ok (.aload_n 0, 1) := by decide +kernel
theorem dX5_isFive_1 : decode cX5_isFive 1 = .ok (.iconst 5, 1) := by decide +kernel
theorem dX5_isFive_2 : decode cX5_isFive 2 = .ok (.invokevirtual 220, 3) := by decide +kernel
theorem dX5_isFive_5 : decode cX5_isFive 5 = .ok (.ifCond .eq 31, 3) := by decide +kernel
theorem dX5_isFive_8 : decode cX5_isFive 8 = .ok (.aload_n 0, 1) := by decide +kernel
theorem dX5_isFive_9 : decode cX5_isFive 9 = .ok (.iconst 0, 1) := by decide +kernel
theorem dX5_isFive_10 : decode cX5_isFive 10 = .ok (.iload_n 1, 1) := by decide +kernel
theorem dX5_isFive_11 : decode cX5_isFive 11 = .ok (.iload_n 2, 1) := by decide +kernel
theorem dX5_isFive_12 : decode cX5_isFive 12 = .ok (.iload_n 3, 1) := by decide +kernel
theorem dX5_isFive_13 : decode cX5_isFive 13 = .ok (.invokevirtual 223, 3) := by decide +kernel
theorem dX5_isFive_16 : decode cX5_isFive 16 = .ok (.ifCond .eq 20, 3) := by decide +kernel
theorem dX5_isFive_19 : decode cX5_isFive 19 = .ok (.aload_n 0, 1) := by decide +kernel
theorem dX5_isFive_20 : decode cX5_isFive 20 = .ok (.iconst 2, 1) := by decide +kernel
theorem dX5_isFive_21 : decode cX5_isFive 21 = .ok (.iload_n 3, 1) := by decide +kernel
theorem dX5_isFive_22 : decode cX5_isFive 22 = .ok (.iload 4, 2) := by decide +kernel
theorem dX5_isFive_24 : decode cX5_isFive 24 = .ok (.iload 5, 2) := by decide +kernel
theorem dX5_isFive_26 : decode cX5_isFive 26 = .ok (.invokevirtual 223, 3) := by decide +kernel
theorem dX5_isFive_29 : decode cX5_isFive 29 = .ok (.ifCond .eq 7, 3) := by decide +kernel
theorem dX5_isFive_32 : decode cX5_isFive 32 = .ok (.iconst 1, 1) := by decide +kernel
theorem dX5_isFive_33 : decode cX5_isFive 33 = .ok (.goto 4, 3) := by decide +kernel
theorem dX5_isFive_36 : decode cX5_isFive 36 = .ok (.iconst 0, 1) := by decide +kernel
theorem dX5_isFive_37 : decode cX5_isFive 37 = .ok (.ireturn, 1) := by decide +kernel
theorem dX5_isSix_0 : decode cX5_isSix 0 = .ok (.aload_n 0, 1) := by decide +kernel
theorem dX5_isSix_1 : decode cX5_isSix 1 = .ok (.bipush 6, 2) := by decide +kernel
theorem dX5_isSix_3 : decode cX5_isSix 3 = .ok (.invokevirtual 220, 3) := by decide +kernel
theorem dX5_isSix_6 : decode cX5_isSix 6 = .ok (.ifCond .eq 32, 3) := by decide +kernel
theorem dX5_isSix_9 : decode cX5_isSix 9 = .ok (.aload_n 0, 1) := by decide +kernel
theorem dX5_isSix_10 : decode cX5_isSix 10 = .ok (.iconst 0, 1) := by decide +kernel
theorem dX5_isSix_11 : decode cX5_isSix 11 = .ok (.iload_n 1, 1) := by decide +kernel
theorem dX5_isSix_12 : decode cX5_isSix 12 = .ok (.iload_n 2, 1) := by decide +kernel
theorem dX5_isSix_13 : decode cX5_isSix 13 = .ok (.iload_n 3, 1) := by decide +kernel
theorem dX5_isSix_14 : decode cX5_isSix 14 = .ok (.invokevirtual 223, 3) := by decide +kernel
theorem dX5_isSix_17 : decode cX5_isSix 17 = .ok (.ifCond .eq 21, 3) := by decide +kernel
theorem dX5_isSix_20 : decode cX5_isSix 20 = .ok (.aload_n 0, 1) := by decide +kernel
theorem dX5_isSix_21 : decode cX5_isSix 21 = .ok (.iconst 3, 1) := by decide +kernel
theorem dX5_isSix_22 : decode cX5_isSix 22 = .ok (.iload 4, 2) := by decide +kernel
theorem dX5_isSix_24 : decode cX5_isSix 24 = .ok (.iload 5, 2) := by decide +kernel
theorem dX5_isSix_26 : decode cX5_isSix 26 = .ok (.iload 6, 2) := by decide +kernel
theorem dX5_isSix_28 : decode cX5_isSix 28 = .ok (.invokevirtual 223, 3) := by decide +kernel
theorem dX5_isSix_31 : decode cX5_isSix 31 = .ok (.ifCond .eq 7, 3) := by decide +kernel
theorem dX5_isSix_34 : decode cX5_isSix 34 = .ok (.iconst 1, 1) := by decide +kernel
theorem dX5_isSix_35 : decode cX5_isSix 35 = .ok (.goto 4, 3) := by decide +kernel
theorem dX5_isSix_38 : decode cX5_isSix 38 = .ok (.iconst 0, 1) := by decide +kernel
theorem dX5_isSix_39 : decode cX5_isSix 39 = .ok (.ireturn, 1) := by decide +kernel
theorem dX5_isNumber_0 : decode cX5_isNumber 0 = .ok (.aload_n 0, 1) := by decide +kernel
theorem dX5_isNumber_1 : decode cX5_isNumber 1 = .ok (.getfield 211, 3) := by decide +kernel
theorem dX5_isNumber_4 : decode cX5_isNumber 4 = .ok (.iconst 2, 1) := by decide +kernel
theorem dX5_isNumber_5 : decode cX5_isNumber 5 = .ok (.if_icmp .ne 18, 3) := by decide +kernel
theorem dX5_isNumber_8 : decode cX5_isNumber 8 = .ok (.aload_n 0, 1) := by decide +kernel
theorem dX5_isNumber_9 : decode cX5_isNumber 9 = .ok (.getfield 214, 3) := by decide +kernel
theorem dX5_isNumber_12 : decode cX5_isNumber 12 = .ok (.i2l, 1) := by decide +kernel
theorem dX5_isNumber_13 : decode cX5_isNumber 13 = .ok (.iload_n 1, 1) := by decide +kernel
theorem dX5_isNumber_14 : decode cX5_isNumber 14 = .ok (.i2l, 1) := by decide +kernel
theorem dX5_isNumber_15 : decode cX5_isNumber 15 = .ok (.iload_n 2, 1) := by decide +kernel
theorem dX5_isNumber_16 : decode cX5_isNumber 16 = .ok (.i2l, 1) := by decide +kernel
theorem dX5_isNumber_17 : decode cX5_isNumber 17 = .ok (.invokestatic 49, 3) := by decide +kernel
theorem dX5_isNumber_20 : decode cX5_isNumber 20 = .ok (.ifCond .ne 10, 3) := by decide +kernel
theorem dX5_isNumber_23 : decode cX5_isNumber 23 = .ok (.aload_n 0, 1) := by decide +kernel
theorem dX5_isNumber_24 : decode cX5_isNumber 24 = .ok (.invokevirtual 227, 3) := by decide +kernel
theorem dX5_isNumber_27 : decode cX5_isNumber 27 = .ok (.ifCond .eq 7, 3) := by decide +kernel
theorem dX5_isNumber_30 : decode cX5_isNumber 30 = .ok (.iconst 1, 1) := by decide +kernel
theorem dX5_isNumber_31 : decode cX5_isNumber 31 = .ok (.goto 4, 3) := by decide +kernel
theorem dX5_isNumber_34 : decode cX5_isNumber 34 = .ok (.iconst 0, 1) := by decide +kernel
theorem dX5_isNumber_35 : decode cX5_isNumber 35 = .ok (.ireturn, 1) := by decide +kernel
theorem dX5_kindHere_0 : decode cX5_kindHere 0 = .ok (.aload_n 0, 1) := by decide +kernel
theorem dX5_kindHere_1 : decode cX5_kindHere 1 = .ok (.bipush 119, 2) := by decide +kernel
theorem dX5_kindHere_3 : decode cX5_kindHere 3 = .ok (.bipush 114, 2) := by decide +kernel
theorem dX5_kindHere_5 : decode cX5_kindHere 5 = .ok (.bipush 105, 2) := by decide +kernel
theorem dX5_kindHere_7 : decode cX5_kindHere 7 = .ok (.bipush 116, 2) := by decide +kernel
theorem dX5_kindHere_9 : decode cX5_kindHere 9 = .ok (.bipush 101, 2) := by decide +kernel
theorem dX5_kindHere_11 : decode cX5_kindHere 11 = .ok (.bipush 114, 2) := by decide +kernel
theorem dX5_kindHere_13 : decode cX5_kindHere 13 = .ok (.invokevirtual 231, 3) := by decide +kernel
theorem dX5_kindHere_16 : decode cX5_kindHere 16 = .ok (.ifCond .eq 5, 3) := by decide +kernel
theorem dX5_kindHere_19 : decode cX5_kindHere 19 = .ok (.iconst 0, 1) := by decide +kernel
theorem dX5_kindHere_20 : decode cX5_kindHere 20 = .ok (.ireturn, 1) := by decide +kernel
theorem dX5_kindHere_21 : decode cX5_kindHere 21 = .ok (.aload_n 0, 1) := by decide +kernel
theorem dX5_kindHere_22 : decode cX5_kindHere 22 = .ok (.bipush 112, 2) := by decide +kernel
theorem dX5_kindHere_24 : decode cX5_kindHere 24 = .ok (.bipush 111, 2) := by decide +kernel
theorem dX5_kindHere_26 : decode cX5_kindHere 26 = .ok (.bipush 101, 2) := by decide +kernel
theorem dX5_kindHere_28 : decode cX5_kindHere 28 = .ok (.bipush 116, 2) := by decide +kernel
theorem dX5_kindHere_30 : decode cX5_kindHere 30 = .ok (.invokevirtual 235, 3) := by decide +kernel
theorem dX5_kindHere_33 : decode cX5_kindHere 33 = .ok (.ifCond .eq 5, 3) := by decide +kernel
theorem dX5_kindHere_36 : decode cX5_kindHere 36 = .ok (.iconst 1, 1) := by decide +kernel
theorem dX5_kindHere_37 : decode cX5_kindHere 37 = .ok (.ireturn, 1) := by decide +kernel
theorem dX5_kindHere_38 : decode cX5_kindHere 38 = .ok (.aload_n 0, 1) := by decide +kernel
theorem dX5_kindHere_39 : decode cX5_kindHere 39 = .ok (.bipush 7, 2) := by decide +kernel
theorem dX5_kindHere_41 : decode cX5_kindHere 41 = .ok (.invokevirtual 220, 3) := by decide +kernel
theorem dX5_kindHere_44 : decode cX5_kindHere 44 = .ok (.ifCond .eq 47, 3) := by decide +kernel
theorem dX5_kindHere_47 : decode cX5_kindHere 47 = .ok (.aload_n 0, 1) := by decide +kernel
theorem dX5_kindHere_48 : decode cX5_kindHere 48 = .ok (.iconst 0, 1) := by decide +kernel
theorem dX5_kindHere_49 : decode cX5_kindHere 49 = .ok (.bipush 115, 2) := by decide +kernel
theorem dX5_kindHere_51 : decode cX5_kindHere 51 = .ok (.bipush 99, 2) := by decide +kernel
theorem dX5_kindHere_53 : decode cX5_kindHere 53 = .ok (.bipush 104, 2) := by decide +kernel
theorem dX5_kindHere_55 : decode cX5_kindHere 55 = .ok (.invokevirtual 223, 3) := by decide +kernel
theorem dX5_kindHere_58 : decode cX5_kindHere 58 = .ok (.ifCond .eq 33, 3) := by decide +kernel
theorem dX5_kindHere_61 : decode cX5_kindHere 61 = .ok (.aload_n 0, 1) := by decide +kernel
theorem dX5_kindHere_62 : decode cX5_kindHere 62 = .ok (.iconst 3, 1) := by decide +kernel
theorem dX5_kindHere_63 : decode cX5_kindHere 63 = .ok (.bipush 111, 2) := by decide +kernel
theorem dX5_kindHere_65 : decode cX5_kindHere 65 = .ok (.bipush 108, 2) := by decide +kernel
theorem dX5_kindHere_67 : decode cX5_kindHere 67 = .ok (.bipush 97, 2) := by decide +kernel
theorem dX5_kindHere_69 : decode cX5_kindHere 69 = .ok (.invokevirtual 223, 3) := by decide +kernel
theorem dX5_kindHere_72 : decode cX5_kindHere 72 = .ok (.ifCond .eq 19, 3) := by decide +kernel
theorem dX5_kindHere_75 : decode cX5_kindHere 75 = .ok (.aload_n 0, 1) := by decide +kernel
theorem dX5_kindHere_76 : decode cX5_kindHere 76 = .ok (.iconst 4, 1) := by decide +kernel
theorem dX5_kindHere_77 : decode cX5_kindHere 77 = .ok (.bipush 108, 2) := by decide +kernel
theorem dX5_kindHere_79 : decode cX5_kindHere 79 = .ok (.bipush 97, 2) := by decide +kernel
theorem dX5_kindHere_81 : decode cX5_kindHere 81 = .ok (.bipush 114, 2) := by decide +kernel
theorem dX5_kindHere_83 : decode cX5_kindHere 83 = .ok (.invokevirtual 223, 3) := by decide +kernel
theorem dX5_kindHere_86 : decode cX5_kindHere 86 = .ok (.ifCond .eq 5, 3) := by decide +kernel
theorem dX5_kindHere_89 : decode cX5_kindHere 89 = .ok (.iconst 2, 1) := by decide +kernel
theorem dX5_kindHere_90 : decode cX5_kindHere 90 = .ok (.ireturn, 1) := by decide +kernel
theorem dX5_kindHere_91 : decode cX5_kindHere 91 = .ok (.aload_n 0, 1) := by decide +kernel
theorem dX5_kindHere_92 : decode cX5_kindHere 92 = .ok (.bipush 108, 2) := by decide +kernel
theorem dX5_kindHere_94 : decode cX5_kindHere 94 = .ok (.bipush 97, 2) := by decide +kernel
theorem dX5_kindHere_96 : decode cX5_kindHere 96 = .ok (.bipush 119, 2) := by decide +kernel
theorem dX5_kindHere_98 : decode cX5_kindHere 98 = .ok (.bipush 121, 2) := by decide +kernel
theorem dX5_kindHere_100 : decode cX5_kindHere 100 = .ok (.bipush 101, 2) := by decide +kernel
theorem dX5_kindHere_102 : decode cX5_kindHere 102 = .ok (.bipush 114, 2) := by decide +kernel
theorem dX5_kindHere_104 : decode cX5_kindHere 104 = .ok (.invokevirtual 231, 3) := by decide +kernel
theorem dX5_kindHere_107 : decode cX5_kindHere 107 = .ok (.ifCond .eq 5, 3) := by decide +kernel
theorem dX5_kindHere_110 : decode cX5_kindHere 110 = .ok (.iconst 3, 1) := by decide +kernel
theorem dX5_kindHere_111 : decode cX5_kindHere 111 = .ok (.ireturn, 1) := by decide +kernel
theorem dX5_kindHere_112 : decode cX5_kindHere 112 = .ok (.aload_n 0, 1) := by decide +kernel
theorem dX5_kindHere_113 : decode cX5_kindHere 113 = .ok (.bipush 99, 2) := by decide +kernel
theorem dX5_kindHere_115 : decode cX5_kindHere 115 = .ok (.bipush 101, 2) := by decide +kernel
theorem dX5_kindHere_117 : decode cX5_kindHere 117 = .ok (.bipush 110, 2) := by decide +kernel
theorem dX5_kindHere_119 : decode cX5_kindHere 119 = .ok (.bipush 115, 2) := by decide +kernel
theorem dX5_kindHere_121 : decode cX5_kindHere 121 = .ok (.bipush 111, 2) := by decide +kernel
theorem dX5_kindHere_123 : decode cX5_kindHere 123 = .ok (.bipush 114, 2) := by decide +kernel
theorem dX5_kindHere_125 : decode cX5_kindHere 125 = .ok (.invokevirtual 231, 3) := by decide +kernel
theorem dX5_kindHere_128 : decode cX5_kindHere 128 = .ok (.ifCond .eq 5, 3) := by decide +kernel
theorem dX5_kindHere_131 : decode cX5_kindHere 131 = .ok (.iconst 4, 1) := by decide +kernel
theorem dX5_kindHere_132 : decode cX5_kindHere 132 = .ok (.ireturn, 1) := by decide +kernel
theorem dX5_kindHere_133 : decode cX5_kindHere 133 = .ok (.aload_n 0, 1) := by decide +kernel
theorem dX5_kindHere_134 : decode cX5_kindHere 134 = .ok (.bipush 99, 2) := by decide +kernel
theorem dX5_kindHere_136 : decode cX5_kindHere 136 = .ok (.bipush 104, 2) := by decide +kernel
theorem dX5_kindHere_138 : decode cX5_kindHere 138 = .ok (.bipush 105, 2) := by decide +kernel
theorem dX5_kindHere_140 : decode cX5_kindHere 140 = .ok (.bipush 108, 2) := by decide +kernel
theorem dX5_kindHere_142 : decode cX5_kindHere 142 = .ok (.bipush 100, 2) := by decide +kernel
theorem dX5_kindHere_144 : decode cX5_kindHere 144 = .ok (.invokevirtual 238, 3) := by decide +kernel
theorem dX5_kindHere_147 : decode cX5_kindHere 147 = .ok (.ifCond .eq 5, 3) := by decide +kernel
theorem dX5_kindHere_150 : decode cX5_kindHere 150 = .ok (.iconst 5, 1) := by decide +kernel
theorem dX5_kindHere_151 : decode cX5_kindHere 151 = .ok (.ireturn, 1) := by decide +kernel
theorem dX5_kindHere_152 : decode cX5_kindHere 152 = .ok (.aload_n 0, 1) := by decide +kernel
theorem dX5_kindHere_153 : decode cX5_kindHere 153 = .ok (.bipush 119, 2) := by decide +kernel
theorem dX5_kindHere_155 : decode cX5_kindHere 155 = .ok (.bipush 105, 2) := by decide +kernel
theorem dX5_kindHere_157 : decode cX5_kindHere 157 = .ok (.bipush 100, 2) := by decide +kernel
theorem dX5_kindHere_159 : decode cX5_kindHere 159 = .ok (.bipush 111, 2) := by decide +kernel
theorem dX5_kindHere_161 : decode cX5_kindHere 161 = .ok (.bipush 119, 2) := by decide +kernel
theorem dX5_kindHere_163 : decode cX5_kindHere 163 = .ok (.invokevirtual 238, 3) := by decide +kernel
theorem dX5_kindHere_166 : decode cX5_kindHere 166 = .ok (.ifCond .eq 8, 3) := by decide +kernel
theorem dX5_kindHere_169 : decode cX5_kindHere 169 = .ok (.bipush 6, 2) := by decide +kernel
theorem dX5_kindHere_171 : decode cX5_kindHere 171 = .ok (.goto 4, 3) := by decide +kernel
theorem dX5_kindHere_174 : decode cX5_kindHere 174 = .ok (.iconst (-1), 1) := by decide +kernel
theorem dX5_kindHere_175 : decode cX5_kindHere 175 = .ok (.ireturn, 1) := by decide +kernel
theorem dX5_perhaps_0 : decode cX5_perhaps 0 = .ok (.iload_n 1, 1) := by decide +kernel
theorem dX5_perhaps_1 : decode cX5_perhaps 1 = .ok (.ifCond .ne 5, 3) := by decide +kernel
theorem dX5_perhaps_4 : decode cX5_perhaps 4 = .ok (.iconst 1, 1) := by decide +kernel
theorem dX5_perhaps_5 : decode cX5_perhaps 5 = .ok (.ireturn, 1) := by decide +kernel
theorem dX5_perhaps_6 : decode cX5_perhaps 6 = .ok (.aload_n 0, 1) := by decide +kernel
theorem dX5_perhaps_7 : decode cX5_perhaps 7 = .ok (.invokevirtual 242, 3) := by decide +kernel
theorem dX5_perhaps_10 : decode cX5_perhaps 10 = .ok (.aload_n 0, 1) := by decide +kernel
theorem dX5_perhaps_11 : decode cX5_perhaps 11 = .ok (.iconst 0, 1) := by decide +kernel
theorem dX5_perhaps_12 : decode cX5_perhaps 12 = .ok (.iload_n 3, 1) := by decide +kernel
theorem dX5_perhaps_13 : decode cX5_perhaps 13 = .ok (.invokevirtual 245, 3) := by decide +kernel
theorem dX5_perhaps_16 : decode cX5_perhaps 16 = .ok (.ifCond .ne 5, 3) := by decide +kernel
theorem dX5_perhaps_19 : decode cX5_perhaps 19 = .ok (.iconst 0, 1) := by decide +kernel
theorem dX5_perhaps_20 : decode cX5_perhaps 20 = .ok (.ireturn, 1) := by decide +kernel
theorem dX5_perhaps_21 : decode cX5_perhaps 21 = .ok (.aload_n 0, 1) := by decide +kernel
theorem dX5_perhaps_22 : decode cX5_perhaps 22 = .ok (.getfield 7, 3) := by decide +kernel
theorem dX5_perhaps_25 : decode cX5_perhaps 25 = .ok (.iload_n 2, 1) := by decide +kernel
theorem dX5_perhaps_26 : decode cX5_perhaps 26 = .ok (.aload_n 0, 1) := by decide +kernel
theorem dX5_perhaps_27 : decode cX5_perhaps 27 = .ok (.getfield 214, 3) := by decide +kernel
theorem dX5_perhaps_30 : decode cX5_perhaps 30 = .ok (.iastore, 1) := by decide +kernel
theorem dX5_perhaps_31 : decode cX5_perhaps 31 = .ok (.aload_n 0, 1) := by decide +kernel
theorem dX5_perhaps_32 : decode cX5_perhaps 32 = .ok (.invokevirtual 242, 3) := by decide +kernel
theorem dX5_perhaps_35 : decode cX5_perhaps 35 = .ok (.iconst 1, 1) := by decide +kernel
theorem dX5_perhaps_36 : decode cX5_perhaps 36 = .ok (.ireturn, 1) := by decide +kernel
theorem dX5_writerHere_0 : decode cX5_writerHere 0 = .ok (.aload_n 0, 1) := by decide +kernel
theorem dX5_writerHere_1 : decode cX5_writerHere 1 = .ok (.getfield 7, 3) := by decide +kernel
theorem dX5_writerHere_4 : decode cX5_writerHere 4 = .ok (.iconst 0, 1) := by decide +kernel
theorem dX5_writerHere_5 : decode cX5_writerHere 5 = .ok (.iaload, 1) := by decide +kernel
theorem dX5_writerHere_6 : decode cX5_writerHere 6 = .ok (.bipush 8, 2) := by decide +kernel
theorem dX5_writerHere_8 : decode cX5_writerHere 8 = .ok (.if_icmp .ne 8, 3) := by decide +kernel
theorem dX5_writerHere_11 : decode cX5_writerHere 11 = .ok (.aload_n 0, 1) := by decide +kernel
theorem dX5_writerHere_12 : decode cX5_writerHere 12 = .ok (.invokevirtual 227, 3) := by decide +kernel
theorem dX5_writerHere_15 : decode cX5_writerHere 15 = .ok (.ireturn, 1) := by decide +kernel
theorem dX5_writerHere_16 : decode cX5_writerHere 16 = .ok (.aload_n 0, 1) := by decide +kernel
theorem dX5_writerHere_17 : decode cX5_writerHere 17 = .ok (.iload_n 1, 1) := by decide +kernel
theorem dX5_writerHere_18 : decode cX5_writerHere 18 = .ok (.iconst 0, 1) := by decide +kernel
theorem dX5_writerHere_19 : decode cX5_writerHere 19 = .ok (.invokevirtual 78, 3) := by decide +kernel
theorem dX5_writerHere_22 : decode cX5_writerHere 22 = .ok (.aload_n 0, 1) := by decide +kernel
theorem dX5_writerHere_23 : decode cX5_writerHere 23 = .ok (.getfield 7, 3) := by decide +kernel
theorem dX5_writerHere_26 : decode cX5_writerHere 26 = .ok (.iconst 0, 1) := by decide +kernel
theorem dX5_writerHere_27 : decode cX5_writerHere 27 = .ok (.iaload, 1) := by decide +kernel
theorem dX5_writerHere_28 : decode cX5_writerHere 28 = .ok (.iconst 1, 1) := by decide +kernel
theorem dX5_writerHere_29 : decode cX5_writerHere 29 = .ok (.isub, 1) := by decide +kernel
theorem dX5_writerHere_30 : decode cX5_writerHere 30 = .ok (.istore_n 2, 1) := by decide +kernel
theorem dX5_writerHere_31 : decode cX5_writerHere 31 = .ok (.aload_n 0, 1) := by decide +kernel
theorem dX5_writerHere_32 : decode cX5_writerHere 32 = .ok (.invokevirtual 242, 3) := by decide +kernel
theorem dX5_writerHere_35 : decode cX5_writerHere 35 = .ok (.aload_n 0, 1) := by decide +kernel
theorem dX5_writerHere_36 : decode cX5_writerHere 36 = .ok (.aload_n 0, 1) := by decide +kernel
theorem dX5_writerHere_37 : decode cX5_writerHere 37 = .ok (.bipush 119, 2) := by decide +kernel
theorem dX5_writerHere_39 : decode cX5_writerHere 39 = .ok (.bipush 111, 2) := by decide +kernel
theorem dX5_writerHere_41 : decode cX5_writerHere 41 = .ok (.bipush 114, 2) := by decide +kernel
theorem dX5_writerHere_43 : decode cX5_writerHere 43 = .ok (.bipush 100, 2) := by decide +kernel
theorem dX5_writerHere_45 : decode cX5_writerHere 45 = .ok (.invokevirtual 235, 3) := by decide +kernel
theorem dX5_writerHere_48 : decode cX5_writerHere 48 = .ok (.iload_n 2, 1) := by decide +kernel
theorem dX5_writerHere_49 : decode cX5_writerHere 49 = .ok (.iconst 1, 1) := by decide +kernel
theorem dX5_writerHere_50 : decode cX5_writerHere 50 = .ok (.invokestatic 70, 3) := by decide +kernel
theorem dX5_writerHere_53 : decode cX5_writerHere 53 = .ok (.sipush 9999, 3) := by decide +kernel
theorem dX5_writerHere_56 : decode cX5_writerHere 56 = .ok (.invokevirtual 248, 3) := by decide +kernel
theorem dX5_writerHere_59 : decode cX5_writerHere 59 = .ok (.ifCond .eq 48, 3) := by decide +kernel
theorem dX5_writerHere_62 : decode cX5_writerHere 62 = .ok (.aload_n 0, 1) := by decide +kernel
theorem dX5_writerHere_63 : decode cX5_writerHere 63 = .ok (.aload_n 0, 1) := by decide +kernel
theorem dX5_writerHere_64 : decode cX5_writerHere 64 = .ok (.iconst 3, 1) := by decide +kernel
theorem dX5_writerHere_65 : decode cX5_writerHere 65 = .ok (.invokevirtual 220, 3) := by decide +kernel
theorem dX5_writerHere_68 : decode cX5_writerHere 68 = .ok (.ifCond .eq 21, 3) := by decide +kernel
theorem dX5_writerHere_71 : decode cX5_writerHere 71 = .ok (.aload_n 0, 1) := by decide +kernel
theorem dX5_writerHere_72 : decode cX5_writerHere 72 = .ok (.iconst 0, 1) := by decide +kernel
theorem dX5_writerHere_73 : decode cX5_writerHere 73 = .ok (.bipush 102, 2) := by decide +kernel
theorem dX5_writerHere_75 : decode cX5_writerHere 75 = .ok (.bipush 97, 2) := by decide +kernel
theorem dX5_writerHere_77 : decode cX5_writerHere 77 = .ok (.bipush 116, 2) := by decide +kernel
theorem dX5_writerHere_79 : decode cX5_writerHere 79 = .ok (.invokevirtual 223, 3) := by decide +kernel
theorem dX5_writerHere_82 : decode cX5_writerHere 82 = .ok (.ifCond .eq 7, 3) := by decide +kernel
theorem dX5_writerHere_85 : decode cX5_writerHere 85 = .ok (.iconst 1, 1) := by decide +kernel
theorem dX5_writerHere_86 : decode cX5_writerHere 86 = .ok (.goto 4, 3) := by decide +kernel
theorem dX5_writerHere_89 : decode cX5_writerHere 89 = .ok (.iconst 0, 1) := by decide +kernel
theorem dX5_writerHere_90 : decode cX5_writerHere 90 = .ok (.iload_n 2, 1) := by decide +kernel
theorem dX5_writerHere_91 : decode cX5_writerHere 91 = .ok (.iconst 3, 1) := by decide +kernel
theorem dX5_writerHere_92 : decode cX5_writerHere 92 = .ok (.invokestatic 70, 3) := by decide +kernel
theorem dX5_writerHere_95 : decode cX5_writerHere 95 = .ok (.bipush 99, 2) := by decide +kernel
theorem dX5_writerHere_97 : decode cX5_writerHere 97 = .ok (.invokevirtual 248, 3) := by decide +kernel
theorem dX5_writerHere_100 : decode cX5_writerHere 100 = .ok (.ifCond .eq 7, 3) := by decide +kernel
theorem dX5_writerHere_103 : decode cX5_writerHere 103 = .ok (.iconst 1, 1) := by decide +kernel
theorem dX5_writerHere_104 : decode cX5_writerHere 104 = .ok (.goto 4, 3) := by decide +kernel
theorem dX5_writerHere_107 : decode cX5_writerHere 107 = .ok (.iconst 0, 1) := by decide +kernel
theorem dX5_writerHere_108 : decode cX5_writerHere 108 = .ok (.ireturn, 1) := by decide +kernel
theorem dX5_fishHere_0 : decode cX5_fishHere 0 = .ok (.aload_n 0, 1) := by decide +kernel
theorem dX5_fishHere_1 : decode cX5_fishHere 1 = .ok (.invokevirtual 242, 3) := by decide +kernel
theorem dX5_fishHere_4 : decode cX5_fishHere 4 = .ok (.aload_n 0, 1) := by decide +kernel
theorem dX5_fishHere_5 : decode cX5_fishHere 5 = .ok (.iconst 0, 1) := by decide +kernel
theorem dX5_fishHere_6 : decode cX5_fishHere 6 = .ok (.iconst 5, 1) := by decide +kernel
theorem dX5_fishHere_7 : decode cX5_fishHere 7 = .ok (.invokevirtual 245, 3) := by decide +kernel
theorem dX5_fishHere_10 : decode cX5_fishHere 10 = .ok (.ifCond .ne 5, 3) := by decide +kernel
theorem dX5_fishHere_13 : decode cX5_fishHere 13 = .ok (.iconst 0, 1) := by decide +kernel
theorem dX5_fishHere_14 : decode cX5_fishHere 14 = .ok (.ireturn, 1) := by decide +kernel
theorem dX5_fishHere_15 : decode cX5_fishHere 15 = .ok (.aload_n 0, 1) := by decide +kernel
theorem dX5_fishHere_16 : decode cX5_fishHere 16 = .ok (.getfield 214, 3) := by decide +kernel
theorem dX5_fishHere_19 : decode cX5_fishHere 19 = .ok (.istore_n 1, 1) := by decide +kernel
theorem dX5_fishHere_20 : decode cX5_fishHere 20 = .ok (.aload_n 0, 1) := by decide +kernel
theorem dX5_fishHere_21 : decode cX5_fishHere 21 = .ok (.iconst 1, 1) := by decide +kernel
theorem dX5_fishHere_22 : decode cX5_fishHere 22 = .ok (.bipush 13, 2) := by decide +kernel
theorem dX5_fishHere_24 : decode cX5_fishHere 24 = .ok (.iload_n 1, 1) := by decide +kernel
theorem dX5_fishHere_25 : decode cX5_fishHere 25 = .ok (.iadd, 1) := by decide +kernel
theorem dX5_fishHere_26 : decode cX5_fishHere 26 = .ok (.sipush 999, 3) := by decide +kernel
theorem dX5_fishHere_29 : decode cX5_fishHere 29 = .ok (.invokevirtual 248, 3) := by decide +kernel
theorem dX5_fishHere_32 : decode cX5_fishHere 32 = .ok (.ifCond .eq 34, 3) := by decide +kernel
theorem dX5_fishHere_35 : decode cX5_fishHere 35 = .ok (.aload_n 0, 1) := by decide +kernel
theorem dX5_fishHere_36 : decode cX5_fishHere 36 = .ok (.aload_n 0, 1) := by decide +kernel
theorem dX5_fishHere_37 : decode cX5_fishHere 37 = .ok (.bipush 99, 2) := by decide +kernel
theorem dX5_fishHere_39 : decode cX5_fishHere 39 = .ok (.bipush 97, 2) := by decide +kernel
theorem dX5_fishHere_41 : decode cX5_fishHere 41 = .ok (.bipush 116, 2) := by decide +kernel
theorem dX5_fishHere_43 : decode cX5_fishHere 43 = .ok (.bipush 99, 2) := by decide +kernel
theorem dX5_fishHere_45 : decode cX5_fishHere 45 = .ok (.bipush 104, 2) := by decide +kernel
theorem dX5_fishHere_47 : decode cX5_fishHere 47 = .ok (.invokevirtual 238, 3) := by decide +kernel
theorem dX5_fishHere_50 : decode cX5_fishHere 50 = .ok (.bipush 19, 2) := by decide +kernel
theorem dX5_fishHere_52 : decode cX5_fishHere 52 = .ok (.iload_n 1, 1) := by decide +kernel
theorem dX5_fishHere_53 : decode cX5_fishHere 53 = .ok (.iadd, 1) := by decide +kernel
theorem dX5_fishHere_54 : decode cX5_fishHere 54 = .ok (.bipush 20, 2) := by decide +kernel
theorem dX5_fishHere_56 : decode cX5_fishHere 56 = .ok (.invokevirtual 248, 3) := by decide +kernel
theorem dX5_fishHere_59 : decode cX5_fishHere 59 = .ok (.ifCond .eq 7, 3) := by decide +kernel
theorem dX5_fishHere_62 : decode cX5_fishHere 62 = .ok (.iconst 1, 1) := by decide +kernel
theorem dX5_fishHere_63 : decode cX5_fishHere 63 = .ok (.goto 4, 3) := by decide +kernel
theorem dX5_fishHere_66 : decode cX5_fishHere 66 = .ok (.iconst 0, 1) := by decide +kernel
theorem dX5_fishHere_67 : decode cX5_fishHere 67 = .ok (.ireturn, 1) := by decide +kernel
theorem dX5_jarHere_0 : decode cX5_jarHere 0 = .ok (.aload_n 0, 1) := by decide +kernel
theorem dX5_jarHere_1 : decode cX5_jarHere 1 = .ok (.invokevirtual 242, 3) := by decide +kernel
theorem dX5_jarHere_4 : decode cX5_jarHere 4 = .ok (.aload_n 0, 1) := by decide +kernel
theorem dX5_jarHere_5 : decode cX5_jarHere 5 = .ok (.iconst 0, 1) := by decide +kernel
theorem dX5_jarHere_6 : decode cX5_jarHere 6 = .ok (.bipush 9, 2) := by decide +kernel
theorem dX5_jarHere_8 : decode cX5_jarHere 8 = .ok (.invokevirtual 245, 3) := by decide +kernel
theorem dX5_jarHere_11 : decode cX5_jarHere 11 = .ok (.ifCond .eq 24, 3) := by decide +kernel
theorem dX5_jarHere_14 : decode cX5_jarHere 14 = .ok (.aload_n 0, 1) := by decide +kernel
theorem dX5_jarHere_15 : decode cX5_jarHere 15 = .ok (.iconst 1, 1) := by decide +kernel
theorem dX5_jarHere_16 : decode cX5_jarHere 16 = .ok (.iconst 3, 1) := by decide +kernel
theorem dX5_jarHere_17 : decode cX5_jarHere 17 = .ok (.aload_n 0, 1) := by decide +kernel
theorem dX5_jarHere_18 : decode cX5_jarHere 18 = .ok (.getfield 214, 3) := by decide +kernel
theorem dX5_jarHere_21 : decode cX5_jarHere 21 = .ok (.iadd, 1) := by decide +kernel
theorem dX5_jarHere_22 : decode cX5_jarHere 22 = .ok (.sipush 999, 3) := by decide +kernel
theorem dX5_jarHere_25 : decode cX5_jarHere 25 = .ok (.invokevirtual 248, 3) := by decide +kernel
theorem dX5_jarHere_28 : decode cX5_jarHere 28 = .ok (.ifCond .eq 7, 3) := by decide +kernel
theorem dX5_jarHere_31 : decode cX5_jarHere 31 = .ok (.iconst 1, 1) := by decide +kernel
theorem dX5_jarHere_32 : decode cX5_jarHere 32 = .ok (.goto 4, 3) := by decide +kernel
theorem dX5_jarHere_35 : decode cX5_jarHere 35 = .ok (.iconst 0, 1) := by decide +kernel
theorem dX5_jarHere_36 : decode cX5_jarHere 36 = .ok (.ireturn, 1) := by decide +kernel
theorem dX5_itemHere_0 : decode cX5_itemHere 0 = .ok (.aload_n 0, 1) := by decide +kernel
theorem dX5_itemHere_1 : decode cX5_itemHere 1 = .ok (.invokevirtual 252, 3) := by decide +kernel
theorem dX5_itemHere_4 : decode cX5_itemHere 4 = .ok (.istore_n 1, 1) := by decide +kernel
theorem dX5_itemHere_5 : decode cX5_itemHere 5 = .ok (.iload_n 1, 1) := by decide +kernel
theorem dX5_itemHere_6 : decode cX5_itemHere 6 = .ok (.ifCond .lt 9, 3) := by decide +kernel
theorem dX5_itemHere_9 : decode cX5_itemHere 9 = .ok (.aload_n 0, 1) := by decide +kernel
theorem dX5_itemHere_10 : decode cX5_itemHere 10 = .ok (.iload_n 1, 1) := by decide +kernel
theorem dX5_itemHere_11 : decode cX5_itemHere 11 = .ok (.invokevirtual 255, 3) := by decide +kernel
theorem dX5_itemHere_14 : decode cX5_itemHere 14 = .ok (.ireturn, 1) := by decide +kernel
theorem dX5_itemHere_15 : decode cX5_itemHere 15 = .ok (.aload_n 0, 1) := by decide +kernel
theorem dX5_itemHere_16 : decode cX5_itemHere 16 = .ok (.bipush 102, 2) := by decide +kernel
theorem dX5_itemHere_18 : decode cX5_itemHere 18 = .ok (.bipush 105, 2) := by decide +kernel
theorem dX5_itemHere_20 : decode cX5_itemHere 20 = .ok (.bipush 115, 2) := by decide +kernel
theorem dX5_itemHere_22 : decode cX5_itemHere 22 = .ok (.bipush 104, 2) := by decide +kernel
theorem dX5_itemHere_24 : decode cX5_itemHere 24 = .ok (.invokevirtual 235, 3) := by decide +kernel
theorem dX5_itemHere_27 : decode cX5_itemHere 27 = .ok (.ifCond .eq 8, 3) := by decide +kernel
theorem dX5_itemHere_30 : decode cX5_itemHere 30 = .ok (.aload_n 0, 1) := by decide +kernel
theorem dX5_itemHere_31 : decode cX5_itemHere 31 = .ok (.invokevirtual 258, 3) := by decide +kernel
theorem dX5_itemHere_34 : decode cX5_itemHere 34 = .ok (.ireturn, 1) := by decide +kernel
theorem dX5_itemHere_35 : decode cX5_itemHere 35 = .ok (.aload_n 0, 1) := by decide +kernel
theorem dX5_itemHere_36 : decode cX5_itemHere 36 = .ok (.iconst 3, 1) := by decide +kernel
theorem dX5_itemHere_37 : decode cX5_itemHere 37 = .ok (.invokevirtual 220, 3) := by decide +kernel
theorem dX5_itemHere_40 : decode cX5_itemHere 40 = .ok (.ifCond .eq 24, 3) := by decide +kernel
theorem dX5_itemHere_43 : decode cX5_itemHere 43 = .ok (.aload_n 0, 1) := by decide +kernel
theorem dX5_itemHere_44 : decode cX5_itemHere 44 = .ok (.iconst 0, 1) := by decide +kernel
theorem dX5_itemHere_45 : decode cX5_itemHere 45 = .ok (.bipush 106, 2) := by decide +kernel
theorem dX5_itemHere_47 : decode cX5_itemHere 47 = .ok (.bipush 97, 2) := by decide +kernel
theorem dX5_itemHere_49 : decode cX5_itemHere 49 = .ok (.bipush 114, 2) := by decide +kernel
theorem dX5_itemHere_51 : decode cX5_itemHere 51 = .ok (.invokevirtual 223, 3) := by decide +kernel
theorem dX5_itemHere_54 : decode cX5_itemHere 54 = .ok (.ifCond .eq 10, 3) := by decide +kernel
theorem dX5_itemHere_57 : decode cX5_itemHere 57 = .ok (.aload_n 0, 1) := by decide +kernel
theorem dX5_itemHere_58 : decode cX5_itemHere 58 = .ok (.invokevirtual 261, 3) := by decide +kernel
theorem dX5_itemHere_61 : decode cX5_itemHere 61 = .ok (.goto 7, 3) := by decide +kernel
theorem dX5_itemHere_64 : decode cX5_itemHere 64 = .ok (.aload_n 0, 1) := by decide +kernel
theorem dX5_itemHere_65 : decode cX5_itemHere 65 = .ok (.invokevirtual 227, 3) := by decide +kernel
theorem dX5_itemHere_68 : decode cX5_itemHere 68 = .ok (.ireturn, 1) := by decide +kernel
theorem dX5_text_0 : decode cX5_text 0 = .ok (.aload_n 0, 1) := by decide +kernel
theorem dX5_text_1 : decode cX5_text 1 = .ok (.getfield 7, 3) := by decide +kernel
theorem dX5_text_4 : decode cX5_text 4 = .ok (.aload_n 0, 1) := by decide +kernel
theorem dX5_text_5 : decode cX5_text 5 = .ok (.getfield 16, 3) := by decide +kernel
theorem dX5_text_8 : decode cX5_text 8 = .ok (.invokestatic 153, 3) := by decide +kernel
theorem dX5_text_11 : decode cX5_text 11 = .ok (.aload_n 0, 1) := by decide +kernel
theorem dX5_text_12 : decode cX5_text 12 = .ok (.iconst 0, 1) := by decide +kernel
theorem dX5_text_13 : decode cX5_text 13 = .ok (.putfield 196, 3) := by decide +kernel
theorem dX5_text_16 : decode cX5_text 16 = .ok (.aload_n 0, 1) := by decide +kernel
theorem dX5_text_17 : decode cX5_text 17 = .ok (.invokevirtual 242, 3) := by decide +kernel
theorem dX5_text_20 : decode cX5_text 20 = .ok (.iconst 1, 1) := by decide +kernel
theorem dX5_text_21 : decode cX5_text 21 = .ok (.istore_n 1, 1) := by decide +kernel
theorem dX5_text_22 : decode cX5_text 22 = .ok (.aload_n 0, 1) := by decide +kernel
theorem dX5_text_23 : decode cX5_text 23 = .ok (.invokevirtual 264, 3) := by decide +kernel
theorem dX5_text_26 : decode cX5_text 26 = .ok (.istore_n 2, 1) := by decide +kernel
theorem dX5_text_27 : decode cX5_text 27 = .ok (.iload_n 2, 1) := by decide +kernel
theorem dX5_text_28 : decode cX5_text 28 = .ok (.ifCond .eq 26, 3) := by decide +kernel
theorem dX5_text_31 : decode cX5_text 31 = .ok (.aload_n 0, 1) := by decide +kernel
theorem dX5_text_32 : decode cX5_text 32 = .ok (.getfield 211, 3) := by decide +kernel
theorem dX5_text_35 : decode cX5_text 35 = .ok (.iconst 3, 1) := by decide +kernel
theorem dX5_text_36 : decode cX5_text 36 = .ok (.if_icmp .ne 18, 3) := by decide +kernel
theorem dX5_text_39 : decode cX5_text 39 = .ok (.aload_n 0, 1) := by decide +kernel
theorem dX5_text_40 : decode cX5_text 40 = .ok (.invokevirtual 242, 3) := by decide +kernel
theorem dX5_text_43 : decode cX5_text 43 = .ok (.aload_n 0, 1) := by decide +kernel
theorem dX5_text_44 : decode cX5_text 44 = .ok (.invokevirtual 264, 3) := by decide +kernel
theorem dX5_text_47 : decode cX5_text 47 = .ok (.istore_n 2, 1) := by decide +kernel
theorem dX5_text_48 : decode cX5_text 48 = .ok (.iinc 1 1, 3) := by decide +kernel
theorem dX5_text_51 : decode cX5_text 51 = .ok (.goto (-24), 3) := by decide +kernel
theorem dX5_text_54 : decode cX5_text 54 = .ok (.iload_n 2, 1) := by decide +kernel
theorem dX5_text_55 : decode cX5_text 55 = .ok (.ifCond .eq 21, 3) := by decide +kernel
theorem dX5_text_58 : decode cX5_text 58 = .ok (.aload_n 0, 1) := by decide +kernel
theorem dX5_text_59 : decode cX5_text 59 = .ok (.getfield 211, 3) := by decide +kernel
theorem dX5_text_62 : decode cX5_text 62 = .ok (.ifCond .eq 10, 3) := by decide +kernel
theorem dX5_text_65 : decode cX5_text 65 = .ok (.aload_n 0, 1) := by decide +kernel
theorem dX5_text_66 : decode cX5_text 66 = .ok (.invokevirtual 227, 3) := by decide +kernel
theorem dX5_text_69 : decode cX5_text 69 = .ok (.ifCond .eq 7, 3) := by decide +kernel
theorem dX5_text_72 : decode cX5_text 72 = .ok (.iconst 1, 1) := by decide +kernel
theorem dX5_text_73 : decode cX5_text 73 = .ok (.goto 4, 3) := by decide +kernel
theorem dX5_text_76 : decode cX5_text 76 = .ok (.iconst 0, 1) := by decide +kernel
theorem dX5_text_77 : decode cX5_text 77 = .ok (.istore_n 2, 1) := by decide +kernel
theorem dX5_text_78 : decode cX5_text 78 = .ok (.aload_n 0, 1) := by decide +kernel
theorem dX5_text_79 : decode cX5_text 79 = .ok (.iconst 0, 1) := by decide +kernel
theorem dX5_text_80 : decode cX5_text 80 = .ok (.putfield 192, 3) := by decide +kernel
theorem dX5_text_83 : decode cX5_text 83 = .ok (.iload_n 2, 1) := by decide +kernel
theorem dX5_text_84 : decode cX5_text 84 = .ok (.ifCond .ne 14, 3) := by decide +kernel
theorem dX5_text_87 : decode cX5_text 87 = .ok (.aload_n 0, 1) := by decide +kernel
theorem dX5_text_88 : decode cX5_text 88 = .ok (.getfield 16, 3) := by decide +kernel
theorem dX5_text_91 : decode cX5_text 91 = .ok (.aload_n 0, 1) := by decide +kernel
theorem dX5_text_92 : decode cX5_text 92 = .ok (.getfield 7, 3) := by decide +kernel
theorem dX5_text_95 : decode cX5_text 95 = .ok (.invokestatic 153, 3) := by decide +kernel
theorem dX5_text_98 : decode cX5_text 98 = .ok (.iload_n 2, 1) := by decide +kernel
theorem dX5_text_99 : decode cX5_text 99 = .ok (.ifCond .eq 7, 3) := by decide +kernel
theorem dX5_text_102 : decode cX5_text 102 = .ok (.iload_n 1, 1) := by decide +kernel
theorem dX5_text_103 : decode cX5_text 103 = .ok (.goto 9, 3) := by decide +kernel
theorem dX5_text_106 : decode cX5_text 106 = .ok (.iconst (-1), 1) := by decide +kernel
theorem dX5_text_107 : decode cX5_text 107 = .ok (.aload_n 0, 1) := by decide +kernel
theorem dX5_text_108 : decode cX5_text 108 = .ok (.getfield 217, 3) := by decide +kernel
theorem dX5_text_111 : decode cX5_text 111 = .ok (.isub, 1) := by decide +kernel
theorem dX5_text_112 : decode cX5_text 112 = .ok (.ireturn, 1) := by decide +kernel
theorem dX5_hold_0 : decode cX5_hold 0 = .ok (.iload_n 1, 1) := by decide +kernel
theorem dX5_hold_1 : decode cX5_hold 1 = .ok (.i2l, 1) := by decide +kernel
theorem dX5_hold_2 : decode cX5_hold 2 = .ok (.lconst 0, 1) := by decide +kernel
theorem dX5_hold_3 : decode cX5_hold 3 = .ok (.ldc2_w 186, 3) := by decide +kernel
theorem dX5_hold_6 : decode cX5_hold 6 = .ok (.invokestatic 49, 3) := by decide +kernel
theorem dX5_hold_9 : decode cX5_hold 9 = .ok (.ifCond .eq 16, 3) := by decide +kernel
theorem dX5_hold_12 : decode cX5_hold 12 = .ok (.iload_n 2, 1) := by decide +kernel
theorem dX5_hold_13 : decode cX5_hold 13 = .ok (.iconst (-1), 1) := by decide +kernel
theorem dX5_hold_14 : decode cX5_hold 14 = .ok (.if_icmp .eq 18, 3) := by decide +kernel
theorem dX5_hold_17 : decode cX5_hold 17 = .ok (.aload_n 0, 1) := by decide +kernel
theorem dX5_hold_18 : decode cX5_hold 18 = .ok (.iload_n 2, 1) := by decide +kernel
theorem dX5_hold_19 : decode cX5_hold 19 = .ok (.invokevirtual 91, 3) := by decide +kernel
theorem dX5_hold_22 : decode cX5_hold 22 = .ok (.ifCond .ne 10, 3) := by decide +kernel
theorem dX5_hold_25 : decode cX5_hold 25 = .ok (.aload_n 0, 1) := by decide +kernel
theorem dX5_hold_26 : decode cX5_hold 26 = .ok (.ldc 37, 2) := by decide +kernel
theorem dX5_hold_28 : decode cX5_hold 28 = .ok (.invokevirtual 39, 3) := by decide +kernel
theorem dX5_hold_31 : decode cX5_hold 31 = .ok (.ireturn, 1) := by decide +kernel
theorem dX5_hold_32 : decode cX5_hold 32 = .ok (.aload_n 0, 1) := by decide +kernel
theorem dX5_hold_33 : decode cX5_hold 33 = .ok (.getfield 7, 3) := by decide +kernel
theorem dX5_hold_36 : decode cX5_hold 36 = .ok (.bipush 65, 2) := by decide +kernel
theorem dX5_hold_38 : decode cX5_hold 38 = .ok (.iload_n 1, 1) := by decide +kernel
theorem dX5_hold_39 : decode cX5_hold 39 = .ok (.iadd, 1) := by decide +kernel
theorem dX5_hold_40 : decode cX5_hold 40 = .ok (.iload_n 2, 1) := by decide +kernel
theorem dX5_hold_41 : decode cX5_hold 41 = .ok (.iastore, 1) := by decide +kernel
theorem dX5_hold_42 : decode cX5_hold 42 = .ok (.iconst 1, 1) := by decide +kernel
theorem dX5_hold_43 : decode cX5_hold 43 = .ok (.ireturn, 1) := by decide +kernel
theorem dX5_isUnder_0 : decode cX5_isUnder 0 = .ok (.iload_n 1, 1) := by decide +kernel
theorem dX5_isUnder_1 : decode cX5_isUnder 1 = .ok (.ifCond .eq 44, 3) := by decide +kernel
theorem dX5_isUnder_4 : decode cX5_isUnder 4 = .ok (.iload_n 0, 1) := by decide +kernel
theorem dX5_isUnder_5 : decode cX5_isUnder 5 = .ok (.iload_n 1, 1) := by decide +kernel
theorem dX5_isUnder_6 : decode cX5_isUnder 6 = .ok (.if_icmp .eq 39, 3) := by decide +kernel
theorem dX5_isUnder_9 : decode cX5_isUnder 9 = .ok (.iload_n 1, 1) := by decide +kernel
theorem dX5_isUnder_10 : decode cX5_isUnder 10 = .ok (.iconst 2, 1) := by decide +kernel
theorem dX5_isUnder_11 : decode cX5_isUnder 11 = .ok (.if_icmp .ne 13, 3) := by decide +kernel
theorem dX5_isUnder_14 : decode cX5_isUnder 14 = .ok (.iload_n 0, 1) := by decide +kernel
theorem dX5_isUnder_15 : decode cX5_isUnder 15 = .ok (.iconst 3, 1) := by decide +kernel
theorem dX5_isUnder_16 : decode cX5_isUnder 16 = .ok (.if_icmp .eq 29, 3) := by decide +kernel
theorem dX5_isUnder_19 : decode cX5_isUnder 19 = .ok (.iload_n 0, 1) := by decide +kernel
theorem dX5_isUnder_20 : decode cX5_isUnder 20 = .ok (.iconst 4, 1) := by decide +kernel
theorem dX5_isUnder_21 : decode cX5_isUnder 21 = .ok (.if_icmp .eq 24, 3) := by decide +kernel
theorem dX5_isUnder_24 : decode cX5_isUnder 24 = .ok (.iload_n 1, 1) := by decide +kernel
theorem dX5_isUnder_25 : decode cX5_isUnder 25 = .ok (.iconst 3, 1) := by decide +kernel
theorem dX5_isUnder_26 : decode cX5_isUnder 26 = .ok (.if_icmp .ne 8, 3) := by decide +kernel
theorem dX5_isUnder_29 : decode cX5_isUnder 29 = .ok (.iload_n 0, 1) := by decide +kernel
theorem dX5_isUnder_30 : decode cX5_isUnder 30 = .ok (.iconst 4, 1) := by decide +kernel
theorem dX5_isUnder_31 : decode cX5_isUnder 31 = .ok (.if_icmp .eq 14, 3) := by decide +kernel
theorem dX5_isUnder_34 : decode cX5_isUnder 34 = .ok (.iload_n 1, 1) := by decide +kernel
theorem dX5_isUnder_35 : decode cX5_isUnder 35 = .ok (.iconst 1, 1) := by decide +kernel
theorem dX5_isUnder_36 : decode cX5_isUnder 36 = .ok (.if_icmp .ne 13, 3) := by decide +kernel
theorem dX5_isUnder_39 : decode cX5_isUnder 39 = .ok (.iload_n 0, 1) := by decide +kernel
theorem dX5_isUnder_40 : decode cX5_isUnder 40 = .ok (.bipush 6, 2) := by decide +kernel
theorem dX5_isUnder_42 : decode cX5_isUnder 42 = .ok (.if_icmp .ne 7, 3) := by decide +kernel
theorem dX5_isUnder_45 : decode cX5_isUnder 45 = .ok (.iconst 1, 1) := by decide +kernel
theorem dX5_isUnder_46 : decode cX5_isUnder 46 = .ok (.goto 4, 3) := by decide +kernel
theorem dX5_isUnder_49 : decode cX5_isUnder 49 = .ok (.iconst 0, 1) := by decide +kernel
theorem dX5_isUnder_50 : decode cX5_isUnder 50 = .ok (.ireturn, 1) := by decide +kernel
theorem dX5_as_0 : decode cX5_as 0 = .ok (.iload_n 1, 1) := by decide +kernel
theorem dX5_as_1 : decode cX5_as 1 = .ok (.i2l, 1) := by decide +kernel
theorem dX5_as_2 : decode cX5_as 2 = .ok (.lconst 0, 1) := by decide +kernel
theorem dX5_as_3 : decode cX5_as 3 = .ok (.ldc2_w 186, 3) := by decide +kernel
theorem dX5_as_6 : decode cX5_as 6 = .ok (.invokestatic 49, 3) := by decide +kernel
theorem dX5_as_9 : decode cX5_as 9 = .ok (.ifCond .eq 15, 3) := by decide +kernel
theorem dX5_as_12 : decode cX5_as 12 = .ok (.iload_n 2, 1) := by decide +kernel
theorem dX5_as_13 : decode cX5_as 13 = .ok (.i2l, 1) := by decide +kernel
theorem dX5_as_14 : decode cX5_as 14 = .ok (.lconst 0, 1) := by decide +kernel
theorem dX5_as_15 : decode cX5_as 15 = .ok (.ldc2_w 73, 3) := by decide +kernel
theorem dX5_as_18 : decode cX5_as 18 = .ok (.invokestatic 49, 3) := by decide +kernel
theorem dX5_as_21 : decode cX5_as 21 = .ok (.ifCond .ne 10, 3) := by decide +kernel
theorem dX5_as_24 : decode cX5_as 24 = .ok (.aload_n 0, 1) := by decide +kernel
theorem dX5_as_25 : decode cX5_as 25 = .ok (.ldc 37, 2) := by decide +kernel
theorem dX5_as_27 : decode cX5_as 27 = .ok (.invokevirtual 39, 3) := by decide +kernel
theorem dX5_as_30 : decode cX5_as 30 = .ok (.ireturn, 1) := by decide +kernel
theorem dX5_as_31 : decode cX5_as 31 = .ok (.aload_n 0, 1) := by decide +kernel
theorem dX5_as_32 : decode cX5_as 32 = .ok (.getfield 7, 3) := by decide +kernel
theorem dX5_as_35 : decode cX5_as 35 = .ok (.bipush 65, 2) := by decide +kernel
theorem dX5_as_37 : decode cX5_as 37 = .ok (.iload_n 1, 1) := by decide +kernel
theorem dX5_as_38 : decode cX5_as 38 = .ok (.iadd, 1) := by decide +kernel
theorem dX5_as_39 : decode cX5_as 39 = .ok (.iaload, 1) := by decide +kernel
theorem dX5_as_40 : decode cX5_as 40 = .ok (.istore_n 3, 1) := by decide +kernel
theorem dX5_as_41 : decode cX5_as 41 = .ok (.iload_n 3, 1) := by decide +kernel
theorem dX5_as_42 : decode cX5_as 42 = .ok (.ifCond .ge 11, 3) := by decide +kernel
theorem dX5_as_45 : decode cX5_as 45 = .ok (.aload_n 0, 1) := by decide +kernel
theorem dX5_as_46 : decode cX5_as 46 = .ok (.ldc_w 267, 3) := by decide +kernel
theorem dX5_as_49 : decode cX5_as 49 = .ok (.invokevirtual 39, 3) := by decide +kernel
theorem dX5_as_52 : decode cX5_as 52 = .ok (.ireturn, 1) := by decide +kernel
theorem dX5_as_53 : decode cX5_as 53 = .ok (.aload_n 0, 1) := by decide +kernel
theorem dX5_as_54 : decode cX5_as 54 = .ok (.iload_n 3, 1) := by decide +kernel
theorem dX5_as_55 : decode cX5_as 55 = .ok (.iconst 0, 1) := by decide +kernel
theorem dX5_as_56 : decode cX5_as 56 = .ok (.invokevirtual 82, 3) := by decide +kernel
theorem dX5_as_59 : decode cX5_as 59 = .ok (.iload_n 2, 1) := by decide +kernel
theorem dX5_as_60 : decode cX5_as 60 = .ok (.invokestatic 268, 3) := by decide +kernel
theorem dX5_as_63 : decode cX5_as 63 = .ok (.ifCond .eq 7, 3) := by decide +kernel
theorem dX5_as_66 : decode cX5_as 66 = .ok (.iload_n 3, 1) := by decide +kernel
theorem dX5_as_67 : decode cX5_as 67 = .ok (.goto 10, 3) := by decide +kernel
theorem dX5_as_70 : decode cX5_as 70 = .ok (.aload_n 0, 1) := by decide +kernel
theorem dX5_as_71 : decode cX5_as 71 = .ok (.ldc_w 271, 3) := by decide +kernel
theorem dX5_as_74 : decode cX5_as 74 = .ok (.invokevirtual 39, 3) := by decide +kernel
theorem dX5_as_77 : decode cX5_as 77 = .ok (.ireturn, 1) := by decide +kernel
theorem dX5_isSheet_0 : decode cX5_isSheet 0 = .ok (.iload_n 0, 1) := by decide +kernel
theorem dX5_isSheet_1 : decode cX5_isSheet 1 = .ok (.ifCond .lt 12, 3) := by decide +kernel
theorem dX5_isSheet_4 : decode cX5_isSheet 4 = .ok (.iload_n 0, 1) := by decide +kernel
theorem dX5_isSheet_5 : decode cX5_isSheet 5 = .ok (.iconst 4, 1) := by decide +kernel
theorem dX5_isSheet_6 : decode cX5_isSheet 6 = .ok (.if_icmp .ge 7, 3) := by decide +kernel
theorem dX5_isSheet_9 : decode cX5_isSheet 9 = .ok (.iconst 1, 1) := by decide +kernel
theorem dX5_isSheet_10 : decode cX5_isSheet 10 = .ok (.goto 4, 3) := by decide +kernel
theorem dX5_isSheet_13 : decode cX5_isSheet 13 = .ok (.iconst 0, 1) := by decide +kernel
theorem dX5_isSheet_14 : decode cX5_isSheet 14 = .ok (.ireturn, 1) := by decide +kernel
theorem dX5_sheet_0 : decode cX5_sheet 0 = .ok (.iload_n 1, 1) := by decide +kernel
theorem dX5_sheet_1 : decode cX5_sheet 1 = .ok (.invokestatic 272, 3) := by decide +kernel
theorem dX5_sheet_4 : decode cX5_sheet 4 = .ok (.ifCond .eq 25, 3) := by decide +kernel
theorem dX5_sheet_7 : decode cX5_sheet 7 = .ok (.iload_n 2, 1) := by decide +kernel
theorem dX5_sheet_8 : decode cX5_sheet 8 = .ok (.ifCond .eq 28, 3) := by decide +kernel
theorem dX5_sheet_11 : decode cX5_sheet 11 = .ok (.iload_n 2, 1) := by decide +kernel
theorem dX5_sheet_12 : decode cX5_sheet 12 = .ok (.bipush 8, 2) := by decide +kernel
theorem dX5_sheet_14 : decode cX5_sheet 14 = .ok (.if_icmp .eq 22, 3) := by decide +kernel
theorem dX5_sheet_17 : decode cX5_sheet 17 = .ok (.iload_n 2, 1) := by decide +kernel
theorem dX5_sheet_18 : decode cX5_sheet 18 = .ok (.bipush 16, 2) := by decide +kernel
theorem dX5_sheet_20 : decode cX5_sheet 20 = .ok (.if_icmp .eq 16, 3) := by decide +kernel
theorem dX5_sheet_23 : decode cX5_sheet 23 = .ok (.iload_n 2, 1) := by decide +kernel
theorem dX5_sheet_24 : decode cX5_sheet 24 = .ok (.bipush 32, 2) := by decide +kernel
theorem dX5_sheet_26 : decode cX5_sheet 26 = .ok (.if_icmp .eq 10, 3) := by decide +kernel
theorem dX5_sheet_29 : decode cX5_sheet 29 = .ok (.aload_n 0, 1) := by decide +kernel
theorem dX5_sheet_30 : decode cX5_sheet 30 = .ok (.ldc 37, 2) := by decide +kernel
theorem dX5_sheet_32 : decode cX5_sheet 32 = .ok (.invokevirtual 39, 3) := by decide +kernel
theorem dX5_sheet_35 : decode cX5_sheet 35 = .ok (.ireturn, 1) := by decide +kernel
theorem dX5_sheet_36 : decode cX5_sheet 36 = .ok (.iload_n 3, 1) := by decide +kernel
theorem dX5_sheet_37 : decode cX5_sheet 37 = .ok (.ifCond .ge 11, 3) := by decide +kernel
theorem dX5_sheet_40 : decode cX5_sheet 40 = .ok (.aload_n 0, 1) := by decide +kernel
theorem dX5_sheet_41 : decode cX5_sheet 41 = .ok (.ldc_w 275, 3) := by decide +kernel
theorem dX5_sheet_44 : decode cX5_sheet 44 = .ok (.invokevirtual 39, 3) := by decide +kernel
theorem dX5_sheet_47 : decode cX5_sheet 47 = .ok (.ireturn, 1) := by decide +kernel
theorem dX5_sheet_48 : decode cX5_sheet 48 = .ok (.iload_n 3, 1) := by decide +kernel
theorem dX5_sheet_49 : decode cX5_sheet 49 = .ok (.bipush 40, 2) := by decide +kernel
theorem dX5_sheet_51 : decode cX5_sheet 51 = .ok (.if_icmp .le 10, 3) := by decide +kernel
theorem dX5_sheet_54 : decode cX5_sheet 54 = .ok (.aload_n 0, 1) := by decide +kernel
theorem dX5_sheet_55 : decode cX5_sheet 55 = .ok (.ldc 37, 2) := by decide +kernel
theorem dX5_sheet_57 : decode cX5_sheet 57 = .ok (.invokevirtual 39, 3) := by decide +kernel
theorem dX5_sheet_60 : decode cX5_sheet 60 = .ok (.ireturn, 1) := by decide +kernel
theorem dX5_sheet_61 : decode cX5_sheet 61 = .ok (.aload_n 0, 1) := by decide +kernel
theorem dX5_sheet_62 : decode cX5_sheet 62 = .ok (.getfield 28, 3) := by decide +kernel
theorem dX5_sheet_65 : decode cX5_sheet 65 = .ok (.iload_n 1, 1) := by decide +kernel
theorem dX5_sheet_66 : decode cX5_sheet 66 = .ok (.iload_n 2, 1) := by decide +kernel
theorem dX5_sheet_67 : decode cX5_sheet 67 = .ok (.ifCond .ne 7, 3) := by decide +kernel
theorem dX5_sheet_70 : decode cX5_sheet 70 = .ok (.iconst (-1), 1) := by decide +kernel
theorem dX5_sheet_71 : decode cX5_sheet 71 = .ok (.goto 4, 3) := by decide +kernel
theorem dX5_sheet_74 : decode cX5_sheet 74 = .ok (.iload_n 2, 1) := by decide +kernel
theorem dX5_sheet_75 : decode cX5_sheet 75 = .ok (.iastore, 1) := by decide +kernel
theorem dX5_sheet_76 : decode cX5_sheet 76 = .ok (.aload_n 0, 1) := by decide +kernel
theorem dX5_sheet_77 : decode cX5_sheet 77 = .ok (.getfield 31, 3) := by decide +kernel
theorem dX5_sheet_80 : decode cX5_sheet 80 = .ok (.iload_n 1, 1) := by decide +kernel
theorem dX5_sheet_81 : decode cX5_sheet 81 = .ok (.iload_n 2, 1) := by decide +kernel
theorem dX5_sheet_82 : decode cX5_sheet 82 = .ok (.ifCond .ne 7, 3) := by decide +kernel
theorem dX5_sheet_85 : decode cX5_sheet 85 = .ok (.iconst 0, 1) := by decide +kernel
theorem dX5_sheet_86 : decode cX5_sheet 86 = .ok (.goto 4, 3) := by decide +kernel
theorem dX5_sheet_89 : decode cX5_sheet 89 = .ok (.iload_n 3, 1) := by decide +kernel
theorem dX5_sheet_90 : decode cX5_sheet 90 = .ok (.iastore, 1) := by decide +kernel
theorem dX5_sheet_91 : decode cX5_sheet 91 = .ok (.iconst 0, 1) := by decide +kernel
theorem dX5_sheet_92 : decode cX5_sheet 92 = .ok (.istore 4, 2) := by decide +kernel
theorem dX5_sheet_94 : decode cX5_sheet 94 = .ok (.iload 4, 2) := by decide +kernel
theorem dX5_sheet_96 : decode cX5_sheet 96 = .ok (.bipush 40, 2) := by decide +kernel
theorem dX5_sheet_98 : decode cX5_sheet 98 = .ok (.if_icmp .ge 22, 3) := by decide +kernel
theorem dX5_sheet_101 : decode cX5_sheet 101 = .ok (.aload_n 0, 1) := by decide +kernel
theorem dX5_sheet_102 : decode cX5_sheet 102 = .ok (.getfield 34, 3) := by decide +kernel
theorem dX5_sheet_105 : decode cX5_sheet 105 = .ok (.bipush 40, 2) := by decide +kernel
theorem dX5_sheet_107 : decode cX5_sheet 107 = .ok (.iload_n 1, 1) := by decide +kernel
theorem dX5_sheet_108 : decode cX5_sheet 108 = .ok (.imul, 1) := by decide +kernel
theorem dX5_sheet_109 : decode cX5_sheet 109 = .ok (.iload 4, 2) := by decide +kernel
theorem dX5_sheet_111 : decode cX5_sheet 111 = .ok (.iadd, 1) := by decide +kernel
theorem dX5_sheet_112 : decode cX5_sheet 112 = .ok (.iconst 0, 1) := by decide +kernel
theorem dX5_sheet_113 : decode cX5_sheet 113 = .ok (.iastore, 1) := by decide +kernel
theorem dX5_sheet_114 : decode cX5_sheet 114 = .ok (.iinc 4 1, 3) := by decide +kernel
theorem dX5_sheet_117 : decode cX5_sheet 117 = .ok (.goto (-23), 3) := by decide +kernel
theorem dX5_sheet_120 : decode cX5_sheet 120 = .ok (.aload_n 0, 1) := by decide +kernel
theorem dX5_sheet_121 : decode cX5_sheet 121 = .ok (.getfield 31, 3) := by decide +kernel
theorem dX5_sheet_124 : decode cX5_sheet 124 = .ok (.iload_n 1, 1) := by decide +kernel
theorem dX5_sheet_125 : decode cX5_sheet 125 = .ok (.iaload, 1) := by decide +kernel
theorem dX5_sheet_126 : decode cX5_sheet 126 = .ok (.ireturn, 1) := by decide +kernel
theorem dX5_write_0 : decode cX5_write 0 = .ok (.iload_n 1, 1) := by decide +kernel
theorem dX5_write_1 : decode cX5_write 1 = .ok (.invokestatic 272, 3) := by decide +kernel
theorem dX5_write_4 : decode cX5_write 4 = .ok (.ifCond .ne 10, 3) := by decide +kernel
theorem dX5_write_7 : decode cX5_write 7 = .ok (.aload_n 0, 1) := by decide +kernel
theorem dX5_write_8 : decode cX5_write 8 = .ok (.ldc 37, 2) := by decide +kernel
theorem dX5_write_10 : decode cX5_write 10 = .ok (.invokevirtual 39, 3) := by decide +kernel
theorem dX5_write_13 : decode cX5_write 13 = .ok (.ireturn, 1) := by decide +kernel
theorem dX5_write_14 : decode cX5_write 14 = .ok (.aload_n 0, 1) := by decide +kernel
theorem dX5_write_15 : decode cX5_write 15 = .ok (.getfield 28, 3) := by decide +kernel
theorem dX5_write_18 : decode cX5_write 18 = .ok (.iload_n 1, 1) := by decide +kernel
theorem dX5_write_19 : decode cX5_write 19 = .ok (.iaload, 1) := by decide +kernel
theorem dX5_write_20 : decode cX5_write 20 = .ok (.ifCond .ge 11, 3) := by decide +kernel
theorem dX5_write_23 : decode cX5_write 23 = .ok (.aload_n 0, 1) := by decide +kernel
theorem dX5_write_24 : decode cX5_write 24 = .ok (.ldc_w 267, 3) := by decide +kernel
theorem dX5_write_27 : decode cX5_write 27 = .ok (.invokevirtual 39, 3) := by decide +kernel
theorem dX5_write_30 : decode cX5_write 30 = .ok (.ireturn, 1) := by decide +kernel
theorem dX5_write_31 : decode cX5_write 31 = .ok (.iload_n 2, 1) := by decide +kernel
theorem dX5_write_32 : decode cX5_write 32 = .ok (.i2l, 1) := by decide +kernel
theorem dX5_write_33 : decode cX5_write 33 = .ok (.lconst 0, 1) := by decide +kernel
theorem dX5_write_34 : decode cX5_write 34 = .ok (.aload_n 0, 1) := by decide +kernel
theorem dX5_write_35 : decode cX5_write 35 = .ok (.getfield 31, 3) := by decide +kernel
theorem dX5_write_38 : decode cX5_write 38 = .ok (.iload_n 1, 1) := by decide +kernel
theorem dX5_write_39 : decode cX5_write 39 = .ok (.iaload, 1) := by decide +kernel
theorem dX5_write_40 : decode cX5_write 40 = .ok (.iconst 1, 1) := by decide +kernel
theorem dX5_write_41 : decode cX5_write 41 = .ok (.isub, 1) := by decide +kernel
theorem dX5_write_42 : decode cX5_write 42 = .ok (.i2l, 1) := by decide +kernel
theorem dX5_write_43 : decode cX5_write 43 = .ok (.invokestatic 49, 3) := by decide +kernel
theorem dX5_write_46 : decode cX5_write 46 = .ok (.ifCond .ne 10, 3) := by decide +kernel
theorem dX5_write_49 : decode cX5_write 49 = .ok (.aload_n 0, 1) := by decide +kernel
theorem dX5_write_50 : decode cX5_write 50 = .ok (.ldc 37, 2) := by decide +kernel
theorem dX5_write_52 : decode cX5_write 52 = .ok (.invokevirtual 39, 3) := by decide +kernel
theorem dX5_write_55 : decode cX5_write 55 = .ok (.ireturn, 1) := by decide +kernel
theorem dX5_write_56 : decode cX5_write 56 = .ok (.aload_n 0, 1) := by decide +kernel
theorem dX5_write_57 : decode cX5_write 57 = .ok (.getfield 34, 3) := by decide +kernel
theorem dX5_write_60 : decode cX5_write 60 = .ok (.bipush 40, 2) := by decide +kernel
theorem dX5_write_62 : decode cX5_write 62 = .ok (.iload_n 1, 1) := by decide +kernel
theorem dX5_write_63 : decode cX5_write 63 = .ok (.imul, 1) := by decide +kernel
theorem dX5_write_64 : decode cX5_write 64 = .ok (.iload_n 2, 1) := by decide +kernel
theorem dX5_write_65 : decode cX5_write 65 = .ok (.iadd, 1) := by decide +kernel
theorem dX5_write_66 : decode cX5_write 66 = .ok (.aload_n 0, 1) := by decide +kernel
theorem dX5_write_67 : decode cX5_write 67 = .ok (.getfield 28, 3) := by decide +kernel
theorem dX5_write_70 : decode cX5_write 70 = .ok (.iload_n 1, 1) := by decide +kernel
theorem dX5_write_71 : decode cX5_write 71 = .ok (.iaload, 1) := by decide +kernel
theorem dX5_write_72 : decode cX5_write 72 = .ok (.bipush 8, 2) := by decide +kernel
theorem dX5_write_74 : decode cX5_write 74 = .ok (.if_icmp .ne 8, 3) := by decide +kernel
theorem dX5_write_77 : decode cX5_write 77 = .ok (.iload_n 3, 1) := by decide +kernel
theorem dX5_write_78 : decode cX5_write 78 = .ok (.i2b, 1) := by decide +kernel
theorem dX5_write_79 : decode cX5_write 79 = .ok (.goto 20, 3) := by decide +kernel
theorem dX5_write_82 : decode cX5_write 82 = .ok (.aload_n 0, 1) := by decide +kernel
theorem dX5_write_83 : decode cX5_write 83 = .ok (.getfield 28, 3) := by decide +kernel
theorem dX5_write_86 : decode cX5_write 86 = .ok (.iload_n 1, 1) := by decide +kernel
theorem dX5_write_87 : decode cX5_write 87 = .ok (.iaload, 1) := by decide +kernel
theorem dX5_write_88 : decode cX5_write 88 = .ok (.bipush 16, 2) := by decide +kernel
theorem dX5_write_90 : decode cX5_write 90 = .ok (.if_icmp .ne 8, 3) := by decide +kernel
theorem dX5_write_93 : decode cX5_write 93 = .ok (.iload_n 3, 1) := by decide +kernel
theorem dX5_write_94 : decode cX5_write 94 = .ok (.i2s, 1) := by decide +kernel
theorem dX5_write_95 : decode cX5_write 95 = .ok (.goto 4, 3) := by decide +kernel
theorem dX5_write_98 : decode cX5_write 98 = .ok (.iload_n 3, 1) := by decide +kernel
theorem dX5_write_99 : decode cX5_write 99 = .ok (.iastore, 1) := by decide +kernel
theorem dX5_write_100 : decode cX5_write 100 = .ok (.iconst 1, 1) := by decide +kernel
theorem dX5_write_101 : decode cX5_write 101 = .ok (.ireturn, 1) := by decide +kernel
theorem dX5_copy_0 : decode cX5_copy 0 = .ok (.iload_n 1, 1) := by decide +kernel
theorem dX5_copy_1 : decode cX5_copy 1 = .ok (.invokestatic 272, 3) := by decide +kernel
theorem dX5_copy_4 : decode cX5_copy 4 = .ok (.ifCond .eq 10, 3) := by decide +kernel
theorem dX5_copy_7 : decode cX5_copy 7 = .ok (.iload_n 3, 1) := by decide +kernel
theorem dX5_copy_8 : decode cX5_copy 8 = .ok (.invokestatic 272, 3) := by decide +kernel
theorem dX5_copy_11 : decode cX5_copy 11 = .ok (.ifCond .ne 10, 3) := by decide +kernel
theorem dX5_copy_14 : decode cX5_copy 14 = .ok (.aload_n 0, 1) := by decide +kernel
theorem dX5_copy_15 : decode cX5_copy 15 = .ok (.ldc 37, 2) := by decide +kernel
theorem dX5_copy_17 : decode cX5_copy 17 = .ok (.invokevirtual 39, 3) := by decide +kernel
theorem dX5_copy_20 : decode cX5_copy 20 = .ok (.ireturn, 1) := by decide +kernel
theorem dX5_copy_21 : decode cX5_copy 21 = .ok (.aload_n 0, 1) := by decide +kernel
theorem dX5_copy_22 : decode cX5_copy 22 = .ok (.getfield 28, 3) := by decide +kernel
theorem dX5_copy_25 : decode cX5_copy 25 = .ok (.iload_n 1, 1) := by decide +kernel
theorem dX5_copy_26 : decode cX5_copy 26 = .ok (.iaload, 1) := by decide +kernel
theorem dX5_copy_27 : decode cX5_copy 27 = .ok (.ifCond .lt 12, 3) := by decide +kernel
theorem dX5_copy_30 : decode cX5_copy 30 = .ok (.aload_n 0, 1) := by decide +kernel
theorem dX5_copy_31 : decode cX5_copy 31 = .ok (.getfield 28, 3) := by decide +kernel
theorem dX5_copy_34 : decode cX5_copy 34 = .ok (.iload_n 3, 1) := by decide +kernel
theorem dX5_copy_35 : decode cX5_copy 35 = .ok (.iaload, 1) := by decide +kernel
theorem dX5_copy_36 : decode cX5_copy 36 = .ok (.ifCond .ge 11, 3) := by decide +kernel
theorem dX5_copy_39 : decode cX5_copy 39 = .ok (.aload_n 0, 1) := by decide +kernel
theorem dX5_copy_40 : decode cX5_copy 40 = .ok (.ldc_w 267, 3) := by decide +kernel
theorem dX5_copy_43 : decode cX5_copy 43 = .ok (.invokevirtual 39, 3) := by decide +kernel
theorem dX5_copy_46 : decode cX5_copy 46 = .ok (.ireturn, 1) := by decide +kernel
theorem dX5_copy_47 : decode cX5_copy 47 = .ok (.aload_n 0, 1) := by decide +kernel
theorem dX5_copy_48 : decode cX5_copy 48 = .ok (.getfield 28, 3) := by decide +kernel
theorem dX5_copy_51 : decode cX5_copy 51 = .ok (.iload_n 1, 1) := by decide +kernel
theorem dX5_copy_52 : decode cX5_copy 52 = .ok (.iaload, 1) := by decide +kernel
theorem dX5_copy_53 : decode cX5_copy 53 = .ok (.aload_n 0, 1) := by decide +kernel
theorem dX5_copy_54 : decode cX5_copy 54 = .ok (.getfield 28, 3) := by decide +kernel
theorem dX5_copy_57 : decode cX5_copy 57 = .ok (.iload_n 3, 1) := by decide +kernel
theorem dX5_copy_58 : decode cX5_copy 58 = .ok (.iaload, 1) := by decide +kernel
theorem dX5_copy_59 : decode cX5_copy 59 = .ok (.if_icmp .eq 11, 3) := by decide +kernel
theorem dX5_copy_62 : decode cX5_copy 62 = .ok (.aload_n 0, 1) := by decide +kernel
theorem dX5_copy_63 : decode cX5_copy 63 = .ok (.ldc_w 271, 3) := by decide +kernel
theorem dX5_copy_66 : decode cX5_copy 66 = .ok (.invokevirtual 39, 3) := by decide +kernel
theorem dX5_copy_69 : decode cX5_copy 69 = .ok (.ireturn, 1) := by decide +kernel
theorem dX5_copy_70 : decode cX5_copy 70 = .ok (.iload_n 2, 1) := by decide +kernel
theorem dX5_copy_71 : decode cX5_copy 71 = .ok (.ifCond .lt 40, 3) := by decide +kernel
theorem dX5_copy_74 : decode cX5_copy 74 = .ok (.iload 4, 2) := by decide +kernel
theorem dX5_copy_76 : decode cX5_copy 76 = .ok (.ifCond .lt 35, 3) := by decide +kernel
theorem dX5_copy_79 : decode cX5_copy 79 = .ok (.iload 5, 2) := by decide +kernel
theorem dX5_copy_81 : decode cX5_copy 81 = .ok (.ifCond .lt 30, 3) := by decide +kernel
theorem dX5_copy_84 : decode cX5_copy 84 = .ok (.iload 5, 2) := by decide +kernel
theorem dX5_copy_86 : decode cX5_copy 86 = .ok (.aload_n 0, 1) := by decide +kernel
theorem dX5_copy_87 : decode cX5_copy 87 = .ok (.getfield 31, 3) := by decide +kernel
theorem dX5_copy_90 : decode cX5_copy 90 = .ok (.iload_n 1, 1) := by decide +kernel
theorem dX5_copy_91 : decode cX5_copy 91 = .ok (.iaload, 1) := by decide +kernel
theorem dX5_copy_92 : decode cX5_copy 92 = .ok (.iload_n 2, 1) := by decide +kernel
theorem dX5_copy_93 : decode cX5_copy 93 = .ok (.isub, 1) := by decide +kernel
theorem dX5_copy_94 : decode cX5_copy 94 = .ok (.if_icmp .gt 17, 3) := by decide +kernel
theorem dX5_copy_97 : decode cX5_copy 97 = .ok (.iload 5, 2) := by decide +kernel
theorem dX5_copy_99 : decode cX5_copy 99 = .ok (.aload_n 0, 1) := by decide +kernel
theorem dX5_copy_100 : decode cX5_copy 100 = .ok (.getfield 31, 3) := by decide +kernel
theorem dX5_copy_103 : decode cX5_copy 103 = .ok (.iload_n 3, 1) := by decide +kernel
theorem dX5_copy_104 : decode cX5_copy 104 = .ok (.iaload, 1) := by decide +kernel
theorem dX5_copy_105 : decode cX5_copy 105 = .ok (.iload 4, 2) := by decide +kernel
theorem dX5_copy_107 : decode cX5_copy 107 = .ok (.isub, 1) := by decide +kernel
theorem dX5_copy_108 : decode cX5_copy 108 = .ok (.if_icmp .le 10, 3) := by decide +kernel
theorem dX5_copy_111 : decode cX5_copy 111 = .ok (.aload_n 0, 1) := by decide +kernel
theorem dX5_copy_112 : decode cX5_copy 112 = .ok (.ldc 37, 2) := by decide +kernel
theorem dX5_copy_114 : decode cX5_copy 114 = .ok (.invokevirtual 39, 3) := by decide +kernel
theorem dX5_copy_117 : decode cX5_copy 117 = .ok (.ireturn, 1) := by decide +kernel
theorem dX5_copy_118 : decode cX5_copy 118 = .ok (.bipush 40, 2) := by decide +kernel
theorem dX5_copy_120 : decode cX5_copy 120 = .ok (.iload_n 1, 1) := by decide +kernel
theorem dX5_copy_121 : decode cX5_copy 121 = .ok (.imul, 1) := by decide +kernel
theorem dX5_copy_122 : decode cX5_copy 122 = .ok (.iload_n 2, 1) := by decide +kernel
theorem dX5_copy_123 : decode cX5_copy 123 = .ok (.iadd, 1) := by decide +kernel
theorem dX5_copy_124 : decode cX5_copy 124 = .ok (.istore 6, 2) := by decide +kernel
theorem dX5_copy_126 : decode cX5_copy 126 = .ok (.bipush 40, 2) := by decide +kernel
theorem dX5_copy_128 : decode cX5_copy 128 = .ok (.iload_n 3, 1) := by decide +kernel
theorem dX5_copy_129 : decode cX5_copy 129 = .ok (.imul, 1) := by decide +kernel
theorem dX5_copy_130 : decode cX5_copy 130 = .ok (.iload 4, 2) := by decide +kernel
theorem dX5_copy_132 : decode cX5_copy 132 = .ok (.iadd, 1) := by decide +kernel
theorem dX5_copy_133 : decode cX5_copy 133 = .ok (.istore 7, 2) := by decide +kernel
theorem dX5_copy_135 : decode cX5_copy 135 = .ok (.iconst 0, 1) := by decide +kernel
theorem dX5_copy_136 : decode cX5_copy 136 = .ok (.istore 8, 2) := by decide +kernel
theorem dX5_copy_138 : decode cX5_copy 138 = .ok (.iload 8, 2) := by decide +kernel
theorem dX5_copy_140 : decode cX5_copy 140 = .ok (.iload 5, 2) := by decide +kernel
theorem dX5_copy_142 : decode cX5_copy 142 = .ok (.if_icmp .ge 50, 3) := by decide +kernel
theorem dX5_copy_145 : decode cX5_copy 145 = .ok (.iload 6, 2) := by decide +kernel
theorem dX5_copy_147 : decode cX5_copy 147 = .ok (.iload 7, 2) := by decide +kernel
theorem dX5_copy_149 : decode cX5_copy 149 = .ok (.if_icmp .ge 13, 3) := by decide +kernel
theorem dX5_copy_152 : decode cX5_copy 152 = .ok (.iload 5, 2) := by decide +kernel
theorem dX5_copy_154 : decode cX5_copy 154 = .ok (.iconst 1, 1) := by decide +kernel
theorem dX5_copy_155 : decode cX5_copy 155 = .ok (.isub, 1) := by decide +kernel
theorem dX5_copy_156 : decode cX5_copy 156 = .ok (.iload 8, 2) := by decide +kernel
theorem dX5_copy_158 : decode cX5_copy 158 = .ok (.isub, 1) := by decide +kernel
theorem dX5_copy_159 : decode cX5_copy 159 = .ok (.goto 5, 3) := by decide +kernel
theorem dX5_copy_162 : decode cX5_copy 162 = .ok (.iload 8, 2) := by decide +kernel
theorem dX5_copy_164 : decode cX5_copy 164 = .ok (.istore 9, 2) := by decide +kernel
theorem dX5_copy_166 : decode cX5_copy 166 = .ok (.aload_n 0, 1) := by decide +kernel
theorem dX5_copy_167 : decode cX5_copy 167 = .ok (.getfield 34, 3) := by decide +kernel
theorem dX5_copy_170 : decode cX5_copy 170 = .ok (.iload 7, 2) := by decide +kernel
theorem dX5_copy_172 : decode cX5_copy 172 = .ok (.iload 9, 2) := by decide +kernel
theorem dX5_copy_174 : decode cX5_copy 174 = .ok (.iadd, 1) := by decide +kernel
theorem dX5_copy_175 : decode cX5_copy 175 = .ok (.aload_n 0, 1) := by decide +kernel
theorem dX5_copy_176 : decode cX5_copy 176 = .ok (.getfield 34, 3) := by decide +kernel
theorem dX5_copy_179 : decode cX5_copy 179 = .ok (.iload 6, 2) := by decide +kernel
theorem dX5_copy_181 : decode cX5_copy 181 = .ok (.iload 9, 2) := by decide +kernel
theorem dX5_copy_183 : decode cX5_copy 183 = .ok (.iadd, 1) := by decide +kernel
theorem dX5_copy_184 : decode cX5_copy 184 = .ok (.iaload, 1) := by decide +kernel
theorem dX5_copy_185 : decode cX5_copy 185 = .ok (.iastore, 1) := by decide +kernel
theorem dX5_copy_186 : decode cX5_copy 186 = .ok (.iinc 8 1, 3) := by decide +kernel
theorem dX5_copy_189 : decode cX5_copy 189 = .ok (.goto (-51), 3) := by decide +kernel
theorem dX5_copy_192 : decode cX5_copy 192 = .ok (.iload 5, 2) := by decide +kernel
theorem dX5_copy_194 : decode cX5_copy 194 = .ok (.ireturn, 1) := by decide +kernel
theorem dX5_wants_0 : decode cX5_wants 0 = .ok (.iload_n 1, 1) := by decide +kernel
theorem dX5_wants_1 : decode cX5_wants 1 = .ok (.invokestatic 272, 3) := by decide +kernel
theorem dX5_wants_4 : decode cX5_wants 4 = .ok (.ifCond .ne 8, 3) := by decide +kernel
theorem dX5_wants_7 : decode cX5_wants 7 = .ok (.ldc 37, 2) := by decide +kernel
theorem dX5_wants_9 : decode cX5_wants 9 = .ok (.goto 19, 3) := by decide +kernel
theorem dX5_wants_12 : decode cX5_wants 12 = .ok (.aload_n 0, 1) := by decide +kernel
theorem dX5_wants_13 : decode cX5_wants 13 = .ok (.getfield 28, 3) := by decide +kernel
theorem dX5_wants_16 : decode cX5_wants 16 = .ok (.iload_n 1, 1) := by decide +kernel
theorem dX5_wants_17 : decode cX5_wants 17 = .ok (.iaload, 1) := by decide +kernel
theorem dX5_wants_18 : decode cX5_wants 18 = .ok (.ifCond .ge 9, 3) := by decide +kernel
theorem dX5_wants_21 : decode cX5_wants 21 = .ok (.ldc_w 267, 3) := by decide +kernel
theorem dX5_wants_24 : decode cX5_wants 24 = .ok (.goto 4, 3) := by decide +kernel
theorem dX5_wants_27 : decode cX5_wants 27 = .ok (.iconst 0, 1) := by decide +kernel
theorem dX5_wants_28 : decode cX5_wants 28 = .ok (.ireturn, 1) := by decide +kernel
theorem dX5_load_0 : decode cX5_load 0 = .ok (.aload_n 0, 1) := by decide +kernel
theorem dX5_load_1 : decode cX5_load 1 = .ok (.iload_n 1, 1) := by decide +kernel
theorem dX5_load_2 : decode cX5_load 2 = .ok (.invokevirtual 177, 3) := by decide +kernel
theorem dX5_load_5 : decode cX5_load 5 = .ok (.ifCond .eq 13, 3) := by decide +kernel
theorem dX5_load_8 : decode cX5_load 8 = .ok (.aload_n 0, 1) := by decide +kernel
theorem dX5_load_9 : decode cX5_load 9 = .ok (.aload_n 0, 1) := by decide +kernel
theorem dX5_load_10 : decode cX5_load 10 = .ok (.iload_n 1, 1) := by decide +kernel
theorem dX5_load_11 : decode cX5_load 11 = .ok (.invokevirtual 177, 3) := by decide +kernel
theorem dX5_load_14 : decode cX5_load 14 = .ok (.invokevirtual 39, 3) := by decide +kernel
theorem dX5_load_17 : decode cX5_load 17 = .ok (.ireturn, 1) := by decide +kernel
theorem dX5_load_18 : decode cX5_load 18 = .ok (.iconst 0, 1) := by decide +kernel
theorem dX5_load_19 : decode cX5_load 19 = .ok (.istore_n 2, 1) := by decide +kernel
theorem dX5_load_20 : decode cX5_load 20 = .ok (.iload_n 2, 1) := by decide +kernel
theorem dX5_load_21 : decode cX5_load 21 = .ok (.aload_n 0, 1) := by decide +kernel
theorem dX5_load_22 : decode cX5_load 22 = .ok (.getfield 31, 3) := by decide +kernel
theorem dX5_load_25 : decode cX5_load 25 = .ok (.iload_n 1, 1) := by decide +kernel
theorem dX5_load_26 : decode cX5_load 26 = .ok (.iaload, 1) := by decide +kernel
theorem dX5_load_27 : decode cX5_load 27 = .ok (.if_icmp .ge 56, 3) := by decide +kernel
theorem dX5_load_30 : decode cX5_load 30 = .ok (.iload_n 2, 1) := by decide +kernel
theorem dX5_load_31 : decode cX5_load 31 = .ok (.bipush 10, 2) := by decide +kernel
theorem dX5_load_33 : decode cX5_load 33 = .ok (.if_icmp .ge 50, 3) := by decide +kernel
theorem dX5_load_36 : decode cX5_load 36 = .ok (.aload_n 0, 1) := by decide +kernel
theorem dX5_load_37 : decode cX5_load 37 = .ok (.getfield 34, 3) := by decide +kernel
theorem dX5_load_40 : decode cX5_load 40 = .ok (.bipush 40, 2) := by decide +kernel
theorem dX5_load_42 : decode cX5_load 42 = .ok (.iload_n 1, 1) := by decide +kernel
theorem dX5_load_43 : decode cX5_load 43 = .ok (.imul, 1) := by decide +kernel
theorem dX5_load_44 : decode cX5_load 44 = .ok (.iload_n 2, 1) := by decide +kernel
theorem dX5_load_45 : decode cX5_load 45 = .ok (.iadd, 1) := by decide +kernel
theorem dX5_load_46 : decode cX5_load 46 = .ok (.iaload, 1) := by decide +kernel
theorem dX5_load_47 : decode cX5_load 47 = .ok (.i2l, 1) := by decide +kernel
theorem dX5_load_48 : decode cX5_load 48 = .ok (.lconst 0, 1) := by decide +kernel
theorem dX5_load_49 : decode cX5_load 49 = .ok (.ldc2_w 47, 3) := by decide +kernel
theorem dX5_load_52 : decode cX5_load 52 = .ok (.invokestatic 49, 3) := by decide +kernel
theorem dX5_load_55 : decode cX5_load 55 = .ok (.ifCond .eq 28, 3) := by decide +kernel
theorem dX5_load_58 : decode cX5_load 58 = .ok (.aload_n 0, 1) := by decide +kernel
theorem dX5_load_59 : decode cX5_load 59 = .ok (.getfield 7, 3) := by decide +kernel
theorem dX5_load_62 : decode cX5_load 62 = .ok (.iconst 3, 1) := by decide +kernel
theorem dX5_load_63 : decode cX5_load 63 = .ok (.iload_n 2, 1) := by decide +kernel
theorem dX5_load_64 : decode cX5_load 64 = .ok (.iadd, 1) := by decide +kernel
theorem dX5_load_65 : decode cX5_load 65 = .ok (.aload_n 0, 1) := by decide +kernel
theorem dX5_load_66 : decode cX5_load 66 = .ok (.getfield 34, 3) := by decide +kernel
theorem dX5_load_69 : decode cX5_load 69 = .ok (.bipush 40, 2) := by decide +kernel
theorem dX5_load_71 : decode cX5_load 71 = .ok (.iload_n 1, 1) := by decide +kernel
theorem dX5_load_72 : decode cX5_load 72 = .ok (.imul, 1) := by decide +kernel
theorem dX5_load_73 : decode cX5_load 73 = .ok (.iload_n 2, 1) := by decide +kernel
theorem dX5_load_74 : decode cX5_load 74 = .ok (.iadd, 1) := by decide +kernel
theorem dX5_load_75 : decode cX5_load 75 = .ok (.iaload, 1) := by decide +kernel
theorem dX5_load_76 : decode cX5_load 76 = .ok (.iastore, 1) := by decide +kernel
theorem dX5_load_77 : decode cX5_load 77 = .ok (.iinc 2 1, 3) := by decide +kernel
theorem dX5_load_80 : decode cX5_load 80 = .ok (.goto (-60), 3) := by decide +kernel
theorem dX5_load_83 : decode cX5_load 83 = .ok (.iload_n 2, 1) := by decide +kernel
theorem dX5_load_84 : decode cX5_load 84 = .ok (.ireturn, 1) := by decide +kernel
theorem dX5_judge_0 : decode cX5_judge 0 = .ok (.aload_n 0, 1) := by decide +kernel
theorem dX5_judge_1 : decode cX5_judge 1 = .ok (.iload_n 1, 1) := by decide +kernel
theorem dX5_judge_2 : decode cX5_judge 2 = .ok (.invokevirtual 177, 3) := by decide +kernel
theorem dX5_judge_5 : decode cX5_judge 5 = .ok (.ifCond .eq 13, 3) := by decide +kernel
theorem dX5_judge_8 : decode cX5_judge 8 = .ok (.aload_n 0, 1) := by decide +kernel
theorem dX5_judge_9 : decode cX5_judge 9 = .ok (.aload_n 0, 1) := by decide +kernel
theorem dX5_judge_10 : decode cX5_judge 10 = .ok (.iload_n 1, 1) := by decide +kernel
theorem dX5_judge_11 : decode cX5_judge 11 = .ok (.invokevirtual 177, 3) := by decide +kernel
theorem dX5_judge_14 : decode cX5_judge 14 = .ok (.invokevirtual 39, 3) := by decide +kernel
theorem dX5_judge_17 : decode cX5_judge 17 = .ok (.ireturn, 1) := by decide +kernel
theorem dX5_judge_18 : decode cX5_judge 18 = .ok (.iconst 0, 1) := by decide +kernel
theorem dX5_judge_19 : decode cX5_judge 19 = .ok (.istore_n 2, 1) := by decide +kernel
theorem dX5_judge_20 : decode cX5_judge 20 = .ok (.iload_n 2, 1) := by decide +kernel
theorem dX5_judge_21 : decode cX5_judge 21 = .ok (.aload_n 0, 1) := by decide +kernel
theorem dX5_judge_22 : decode cX5_judge 22 = .ok (.getfield 31, 3) := by decide +kernel
theorem dX5_judge_25 : decode cX5_judge 25 = .ok (.iload_n 1, 1) := by decide +kernel
theorem dX5_judge_26 : decode cX5_judge 26 = .ok (.iaload, 1) := by decide +kernel
theorem dX5_judge_27 : decode cX5_judge 27 = .ok (.if_icmp .ge 37, 3) := by decide +kernel
theorem dX5_judge_30 : decode cX5_judge 30 = .ok (.aload_n 0, 1) := by decide +kernel
theorem dX5_judge_31 : decode cX5_judge 31 = .ok (.iload_n 2, 1) := by decide +kernel
theorem dX5_judge_32 : decode cX5_judge 32 = .ok (.invokevirtual 91, 3) := by decide +kernel
theorem dX5_judge_35 : decode cX5_judge 35 = .ok (.ifCond .eq 29, 3) := by decide +kernel
theorem dX5_judge_38 : decode cX5_judge 38 = .ok (.aload_n 0, 1) := by decide +kernel
theorem dX5_judge_39 : decode cX5_judge 39 = .ok (.getfield 34, 3) := by decide +kernel
theorem dX5_judge_42 : decode cX5_judge 42 = .ok (.bipush 40, 2) := by decide +kernel
theorem dX5_judge_44 : decode cX5_judge 44 = .ok (.iload_n 1, 1) := by decide +kernel
theorem dX5_judge_45 : decode cX5_judge 45 = .ok (.imul, 1) := by decide +kernel
theorem dX5_judge_46 : decode cX5_judge 46 = .ok (.iload_n 2, 1) := by decide +kernel
theorem dX5_judge_47 : decode cX5_judge 47 = .ok (.iadd, 1) := by decide +kernel
theorem dX5_judge_48 : decode cX5_judge 48 = .ok (.iaload, 1) := by decide +kernel
theorem dX5_judge_49 : decode cX5_judge 49 = .ok (.aload_n 0, 1) := by decide +kernel
theorem dX5_judge_50 : decode cX5_judge 50 = .ok (.iload_n 2, 1) := by decide +kernel
theorem dX5_judge_51 : decode cX5_judge 51 = .ok (.iconst 4, 1) := by decide +kernel
theorem dX5_judge_52 : decode cX5_judge 52 = .ok (.invokevirtual 82, 3) := by decide +kernel
theorem dX5_judge_55 : decode cX5_judge 55 = .ok (.if_icmp .ne 9, 3) := by decide +kernel
theorem dX5_judge_58 : decode cX5_judge 58 = .ok (.iinc 2 1, 3) := by decide +kernel
theorem dX5_judge_61 : decode cX5_judge 61 = .ok (.goto (-41), 3) := by decide +kernel
theorem dX5_judge_64 : decode cX5_judge 64 = .ok (.iload_n 2, 1) := by decide +kernel
theorem dX5_judge_65 : decode cX5_judge 65 = .ok (.aload_n 0, 1) := by decide +kernel
theorem dX5_judge_66 : decode cX5_judge 66 = .ok (.getfield 31, 3) := by decide +kernel
theorem dX5_judge_69 : decode cX5_judge 69 = .ok (.iload_n 1, 1) := by decide +kernel
theorem dX5_judge_70 : decode cX5_judge 70 = .ok (.iaload, 1) := by decide +kernel
theorem dX5_judge_71 : decode cX5_judge 71 = .ok (.if_icmp .ge 9, 3) := by decide +kernel
theorem dX5_judge_74 : decode cX5_judge 74 = .ok (.iconst 1, 1) := by decide +kernel
theorem dX5_judge_75 : decode cX5_judge 75 = .ok (.iload_n 2, 1) := by decide +kernel
theorem dX5_judge_76 : decode cX5_judge 76 = .ok (.iadd, 1) := by decide +kernel
theorem dX5_judge_77 : decode cX5_judge 77 = .ok (.goto 4, 3) := by decide +kernel
theorem dX5_judge_80 : decode cX5_judge 80 = .ok (.iconst 0, 1) := by decide +kernel
theorem dX5_judge_81 : decode cX5_judge 81 = .ok (.ireturn, 1) := by decide +kernel
theorem dX5_image_0 : decode cX5_image 0 = .ok (.aload_n 0, 1) := by decide +kernel
theorem dX5_image_1 : decode cX5_image 1 = .ok (.getfield 7, 3) := by decide +kernel
theorem dX5_image_4 : decode cX5_image 4 = .ok (.aload_n 0, 1) := by decide +kernel
theorem dX5_image_5 : decode cX5_image 5 = .ok (.getfield 13, 3) := by decide +kernel
theorem dX5_image_8 : decode cX5_image 8 = .ok (.invokestatic 153, 3) := by decide +kernel
theorem dX5_image_11 : decode cX5_image 11 = .ok (.aload_n 0, 1) := by decide +kernel
theorem dX5_image_12 : decode cX5_image 12 = .ok (.iconst 1, 1) := by decide +kernel
theorem dX5_image_13 : decode cX5_image 13 = .ok (.putfield 276, 3) := by decide +kernel
theorem dX5_image_16 : decode cX5_image 16 = .ok (.iconst 1, 1) := by decide +kernel
theorem dX5_image_17 : decode cX5_image 17 = .ok (.ireturn, 1) := by decide +kernel
theorem dX5_undo_0 : decode cX5_undo 0 = .ok (.aload_n 0, 1) := by decide +kernel
theorem dX5_undo_1 : decode cX5_undo 1 = .ok (.getfield 276, 3) := by decide +kernel
theorem dX5_undo_4 : decode cX5_undo 4 = .ok (.ifCond .ne 10, 3) := by decide +kernel
theorem dX5_undo_7 : decode cX5_undo 7 = .ok (.aload_n 0, 1) := by decide +kernel
theorem dX5_undo_8 : decode cX5_undo 8 = .ok (.ldc 38, 2) := by decide +kernel
theorem dX5_undo_10 : decode cX5_undo 10 = .ok (.invokevirtual 39, 3) := by decide +kernel
theorem dX5_undo_13 : decode cX5_undo 13 = .ok (.ireturn, 1) := by decide +kernel
theorem dX5_undo_14 : decode cX5_undo 14 = .ok (.aload_n 0, 1) := by decide +kernel
theorem dX5_undo_15 : decode cX5_undo 15 = .ok (.getfield 13, 3) := by decide +kernel
theorem dX5_undo_18 : decode cX5_undo 18 = .ok (.aload_n 0, 1) := by decide +kernel
theorem dX5_undo_19 : decode cX5_undo 19 = .ok (.getfield 7, 3) := by decide +kernel
theorem dX5_undo_22 : decode cX5_undo 22 = .ok (.invokestatic 153, 3) := by decide +kernel
theorem dX5_undo_25 : decode cX5_undo 25 = .ok (.aload_n 0, 1) := by decide +kernel
theorem dX5_undo_26 : decode cX5_undo 26 = .ok (.getfield 7, 3) := by decide +kernel
theorem dX5_undo_29 : decode cX5_undo 29 = .ok (.iconst 1, 1) := by decide +kernel
theorem dX5_undo_30 : decode cX5_undo 30 = .ok (.iaload, 1) := by decide +kernel
theorem dX5_undo_31 : decode cX5_undo 31 = .ok (.ireturn, 1) := by decide +kernel
theorem dX5_tear_0 : decode cX5_tear 0 = .ok (.aload_n 0, 1) := by decide +kernel
theorem dX5_tear_1 : decode cX5_tear 1 = .ok (.getfield 276, 3) := by decide +kernel
theorem dX5_tear_4 : decode cX5_tear 4 = .ok (.istore_n 1, 1) := by decide +kernel
theorem dX5_tear_5 : decode cX5_tear 5 = .ok (.aload_n 0, 1) := by decide +kernel
theorem dX5_tear_6 : decode cX5_tear 6 = .ok (.iconst 0, 1) := by decide +kernel
theorem dX5_tear_7 : decode cX5_tear 7 = .ok (.putfield 276, 3) := by decide +kernel
theorem dX5_tear_10 : decode cX5_tear 10 = .ok (.iload_n 1, 1) := by decide +kernel
theorem dX5_tear_11 : decode cX5_tear 11 = .ok (.ifCond .eq 7, 3) := by decide +kernel
theorem dX5_tear_14 : decode cX5_tear 14 = .ok (.iconst 1, 1) := by decide +kernel
theorem dX5_tear_15 : decode cX5_tear 15 = .ok (.goto 4, 3) := by decide +kernel
theorem dX5_tear_18 : decode cX5_tear 18 = .ok (.iconst 0, 1) := by decide +kernel
theorem dX5_tear_19 : decode cX5_tear 19 = .ok (.ireturn, 1) := by decide +kernel
theorem dX5_count_0 : decode cX5_count 0 = .ok (.iconst 0, 1) := by decide +kernel
theorem dX5_count_1 : decode cX5_count 1 = .ok (.istore_n 2, 1) := by decide +kernel
theorem dX5_count_2 : decode cX5_count 2 = .ok (.iload_n 1, 1) := by decide +kernel
theorem dX5_count_3 : decode cX5_count 3 = .ok (.tableswitch 124 0 7 #[45, 52, 59, 64, 70, 76, 81, 88], 45) := by decide +kernel
theorem dX5_count_48 : decode cX5_count 48 = .ok (.aload_n 0, 1) := by decide +kernel
theorem dX5_count_49 : decode cX5_count 49 = .ok (.getfield 7, 3) := by decide +kernel
theorem dX5_count_52 : decode cX5_count 52 = .ok (.iconst 1, 1) := by decide +kernel
theorem dX5_count_53 : decode cX5_count 53 = .ok (.iaload, 1) := by decide +kernel
theorem dX5_count_54 : decode cX5_count 54 = .ok (.ireturn, 1) := by decide +kernel
theorem dX5_count_55 : decode cX5_count 55 = .ok (.aload_n 0, 1) := by decide +kernel
theorem dX5_count_56 : decode cX5_count 56 = .ok (.getfield 7, 3) := by decide +kernel
theorem dX5_count_59 : decode cX5_count 59 = .ok (.iconst 0, 1) := by decide +kernel
theorem dX5_count_60 : decode cX5_count 60 = .ok (.iaload, 1) := by decide +kernel
theorem dX5_count_61 : decode cX5_count 61 = .ok (.ireturn, 1) := by decide +kernel
theorem dX5_count_62 : decode cX5_count 62 = .ok (.aload_n 0, 1) := by decide +kernel
theorem dX5_count_63 : decode cX5_count 63 = .ok (.invokevirtual 140, 3) := by decide +kernel
theorem dX5_count_66 : decode cX5_count 66 = .ok (.ireturn, 1) := by decide +kernel
theorem dX5_count_67 : decode cX5_count 67 = .ok (.aload_n 0, 1) := by decide +kernel
theorem dX5_count_68 : decode cX5_count 68 = .ok (.iconst 4, 1) := by decide +kernel
theorem dX5_count_69 : decode cX5_count 69 = .ok (.invokevirtual 137, 3) := by decide +kernel
theorem dX5_count_72 : decode cX5_count 72 = .ok (.ireturn, 1) := by decide +kernel
theorem dX5_count_73 : decode cX5_count 73 = .ok (.aload_n 0, 1) := by decide +kernel
theorem dX5_count_74 : decode cX5_count 74 = .ok (.iconst 3, 1) := by decide +kernel
theorem dX5_count_75 : decode cX5_count 75 = .ok (.invokevirtual 137, 3) := by decide +kernel
theorem dX5_count_78 : decode cX5_count 78 = .ok (.ireturn, 1) := by decide +kernel
theorem dX5_count_79 : decode cX5_count 79 = .ok (.aload_n 0, 1) := by decide +kernel
theorem dX5_count_80 : decode cX5_count 80 = .ok (.getfield 192, 3) := by decide +kernel
theorem dX5_count_83 : decode cX5_count 83 = .ok (.ireturn, 1) := by decide +kernel
theorem dX5_count_84 : decode cX5_count 84 = .ok (.aload_n 0, 1) := by decide +kernel
theorem dX5_count_85 : decode cX5_count 85 = .ok (.getfield 7, 3) := by decide +kernel
theorem dX5_count_88 : decode cX5_count 88 = .ok (.iconst 2, 1) := by decide +kernel
theorem dX5_count_89 : decode cX5_count 89 = .ok (.iaload, 1) := by decide +kernel
theorem dX5_count_90 : decode cX5_count 90 = .ok (.ireturn, 1) := by decide +kernel
theorem dX5_count_91 : decode cX5_count 91 = .ok (.iconst 0, 1) := by decide +kernel
theorem dX5_count_92 : decode cX5_count 92 = .ok (.istore_n 3, 1) := by decide +kernel
theorem dX5_count_93 : decode cX5_count 93 = .ok (.iload_n 3, 1) := by decide +kernel
theorem dX5_count_94 : decode cX5_count 94 = .ok (.bipush 10, 2) := by decide +kernel
theorem dX5_count_96 : decode cX5_count 96 = .ok (.if_icmp .ge 29, 3) := by decide +kernel
theorem dX5_count_99 : decode cX5_count 99 = .ok (.iload_n 2, 1) := by decide +kernel
theorem dX5_count_100 : decode cX5_count 100 = .ok (.aload_n 0, 1) := by decide +kernel
theorem dX5_count_101 : decode cX5_count 101 = .ok (.getfield 7, 3) := by decide +kernel
theorem dX5_count_104 : decode cX5_count 104 = .ok (.bipush 65, 2) := by decide +kernel
theorem dX5_count_106 : decode cX5_count 106 = .ok (.iload_n 3, 1) := by decide +kernel
theorem dX5_count_107 : decode cX5_count 107 = .ok (.iadd, 1) := by decide +kernel
theorem dX5_count_108 : decode cX5_count 108 = .ok (.iaload, 1) := by decide +kernel
theorem dX5_count_109 : decode cX5_count 109 = .ok (.ifCond .ge 7, 3) := by decide +kernel
theorem dX5_count_112 : decode cX5_count 112 = .ok (.iconst 0, 1) := by decide +kernel
theorem dX5_count_113 : decode cX5_count 113 = .ok (.goto 4, 3) := by decide +kernel
theorem dX5_count_116 : decode cX5_count 116 = .ok (.iconst 1, 1) := by decide +kernel
theorem dX5_count_117 : decode cX5_count 117 = .ok (.iadd, 1) := by decide +kernel
theorem dX5_count_118 : decode cX5_count 118 = .ok (.istore_n 2, 1) := by decide +kernel
theorem dX5_count_119 : decode cX5_count 119 = .ok (.iinc 3 1, 3) := by decide +kernel
theorem dX5_count_122 : decode cX5_count 122 = .ok (.goto (-29), 3) := by decide +kernel
theorem dX5_count_125 : decode cX5_count 125 = .ok (.iload_n 2, 1) := by decide +kernel
theorem dX5_count_126 : decode cX5_count 126 = .ok (.ireturn, 1) := by decide +kernel
theorem dX5_count_127 : decode cX5_count 127 = .ok (.aload_n 0, 1) := by decide +kernel
theorem dX5_count_128 : decode cX5_count 128 = .ok (.ldc 37, 2) := by decide +kernel
theorem dX5_count_130 : decode cX5_count 130 = .ok (.invokevirtual 39, 3) := by decide +kernel
theorem dX5_count_133 : decode cX5_count 133 = .ok (.ireturn, 1) := by decide +kernel
theorem dX5_status_0 : decode cX5_status 0 = .ok (.iload_n 1, 1) := by decide +kernel
theorem dX5_status_1 : decode cX5_status 1 = .ok (.i2l, 1) := by decide +kernel
theorem dX5_status_2 : decode cX5_status 2 = .ok (.ldc2_w 280, 3) := by decide +kernel
theorem dX5_status_5 : decode cX5_status 5 = .ok (.ldc2_w 73, 3) := by decide +kernel
theorem dX5_status_8 : decode cX5_status 8 = .ok (.invokestatic 49, 3) := by decide +kernel
theorem dX5_status_11 : decode cX5_status 11 = .ok (.ifCond .eq 14, 3) := by decide +kernel
theorem dX5_status_14 : decode cX5_status 14 = .ok (.aload_n 0, 1) := by decide +kernel
theorem dX5_status_15 : decode cX5_status 15 = .ok (.getfield 22, 3) := by decide +kernel
theorem dX5_status_18 : decode cX5_status 18 = .ok (.iload_n 1, 1) := by decide +kernel
theorem dX5_status_19 : decode cX5_status 19 = .ok (.iconst 1, 1) := by decide +kernel
theorem dX5_status_20 : decode cX5_status 20 = .ok (.iadd, 1) := by decide +kernel
theorem dX5_status_21 : decode cX5_status 21 = .ok (.iaload, 1) := by decide +kernel
theorem dX5_status_22 : decode cX5_status 22 = .ok (.goto 9, 3) := by decide +kernel
theorem dX5_status_25 : decode cX5_status 25 = .ok (.aload_n 0, 1) := by decide +kernel
theorem dX5_status_26 : decode cX5_status 26 = .ok (.ldc 37, 2) := by decide +kernel
theorem dX5_status_28 : decode cX5_status 28 = .ok (.invokevirtual 39, 3) := by decide +kernel
theorem dX5_status_31 : decode cX5_status 31 = .ok (.ireturn, 1) := by decide +kernel
theorem dJ6_bitCount_0f7a4_0 : decode cJ6_bitCount_0f7a4 0 = .ok (.iload_n 0, 1) := by decide +kernel
theorem dJ6_bitCount_0f7a4_1 : decode cJ6_bitCount_0f7a4 1 = .ok (.iload_n 0, 1) := by decide +kernel
theorem dJ6_bitCount_0f7a4_2 : decode cJ6_bitCount_0f7a4 2 = .ok (.iconst 1, 1) := by decide +kernel
theorem dJ6_bitCount_0f7a4_3 : decode cJ6_bitCount_0f7a4 3 = .ok (.iushr, 1) := by decide +kernel
theorem dJ6_bitCount_0f7a4_4 : decode cJ6_bitCount_0f7a4 4 = .ok (.ldc_w 265, 3) := by decide +kernel
theorem dJ6_bitCount_0f7a4_7 : decode cJ6_bitCount_0f7a4 7 = .ok (.iand, 1) := by decide +kernel
theorem dJ6_bitCount_0f7a4_8 : decode cJ6_bitCount_0f7a4 8 = .ok (.isub, 1) := by decide +kernel
theorem dJ6_bitCount_0f7a4_9 : decode cJ6_bitCount_0f7a4 9 = .ok (.istore_n 0, 1) := by decide +kernel
theorem dJ6_bitCount_0f7a4_10 : decode cJ6_bitCount_0f7a4 10 = .ok (.iload_n 0, 1) := by decide +kernel
theorem dJ6_bitCount_0f7a4_11 : decode cJ6_bitCount_0f7a4 11 = .ok (.ldc_w 266, 3) := by decide +kernel
theorem dJ6_bitCount_0f7a4_14 : decode cJ6_bitCount_0f7a4 14 = .ok (.iand, 1) := by decide +kernel
theorem dJ6_bitCount_0f7a4_15 : decode cJ6_bitCount_0f7a4 15 = .ok (.iload_n 0, 1) := by decide +kernel
theorem dJ6_bitCount_0f7a4_16 : decode cJ6_bitCount_0f7a4 16 = .ok (.iconst 2, 1) := by decide +kernel
theorem dJ6_bitCount_0f7a4_17 : decode cJ6_bitCount_0f7a4 17 = .ok (.iushr, 1) := by decide +kernel
theorem dJ6_bitCount_0f7a4_18 : decode cJ6_bitCount_0f7a4 18 = .ok (.ldc_w 266, 3) := by decide +kernel
theorem dJ6_bitCount_0f7a4_21 : decode cJ6_bitCount_0f7a4 21 = .ok (.iand, 1) := by decide +kernel
theorem dJ6_bitCount_0f7a4_22 : decode cJ6_bitCount_0f7a4 22 = .ok (.iadd, 1) := by decide +kernel
theorem dJ6_bitCount_0f7a4_23 : decode cJ6_bitCount_0f7a4 23 = .ok (.istore_n 0, 1) := by decide +kernel
theorem dJ6_bitCount_0f7a4_24 : decode cJ6_bitCount_0f7a4 24 = .ok (.iload_n 0, 1) := by decide +kernel
theorem dJ6_bitCount_0f7a4_25 : decode cJ6_bitCount_0f7a4 25 = .ok (.iload_n 0, 1) := by decide +kernel
theorem dJ6_bitCount_0f7a4_26 : decode cJ6_bitCount_0f7a4 26 = .ok (.iconst 4, 1) := by decide +kernel
theorem dJ6_bitCount_0f7a4_27 : decode cJ6_bitCount_0f7a4 27 = .ok (.iushr, 1) := by decide +kernel
theorem dJ6_bitCount_0f7a4_28 : decode cJ6_bitCount_0f7a4 28 = .ok (.iadd, 1) := by decide +kernel
theorem dJ6_bitCount_0f7a4_29 : decode cJ6_bitCount_0f7a4 29 = .ok (.ldc_w 267, 3) := by decide +kernel
theorem dJ6_bitCount_0f7a4_32 : decode cJ6_bitCount_0f7a4 32 = .ok (.iand, 1) := by decide +kernel
theorem dJ6_bitCount_0f7a4_33 : decode cJ6_bitCount_0f7a4 33 = .ok (.istore_n 0, 1) := by decide +kernel
theorem dJ6_bitCount_0f7a4_34 : decode cJ6_bitCount_0f7a4 34 = .ok (.iload_n 0, 1) := by decide +kernel
theorem dJ6_bitCount_0f7a4_35 : decode cJ6_bitCount_0f7a4 35 = .ok (.iload_n 0, 1) := by decide +kernel
theorem dJ6_bitCount_0f7a4_36 : decode cJ6_bitCount_0f7a4 36 = .ok (.bipush 8, 2) := by decide +kernel
theorem dJ6_bitCount_0f7a4_38 : decode cJ6_bitCount_0f7a4 38 = .ok (.iushr, 1) := by decide +kernel
theorem dJ6_bitCount_0f7a4_39 : decode cJ6_bitCount_0f7a4 39 = .ok (.iadd, 1) := by decide +kernel
theorem dJ6_bitCount_0f7a4_40 : decode cJ6_bitCount_0f7a4 40 = .ok (.istore_n 0, 1) := by decide +kernel
theorem dJ6_bitCount_0f7a4_41 : decode cJ6_bitCount_0f7a4 41 = .ok (.iload_n 0, 1) := by decide +kernel
theorem dJ6_bitCount_0f7a4_42 : decode cJ6_bitCount_0f7a4 42 = .ok (.iload_n 0, 1) := by decide +kernel
theorem dJ6_bitCount_0f7a4_43 : decode cJ6_bitCount_0f7a4 43 = .ok (.bipush 16, 2) := by decide +kernel
theorem dJ6_bitCount_0f7a4_45 : decode cJ6_bitCount_0f7a4 45 = .ok (.iushr, 1) := by decide +kernel
theorem dJ6_bitCount_0f7a4_46 : decode cJ6_bitCount_0f7a4 46 = .ok (.iadd, 1) := by decide +kernel
theorem dJ6_bitCount_0f7a4_47 : decode cJ6_bitCount_0f7a4 47 = .ok (.istore_n 0, 1) := by decide +kernel
theorem dJ6_bitCount_0f7a4_48 : decode cJ6_bitCount_0f7a4 48 = .ok (.iload_n 0, 1) := by decide +kernel
theorem dJ6_bitCount_0f7a4_49 : decode cJ6_bitCount_0f7a4 49 = .ok (.bipush 63, 2) := by decide +kernel
theorem dJ6_bitCount_0f7a4_51 : decode cJ6_bitCount_0f7a4 51 = .ok (.iand, 1) := by decide +kernel
theorem dJ6_bitCount_0f7a4_52 : decode cJ6_bitCount_0f7a4 52 = .ok (.ireturn, 1) := by decide +kernel
theorem dJ9_max_7cf53_0 : decode cJ9_max_7cf53 0 = .ok (.iload_n 0, 1) := by decide +kernel
theorem dJ9_max_7cf53_1 : decode cJ9_max_7cf53 1 = .ok (.iload_n 1, 1) := by decide +kernel
theorem dJ9_max_7cf53_2 : decode cJ9_max_7cf53 2 = .ok (.if_icmp .lt 7, 3) := by decide +kernel
theorem dJ9_max_7cf53_5 : decode cJ9_max_7cf53 5 = .ok (.iload_n 0, 1) := by decide +kernel
theorem dJ9_max_7cf53_6 : decode cJ9_max_7cf53 6 = .ok (.goto 4, 3) := by decide +kernel
theorem dJ9_max_7cf53_9 : decode cJ9_max_7cf53 9 = .ok (.iload_n 1, 1) := by decide +kernel
theorem dJ9_max_7cf53_10 : decode cJ9_max_7cf53 10 = .ok (.ireturn, 1) := by decide +kernel
theorem dJ9_max_f86c9_0 : decode cJ9_max_f86c9 0 = .ok (.lload_n 0, 1) := by decide +kernel
theorem dJ9_max_f86c9_1 : decode cJ9_max_f86c9 1 = .ok (.lload_n 2, 1) := by decide +kernel
theorem dJ9_max_f86c9_2 : decode cJ9_max_f86c9 2 = .ok (.lcmp, 1) := by decide +kernel
theorem dJ9_max_f86c9_3 : decode cJ9_max_f86c9 3 = .ok (.ifCond .lt 7, 3) := by decide +kernel
theorem dJ9_max_f86c9_6 : decode cJ9_max_f86c9 6 = .ok (.lload_n 0, 1) := by decide +kernel
theorem dJ9_max_f86c9_7 : decode cJ9_max_f86c9 7 = .ok (.goto 4, 3) := by decide +kernel
theorem dJ9_max_f86c9_10 : decode cJ9_max_f86c9 10 = .ok (.lload_n 2, 1) := by decide +kernel
theorem dJ9_max_f86c9_11 : decode cJ9_max_f86c9 11 = .ok (.lreturn, 1) := by decide +kernel
theorem dJ9_min_7cf53_0 : decode cJ9_min_7cf53 0 = .ok (.iload_n 0, 1) := by decide +kernel
theorem dJ9_min_7cf53_1 : decode cJ9_min_7cf53 1 = .ok (.iload_n 1, 1) := by decide +kernel
theorem dJ9_min_7cf53_2 : decode cJ9_min_7cf53 2 = .ok (.if_icmp .gt 7, 3) := by decide +kernel
theorem dJ9_min_7cf53_5 : decode cJ9_min_7cf53 5 = .ok (.iload_n 0, 1) := by decide +kernel
theorem dJ9_min_7cf53_6 : decode cJ9_min_7cf53 6 = .ok (.goto 4, 3) := by decide +kernel
theorem dJ9_min_7cf53_9 : decode cJ9_min_7cf53 9 = .ok (.iload_n 1, 1) := by decide +kernel
theorem dJ9_min_7cf53_10 : decode cJ9_min_7cf53 10 = .ok (.ireturn, 1) := by decide +kernel
theorem dJ0_length_8abf5_0 : decode cJ0_length_8abf5 0 = .ok (.aload_n 0, 1) := by decide +kernel
theorem dJ0_length_8abf5_1 : decode cJ0_length_8abf5 1 = .ok (.getfield 9, 3) := by decide +kernel
theorem dJ0_length_8abf5_4 : decode cJ0_length_8abf5 4 = .ok (.arraylength, 1) := by decide +kernel
theorem dJ0_length_8abf5_5 : decode cJ0_length_8abf5 5 = .ok (.aload_n 0, 1) := by decide +kernel
theorem dJ0_length_8abf5_6 : decode cJ0_length_8abf5 6 = .ok (.invokevirtual 335, 3) := by decide +kernel
theorem dJ0_length_8abf5_9 : decode cJ0_length_8abf5 9 = .ok (.ishr, 1) := by decide +kernel
theorem dJ0_length_8abf5_10 : decode cJ0_length_8abf5 10 = .ok (.ireturn, 1) := by decide +kernel
theorem dJ0_charAt_5068e_0 : decode cJ0_charAt_5068e 0 = .ok (.aload_n 0, 1) := by decide +kernel
theorem dJ0_charAt_5068e_1 : decode cJ0_charAt_5068e 1 = .ok (.invokevirtual 492, 3) := by decide +kernel
theorem dJ0_charAt_5068e_4 : decode cJ0_charAt_5068e 4 = .ok (.ifCond .eq 12, 3) := by decide +kernel
theorem dJ0_charAt_5068e_7 : decode cJ0_charAt_5068e 7 = .ok (.aload_n 0, 1) := by decide +kernel
theorem dJ0_charAt_5068e_8 : decode cJ0_charAt_5068e 8 = .ok (.getfield 9, 3) := by decide +kernel
theorem dJ0_charAt_5068e_11 : decode cJ0_charAt_5068e 11 = .ok (.iload_n 1, 1) := by decide +kernel
theorem dJ0_charAt_5068e_12 : decode cJ0_charAt_5068e 12 = .ok (.invokestatic 495, 3) := by decide +kernel
theorem dJ0_charAt_5068e_15 : decode cJ0_charAt_5068e 15 = .ok (.ireturn, 1) := by decide +kernel
theorem dJ0_charAt_5068e_16 : decode cJ0_charAt_5068e 16 = .ok (.aload_n 0, 1) := by decide +kernel
theorem dJ0_charAt_5068e_17 : decode cJ0_charAt_5068e 17 = .ok (.getfield 9, 3) := by decide +kernel
theorem dJ0_charAt_5068e_20 : decode cJ0_charAt_5068e 20 = .ok (.iload_n 1, 1) := by decide +kernel
theorem dJ0_charAt_5068e_21 : decode cJ0_charAt_5068e 21 = .ok (.invokestatic 498, 3) := by decide +kernel
theorem dJ0_charAt_5068e_24 : decode cJ0_charAt_5068e 24 = .ok (.ireturn, 1) := by decide +kernel
theorem dJ0_coder_7d493_0 : decode cJ0_coder_7d493 0 = .ok (.getstatic 38, 3) := by decide +kernel
theorem dJ0_coder_7d493_3 : decode cJ0_coder_7d493 3 = .ok (.ifCond .eq 10, 3) := by decide +kernel
theorem dJ0_coder_7d493_6 : decode cJ0_coder_7d493 6 = .ok (.aload_n 0, 1) := by decide +kernel
theorem dJ0_coder_7d493_7 : decode cJ0_coder_7d493 7 = .ok (.getfield 15, 3) := by decide +kernel
theorem dJ0_coder_7d493_10 : decode cJ0_coder_7d493 10 = .ok (.goto 4, 3) := by decide +kernel
theorem dJ0_coder_7d493_13 : decode cJ0_coder_7d493 13 = .ok (.iconst 1, 1) := by decide +kernel
theorem dJ0_coder_7d493_14 : decode cJ0_coder_7d493 14 = .ok (.ireturn, 1) := by decide +kernel
theorem dJ0_isLatin1_aae02_0 : decode cJ0_isLatin1_aae02 0 = .ok (.getstatic 38, 3) := by decide +kernel
theorem dJ0_isLatin1_aae02_3 : decode cJ0_isLatin1_aae02 3 = .ok (.ifCond .eq 14, 3) := by decide +kernel
theorem dJ0_isLatin1_aae02_6 : decode cJ0_isLatin1_aae02 6 = .ok (.aload_n 0, 1) := by decide +kernel
theorem dJ0_isLatin1_aae02_7 : decode cJ0_isLatin1_aae02 7 = .ok (.getfield 15, 3) := by decide +kernel
theorem dJ0_isLatin1_aae02_10 : decode cJ0_isLatin1_aae02 10 = .ok (.ifCond .ne 7, 3) := by decide +kernel
theorem dJ0_isLatin1_aae02_13 : decode cJ0_isLatin1_aae02 13 = .ok (.iconst 1, 1) := by decide +kernel
theorem dJ0_isLatin1_aae02_14 : decode cJ0_isLatin1_aae02 14 = .ok (.goto 4, 3) := by decide +kernel
theorem dJ0_isLatin1_aae02_17 : decode cJ0_isLatin1_aae02 17 = .ok (.iconst 0, 1) := by decide +kernel
theorem dJ0_isLatin1_aae02_18 : decode cJ0_isLatin1_aae02 18 = .ok (.ireturn, 1) := by decide +kernel
theorem dJ0_checkIndex_df160_0 : decode cJ0_checkIndex_df160 0 = .ok (.iload_n 0, 1) := by decide +kernel
theorem dJ0_checkIndex_df160_1 : decode cJ0_checkIndex_df160 1 = .ok (.iload_n 1, 1) := by decide +kernel
theorem dJ0_checkIndex_df160_2 : decode cJ0_checkIndex_df160 2 = .ok (.getstatic 1053, 3) := by decide +kernel
theorem dJ0_checkIndex_df160_5 : decode cJ0_checkIndex_df160 5 = .ok (.invokestatic 1059, 3) := by decide +kernel
theorem dJ0_checkIndex_df160_8 : decode cJ0_checkIndex_df160 8 = .ok (.pop, 1) := by decide +kernel
theorem dJ0_checkIndex_df160_9 : decode cJ0_checkIndex_df160 9 = .ok (.return_, 1) := by decide +kernel
theorem dJ1_charAt_3b067_0 : decode cJ1_charAt_3b067 0 = .ok (.iload_n 1, 1) := by decide +kernel
theorem dJ1_charAt_3b067_1 : decode cJ1_charAt_3b067 1 = .ok (.aload_n 0, 1) := by decide +kernel
theorem dJ1_charAt_3b067_2 : decode cJ1_charAt_3b067 2 = .ok (.arraylength, 1) := by decide +kernel
theorem dJ1_charAt_3b067_3 : decode cJ1_charAt_3b067 3 = .ok (.invokestatic 9, 3) := by decide +kernel
theorem dJ1_charAt_3b067_6 : decode cJ1_charAt_3b067 6 = .ok (.aload_n 0, 1) := by decide +kernel
theorem dJ1_charAt_3b067_7 : decode cJ1_charAt_3b067 7 = .ok (.iload_n 1, 1) := by decide +kernel
theorem dJ1_charAt_3b067_8 : decode cJ1_charAt_3b067 8 = .ok (.baload, 1) := by decide +kernel
theorem dJ1_charAt_3b067_9 : decode cJ1_charAt_3b067 9 = .ok (.sipush 255, 3) := by decide +kernel
theorem dJ1_charAt_3b067_12 : decode cJ1_charAt_3b067 12 = .ok (.iand, 1) := by decide +kernel
theorem dJ1_charAt_3b067_13 : decode cJ1_charAt_3b067 13 = .ok (.i2c, 1) := by decide +kernel
theorem dJ1_charAt_3b067_14 : decode cJ1_charAt_3b067 14 = .ok (.ireturn, 1) := by decide +kernel
theorem dJ2_getChar_3b067_0 : decode cJ2_getChar_3b067 0 = .ok (.getstatic 44, 3) := by decide +kernel
theorem dJ2_getChar_3b067_3 : decode cJ2_getChar_3b067 3 = .ok (.ifCond .ne 25, 3) := by decide +kernel
theorem dJ2_getChar_3b067_6 : decode cJ2_getChar_3b067 6 = .ok (.iload_n 1, 1) := by decide +kernel
theorem dJ2_getChar_3b067_7 : decode cJ2_getChar_3b067 7 = .ok (.ifCond .lt 11, 3) := by decide +kernel
theorem dJ2_getChar_3b067_10 : decode cJ2_getChar_3b067 10 = .ok (.iload_n 1, 1) := by decide +kernel
theorem dJ2_getChar_3b067_11 : decode cJ2_getChar_3b067 11 = .ok (.aload_n 0, 1) := by decide +kernel
theorem dJ2_getChar_3b067_12 : decode cJ2_getChar_3b067 12 = .ok (.invokestatic 48, 3) := by decide +kernel
theorem dJ2_getChar_3b067_15 : decode cJ2_getChar_3b067 15 = .ok (.if_icmp .lt 13, 3) := by decide +kernel
theorem dJ2_getChar_3b067_18 : decode cJ2_getChar_3b067 18 = .ok (.new 52, 3) := by decide +kernel
theorem dJ2_getChar_3b067_21 : decode cJ2_getChar_3b067 21 = .ok (.dup, 1) := by decide +kernel
theorem dJ2_getChar_3b067_22 : decode cJ2_getChar_3b067 22 = .ok (.ldc 54, 2) := by decide +kernel
theorem dJ2_getChar_3b067_24 : decode cJ2_getChar_3b067 24 = .ok (.invokespecial 56, 3) := by decide +kernel
theorem dJ2_getChar_3b067_27 : decode cJ2_getChar_3b067 27 = .ok (.athrow, 1) := by decide +kernel
theorem dJ2_getChar_3b067_28 : decode cJ2_getChar_3b067 28 = .ok (.iload_n 1, 1) := by decide +kernel
theorem dJ2_getChar_3b067_29 : decode cJ2_getChar_3b067 29 = .ok (.iconst 1, 1) := by decide +kernel
theorem dJ2_getChar_3b067_30 : decode cJ2_getChar_3b067 30 = .ok (.ishl, 1) := by decide +kernel
theorem dJ2_getChar_3b067_31 : decode cJ2_getChar_3b067 31 = .ok (.istore_n 1, 1) := by decide +kernel
theorem dJ2_getChar_3b067_32 : decode cJ2_getChar_3b067 32 = .ok (.aload_n 0, 1) := by decide +kernel
theorem dJ2_getChar_3b067_33 : decode cJ2_getChar_3b067 33 = .ok (.iload_n 1, 1) := by decide +kernel
theorem dJ2_getChar_3b067_34 : decode cJ2_getChar_3b067 34 = .ok (.iinc 1 1, 3) := by decide +kernel
theorem dJ2_getChar_3b067_37 : decode cJ2_getChar_3b067 37 = .ok (.baload, 1) := by decide +kernel
theorem dJ2_getChar_3b067_38 : decode cJ2_getChar_3b067 38 = .ok (.sipush 255, 3) := by decide +kernel
theorem dJ2_getChar_3b067_41 : decode cJ2_getChar_3b067 41 = .ok (.iand, 1) := by decide +kernel
theorem dJ2_getChar_3b067_42 : decode cJ2_getChar_3b067 42 = .ok (.getstatic 59, 3) := by decide +kernel
theorem dJ2_getChar_3b067_45 : decode cJ2_getChar_3b067 45 = .ok (.ishl, 1) := by decide +kernel
theorem dJ2_getChar_3b067_46 : decode cJ2_getChar_3b067 46 = .ok (.aload_n 0, 1) := by decide +kernel
theorem dJ2_getChar_3b067_47 : decode cJ2_getChar_3b067 47 = .ok (.iload_n 1, 1) := by decide +kernel
theorem dJ2_getChar_3b067_48 : decode cJ2_getChar_3b067 48 = .ok (.baload, 1) := by decide +kernel
theorem dJ2_getChar_3b067_49 : decode cJ2_getChar_3b067 49 = .ok (.sipush 255, 3) := by decide +kernel
theorem dJ2_getChar_3b067_52 : decode cJ2_getChar_3b067 52 = .ok (.iand, 1) := by decide +kernel
theorem dJ2_getChar_3b067_53 : decode cJ2_getChar_3b067 53 = .ok (.getstatic 63, 3) := by decide +kernel
theorem dJ2_getChar_3b067_56 : decode cJ2_getChar_3b067 56 = .ok (.ishl, 1) := by decide +kernel
theorem dJ2_getChar_3b067_57 : decode cJ2_getChar_3b067 57 = .ok (.ior, 1) := by decide +kernel
theorem dJ2_getChar_3b067_58 : decode cJ2_getChar_3b067 58 = .ok (.i2c, 1) := by decide +kernel
theorem dJ2_getChar_3b067_59 : decode cJ2_getChar_3b067 59 = .ok (.ireturn, 1) := by decide +kernel
theorem dJ2_length_9d52b_0 : decode cJ2_length_9d52b 0 = .ok (.aload_n 0, 1) := by decide +kernel
theorem dJ2_length_9d52b_1 : decode cJ2_length_9d52b 1 = .ok (.arraylength, 1) := by decide +kernel
theorem dJ2_length_9d52b_2 : decode cJ2_length_9d52b 2 = .ok (.iconst 1, 1) := by decide +kernel
theorem dJ2_length_9d52b_3 : decode cJ2_length_9d52b 3 = .ok (.ishr, 1) := by decide +kernel
theorem dJ2_length_9d52b_4 : decode cJ2_length_9d52b 4 = .ok (.ireturn, 1) := by decide +kernel
theorem dJ2_charAt_3b067_0 : decode cJ2_charAt_3b067 0 = .ok (.iload_n 1, 1) := by decide +kernel
theorem dJ2_charAt_3b067_1 : decode cJ2_charAt_3b067 1 = .ok (.aload_n 0, 1) := by decide +kernel
theorem dJ2_charAt_3b067_2 : decode cJ2_charAt_3b067 2 = .ok (.invokestatic 67, 3) := by decide +kernel
theorem dJ2_charAt_3b067_5 : decode cJ2_charAt_3b067 5 = .ok (.aload_n 0, 1) := by decide +kernel
theorem dJ2_charAt_3b067_6 : decode cJ2_charAt_3b067 6 = .ok (.iload_n 1, 1) := by decide +kernel
theorem dJ2_charAt_3b067_7 : decode cJ2_charAt_3b067 7 = .ok (.invokestatic 71, 3) := by decide +kernel
theorem dJ2_charAt_3b067_10 : decode cJ2_charAt_3b067 10 = .ok (.ireturn, 1) := by decide +kernel
theorem dJ2_checkIndex_2214a_0 : decode cJ2_checkIndex_2214a 0 = .ok (.iload_n 0, 1) := by decide +kernel
theorem dJ2_checkIndex_2214a_1 : decode cJ2_checkIndex_2214a 1 = .ok (.aload_n 1, 1) := by decide +kernel
theorem dJ2_checkIndex_2214a_2 : decode cJ2_checkIndex_2214a 2 = .ok (.invokestatic 48, 3) := by decide +kernel
theorem dJ2_checkIndex_2214a_5 : decode cJ2_checkIndex_2214a 5 = .ok (.invokestatic 414, 3) := by decide +kernel
theorem dJ2_checkIndex_2214a_8 : decode cJ2_checkIndex_2214a 8 = .ok (.return_, 1) := by decide +kernel
theorem dJ3_checkIndex_8e157_0 : decode cJ3_checkIndex_8e157 0 = .ok (.iload_n 0, 1) := by decide +kernel
theorem dJ3_checkIndex_8e157_1 : decode cJ3_checkIndex_8e157 1 = .ok (.ifCond .lt 8, 3) := by decide +kernel
theorem dJ3_checkIndex_8e157_4 : decode cJ3_checkIndex_8e157 4 = .ok (.iload_n 0, 1) := by decide +kernel
theorem dJ3_checkIndex_8e157_5 : decode cJ3_checkIndex_8e157 5 = .ok (.iload_n 1, 1) := by decide +kernel
theorem dJ3_checkIndex_8e157_6 : decode cJ3_checkIndex_8e157 6 = .ok (.if_icmp .lt 10, 3) := by decide +kernel
theorem dJ3_checkIndex_8e157_9 : decode cJ3_checkIndex_8e157 9 = .ok (.aload_n 2, 1) := by decide +kernel
theorem dJ3_checkIndex_8e157_10 : decode cJ3_checkIndex_8e157 10 = .ok (.iload_n 0, 1) := by decide +kernel
theorem dJ3_checkIndex_8e157_11 : decode cJ3_checkIndex_8e157 11 = .ok (.iload_n 1, 1) := by decide +kernel
theorem dJ3_checkIndex_8e157_12 : decode cJ3_checkIndex_8e157 12 = .ok (.invokestatic 95, 3) := by decide +kernel
theorem dJ3_checkIndex_8e157_15 : decode cJ3_checkIndex_8e157 15 = .ok (.athrow, 1) := by decide +kernel
theorem dJ3_checkIndex_8e157_16 : decode cJ3_checkIndex_8e157 16 = .ok (.iload_n 0, 1) := by decide +kernel
theorem dJ3_checkIndex_8e157_17 : decode cJ3_checkIndex_8e157 17 = .ok (.ireturn, 1) := by decide +kernel
theorem dL_law_0 : decode cL_law 0 = .ok (.new 7, 3) := by decide +kernel
theorem dL_law_3 : decode cL_law 3 = .ok (.dup, 1) := by decide +kernel
theorem dL_law_4 : decode cL_law 4 = .ok (.invokespecial 9, 3) := by decide +kernel
theorem dL_law_7 : decode cL_law 7 = .ok (.astore_n 1, 1) := by decide +kernel
theorem dL_law_8 : decode cL_law 8 = .ok (.new 10, 3) := by decide +kernel
theorem dL_law_11 : decode cL_law 11 = .ok (.dup, 1) := by decide +kernel
theorem dL_law_12 : decode cL_law 12 = .ok (.invokespecial 12, 3) := by decide +kernel
theorem dL_law_15 : decode cL_law 15 = .ok (.astore_n 2, 1) := by decide +kernel
theorem dL_law_16 : decode cL_law 16 = .ok (.iconst 0, 1) := by decide +kernel
theorem dL_law_17 : decode cL_law 17 = .ok (.istore_n 3, 1) := by decide +kernel
theorem dL_law_18 : decode cL_law 18 = .ok (.iload_n 3, 1) := by decide +kernel
theorem dL_law_19 : decode cL_law 19 = .ok (.aload_n 0, 1) := by decide +kernel
theorem dL_law_20 : decode cL_law 20 = .ok (.arraylength, 1) := by decide +kernel
theorem dL_law_21 : decode cL_law 21 = .ok (.bipush 6, 2) := by decide +kernel
theorem dL_law_23 : decode cL_law 23 = .ok (.isub, 1) := by decide +kernel
theorem dL_law_24 : decode cL_law 24 = .ok (.if_icmp .gt 1492, 3) := by decide +kernel
theorem dL_law_27 : decode cL_law 27 = .ok (.aload_n 0, 1) := by decide +kernel
theorem dL_law_28 : decode cL_law 28 = .ok (.iload_n 3, 1) := by decide +kernel
theorem dL_law_29 : decode cL_law 29 = .ok (.iaload, 1) := by decide +kernel
theorem dL_law_30 : decode cL_law 30 = .ok (.bipush 63, 2) := by decide +kernel
theorem dL_law_32 : decode cL_law 32 = .ok (.iand, 1) := by decide +kernel
theorem dL_law_33 : decode cL_law 33 = .ok (.tableswitch 1477 0 42 #[187, 220, 243, 286, 319, 352, 385, 428, 461, 484, 507, 530, 573, 606, 639, 662, 685, 708, 761, 794, 827, 870, 903, 936, 969, 992, 1015, 1049, 1072, 1105, 1118, 1131, 1164, 1197, 1240, 1283, 1346, 1369, 1392, 1405, 1418, 1431, 1454], 187) := by decide +kernel
theorem dL_law_220 : decode cL_law 220 = .ok (.aload_n 1, 1) := by decide +kernel
theorem dL_law_221 : decode cL_law 221 = .ok (.aload_n 0, 1) := by decide +kernel
theorem dL_law_222 : decode cL_law 222 = .ok (.iload_n 3, 1) := by decide +kernel
theorem dL_law_223 : decode cL_law 223 = .ok (.iconst 1, 1) := by decide +kernel
theorem dL_law_224 : decode cL_law 224 = .ok (.iadd, 1) := by decide +kernel
theorem dL_law_225 : decode cL_law 225 = .ok (.iaload, 1) := by decide +kernel
theorem dL_law_226 : decode cL_law 226 = .ok (.aload_n 0, 1) := by decide +kernel
theorem dL_law_227 : decode cL_law 227 = .ok (.iload_n 3, 1) := by decide +kernel
theorem dL_law_228 : decode cL_law 228 = .ok (.iconst 2, 1) := by decide +kernel
theorem dL_law_229 : decode cL_law 229 = .ok (.iadd, 1) := by decide +kernel
theorem dL_law_230 : decode cL_law 230 = .ok (.iaload, 1) := by decide +kernel
theorem dL_law_231 : decode cL_law 231 = .ok (.invokevirtual 13, 3) := by decide +kernel
theorem dL_law_234 : decode cL_law 234 = .ok (.aload_n 2, 1) := by decide +kernel
theorem dL_law_235 : decode cL_law 235 = .ok (.aload_n 0, 1) := by decide +kernel
theorem dL_law_236 : decode cL_law 236 = .ok (.iload_n 3, 1) := by decide +kernel
theorem dL_law_237 : decode cL_law 237 = .ok (.iconst 1, 1) := by decide +kernel
theorem dL_law_238 : decode cL_law 238 = .ok (.iadd, 1) := by decide +kernel
theorem dL_law_239 : decode cL_law 239 = .ok (.iaload, 1) := by decide +kernel
theorem dL_law_240 : decode cL_law 240 = .ok (.aload_n 0, 1) := by decide +kernel
theorem dL_law_241 : decode cL_law 241 = .ok (.iload_n 3, 1) := by decide +kernel
theorem dL_law_242 : decode cL_law 242 = .ok (.iconst 2, 1) := by decide +kernel
theorem dL_law_243 : decode cL_law 243 = .ok (.iadd, 1) := by decide +kernel
theorem dL_law_244 : decode cL_law 244 = .ok (.iaload, 1) := by decide +kernel
theorem dL_law_245 : decode cL_law 245 = .ok (.invokevirtual 17, 3) := by decide +kernel
theorem dL_law_248 : decode cL_law 248 = .ok (.if_icmp .eq 1262, 3) := by decide +kernel
theorem dL_law_251 : decode cL_law 251 = .ok (.iconst 0, 1) := by decide +kernel
theorem dL_law_252 : decode cL_law 252 = .ok (.ireturn, 1) := by decide +kernel
theorem dL_law_253 : decode cL_law 253 = .ok (.aload_n 1, 1) := by decide +kernel
theorem dL_law_254 : decode cL_law 254 = .ok (.aload_n 0, 1) := by decide +kernel
theorem dL_law_255 : decode cL_law 255 = .ok (.iload_n 3, 1) := by decide +kernel
theorem dL_law_256 : decode cL_law 256 = .ok (.iconst 1, 1) := by decide +kernel
theorem dL_law_257 : decode cL_law 257 = .ok (.iadd, 1) := by decide +kernel
theorem dL_law_258 : decode cL_law 258 = .ok (.iaload, 1) := by decide +kernel
theorem dL_law_259 : decode cL_law 259 = .ok (.invokevirtual 18, 3) := by decide +kernel
theorem dL_law_262 : decode cL_law 262 = .ok (.aload_n 2, 1) := by decide +kernel
theorem dL_law_263 : decode cL_law 263 = .ok (.aload_n 0, 1) := by decide +kernel
theorem dL_law_264 : decode cL_law 264 = .ok (.iload_n 3, 1) := by decide +kernel
theorem dL_law_265 : decode cL_law 265 = .ok (.iconst 1, 1) := by decide +kernel
theorem dL_law_266 : decode cL_law 266 = .ok (.iadd, 1) := by decide +kernel
theorem dL_law_267 : decode cL_law 267 = .ok (.iaload, 1) := by decide +kernel
theorem dL_law_268 : decode cL_law 268 = .ok (.invokevirtual 22, 3) := by decide +kernel
theorem dL_law_271 : decode cL_law 271 = .ok (.if_icmp .eq 1239, 3) := by decide +kernel
theorem dL_law_274 : decode cL_law 274 = .ok (.iconst 0, 1) := by decide +kernel
theorem dL_law_275 : decode cL_law 275 = .ok (.ireturn, 1) := by decide +kernel
theorem dL_law_276 : decode cL_law 276 = .ok (.aload_n 1, 1) := by decide +kernel
theorem dL_law_277 : decode cL_law 277 = .ok (.aload_n 0, 1) := by decide +kernel
theorem dL_law_278 : decode cL_law 278 = .ok (.iload_n 3, 1) := by decide +kernel
theorem dL_law_279 : decode cL_law 279 = .ok (.iconst 1, 1) := by decide +kernel
theorem dL_law_280 : decode cL_law 280 = .ok (.iadd, 1) := by decide +kernel
theorem dL_law_281 : decode cL_law 281 = .ok (.iaload, 1) := by decide +kernel
theorem dL_law_282 : decode cL_law 282 = .ok (.aload_n 0, 1) := by decide +kernel
theorem dL_law_283 : decode cL_law 283 = .ok (.iload_n 3, 1) := by decide +kernel
theorem dL_law_284 : decode cL_law 284 = .ok (.iconst 2, 1) := by decide +kernel
theorem dL_law_285 : decode cL_law 285 = .ok (.iadd, 1) := by decide +kernel
theorem dL_law_286 : decode cL_law 286 = .ok (.iaload, 1) := by decide +kernel
theorem dL_law_287 : decode cL_law 287 = .ok (.aload_n 0, 1) := by decide +kernel
theorem dL_law_288 : decode cL_law 288 = .ok (.iload_n 3, 1) := by decide +kernel
theorem dL_law_289 : decode cL_law 289 = .ok (.iconst 3, 1) := by decide +kernel
theorem dL_law_290 : decode cL_law 290 = .ok (.iadd, 1) := by decide +kernel
theorem dL_law_291 : decode cL_law 291 = .ok (.iaload, 1) := by decide +kernel
theorem dL_law_292 : decode cL_law 292 = .ok (.invokevirtual 23, 3) := by decide +kernel
theorem dL_law_295 : decode cL_law 295 = .ok (.aload_n 2, 1) := by decide +kernel
theorem dL_law_296 : decode cL_law 296 = .ok (.aload_n 0, 1) := by decide +kernel
theorem dL_law_297 : decode cL_law 297 = .ok (.iload_n 3, 1) := by decide +kernel
theorem dL_law_298 : decode cL_law 298 = .ok (.iconst 1, 1) := by decide +kernel
theorem dL_law_299 : decode cL_law 299 = .ok (.iadd, 1) := by decide +kernel
theorem dL_law_300 : decode cL_law 300 = .ok (.iaload, 1) := by decide +kernel
theorem dL_law_301 : decode cL_law 301 = .ok (.aload_n 0, 1) := by decide +kernel
theorem dL_law_302 : decode cL_law 302 = .ok (.iload_n 3, 1) := by decide +kernel
theorem dL_law_303 : decode cL_law 303 = .ok (.iconst 2, 1) := by decide +kernel
theorem dL_law_304 : decode cL_law 304 = .ok (.iadd, 1) := by decide +kernel
theorem dL_law_305 : decode cL_law 305 = .ok (.iaload, 1) := by decide +kernel
theorem dL_law_306 : decode cL_law 306 = .ok (.aload_n 0, 1) := by decide +kernel
theorem dL_law_307 : decode cL_law 307 = .ok (.iload_n 3, 1) := by decide +kernel
theorem dL_law_308 : decode cL_law 308 = .ok (.iconst 3, 1) := by decide +kernel
theorem dL_law_309 : decode cL_law 309 = .ok (.iadd, 1) := by decide +kernel
theorem dL_law_310 : decode cL_law 310 = .ok (.iaload, 1) := by decide +kernel
theorem dL_law_311 : decode cL_law 311 = .ok (.invokevirtual 27, 3) := by decide +kernel
theorem dL_law_314 : decode cL_law 314 = .ok (.if_icmp .eq 1196, 3) := by decide +kernel
theorem dL_law_317 : decode cL_law 317 = .ok (.iconst 0, 1) := by decide +kernel
theorem dL_law_318 : decode cL_law 318 = .ok (.ireturn, 1) := by decide +kernel
theorem dL_law_319 : decode cL_law 319 = .ok (.aload_n 1, 1) := by decide +kernel
theorem dL_law_320 : decode cL_law 320 = .ok (.aload_n 0, 1) := by decide +kernel
theorem dL_law_321 : decode cL_law 321 = .ok (.iload_n 3, 1) := by decide +kernel
theorem dL_law_322 : decode cL_law 322 = .ok (.iconst 1, 1) := by decide +kernel
theorem dL_law_323 : decode cL_law 323 = .ok (.iadd, 1) := by decide +kernel
theorem dL_law_324 : decode cL_law 324 = .ok (.iaload, 1) := by decide +kernel
theorem dL_law_325 : decode cL_law 325 = .ok (.aload_n 0, 1) := by decide +kernel
theorem dL_law_326 : decode cL_law 326 = .ok (.iload_n 3, 1) := by decide +kernel
theorem dL_law_327 : decode cL_law 327 = .ok (.iconst 2, 1) := by decide +kernel
theorem dL_law_328 : decode cL_law 328 = .ok (.iadd, 1) := by decide +kernel
theorem dL_law_329 : decode cL_law 329 = .ok (.iaload, 1) := by decide +kernel
theorem dL_law_330 : decode cL_law 330 = .ok (.invokevirtual 28, 3) := by decide +kernel
theorem dL_law_333 : decode cL_law 333 = .ok (.aload_n 2, 1) := by decide +kernel
theorem dL_law_334 : decode cL_law 334 = .ok (.aload_n 0, 1) := by decide +kernel
theorem dL_law_335 : decode cL_law 335 = .ok (.iload_n 3, 1) := by decide +kernel
theorem dL_law_336 : decode cL_law 336 = .ok (.iconst 1, 1) := by decide +kernel
theorem dL_law_337 : decode cL_law 337 = .ok (.iadd, 1) := by decide +kernel
theorem dL_law_338 : decode cL_law 338 = .ok (.iaload, 1) := by decide +kernel
theorem dL_law_339 : decode cL_law 339 = .ok (.aload_n 0, 1) := by decide +kernel
theorem dL_law_340 : decode cL_law 340 = .ok (.iload_n 3, 1) := by decide +kernel
theorem dL_law_341 : decode cL_law 341 = .ok (.iconst 2, 1) := by decide +kernel
theorem dL_law_342 : decode cL_law 342 = .ok (.iadd, 1) := by decide +kernel
theorem dL_law_343 : decode cL_law 343 = .ok (.iaload, 1) := by decide +kernel
theorem dL_law_344 : decode cL_law 344 = .ok (.invokevirtual 31, 3) := by decide +kernel
theorem dL_law_347 : decode cL_law 347 = .ok (.if_icmp .eq 1163, 3) := by decide +kernel
theorem dL_law_350 : decode cL_law 350 = .ok (.iconst 0, 1) := by decide +kernel
theorem dL_law_351 : decode cL_law 351 = .ok (.ireturn, 1) := by decide +kernel
theorem dL_law_352 : decode cL_law 352 = .ok (.aload_n 1, 1) := by decide +kernel
theorem dL_law_353 : decode cL_law 353 = .ok (.aload_n 0, 1) := by decide +kernel
theorem dL_law_354 : decode cL_law 354 = .ok (.iload_n 3, 1) := by decide +kernel
theorem dL_law_355 : decode cL_law 355 = .ok (.iconst 1, 1) := by decide +kernel
theorem dL_law_356 : decode cL_law 356 = .ok (.iadd, 1) := by decide +kernel
theorem dL_law_357 : decode cL_law 357 = .ok (.iaload, 1) := by decide +kernel
theorem dL_law_358 : decode cL_law 358 = .ok (.aload_n 0, 1) := by decide +kernel
theorem dL_law_359 : decode cL_law 359 = .ok (.iload_n 3, 1) := by decide +kernel
theorem dL_law_360 : decode cL_law 360 = .ok (.iconst 2, 1) := by decide +kernel
theorem dL_law_361 : decode cL_law 361 = .ok (.iadd, 1) := by decide +kernel
theorem dL_law_362 : decode cL_law 362 = .ok (.iaload, 1) := by decide +kernel
theorem dL_law_363 : decode cL_law 363 = .ok (.invokevirtual 32, 3) := by decide +kernel
theorem dL_law_366 : decode cL_law 366 = .ok (.aload_n 2, 1) := by decide +kernel
theorem dL_law_367 : decode cL_law 367 = .ok (.aload_n 0, 1) := by decide +kernel
theorem dL_law_368 : decode cL_law 368 = .ok (.iload_n 3, 1) := by decide +kernel
theorem dL_law_369 : decode cL_law 369 = .ok (.iconst 1, 1) := by decide +kernel
theorem dL_law_370 : decode cL_law 370 = .ok (.iadd, 1) := by decide +kernel
theorem dL_law_371 : decode cL_law 371 = .ok (.iaload, 1) := by decide +kernel
theorem dL_law_372 : decode cL_law 372 = .ok (.aload_n 0, 1) := by decide +kernel
theorem dL_law_373 : decode cL_law 373 = .ok (.iload_n 3, 1) := by decide +kernel
theorem dL_law_374 : decode cL_law 374 = .ok (.iconst 2, 1) := by decide +kernel
theorem dL_law_375 : decode cL_law 375 = .ok (.iadd, 1) := by decide +kernel
theorem dL_law_376 : decode cL_law 376 = .ok (.iaload, 1) := by decide +kernel
theorem dL_law_377 : decode cL_law 377 = .ok (.invokevirtual 35, 3) := by decide +kernel
theorem dL_law_380 : decode cL_law 380 = .ok (.if_icmp .eq 1130, 3) := by decide +kernel
theorem dL_law_383 : decode cL_law 383 = .ok (.iconst 0, 1) := by decide +kernel
theorem dL_law_384 : decode cL_law 384 = .ok (.ireturn, 1) := by decide +kernel
theorem dL_law_385 : decode cL_law 385 = .ok (.aload_n 1, 1) := by decide +kernel
theorem dL_law_386 : decode cL_law 386 = .ok (.aload_n 0, 1) := by decide +kernel
theorem dL_law_387 : decode cL_law 387 = .ok (.iload_n 3, 1) := by decide +kernel
theorem dL_law_388 : decode cL_law 388 = .ok (.iconst 1, 1) := by decide +kernel
theorem dL_law_389 : decode cL_law 389 = .ok (.iadd, 1) := by decide +kernel
theorem dL_law_390 : decode cL_law 390 = .ok (.iaload, 1) := by decide +kernel
theorem dL_law_391 : decode cL_law 391 = .ok (.aload_n 0, 1) := by decide +kernel
theorem dL_law_392 : decode cL_law 392 = .ok (.iload_n 3, 1) := by decide +kernel
theorem dL_law_393 : decode cL_law 393 = .ok (.iconst 2, 1) := by decide +kernel
theorem dL_law_394 : decode cL_law 394 = .ok (.iadd, 1) := by decide +kernel
theorem dL_law_395 : decode cL_law 395 = .ok (.iaload, 1) := by decide +kernel
theorem dL_law_396 : decode cL_law 396 = .ok (.invokevirtual 36, 3) := by decide +kernel
theorem dL_law_399 : decode cL_law 399 = .ok (.aload_n 2, 1) := by decide +kernel
theorem dL_law_400 : decode cL_law 400 = .ok (.aload_n 0, 1) := by decide +kernel
theorem dL_law_401 : decode cL_law 401 = .ok (.iload_n 3, 1) := by decide +kernel
theorem dL_law_402 : decode cL_law 402 = .ok (.iconst 1, 1) := by decide +kernel
theorem dL_law_403 : decode cL_law 403 = .ok (.iadd, 1) := by decide +kernel
theorem dL_law_404 : decode cL_law 404 = .ok (.iaload, 1) := by decide +kernel
theorem dL_law_405 : decode cL_law 405 = .ok (.aload_n 0, 1) := by decide +kernel
theorem dL_law_406 : decode cL_law 406 = .ok (.iload_n 3, 1) := by decide +kernel
theorem dL_law_407 : decode cL_law 407 = .ok (.iconst 2, 1) := by decide +kernel
theorem dL_law_408 : decode cL_law 408 = .ok (.iadd, 1) := by decide +kernel
theorem dL_law_409 : decode cL_law 409 = .ok (.iaload, 1) := by decide +kernel
theorem dL_law_410 : decode cL_law 410 = .ok (.invokevirtual 39, 3) := by decide +kernel
theorem dL_law_413 : decode cL_law 413 = .ok (.if_icmp .eq 1097, 3) := by decide +kernel
theorem dL_law_416 : decode cL_law 416 = .ok (.iconst 0, 1) := by decide +kernel
theorem dL_law_417 : decode cL_law 417 = .ok (.ireturn, 1) := by decide +kernel
theorem dL_law_418 : decode cL_law 418 = .ok (.aload_n 1, 1) := by decide +kernel
theorem dL_law_419 : decode cL_law 419 = .ok (.aload_n 0, 1) := by decide +kernel
theorem dL_law_420 : decode cL_law 420 = .ok (.iload_n 3, 1) := by decide +kernel
theorem dL_law_421 : decode cL_law 421 = .ok (.iconst 1, 1) := by decide +kernel
theorem dL_law_422 : decode cL_law 422 = .ok (.iadd, 1) := by decide +kernel
theorem dL_law_423 : decode cL_law 423 = .ok (.iaload, 1) := by decide +kernel
theorem dL_law_424 : decode cL_law 424 = .ok (.aload_n 0, 1) := by decide +kernel
theorem dL_law_425 : decode cL_law 425 = .ok (.iload_n 3, 1) := by decide +kernel
theorem dL_law_426 : decode cL_law 426 = .ok (.iconst 2, 1) := by decide +kernel
theorem dL_law_427 : decode cL_law 427 = .ok (.iadd, 1) := by decide +kernel
theorem dL_law_428 : decode cL_law 428 = .ok (.iaload, 1) := by decide +kernel
theorem dL_law_429 : decode cL_law 429 = .ok (.aload_n 0, 1) := by decide +kernel
theorem dL_law_430 : decode cL_law 430 = .ok (.iload_n 3, 1) := by decide +kernel
theorem dL_law_431 : decode cL_law 431 = .ok (.iconst 3, 1) := by decide +kernel
theorem dL_law_432 : decode cL_law 432 = .ok (.iadd, 1) := by decide +kernel
theorem dL_law_433 : decode cL_law 433 = .ok (.iaload, 1) := by decide +kernel
theorem dL_law_434 : decode cL_law 434 = .ok (.invokevirtual 40, 3) := by decide +kernel
theorem dL_law_437 : decode cL_law 437 = .ok (.aload_n 2, 1) := by decide +kernel
theorem dL_law_438 : decode cL_law 438 = .ok (.aload_n 0, 1) := by decide +kernel
theorem dL_law_439 : decode cL_law 439 = .ok (.iload_n 3, 1) := by decide +kernel
theorem dL_law_440 : decode cL_law 440 = .ok (.iconst 1, 1) := by decide +kernel
theorem dL_law_441 : decode cL_law 441 = .ok (.iadd, 1) := by decide +kernel
theorem dL_law_442 : decode cL_law 442 = .ok (.iaload, 1) := by decide +kernel
theorem dL_law_443 : decode cL_law 443 = .ok (.aload_n 0, 1) := by decide +kernel
theorem dL_law_444 : decode cL_law 444 = .ok (.iload_n 3, 1) := by decide +kernel
theorem dL_law_445 : decode cL_law 445 = .ok (.iconst 2, 1) := by decide +kernel
theorem dL_law_446 : decode cL_law 446 = .ok (.iadd, 1) := by decide +kernel
theorem dL_law_447 : decode cL_law 447 = .ok (.iaload, 1) := by decide +kernel
theorem dL_law_448 : decode cL_law 448 = .ok (.aload_n 0, 1) := by decide +kernel
theorem dL_law_449 : decode cL_law 449 = .ok (.iload_n 3, 1) := by decide +kernel
theorem dL_law_450 : decode cL_law 450 = .ok (.iconst 3, 1) := by decide +kernel
theorem dL_law_451 : decode cL_law 451 = .ok (.iadd, 1) := by decide +kernel
theorem dL_law_452 : decode cL_law 452 = .ok (.iaload, 1) := by decide +kernel
theorem dL_law_453 : decode cL_law 453 = .ok (.invokevirtual 43, 3) := by decide +kernel
theorem dL_law_456 : decode cL_law 456 = .ok (.if_icmp .eq 1054, 3) := by decide +kernel
theorem dL_law_459 : decode cL_law 459 = .ok (.iconst 0, 1) := by decide +kernel
theorem dL_law_460 : decode cL_law 460 = .ok (.ireturn, 1) := by decide +kernel
theorem dL_law_461 : decode cL_law 461 = .ok (.aload_n 1, 1) := by decide +kernel
theorem dL_law_462 : decode cL_law 462 = .ok (.aload_n 0, 1) := by decide +kernel
theorem dL_law_463 : decode cL_law 463 = .ok (.iload_n 3, 1) := by decide +kernel
theorem dL_law_464 : decode cL_law 464 = .ok (.iconst 1, 1) := by decide +kernel
theorem dL_law_465 : decode cL_law 465 = .ok (.iadd, 1) := by decide +kernel
theorem dL_law_466 : decode cL_law 466 = .ok (.iaload, 1) := by decide +kernel
theorem dL_law_467 : decode cL_law 467 = .ok (.aload_n 0, 1) := by decide +kernel
theorem dL_law_468 : decode cL_law 468 = .ok (.iload_n 3, 1) := by decide +kernel
theorem dL_law_469 : decode cL_law 469 = .ok (.iconst 2, 1) := by decide +kernel
theorem dL_law_470 : decode cL_law 470 = .ok (.iadd, 1) := by decide +kernel
theorem dL_law_471 : decode cL_law 471 = .ok (.iaload, 1) := by decide +kernel
theorem dL_law_472 : decode cL_law 472 = .ok (.invokevirtual 44, 3) := by decide +kernel
theorem dL_law_475 : decode cL_law 475 = .ok (.aload_n 2, 1) := by decide +kernel
theorem dL_law_476 : decode cL_law 476 = .ok (.aload_n 0, 1) := by decide +kernel
theorem dL_law_477 : decode cL_law 477 = .ok (.iload_n 3, 1) := by decide +kernel
theorem dL_law_478 : decode cL_law 478 = .ok (.iconst 1, 1) := by decide +kernel
theorem dL_law_479 : decode cL_law 479 = .ok (.iadd, 1) := by decide +kernel
theorem dL_law_480 : decode cL_law 480 = .ok (.iaload, 1) := by decide +kernel
theorem dL_law_481 : decode cL_law 481 = .ok (.aload_n 0, 1) := by decide +kernel
theorem dL_law_482 : decode cL_law 482 = .ok (.iload_n 3, 1) := by decide +kernel
theorem dL_law_483 : decode cL_law 483 = .ok (.iconst 2, 1) := by decide +kernel
theorem dL_law_484 : decode cL_law 484 = .ok (.iadd, 1) := by decide +kernel
theorem dL_law_485 : decode cL_law 485 = .ok (.iaload, 1) := by decide +kernel
theorem dL_law_486 : decode cL_law 486 = .ok (.invokevirtual 47, 3) := by decide +kernel
theorem dL_law_489 : decode cL_law 489 = .ok (.if_icmp .eq 1021, 3) := by decide +kernel
theorem dL_law_492 : decode cL_law 492 = .ok (.iconst 0, 1) := by decide +kernel
theorem dL_law_493 : decode cL_law 493 = .ok (.ireturn, 1) := by decide +kernel
theorem dL_law_494 : decode cL_law 494 = .ok (.aload_n 1, 1) := by decide +kernel
theorem dL_law_495 : decode cL_law 495 = .ok (.aload_n 0, 1) := by decide +kernel
theorem dL_law_496 : decode cL_law 496 = .ok (.iload_n 3, 1) := by decide +kernel
theorem dL_law_497 : decode cL_law 497 = .ok (.iconst 1, 1) := by decide +kernel
theorem dL_law_498 : decode cL_law 498 = .ok (.iadd, 1) := by decide +kernel
theorem dL_law_499 : decode cL_law 499 = .ok (.iaload, 1) := by decide +kernel
theorem dL_law_500 : decode cL_law 500 = .ok (.invokevirtual 48, 3) := by decide +kernel
theorem dL_law_503 : decode cL_law 503 = .ok (.aload_n 2, 1) := by decide +kernel
theorem dL_law_504 : decode cL_law 504 = .ok (.aload_n 0, 1) := by decide +kernel
theorem dL_law_505 : decode cL_law 505 = .ok (.iload_n 3, 1) := by decide +kernel
theorem dL_law_506 : decode cL_law 506 = .ok (.iconst 1, 1) := by decide +kernel
theorem dL_law_507 : decode cL_law 507 = .ok (.iadd, 1) := by decide +kernel
theorem dL_law_508 : decode cL_law 508 = .ok (.iaload, 1) := by decide +kernel
theorem dL_law_509 : decode cL_law 509 = .ok (.invokevirtual 51, 3) := by decide +kernel
theorem dL_law_512 : decode cL_law 512 = .ok (.if_icmp .eq 998, 3) := by decide +kernel
theorem dL_law_515 : decode cL_law 515 = .ok (.iconst 0, 1) := by decide +kernel
theorem dL_law_516 : decode cL_law 516 = .ok (.ireturn, 1) := by decide +kernel
theorem dL_law_517 : decode cL_law 517 = .ok (.aload_n 1, 1) := by decide +kernel
theorem dL_law_518 : decode cL_law 518 = .ok (.aload_n 0, 1) := by decide +kernel
theorem dL_law_519 : decode cL_law 519 = .ok (.iload_n 3, 1) := by decide +kernel
theorem dL_law_520 : decode cL_law 520 = .ok (.iconst 1, 1) := by decide +kernel
theorem dL_law_521 : decode cL_law 521 = .ok (.iadd, 1) := by decide +kernel
theorem dL_law_522 : decode cL_law 522 = .ok (.iaload, 1) := by decide +kernel
theorem dL_law_523 : decode cL_law 523 = .ok (.invokevirtual 52, 3) := by decide +kernel
theorem dL_law_526 : decode cL_law 526 = .ok (.aload_n 2, 1) := by decide +kernel
theorem dL_law_527 : decode cL_law 527 = .ok (.aload_n 0, 1) := by decide +kernel
theorem dL_law_528 : decode cL_law 528 = .ok (.iload_n 3, 1) := by decide +kernel
theorem dL_law_529 : decode cL_law 529 = .ok (.iconst 1, 1) := by decide +kernel
theorem dL_law_530 : decode cL_law 530 = .ok (.iadd, 1) := by decide +kernel
theorem dL_law_531 : decode cL_law 531 = .ok (.iaload, 1) := by decide +kernel
theorem dL_law_532 : decode cL_law 532 = .ok (.invokevirtual 55, 3) := by decide +kernel
theorem dL_law_535 : decode cL_law 535 = .ok (.if_icmp .eq 975, 3) := by decide +kernel
theorem dL_law_538 : decode cL_law 538 = .ok (.iconst 0, 1) := by decide +kernel
theorem dL_law_539 : decode cL_law 539 = .ok (.ireturn, 1) := by decide +kernel
theorem dL_law_540 : decode cL_law 540 = .ok (.aload_n 1, 1) := by decide +kernel
theorem dL_law_541 : decode cL_law 541 = .ok (.aload_n 0, 1) := by decide +kernel
theorem dL_law_542 : decode cL_law 542 = .ok (.iload_n 3, 1) := by decide +kernel
theorem dL_law_543 : decode cL_law 543 = .ok (.iconst 1, 1) := by decide +kernel
theorem dL_law_544 : decode cL_law 544 = .ok (.iadd, 1) := by decide +kernel
theorem dL_law_545 : decode cL_law 545 = .ok (.iaload, 1) := by decide +kernel
theorem dL_law_546 : decode cL_law 546 = .ok (.invokevirtual 56, 3) := by decide +kernel
theorem dL_law_549 : decode cL_law 549 = .ok (.aload_n 2, 1) := by decide +kernel
theorem dL_law_550 : decode cL_law 550 = .ok (.aload_n 0, 1) := by decide +kernel
theorem dL_law_551 : decode cL_law 551 = .ok (.iload_n 3, 1) := by decide +kernel
theorem dL_law_552 : decode cL_law 552 = .ok (.iconst 1, 1) := by decide +kernel
theorem dL_law_553 : decode cL_law 553 = .ok (.iadd, 1) := by decide +kernel
theorem dL_law_554 : decode cL_law 554 = .ok (.iaload, 1) := by decide +kernel
theorem dL_law_555 : decode cL_law 555 = .ok (.invokevirtual 59, 3) := by decide +kernel
theorem dL_law_558 : decode cL_law 558 = .ok (.if_icmp .eq 952, 3) := by decide +kernel
theorem dL_law_561 : decode cL_law 561 = .ok (.iconst 0, 1) := by decide +kernel
theorem dL_law_562 : decode cL_law 562 = .ok (.ireturn, 1) := by decide +kernel
theorem dL_law_563 : decode cL_law 563 = .ok (.aload_n 1, 1) := by decide +kernel
theorem dL_law_564 : decode cL_law 564 = .ok (.aload_n 0, 1) := by decide +kernel
theorem dL_law_565 : decode cL_law 565 = .ok (.iload_n 3, 1) := by decide +kernel
theorem dL_law_566 : decode cL_law 566 = .ok (.iconst 1, 1) := by decide +kernel
theorem dL_law_567 : decode cL_law 567 = .ok (.iadd, 1) := by decide +kernel
theorem dL_law_568 : decode cL_law 568 = .ok (.iaload, 1) := by decide +kernel
theorem dL_law_569 : decode cL_law 569 = .ok (.aload_n 0, 1) := by decide +kernel
theorem dL_law_570 : decode cL_law 570 = .ok (.iload_n 3, 1) := by decide +kernel
theorem dL_law_571 : decode cL_law 571 = .ok (.iconst 2, 1) := by decide +kernel
theorem dL_law_572 : decode cL_law 572 = .ok (.iadd, 1) := by decide +kernel
theorem dL_law_573 : decode cL_law 573 = .ok (.iaload, 1) := by decide +kernel
theorem dL_law_574 : decode cL_law 574 = .ok (.aload_n 0, 1) := by decide +kernel
theorem dL_law_575 : decode cL_law 575 = .ok (.iload_n 3, 1) := by decide +kernel
theorem dL_law_576 : decode cL_law 576 = .ok (.iconst 3, 1) := by decide +kernel
theorem dL_law_577 : decode cL_law 577 = .ok (.iadd, 1) := by decide +kernel
theorem dL_law_578 : decode cL_law 578 = .ok (.iaload, 1) := by decide +kernel
theorem dL_law_579 : decode cL_law 579 = .ok (.invokevirtual 60, 3) := by decide +kernel
theorem dL_law_582 : decode cL_law 582 = .ok (.aload_n 2, 1) := by decide +kernel
theorem dL_law_583 : decode cL_law 583 = .ok (.aload_n 0, 1) := by decide +kernel
theorem dL_law_584 : decode cL_law 584 = .ok (.iload_n 3, 1) := by decide +kernel
theorem dL_law_585 : decode cL_law 585 = .ok (.iconst 1, 1) := by decide +kernel
theorem dL_law_586 : decode cL_law 586 = .ok (.iadd, 1) := by decide +kernel
theorem dL_law_587 : decode cL_law 587 = .ok (.iaload, 1) := by decide +kernel
theorem dL_law_588 : decode cL_law 588 = .ok (.aload_n 0, 1) := by decide +kernel
theorem dL_law_589 : decode cL_law 589 = .ok (.iload_n 3, 1) := by decide +kernel
theorem dL_law_590 : decode cL_law 590 = .ok (.iconst 2, 1) := by decide +kernel
theorem dL_law_591 : decode cL_law 591 = .ok (.iadd, 1) := by decide +kernel
theorem dL_law_592 : decode cL_law 592 = .ok (.iaload, 1) := by decide +kernel
theorem dL_law_593 : decode cL_law 593 = .ok (.aload_n 0, 1) := by decide +kernel
theorem dL_law_594 : decode cL_law 594 = .ok (.iload_n 3, 1) := by decide +kernel
theorem dL_law_595 : decode cL_law 595 = .ok (.iconst 3, 1) := by decide +kernel
theorem dL_law_596 : decode cL_law 596 = .ok (.iadd, 1) := by decide +kernel
theorem dL_law_597 : decode cL_law 597 = .ok (.iaload, 1) := by decide +kernel
theorem dL_law_598 : decode cL_law 598 = .ok (.invokevirtual 63, 3) := by decide +kernel
theorem dL_law_601 : decode cL_law 601 = .ok (.if_icmp .eq 909, 3) := by decide +kernel
theorem dL_law_604 : decode cL_law 604 = .ok (.iconst 0, 1) := by decide +kernel
theorem dL_law_605 : decode cL_law 605 = .ok (.ireturn, 1) := by decide +kernel
theorem dL_law_606 : decode cL_law 606 = .ok (.aload_n 1, 1) := by decide +kernel
theorem dL_law_607 : decode cL_law 607 = .ok (.aload_n 0, 1) := by decide +kernel
theorem dL_law_608 : decode cL_law 608 = .ok (.iload_n 3, 1) := by decide +kernel
theorem dL_law_609 : decode cL_law 609 = .ok (.iconst 1, 1) := by decide +kernel
theorem dL_law_610 : decode cL_law 610 = .ok (.iadd, 1) := by decide +kernel
theorem dL_law_611 : decode cL_law 611 = .ok (.iaload, 1) := by decide +kernel
theorem dL_law_612 : decode cL_law 612 = .ok (.aload_n 0, 1) := by decide +kernel
theorem dL_law_613 : decode cL_law 613 = .ok (.iload_n 3, 1) := by decide +kernel
theorem dL_law_614 : decode cL_law 614 = .ok (.iconst 2, 1) := by decide +kernel
theorem dL_law_615 : decode cL_law 615 = .ok (.iadd, 1) := by decide +kernel
theorem dL_law_616 : decode cL_law 616 = .ok (.iaload, 1) := by decide +kernel
theorem dL_law_617 : decode cL_law 617 = .ok (.invokevirtual 64, 3) := by decide +kernel
theorem dL_law_620 : decode cL_law 620 = .ok (.aload_n 2, 1) := by decide +kernel
theorem dL_law_621 : decode cL_law 621 = .ok (.aload_n 0, 1) := by decide +kernel
theorem dL_law_622 : decode cL_law 622 = .ok (.iload_n 3, 1) := by decide +kernel
theorem dL_law_623 : decode cL_law 623 = .ok (.iconst 1, 1) := by decide +kernel
theorem dL_law_624 : decode cL_law 624 = .ok (.iadd, 1) := by decide +kernel
theorem dL_law_625 : decode cL_law 625 = .ok (.iaload, 1) := by decide +kernel
theorem dL_law_626 : decode cL_law 626 = .ok (.aload_n 0, 1) := by decide +kernel
theorem dL_law_627 : decode cL_law 627 = .ok (.iload_n 3, 1) := by decide +kernel
theorem dL_law_628 : decode cL_law 628 = .ok (.iconst 2, 1) := by decide +kernel
theorem dL_law_629 : decode cL_law 629 = .ok (.iadd, 1) := by decide +kernel
theorem dL_law_630 : decode cL_law 630 = .ok (.iaload, 1) := by decide +kernel
theorem dL_law_631 : decode cL_law 631 = .ok (.invokevirtual 67, 3) := by decide +kernel
theorem dL_law_634 : decode cL_law 634 = .ok (.if_icmp .eq 876, 3) := by decide +kernel
theorem dL_law_637 : decode cL_law 637 = .ok (.iconst 0, 1) := by decide +kernel
theorem dL_law_638 : decode cL_law 638 = .ok (.ireturn, 1) := by decide +kernel
theorem dL_law_639 : decode cL_law 639 = .ok (.aload_n 1, 1) := by decide +kernel
theorem dL_law_640 : decode cL_law 640 = .ok (.aload_n 0, 1) := by decide +kernel
theorem dL_law_641 : decode cL_law 641 = .ok (.iload_n 3, 1) := by decide +kernel
theorem dL_law_642 : decode cL_law 642 = .ok (.iconst 1, 1) := by decide +kernel
theorem dL_law_643 : decode cL_law 643 = .ok (.iadd, 1) := by decide +kernel
theorem dL_law_644 : decode cL_law 644 = .ok (.iaload, 1) := by decide +kernel
theorem dL_law_645 : decode cL_law 645 = .ok (.aload_n 0, 1) := by decide +kernel
theorem dL_law_646 : decode cL_law 646 = .ok (.iload_n 3, 1) := by decide +kernel
theorem dL_law_647 : decode cL_law 647 = .ok (.iconst 2, 1) := by decide +kernel
theorem dL_law_648 : decode cL_law 648 = .ok (.iadd, 1) := by decide +kernel
theorem dL_law_649 : decode cL_law 649 = .ok (.iaload, 1) := by decide +kernel
theorem dL_law_650 : decode cL_law 650 = .ok (.invokevirtual 68, 3) := by decide +kernel
theorem dL_law_653 : decode cL_law 653 = .ok (.aload_n 2, 1) := by decide +kernel
theorem dL_law_654 : decode cL_law 654 = .ok (.aload_n 0, 1) := by decide +kernel
theorem dL_law_655 : decode cL_law 655 = .ok (.iload_n 3, 1) := by decide +kernel
theorem dL_law_656 : decode cL_law 656 = .ok (.iconst 1, 1) := by decide +kernel
theorem dL_law_657 : decode cL_law 657 = .ok (.iadd, 1) := by decide +kernel
theorem dL_law_658 : decode cL_law 658 = .ok (.iaload, 1) := by decide +kernel
theorem dL_law_659 : decode cL_law 659 = .ok (.aload_n 0, 1) := by decide +kernel
theorem dL_law_660 : decode cL_law 660 = .ok (.iload_n 3, 1) := by decide +kernel
theorem dL_law_661 : decode cL_law 661 = .ok (.iconst 2, 1) := by decide +kernel
theorem dL_law_662 : decode cL_law 662 = .ok (.iadd, 1) := by decide +kernel
theorem dL_law_663 : decode cL_law 663 = .ok (.iaload, 1) := by decide +kernel
theorem dL_law_664 : decode cL_law 664 = .ok (.invokevirtual 71, 3) := by decide +kernel
theorem dL_law_667 : decode cL_law 667 = .ok (.if_icmp .eq 843, 3) := by decide +kernel
theorem dL_law_670 : decode cL_law 670 = .ok (.iconst 0, 1) := by decide +kernel
theorem dL_law_671 : decode cL_law 671 = .ok (.ireturn, 1) := by decide +kernel
theorem dL_law_672 : decode cL_law 672 = .ok (.aload_n 1, 1) := by decide +kernel
theorem dL_law_673 : decode cL_law 673 = .ok (.aload_n 0, 1) := by decide +kernel
theorem dL_law_674 : decode cL_law 674 = .ok (.iload_n 3, 1) := by decide +kernel
theorem dL_law_675 : decode cL_law 675 = .ok (.iconst 1, 1) := by decide +kernel
theorem dL_law_676 : decode cL_law 676 = .ok (.iadd, 1) := by decide +kernel
theorem dL_law_677 : decode cL_law 677 = .ok (.iaload, 1) := by decide +kernel
theorem dL_law_678 : decode cL_law 678 = .ok (.invokevirtual 72, 3) := by decide +kernel
theorem dL_law_681 : decode cL_law 681 = .ok (.aload_n 2, 1) := by decide +kernel
theorem dL_law_682 : decode cL_law 682 = .ok (.aload_n 0, 1) := by decide +kernel
theorem dL_law_683 : decode cL_law 683 = .ok (.iload_n 3, 1) := by decide +kernel
theorem dL_law_684 : decode cL_law 684 = .ok (.iconst 1, 1) := by decide +kernel
theorem dL_law_685 : decode cL_law 685 = .ok (.iadd, 1) := by decide +kernel
theorem dL_law_686 : decode cL_law 686 = .ok (.iaload, 1) := by decide +kernel
theorem dL_law_687 : decode cL_law 687 = .ok (.invokevirtual 75, 3) := by decide +kernel
theorem dL_law_690 : decode cL_law 690 = .ok (.if_icmp .eq 820, 3) := by decide +kernel
theorem dL_law_693 : decode cL_law 693 = .ok (.iconst 0, 1) := by decide +kernel
theorem dL_law_694 : decode cL_law 694 = .ok (.ireturn, 1) := by decide +kernel
theorem dL_law_695 : decode cL_law 695 = .ok (.aload_n 1, 1) := by decide +kernel
theorem dL_law_696 : decode cL_law 696 = .ok (.aload_n 0, 1) := by decide +kernel
theorem dL_law_697 : decode cL_law 697 = .ok (.iload_n 3, 1) := by decide +kernel
theorem dL_law_698 : decode cL_law 698 = .ok (.iconst 1, 1) := by decide +kernel
theorem dL_law_699 : decode cL_law 699 = .ok (.iadd, 1) := by decide +kernel
theorem dL_law_700 : decode cL_law 700 = .ok (.iaload, 1) := by decide +kernel
theorem dL_law_701 : decode cL_law 701 = .ok (.invokevirtual 76, 3) := by decide +kernel
theorem dL_law_704 : decode cL_law 704 = .ok (.aload_n 2, 1) := by decide +kernel
theorem dL_law_705 : decode cL_law 705 = .ok (.aload_n 0, 1) := by decide +kernel
theorem dL_law_706 : decode cL_law 706 = .ok (.iload_n 3, 1) := by decide +kernel
theorem dL_law_707 : decode cL_law 707 = .ok (.iconst 1, 1) := by decide +kernel
theorem dL_law_708 : decode cL_law 708 = .ok (.iadd, 1) := by decide +kernel
theorem dL_law_709 : decode cL_law 709 = .ok (.iaload, 1) := by decide +kernel
theorem dL_law_710 : decode cL_law 710 = .ok (.invokevirtual 79, 3) := by decide +kernel
theorem dL_law_713 : decode cL_law 713 = .ok (.if_icmp .eq 797, 3) := by decide +kernel
theorem dL_law_716 : decode cL_law 716 = .ok (.iconst 0, 1) := by decide +kernel
theorem dL_law_717 : decode cL_law 717 = .ok (.ireturn, 1) := by decide +kernel
theorem dL_law_718 : decode cL_law 718 = .ok (.aload_n 1, 1) := by decide +kernel
theorem dL_law_719 : decode cL_law 719 = .ok (.aload_n 0, 1) := by decide +kernel
theorem dL_law_720 : decode cL_law 720 = .ok (.iload_n 3, 1) := by decide +kernel
theorem dL_law_721 : decode cL_law 721 = .ok (.iconst 1, 1) := by decide +kernel
theorem dL_law_722 : decode cL_law 722 = .ok (.iadd, 1) := by decide +kernel
theorem dL_law_723 : decode cL_law 723 = .ok (.iaload, 1) := by decide +kernel
theorem dL_law_724 : decode cL_law 724 = .ok (.invokevirtual 80, 3) := by decide +kernel
theorem dL_law_727 : decode cL_law 727 = .ok (.aload_n 2, 1) := by decide +kernel
theorem dL_law_728 : decode cL_law 728 = .ok (.aload_n 0, 1) := by decide +kernel
theorem dL_law_729 : decode cL_law 729 = .ok (.iload_n 3, 1) := by decide +kernel
theorem dL_law_730 : decode cL_law 730 = .ok (.iconst 1, 1) := by decide +kernel
theorem dL_law_731 : decode cL_law 731 = .ok (.iadd, 1) := by decide +kernel
theorem dL_law_732 : decode cL_law 732 = .ok (.iaload, 1) := by decide +kernel
theorem dL_law_733 : decode cL_law 733 = .ok (.invokevirtual 83, 3) := by decide +kernel
theorem dL_law_736 : decode cL_law 736 = .ok (.if_icmp .eq 774, 3) := by decide +kernel
theorem dL_law_739 : decode cL_law 739 = .ok (.iconst 0, 1) := by decide +kernel
theorem dL_law_740 : decode cL_law 740 = .ok (.ireturn, 1) := by decide +kernel
theorem dL_law_741 : decode cL_law 741 = .ok (.aload_n 1, 1) := by decide +kernel
theorem dL_law_742 : decode cL_law 742 = .ok (.aload_n 0, 1) := by decide +kernel
theorem dL_law_743 : decode cL_law 743 = .ok (.iload_n 3, 1) := by decide +kernel
theorem dL_law_744 : decode cL_law 744 = .ok (.iconst 1, 1) := by decide +kernel
theorem dL_law_745 : decode cL_law 745 = .ok (.iadd, 1) := by decide +kernel
theorem dL_law_746 : decode cL_law 746 = .ok (.iaload, 1) := by decide +kernel
theorem dL_law_747 : decode cL_law 747 = .ok (.aload_n 0, 1) := by decide +kernel
theorem dL_law_748 : decode cL_law 748 = .ok (.iload_n 3, 1) := by decide +kernel
theorem dL_law_749 : decode cL_law 749 = .ok (.iconst 2, 1) := by decide +kernel
theorem dL_law_750 : decode cL_law 750 = .ok (.iadd, 1) := by decide +kernel
theorem dL_law_751 : decode cL_law 751 = .ok (.iaload, 1) := by decide +kernel
theorem dL_law_752 : decode cL_law 752 = .ok (.aload_n 0, 1) := by decide +kernel
theorem dL_law_753 : decode cL_law 753 = .ok (.iload_n 3, 1) := by decide +kernel
theorem dL_law_754 : decode cL_law 754 = .ok (.iconst 3, 1) := by decide +kernel
theorem dL_law_755 : decode cL_law 755 = .ok (.iadd, 1) := by decide +kernel
theorem dL_law_756 : decode cL_law 756 = .ok (.iaload, 1) := by decide +kernel
theorem dL_law_757 : decode cL_law 757 = .ok (.aload_n 0, 1) := by decide +kernel
theorem dL_law_758 : decode cL_law 758 = .ok (.iload_n 3, 1) := by decide +kernel
theorem dL_law_759 : decode cL_law 759 = .ok (.iconst 4, 1) := by decide +kernel
theorem dL_law_760 : decode cL_law 760 = .ok (.iadd, 1) := by decide +kernel
theorem dL_law_761 : decode cL_law 761 = .ok (.iaload, 1) := by decide +kernel
theorem dL_law_762 : decode cL_law 762 = .ok (.invokevirtual 84, 3) := by decide +kernel
theorem dL_law_765 : decode cL_law 765 = .ok (.aload_n 2, 1) := by decide +kernel
theorem dL_law_766 : decode cL_law 766 = .ok (.aload_n 0, 1) := by decide +kernel
theorem dL_law_767 : decode cL_law 767 = .ok (.iload_n 3, 1) := by decide +kernel
theorem dL_law_768 : decode cL_law 768 = .ok (.iconst 1, 1) := by decide +kernel
theorem dL_law_769 : decode cL_law 769 = .ok (.iadd, 1) := by decide +kernel
theorem dL_law_770 : decode cL_law 770 = .ok (.iaload, 1) := by decide +kernel
theorem dL_law_771 : decode cL_law 771 = .ok (.aload_n 0, 1) := by decide +kernel
theorem dL_law_772 : decode cL_law 772 = .ok (.iload_n 3, 1) := by decide +kernel
theorem dL_law_773 : decode cL_law 773 = .ok (.iconst 2, 1) := by decide +kernel
theorem dL_law_774 : decode cL_law 774 = .ok (.iadd, 1) := by decide +kernel
theorem dL_law_775 : decode cL_law 775 = .ok (.iaload, 1) := by decide +kernel
theorem dL_law_776 : decode cL_law 776 = .ok (.aload_n 0, 1) := by decide +kernel
theorem dL_law_777 : decode cL_law 777 = .ok (.iload_n 3, 1) := by decide +kernel
theorem dL_law_778 : decode cL_law 778 = .ok (.iconst 3, 1) := by decide +kernel
theorem dL_law_779 : decode cL_law 779 = .ok (.iadd, 1) := by decide +kernel
theorem dL_law_780 : decode cL_law 780 = .ok (.iaload, 1) := by decide +kernel
theorem dL_law_781 : decode cL_law 781 = .ok (.aload_n 0, 1) := by decide +kernel
theorem dL_law_782 : decode cL_law 782 = .ok (.iload_n 3, 1) := by decide +kernel
theorem dL_law_783 : decode cL_law 783 = .ok (.iconst 4, 1) := by decide +kernel
theorem dL_law_784 : decode cL_law 784 = .ok (.iadd, 1) := by decide +kernel
theorem dL_law_785 : decode cL_law 785 = .ok (.iaload, 1) := by decide +kernel
theorem dL_law_786 : decode cL_law 786 = .ok (.invokevirtual 88, 3) := by decide +kernel
theorem dL_law_789 : decode cL_law 789 = .ok (.if_icmp .eq 721, 3) := by decide +kernel
theorem dL_law_792 : decode cL_law 792 = .ok (.iconst 0, 1) := by decide +kernel
theorem dL_law_793 : decode cL_law 793 = .ok (.ireturn, 1) := by decide +kernel
theorem dL_law_794 : decode cL_law 794 = .ok (.aload_n 1, 1) := by decide +kernel
theorem dL_law_795 : decode cL_law 795 = .ok (.aload_n 0, 1) := by decide +kernel
theorem dL_law_796 : decode cL_law 796 = .ok (.iload_n 3, 1) := by decide +kernel
theorem dL_law_797 : decode cL_law 797 = .ok (.iconst 1, 1) := by decide +kernel
theorem dL_law_798 : decode cL_law 798 = .ok (.iadd, 1) := by decide +kernel
theorem dL_law_799 : decode cL_law 799 = .ok (.iaload, 1) := by decide +kernel
theorem dL_law_800 : decode cL_law 800 = .ok (.aload_n 0, 1) := by decide +kernel
theorem dL_law_801 : decode cL_law 801 = .ok (.iload_n 3, 1) := by decide +kernel
theorem dL_law_802 : decode cL_law 802 = .ok (.iconst 2, 1) := by decide +kernel
theorem dL_law_803 : decode cL_law 803 = .ok (.iadd, 1) := by decide +kernel
theorem dL_law_804 : decode cL_law 804 = .ok (.iaload, 1) := by decide +kernel
theorem dL_law_805 : decode cL_law 805 = .ok (.invokevirtual 89, 3) := by decide +kernel
theorem dL_law_808 : decode cL_law 808 = .ok (.aload_n 2, 1) := by decide +kernel
theorem dL_law_809 : decode cL_law 809 = .ok (.aload_n 0, 1) := by decide +kernel
theorem dL_law_810 : decode cL_law 810 = .ok (.iload_n 3, 1) := by decide +kernel
theorem dL_law_811 : decode cL_law 811 = .ok (.iconst 1, 1) := by decide +kernel
theorem dL_law_812 : decode cL_law 812 = .ok (.iadd, 1) := by decide +kernel
theorem dL_law_813 : decode cL_law 813 = .ok (.iaload, 1) := by decide +kernel
theorem dL_law_814 : decode cL_law 814 = .ok (.aload_n 0, 1) := by decide +kernel
theorem dL_law_815 : decode cL_law 815 = .ok (.iload_n 3, 1) := by decide +kernel
theorem dL_law_816 : decode cL_law 816 = .ok (.iconst 2, 1) := by decide +kernel
theorem dL_law_817 : decode cL_law 817 = .ok (.iadd, 1) := by decide +kernel
theorem dL_law_818 : decode cL_law 818 = .ok (.iaload, 1) := by decide +kernel
theorem dL_law_819 : decode cL_law 819 = .ok (.invokevirtual 92, 3) := by decide +kernel
theorem dL_law_822 : decode cL_law 822 = .ok (.if_icmp .eq 688, 3) := by decide +kernel
theorem dL_law_825 : decode cL_law 825 = .ok (.iconst 0, 1) := by decide +kernel
theorem dL_law_826 : decode cL_law 826 = .ok (.ireturn, 1) := by decide +kernel
theorem dL_law_827 : decode cL_law 827 = .ok (.aload_n 1, 1) := by decide +kernel
theorem dL_law_828 : decode cL_law 828 = .ok (.aload_n 0, 1) := by decide +kernel
theorem dL_law_829 : decode cL_law 829 = .ok (.iload_n 3, 1) := by decide +kernel
theorem dL_law_830 : decode cL_law 830 = .ok (.iconst 1, 1) := by decide +kernel
theorem dL_law_831 : decode cL_law 831 = .ok (.iadd, 1) := by decide +kernel
theorem dL_law_832 : decode cL_law 832 = .ok (.iaload, 1) := by decide +kernel
theorem dL_law_833 : decode cL_law 833 = .ok (.aload_n 0, 1) := by decide +kernel
theorem dL_law_834 : decode cL_law 834 = .ok (.iload_n 3, 1) := by decide +kernel
theorem dL_law_835 : decode cL_law 835 = .ok (.iconst 2, 1) := by decide +kernel
theorem dL_law_836 : decode cL_law 836 = .ok (.iadd, 1) := by decide +kernel
theorem dL_law_837 : decode cL_law 837 = .ok (.iaload, 1) := by decide +kernel
theorem dL_law_838 : decode cL_law 838 = .ok (.invokevirtual 93, 3) := by decide +kernel
theorem dL_law_841 : decode cL_law 841 = .ok (.aload_n 2, 1) := by decide +kernel
theorem dL_law_842 : decode cL_law 842 = .ok (.aload_n 0, 1) := by decide +kernel
theorem dL_law_843 : decode cL_law 843 = .ok (.iload_n 3, 1) := by decide +kernel
theorem dL_law_844 : decode cL_law 844 = .ok (.iconst 1, 1) := by decide +kernel
theorem dL_law_845 : decode cL_law 845 = .ok (.iadd, 1) := by decide +kernel
theorem dL_law_846 : decode cL_law 846 = .ok (.iaload, 1) := by decide +kernel
theorem dL_law_847 : decode cL_law 847 = .ok (.aload_n 0, 1) := by decide +kernel
theorem dL_law_848 : decode cL_law 848 = .ok (.iload_n 3, 1) := by decide +kernel
theorem dL_law_849 : decode cL_law 849 = .ok (.iconst 2, 1) := by decide +kernel
theorem dL_law_850 : decode cL_law 850 = .ok (.iadd, 1) := by decide +kernel
theorem dL_law_851 : decode cL_law 851 = .ok (.iaload, 1) := by decide +kernel
theorem dL_law_852 : decode cL_law 852 = .ok (.invokevirtual 96, 3) := by decide +kernel
theorem dL_law_855 : decode cL_law 855 = .ok (.if_icmp .eq 655, 3) := by decide +kernel
theorem dL_law_858 : decode cL_law 858 = .ok (.iconst 0, 1) := by decide +kernel
theorem dL_law_859 : decode cL_law 859 = .ok (.ireturn, 1) := by decide +kernel
theorem dL_law_860 : decode cL_law 860 = .ok (.aload_n 1, 1) := by decide +kernel
theorem dL_law_861 : decode cL_law 861 = .ok (.aload_n 0, 1) := by decide +kernel
theorem dL_law_862 : decode cL_law 862 = .ok (.iload_n 3, 1) := by decide +kernel
theorem dL_law_863 : decode cL_law 863 = .ok (.iconst 1, 1) := by decide +kernel
theorem dL_law_864 : decode cL_law 864 = .ok (.iadd, 1) := by decide +kernel
theorem dL_law_865 : decode cL_law 865 = .ok (.iaload, 1) := by decide +kernel
theorem dL_law_866 : decode cL_law 866 = .ok (.aload_n 0, 1) := by decide +kernel
theorem dL_law_867 : decode cL_law 867 = .ok (.iload_n 3, 1) := by decide +kernel
theorem dL_law_868 : decode cL_law 868 = .ok (.iconst 2, 1) := by decide +kernel
theorem dL_law_869 : decode cL_law 869 = .ok (.iadd, 1) := by decide +kernel
theorem dL_law_870 : decode cL_law 870 = .ok (.iaload, 1) := by decide +kernel
theorem dL_law_871 : decode cL_law 871 = .ok (.aload_n 0, 1) := by decide +kernel
theorem dL_law_872 : decode cL_law 872 = .ok (.iload_n 3, 1) := by decide +kernel
theorem dL_law_873 : decode cL_law 873 = .ok (.iconst 3, 1) := by decide +kernel
theorem dL_law_874 : decode cL_law 874 = .ok (.iadd, 1) := by decide +kernel
theorem dL_law_875 : decode cL_law 875 = .ok (.iaload, 1) := by decide +kernel
theorem dL_law_876 : decode cL_law 876 = .ok (.invokevirtual 97, 3) := by decide +kernel
theorem dL_law_879 : decode cL_law 879 = .ok (.aload_n 2, 1) := by decide +kernel
theorem dL_law_880 : decode cL_law 880 = .ok (.aload_n 0, 1) := by decide +kernel
theorem dL_law_881 : decode cL_law 881 = .ok (.iload_n 3, 1) := by decide +kernel
theorem dL_law_882 : decode cL_law 882 = .ok (.iconst 1, 1) := by decide +kernel
theorem dL_law_883 : decode cL_law 883 = .ok (.iadd, 1) := by decide +kernel
theorem dL_law_884 : decode cL_law 884 = .ok (.iaload, 1) := by decide +kernel
theorem dL_law_885 : decode cL_law 885 = .ok (.aload_n 0, 1) := by decide +kernel
theorem dL_law_886 : decode cL_law 886 = .ok (.iload_n 3, 1) := by decide +kernel
theorem dL_law_887 : decode cL_law 887 = .ok (.iconst 2, 1) := by decide +kernel
theorem dL_law_888 : decode cL_law 888 = .ok (.iadd, 1) := by decide +kernel
theorem dL_law_889 : decode cL_law 889 = .ok (.iaload, 1) := by decide +kernel
theorem dL_law_890 : decode cL_law 890 = .ok (.aload_n 0, 1) := by decide +kernel
theorem dL_law_891 : decode cL_law 891 = .ok (.iload_n 3, 1) := by decide +kernel
theorem dL_law_892 : decode cL_law 892 = .ok (.iconst 3, 1) := by decide +kernel
theorem dL_law_893 : decode cL_law 893 = .ok (.iadd, 1) := by decide +kernel
theorem dL_law_894 : decode cL_law 894 = .ok (.iaload, 1) := by decide +kernel
theorem dL_law_895 : decode cL_law 895 = .ok (.invokevirtual 100, 3) := by decide +kernel
theorem dL_law_898 : decode cL_law 898 = .ok (.if_icmp .eq 612, 3) := by decide +kernel
theorem dL_law_901 : decode cL_law 901 = .ok (.iconst 0, 1) := by decide +kernel
theorem dL_law_902 : decode cL_law 902 = .ok (.ireturn, 1) := by decide +kernel
theorem dL_law_903 : decode cL_law 903 = .ok (.aload_n 1, 1) := by decide +kernel
theorem dL_law_904 : decode cL_law 904 = .ok (.aload_n 0, 1) := by decide +kernel
theorem dL_law_905 : decode cL_law 905 = .ok (.iload_n 3, 1) := by decide +kernel
theorem dL_law_906 : decode cL_law 906 = .ok (.iconst 1, 1) := by decide +kernel
theorem dL_law_907 : decode cL_law 907 = .ok (.iadd, 1) := by decide +kernel
theorem dL_law_908 : decode cL_law 908 = .ok (.iaload, 1) := by decide +kernel
theorem dL_law_909 : decode cL_law 909 = .ok (.aload_n 0, 1) := by decide +kernel
theorem dL_law_910 : decode cL_law 910 = .ok (.iload_n 3, 1) := by decide +kernel
theorem dL_law_911 : decode cL_law 911 = .ok (.iconst 2, 1) := by decide +kernel
theorem dL_law_912 : decode cL_law 912 = .ok (.iadd, 1) := by decide +kernel
theorem dL_law_913 : decode cL_law 913 = .ok (.iaload, 1) := by decide +kernel
theorem dL_law_914 : decode cL_law 914 = .ok (.invokevirtual 101, 3) := by decide +kernel
theorem dL_law_917 : decode cL_law 917 = .ok (.aload_n 2, 1) := by decide +kernel
theorem dL_law_918 : decode cL_law 918 = .ok (.aload_n 0, 1) := by decide +kernel
theorem dL_law_919 : decode cL_law 919 = .ok (.iload_n 3, 1) := by decide +kernel
theorem dL_law_920 : decode cL_law 920 = .ok (.iconst 1, 1) := by decide +kernel
theorem dL_law_921 : decode cL_law 921 = .ok (.iadd, 1) := by decide +kernel
theorem dL_law_922 : decode cL_law 922 = .ok (.iaload, 1) := by decide +kernel
theorem dL_law_923 : decode cL_law 923 = .ok (.aload_n 0, 1) := by decide +kernel
theorem dL_law_924 : decode cL_law 924 = .ok (.iload_n 3, 1) := by decide +kernel
theorem dL_law_925 : decode cL_law 925 = .ok (.iconst 2, 1) := by decide +kernel
theorem dL_law_926 : decode cL_law 926 = .ok (.iadd, 1) := by decide +kernel
theorem dL_law_927 : decode cL_law 927 = .ok (.iaload, 1) := by decide +kernel
theorem dL_law_928 : decode cL_law 928 = .ok (.invokevirtual 104, 3) := by decide +kernel
theorem dL_law_931 : decode cL_law 931 = .ok (.if_icmp .eq 579, 3) := by decide +kernel
theorem dL_law_934 : decode cL_law 934 = .ok (.iconst 0, 1) := by decide +kernel
theorem dL_law_935 : decode cL_law 935 = .ok (.ireturn, 1) := by decide +kernel
theorem dL_law_936 : decode cL_law 936 = .ok (.aload_n 1, 1) := by decide +kernel
theorem dL_law_937 : decode cL_law 937 = .ok (.aload_n 0, 1) := by decide +kernel
theorem dL_law_938 : decode cL_law 938 = .ok (.iload_n 3, 1) := by decide +kernel
theorem dL_law_939 : decode cL_law 939 = .ok (.iconst 1, 1) := by decide +kernel
theorem dL_law_940 : decode cL_law 940 = .ok (.iadd, 1) := by decide +kernel
theorem dL_law_941 : decode cL_law 941 = .ok (.iaload, 1) := by decide +kernel
theorem dL_law_942 : decode cL_law 942 = .ok (.aload_n 0, 1) := by decide +kernel
theorem dL_law_943 : decode cL_law 943 = .ok (.iload_n 3, 1) := by decide +kernel
theorem dL_law_944 : decode cL_law 944 = .ok (.iconst 2, 1) := by decide +kernel
theorem dL_law_945 : decode cL_law 945 = .ok (.iadd, 1) := by decide +kernel
theorem dL_law_946 : decode cL_law 946 = .ok (.iaload, 1) := by decide +kernel
theorem dL_law_947 : decode cL_law 947 = .ok (.invokevirtual 105, 3) := by decide +kernel
theorem dL_law_950 : decode cL_law 950 = .ok (.aload_n 2, 1) := by decide +kernel
theorem dL_law_951 : decode cL_law 951 = .ok (.aload_n 0, 1) := by decide +kernel
theorem dL_law_952 : decode cL_law 952 = .ok (.iload_n 3, 1) := by decide +kernel
theorem dL_law_953 : decode cL_law 953 = .ok (.iconst 1, 1) := by decide +kernel
theorem dL_law_954 : decode cL_law 954 = .ok (.iadd, 1) := by decide +kernel
theorem dL_law_955 : decode cL_law 955 = .ok (.iaload, 1) := by decide +kernel
theorem dL_law_956 : decode cL_law 956 = .ok (.aload_n 0, 1) := by decide +kernel
theorem dL_law_957 : decode cL_law 957 = .ok (.iload_n 3, 1) := by decide +kernel
theorem dL_law_958 : decode cL_law 958 = .ok (.iconst 2, 1) := by decide +kernel
theorem dL_law_959 : decode cL_law 959 = .ok (.iadd, 1) := by decide +kernel
theorem dL_law_960 : decode cL_law 960 = .ok (.iaload, 1) := by decide +kernel
theorem dL_law_961 : decode cL_law 961 = .ok (.invokevirtual 108, 3) := by decide +kernel
theorem dL_law_964 : decode cL_law 964 = .ok (.if_icmp .eq 546, 3) := by decide +kernel
theorem dL_law_967 : decode cL_law 967 = .ok (.iconst 0, 1) := by decide +kernel
theorem dL_law_968 : decode cL_law 968 = .ok (.ireturn, 1) := by decide +kernel
theorem dL_law_969 : decode cL_law 969 = .ok (.aload_n 1, 1) := by decide +kernel
theorem dL_law_970 : decode cL_law 970 = .ok (.aload_n 0, 1) := by decide +kernel
theorem dL_law_971 : decode cL_law 971 = .ok (.iload_n 3, 1) := by decide +kernel
theorem dL_law_972 : decode cL_law 972 = .ok (.iconst 1, 1) := by decide +kernel
theorem dL_law_973 : decode cL_law 973 = .ok (.iadd, 1) := by decide +kernel
theorem dL_law_974 : decode cL_law 974 = .ok (.iaload, 1) := by decide +kernel
theorem dL_law_975 : decode cL_law 975 = .ok (.aload_n 0, 1) := by decide +kernel
theorem dL_law_976 : decode cL_law 976 = .ok (.iload_n 3, 1) := by decide +kernel
theorem dL_law_977 : decode cL_law 977 = .ok (.iconst 2, 1) := by decide +kernel
theorem dL_law_978 : decode cL_law 978 = .ok (.iadd, 1) := by decide +kernel
theorem dL_law_979 : decode cL_law 979 = .ok (.iaload, 1) := by decide +kernel
theorem dL_law_980 : decode cL_law 980 = .ok (.invokevirtual 109, 3) := by decide +kernel
theorem dL_law_983 : decode cL_law 983 = .ok (.aload_n 2, 1) := by decide +kernel
theorem dL_law_984 : decode cL_law 984 = .ok (.aload_n 0, 1) := by decide +kernel
theorem dL_law_985 : decode cL_law 985 = .ok (.iload_n 3, 1) := by decide +kernel
theorem dL_law_986 : decode cL_law 986 = .ok (.iconst 1, 1) := by decide +kernel
theorem dL_law_987 : decode cL_law 987 = .ok (.iadd, 1) := by decide +kernel
theorem dL_law_988 : decode cL_law 988 = .ok (.iaload, 1) := by decide +kernel
theorem dL_law_989 : decode cL_law 989 = .ok (.aload_n 0, 1) := by decide +kernel
theorem dL_law_990 : decode cL_law 990 = .ok (.iload_n 3, 1) := by decide +kernel
theorem dL_law_991 : decode cL_law 991 = .ok (.iconst 2, 1) := by decide +kernel
theorem dL_law_992 : decode cL_law 992 = .ok (.iadd, 1) := by decide +kernel
theorem dL_law_993 : decode cL_law 993 = .ok (.iaload, 1) := by decide +kernel
theorem dL_law_994 : decode cL_law 994 = .ok (.invokevirtual 112, 3) := by decide +kernel
theorem dL_law_997 : decode cL_law 997 = .ok (.if_icmp .eq 513, 3) := by decide +kernel
theorem dL_law_1000 : decode cL_law 1000 = .ok (.iconst 0, 1) := by decide +kernel
theorem dL_law_1001 : decode cL_law 1001 = .ok (.ireturn, 1) := by decide +kernel
theorem dL_law_1002 : decode cL_law 1002 = .ok (.aload_n 1, 1) := by decide +kernel
theorem dL_law_1003 : decode cL_law 1003 = .ok (.aload_n 0, 1) := by decide +kernel
theorem dL_law_1004 : decode cL_law 1004 = .ok (.iload_n 3, 1) := by decide +kernel
theorem dL_law_1005 : decode cL_law 1005 = .ok (.iconst 1, 1) := by decide +kernel
theorem dL_law_1006 : decode cL_law 1006 = .ok (.iadd, 1) := by decide +kernel
theorem dL_law_1007 : decode cL_law 1007 = .ok (.iaload, 1) := by decide +kernel
theorem dL_law_1008 : decode cL_law 1008 = .ok (.invokevirtual 113, 3) := by decide +kernel
theorem dL_law_1011 : decode cL_law 1011 = .ok (.aload_n 2, 1) := by decide +kernel
theorem dL_law_1012 : decode cL_law 1012 = .ok (.aload_n 0, 1) := by decide +kernel
theorem dL_law_1013 : decode cL_law 1013 = .ok (.iload_n 3, 1) := by decide +kernel
theorem dL_law_1014 : decode cL_law 1014 = .ok (.iconst 1, 1) := by decide +kernel
theorem dL_law_1015 : decode cL_law 1015 = .ok (.iadd, 1) := by decide +kernel
theorem dL_law_1016 : decode cL_law 1016 = .ok (.iaload, 1) := by decide +kernel
theorem dL_law_1017 : decode cL_law 1017 = .ok (.invokevirtual 116, 3) := by decide +kernel
theorem dL_law_1020 : decode cL_law 1020 = .ok (.if_icmp .eq 490, 3) := by decide +kernel
theorem dL_law_1023 : decode cL_law 1023 = .ok (.iconst 0, 1) := by decide +kernel
theorem dL_law_1024 : decode cL_law 1024 = .ok (.ireturn, 1) := by decide +kernel
theorem dL_law_1025 : decode cL_law 1025 = .ok (.aload_n 1, 1) := by decide +kernel
theorem dL_law_1026 : decode cL_law 1026 = .ok (.aload_n 0, 1) := by decide +kernel
theorem dL_law_1027 : decode cL_law 1027 = .ok (.iload_n 3, 1) := by decide +kernel
theorem dL_law_1028 : decode cL_law 1028 = .ok (.iconst 1, 1) := by decide +kernel
theorem dL_law_1029 : decode cL_law 1029 = .ok (.iadd, 1) := by decide +kernel
theorem dL_law_1030 : decode cL_law 1030 = .ok (.iaload, 1) := by decide +kernel
theorem dL_law_1031 : decode cL_law 1031 = .ok (.invokevirtual 117, 3) := by decide +kernel
theorem dL_law_1034 : decode cL_law 1034 = .ok (.aload_n 2, 1) := by decide +kernel
theorem dL_law_1035 : decode cL_law 1035 = .ok (.aload_n 0, 1) := by decide +kernel
theorem dL_law_1036 : decode cL_law 1036 = .ok (.iload_n 3, 1) := by decide +kernel
theorem dL_law_1037 : decode cL_law 1037 = .ok (.iconst 1, 1) := by decide +kernel
theorem dL_law_1038 : decode cL_law 1038 = .ok (.iadd, 1) := by decide +kernel
theorem dL_law_1039 : decode cL_law 1039 = .ok (.iaload, 1) := by decide +kernel
theorem dL_law_1040 : decode cL_law 1040 = .ok (.invokevirtual 120, 3) := by decide +kernel
theorem dL_law_1043 : decode cL_law 1043 = .ok (.if_icmp .eq 467, 3) := by decide +kernel
theorem dL_law_1046 : decode cL_law 1046 = .ok (.iconst 0, 1) := by decide +kernel
theorem dL_law_1047 : decode cL_law 1047 = .ok (.ireturn, 1) := by decide +kernel
theorem dL_law_1048 : decode cL_law 1048 = .ok (.aload_n 1, 1) := by decide +kernel
theorem dL_law_1049 : decode cL_law 1049 = .ok (.aload_n 0, 1) := by decide +kernel
theorem dL_law_1050 : decode cL_law 1050 = .ok (.iload_n 3, 1) := by decide +kernel
theorem dL_law_1051 : decode cL_law 1051 = .ok (.iconst 1, 1) := by decide +kernel
theorem dL_law_1052 : decode cL_law 1052 = .ok (.iadd, 1) := by decide +kernel
theorem dL_law_1053 : decode cL_law 1053 = .ok (.iaload, 1) := by decide +kernel
theorem dL_law_1054 : decode cL_law 1054 = .ok (.aload_n 0, 1) := by decide +kernel
theorem dL_law_1055 : decode cL_law 1055 = .ok (.iload_n 3, 1) := by decide +kernel
theorem dL_law_1056 : decode cL_law 1056 = .ok (.iconst 2, 1) := by decide +kernel
theorem dL_law_1057 : decode cL_law 1057 = .ok (.iadd, 1) := by decide +kernel
theorem dL_law_1058 : decode cL_law 1058 = .ok (.iaload, 1) := by decide +kernel
theorem dL_law_1059 : decode cL_law 1059 = .ok (.invokevirtual 121, 3) := by decide +kernel
theorem dL_law_1062 : decode cL_law 1062 = .ok (.aload_n 2, 1) := by decide +kernel
theorem dL_law_1063 : decode cL_law 1063 = .ok (.aload_n 0, 1) := by decide +kernel
theorem dL_law_1064 : decode cL_law 1064 = .ok (.iload_n 3, 1) := by decide +kernel
theorem dL_law_1065 : decode cL_law 1065 = .ok (.iconst 1, 1) := by decide +kernel
theorem dL_law_1066 : decode cL_law 1066 = .ok (.iadd, 1) := by decide +kernel
theorem dL_law_1067 : decode cL_law 1067 = .ok (.iaload, 1) := by decide +kernel
theorem dL_law_1068 : decode cL_law 1068 = .ok (.aload_n 0, 1) := by decide +kernel
theorem dL_law_1069 : decode cL_law 1069 = .ok (.iload_n 3, 1) := by decide +kernel
theorem dL_law_1070 : decode cL_law 1070 = .ok (.iconst 2, 1) := by decide +kernel
theorem dL_law_1071 : decode cL_law 1071 = .ok (.iadd, 1) := by decide +kernel
theorem dL_law_1072 : decode cL_law 1072 = .ok (.iaload, 1) := by decide +kernel
theorem dL_law_1073 : decode cL_law 1073 = .ok (.invokevirtual 125, 3) := by decide +kernel
theorem dL_law_1076 : decode cL_law 1076 = .ok (.lcmp, 1) := by decide +kernel
theorem dL_law_1077 : decode cL_law 1077 = .ok (.ifCond .eq 433, 3) := by decide +kernel
theorem dL_law_1080 : decode cL_law 1080 = .ok (.iconst 0, 1) := by decide +kernel
theorem dL_law_1081 : decode cL_law 1081 = .ok (.ireturn, 1) := by decide +kernel
theorem dL_law_1082 : decode cL_law 1082 = .ok (.aload_n 1, 1) := by decide +kernel
theorem dL_law_1083 : decode cL_law 1083 = .ok (.aload_n 0, 1) := by decide +kernel
theorem dL_law_1084 : decode cL_law 1084 = .ok (.iload_n 3, 1) := by decide +kernel
theorem dL_law_1085 : decode cL_law 1085 = .ok (.iconst 1, 1) := by decide +kernel
theorem dL_law_1086 : decode cL_law 1086 = .ok (.iadd, 1) := by decide +kernel
theorem dL_law_1087 : decode cL_law 1087 = .ok (.iaload, 1) := by decide +kernel
theorem dL_law_1088 : decode cL_law 1088 = .ok (.invokevirtual 126, 3) := by decide +kernel
theorem dL_law_1091 : decode cL_law 1091 = .ok (.aload_n 2, 1) := by decide +kernel
theorem dL_law_1092 : decode cL_law 1092 = .ok (.aload_n 0, 1) := by decide +kernel
theorem dL_law_1093 : decode cL_law 1093 = .ok (.iload_n 3, 1) := by decide +kernel
theorem dL_law_1094 : decode cL_law 1094 = .ok (.iconst 1, 1) := by decide +kernel
theorem dL_law_1095 : decode cL_law 1095 = .ok (.iadd, 1) := by decide +kernel
theorem dL_law_1096 : decode cL_law 1096 = .ok (.iaload, 1) := by decide +kernel
theorem dL_law_1097 : decode cL_law 1097 = .ok (.invokevirtual 129, 3) := by decide +kernel
theorem dL_law_1100 : decode cL_law 1100 = .ok (.if_icmp .eq 410, 3) := by decide +kernel
theorem dL_law_1103 : decode cL_law 1103 = .ok (.iconst 0, 1) := by decide +kernel
theorem dL_law_1104 : decode cL_law 1104 = .ok (.ireturn, 1) := by decide +kernel
theorem dL_law_1105 : decode cL_law 1105 = .ok (.aload_n 1, 1) := by decide +kernel
theorem dL_law_1106 : decode cL_law 1106 = .ok (.aload_n 0, 1) := by decide +kernel
theorem dL_law_1107 : decode cL_law 1107 = .ok (.iload_n 3, 1) := by decide +kernel
theorem dL_law_1108 : decode cL_law 1108 = .ok (.iconst 1, 1) := by decide +kernel
theorem dL_law_1109 : decode cL_law 1109 = .ok (.iadd, 1) := by decide +kernel
theorem dL_law_1110 : decode cL_law 1110 = .ok (.iaload, 1) := by decide +kernel
theorem dL_law_1111 : decode cL_law 1111 = .ok (.aload_n 0, 1) := by decide +kernel
theorem dL_law_1112 : decode cL_law 1112 = .ok (.iload_n 3, 1) := by decide +kernel
theorem dL_law_1113 : decode cL_law 1113 = .ok (.iconst 2, 1) := by decide +kernel
theorem dL_law_1114 : decode cL_law 1114 = .ok (.iadd, 1) := by decide +kernel
theorem dL_law_1115 : decode cL_law 1115 = .ok (.iaload, 1) := by decide +kernel
theorem dL_law_1116 : decode cL_law 1116 = .ok (.invokevirtual 130, 3) := by decide +kernel
theorem dL_law_1119 : decode cL_law 1119 = .ok (.aload_n 2, 1) := by decide +kernel
theorem dL_law_1120 : decode cL_law 1120 = .ok (.aload_n 0, 1) := by decide +kernel
theorem dL_law_1121 : decode cL_law 1121 = .ok (.iload_n 3, 1) := by decide +kernel
theorem dL_law_1122 : decode cL_law 1122 = .ok (.iconst 1, 1) := by decide +kernel
theorem dL_law_1123 : decode cL_law 1123 = .ok (.iadd, 1) := by decide +kernel
theorem dL_law_1124 : decode cL_law 1124 = .ok (.iaload, 1) := by decide +kernel
theorem dL_law_1125 : decode cL_law 1125 = .ok (.aload_n 0, 1) := by decide +kernel
theorem dL_law_1126 : decode cL_law 1126 = .ok (.iload_n 3, 1) := by decide +kernel
theorem dL_law_1127 : decode cL_law 1127 = .ok (.iconst 2, 1) := by decide +kernel
theorem dL_law_1128 : decode cL_law 1128 = .ok (.iadd, 1) := by decide +kernel
theorem dL_law_1129 : decode cL_law 1129 = .ok (.iaload, 1) := by decide +kernel
theorem dL_law_1130 : decode cL_law 1130 = .ok (.invokevirtual 133, 3) := by decide +kernel
theorem dL_law_1133 : decode cL_law 1133 = .ok (.if_icmp .eq 377, 3) := by decide +kernel
theorem dL_law_1136 : decode cL_law 1136 = .ok (.iconst 0, 1) := by decide +kernel
theorem dL_law_1137 : decode cL_law 1137 = .ok (.ireturn, 1) := by decide +kernel
theorem dL_law_1138 : decode cL_law 1138 = .ok (.aload_n 1, 1) := by decide +kernel
theorem dL_law_1139 : decode cL_law 1139 = .ok (.invokevirtual 134, 3) := by decide +kernel
theorem dL_law_1142 : decode cL_law 1142 = .ok (.aload_n 2, 1) := by decide +kernel
theorem dL_law_1143 : decode cL_law 1143 = .ok (.invokevirtual 138, 3) := by decide +kernel
theorem dL_law_1146 : decode cL_law 1146 = .ok (.if_icmp .eq 364, 3) := by decide +kernel
theorem dL_law_1149 : decode cL_law 1149 = .ok (.iconst 0, 1) := by decide +kernel
theorem dL_law_1150 : decode cL_law 1150 = .ok (.ireturn, 1) := by decide +kernel
theorem dL_law_1151 : decode cL_law 1151 = .ok (.aload_n 1, 1) := by decide +kernel
theorem dL_law_1152 : decode cL_law 1152 = .ok (.invokevirtual 139, 3) := by decide +kernel
theorem dL_law_1155 : decode cL_law 1155 = .ok (.aload_n 2, 1) := by decide +kernel
theorem dL_law_1156 : decode cL_law 1156 = .ok (.invokevirtual 142, 3) := by decide +kernel
theorem dL_law_1159 : decode cL_law 1159 = .ok (.if_icmp .eq 351, 3) := by decide +kernel
theorem dL_law_1162 : decode cL_law 1162 = .ok (.iconst 0, 1) := by decide +kernel
theorem dL_law_1163 : decode cL_law 1163 = .ok (.ireturn, 1) := by decide +kernel
theorem dL_law_1164 : decode cL_law 1164 = .ok (.aload_n 1, 1) := by decide +kernel
theorem dL_law_1165 : decode cL_law 1165 = .ok (.aload_n 0, 1) := by decide +kernel
theorem dL_law_1166 : decode cL_law 1166 = .ok (.iload_n 3, 1) := by decide +kernel
theorem dL_law_1167 : decode cL_law 1167 = .ok (.iconst 1, 1) := by decide +kernel
theorem dL_law_1168 : decode cL_law 1168 = .ok (.iadd, 1) := by decide +kernel
theorem dL_law_1169 : decode cL_law 1169 = .ok (.iaload, 1) := by decide +kernel
theorem dL_law_1170 : decode cL_law 1170 = .ok (.aload_n 0, 1) := by decide +kernel
theorem dL_law_1171 : decode cL_law 1171 = .ok (.iload_n 3, 1) := by decide +kernel
theorem dL_law_1172 : decode cL_law 1172 = .ok (.iconst 2, 1) := by decide +kernel
theorem dL_law_1173 : decode cL_law 1173 = .ok (.iadd, 1) := by decide +kernel
theorem dL_law_1174 : decode cL_law 1174 = .ok (.iaload, 1) := by decide +kernel
theorem dL_law_1175 : decode cL_law 1175 = .ok (.invokevirtual 143, 3) := by decide +kernel
theorem dL_law_1178 : decode cL_law 1178 = .ok (.aload_n 2, 1) := by decide +kernel
theorem dL_law_1179 : decode cL_law 1179 = .ok (.aload_n 0, 1) := by decide +kernel
theorem dL_law_1180 : decode cL_law 1180 = .ok (.iload_n 3, 1) := by decide +kernel
theorem dL_law_1181 : decode cL_law 1181 = .ok (.iconst 1, 1) := by decide +kernel
theorem dL_law_1182 : decode cL_law 1182 = .ok (.iadd, 1) := by decide +kernel
theorem dL_law_1183 : decode cL_law 1183 = .ok (.iaload, 1) := by decide +kernel
theorem dL_law_1184 : decode cL_law 1184 = .ok (.aload_n 0, 1) := by decide +kernel
theorem dL_law_1185 : decode cL_law 1185 = .ok (.iload_n 3, 1) := by decide +kernel
theorem dL_law_1186 : decode cL_law 1186 = .ok (.iconst 2, 1) := by decide +kernel
theorem dL_law_1187 : decode cL_law 1187 = .ok (.iadd, 1) := by decide +kernel
theorem dL_law_1188 : decode cL_law 1188 = .ok (.iaload, 1) := by decide +kernel
theorem dL_law_1189 : decode cL_law 1189 = .ok (.invokevirtual 146, 3) := by decide +kernel
theorem dL_law_1192 : decode cL_law 1192 = .ok (.if_icmp .eq 318, 3) := by decide +kernel
theorem dL_law_1195 : decode cL_law 1195 = .ok (.iconst 0, 1) := by decide +kernel
theorem dL_law_1196 : decode cL_law 1196 = .ok (.ireturn, 1) := by decide +kernel
theorem dL_law_1197 : decode cL_law 1197 = .ok (.aload_n 1, 1) := by decide +kernel
theorem dL_law_1198 : decode cL_law 1198 = .ok (.aload_n 0, 1) := by decide +kernel
theorem dL_law_1199 : decode cL_law 1199 = .ok (.iload_n 3, 1) := by decide +kernel
theorem dL_law_1200 : decode cL_law 1200 = .ok (.iconst 1, 1) := by decide +kernel
theorem dL_law_1201 : decode cL_law 1201 = .ok (.iadd, 1) := by decide +kernel
theorem dL_law_1202 : decode cL_law 1202 = .ok (.iaload, 1) := by decide +kernel
theorem dL_law_1203 : decode cL_law 1203 = .ok (.aload_n 0, 1) := by decide +kernel
theorem dL_law_1204 : decode cL_law 1204 = .ok (.iload_n 3, 1) := by decide +kernel
theorem dL_law_1205 : decode cL_law 1205 = .ok (.iconst 2, 1) := by decide +kernel
theorem dL_law_1206 : decode cL_law 1206 = .ok (.iadd, 1) := by decide +kernel
theorem dL_law_1207 : decode cL_law 1207 = .ok (.iaload, 1) := by decide +kernel
theorem dL_law_1208 : decode cL_law 1208 = .ok (.invokevirtual 147, 3) := by decide +kernel
theorem dL_law_1211 : decode cL_law 1211 = .ok (.aload_n 2, 1) := by decide +kernel
theorem dL_law_1212 : decode cL_law 1212 = .ok (.aload_n 0, 1) := by decide +kernel
theorem dL_law_1213 : decode cL_law 1213 = .ok (.iload_n 3, 1) := by decide +kernel
theorem dL_law_1214 : decode cL_law 1214 = .ok (.iconst 1, 1) := by decide +kernel
theorem dL_law_1215 : decode cL_law 1215 = .ok (.iadd, 1) := by decide +kernel
theorem dL_law_1216 : decode cL_law 1216 = .ok (.iaload, 1) := by decide +kernel
theorem dL_law_1217 : decode cL_law 1217 = .ok (.aload_n 0, 1) := by decide +kernel
theorem dL_law_1218 : decode cL_law 1218 = .ok (.iload_n 3, 1) := by decide +kernel
theorem dL_law_1219 : decode cL_law 1219 = .ok (.iconst 2, 1) := by decide +kernel
theorem dL_law_1220 : decode cL_law 1220 = .ok (.iadd, 1) := by decide +kernel
theorem dL_law_1221 : decode cL_law 1221 = .ok (.iaload, 1) := by decide +kernel
theorem dL_law_1222 : decode cL_law 1222 = .ok (.invokevirtual 150, 3) := by decide +kernel
theorem dL_law_1225 : decode cL_law 1225 = .ok (.if_icmp .eq 285, 3) := by decide +kernel
theorem dL_law_1228 : decode cL_law 1228 = .ok (.iconst 0, 1) := by decide +kernel
theorem dL_law_1229 : decode cL_law 1229 = .ok (.ireturn, 1) := by decide +kernel
theorem dL_law_1230 : decode cL_law 1230 = .ok (.aload_n 1, 1) := by decide +kernel
theorem dL_law_1231 : decode cL_law 1231 = .ok (.aload_n 0, 1) := by decide +kernel
theorem dL_law_1232 : decode cL_law 1232 = .ok (.iload_n 3, 1) := by decide +kernel
theorem dL_law_1233 : decode cL_law 1233 = .ok (.iconst 1, 1) := by decide +kernel
theorem dL_law_1234 : decode cL_law 1234 = .ok (.iadd, 1) := by decide +kernel
theorem dL_law_1235 : decode cL_law 1235 = .ok (.iaload, 1) := by decide +kernel
theorem dL_law_1236 : decode cL_law 1236 = .ok (.aload_n 0, 1) := by decide +kernel
theorem dL_law_1237 : decode cL_law 1237 = .ok (.iload_n 3, 1) := by decide +kernel
theorem dL_law_1238 : decode cL_law 1238 = .ok (.iconst 2, 1) := by decide +kernel
theorem dL_law_1239 : decode cL_law 1239 = .ok (.iadd, 1) := by decide +kernel
theorem dL_law_1240 : decode cL_law 1240 = .ok (.iaload, 1) := by decide +kernel
theorem dL_law_1241 : decode cL_law 1241 = .ok (.aload_n 0, 1) := by decide +kernel
theorem dL_law_1242 : decode cL_law 1242 = .ok (.iload_n 3, 1) := by decide +kernel
theorem dL_law_1243 : decode cL_law 1243 = .ok (.iconst 3, 1) := by decide +kernel
theorem dL_law_1244 : decode cL_law 1244 = .ok (.iadd, 1) := by decide +kernel
theorem dL_law_1245 : decode cL_law 1245 = .ok (.iaload, 1) := by decide +kernel
theorem dL_law_1246 : decode cL_law 1246 = .ok (.invokevirtual 151, 3) := by decide +kernel
theorem dL_law_1249 : decode cL_law 1249 = .ok (.aload_n 2, 1) := by decide +kernel
theorem dL_law_1250 : decode cL_law 1250 = .ok (.aload_n 0, 1) := by decide +kernel
theorem dL_law_1251 : decode cL_law 1251 = .ok (.iload_n 3, 1) := by decide +kernel
theorem dL_law_1252 : decode cL_law 1252 = .ok (.iconst 1, 1) := by decide +kernel
theorem dL_law_1253 : decode cL_law 1253 = .ok (.iadd, 1) := by decide +kernel
theorem dL_law_1254 : decode cL_law 1254 = .ok (.iaload, 1) := by decide +kernel
theorem dL_law_1255 : decode cL_law 1255 = .ok (.aload_n 0, 1) := by decide +kernel
theorem dL_law_1256 : decode cL_law 1256 = .ok (.iload_n 3, 1) := by decide +kernel
theorem dL_law_1257 : decode cL_law 1257 = .ok (.iconst 2, 1) := by decide +kernel
theorem dL_law_1258 : decode cL_law 1258 = .ok (.iadd, 1) := by decide +kernel
theorem dL_law_1259 : decode cL_law 1259 = .ok (.iaload, 1) := by decide +kernel
theorem dL_law_1260 : decode cL_law 1260 = .ok (.aload_n 0, 1) := by decide +kernel
theorem dL_law_1261 : decode cL_law 1261 = .ok (.iload_n 3, 1) := by decide +kernel
theorem dL_law_1262 : decode cL_law 1262 = .ok (.iconst 3, 1) := by decide +kernel
theorem dL_law_1263 : decode cL_law 1263 = .ok (.iadd, 1) := by decide +kernel
theorem dL_law_1264 : decode cL_law 1264 = .ok (.iaload, 1) := by decide +kernel
theorem dL_law_1265 : decode cL_law 1265 = .ok (.invokevirtual 154, 3) := by decide +kernel
theorem dL_law_1268 : decode cL_law 1268 = .ok (.if_icmp .eq 242, 3) := by decide +kernel
theorem dL_law_1271 : decode cL_law 1271 = .ok (.iconst 0, 1) := by decide +kernel
theorem dL_law_1272 : decode cL_law 1272 = .ok (.ireturn, 1) := by decide +kernel
theorem dL_law_1273 : decode cL_law 1273 = .ok (.aload_n 1, 1) := by decide +kernel
theorem dL_law_1274 : decode cL_law 1274 = .ok (.aload_n 0, 1) := by decide +kernel
theorem dL_law_1275 : decode cL_law 1275 = .ok (.iload_n 3, 1) := by decide +kernel
theorem dL_law_1276 : decode cL_law 1276 = .ok (.iconst 1, 1) := by decide +kernel
theorem dL_law_1277 : decode cL_law 1277 = .ok (.iadd, 1) := by decide +kernel
theorem dL_law_1278 : decode cL_law 1278 = .ok (.iaload, 1) := by decide +kernel
theorem dL_law_1279 : decode cL_law 1279 = .ok (.aload_n 0, 1) := by decide +kernel
theorem dL_law_1280 : decode cL_law 1280 = .ok (.iload_n 3, 1) := by decide +kernel
theorem dL_law_1281 : decode cL_law 1281 = .ok (.iconst 2, 1) := by decide +kernel
theorem dL_law_1282 : decode cL_law 1282 = .ok (.iadd, 1) := by decide +kernel
theorem dL_law_1283 : decode cL_law 1283 = .ok (.iaload, 1) := by decide +kernel
theorem dL_law_1284 : decode cL_law 1284 = .ok (.aload_n 0, 1) := by decide +kernel
theorem dL_law_1285 : decode cL_law 1285 = .ok (.iload_n 3, 1) := by decide +kernel
theorem dL_law_1286 : decode cL_law 1286 = .ok (.iconst 3, 1) := by decide +kernel
theorem dL_law_1287 : decode cL_law 1287 = .ok (.iadd, 1) := by decide +kernel
theorem dL_law_1288 : decode cL_law 1288 = .ok (.iaload, 1) := by decide +kernel
theorem dL_law_1289 : decode cL_law 1289 = .ok (.invokevirtual 155, 3) := by decide +kernel
theorem dL_law_1292 : decode cL_law 1292 = .ok (.aload_n 2, 1) := by decide +kernel
theorem dL_law_1293 : decode cL_law 1293 = .ok (.aload_n 0, 1) := by decide +kernel
theorem dL_law_1294 : decode cL_law 1294 = .ok (.iload_n 3, 1) := by decide +kernel
theorem dL_law_1295 : decode cL_law 1295 = .ok (.iconst 1, 1) := by decide +kernel
theorem dL_law_1296 : decode cL_law 1296 = .ok (.iadd, 1) := by decide +kernel
theorem dL_law_1297 : decode cL_law 1297 = .ok (.iaload, 1) := by decide +kernel
theorem dL_law_1298 : decode cL_law 1298 = .ok (.aload_n 0, 1) := by decide +kernel
theorem dL_law_1299 : decode cL_law 1299 = .ok (.iload_n 3, 1) := by decide +kernel
theorem dL_law_1300 : decode cL_law 1300 = .ok (.iconst 2, 1) := by decide +kernel
theorem dL_law_1301 : decode cL_law 1301 = .ok (.iadd, 1) := by decide +kernel
theorem dL_law_1302 : decode cL_law 1302 = .ok (.iaload, 1) := by decide +kernel
theorem dL_law_1303 : decode cL_law 1303 = .ok (.aload_n 0, 1) := by decide +kernel
theorem dL_law_1304 : decode cL_law 1304 = .ok (.iload_n 3, 1) := by decide +kernel
theorem dL_law_1305 : decode cL_law 1305 = .ok (.iconst 3, 1) := by decide +kernel
theorem dL_law_1306 : decode cL_law 1306 = .ok (.iadd, 1) := by decide +kernel
theorem dL_law_1307 : decode cL_law 1307 = .ok (.iaload, 1) := by decide +kernel
theorem dL_law_1308 : decode cL_law 1308 = .ok (.invokevirtual 158, 3) := by decide +kernel
theorem dL_law_1311 : decode cL_law 1311 = .ok (.if_icmp .eq 199, 3) := by decide +kernel
theorem dL_law_1314 : decode cL_law 1314 = .ok (.iconst 0, 1) := by decide +kernel
theorem dL_law_1315 : decode cL_law 1315 = .ok (.ireturn, 1) := by decide +kernel
theorem dL_law_1316 : decode cL_law 1316 = .ok (.aload_n 1, 1) := by decide +kernel
theorem dL_law_1317 : decode cL_law 1317 = .ok (.aload_n 0, 1) := by decide +kernel
theorem dL_law_1318 : decode cL_law 1318 = .ok (.iload_n 3, 1) := by decide +kernel
theorem dL_law_1319 : decode cL_law 1319 = .ok (.iconst 1, 1) := by decide +kernel
theorem dL_law_1320 : decode cL_law 1320 = .ok (.iadd, 1) := by decide +kernel
theorem dL_law_1321 : decode cL_law 1321 = .ok (.iaload, 1) := by decide +kernel
theorem dL_law_1322 : decode cL_law 1322 = .ok (.aload_n 0, 1) := by decide +kernel
theorem dL_law_1323 : decode cL_law 1323 = .ok (.iload_n 3, 1) := by decide +kernel
theorem dL_law_1324 : decode cL_law 1324 = .ok (.iconst 2, 1) := by decide +kernel
theorem dL_law_1325 : decode cL_law 1325 = .ok (.iadd, 1) := by decide +kernel
theorem dL_law_1326 : decode cL_law 1326 = .ok (.iaload, 1) := by decide +kernel
theorem dL_law_1327 : decode cL_law 1327 = .ok (.aload_n 0, 1) := by decide +kernel
theorem dL_law_1328 : decode cL_law 1328 = .ok (.iload_n 3, 1) := by decide +kernel
theorem dL_law_1329 : decode cL_law 1329 = .ok (.iconst 3, 1) := by decide +kernel
theorem dL_law_1330 : decode cL_law 1330 = .ok (.iadd, 1) := by decide +kernel
theorem dL_law_1331 : decode cL_law 1331 = .ok (.iaload, 1) := by decide +kernel
theorem dL_law_1332 : decode cL_law 1332 = .ok (.aload_n 0, 1) := by decide +kernel
theorem dL_law_1333 : decode cL_law 1333 = .ok (.iload_n 3, 1) := by decide +kernel
theorem dL_law_1334 : decode cL_law 1334 = .ok (.iconst 4, 1) := by decide +kernel
theorem dL_law_1335 : decode cL_law 1335 = .ok (.iadd, 1) := by decide +kernel
theorem dL_law_1336 : decode cL_law 1336 = .ok (.iaload, 1) := by decide +kernel
theorem dL_law_1337 : decode cL_law 1337 = .ok (.aload_n 0, 1) := by decide +kernel
theorem dL_law_1338 : decode cL_law 1338 = .ok (.iload_n 3, 1) := by decide +kernel
theorem dL_law_1339 : decode cL_law 1339 = .ok (.iconst 5, 1) := by decide +kernel
theorem dL_law_1340 : decode cL_law 1340 = .ok (.iadd, 1) := by decide +kernel
theorem dL_law_1341 : decode cL_law 1341 = .ok (.iaload, 1) := by decide +kernel
theorem dL_law_1342 : decode cL_law 1342 = .ok (.invokevirtual 159, 3) := by decide +kernel
theorem dL_law_1345 : decode cL_law 1345 = .ok (.aload_n 2, 1) := by decide +kernel
theorem dL_law_1346 : decode cL_law 1346 = .ok (.aload_n 0, 1) := by decide +kernel
theorem dL_law_1347 : decode cL_law 1347 = .ok (.iload_n 3, 1) := by decide +kernel
theorem dL_law_1348 : decode cL_law 1348 = .ok (.iconst 1, 1) := by decide +kernel
theorem dL_law_1349 : decode cL_law 1349 = .ok (.iadd, 1) := by decide +kernel
theorem dL_law_1350 : decode cL_law 1350 = .ok (.iaload, 1) := by decide +kernel
theorem dL_law_1351 : decode cL_law 1351 = .ok (.aload_n 0, 1) := by decide +kernel
theorem dL_law_1352 : decode cL_law 1352 = .ok (.iload_n 3, 1) := by decide +kernel
theorem dL_law_1353 : decode cL_law 1353 = .ok (.iconst 2, 1) := by decide +kernel
theorem dL_law_1354 : decode cL_law 1354 = .ok (.iadd, 1) := by decide +kernel
theorem dL_law_1355 : decode cL_law 1355 = .ok (.iaload, 1) := by decide +kernel
theorem dL_law_1356 : decode cL_law 1356 = .ok (.aload_n 0, 1) := by decide +kernel
theorem dL_law_1357 : decode cL_law 1357 = .ok (.iload_n 3, 1) := by decide +kernel
theorem dL_law_1358 : decode cL_law 1358 = .ok (.iconst 3, 1) := by decide +kernel
theorem dL_law_1359 : decode cL_law 1359 = .ok (.iadd, 1) := by decide +kernel
theorem dL_law_1360 : decode cL_law 1360 = .ok (.iaload, 1) := by decide +kernel
theorem dL_law_1361 : decode cL_law 1361 = .ok (.aload_n 0, 1) := by decide +kernel
theorem dL_law_1362 : decode cL_law 1362 = .ok (.iload_n 3, 1) := by decide +kernel
theorem dL_law_1363 : decode cL_law 1363 = .ok (.iconst 4, 1) := by decide +kernel
theorem dL_law_1364 : decode cL_law 1364 = .ok (.iadd, 1) := by decide +kernel
theorem dL_law_1365 : decode cL_law 1365 = .ok (.iaload, 1) := by decide +kernel
theorem dL_law_1366 : decode cL_law 1366 = .ok (.aload_n 0, 1) := by decide +kernel
theorem dL_law_1367 : decode cL_law 1367 = .ok (.iload_n 3, 1) := by decide +kernel
theorem dL_law_1368 : decode cL_law 1368 = .ok (.iconst 5, 1) := by decide +kernel
theorem dL_law_1369 : decode cL_law 1369 = .ok (.iadd, 1) := by decide +kernel
theorem dL_law_1370 : decode cL_law 1370 = .ok (.iaload, 1) := by decide +kernel
theorem dL_law_1371 : decode cL_law 1371 = .ok (.invokevirtual 163, 3) := by decide +kernel
theorem dL_law_1374 : decode cL_law 1374 = .ok (.if_icmp .eq 136, 3) := by decide +kernel
theorem dL_law_1377 : decode cL_law 1377 = .ok (.iconst 0, 1) := by decide +kernel
theorem dL_law_1378 : decode cL_law 1378 = .ok (.ireturn, 1) := by decide +kernel
theorem dL_law_1379 : decode cL_law 1379 = .ok (.aload_n 1, 1) := by decide +kernel
theorem dL_law_1380 : decode cL_law 1380 = .ok (.aload_n 0, 1) := by decide +kernel
theorem dL_law_1381 : decode cL_law 1381 = .ok (.iload_n 3, 1) := by decide +kernel
theorem dL_law_1382 : decode cL_law 1382 = .ok (.iconst 1, 1) := by decide +kernel
theorem dL_law_1383 : decode cL_law 1383 = .ok (.iadd, 1) := by decide +kernel
theorem dL_law_1384 : decode cL_law 1384 = .ok (.iaload, 1) := by decide +kernel
theorem dL_law_1385 : decode cL_law 1385 = .ok (.invokevirtual 164, 3) := by decide +kernel
theorem dL_law_1388 : decode cL_law 1388 = .ok (.aload_n 2, 1) := by decide +kernel
theorem dL_law_1389 : decode cL_law 1389 = .ok (.aload_n 0, 1) := by decide +kernel
theorem dL_law_1390 : decode cL_law 1390 = .ok (.iload_n 3, 1) := by decide +kernel
theorem dL_law_1391 : decode cL_law 1391 = .ok (.iconst 1, 1) := by decide +kernel
theorem dL_law_1392 : decode cL_law 1392 = .ok (.iadd, 1) := by decide +kernel
theorem dL_law_1393 : decode cL_law 1393 = .ok (.iaload, 1) := by decide +kernel
theorem dL_law_1394 : decode cL_law 1394 = .ok (.invokevirtual 167, 3) := by decide +kernel
theorem dL_law_1397 : decode cL_law 1397 = .ok (.if_icmp .eq 113, 3) := by decide +kernel
theorem dL_law_1400 : decode cL_law 1400 = .ok (.iconst 0, 1) := by decide +kernel
theorem dL_law_1401 : decode cL_law 1401 = .ok (.ireturn, 1) := by decide +kernel
theorem dL_law_1402 : decode cL_law 1402 = .ok (.aload_n 1, 1) := by decide +kernel
theorem dL_law_1403 : decode cL_law 1403 = .ok (.aload_n 0, 1) := by decide +kernel
theorem dL_law_1404 : decode cL_law 1404 = .ok (.iload_n 3, 1) := by decide +kernel
theorem dL_law_1405 : decode cL_law 1405 = .ok (.iconst 1, 1) := by decide +kernel
theorem dL_law_1406 : decode cL_law 1406 = .ok (.iadd, 1) := by decide +kernel
theorem dL_law_1407 : decode cL_law 1407 = .ok (.iaload, 1) := by decide +kernel
theorem dL_law_1408 : decode cL_law 1408 = .ok (.invokevirtual 168, 3) := by decide +kernel
theorem dL_law_1411 : decode cL_law 1411 = .ok (.aload_n 2, 1) := by decide +kernel
theorem dL_law_1412 : decode cL_law 1412 = .ok (.aload_n 0, 1) := by decide +kernel
theorem dL_law_1413 : decode cL_law 1413 = .ok (.iload_n 3, 1) := by decide +kernel
theorem dL_law_1414 : decode cL_law 1414 = .ok (.iconst 1, 1) := by decide +kernel
theorem dL_law_1415 : decode cL_law 1415 = .ok (.iadd, 1) := by decide +kernel
theorem dL_law_1416 : decode cL_law 1416 = .ok (.iaload, 1) := by decide +kernel
theorem dL_law_1417 : decode cL_law 1417 = .ok (.invokevirtual 171, 3) := by decide +kernel
theorem dL_law_1420 : decode cL_law 1420 = .ok (.if_icmp .eq 90, 3) := by decide +kernel
theorem dL_law_1423 : decode cL_law 1423 = .ok (.iconst 0, 1) := by decide +kernel
theorem dL_law_1424 : decode cL_law 1424 = .ok (.ireturn, 1) := by decide +kernel
theorem dL_law_1425 : decode cL_law 1425 = .ok (.aload_n 1, 1) := by decide +kernel
theorem dL_law_1426 : decode cL_law 1426 = .ok (.invokevirtual 172, 3) := by decide +kernel
theorem dL_law_1429 : decode cL_law 1429 = .ok (.aload_n 2, 1) := by decide +kernel
theorem dL_law_1430 : decode cL_law 1430 = .ok (.invokevirtual 175, 3) := by decide +kernel
theorem dL_law_1433 : decode cL_law 1433 = .ok (.if_icmp .eq 77, 3) := by decide +kernel
theorem dL_law_1436 : decode cL_law 1436 = .ok (.iconst 0, 1) := by decide +kernel
theorem dL_law_1437 : decode cL_law 1437 = .ok (.ireturn, 1) := by decide +kernel
theorem dL_law_1438 : decode cL_law 1438 = .ok (.aload_n 1, 1) := by decide +kernel
theorem dL_law_1439 : decode cL_law 1439 = .ok (.invokevirtual 176, 3) := by decide +kernel
theorem dL_law_1442 : decode cL_law 1442 = .ok (.aload_n 2, 1) := by decide +kernel
theorem dL_law_1443 : decode cL_law 1443 = .ok (.invokevirtual 179, 3) := by decide +kernel
theorem dL_law_1446 : decode cL_law 1446 = .ok (.if_icmp .eq 64, 3) := by decide +kernel
theorem dL_law_1449 : decode cL_law 1449 = .ok (.iconst 0, 1) := by decide +kernel
theorem dL_law_1450 : decode cL_law 1450 = .ok (.ireturn, 1) := by decide +kernel
theorem dL_law_1451 : decode cL_law 1451 = .ok (.aload_n 1, 1) := by decide +kernel
theorem dL_law_1452 : decode cL_law 1452 = .ok (.invokevirtual 180, 3) := by decide +kernel
theorem dL_law_1455 : decode cL_law 1455 = .ok (.aload_n 2, 1) := by decide +kernel
theorem dL_law_1456 : decode cL_law 1456 = .ok (.invokevirtual 183, 3) := by decide +kernel
theorem dL_law_1459 : decode cL_law 1459 = .ok (.if_icmp .eq 51, 3) := by decide +kernel
theorem dL_law_1462 : decode cL_law 1462 = .ok (.iconst 0, 1) := by decide +kernel
theorem dL_law_1463 : decode cL_law 1463 = .ok (.ireturn, 1) := by decide +kernel
theorem dL_law_1464 : decode cL_law 1464 = .ok (.aload_n 1, 1) := by decide +kernel
theorem dL_law_1465 : decode cL_law 1465 = .ok (.aload_n 0, 1) := by decide +kernel
theorem dL_law_1466 : decode cL_law 1466 = .ok (.iload_n 3, 1) := by decide +kernel
theorem dL_law_1467 : decode cL_law 1467 = .ok (.iconst 1, 1) := by decide +kernel
theorem dL_law_1468 : decode cL_law 1468 = .ok (.iadd, 1) := by decide +kernel
theorem dL_law_1469 : decode cL_law 1469 = .ok (.iaload, 1) := by decide +kernel
theorem dL_law_1470 : decode cL_law 1470 = .ok (.invokevirtual 184, 3) := by decide +kernel
theorem dL_law_1473 : decode cL_law 1473 = .ok (.aload_n 2, 1) := by decide +kernel
theorem dL_law_1474 : decode cL_law 1474 = .ok (.aload_n 0, 1) := by decide +kernel
theorem dL_law_1475 : decode cL_law 1475 = .ok (.iload_n 3, 1) := by decide +kernel
theorem dL_law_1476 : decode cL_law 1476 = .ok (.iconst 1, 1) := by decide +kernel
theorem dL_law_1477 : decode cL_law 1477 = .ok (.iadd, 1) := by decide +kernel
theorem dL_law_1478 : decode cL_law 1478 = .ok (.iaload, 1) := by decide +kernel
theorem dL_law_1479 : decode cL_law 1479 = .ok (.invokevirtual 187, 3) := by decide +kernel
theorem dL_law_1482 : decode cL_law 1482 = .ok (.if_icmp .eq 28, 3) := by decide +kernel
theorem dL_law_1485 : decode cL_law 1485 = .ok (.iconst 0, 1) := by decide +kernel
theorem dL_law_1486 : decode cL_law 1486 = .ok (.ireturn, 1) := by decide +kernel
theorem dL_law_1487 : decode cL_law 1487 = .ok (.aload_n 1, 1) := by decide +kernel
theorem dL_law_1488 : decode cL_law 1488 = .ok (.aload_n 0, 1) := by decide +kernel
theorem dL_law_1489 : decode cL_law 1489 = .ok (.iload_n 3, 1) := by decide +kernel
theorem dL_law_1490 : decode cL_law 1490 = .ok (.iconst 1, 1) := by decide +kernel
theorem dL_law_1491 : decode cL_law 1491 = .ok (.iadd, 1) := by decide +kernel
theorem dL_law_1492 : decode cL_law 1492 = .ok (.iaload, 1) := by decide +kernel
theorem dL_law_1493 : decode cL_law 1493 = .ok (.invokevirtual 188, 3) := by decide +kernel
theorem dL_law_1496 : decode cL_law 1496 = .ok (.aload_n 2, 1) := by decide +kernel
theorem dL_law_1497 : decode cL_law 1497 = .ok (.aload_n 0, 1) := by decide +kernel
theorem dL_law_1498 : decode cL_law 1498 = .ok (.iload_n 3, 1) := by decide +kernel
theorem dL_law_1499 : decode cL_law 1499 = .ok (.iconst 1, 1) := by decide +kernel
theorem dL_law_1500 : decode cL_law 1500 = .ok (.iadd, 1) := by decide +kernel
theorem dL_law_1501 : decode cL_law 1501 = .ok (.iaload, 1) := by decide +kernel
theorem dL_law_1502 : decode cL_law 1502 = .ok (.invokevirtual 191, 3) := by decide +kernel
theorem dL_law_1505 : decode cL_law 1505 = .ok (.if_icmp .eq 5, 3) := by decide +kernel
theorem dL_law_1508 : decode cL_law 1508 = .ok (.iconst 0, 1) := by decide +kernel
theorem dL_law_1509 : decode cL_law 1509 = .ok (.ireturn, 1) := by decide +kernel
theorem dL_law_1510 : decode cL_law 1510 = .ok (.iinc 3 6, 3) := by decide +kernel
theorem dL_law_1513 : decode cL_law 1513 = .ok (.goto (-1495), 3) := by decide +kernel
theorem dL_law_1516 : decode cL_law 1516 = .ok (.iconst 1, 1) := by decide +kernel
theorem dL_law_1517 : decode cL_law 1517 = .ok (.ireturn, 1) := by decide +kernel
