theorem d_O_init_0 : decode b_O_init 0 = .ok (.aload_n 0, 1) := by decide +kernel
theorem d_O_init_1 : decode b_O_init 1 = .ok (.invokespecial 1, 3) := by decide +kernel
theorem d_O_init_4 : decode b_O_init 4 = .ok (.aload_n 0, 1) := by decide +kernel
theorem d_O_init_5 : decode b_O_init 5 = .ok (.iconst 1, 1) := by decide +kernel
theorem d_O_init_6 : decode b_O_init 6 = .ok (.putfield 7, 3) := by decide +kernel
theorem d_O_init_9 : decode b_O_init 9 = .ok (.aload_n 0, 1) := by decide +kernel
theorem d_O_init_10 : decode b_O_init 10 = .ok (.bipush 122, 2) := by decide +kernel
theorem d_O_init_12 : decode b_O_init 12 = .ok (.newarray .int, 2) := by decide +kernel
theorem d_O_init_14 : decode b_O_init 14 = .ok (.putfield 13, 3) := by decide +kernel
theorem d_O_init_17 : decode b_O_init 17 = .ok (.aload_n 0, 1) := by decide +kernel
theorem d_O_init_18 : decode b_O_init 18 = .ok (.bipush 122, 2) := by decide +kernel
theorem d_O_init_20 : decode b_O_init 20 = .ok (.newarray .boolean, 2) := by decide +kernel
theorem d_O_init_22 : decode b_O_init 22 = .ok (.putfield 17, 3) := by decide +kernel
theorem d_O_init_25 : decode b_O_init 25 = .ok (.aload_n 0, 1) := by decide +kernel
theorem d_O_init_26 : decode b_O_init 26 = .ok (.bipush 122, 2) := by decide +kernel
theorem d_O_init_28 : decode b_O_init 28 = .ok (.newarray .int, 2) := by decide +kernel
theorem d_O_init_30 : decode b_O_init 30 = .ok (.putfield 21, 3) := by decide +kernel
theorem d_O_init_33 : decode b_O_init 33 = .ok (.aload_n 0, 1) := by decide +kernel
theorem d_O_init_34 : decode b_O_init 34 = .ok (.bipush 122, 2) := by decide +kernel
theorem d_O_init_36 : decode b_O_init 36 = .ok (.newarray .int, 2) := by decide +kernel
theorem d_O_init_38 : decode b_O_init 38 = .ok (.putfield 24, 3) := by decide +kernel
theorem d_O_init_41 : decode b_O_init 41 = .ok (.aload_n 0, 1) := by decide +kernel
theorem d_O_init_42 : decode b_O_init 42 = .ok (.bipush 122, 2) := by decide +kernel
theorem d_O_init_44 : decode b_O_init 44 = .ok (.newarray .int, 2) := by decide +kernel
theorem d_O_init_46 : decode b_O_init 46 = .ok (.putfield 27, 3) := by decide +kernel
theorem d_O_init_49 : decode b_O_init 49 = .ok (.aload_n 0, 1) := by decide +kernel
theorem d_O_init_50 : decode b_O_init 50 = .ok (.sipush 2000, 3) := by decide +kernel
theorem d_O_init_53 : decode b_O_init 53 = .ok (.newarray .char, 2) := by decide +kernel
theorem d_O_init_55 : decode b_O_init 55 = .ok (.putfield 30, 3) := by decide +kernel
theorem d_O_init_58 : decode b_O_init 58 = .ok (.aload_n 0, 1) := by decide +kernel
theorem d_O_init_59 : decode b_O_init 59 = .ok (.sipush 2000, 3) := by decide +kernel
theorem d_O_init_62 : decode b_O_init 62 = .ok (.newarray .char, 2) := by decide +kernel
theorem d_O_init_64 : decode b_O_init 64 = .ok (.putfield 34, 3) := by decide +kernel
theorem d_O_init_67 : decode b_O_init 67 = .ok (.aload_n 0, 1) := by decide +kernel
theorem d_O_init_68 : decode b_O_init 68 = .ok (.bipush 122, 2) := by decide +kernel
theorem d_O_init_70 : decode b_O_init 70 = .ok (.newarray .int, 2) := by decide +kernel
theorem d_O_init_72 : decode b_O_init 72 = .ok (.putfield 37, 3) := by decide +kernel
theorem d_O_init_75 : decode b_O_init 75 = .ok (.aload_n 0, 1) := by decide +kernel
theorem d_O_init_76 : decode b_O_init 76 = .ok (.bipush 40, 2) := by decide +kernel
theorem d_O_init_78 : decode b_O_init 78 = .ok (.newarray .char, 2) := by decide +kernel
theorem d_O_init_80 : decode b_O_init 80 = .ok (.putfield 40, 3) := by decide +kernel
theorem d_O_init_83 : decode b_O_init 83 = .ok (.aload_n 0, 1) := by decide +kernel
theorem d_O_init_84 : decode b_O_init 84 = .ok (.bipush 6, 2) := by decide +kernel
theorem d_O_init_86 : decode b_O_init 86 = .ok (.newarray .boolean, 2) := by decide +kernel
theorem d_O_init_88 : decode b_O_init 88 = .ok (.putfield 43, 3) := by decide +kernel
theorem d_O_init_91 : decode b_O_init 91 = .ok (.aload_n 0, 1) := by decide +kernel
theorem d_O_init_92 : decode b_O_init 92 = .ok (.bipush 6, 2) := by decide +kernel
theorem d_O_init_94 : decode b_O_init 94 = .ok (.newarray .int, 2) := by decide +kernel
theorem d_O_init_96 : decode b_O_init 96 = .ok (.putfield 46, 3) := by decide +kernel
theorem d_O_init_99 : decode b_O_init 99 = .ok (.aload_n 0, 1) := by decide +kernel
theorem d_O_init_100 : decode b_O_init 100 = .ok (.bipush 6, 2) := by decide +kernel
theorem d_O_init_102 : decode b_O_init 102 = .ok (.newarray .boolean, 2) := by decide +kernel
theorem d_O_init_104 : decode b_O_init 104 = .ok (.putfield 49, 3) := by decide +kernel
theorem d_O_init_107 : decode b_O_init 107 = .ok (.aload_n 0, 1) := by decide +kernel
theorem d_O_init_108 : decode b_O_init 108 = .ok (.getfield 13, 3) := by decide +kernel
theorem d_O_init_111 : decode b_O_init 111 = .ok (.iconst 0, 1) := by decide +kernel
theorem d_O_init_112 : decode b_O_init 112 = .ok (.iconst (-1), 1) := by decide +kernel
theorem d_O_init_113 : decode b_O_init 113 = .ok (.iastore, 1) := by decide +kernel
theorem d_O_init_114 : decode b_O_init 114 = .ok (.return_, 1) := by decide +kernel
theorem d_O_type_0 : decode b_O_type 0 = .ok (.iload_n 1, 1) := by decide +kernel
theorem d_O_type_1 : decode b_O_type 1 = .ok (.bipush 10, 2) := by decide +kernel
theorem d_O_type_3 : decode b_O_type 3 = .ok (.if_icmp .eq 15, 3) := by decide +kernel
theorem d_O_type_6 : decode b_O_type 6 = .ok (.iload_n 1, 1) := by decide +kernel
theorem d_O_type_7 : decode b_O_type 7 = .ok (.bipush 32, 2) := by decide +kernel
theorem d_O_type_9 : decode b_O_type 9 = .ok (.if_icmp .lt 18, 3) := by decide +kernel
theorem d_O_type_12 : decode b_O_type 12 = .ok (.iload_n 1, 1) := by decide +kernel
theorem d_O_type_13 : decode b_O_type 13 = .ok (.bipush 126, 2) := by decide +kernel
theorem d_O_type_15 : decode b_O_type 15 = .ok (.if_icmp .gt 12, 3) := by decide +kernel
theorem d_O_type_18 : decode b_O_type 18 = .ok (.aload_n 0, 1) := by decide +kernel
theorem d_O_type_19 : decode b_O_type 19 = .ok (.getfield 52, 3) := by decide +kernel
theorem d_O_type_22 : decode b_O_type 22 = .ok (.bipush 40, 2) := by decide +kernel
theorem d_O_type_24 : decode b_O_type 24 = .ok (.if_icmp .ne 5, 3) := by decide +kernel
theorem d_O_type_27 : decode b_O_type 27 = .ok (.iconst 0, 1) := by decide +kernel
theorem d_O_type_28 : decode b_O_type 28 = .ok (.ireturn, 1) := by decide +kernel
theorem d_O_type_29 : decode b_O_type 29 = .ok (.aload_n 0, 1) := by decide +kernel
theorem d_O_type_30 : decode b_O_type 30 = .ok (.getfield 40, 3) := by decide +kernel
theorem d_O_type_33 : decode b_O_type 33 = .ok (.aload_n 0, 1) := by decide +kernel
theorem d_O_type_34 : decode b_O_type 34 = .ok (.getfield 52, 3) := by decide +kernel
theorem d_O_type_37 : decode b_O_type 37 = .ok (.iload_n 1, 1) := by decide +kernel
theorem d_O_type_38 : decode b_O_type 38 = .ok (.castore, 1) := by decide +kernel
theorem d_O_type_39 : decode b_O_type 39 = .ok (.aload_n 0, 1) := by decide +kernel
theorem d_O_type_40 : decode b_O_type 40 = .ok (.dup, 1) := by decide +kernel
theorem d_O_type_41 : decode b_O_type 41 = .ok (.getfield 52, 3) := by decide +kernel
theorem d_O_type_44 : decode b_O_type 44 = .ok (.iconst 1, 1) := by decide +kernel
theorem d_O_type_45 : decode b_O_type 45 = .ok (.iadd, 1) := by decide +kernel
theorem d_O_type_46 : decode b_O_type 46 = .ok (.putfield 52, 3) := by decide +kernel
theorem d_O_type_49 : decode b_O_type 49 = .ok (.iconst 1, 1) := by decide +kernel
theorem d_O_type_50 : decode b_O_type 50 = .ok (.ireturn, 1) := by decide +kernel
theorem d_O_wipe_0 : decode b_O_wipe 0 = .ok (.aload_n 0, 1) := by decide +kernel
theorem d_O_wipe_1 : decode b_O_wipe 1 = .ok (.iconst 0, 1) := by decide +kernel
theorem d_O_wipe_2 : decode b_O_wipe 2 = .ok (.putfield 52, 3) := by decide +kernel
theorem d_O_wipe_5 : decode b_O_wipe 5 = .ok (.return_, 1) := by decide +kernel
theorem d_O_scratch_0 : decode b_O_scratch 0 = .ok (.aload_n 0, 1) := by decide +kernel
theorem d_O_scratch_1 : decode b_O_scratch 1 = .ok (.getfield 52, 3) := by decide +kernel
theorem d_O_scratch_4 : decode b_O_scratch 4 = .ok (.ireturn, 1) := by decide +kernel
theorem d_O_isStretch_0 : decode b_O_isStretch 0 = .ok (.iload_n 1, 1) := by decide +kernel
theorem d_O_isStretch_1 : decode b_O_isStretch 1 = .ok (.ifCond .lt 29, 3) := by decide +kernel
theorem d_O_isStretch_4 : decode b_O_isStretch 4 = .ok (.iload_n 1, 1) := by decide +kernel
theorem d_O_isStretch_5 : decode b_O_isStretch 5 = .ok (.aload_n 0, 1) := by decide +kernel
theorem d_O_isStretch_6 : decode b_O_isStretch 6 = .ok (.getfield 55, 3) := by decide +kernel
theorem d_O_isStretch_9 : decode b_O_isStretch 9 = .ok (.if_icmp .gt 21, 3) := by decide +kernel
theorem d_O_isStretch_12 : decode b_O_isStretch 12 = .ok (.iload_n 2, 1) := by decide +kernel
theorem d_O_isStretch_13 : decode b_O_isStretch 13 = .ok (.ifCond .lt 17, 3) := by decide +kernel
theorem d_O_isStretch_16 : decode b_O_isStretch 16 = .ok (.iload_n 2, 1) := by decide +kernel
theorem d_O_isStretch_17 : decode b_O_isStretch 17 = .ok (.aload_n 0, 1) := by decide +kernel
theorem d_O_isStretch_18 : decode b_O_isStretch 18 = .ok (.getfield 55, 3) := by decide +kernel
theorem d_O_isStretch_21 : decode b_O_isStretch 21 = .ok (.iload_n 1, 1) := by decide +kernel
theorem d_O_isStretch_22 : decode b_O_isStretch 22 = .ok (.isub, 1) := by decide +kernel
theorem d_O_isStretch_23 : decode b_O_isStretch 23 = .ok (.if_icmp .gt 7, 3) := by decide +kernel
theorem d_O_isStretch_26 : decode b_O_isStretch 26 = .ok (.iconst 1, 1) := by decide +kernel
theorem d_O_isStretch_27 : decode b_O_isStretch 27 = .ok (.goto 4, 3) := by decide +kernel
theorem d_O_isStretch_30 : decode b_O_isStretch 30 = .ok (.iconst 0, 1) := by decide +kernel
theorem d_O_isStretch_31 : decode b_O_isStretch 31 = .ok (.ireturn, 1) := by decide +kernel
theorem d_O_isPosition_0 : decode b_O_isPosition 0 = .ok (.iload_n 1, 1) := by decide +kernel
theorem d_O_isPosition_1 : decode b_O_isPosition 1 = .ok (.ifCond .lt 15, 3) := by decide +kernel
theorem d_O_isPosition_4 : decode b_O_isPosition 4 = .ok (.iload_n 1, 1) := by decide +kernel
theorem d_O_isPosition_5 : decode b_O_isPosition 5 = .ok (.aload_n 0, 1) := by decide +kernel
theorem d_O_isPosition_6 : decode b_O_isPosition 6 = .ok (.getfield 55, 3) := by decide +kernel
theorem d_O_isPosition_9 : decode b_O_isPosition 9 = .ok (.if_icmp .gt 7, 3) := by decide +kernel
theorem d_O_isPosition_12 : decode b_O_isPosition 12 = .ok (.iconst 1, 1) := by decide +kernel
theorem d_O_isPosition_13 : decode b_O_isPosition 13 = .ok (.goto 4, 3) := by decide +kernel
theorem d_O_isPosition_16 : decode b_O_isPosition 16 = .ok (.iconst 0, 1) := by decide +kernel
theorem d_O_isPosition_17 : decode b_O_isPosition 17 = .ok (.ireturn, 1) := by decide +kernel
theorem d_O_copy_0 : decode b_O_copy 0 = .ok (.aload_n 0, 1) := by decide +kernel
theorem d_O_copy_1 : decode b_O_copy 1 = .ok (.iload_n 1, 1) := by decide +kernel
theorem d_O_copy_2 : decode b_O_copy 2 = .ok (.iload_n 2, 1) := by decide +kernel
theorem d_O_copy_3 : decode b_O_copy 3 = .ok (.invokevirtual 58, 3) := by decide +kernel
theorem d_O_copy_6 : decode b_O_copy 6 = .ok (.ifCond .eq 9, 3) := by decide +kernel
theorem d_O_copy_9 : decode b_O_copy 9 = .ok (.iload_n 2, 1) := by decide +kernel
theorem d_O_copy_10 : decode b_O_copy 10 = .ok (.bipush 40, 2) := by decide +kernel
theorem d_O_copy_12 : decode b_O_copy 12 = .ok (.if_icmp .le 5, 3) := by decide +kernel
theorem d_O_copy_15 : decode b_O_copy 15 = .ok (.iconst (-1), 1) := by decide +kernel
theorem d_O_copy_16 : decode b_O_copy 16 = .ok (.ireturn, 1) := by decide +kernel
theorem d_O_copy_17 : decode b_O_copy 17 = .ok (.iconst 0, 1) := by decide +kernel
theorem d_O_copy_18 : decode b_O_copy 18 = .ok (.istore_n 3, 1) := by decide +kernel
theorem d_O_copy_19 : decode b_O_copy 19 = .ok (.iload_n 3, 1) := by decide +kernel
theorem d_O_copy_20 : decode b_O_copy 20 = .ok (.iload_n 2, 1) := by decide +kernel
theorem d_O_copy_21 : decode b_O_copy 21 = .ok (.if_icmp .ge 23, 3) := by decide +kernel
theorem d_O_copy_24 : decode b_O_copy 24 = .ok (.aload_n 0, 1) := by decide +kernel
theorem d_O_copy_25 : decode b_O_copy 25 = .ok (.getfield 40, 3) := by decide +kernel
theorem d_O_copy_28 : decode b_O_copy 28 = .ok (.iload_n 3, 1) := by decide +kernel
theorem d_O_copy_29 : decode b_O_copy 29 = .ok (.aload_n 0, 1) := by decide +kernel
theorem d_O_copy_30 : decode b_O_copy 30 = .ok (.getfield 34, 3) := by decide +kernel
theorem d_O_copy_33 : decode b_O_copy 33 = .ok (.iload_n 1, 1) := by decide +kernel
theorem d_O_copy_34 : decode b_O_copy 34 = .ok (.iload_n 3, 1) := by decide +kernel
theorem d_O_copy_35 : decode b_O_copy 35 = .ok (.iadd, 1) := by decide +kernel
theorem d_O_copy_36 : decode b_O_copy 36 = .ok (.caload, 1) := by decide +kernel
theorem d_O_copy_37 : decode b_O_copy 37 = .ok (.castore, 1) := by decide +kernel
theorem d_O_copy_38 : decode b_O_copy 38 = .ok (.iinc 3 1, 3) := by decide +kernel
theorem d_O_copy_41 : decode b_O_copy 41 = .ok (.goto (-22), 3) := by decide +kernel
theorem d_O_copy_44 : decode b_O_copy 44 = .ok (.aload_n 0, 1) := by decide +kernel
theorem d_O_copy_45 : decode b_O_copy 45 = .ok (.iload_n 2, 1) := by decide +kernel
theorem d_O_copy_46 : decode b_O_copy 46 = .ok (.putfield 52, 3) := by decide +kernel
theorem d_O_copy_49 : decode b_O_copy 49 = .ok (.iload_n 2, 1) := by decide +kernel
theorem d_O_copy_50 : decode b_O_copy 50 = .ok (.ireturn, 1) := by decide +kernel
theorem d_O_bring_0 : decode b_O_bring 0 = .ok (.aload_n 0, 1) := by decide +kernel
theorem d_O_bring_1 : decode b_O_bring 1 = .ok (.getfield 55, 3) := by decide +kernel
theorem d_O_bring_4 : decode b_O_bring 4 = .ok (.iconst 1, 1) := by decide +kernel
theorem d_O_bring_5 : decode b_O_bring 5 = .ok (.isub, 1) := by decide +kernel
theorem d_O_bring_6 : decode b_O_bring 6 = .ok (.istore_n 2, 1) := by decide +kernel
theorem d_O_bring_7 : decode b_O_bring 7 = .ok (.iload_n 2, 1) := by decide +kernel
theorem d_O_bring_8 : decode b_O_bring 8 = .ok (.aload_n 0, 1) := by decide +kernel
theorem d_O_bring_9 : decode b_O_bring 9 = .ok (.getfield 21, 3) := by decide +kernel
theorem d_O_bring_12 : decode b_O_bring 12 = .ok (.iload_n 1, 1) := by decide +kernel
theorem d_O_bring_13 : decode b_O_bring 13 = .ok (.iaload, 1) := by decide +kernel
theorem d_O_bring_14 : decode b_O_bring 14 = .ok (.if_icmp .lt 28, 3) := by decide +kernel
theorem d_O_bring_17 : decode b_O_bring 17 = .ok (.aload_n 0, 1) := by decide +kernel
theorem d_O_bring_18 : decode b_O_bring 18 = .ok (.getfield 34, 3) := by decide +kernel
theorem d_O_bring_21 : decode b_O_bring 21 = .ok (.iload_n 2, 1) := by decide +kernel
theorem d_O_bring_22 : decode b_O_bring 22 = .ok (.aload_n 0, 1) := by decide +kernel
theorem d_O_bring_23 : decode b_O_bring 23 = .ok (.getfield 24, 3) := by decide +kernel
theorem d_O_bring_26 : decode b_O_bring 26 = .ok (.iload_n 1, 1) := by decide +kernel
theorem d_O_bring_27 : decode b_O_bring 27 = .ok (.iaload, 1) := by decide +kernel
theorem d_O_bring_28 : decode b_O_bring 28 = .ok (.iadd, 1) := by decide +kernel
theorem d_O_bring_29 : decode b_O_bring 29 = .ok (.aload_n 0, 1) := by decide +kernel
theorem d_O_bring_30 : decode b_O_bring 30 = .ok (.getfield 34, 3) := by decide +kernel
theorem d_O_bring_33 : decode b_O_bring 33 = .ok (.iload_n 2, 1) := by decide +kernel
theorem d_O_bring_34 : decode b_O_bring 34 = .ok (.caload, 1) := by decide +kernel
theorem d_O_bring_35 : decode b_O_bring 35 = .ok (.castore, 1) := by decide +kernel
theorem d_O_bring_36 : decode b_O_bring 36 = .ok (.iinc 2 (-1), 3) := by decide +kernel
theorem d_O_bring_39 : decode b_O_bring 39 = .ok (.goto (-32), 3) := by decide +kernel
theorem d_O_bring_42 : decode b_O_bring 42 = .ok (.iconst 0, 1) := by decide +kernel
theorem d_O_bring_43 : decode b_O_bring 43 = .ok (.istore_n 2, 1) := by decide +kernel
theorem d_O_bring_44 : decode b_O_bring 44 = .ok (.iload_n 2, 1) := by decide +kernel
theorem d_O_bring_45 : decode b_O_bring 45 = .ok (.aload_n 0, 1) := by decide +kernel
theorem d_O_bring_46 : decode b_O_bring 46 = .ok (.getfield 24, 3) := by decide +kernel
theorem d_O_bring_49 : decode b_O_bring 49 = .ok (.iload_n 1, 1) := by decide +kernel
theorem d_O_bring_50 : decode b_O_bring 50 = .ok (.iaload, 1) := by decide +kernel
theorem d_O_bring_51 : decode b_O_bring 51 = .ok (.if_icmp .ge 35, 3) := by decide +kernel
theorem d_O_bring_54 : decode b_O_bring 54 = .ok (.aload_n 0, 1) := by decide +kernel
theorem d_O_bring_55 : decode b_O_bring 55 = .ok (.getfield 34, 3) := by decide +kernel
theorem d_O_bring_58 : decode b_O_bring 58 = .ok (.aload_n 0, 1) := by decide +kernel
theorem d_O_bring_59 : decode b_O_bring 59 = .ok (.getfield 21, 3) := by decide +kernel
theorem d_O_bring_62 : decode b_O_bring 62 = .ok (.iload_n 1, 1) := by decide +kernel
theorem d_O_bring_63 : decode b_O_bring 63 = .ok (.iaload, 1) := by decide +kernel
theorem d_O_bring_64 : decode b_O_bring 64 = .ok (.iload_n 2, 1) := by decide +kernel
theorem d_O_bring_65 : decode b_O_bring 65 = .ok (.iadd, 1) := by decide +kernel
theorem d_O_bring_66 : decode b_O_bring 66 = .ok (.aload_n 0, 1) := by decide +kernel
theorem d_O_bring_67 : decode b_O_bring 67 = .ok (.getfield 30, 3) := by decide +kernel
theorem d_O_bring_70 : decode b_O_bring 70 = .ok (.aload_n 0, 1) := by decide +kernel
theorem d_O_bring_71 : decode b_O_bring 71 = .ok (.getfield 27, 3) := by decide +kernel
theorem d_O_bring_74 : decode b_O_bring 74 = .ok (.iload_n 1, 1) := by decide +kernel
theorem d_O_bring_75 : decode b_O_bring 75 = .ok (.iaload, 1) := by decide +kernel
theorem d_O_bring_76 : decode b_O_bring 76 = .ok (.iload_n 2, 1) := by decide +kernel
theorem d_O_bring_77 : decode b_O_bring 77 = .ok (.iadd, 1) := by decide +kernel
theorem d_O_bring_78 : decode b_O_bring 78 = .ok (.caload, 1) := by decide +kernel
theorem d_O_bring_79 : decode b_O_bring 79 = .ok (.castore, 1) := by decide +kernel
theorem d_O_bring_80 : decode b_O_bring 80 = .ok (.iinc 2 1, 3) := by decide +kernel
theorem d_O_bring_83 : decode b_O_bring 83 = .ok (.goto (-39), 3) := by decide +kernel
theorem d_O_bring_86 : decode b_O_bring 86 = .ok (.aload_n 0, 1) := by decide +kernel
theorem d_O_bring_87 : decode b_O_bring 87 = .ok (.aload_n 0, 1) := by decide +kernel
theorem d_O_bring_88 : decode b_O_bring 88 = .ok (.getfield 55, 3) := by decide +kernel
theorem d_O_bring_91 : decode b_O_bring 91 = .ok (.aload_n 0, 1) := by decide +kernel
theorem d_O_bring_92 : decode b_O_bring 92 = .ok (.getfield 24, 3) := by decide +kernel
theorem d_O_bring_95 : decode b_O_bring 95 = .ok (.iload_n 1, 1) := by decide +kernel
theorem d_O_bring_96 : decode b_O_bring 96 = .ok (.iaload, 1) := by decide +kernel
theorem d_O_bring_97 : decode b_O_bring 97 = .ok (.iadd, 1) := by decide +kernel
theorem d_O_bring_98 : decode b_O_bring 98 = .ok (.putfield 55, 3) := by decide +kernel
theorem d_O_bring_101 : decode b_O_bring 101 = .ok (.return_, 1) := by decide +kernel
theorem d_O_take_0 : decode b_O_take 0 = .ok (.aload_n 0, 1) := by decide +kernel
theorem d_O_take_1 : decode b_O_take 1 = .ok (.aload_n 0, 1) := by decide +kernel
theorem d_O_take_2 : decode b_O_take 2 = .ok (.getfield 55, 3) := by decide +kernel
theorem d_O_take_5 : decode b_O_take 5 = .ok (.aload_n 0, 1) := by decide +kernel
theorem d_O_take_6 : decode b_O_take 6 = .ok (.getfield 24, 3) := by decide +kernel
theorem d_O_take_9 : decode b_O_take 9 = .ok (.iload_n 1, 1) := by decide +kernel
theorem d_O_take_10 : decode b_O_take 10 = .ok (.iaload, 1) := by decide +kernel
theorem d_O_take_11 : decode b_O_take 11 = .ok (.isub, 1) := by decide +kernel
theorem d_O_take_12 : decode b_O_take 12 = .ok (.putfield 55, 3) := by decide +kernel
theorem d_O_take_15 : decode b_O_take 15 = .ok (.aload_n 0, 1) := by decide +kernel
theorem d_O_take_16 : decode b_O_take 16 = .ok (.getfield 21, 3) := by decide +kernel
theorem d_O_take_19 : decode b_O_take 19 = .ok (.iload_n 1, 1) := by decide +kernel
theorem d_O_take_20 : decode b_O_take 20 = .ok (.iaload, 1) := by decide +kernel
theorem d_O_take_21 : decode b_O_take 21 = .ok (.istore_n 2, 1) := by decide +kernel
theorem d_O_take_22 : decode b_O_take 22 = .ok (.iload_n 2, 1) := by decide +kernel
theorem d_O_take_23 : decode b_O_take 23 = .ok (.aload_n 0, 1) := by decide +kernel
theorem d_O_take_24 : decode b_O_take 24 = .ok (.getfield 55, 3) := by decide +kernel
theorem d_O_take_27 : decode b_O_take 27 = .ok (.if_icmp .ge 28, 3) := by decide +kernel
theorem d_O_take_30 : decode b_O_take 30 = .ok (.aload_n 0, 1) := by decide +kernel
theorem d_O_take_31 : decode b_O_take 31 = .ok (.getfield 34, 3) := by decide +kernel
theorem d_O_take_34 : decode b_O_take 34 = .ok (.iload_n 2, 1) := by decide +kernel
theorem d_O_take_35 : decode b_O_take 35 = .ok (.aload_n 0, 1) := by decide +kernel
theorem d_O_take_36 : decode b_O_take 36 = .ok (.getfield 34, 3) := by decide +kernel
theorem d_O_take_39 : decode b_O_take 39 = .ok (.iload_n 2, 1) := by decide +kernel
theorem d_O_take_40 : decode b_O_take 40 = .ok (.aload_n 0, 1) := by decide +kernel
theorem d_O_take_41 : decode b_O_take 41 = .ok (.getfield 24, 3) := by decide +kernel
theorem d_O_take_44 : decode b_O_take 44 = .ok (.iload_n 1, 1) := by decide +kernel
theorem d_O_take_45 : decode b_O_take 45 = .ok (.iaload, 1) := by decide +kernel
theorem d_O_take_46 : decode b_O_take 46 = .ok (.iadd, 1) := by decide +kernel
theorem d_O_take_47 : decode b_O_take 47 = .ok (.caload, 1) := by decide +kernel
theorem d_O_take_48 : decode b_O_take 48 = .ok (.castore, 1) := by decide +kernel
theorem d_O_take_49 : decode b_O_take 49 = .ok (.iinc 2 1, 3) := by decide +kernel
theorem d_O_take_52 : decode b_O_take 52 = .ok (.goto (-30), 3) := by decide +kernel
theorem d_O_take_55 : decode b_O_take 55 = .ok (.return_, 1) := by decide +kernel
theorem d_O_make_0 : decode b_O_make 0 = .ok (.iconst 0, 1) := by decide +kernel
theorem d_O_make_1 : decode b_O_make 1 = .ok (.istore_n 1, 1) := by decide +kernel
theorem d_O_make_2 : decode b_O_make 2 = .ok (.aload_n 0, 1) := by decide +kernel
theorem d_O_make_3 : decode b_O_make 3 = .ok (.getfield 62, 3) := by decide +kernel
theorem d_O_make_6 : decode b_O_make 6 = .ok (.istore_n 2, 1) := by decide +kernel
theorem d_O_make_7 : decode b_O_make 7 = .ok (.iload_n 2, 1) := by decide +kernel
theorem d_O_make_8 : decode b_O_make 8 = .ok (.ifCond .le 23, 3) := by decide +kernel
theorem d_O_make_11 : decode b_O_make 11 = .ok (.aload_n 0, 1) := by decide +kernel
theorem d_O_make_12 : decode b_O_make 12 = .ok (.getfield 37, 3) := by decide +kernel
theorem d_O_make_15 : decode b_O_make 15 = .ok (.iload_n 1, 1) := by decide +kernel
theorem d_O_make_16 : decode b_O_make 16 = .ok (.iload_n 2, 1) := by decide +kernel
theorem d_O_make_17 : decode b_O_make 17 = .ok (.iastore, 1) := by decide +kernel
theorem d_O_make_18 : decode b_O_make 18 = .ok (.iinc 1 1, 3) := by decide +kernel
theorem d_O_make_21 : decode b_O_make 21 = .ok (.aload_n 0, 1) := by decide +kernel
theorem d_O_make_22 : decode b_O_make 22 = .ok (.getfield 13, 3) := by decide +kernel
theorem d_O_make_25 : decode b_O_make 25 = .ok (.iload_n 2, 1) := by decide +kernel
theorem d_O_make_26 : decode b_O_make 26 = .ok (.iaload, 1) := by decide +kernel
theorem d_O_make_27 : decode b_O_make 27 = .ok (.istore_n 2, 1) := by decide +kernel
theorem d_O_make_28 : decode b_O_make 28 = .ok (.goto (-21), 3) := by decide +kernel
theorem d_O_make_31 : decode b_O_make 31 = .ok (.aload_n 0, 1) := by decide +kernel
theorem d_O_make_32 : decode b_O_make 32 = .ok (.iconst 0, 1) := by decide +kernel
theorem d_O_make_33 : decode b_O_make 33 = .ok (.putfield 55, 3) := by decide +kernel
theorem d_O_make_36 : decode b_O_make 36 = .ok (.iload_n 1, 1) := by decide +kernel
theorem d_O_make_37 : decode b_O_make 37 = .ok (.iconst 1, 1) := by decide +kernel
theorem d_O_make_38 : decode b_O_make 38 = .ok (.isub, 1) := by decide +kernel
theorem d_O_make_39 : decode b_O_make 39 = .ok (.istore_n 2, 1) := by decide +kernel
theorem d_O_make_40 : decode b_O_make 40 = .ok (.iload_n 2, 1) := by decide +kernel
theorem d_O_make_41 : decode b_O_make 41 = .ok (.ifCond .lt 46, 3) := by decide +kernel
theorem d_O_make_44 : decode b_O_make 44 = .ok (.aload_n 0, 1) := by decide +kernel
theorem d_O_make_45 : decode b_O_make 45 = .ok (.getfield 17, 3) := by decide +kernel
theorem d_O_make_48 : decode b_O_make 48 = .ok (.aload_n 0, 1) := by decide +kernel
theorem d_O_make_49 : decode b_O_make 49 = .ok (.getfield 37, 3) := by decide +kernel
theorem d_O_make_52 : decode b_O_make 52 = .ok (.iload_n 2, 1) := by decide +kernel
theorem d_O_make_53 : decode b_O_make 53 = .ok (.iaload, 1) := by decide +kernel
theorem d_O_make_54 : decode b_O_make 54 = .ok (.baload, 1) := by decide +kernel
theorem d_O_make_55 : decode b_O_make 55 = .ok (.ifCond .eq 16, 3) := by decide +kernel
theorem d_O_make_58 : decode b_O_make 58 = .ok (.aload_n 0, 1) := by decide +kernel
theorem d_O_make_59 : decode b_O_make 59 = .ok (.aload_n 0, 1) := by decide +kernel
theorem d_O_make_60 : decode b_O_make 60 = .ok (.getfield 37, 3) := by decide +kernel
theorem d_O_make_63 : decode b_O_make 63 = .ok (.iload_n 2, 1) := by decide +kernel
theorem d_O_make_64 : decode b_O_make 64 = .ok (.iaload, 1) := by decide +kernel
theorem d_O_make_65 : decode b_O_make 65 = .ok (.invokevirtual 65, 3) := by decide +kernel
theorem d_O_make_68 : decode b_O_make 68 = .ok (.goto 13, 3) := by decide +kernel
theorem d_O_make_71 : decode b_O_make 71 = .ok (.aload_n 0, 1) := by decide +kernel
theorem d_O_make_72 : decode b_O_make 72 = .ok (.aload_n 0, 1) := by decide +kernel
theorem d_O_make_73 : decode b_O_make 73 = .ok (.getfield 37, 3) := by decide +kernel
theorem d_O_make_76 : decode b_O_make 76 = .ok (.iload_n 2, 1) := by decide +kernel
theorem d_O_make_77 : decode b_O_make 77 = .ok (.iaload, 1) := by decide +kernel
theorem d_O_make_78 : decode b_O_make 78 = .ok (.invokevirtual 69, 3) := by decide +kernel
theorem d_O_make_81 : decode b_O_make 81 = .ok (.iinc 2 (-1), 3) := by decide +kernel
theorem d_O_make_84 : decode b_O_make 84 = .ok (.goto (-44), 3) := by decide +kernel
theorem d_O_make_87 : decode b_O_make 87 = .ok (.return_, 1) := by decide +kernel
theorem d_O_moveMarks_0 : decode b_O_moveMarks 0 = .ok (.iconst 0, 1) := by decide +kernel
theorem d_O_moveMarks_1 : decode b_O_moveMarks 1 = .ok (.istore 4, 2) := by decide +kernel
theorem d_O_moveMarks_3 : decode b_O_moveMarks 3 = .ok (.iload 4, 2) := by decide +kernel
theorem d_O_moveMarks_5 : decode b_O_moveMarks 5 = .ok (.bipush 6, 2) := by decide +kernel
theorem d_O_moveMarks_7 : decode b_O_moveMarks 7 = .ok (.if_icmp .ge 97, 3) := by decide +kernel
theorem d_O_moveMarks_10 : decode b_O_moveMarks 10 = .ok (.aload_n 0, 1) := by decide +kernel
theorem d_O_moveMarks_11 : decode b_O_moveMarks 11 = .ok (.getfield 46, 3) := by decide +kernel
theorem d_O_moveMarks_14 : decode b_O_moveMarks 14 = .ok (.iload 4, 2) := by decide +kernel
theorem d_O_moveMarks_16 : decode b_O_moveMarks 16 = .ok (.iaload, 1) := by decide +kernel
theorem d_O_moveMarks_17 : decode b_O_moveMarks 17 = .ok (.istore 5, 2) := by decide +kernel
theorem d_O_moveMarks_19 : decode b_O_moveMarks 19 = .ok (.iload_n 3, 1) := by decide +kernel
theorem d_O_moveMarks_20 : decode b_O_moveMarks 20 = .ok (.ifCond .eq 44, 3) := by decide +kernel
theorem d_O_moveMarks_23 : decode b_O_moveMarks 23 = .ok (.aload_n 0, 1) := by decide +kernel
theorem d_O_moveMarks_24 : decode b_O_moveMarks 24 = .ok (.getfield 46, 3) := by decide +kernel
theorem d_O_moveMarks_27 : decode b_O_moveMarks 27 = .ok (.iload 4, 2) := by decide +kernel
theorem d_O_moveMarks_29 : decode b_O_moveMarks 29 = .ok (.iload 5, 2) := by decide +kernel
theorem d_O_moveMarks_31 : decode b_O_moveMarks 31 = .ok (.iload_n 1, 1) := by decide +kernel
theorem d_O_moveMarks_32 : decode b_O_moveMarks 32 = .ok (.if_icmp .gt 19, 3) := by decide +kernel
theorem d_O_moveMarks_35 : decode b_O_moveMarks 35 = .ok (.iload 5, 2) := by decide +kernel
theorem d_O_moveMarks_37 : decode b_O_moveMarks 37 = .ok (.iload_n 1, 1) := by decide +kernel
theorem d_O_moveMarks_38 : decode b_O_moveMarks 38 = .ok (.if_icmp .ne 20, 3) := by decide +kernel
theorem d_O_moveMarks_41 : decode b_O_moveMarks 41 = .ok (.aload_n 0, 1) := by decide +kernel
theorem d_O_moveMarks_42 : decode b_O_moveMarks 42 = .ok (.getfield 49, 3) := by decide +kernel
theorem d_O_moveMarks_45 : decode b_O_moveMarks 45 = .ok (.iload 4, 2) := by decide +kernel
theorem d_O_moveMarks_47 : decode b_O_moveMarks 47 = .ok (.baload, 1) := by decide +kernel
theorem d_O_moveMarks_48 : decode b_O_moveMarks 48 = .ok (.ifCond .eq 10, 3) := by decide +kernel
theorem d_O_moveMarks_51 : decode b_O_moveMarks 51 = .ok (.iload 5, 2) := by decide +kernel
theorem d_O_moveMarks_53 : decode b_O_moveMarks 53 = .ok (.iload_n 2, 1) := by decide +kernel
theorem d_O_moveMarks_54 : decode b_O_moveMarks 54 = .ok (.iadd, 1) := by decide +kernel
theorem d_O_moveMarks_55 : decode b_O_moveMarks 55 = .ok (.goto 5, 3) := by decide +kernel
theorem d_O_moveMarks_58 : decode b_O_moveMarks 58 = .ok (.iload 5, 2) := by decide +kernel
theorem d_O_moveMarks_60 : decode b_O_moveMarks 60 = .ok (.iastore, 1) := by decide +kernel
theorem d_O_moveMarks_61 : decode b_O_moveMarks 61 = .ok (.goto 37, 3) := by decide +kernel
theorem d_O_moveMarks_64 : decode b_O_moveMarks 64 = .ok (.aload_n 0, 1) := by decide +kernel
theorem d_O_moveMarks_65 : decode b_O_moveMarks 65 = .ok (.getfield 46, 3) := by decide +kernel
theorem d_O_moveMarks_68 : decode b_O_moveMarks 68 = .ok (.iload 4, 2) := by decide +kernel
theorem d_O_moveMarks_70 : decode b_O_moveMarks 70 = .ok (.iload 5, 2) := by decide +kernel
theorem d_O_moveMarks_72 : decode b_O_moveMarks 72 = .ok (.iload_n 1, 1) := by decide +kernel
theorem d_O_moveMarks_73 : decode b_O_moveMarks 73 = .ok (.iload_n 2, 1) := by decide +kernel
theorem d_O_moveMarks_74 : decode b_O_moveMarks 74 = .ok (.iadd, 1) := by decide +kernel
theorem d_O_moveMarks_75 : decode b_O_moveMarks 75 = .ok (.if_icmp .lt 10, 3) := by decide +kernel
theorem d_O_moveMarks_78 : decode b_O_moveMarks 78 = .ok (.iload 5, 2) := by decide +kernel
theorem d_O_moveMarks_80 : decode b_O_moveMarks 80 = .ok (.iload_n 2, 1) := by decide +kernel
theorem d_O_moveMarks_81 : decode b_O_moveMarks 81 = .ok (.isub, 1) := by decide +kernel
theorem d_O_moveMarks_82 : decode b_O_moveMarks 82 = .ok (.goto 15, 3) := by decide +kernel
theorem d_O_moveMarks_85 : decode b_O_moveMarks 85 = .ok (.iload 5, 2) := by decide +kernel
theorem d_O_moveMarks_87 : decode b_O_moveMarks 87 = .ok (.iload_n 1, 1) := by decide +kernel
theorem d_O_moveMarks_88 : decode b_O_moveMarks 88 = .ok (.if_icmp .le 7, 3) := by decide +kernel
theorem d_O_moveMarks_91 : decode b_O_moveMarks 91 = .ok (.iload_n 1, 1) := by decide +kernel
theorem d_O_moveMarks_92 : decode b_O_moveMarks 92 = .ok (.goto 5, 3) := by decide +kernel
theorem d_O_moveMarks_95 : decode b_O_moveMarks 95 = .ok (.iload 5, 2) := by decide +kernel
theorem d_O_moveMarks_97 : decode b_O_moveMarks 97 = .ok (.iastore, 1) := by decide +kernel
theorem d_O_moveMarks_98 : decode b_O_moveMarks 98 = .ok (.iinc 4 1, 3) := by decide +kernel
theorem d_O_moveMarks_101 : decode b_O_moveMarks 101 = .ok (.goto (-98), 3) := by decide +kernel
theorem d_O_moveMarks_104 : decode b_O_moveMarks 104 = .ok (.return_, 1) := by decide +kernel
theorem d_O_edit_0 : decode b_O_edit 0 = .ok (.aload_n 0, 1) := by decide +kernel
theorem d_O_edit_1 : decode b_O_edit 1 = .ok (.getfield 7, 3) := by decide +kernel
theorem d_O_edit_4 : decode b_O_edit 4 = .ok (.istore 4, 2) := by decide +kernel
theorem d_O_edit_6 : decode b_O_edit 6 = .ok (.aload_n 0, 1) := by decide +kernel
theorem d_O_edit_7 : decode b_O_edit 7 = .ok (.dup, 1) := by decide +kernel
theorem d_O_edit_8 : decode b_O_edit 8 = .ok (.getfield 7, 3) := by decide +kernel
theorem d_O_edit_11 : decode b_O_edit 11 = .ok (.iconst 1, 1) := by decide +kernel
theorem d_O_edit_12 : decode b_O_edit 12 = .ok (.iadd, 1) := by decide +kernel
theorem d_O_edit_13 : decode b_O_edit 13 = .ok (.putfield 7, 3) := by decide +kernel
theorem d_O_edit_16 : decode b_O_edit 16 = .ok (.aload_n 0, 1) := by decide +kernel
theorem d_O_edit_17 : decode b_O_edit 17 = .ok (.getfield 13, 3) := by decide +kernel
theorem d_O_edit_20 : decode b_O_edit 20 = .ok (.iload 4, 2) := by decide +kernel
theorem d_O_edit_22 : decode b_O_edit 22 = .ok (.aload_n 0, 1) := by decide +kernel
theorem d_O_edit_23 : decode b_O_edit 23 = .ok (.getfield 62, 3) := by decide +kernel
theorem d_O_edit_26 : decode b_O_edit 26 = .ok (.iastore, 1) := by decide +kernel
theorem d_O_edit_27 : decode b_O_edit 27 = .ok (.aload_n 0, 1) := by decide +kernel
theorem d_O_edit_28 : decode b_O_edit 28 = .ok (.getfield 17, 3) := by decide +kernel
theorem d_O_edit_31 : decode b_O_edit 31 = .ok (.iload 4, 2) := by decide +kernel
theorem d_O_edit_33 : decode b_O_edit 33 = .ok (.iload_n 1, 1) := by decide +kernel
theorem d_O_edit_34 : decode b_O_edit 34 = .ok (.bastore, 1) := by decide +kernel
theorem d_O_edit_35 : decode b_O_edit 35 = .ok (.aload_n 0, 1) := by decide +kernel
theorem d_O_edit_36 : decode b_O_edit 36 = .ok (.getfield 21, 3) := by decide +kernel
theorem d_O_edit_39 : decode b_O_edit 39 = .ok (.iload 4, 2) := by decide +kernel
theorem d_O_edit_41 : decode b_O_edit 41 = .ok (.iload_n 2, 1) := by decide +kernel
theorem d_O_edit_42 : decode b_O_edit 42 = .ok (.iastore, 1) := by decide +kernel
theorem d_O_edit_43 : decode b_O_edit 43 = .ok (.aload_n 0, 1) := by decide +kernel
theorem d_O_edit_44 : decode b_O_edit 44 = .ok (.getfield 24, 3) := by decide +kernel
theorem d_O_edit_47 : decode b_O_edit 47 = .ok (.iload 4, 2) := by decide +kernel
theorem d_O_edit_49 : decode b_O_edit 49 = .ok (.iload_n 3, 1) := by decide +kernel
theorem d_O_edit_50 : decode b_O_edit 50 = .ok (.iastore, 1) := by decide +kernel
theorem d_O_edit_51 : decode b_O_edit 51 = .ok (.aload_n 0, 1) := by decide +kernel
theorem d_O_edit_52 : decode b_O_edit 52 = .ok (.iload_n 2, 1) := by decide +kernel
theorem d_O_edit_53 : decode b_O_edit 53 = .ok (.iload_n 3, 1) := by decide +kernel
theorem d_O_edit_54 : decode b_O_edit 54 = .ok (.iload_n 1, 1) := by decide +kernel
theorem d_O_edit_55 : decode b_O_edit 55 = .ok (.invokevirtual 72, 3) := by decide +kernel
theorem d_O_edit_58 : decode b_O_edit 58 = .ok (.aload_n 0, 1) := by decide +kernel
theorem d_O_edit_59 : decode b_O_edit 59 = .ok (.iload 4, 2) := by decide +kernel
theorem d_O_edit_61 : decode b_O_edit 61 = .ok (.putfield 62, 3) := by decide +kernel
theorem d_O_edit_64 : decode b_O_edit 64 = .ok (.aload_n 0, 1) := by decide +kernel
theorem d_O_edit_65 : decode b_O_edit 65 = .ok (.invokevirtual 76, 3) := by decide +kernel
theorem d_O_edit_68 : decode b_O_edit 68 = .ok (.iload 4, 2) := by decide +kernel
theorem d_O_edit_70 : decode b_O_edit 70 = .ok (.ireturn, 1) := by decide +kernel
theorem d_O_insert_0 : decode b_O_insert 0 = .ok (.aload_n 0, 1) := by decide +kernel
theorem d_O_insert_1 : decode b_O_insert 1 = .ok (.iload_n 1, 1) := by decide +kernel
theorem d_O_insert_2 : decode b_O_insert 2 = .ok (.invokevirtual 79, 3) := by decide +kernel
theorem d_O_insert_5 : decode b_O_insert 5 = .ok (.ifCond .ne 5, 3) := by decide +kernel
theorem d_O_insert_8 : decode b_O_insert 8 = .ok (.iconst (-1), 1) := by decide +kernel
theorem d_O_insert_9 : decode b_O_insert 9 = .ok (.ireturn, 1) := by decide +kernel
theorem d_O_insert_10 : decode b_O_insert 10 = .ok (.aload_n 0, 1) := by decide +kernel
theorem d_O_insert_11 : decode b_O_insert 11 = .ok (.getfield 52, 3) := by decide +kernel
theorem d_O_insert_14 : decode b_O_insert 14 = .ok (.ifCond .ne 6, 3) := by decide +kernel
theorem d_O_insert_17 : decode b_O_insert 17 = .ok (.bipush (-2), 2) := by decide +kernel
theorem d_O_insert_19 : decode b_O_insert 19 = .ok (.ireturn, 1) := by decide +kernel
theorem d_O_insert_20 : decode b_O_insert 20 = .ok (.aload_n 0, 1) := by decide +kernel
theorem d_O_insert_21 : decode b_O_insert 21 = .ok (.getfield 7, 3) := by decide +kernel
theorem d_O_insert_24 : decode b_O_insert 24 = .ok (.bipush 122, 2) := by decide +kernel
theorem d_O_insert_26 : decode b_O_insert 26 = .ok (.if_icmp .eq 18, 3) := by decide +kernel
theorem d_O_insert_29 : decode b_O_insert 29 = .ok (.aload_n 0, 1) := by decide +kernel
theorem d_O_insert_30 : decode b_O_insert 30 = .ok (.getfield 83, 3) := by decide +kernel
theorem d_O_insert_33 : decode b_O_insert 33 = .ok (.aload_n 0, 1) := by decide +kernel
theorem d_O_insert_34 : decode b_O_insert 34 = .ok (.getfield 52, 3) := by decide +kernel
theorem d_O_insert_37 : decode b_O_insert 37 = .ok (.iadd, 1) := by decide +kernel
theorem d_O_insert_38 : decode b_O_insert 38 = .ok (.sipush 2000, 3) := by decide +kernel
theorem d_O_insert_41 : decode b_O_insert 41 = .ok (.if_icmp .le 6, 3) := by decide +kernel
theorem d_O_insert_44 : decode b_O_insert 44 = .ok (.bipush (-3), 2) := by decide +kernel
theorem d_O_insert_46 : decode b_O_insert 46 = .ok (.ireturn, 1) := by decide +kernel
theorem d_O_insert_47 : decode b_O_insert 47 = .ok (.aload_n 0, 1) := by decide +kernel
theorem d_O_insert_48 : decode b_O_insert 48 = .ok (.getfield 27, 3) := by decide +kernel
theorem d_O_insert_51 : decode b_O_insert 51 = .ok (.aload_n 0, 1) := by decide +kernel
theorem d_O_insert_52 : decode b_O_insert 52 = .ok (.getfield 7, 3) := by decide +kernel
theorem d_O_insert_55 : decode b_O_insert 55 = .ok (.aload_n 0, 1) := by decide +kernel
theorem d_O_insert_56 : decode b_O_insert 56 = .ok (.getfield 83, 3) := by decide +kernel
theorem d_O_insert_59 : decode b_O_insert 59 = .ok (.iastore, 1) := by decide +kernel
theorem d_O_insert_60 : decode b_O_insert 60 = .ok (.iconst 0, 1) := by decide +kernel
theorem d_O_insert_61 : decode b_O_insert 61 = .ok (.istore_n 2, 1) := by decide +kernel
theorem d_O_insert_62 : decode b_O_insert 62 = .ok (.iload_n 2, 1) := by decide +kernel
theorem d_O_insert_63 : decode b_O_insert 63 = .ok (.aload_n 0, 1) := by decide +kernel
theorem d_O_insert_64 : decode b_O_insert 64 = .ok (.getfield 52, 3) := by decide +kernel
theorem d_O_insert_67 : decode b_O_insert 67 = .ok (.if_icmp .ge 26, 3) := by decide +kernel
theorem d_O_insert_70 : decode b_O_insert 70 = .ok (.aload_n 0, 1) := by decide +kernel
theorem d_O_insert_71 : decode b_O_insert 71 = .ok (.getfield 30, 3) := by decide +kernel
theorem d_O_insert_74 : decode b_O_insert 74 = .ok (.aload_n 0, 1) := by decide +kernel
theorem d_O_insert_75 : decode b_O_insert 75 = .ok (.getfield 83, 3) := by decide +kernel
theorem d_O_insert_78 : decode b_O_insert 78 = .ok (.iload_n 2, 1) := by decide +kernel
theorem d_O_insert_79 : decode b_O_insert 79 = .ok (.iadd, 1) := by decide +kernel
theorem d_O_insert_80 : decode b_O_insert 80 = .ok (.aload_n 0, 1) := by decide +kernel
theorem d_O_insert_81 : decode b_O_insert 81 = .ok (.getfield 40, 3) := by decide +kernel
theorem d_O_insert_84 : decode b_O_insert 84 = .ok (.iload_n 2, 1) := by decide +kernel
theorem d_O_insert_85 : decode b_O_insert 85 = .ok (.caload, 1) := by decide +kernel
theorem d_O_insert_86 : decode b_O_insert 86 = .ok (.castore, 1) := by decide +kernel
theorem d_O_insert_87 : decode b_O_insert 87 = .ok (.iinc 2 1, 3) := by decide +kernel
theorem d_O_insert_90 : decode b_O_insert 90 = .ok (.goto (-28), 3) := by decide +kernel
theorem d_O_insert_93 : decode b_O_insert 93 = .ok (.aload_n 0, 1) := by decide +kernel
theorem d_O_insert_94 : decode b_O_insert 94 = .ok (.aload_n 0, 1) := by decide +kernel
theorem d_O_insert_95 : decode b_O_insert 95 = .ok (.getfield 83, 3) := by decide +kernel
theorem d_O_insert_98 : decode b_O_insert 98 = .ok (.aload_n 0, 1) := by decide +kernel
theorem d_O_insert_99 : decode b_O_insert 99 = .ok (.getfield 52, 3) := by decide +kernel
theorem d_O_insert_102 : decode b_O_insert 102 = .ok (.iadd, 1) := by decide +kernel
theorem d_O_insert_103 : decode b_O_insert 103 = .ok (.putfield 83, 3) := by decide +kernel
theorem d_O_insert_106 : decode b_O_insert 106 = .ok (.aload_n 0, 1) := by decide +kernel
theorem d_O_insert_107 : decode b_O_insert 107 = .ok (.iconst 1, 1) := by decide +kernel
theorem d_O_insert_108 : decode b_O_insert 108 = .ok (.iload_n 1, 1) := by decide +kernel
theorem d_O_insert_109 : decode b_O_insert 109 = .ok (.aload_n 0, 1) := by decide +kernel
theorem d_O_insert_110 : decode b_O_insert 110 = .ok (.getfield 52, 3) := by decide +kernel
theorem d_O_insert_113 : decode b_O_insert 113 = .ok (.invokevirtual 86, 3) := by decide +kernel
theorem d_O_insert_116 : decode b_O_insert 116 = .ok (.ireturn, 1) := by decide +kernel
theorem d_O_delete_0 : decode b_O_delete 0 = .ok (.aload_n 0, 1) := by decide +kernel
theorem d_O_delete_1 : decode b_O_delete 1 = .ok (.iload_n 1, 1) := by decide +kernel
theorem d_O_delete_2 : decode b_O_delete 2 = .ok (.iload_n 2, 1) := by decide +kernel
theorem d_O_delete_3 : decode b_O_delete 3 = .ok (.invokevirtual 58, 3) := by decide +kernel
theorem d_O_delete_6 : decode b_O_delete 6 = .ok (.ifCond .ne 5, 3) := by decide +kernel
theorem d_O_delete_9 : decode b_O_delete 9 = .ok (.iconst (-1), 1) := by decide +kernel
theorem d_O_delete_10 : decode b_O_delete 10 = .ok (.ireturn, 1) := by decide +kernel
theorem d_O_delete_11 : decode b_O_delete 11 = .ok (.iload_n 2, 1) := by decide +kernel
theorem d_O_delete_12 : decode b_O_delete 12 = .ok (.ifCond .ne 6, 3) := by decide +kernel
theorem d_O_delete_15 : decode b_O_delete 15 = .ok (.bipush (-2), 2) := by decide +kernel
theorem d_O_delete_17 : decode b_O_delete 17 = .ok (.ireturn, 1) := by decide +kernel
theorem d_O_delete_18 : decode b_O_delete 18 = .ok (.aload_n 0, 1) := by decide +kernel
theorem d_O_delete_19 : decode b_O_delete 19 = .ok (.getfield 7, 3) := by decide +kernel
theorem d_O_delete_22 : decode b_O_delete 22 = .ok (.bipush 122, 2) := by decide +kernel
theorem d_O_delete_24 : decode b_O_delete 24 = .ok (.if_icmp .ne 8, 3) := by decide +kernel
theorem d_O_delete_27 : decode b_O_delete 27 = .ok (.bipush (-3), 2) := by decide +kernel
theorem d_O_delete_29 : decode b_O_delete 29 = .ok (.goto 10, 3) := by decide +kernel
theorem d_O_delete_32 : decode b_O_delete 32 = .ok (.aload_n 0, 1) := by decide +kernel
theorem d_O_delete_33 : decode b_O_delete 33 = .ok (.iconst 0, 1) := by decide +kernel
theorem d_O_delete_34 : decode b_O_delete 34 = .ok (.iload_n 1, 1) := by decide +kernel
theorem d_O_delete_35 : decode b_O_delete 35 = .ok (.iload_n 2, 1) := by decide +kernel
theorem d_O_delete_36 : decode b_O_delete 36 = .ok (.invokevirtual 86, 3) := by decide +kernel
theorem d_O_delete_39 : decode b_O_delete 39 = .ok (.ireturn, 1) := by decide +kernel
theorem d_O_stepBack_0 : decode b_O_stepBack 0 = .ok (.aload_n 0, 1) := by decide +kernel
theorem d_O_stepBack_1 : decode b_O_stepBack 1 = .ok (.aload_n 0, 1) := by decide +kernel
theorem d_O_stepBack_2 : decode b_O_stepBack 2 = .ok (.getfield 21, 3) := by decide +kernel
theorem d_O_stepBack_5 : decode b_O_stepBack 5 = .ok (.aload_n 0, 1) := by decide +kernel
theorem d_O_stepBack_6 : decode b_O_stepBack 6 = .ok (.getfield 62, 3) := by decide +kernel
theorem d_O_stepBack_9 : decode b_O_stepBack 9 = .ok (.iaload, 1) := by decide +kernel
theorem d_O_stepBack_10 : decode b_O_stepBack 10 = .ok (.aload_n 0, 1) := by decide +kernel
theorem d_O_stepBack_11 : decode b_O_stepBack 11 = .ok (.getfield 24, 3) := by decide +kernel
theorem d_O_stepBack_14 : decode b_O_stepBack 14 = .ok (.aload_n 0, 1) := by decide +kernel
theorem d_O_stepBack_15 : decode b_O_stepBack 15 = .ok (.getfield 62, 3) := by decide +kernel
theorem d_O_stepBack_18 : decode b_O_stepBack 18 = .ok (.iaload, 1) := by decide +kernel
theorem d_O_stepBack_19 : decode b_O_stepBack 19 = .ok (.aload_n 0, 1) := by decide +kernel
theorem d_O_stepBack_20 : decode b_O_stepBack 20 = .ok (.getfield 17, 3) := by decide +kernel
theorem d_O_stepBack_23 : decode b_O_stepBack 23 = .ok (.aload_n 0, 1) := by decide +kernel
theorem d_O_stepBack_24 : decode b_O_stepBack 24 = .ok (.getfield 62, 3) := by decide +kernel
theorem d_O_stepBack_27 : decode b_O_stepBack 27 = .ok (.baload, 1) := by decide +kernel
theorem d_O_stepBack_28 : decode b_O_stepBack 28 = .ok (.ifCond .ne 7, 3) := by decide +kernel
theorem d_O_stepBack_31 : decode b_O_stepBack 31 = .ok (.iconst 1, 1) := by decide +kernel
theorem d_O_stepBack_32 : decode b_O_stepBack 32 = .ok (.goto 4, 3) := by decide +kernel
theorem d_O_stepBack_35 : decode b_O_stepBack 35 = .ok (.iconst 0, 1) := by decide +kernel
theorem d_O_stepBack_36 : decode b_O_stepBack 36 = .ok (.invokevirtual 72, 3) := by decide +kernel
theorem d_O_stepBack_39 : decode b_O_stepBack 39 = .ok (.aload_n 0, 1) := by decide +kernel
theorem d_O_stepBack_40 : decode b_O_stepBack 40 = .ok (.aload_n 0, 1) := by decide +kernel
theorem d_O_stepBack_41 : decode b_O_stepBack 41 = .ok (.getfield 13, 3) := by decide +kernel
theorem d_O_stepBack_44 : decode b_O_stepBack 44 = .ok (.aload_n 0, 1) := by decide +kernel
theorem d_O_stepBack_45 : decode b_O_stepBack 45 = .ok (.getfield 62, 3) := by decide +kernel
theorem d_O_stepBack_48 : decode b_O_stepBack 48 = .ok (.iaload, 1) := by decide +kernel
theorem d_O_stepBack_49 : decode b_O_stepBack 49 = .ok (.putfield 62, 3) := by decide +kernel
theorem d_O_stepBack_52 : decode b_O_stepBack 52 = .ok (.return_, 1) := by decide +kernel
theorem d_O_stepOn_0 : decode b_O_stepOn 0 = .ok (.aload_n 0, 1) := by decide +kernel
theorem d_O_stepOn_1 : decode b_O_stepOn 1 = .ok (.aload_n 0, 1) := by decide +kernel
theorem d_O_stepOn_2 : decode b_O_stepOn 2 = .ok (.getfield 21, 3) := by decide +kernel
theorem d_O_stepOn_5 : decode b_O_stepOn 5 = .ok (.iload_n 1, 1) := by decide +kernel
theorem d_O_stepOn_6 : decode b_O_stepOn 6 = .ok (.iaload, 1) := by decide +kernel
theorem d_O_stepOn_7 : decode b_O_stepOn 7 = .ok (.aload_n 0, 1) := by decide +kernel
theorem d_O_stepOn_8 : decode b_O_stepOn 8 = .ok (.getfield 24, 3) := by decide +kernel
theorem d_O_stepOn_11 : decode b_O_stepOn 11 = .ok (.iload_n 1, 1) := by decide +kernel
theorem d_O_stepOn_12 : decode b_O_stepOn 12 = .ok (.iaload, 1) := by decide +kernel
theorem d_O_stepOn_13 : decode b_O_stepOn 13 = .ok (.aload_n 0, 1) := by decide +kernel
theorem d_O_stepOn_14 : decode b_O_stepOn 14 = .ok (.getfield 17, 3) := by decide +kernel
theorem d_O_stepOn_17 : decode b_O_stepOn 17 = .ok (.iload_n 1, 1) := by decide +kernel
theorem d_O_stepOn_18 : decode b_O_stepOn 18 = .ok (.baload, 1) := by decide +kernel
theorem d_O_stepOn_19 : decode b_O_stepOn 19 = .ok (.invokevirtual 72, 3) := by decide +kernel
theorem d_O_stepOn_22 : decode b_O_stepOn 22 = .ok (.aload_n 0, 1) := by decide +kernel
theorem d_O_stepOn_23 : decode b_O_stepOn 23 = .ok (.iload_n 1, 1) := by decide +kernel
theorem d_O_stepOn_24 : decode b_O_stepOn 24 = .ok (.putfield 62, 3) := by decide +kernel
theorem d_O_stepOn_27 : decode b_O_stepOn 27 = .ok (.return_, 1) := by decide +kernel
theorem d_O_undo_0 : decode b_O_undo 0 = .ok (.aload_n 0, 1) := by decide +kernel
theorem d_O_undo_1 : decode b_O_undo 1 = .ok (.getfield 62, 3) := by decide +kernel
theorem d_O_undo_4 : decode b_O_undo 4 = .ok (.ifCond .ne 5, 3) := by decide +kernel
theorem d_O_undo_7 : decode b_O_undo 7 = .ok (.iconst (-1), 1) := by decide +kernel
theorem d_O_undo_8 : decode b_O_undo 8 = .ok (.ireturn, 1) := by decide +kernel
theorem d_O_undo_9 : decode b_O_undo 9 = .ok (.aload_n 0, 1) := by decide +kernel
theorem d_O_undo_10 : decode b_O_undo 10 = .ok (.invokevirtual 90, 3) := by decide +kernel
theorem d_O_undo_13 : decode b_O_undo 13 = .ok (.aload_n 0, 1) := by decide +kernel
theorem d_O_undo_14 : decode b_O_undo 14 = .ok (.invokevirtual 76, 3) := by decide +kernel
theorem d_O_undo_17 : decode b_O_undo 17 = .ok (.aload_n 0, 1) := by decide +kernel
theorem d_O_undo_18 : decode b_O_undo 18 = .ok (.getfield 62, 3) := by decide +kernel
theorem d_O_undo_21 : decode b_O_undo 21 = .ok (.ireturn, 1) := by decide +kernel
theorem d_O_redo_0 : decode b_O_redo 0 = .ok (.iconst (-1), 1) := by decide +kernel
theorem d_O_redo_1 : decode b_O_redo 1 = .ok (.istore_n 1, 1) := by decide +kernel
theorem d_O_redo_2 : decode b_O_redo 2 = .ok (.iconst 1, 1) := by decide +kernel
theorem d_O_redo_3 : decode b_O_redo 3 = .ok (.istore_n 2, 1) := by decide +kernel
theorem d_O_redo_4 : decode b_O_redo 4 = .ok (.iload_n 2, 1) := by decide +kernel
theorem d_O_redo_5 : decode b_O_redo 5 = .ok (.aload_n 0, 1) := by decide +kernel
theorem d_O_redo_6 : decode b_O_redo 6 = .ok (.getfield 7, 3) := by decide +kernel
theorem d_O_redo_9 : decode b_O_redo 9 = .ok (.if_icmp .ge 28, 3) := by decide +kernel
theorem d_O_redo_12 : decode b_O_redo 12 = .ok (.aload_n 0, 1) := by decide +kernel
theorem d_O_redo_13 : decode b_O_redo 13 = .ok (.getfield 13, 3) := by decide +kernel
theorem d_O_redo_16 : decode b_O_redo 16 = .ok (.iload_n 2, 1) := by decide +kernel
theorem d_O_redo_17 : decode b_O_redo 17 = .ok (.iaload, 1) := by decide +kernel
theorem d_O_redo_18 : decode b_O_redo 18 = .ok (.aload_n 0, 1) := by decide +kernel
theorem d_O_redo_19 : decode b_O_redo 19 = .ok (.getfield 62, 3) := by decide +kernel
theorem d_O_redo_22 : decode b_O_redo 22 = .ok (.if_icmp .ne 7, 3) := by decide +kernel
theorem d_O_redo_25 : decode b_O_redo 25 = .ok (.iload_n 2, 1) := by decide +kernel
theorem d_O_redo_26 : decode b_O_redo 26 = .ok (.goto 4, 3) := by decide +kernel
theorem d_O_redo_29 : decode b_O_redo 29 = .ok (.iload_n 1, 1) := by decide +kernel
theorem d_O_redo_30 : decode b_O_redo 30 = .ok (.istore_n 1, 1) := by decide +kernel
theorem d_O_redo_31 : decode b_O_redo 31 = .ok (.iinc 2 1, 3) := by decide +kernel
theorem d_O_redo_34 : decode b_O_redo 34 = .ok (.goto (-30), 3) := by decide +kernel
theorem d_O_redo_37 : decode b_O_redo 37 = .ok (.iload_n 1, 1) := by decide +kernel
theorem d_O_redo_38 : decode b_O_redo 38 = .ok (.ifCond .le 12, 3) := by decide +kernel
theorem d_O_redo_41 : decode b_O_redo 41 = .ok (.aload_n 0, 1) := by decide +kernel
theorem d_O_redo_42 : decode b_O_redo 42 = .ok (.iload_n 1, 1) := by decide +kernel
theorem d_O_redo_43 : decode b_O_redo 43 = .ok (.invokevirtual 93, 3) := by decide +kernel
theorem d_O_redo_46 : decode b_O_redo 46 = .ok (.aload_n 0, 1) := by decide +kernel
theorem d_O_redo_47 : decode b_O_redo 47 = .ok (.invokevirtual 76, 3) := by decide +kernel
theorem d_O_redo_50 : decode b_O_redo 50 = .ok (.iload_n 1, 1) := by decide +kernel
theorem d_O_redo_51 : decode b_O_redo 51 = .ok (.ireturn, 1) := by decide +kernel
theorem d_O_leads_0 : decode b_O_leads 0 = .ok (.iload_n 2, 1) := by decide +kernel
theorem d_O_leads_1 : decode b_O_leads 1 = .ok (.istore_n 3, 1) := by decide +kernel
theorem d_O_leads_2 : decode b_O_leads 2 = .ok (.iload_n 3, 1) := by decide +kernel
theorem d_O_leads_3 : decode b_O_leads 3 = .ok (.iload_n 1, 1) := by decide +kernel
theorem d_O_leads_4 : decode b_O_leads 4 = .ok (.if_icmp .le 13, 3) := by decide +kernel
theorem d_O_leads_7 : decode b_O_leads 7 = .ok (.aload_n 0, 1) := by decide +kernel
theorem d_O_leads_8 : decode b_O_leads 8 = .ok (.getfield 13, 3) := by decide +kernel
theorem d_O_leads_11 : decode b_O_leads 11 = .ok (.iload_n 3, 1) := by decide +kernel
theorem d_O_leads_12 : decode b_O_leads 12 = .ok (.iaload, 1) := by decide +kernel
theorem d_O_leads_13 : decode b_O_leads 13 = .ok (.istore_n 3, 1) := by decide +kernel
theorem d_O_leads_14 : decode b_O_leads 14 = .ok (.goto (-12), 3) := by decide +kernel
theorem d_O_leads_17 : decode b_O_leads 17 = .ok (.iload_n 3, 1) := by decide +kernel
theorem d_O_leads_18 : decode b_O_leads 18 = .ok (.iload_n 1, 1) := by decide +kernel
theorem d_O_leads_19 : decode b_O_leads 19 = .ok (.if_icmp .ne 7, 3) := by decide +kernel
theorem d_O_leads_22 : decode b_O_leads 22 = .ok (.iconst 1, 1) := by decide +kernel
theorem d_O_leads_23 : decode b_O_leads 23 = .ok (.goto 4, 3) := by decide +kernel
theorem d_O_leads_26 : decode b_O_leads 26 = .ok (.iconst 0, 1) := by decide +kernel
theorem d_O_leads_27 : decode b_O_leads 27 = .ok (.ireturn, 1) := by decide +kernel
theorem d_O_next_0 : decode b_O_next 0 = .ok (.iload_n 1, 1) := by decide +kernel
theorem d_O_next_1 : decode b_O_next 1 = .ok (.istore_n 2, 1) := by decide +kernel
theorem d_O_next_2 : decode b_O_next 2 = .ok (.aload_n 0, 1) := by decide +kernel
theorem d_O_next_3 : decode b_O_next 3 = .ok (.getfield 13, 3) := by decide +kernel
theorem d_O_next_6 : decode b_O_next 6 = .ok (.iload_n 2, 1) := by decide +kernel
theorem d_O_next_7 : decode b_O_next 7 = .ok (.iaload, 1) := by decide +kernel
theorem d_O_next_8 : decode b_O_next 8 = .ok (.aload_n 0, 1) := by decide +kernel
theorem d_O_next_9 : decode b_O_next 9 = .ok (.getfield 62, 3) := by decide +kernel
theorem d_O_next_12 : decode b_O_next 12 = .ok (.if_icmp .eq 13, 3) := by decide +kernel
theorem d_O_next_15 : decode b_O_next 15 = .ok (.aload_n 0, 1) := by decide +kernel
theorem d_O_next_16 : decode b_O_next 16 = .ok (.getfield 13, 3) := by decide +kernel
theorem d_O_next_19 : decode b_O_next 19 = .ok (.iload_n 2, 1) := by decide +kernel
theorem d_O_next_20 : decode b_O_next 20 = .ok (.iaload, 1) := by decide +kernel
theorem d_O_next_21 : decode b_O_next 21 = .ok (.istore_n 2, 1) := by decide +kernel
theorem d_O_next_22 : decode b_O_next 22 = .ok (.goto (-20), 3) := by decide +kernel
theorem d_O_next_25 : decode b_O_next 25 = .ok (.iload_n 2, 1) := by decide +kernel
theorem d_O_next_26 : decode b_O_next 26 = .ok (.ireturn, 1) := by decide +kernel
theorem d_O_goTo_0 : decode b_O_goTo 0 = .ok (.iload_n 1, 1) := by decide +kernel
theorem d_O_goTo_1 : decode b_O_goTo 1 = .ok (.ifCond .lt 11, 3) := by decide +kernel
theorem d_O_goTo_4 : decode b_O_goTo 4 = .ok (.iload_n 1, 1) := by decide +kernel
theorem d_O_goTo_5 : decode b_O_goTo 5 = .ok (.aload_n 0, 1) := by decide +kernel
theorem d_O_goTo_6 : decode b_O_goTo 6 = .ok (.getfield 7, 3) := by decide +kernel
theorem d_O_goTo_9 : decode b_O_goTo 9 = .ok (.if_icmp .lt 5, 3) := by decide +kernel
theorem d_O_goTo_12 : decode b_O_goTo 12 = .ok (.iconst (-1), 1) := by decide +kernel
theorem d_O_goTo_13 : decode b_O_goTo 13 = .ok (.ireturn, 1) := by decide +kernel
theorem d_O_goTo_14 : decode b_O_goTo 14 = .ok (.iconst 0, 1) := by decide +kernel
theorem d_O_goTo_15 : decode b_O_goTo 15 = .ok (.istore_n 2, 1) := by decide +kernel
theorem d_O_goTo_16 : decode b_O_goTo 16 = .ok (.aload_n 0, 1) := by decide +kernel
theorem d_O_goTo_17 : decode b_O_goTo 17 = .ok (.aload_n 0, 1) := by decide +kernel
theorem d_O_goTo_18 : decode b_O_goTo 18 = .ok (.getfield 62, 3) := by decide +kernel
theorem d_O_goTo_21 : decode b_O_goTo 21 = .ok (.iload_n 1, 1) := by decide +kernel
theorem d_O_goTo_22 : decode b_O_goTo 22 = .ok (.invokevirtual 96, 3) := by decide +kernel
theorem d_O_goTo_25 : decode b_O_goTo 25 = .ok (.ifCond .ne 13, 3) := by decide +kernel
theorem d_O_goTo_28 : decode b_O_goTo 28 = .ok (.aload_n 0, 1) := by decide +kernel
theorem d_O_goTo_29 : decode b_O_goTo 29 = .ok (.invokevirtual 90, 3) := by decide +kernel
theorem d_O_goTo_32 : decode b_O_goTo 32 = .ok (.iinc 2 1, 3) := by decide +kernel
theorem d_O_goTo_35 : decode b_O_goTo 35 = .ok (.goto (-19), 3) := by decide +kernel
theorem d_O_goTo_38 : decode b_O_goTo 38 = .ok (.aload_n 0, 1) := by decide +kernel
theorem d_O_goTo_39 : decode b_O_goTo 39 = .ok (.getfield 62, 3) := by decide +kernel
theorem d_O_goTo_42 : decode b_O_goTo 42 = .ok (.iload_n 1, 1) := by decide +kernel
theorem d_O_goTo_43 : decode b_O_goTo 43 = .ok (.if_icmp .eq 20, 3) := by decide +kernel
theorem d_O_goTo_46 : decode b_O_goTo 46 = .ok (.aload_n 0, 1) := by decide +kernel
theorem d_O_goTo_47 : decode b_O_goTo 47 = .ok (.iload_n 1, 1) := by decide +kernel
theorem d_O_goTo_48 : decode b_O_goTo 48 = .ok (.invokevirtual 99, 3) := by decide +kernel
theorem d_O_goTo_51 : decode b_O_goTo 51 = .ok (.istore_n 3, 1) := by decide +kernel
theorem d_O_goTo_52 : decode b_O_goTo 52 = .ok (.aload_n 0, 1) := by decide +kernel
theorem d_O_goTo_53 : decode b_O_goTo 53 = .ok (.iload_n 3, 1) := by decide +kernel
theorem d_O_goTo_54 : decode b_O_goTo 54 = .ok (.invokevirtual 93, 3) := by decide +kernel
theorem d_O_goTo_57 : decode b_O_goTo 57 = .ok (.iinc 2 1, 3) := by decide +kernel
theorem d_O_goTo_60 : decode b_O_goTo 60 = .ok (.goto (-22), 3) := by decide +kernel
theorem d_O_goTo_63 : decode b_O_goTo 63 = .ok (.aload_n 0, 1) := by decide +kernel
theorem d_O_goTo_64 : decode b_O_goTo 64 = .ok (.invokevirtual 76, 3) := by decide +kernel
theorem d_O_goTo_67 : decode b_O_goTo 67 = .ok (.iload_n 2, 1) := by decide +kernel
theorem d_O_goTo_68 : decode b_O_goTo 68 = .ok (.ireturn, 1) := by decide +kernel
theorem d_O_version_0 : decode b_O_version 0 = .ok (.aload_n 0, 1) := by decide +kernel
theorem d_O_version_1 : decode b_O_version 1 = .ok (.getfield 62, 3) := by decide +kernel
theorem d_O_version_4 : decode b_O_version 4 = .ok (.ireturn, 1) := by decide +kernel
theorem d_O_versions_0 : decode b_O_versions 0 = .ok (.aload_n 0, 1) := by decide +kernel
theorem d_O_versions_1 : decode b_O_versions 1 = .ok (.getfield 7, 3) := by decide +kernel
theorem d_O_versions_4 : decode b_O_versions 4 = .ok (.ireturn, 1) := by decide +kernel
theorem d_O_parent_0 : decode b_O_parent 0 = .ok (.iload_n 1, 1) := by decide +kernel
theorem d_O_parent_1 : decode b_O_parent 1 = .ok (.ifCond .le 11, 3) := by decide +kernel
theorem d_O_parent_4 : decode b_O_parent 4 = .ok (.iload_n 1, 1) := by decide +kernel
theorem d_O_parent_5 : decode b_O_parent 5 = .ok (.aload_n 0, 1) := by decide +kernel
theorem d_O_parent_6 : decode b_O_parent 6 = .ok (.getfield 7, 3) := by decide +kernel
theorem d_O_parent_9 : decode b_O_parent 9 = .ok (.if_icmp .lt 7, 3) := by decide +kernel
theorem d_O_parent_12 : decode b_O_parent 12 = .ok (.iconst (-1), 1) := by decide +kernel
theorem d_O_parent_13 : decode b_O_parent 13 = .ok (.goto 9, 3) := by decide +kernel
theorem d_O_parent_16 : decode b_O_parent 16 = .ok (.aload_n 0, 1) := by decide +kernel
theorem d_O_parent_17 : decode b_O_parent 17 = .ok (.getfield 13, 3) := by decide +kernel
theorem d_O_parent_20 : decode b_O_parent 20 = .ok (.iload_n 1, 1) := by decide +kernel
theorem d_O_parent_21 : decode b_O_parent 21 = .ok (.iaload, 1) := by decide +kernel
theorem d_O_parent_22 : decode b_O_parent 22 = .ok (.ireturn, 1) := by decide +kernel
theorem d_O_children_0 : decode b_O_children 0 = .ok (.iload_n 1, 1) := by decide +kernel
theorem d_O_children_1 : decode b_O_children 1 = .ok (.ifCond .lt 11, 3) := by decide +kernel
theorem d_O_children_4 : decode b_O_children 4 = .ok (.iload_n 1, 1) := by decide +kernel
theorem d_O_children_5 : decode b_O_children 5 = .ok (.aload_n 0, 1) := by decide +kernel
theorem d_O_children_6 : decode b_O_children 6 = .ok (.getfield 7, 3) := by decide +kernel
theorem d_O_children_9 : decode b_O_children 9 = .ok (.if_icmp .lt 5, 3) := by decide +kernel
theorem d_O_children_12 : decode b_O_children 12 = .ok (.iconst (-1), 1) := by decide +kernel
theorem d_O_children_13 : decode b_O_children 13 = .ok (.ireturn, 1) := by decide +kernel
theorem d_O_children_14 : decode b_O_children 14 = .ok (.iconst 0, 1) := by decide +kernel
theorem d_O_children_15 : decode b_O_children 15 = .ok (.istore_n 2, 1) := by decide +kernel
theorem d_O_children_16 : decode b_O_children 16 = .ok (.iconst 1, 1) := by decide +kernel
theorem d_O_children_17 : decode b_O_children 17 = .ok (.istore_n 3, 1) := by decide +kernel
theorem d_O_children_18 : decode b_O_children 18 = .ok (.iload_n 3, 1) := by decide +kernel
theorem d_O_children_19 : decode b_O_children 19 = .ok (.aload_n 0, 1) := by decide +kernel
theorem d_O_children_20 : decode b_O_children 20 = .ok (.getfield 7, 3) := by decide +kernel
theorem d_O_children_23 : decode b_O_children 23 = .ok (.if_icmp .ge 27, 3) := by decide +kernel
theorem d_O_children_26 : decode b_O_children 26 = .ok (.aload_n 0, 1) := by decide +kernel
theorem d_O_children_27 : decode b_O_children 27 = .ok (.getfield 13, 3) := by decide +kernel
theorem d_O_children_30 : decode b_O_children 30 = .ok (.iload_n 3, 1) := by decide +kernel
theorem d_O_children_31 : decode b_O_children 31 = .ok (.iaload, 1) := by decide +kernel
theorem d_O_children_32 : decode b_O_children 32 = .ok (.iload_n 1, 1) := by decide +kernel
theorem d_O_children_33 : decode b_O_children 33 = .ok (.if_icmp .ne 9, 3) := by decide +kernel
theorem d_O_children_36 : decode b_O_children 36 = .ok (.iload_n 2, 1) := by decide +kernel
theorem d_O_children_37 : decode b_O_children 37 = .ok (.iconst 1, 1) := by decide +kernel
theorem d_O_children_38 : decode b_O_children 38 = .ok (.iadd, 1) := by decide +kernel
theorem d_O_children_39 : decode b_O_children 39 = .ok (.goto 4, 3) := by decide +kernel
theorem d_O_children_42 : decode b_O_children 42 = .ok (.iload_n 2, 1) := by decide +kernel
theorem d_O_children_43 : decode b_O_children 43 = .ok (.istore_n 2, 1) := by decide +kernel
theorem d_O_children_44 : decode b_O_children 44 = .ok (.iinc 3 1, 3) := by decide +kernel
theorem d_O_children_47 : decode b_O_children 47 = .ok (.goto (-29), 3) := by decide +kernel
theorem d_O_children_50 : decode b_O_children 50 = .ok (.iload_n 2, 1) := by decide +kernel
theorem d_O_children_51 : decode b_O_children 51 = .ok (.ireturn, 1) := by decide +kernel
theorem d_O_length_0 : decode b_O_length 0 = .ok (.aload_n 0, 1) := by decide +kernel
theorem d_O_length_1 : decode b_O_length 1 = .ok (.getfield 55, 3) := by decide +kernel
theorem d_O_length_4 : decode b_O_length 4 = .ok (.ireturn, 1) := by decide +kernel
theorem d_O_at_0 : decode b_O_at 0 = .ok (.iload_n 1, 1) := by decide +kernel
theorem d_O_at_1 : decode b_O_at 1 = .ok (.ifCond .lt 20, 3) := by decide +kernel
theorem d_O_at_4 : decode b_O_at 4 = .ok (.iload_n 1, 1) := by decide +kernel
theorem d_O_at_5 : decode b_O_at 5 = .ok (.aload_n 0, 1) := by decide +kernel
theorem d_O_at_6 : decode b_O_at 6 = .ok (.getfield 55, 3) := by decide +kernel
theorem d_O_at_9 : decode b_O_at 9 = .ok (.if_icmp .ge 12, 3) := by decide +kernel
theorem d_O_at_12 : decode b_O_at 12 = .ok (.aload_n 0, 1) := by decide +kernel
theorem d_O_at_13 : decode b_O_at 13 = .ok (.getfield 34, 3) := by decide +kernel
theorem d_O_at_16 : decode b_O_at 16 = .ok (.iload_n 1, 1) := by decide +kernel
theorem d_O_at_17 : decode b_O_at 17 = .ok (.caload, 1) := by decide +kernel
theorem d_O_at_18 : decode b_O_at 18 = .ok (.goto 4, 3) := by decide +kernel
theorem d_O_at_21 : decode b_O_at 21 = .ok (.iconst 0, 1) := by decide +kernel
theorem d_O_at_22 : decode b_O_at 22 = .ok (.ireturn, 1) := by decide +kernel
theorem d_O_lines_0 : decode b_O_lines 0 = .ok (.aload_n 0, 1) := by decide +kernel
theorem d_O_lines_1 : decode b_O_lines 1 = .ok (.aload_n 0, 1) := by decide +kernel
theorem d_O_lines_2 : decode b_O_lines 2 = .ok (.getfield 55, 3) := by decide +kernel
theorem d_O_lines_5 : decode b_O_lines 5 = .ok (.invokevirtual 103, 3) := by decide +kernel
theorem d_O_lines_8 : decode b_O_lines 8 = .ok (.iconst 1, 1) := by decide +kernel
theorem d_O_lines_9 : decode b_O_lines 9 = .ok (.iadd, 1) := by decide +kernel
theorem d_O_lines_10 : decode b_O_lines 10 = .ok (.ireturn, 1) := by decide +kernel
theorem d_O_lineStart_0 : decode b_O_lineStart 0 = .ok (.iconst 0, 1) := by decide +kernel
theorem d_O_lineStart_1 : decode b_O_lineStart 1 = .ok (.istore_n 2, 1) := by decide +kernel
theorem d_O_lineStart_2 : decode b_O_lineStart 2 = .ok (.iconst 0, 1) := by decide +kernel
theorem d_O_lineStart_3 : decode b_O_lineStart 3 = .ok (.istore_n 3, 1) := by decide +kernel
theorem d_O_lineStart_4 : decode b_O_lineStart 4 = .ok (.iload_n 3, 1) := by decide +kernel
theorem d_O_lineStart_5 : decode b_O_lineStart 5 = .ok (.aload_n 0, 1) := by decide +kernel
theorem d_O_lineStart_6 : decode b_O_lineStart 6 = .ok (.getfield 55, 3) := by decide +kernel
theorem d_O_lineStart_9 : decode b_O_lineStart 9 = .ok (.if_icmp .gt 41, 3) := by decide +kernel
theorem d_O_lineStart_12 : decode b_O_lineStart 12 = .ok (.iload_n 3, 1) := by decide +kernel
theorem d_O_lineStart_13 : decode b_O_lineStart 13 = .ok (.ifCond .le 22, 3) := by decide +kernel
theorem d_O_lineStart_16 : decode b_O_lineStart 16 = .ok (.aload_n 0, 1) := by decide +kernel
theorem d_O_lineStart_17 : decode b_O_lineStart 17 = .ok (.getfield 34, 3) := by decide +kernel
theorem d_O_lineStart_20 : decode b_O_lineStart 20 = .ok (.iload_n 3, 1) := by decide +kernel
theorem d_O_lineStart_21 : decode b_O_lineStart 21 = .ok (.iconst 1, 1) := by decide +kernel
theorem d_O_lineStart_22 : decode b_O_lineStart 22 = .ok (.isub, 1) := by decide +kernel
theorem d_O_lineStart_23 : decode b_O_lineStart 23 = .ok (.caload, 1) := by decide +kernel
theorem d_O_lineStart_24 : decode b_O_lineStart 24 = .ok (.bipush 10, 2) := by decide +kernel
theorem d_O_lineStart_26 : decode b_O_lineStart 26 = .ok (.if_icmp .ne 9, 3) := by decide +kernel
theorem d_O_lineStart_29 : decode b_O_lineStart 29 = .ok (.iload_n 2, 1) := by decide +kernel
theorem d_O_lineStart_30 : decode b_O_lineStart 30 = .ok (.iconst 1, 1) := by decide +kernel
theorem d_O_lineStart_31 : decode b_O_lineStart 31 = .ok (.iadd, 1) := by decide +kernel
theorem d_O_lineStart_32 : decode b_O_lineStart 32 = .ok (.goto 4, 3) := by decide +kernel
theorem d_O_lineStart_35 : decode b_O_lineStart 35 = .ok (.iload_n 2, 1) := by decide +kernel
theorem d_O_lineStart_36 : decode b_O_lineStart 36 = .ok (.istore_n 2, 1) := by decide +kernel
theorem d_O_lineStart_37 : decode b_O_lineStart 37 = .ok (.iload_n 2, 1) := by decide +kernel
theorem d_O_lineStart_38 : decode b_O_lineStart 38 = .ok (.iload_n 1, 1) := by decide +kernel
theorem d_O_lineStart_39 : decode b_O_lineStart 39 = .ok (.if_icmp .ne 5, 3) := by decide +kernel
theorem d_O_lineStart_42 : decode b_O_lineStart 42 = .ok (.iload_n 3, 1) := by decide +kernel
theorem d_O_lineStart_43 : decode b_O_lineStart 43 = .ok (.ireturn, 1) := by decide +kernel
theorem d_O_lineStart_44 : decode b_O_lineStart 44 = .ok (.iinc 3 1, 3) := by decide +kernel
theorem d_O_lineStart_47 : decode b_O_lineStart 47 = .ok (.goto (-43), 3) := by decide +kernel
theorem d_O_lineStart_50 : decode b_O_lineStart 50 = .ok (.iconst (-1), 1) := by decide +kernel
theorem d_O_lineStart_51 : decode b_O_lineStart 51 = .ok (.ireturn, 1) := by decide +kernel
theorem d_O_lineOf_0 : decode b_O_lineOf 0 = .ok (.aload_n 0, 1) := by decide +kernel
theorem d_O_lineOf_1 : decode b_O_lineOf 1 = .ok (.iload_n 1, 1) := by decide +kernel
theorem d_O_lineOf_2 : decode b_O_lineOf 2 = .ok (.invokevirtual 79, 3) := by decide +kernel
theorem d_O_lineOf_5 : decode b_O_lineOf 5 = .ok (.ifCond .ne 5, 3) := by decide +kernel
theorem d_O_lineOf_8 : decode b_O_lineOf 8 = .ok (.iconst (-1), 1) := by decide +kernel
theorem d_O_lineOf_9 : decode b_O_lineOf 9 = .ok (.ireturn, 1) := by decide +kernel
theorem d_O_lineOf_10 : decode b_O_lineOf 10 = .ok (.iconst 0, 1) := by decide +kernel
theorem d_O_lineOf_11 : decode b_O_lineOf 11 = .ok (.istore_n 2, 1) := by decide +kernel
theorem d_O_lineOf_12 : decode b_O_lineOf 12 = .ok (.iconst 0, 1) := by decide +kernel
theorem d_O_lineOf_13 : decode b_O_lineOf 13 = .ok (.istore_n 3, 1) := by decide +kernel
theorem d_O_lineOf_14 : decode b_O_lineOf 14 = .ok (.iload_n 3, 1) := by decide +kernel
theorem d_O_lineOf_15 : decode b_O_lineOf 15 = .ok (.iload_n 1, 1) := by decide +kernel
theorem d_O_lineOf_16 : decode b_O_lineOf 16 = .ok (.if_icmp .ge 28, 3) := by decide +kernel
theorem d_O_lineOf_19 : decode b_O_lineOf 19 = .ok (.aload_n 0, 1) := by decide +kernel
theorem d_O_lineOf_20 : decode b_O_lineOf 20 = .ok (.getfield 34, 3) := by decide +kernel
theorem d_O_lineOf_23 : decode b_O_lineOf 23 = .ok (.iload_n 3, 1) := by decide +kernel
theorem d_O_lineOf_24 : decode b_O_lineOf 24 = .ok (.caload, 1) := by decide +kernel
theorem d_O_lineOf_25 : decode b_O_lineOf 25 = .ok (.bipush 10, 2) := by decide +kernel
theorem d_O_lineOf_27 : decode b_O_lineOf 27 = .ok (.if_icmp .ne 9, 3) := by decide +kernel
theorem d_O_lineOf_30 : decode b_O_lineOf 30 = .ok (.iload_n 2, 1) := by decide +kernel
theorem d_O_lineOf_31 : decode b_O_lineOf 31 = .ok (.iconst 1, 1) := by decide +kernel
theorem d_O_lineOf_32 : decode b_O_lineOf 32 = .ok (.iadd, 1) := by decide +kernel
theorem d_O_lineOf_33 : decode b_O_lineOf 33 = .ok (.goto 4, 3) := by decide +kernel
theorem d_O_lineOf_36 : decode b_O_lineOf 36 = .ok (.iload_n 2, 1) := by decide +kernel
theorem d_O_lineOf_37 : decode b_O_lineOf 37 = .ok (.istore_n 2, 1) := by decide +kernel
theorem d_O_lineOf_38 : decode b_O_lineOf 38 = .ok (.iinc 3 1, 3) := by decide +kernel
theorem d_O_lineOf_41 : decode b_O_lineOf 41 = .ok (.goto (-27), 3) := by decide +kernel
theorem d_O_lineOf_44 : decode b_O_lineOf 44 = .ok (.iload_n 2, 1) := by decide +kernel
theorem d_O_lineOf_45 : decode b_O_lineOf 45 = .ok (.ireturn, 1) := by decide +kernel
theorem d_O_isScratch_0 : decode b_O_isScratch 0 = .ok (.iconst 0, 1) := by decide +kernel
theorem d_O_isScratch_1 : decode b_O_isScratch 1 = .ok (.istore_n 2, 1) := by decide +kernel
theorem d_O_isScratch_2 : decode b_O_isScratch 2 = .ok (.iload_n 2, 1) := by decide +kernel
theorem d_O_isScratch_3 : decode b_O_isScratch 3 = .ok (.aload_n 0, 1) := by decide +kernel
theorem d_O_isScratch_4 : decode b_O_isScratch 4 = .ok (.getfield 52, 3) := by decide +kernel
theorem d_O_isScratch_7 : decode b_O_isScratch 7 = .ok (.if_icmp .ge 38, 3) := by decide +kernel
theorem d_O_isScratch_10 : decode b_O_isScratch 10 = .ok (.iload_n 1, 1) := by decide +kernel
theorem d_O_isScratch_11 : decode b_O_isScratch 11 = .ok (.iload_n 2, 1) := by decide +kernel
theorem d_O_isScratch_12 : decode b_O_isScratch 12 = .ok (.iadd, 1) := by decide +kernel
theorem d_O_isScratch_13 : decode b_O_isScratch 13 = .ok (.aload_n 0, 1) := by decide +kernel
theorem d_O_isScratch_14 : decode b_O_isScratch 14 = .ok (.getfield 55, 3) := by decide +kernel
theorem d_O_isScratch_17 : decode b_O_isScratch 17 = .ok (.if_icmp .ge 20, 3) := by decide +kernel
theorem d_O_isScratch_20 : decode b_O_isScratch 20 = .ok (.aload_n 0, 1) := by decide +kernel
theorem d_O_isScratch_21 : decode b_O_isScratch 21 = .ok (.getfield 34, 3) := by decide +kernel
theorem d_O_isScratch_24 : decode b_O_isScratch 24 = .ok (.iload_n 1, 1) := by decide +kernel
theorem d_O_isScratch_25 : decode b_O_isScratch 25 = .ok (.iload_n 2, 1) := by decide +kernel
theorem d_O_isScratch_26 : decode b_O_isScratch 26 = .ok (.iadd, 1) := by decide +kernel
theorem d_O_isScratch_27 : decode b_O_isScratch 27 = .ok (.caload, 1) := by decide +kernel
theorem d_O_isScratch_28 : decode b_O_isScratch 28 = .ok (.aload_n 0, 1) := by decide +kernel
theorem d_O_isScratch_29 : decode b_O_isScratch 29 = .ok (.getfield 40, 3) := by decide +kernel
theorem d_O_isScratch_32 : decode b_O_isScratch 32 = .ok (.iload_n 2, 1) := by decide +kernel
theorem d_O_isScratch_33 : decode b_O_isScratch 33 = .ok (.caload, 1) := by decide +kernel
theorem d_O_isScratch_34 : decode b_O_isScratch 34 = .ok (.if_icmp .eq 5, 3) := by decide +kernel
theorem d_O_isScratch_37 : decode b_O_isScratch 37 = .ok (.iconst 0, 1) := by decide +kernel
theorem d_O_isScratch_38 : decode b_O_isScratch 38 = .ok (.ireturn, 1) := by decide +kernel
theorem d_O_isScratch_39 : decode b_O_isScratch 39 = .ok (.iinc 2 1, 3) := by decide +kernel
theorem d_O_isScratch_42 : decode b_O_isScratch 42 = .ok (.goto (-40), 3) := by decide +kernel
theorem d_O_isScratch_45 : decode b_O_isScratch 45 = .ok (.iconst 1, 1) := by decide +kernel
theorem d_O_isScratch_46 : decode b_O_isScratch 46 = .ok (.ireturn, 1) := by decide +kernel
theorem d_O_find_0 : decode b_O_find 0 = .ok (.aload_n 0, 1) := by decide +kernel
theorem d_O_find_1 : decode b_O_find 1 = .ok (.iload_n 1, 1) := by decide +kernel
theorem d_O_find_2 : decode b_O_find 2 = .ok (.invokevirtual 79, 3) := by decide +kernel
theorem d_O_find_5 : decode b_O_find 5 = .ok (.ifCond .ne 5, 3) := by decide +kernel
theorem d_O_find_8 : decode b_O_find 8 = .ok (.iconst (-1), 1) := by decide +kernel
theorem d_O_find_9 : decode b_O_find 9 = .ok (.ireturn, 1) := by decide +kernel
theorem d_O_find_10 : decode b_O_find 10 = .ok (.aload_n 0, 1) := by decide +kernel
theorem d_O_find_11 : decode b_O_find 11 = .ok (.getfield 52, 3) := by decide +kernel
theorem d_O_find_14 : decode b_O_find 14 = .ok (.ifCond .ne 6, 3) := by decide +kernel
theorem d_O_find_17 : decode b_O_find 17 = .ok (.bipush (-2), 2) := by decide +kernel
theorem d_O_find_19 : decode b_O_find 19 = .ok (.ireturn, 1) := by decide +kernel
theorem d_O_find_20 : decode b_O_find 20 = .ok (.iload_n 1, 1) := by decide +kernel
theorem d_O_find_21 : decode b_O_find 21 = .ok (.istore_n 2, 1) := by decide +kernel
theorem d_O_find_22 : decode b_O_find 22 = .ok (.iload_n 2, 1) := by decide +kernel
theorem d_O_find_23 : decode b_O_find 23 = .ok (.aload_n 0, 1) := by decide +kernel
theorem d_O_find_24 : decode b_O_find 24 = .ok (.getfield 55, 3) := by decide +kernel
theorem d_O_find_27 : decode b_O_find 27 = .ok (.if_icmp .ge 19, 3) := by decide +kernel
theorem d_O_find_30 : decode b_O_find 30 = .ok (.aload_n 0, 1) := by decide +kernel
theorem d_O_find_31 : decode b_O_find 31 = .ok (.iload_n 2, 1) := by decide +kernel
theorem d_O_find_32 : decode b_O_find 32 = .ok (.invokevirtual 106, 3) := by decide +kernel
theorem d_O_find_35 : decode b_O_find 35 = .ok (.ifCond .eq 5, 3) := by decide +kernel
theorem d_O_find_38 : decode b_O_find 38 = .ok (.iload_n 2, 1) := by decide +kernel
theorem d_O_find_39 : decode b_O_find 39 = .ok (.ireturn, 1) := by decide +kernel
theorem d_O_find_40 : decode b_O_find 40 = .ok (.iinc 2 1, 3) := by decide +kernel
theorem d_O_find_43 : decode b_O_find 43 = .ok (.goto (-21), 3) := by decide +kernel
theorem d_O_find_46 : decode b_O_find 46 = .ok (.bipush (-4), 2) := by decide +kernel
theorem d_O_find_48 : decode b_O_find 48 = .ok (.ireturn, 1) := by decide +kernel
theorem d_O_mark_0 : decode b_O_mark 0 = .ok (.iload_n 1, 1) := by decide +kernel
theorem d_O_mark_1 : decode b_O_mark 1 = .ok (.ifCond .lt 16, 3) := by decide +kernel
theorem d_O_mark_4 : decode b_O_mark 4 = .ok (.iload_n 1, 1) := by decide +kernel
theorem d_O_mark_5 : decode b_O_mark 5 = .ok (.iconst 5, 1) := by decide +kernel
theorem d_O_mark_6 : decode b_O_mark 6 = .ok (.if_icmp .gt 11, 3) := by decide +kernel
theorem d_O_mark_9 : decode b_O_mark 9 = .ok (.aload_n 0, 1) := by decide +kernel
theorem d_O_mark_10 : decode b_O_mark 10 = .ok (.iload_n 2, 1) := by decide +kernel
theorem d_O_mark_11 : decode b_O_mark 11 = .ok (.invokevirtual 79, 3) := by decide +kernel
theorem d_O_mark_14 : decode b_O_mark 14 = .ok (.ifCond .ne 5, 3) := by decide +kernel
theorem d_O_mark_17 : decode b_O_mark 17 = .ok (.iconst 0, 1) := by decide +kernel
theorem d_O_mark_18 : decode b_O_mark 18 = .ok (.ireturn, 1) := by decide +kernel
theorem d_O_mark_19 : decode b_O_mark 19 = .ok (.aload_n 0, 1) := by decide +kernel
theorem d_O_mark_20 : decode b_O_mark 20 = .ok (.getfield 43, 3) := by decide +kernel
theorem d_O_mark_23 : decode b_O_mark 23 = .ok (.iload_n 1, 1) := by decide +kernel
theorem d_O_mark_24 : decode b_O_mark 24 = .ok (.iconst 1, 1) := by decide +kernel
theorem d_O_mark_25 : decode b_O_mark 25 = .ok (.bastore, 1) := by decide +kernel
theorem d_O_mark_26 : decode b_O_mark 26 = .ok (.aload_n 0, 1) := by decide +kernel
theorem d_O_mark_27 : decode b_O_mark 27 = .ok (.getfield 46, 3) := by decide +kernel
theorem d_O_mark_30 : decode b_O_mark 30 = .ok (.iload_n 1, 1) := by decide +kernel
theorem d_O_mark_31 : decode b_O_mark 31 = .ok (.iload_n 2, 1) := by decide +kernel
theorem d_O_mark_32 : decode b_O_mark 32 = .ok (.iastore, 1) := by decide +kernel
theorem d_O_mark_33 : decode b_O_mark 33 = .ok (.aload_n 0, 1) := by decide +kernel
theorem d_O_mark_34 : decode b_O_mark 34 = .ok (.getfield 49, 3) := by decide +kernel
theorem d_O_mark_37 : decode b_O_mark 37 = .ok (.iload_n 1, 1) := by decide +kernel
theorem d_O_mark_38 : decode b_O_mark 38 = .ok (.iload_n 3, 1) := by decide +kernel
theorem d_O_mark_39 : decode b_O_mark 39 = .ok (.bastore, 1) := by decide +kernel
theorem d_O_mark_40 : decode b_O_mark 40 = .ok (.iconst 1, 1) := by decide +kernel
theorem d_O_mark_41 : decode b_O_mark 41 = .ok (.ireturn, 1) := by decide +kernel
theorem d_O_unmark_0 : decode b_O_unmark 0 = .ok (.iload_n 1, 1) := by decide +kernel
theorem d_O_unmark_1 : decode b_O_unmark 1 = .ok (.ifCond .lt 21, 3) := by decide +kernel
theorem d_O_unmark_4 : decode b_O_unmark 4 = .ok (.iload_n 1, 1) := by decide +kernel
theorem d_O_unmark_5 : decode b_O_unmark 5 = .ok (.iconst 5, 1) := by decide +kernel
theorem d_O_unmark_6 : decode b_O_unmark 6 = .ok (.if_icmp .gt 16, 3) := by decide +kernel
theorem d_O_unmark_9 : decode b_O_unmark 9 = .ok (.aload_n 0, 1) := by decide +kernel
theorem d_O_unmark_10 : decode b_O_unmark 10 = .ok (.getfield 43, 3) := by decide +kernel
theorem d_O_unmark_13 : decode b_O_unmark 13 = .ok (.iload_n 1, 1) := by decide +kernel
theorem d_O_unmark_14 : decode b_O_unmark 14 = .ok (.baload, 1) := by decide +kernel
theorem d_O_unmark_15 : decode b_O_unmark 15 = .ok (.ifCond .eq 7, 3) := by decide +kernel
theorem d_O_unmark_18 : decode b_O_unmark 18 = .ok (.iconst 1, 1) := by decide +kernel
theorem d_O_unmark_19 : decode b_O_unmark 19 = .ok (.goto 4, 3) := by decide +kernel
theorem d_O_unmark_22 : decode b_O_unmark 22 = .ok (.iconst 0, 1) := by decide +kernel
theorem d_O_unmark_23 : decode b_O_unmark 23 = .ok (.istore_n 2, 1) := by decide +kernel
theorem d_O_unmark_24 : decode b_O_unmark 24 = .ok (.iload_n 2, 1) := by decide +kernel
theorem d_O_unmark_25 : decode b_O_unmark 25 = .ok (.ifCond .eq 10, 3) := by decide +kernel
theorem d_O_unmark_28 : decode b_O_unmark 28 = .ok (.aload_n 0, 1) := by decide +kernel
theorem d_O_unmark_29 : decode b_O_unmark 29 = .ok (.getfield 43, 3) := by decide +kernel
theorem d_O_unmark_32 : decode b_O_unmark 32 = .ok (.iload_n 1, 1) := by decide +kernel
theorem d_O_unmark_33 : decode b_O_unmark 33 = .ok (.iconst 0, 1) := by decide +kernel
theorem d_O_unmark_34 : decode b_O_unmark 34 = .ok (.bastore, 1) := by decide +kernel
theorem d_O_unmark_35 : decode b_O_unmark 35 = .ok (.iload_n 2, 1) := by decide +kernel
theorem d_O_unmark_36 : decode b_O_unmark 36 = .ok (.ireturn, 1) := by decide +kernel
theorem d_O_where_0 : decode b_O_where 0 = .ok (.iload_n 1, 1) := by decide +kernel
theorem d_O_where_1 : decode b_O_where 1 = .ok (.ifCond .lt 26, 3) := by decide +kernel
theorem d_O_where_4 : decode b_O_where 4 = .ok (.iload_n 1, 1) := by decide +kernel
theorem d_O_where_5 : decode b_O_where 5 = .ok (.iconst 5, 1) := by decide +kernel
theorem d_O_where_6 : decode b_O_where 6 = .ok (.if_icmp .gt 21, 3) := by decide +kernel
theorem d_O_where_9 : decode b_O_where 9 = .ok (.aload_n 0, 1) := by decide +kernel
theorem d_O_where_10 : decode b_O_where 10 = .ok (.getfield 43, 3) := by decide +kernel
theorem d_O_where_13 : decode b_O_where 13 = .ok (.iload_n 1, 1) := by decide +kernel
theorem d_O_where_14 : decode b_O_where 14 = .ok (.baload, 1) := by decide +kernel
theorem d_O_where_15 : decode b_O_where 15 = .ok (.ifCond .eq 12, 3) := by decide +kernel
theorem d_O_where_18 : decode b_O_where 18 = .ok (.aload_n 0, 1) := by decide +kernel
theorem d_O_where_19 : decode b_O_where 19 = .ok (.getfield 46, 3) := by decide +kernel
theorem d_O_where_22 : decode b_O_where 22 = .ok (.iload_n 1, 1) := by decide +kernel
theorem d_O_where_23 : decode b_O_where 23 = .ok (.iaload, 1) := by decide +kernel
theorem d_O_where_24 : decode b_O_where 24 = .ok (.goto 4, 3) := by decide +kernel
theorem d_O_where_27 : decode b_O_where 27 = .ok (.iconst (-1), 1) := by decide +kernel
theorem d_O_where_28 : decode b_O_where 28 = .ok (.ireturn, 1) := by decide +kernel
theorem d_O_nextMark_0 : decode b_O_nextMark 0 = .ok (.aload_n 0, 1) := by decide +kernel
theorem d_O_nextMark_1 : decode b_O_nextMark 1 = .ok (.iload_n 1, 1) := by decide +kernel
theorem d_O_nextMark_2 : decode b_O_nextMark 2 = .ok (.invokevirtual 79, 3) := by decide +kernel
theorem d_O_nextMark_5 : decode b_O_nextMark 5 = .ok (.ifCond .ne 5, 3) := by decide +kernel
theorem d_O_nextMark_8 : decode b_O_nextMark 8 = .ok (.iconst (-1), 1) := by decide +kernel
theorem d_O_nextMark_9 : decode b_O_nextMark 9 = .ok (.ireturn, 1) := by decide +kernel
theorem d_O_nextMark_10 : decode b_O_nextMark 10 = .ok (.iconst (-1), 1) := by decide +kernel
theorem d_O_nextMark_11 : decode b_O_nextMark 11 = .ok (.istore_n 2, 1) := by decide +kernel
theorem d_O_nextMark_12 : decode b_O_nextMark 12 = .ok (.iconst 5, 1) := by decide +kernel
theorem d_O_nextMark_13 : decode b_O_nextMark 13 = .ok (.istore_n 3, 1) := by decide +kernel
theorem d_O_nextMark_14 : decode b_O_nextMark 14 = .ok (.iload_n 3, 1) := by decide +kernel
theorem d_O_nextMark_15 : decode b_O_nextMark 15 = .ok (.ifCond .lt 65, 3) := by decide +kernel
theorem d_O_nextMark_18 : decode b_O_nextMark 18 = .ok (.aload_n 0, 1) := by decide +kernel
theorem d_O_nextMark_19 : decode b_O_nextMark 19 = .ok (.getfield 43, 3) := by decide +kernel
theorem d_O_nextMark_22 : decode b_O_nextMark 22 = .ok (.iload_n 3, 1) := by decide +kernel
theorem d_O_nextMark_23 : decode b_O_nextMark 23 = .ok (.baload, 1) := by decide +kernel
theorem d_O_nextMark_24 : decode b_O_nextMark 24 = .ok (.ifCond .eq 17, 3) := by decide +kernel
theorem d_O_nextMark_27 : decode b_O_nextMark 27 = .ok (.aload_n 0, 1) := by decide +kernel
theorem d_O_nextMark_28 : decode b_O_nextMark 28 = .ok (.getfield 46, 3) := by decide +kernel
theorem d_O_nextMark_31 : decode b_O_nextMark 31 = .ok (.iload_n 3, 1) := by decide +kernel
theorem d_O_nextMark_32 : decode b_O_nextMark 32 = .ok (.iaload, 1) := by decide +kernel
theorem d_O_nextMark_33 : decode b_O_nextMark 33 = .ok (.iload_n 1, 1) := by decide +kernel
theorem d_O_nextMark_34 : decode b_O_nextMark 34 = .ok (.if_icmp .lt 7, 3) := by decide +kernel
theorem d_O_nextMark_37 : decode b_O_nextMark 37 = .ok (.iconst 1, 1) := by decide +kernel
theorem d_O_nextMark_38 : decode b_O_nextMark 38 = .ok (.goto 4, 3) := by decide +kernel
theorem d_O_nextMark_41 : decode b_O_nextMark 41 = .ok (.iconst 0, 1) := by decide +kernel
theorem d_O_nextMark_42 : decode b_O_nextMark 42 = .ok (.istore 4, 2) := by decide +kernel
theorem d_O_nextMark_44 : decode b_O_nextMark 44 = .ok (.iload 4, 2) := by decide +kernel
theorem d_O_nextMark_46 : decode b_O_nextMark 46 = .ok (.ifCond .eq 26, 3) := by decide +kernel
theorem d_O_nextMark_49 : decode b_O_nextMark 49 = .ok (.iload_n 2, 1) := by decide +kernel
theorem d_O_nextMark_50 : decode b_O_nextMark 50 = .ok (.ifCond .lt 18, 3) := by decide +kernel
theorem d_O_nextMark_53 : decode b_O_nextMark 53 = .ok (.aload_n 0, 1) := by decide +kernel
theorem d_O_nextMark_54 : decode b_O_nextMark 54 = .ok (.getfield 46, 3) := by decide +kernel
theorem d_O_nextMark_57 : decode b_O_nextMark 57 = .ok (.iload_n 3, 1) := by decide +kernel
theorem d_O_nextMark_58 : decode b_O_nextMark 58 = .ok (.iaload, 1) := by decide +kernel
theorem d_O_nextMark_59 : decode b_O_nextMark 59 = .ok (.aload_n 0, 1) := by decide +kernel
theorem d_O_nextMark_60 : decode b_O_nextMark 60 = .ok (.getfield 46, 3) := by decide +kernel
theorem d_O_nextMark_63 : decode b_O_nextMark 63 = .ok (.iload_n 2, 1) := by decide +kernel
theorem d_O_nextMark_64 : decode b_O_nextMark 64 = .ok (.iaload, 1) := by decide +kernel
theorem d_O_nextMark_65 : decode b_O_nextMark 65 = .ok (.if_icmp .gt 7, 3) := by decide +kernel
theorem d_O_nextMark_68 : decode b_O_nextMark 68 = .ok (.iload_n 3, 1) := by decide +kernel
theorem d_O_nextMark_69 : decode b_O_nextMark 69 = .ok (.goto 4, 3) := by decide +kernel
theorem d_O_nextMark_72 : decode b_O_nextMark 72 = .ok (.iload_n 2, 1) := by decide +kernel
theorem d_O_nextMark_73 : decode b_O_nextMark 73 = .ok (.istore_n 2, 1) := by decide +kernel
theorem d_O_nextMark_74 : decode b_O_nextMark 74 = .ok (.iinc 3 (-1), 3) := by decide +kernel
theorem d_O_nextMark_77 : decode b_O_nextMark 77 = .ok (.goto (-63), 3) := by decide +kernel
theorem d_O_nextMark_80 : decode b_O_nextMark 80 = .ok (.iload_n 2, 1) := by decide +kernel
theorem d_O_nextMark_81 : decode b_O_nextMark 81 = .ok (.ireturn, 1) := by decide +kernel
