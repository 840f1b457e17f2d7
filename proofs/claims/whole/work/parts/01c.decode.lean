theorem dX6_init_0 : decode cX6_init 0 = .ok (.aload_n 0, 1) := by decide +kernel
theorem dX6_init_1 : decode cX6_init 1 = .ok (.invokespecial 1, 3) := by decide +kernel
theorem dX6_init_4 : decode cX6_init 4 = .ok (.aload_n 0, 1) := by decide +kernel
theorem dX6_init_5 : decode cX6_init 5 = .ok (.sipush 182, 3) := by decide +kernel
theorem dX6_init_8 : decode cX6_init 8 = .ok (.newarray .int, 2) := by decide +kernel
theorem dX6_init_10 : decode cX6_init 10 = .ok (.putfield 9, 3) := by decide +kernel
theorem dX6_init_13 : decode cX6_init 13 = .ok (.aload_n 0, 1) := by decide +kernel
theorem dX6_init_14 : decode cX6_init 14 = .ok (.sipush 182, 3) := by decide +kernel
theorem dX6_init_17 : decode cX6_init 17 = .ok (.newarray .int, 2) := by decide +kernel
theorem dX6_init_19 : decode cX6_init 19 = .ok (.putfield 13, 3) := by decide +kernel
theorem dX6_init_22 : decode cX6_init 22 = .ok (.aload_n 0, 1) := by decide +kernel
theorem dX6_init_23 : decode cX6_init 23 = .ok (.sipush 182, 3) := by decide +kernel
theorem dX6_init_26 : decode cX6_init 26 = .ok (.newarray .int, 2) := by decide +kernel
theorem dX6_init_28 : decode cX6_init 28 = .ok (.putfield 16, 3) := by decide +kernel
theorem dX6_init_31 : decode cX6_init 31 = .ok (.aload_n 0, 1) := by decide +kernel
theorem dX6_init_32 : decode cX6_init 32 = .ok (.sipush 182, 3) := by decide +kernel
theorem dX6_init_35 : decode cX6_init 35 = .ok (.newarray .int, 2) := by decide +kernel
theorem dX6_init_37 : decode cX6_init 37 = .ok (.putfield 19, 3) := by decide +kernel
theorem dX6_init_40 : decode cX6_init 40 = .ok (.aload_n 0, 1) := by decide +kernel
theorem dX6_init_41 : decode cX6_init 41 = .ok (.bipush 96, 2) := by decide +kernel
theorem dX6_init_43 : decode cX6_init 43 = .ok (.newarray .int, 2) := by decide +kernel
theorem dX6_init_45 : decode cX6_init 45 = .ok (.putfield 22, 3) := by decide +kernel
theorem dX6_init_48 : decode cX6_init 48 = .ok (.aload_n 0, 1) := by decide +kernel
theorem dX6_init_49 : decode cX6_init 49 = .ok (.bipush 25, 2) := by decide +kernel
theorem dX6_init_51 : decode cX6_init 51 = .ok (.newarray .int, 2) := by decide +kernel
theorem dX6_init_53 : decode cX6_init 53 = .ok (.putfield 25, 3) := by decide +kernel
theorem dX6_init_56 : decode cX6_init 56 = .ok (.aload_n 0, 1) := by decide +kernel
theorem dX6_init_57 : decode cX6_init 57 = .ok (.bipush 7, 2) := by decide +kernel
theorem dX6_init_59 : decode cX6_init 59 = .ok (.newarray .int, 2) := by decide +kernel
theorem dX6_init_61 : decode cX6_init 61 = .ok (.putfield 28, 3) := by decide +kernel
theorem dX6_init_64 : decode cX6_init 64 = .ok (.aload_n 0, 1) := by decide +kernel
theorem dX6_init_65 : decode cX6_init 65 = .ok (.bipush 25, 2) := by decide +kernel
theorem dX6_init_67 : decode cX6_init 67 = .ok (.newarray .int, 2) := by decide +kernel
theorem dX6_init_69 : decode cX6_init 69 = .ok (.putfield 31, 3) := by decide +kernel
theorem dX6_init_72 : decode cX6_init 72 = .ok (.aload_n 0, 1) := by decide +kernel
theorem dX6_init_73 : decode cX6_init 73 = .ok (.bipush 25, 2) := by decide +kernel
theorem dX6_init_75 : decode cX6_init 75 = .ok (.newarray .int, 2) := by decide +kernel
theorem dX6_init_77 : decode cX6_init 77 = .ok (.putfield 34, 3) := by decide +kernel
theorem dX6_init_80 : decode cX6_init 80 = .ok (.aload_n 0, 1) := by decide +kernel
theorem dX6_init_81 : decode cX6_init 81 = .ok (.bipush 25, 2) := by decide +kernel
theorem dX6_init_83 : decode cX6_init 83 = .ok (.newarray .int, 2) := by decide +kernel
theorem dX6_init_85 : decode cX6_init 85 = .ok (.putfield 37, 3) := by decide +kernel
theorem dX6_init_88 : decode cX6_init 88 = .ok (.aload_n 0, 1) := by decide +kernel
theorem dX6_init_89 : decode cX6_init 89 = .ok (.bipush 25, 2) := by decide +kernel
theorem dX6_init_91 : decode cX6_init 91 = .ok (.newarray .int, 2) := by decide +kernel
theorem dX6_init_93 : decode cX6_init 93 = .ok (.putfield 40, 3) := by decide +kernel
theorem dX6_init_96 : decode cX6_init 96 = .ok (.aload_n 0, 1) := by decide +kernel
theorem dX6_init_97 : decode cX6_init 97 = .ok (.iconst 5, 1) := by decide +kernel
theorem dX6_init_98 : decode cX6_init 98 = .ok (.newarray .int, 2) := by decide +kernel
theorem dX6_init_100 : decode cX6_init 100 = .ok (.putfield 43, 3) := by decide +kernel
theorem dX6_init_103 : decode cX6_init 103 = .ok (.aload_n 0, 1) := by decide +kernel
theorem dX6_init_104 : decode cX6_init 104 = .ok (.iconst 4, 1) := by decide +kernel
theorem dX6_init_105 : decode cX6_init 105 = .ok (.newarray .int, 2) := by decide +kernel
theorem dX6_init_107 : decode cX6_init 107 = .ok (.putfield 46, 3) := by decide +kernel
theorem dX6_init_110 : decode cX6_init 110 = .ok (.return_, 1) := by decide +kernel
theorem dX6_isIn_0 : decode cX6_isIn 0 = .ok (.iload_n 0, 1) := by decide +kernel
theorem dX6_isIn_1 : decode cX6_isIn 1 = .ok (.iload_n 1, 1) := by decide +kernel
theorem dX6_isIn_2 : decode cX6_isIn 2 = .ok (.if_icmp .lt 12, 3) := by decide +kernel
theorem dX6_isIn_5 : decode cX6_isIn 5 = .ok (.iload_n 0, 1) := by decide +kernel
theorem dX6_isIn_6 : decode cX6_isIn 6 = .ok (.iload_n 2, 1) := by decide +kernel
theorem dX6_isIn_7 : decode cX6_isIn 7 = .ok (.if_icmp .gt 7, 3) := by decide +kernel
theorem dX6_isIn_10 : decode cX6_isIn 10 = .ok (.iconst 1, 1) := by decide +kernel
theorem dX6_isIn_11 : decode cX6_isIn 11 = .ok (.goto 4, 3) := by decide +kernel
theorem dX6_isIn_14 : decode cX6_isIn 14 = .ok (.iconst 0, 1) := by decide +kernel
theorem dX6_isIn_15 : decode cX6_isIn 15 = .ok (.ireturn, 1) := by decide +kernel
theorem dX6_most_0 : decode cX6_most 0 = .ok (.iload_n 0, 1) := by decide +kernel
theorem dX6_most_1 : decode cX6_most 1 = .ok (.iload_n 1, 1) := by decide +kernel
theorem dX6_most_2 : decode cX6_most 2 = .ok (.if_icmp .le 7, 3) := by decide +kernel
theorem dX6_most_5 : decode cX6_most 5 = .ok (.iload_n 0, 1) := by decide +kernel
theorem dX6_most_6 : decode cX6_most 6 = .ok (.goto 4, 3) := by decide +kernel
theorem dX6_most_9 : decode cX6_most 9 = .ok (.iload_n 1, 1) := by decide +kernel
theorem dX6_most_10 : decode cX6_most 10 = .ok (.ireturn, 1) := by decide +kernel
theorem dX6_lays_0 : decode cX6_lays 0 = .ok (.iconst 0, 1) := by decide +kernel
theorem dX6_lays_1 : decode cX6_lays 1 = .ok (.istore_n 2, 1) := by decide +kernel
theorem dX6_lays_2 : decode cX6_lays 2 = .ok (.iload_n 2, 1) := by decide +kernel
theorem dX6_lays_3 : decode cX6_lays 3 = .ok (.sipush 182, 3) := by decide +kernel
theorem dX6_lays_6 : decode cX6_lays 6 = .ok (.if_icmp .ge 15, 3) := by decide +kernel
theorem dX6_lays_9 : decode cX6_lays 9 = .ok (.aload_n 1, 1) := by decide +kernel
theorem dX6_lays_10 : decode cX6_lays 10 = .ok (.iload_n 2, 1) := by decide +kernel
theorem dX6_lays_11 : decode cX6_lays 11 = .ok (.aload_n 0, 1) := by decide +kernel
theorem dX6_lays_12 : decode cX6_lays 12 = .ok (.iload_n 2, 1) := by decide +kernel
theorem dX6_lays_13 : decode cX6_lays 13 = .ok (.iaload, 1) := by decide +kernel
theorem dX6_lays_14 : decode cX6_lays 14 = .ok (.iastore, 1) := by decide +kernel
theorem dX6_lays_15 : decode cX6_lays 15 = .ok (.iinc 2 1, 3) := by decide +kernel
theorem dX6_lays_18 : decode cX6_lays 18 = .ok (.goto (-16), 3) := by decide +kernel
theorem dX6_lays_21 : decode cX6_lays 21 = .ok (.return_, 1) := by decide +kernel
theorem dX6_no_0 : decode cX6_no 0 = .ok (.aload_n 0, 1) := by decide +kernel
theorem dX6_no_1 : decode cX6_no 1 = .ok (.getfield 28, 3) := by decide +kernel
theorem dX6_no_4 : decode cX6_no 4 = .ok (.iload_n 1, 1) := by decide +kernel
theorem dX6_no_5 : decode cX6_no 5 = .ok (.ineg, 1) := by decide +kernel
theorem dX6_no_6 : decode cX6_no 6 = .ok (.dup2, 1) := by decide +kernel
theorem dX6_no_7 : decode cX6_no 7 = .ok (.iaload, 1) := by decide +kernel
theorem dX6_no_8 : decode cX6_no 8 = .ok (.iconst 1, 1) := by decide +kernel
theorem dX6_no_9 : decode cX6_no 9 = .ok (.iadd, 1) := by decide +kernel
theorem dX6_no_10 : decode cX6_no 10 = .ok (.iastore, 1) := by decide +kernel
theorem dX6_no_11 : decode cX6_no 11 = .ok (.iload_n 1, 1) := by decide +kernel
theorem dX6_no_12 : decode cX6_no 12 = .ok (.ireturn, 1) := by decide +kernel
theorem dX6_noWide_0 : decode cX6_noWide 0 = .ok (.ldc2_w 49, 3) := by decide +kernel
theorem dX6_noWide_3 : decode cX6_noWide 3 = .ok (.aload_n 0, 1) := by decide +kernel
theorem dX6_noWide_4 : decode cX6_noWide 4 = .ok (.iload_n 1, 1) := by decide +kernel
theorem dX6_noWide_5 : decode cX6_noWide 5 = .ok (.invokevirtual 51, 3) := by decide +kernel
theorem dX6_noWide_8 : decode cX6_noWide 8 = .ok (.i2l, 1) := by decide +kernel
theorem dX6_noWide_9 : decode cX6_noWide 9 = .ok (.lsub, 1) := by decide +kernel
theorem dX6_noWide_10 : decode cX6_noWide 10 = .ok (.lreturn, 1) := by decide +kernel
theorem dX6_isRoom_0 : decode cX6_isRoom 0 = .ok (.iload_n 0, 1) := by decide +kernel
theorem dX6_isRoom_1 : decode cX6_isRoom 1 = .ok (.iconst 0, 1) := by decide +kernel
theorem dX6_isRoom_2 : decode cX6_isRoom 2 = .ok (.bipush 24, 2) := by decide +kernel
theorem dX6_isRoom_4 : decode cX6_isRoom 4 = .ok (.invokestatic 55, 3) := by decide +kernel
theorem dX6_isRoom_7 : decode cX6_isRoom 7 = .ok (.ireturn, 1) := by decide +kernel
theorem dX6_isPerson_0 : decode cX6_isPerson 0 = .ok (.iload_n 1, 1) := by decide +kernel
theorem dX6_isPerson_1 : decode cX6_isPerson 1 = .ok (.iconst 0, 1) := by decide +kernel
theorem dX6_isPerson_2 : decode cX6_isPerson 2 = .ok (.aload_n 0, 1) := by decide +kernel
theorem dX6_isPerson_3 : decode cX6_isPerson 3 = .ok (.getfield 9, 3) := by decide +kernel
theorem dX6_isPerson_6 : decode cX6_isPerson 6 = .ok (.iconst 0, 1) := by decide +kernel
theorem dX6_isPerson_7 : decode cX6_isPerson 7 = .ok (.iaload, 1) := by decide +kernel
theorem dX6_isPerson_8 : decode cX6_isPerson 8 = .ok (.iconst 1, 1) := by decide +kernel
theorem dX6_isPerson_9 : decode cX6_isPerson 9 = .ok (.isub, 1) := by decide +kernel
theorem dX6_isPerson_10 : decode cX6_isPerson 10 = .ok (.invokestatic 55, 3) := by decide +kernel
theorem dX6_isPerson_13 : decode cX6_isPerson 13 = .ok (.ireturn, 1) := by decide +kernel
theorem dX6_isSpeaker_0 : decode cX6_isSpeaker 0 = .ok (.aload_n 0, 1) := by decide +kernel
theorem dX6_isSpeaker_1 : decode cX6_isSpeaker 1 = .ok (.iload_n 1, 1) := by decide +kernel
theorem dX6_isSpeaker_2 : decode cX6_isSpeaker 2 = .ok (.invokevirtual 59, 3) := by decide +kernel
theorem dX6_isSpeaker_5 : decode cX6_isSpeaker 5 = .ok (.ifCond .ne 7, 3) := by decide +kernel
theorem dX6_isSpeaker_8 : decode cX6_isSpeaker 8 = .ok (.iload_n 1, 1) := by decide +kernel
theorem dX6_isSpeaker_9 : decode cX6_isSpeaker 9 = .ok (.ifCond .ne 7, 3) := by decide +kernel
theorem dX6_isSpeaker_12 : decode cX6_isSpeaker 12 = .ok (.iconst 1, 1) := by decide +kernel
theorem dX6_isSpeaker_13 : decode cX6_isSpeaker 13 = .ok (.goto 4, 3) := by decide +kernel
theorem dX6_isSpeaker_16 : decode cX6_isSpeaker 16 = .ok (.iconst 0, 1) := by decide +kernel
theorem dX6_isSpeaker_17 : decode cX6_isSpeaker 17 = .ok (.ireturn, 1) := by decide +kernel
theorem dX6_known_0 : decode cX6_known 0 = .ok (.bipush 57, 2) := by decide +kernel
theorem dX6_known_2 : decode cX6_known 2 = .ok (.bipush 25, 2) := by decide +kernel
theorem dX6_known_4 : decode cX6_known 4 = .ok (.iload_n 0, 1) := by decide +kernel
theorem dX6_known_5 : decode cX6_known 5 = .ok (.imul, 1) := by decide +kernel
theorem dX6_known_6 : decode cX6_known 6 = .ok (.iadd, 1) := by decide +kernel
theorem dX6_known_7 : decode cX6_known 7 = .ok (.iload_n 1, 1) := by decide +kernel
theorem dX6_known_8 : decode cX6_known 8 = .ok (.iadd, 1) := by decide +kernel
theorem dX6_known_9 : decode cX6_known 9 = .ok (.ireturn, 1) := by decide +kernel
theorem dX6_needs_0 : decode cX6_needs 0 = .ok (.aload_n 0, 1) := by decide +kernel
theorem dX6_needs_1 : decode cX6_needs 1 = .ok (.iconst 2, 1) := by decide +kernel
theorem dX6_needs_2 : decode cX6_needs 2 = .ok (.iload_n 1, 1) := by decide +kernel
theorem dX6_needs_3 : decode cX6_needs 3 = .ok (.iadd, 1) := by decide +kernel
theorem dX6_needs_4 : decode cX6_needs 4 = .ok (.iaload, 1) := by decide +kernel
theorem dX6_needs_5 : decode cX6_needs 5 = .ok (.istore_n 2, 1) := by decide +kernel
theorem dX6_needs_6 : decode cX6_needs 6 = .ok (.iload_n 2, 1) := by decide +kernel
theorem dX6_needs_7 : decode cX6_needs 7 = .ok (.iconst 2, 1) := by decide +kernel
theorem dX6_needs_8 : decode cX6_needs 8 = .ok (.if_icmp .ne 7, 3) := by decide +kernel
theorem dX6_needs_11 : decode cX6_needs 11 = .ok (.iconst 2, 1) := by decide +kernel
theorem dX6_needs_12 : decode cX6_needs 12 = .ok (.goto 13, 3) := by decide +kernel
theorem dX6_needs_15 : decode cX6_needs 15 = .ok (.iload_n 2, 1) := by decide +kernel
theorem dX6_needs_16 : decode cX6_needs 16 = .ok (.iconst 3, 1) := by decide +kernel
theorem dX6_needs_17 : decode cX6_needs 17 = .ok (.if_icmp .ne 7, 3) := by decide +kernel
theorem dX6_needs_20 : decode cX6_needs 20 = .ok (.iconst 4, 1) := by decide +kernel
theorem dX6_needs_21 : decode cX6_needs 21 = .ok (.goto 4, 3) := by decide +kernel
theorem dX6_needs_24 : decode cX6_needs 24 = .ok (.iconst 1, 1) := by decide +kernel
theorem dX6_needs_25 : decode cX6_needs 25 = .ok (.ireturn, 1) := by decide +kernel
theorem dX6_catches_0 : decode cX6_catches 0 = .ok (.aload_n 0, 1) := by decide +kernel
theorem dX6_catches_1 : decode cX6_catches 1 = .ok (.iconst 2, 1) := by decide +kernel
theorem dX6_catches_2 : decode cX6_catches 2 = .ok (.iload_n 1, 1) := by decide +kernel
theorem dX6_catches_3 : decode cX6_catches 3 = .ok (.iadd, 1) := by decide +kernel
theorem dX6_catches_4 : decode cX6_catches 4 = .ok (.iaload, 1) := by decide +kernel
theorem dX6_catches_5 : decode cX6_catches 5 = .ok (.tableswitch 44 1 5 #[35, 37, 37, 39, 42], 35) := by decide +kernel
theorem dX6_catches_40 : decode cX6_catches 40 = .ok (.iconst 1, 1) := by decide +kernel
theorem dX6_catches_41 : decode cX6_catches 41 = .ok (.ireturn, 1) := by decide +kernel
theorem dX6_catches_42 : decode cX6_catches 42 = .ok (.iconst 3, 1) := by decide +kernel
theorem dX6_catches_43 : decode cX6_catches 43 = .ok (.ireturn, 1) := by decide +kernel
theorem dX6_catches_44 : decode cX6_catches 44 = .ok (.ldc 63, 2) := by decide +kernel
theorem dX6_catches_46 : decode cX6_catches 46 = .ok (.ireturn, 1) := by decide +kernel
theorem dX6_catches_47 : decode cX6_catches 47 = .ok (.iconst 4, 1) := by decide +kernel
theorem dX6_catches_48 : decode cX6_catches 48 = .ok (.ireturn, 1) := by decide +kernel
theorem dX6_catches_49 : decode cX6_catches 49 = .ok (.iconst 2, 1) := by decide +kernel
theorem dX6_catches_50 : decode cX6_catches 50 = .ok (.ireturn, 1) := by decide +kernel
theorem dX6_worth_0 : decode cX6_worth 0 = .ok (.aload_n 0, 1) := by decide +kernel
theorem dX6_worth_1 : decode cX6_worth 1 = .ok (.bipush 27, 2) := by decide +kernel
theorem dX6_worth_3 : decode cX6_worth 3 = .ok (.iload_n 1, 1) := by decide +kernel
theorem dX6_worth_4 : decode cX6_worth 4 = .ok (.iadd, 1) := by decide +kernel
theorem dX6_worth_5 : decode cX6_worth 5 = .ok (.iaload, 1) := by decide +kernel
theorem dX6_worth_6 : decode cX6_worth 6 = .ok (.istore_n 2, 1) := by decide +kernel
theorem dX6_worth_7 : decode cX6_worth 7 = .ok (.aload_n 0, 1) := by decide +kernel
theorem dX6_worth_8 : decode cX6_worth 8 = .ok (.iconst 2, 1) := by decide +kernel
theorem dX6_worth_9 : decode cX6_worth 9 = .ok (.iload_n 1, 1) := by decide +kernel
theorem dX6_worth_10 : decode cX6_worth 10 = .ok (.iadd, 1) := by decide +kernel
theorem dX6_worth_11 : decode cX6_worth 11 = .ok (.iaload, 1) := by decide +kernel
theorem dX6_worth_12 : decode cX6_worth 12 = .ok (.tableswitch 48 2 5 #[32, 37, 44, 46], 32) := by decide +kernel
theorem dX6_worth_44 : decode cX6_worth 44 = .ok (.bipush 6, 2) := by decide +kernel
theorem dX6_worth_46 : decode cX6_worth 46 = .ok (.iload_n 2, 1) := by decide +kernel
theorem dX6_worth_47 : decode cX6_worth 47 = .ok (.iadd, 1) := by decide +kernel
theorem dX6_worth_48 : decode cX6_worth 48 = .ok (.ireturn, 1) := by decide +kernel
theorem dX6_worth_49 : decode cX6_worth 49 = .ok (.bipush 12, 2) := by decide +kernel
theorem dX6_worth_51 : decode cX6_worth 51 = .ok (.iconst 2, 1) := by decide +kernel
theorem dX6_worth_52 : decode cX6_worth 52 = .ok (.iload_n 2, 1) := by decide +kernel
theorem dX6_worth_53 : decode cX6_worth 53 = .ok (.imul, 1) := by decide +kernel
theorem dX6_worth_54 : decode cX6_worth 54 = .ok (.iadd, 1) := by decide +kernel
theorem dX6_worth_55 : decode cX6_worth 55 = .ok (.ireturn, 1) := by decide +kernel
theorem dX6_worth_56 : decode cX6_worth 56 = .ok (.iconst 0, 1) := by decide +kernel
theorem dX6_worth_57 : decode cX6_worth 57 = .ok (.ireturn, 1) := by decide +kernel
theorem dX6_worth_58 : decode cX6_worth 58 = .ok (.iload_n 2, 1) := by decide +kernel
theorem dX6_worth_59 : decode cX6_worth 59 = .ok (.ireturn, 1) := by decide +kernel
theorem dX6_worth_60 : decode cX6_worth 60 = .ok (.iconst 1, 1) := by decide +kernel
theorem dX6_worth_61 : decode cX6_worth 61 = .ok (.iload_n 2, 1) := by decide +kernel
theorem dX6_worth_62 : decode cX6_worth 62 = .ok (.iadd, 1) := by decide +kernel
theorem dX6_worth_63 : decode cX6_worth 63 = .ok (.ireturn, 1) := by decide +kernel
theorem dX6_isKnown_0 : decode cX6_isKnown 0 = .ok (.aload_n 0, 1) := by decide +kernel
theorem dX6_isKnown_1 : decode cX6_isKnown 1 = .ok (.iload_n 1, 1) := by decide +kernel
theorem dX6_isKnown_2 : decode cX6_isKnown 2 = .ok (.iload_n 2, 1) := by decide +kernel
theorem dX6_isKnown_3 : decode cX6_isKnown 3 = .ok (.invokestatic 64, 3) := by decide +kernel
theorem dX6_isKnown_6 : decode cX6_isKnown 6 = .ok (.iaload, 1) := by decide +kernel
theorem dX6_isKnown_7 : decode cX6_isKnown 7 = .ok (.aload_n 0, 1) := by decide +kernel
theorem dX6_isKnown_8 : decode cX6_isKnown 8 = .ok (.iload_n 2, 1) := by decide +kernel
theorem dX6_isKnown_9 : decode cX6_isKnown 9 = .ok (.invokestatic 68, 3) := by decide +kernel
theorem dX6_isKnown_12 : decode cX6_isKnown 12 = .ok (.if_icmp .lt 7, 3) := by decide +kernel
theorem dX6_isKnown_15 : decode cX6_isKnown 15 = .ok (.iconst 1, 1) := by decide +kernel
theorem dX6_isKnown_16 : decode cX6_isKnown 16 = .ok (.goto 4, 3) := by decide +kernel
theorem dX6_isKnown_19 : decode cX6_isKnown 19 = .ok (.iconst 0, 1) := by decide +kernel
theorem dX6_isKnown_20 : decode cX6_isKnown 20 = .ok (.ireturn, 1) := by decide +kernel
theorem dX6_beside_0 : decode cX6_beside 0 = .ok (.iload_n 1, 1) := by decide +kernel
theorem dX6_beside_1 : decode cX6_beside 1 = .ok (.tableswitch 72 0 2 #[27, 41, 56], 27) := by decide +kernel
theorem dX6_beside_28 : decode cX6_beside 28 = .ok (.iload_n 0, 1) := by decide +kernel
theorem dX6_beside_29 : decode cX6_beside 29 = .ok (.iconst 5, 1) := by decide +kernel
theorem dX6_beside_30 : decode cX6_beside 30 = .ok (.if_icmp .ge 8, 3) := by decide +kernel
theorem dX6_beside_33 : decode cX6_beside 33 = .ok (.bipush (-9), 2) := by decide +kernel
theorem dX6_beside_35 : decode cX6_beside 35 = .ok (.goto 6, 3) := by decide +kernel
theorem dX6_beside_38 : decode cX6_beside 38 = .ok (.iload_n 0, 1) := by decide +kernel
theorem dX6_beside_39 : decode cX6_beside 39 = .ok (.iconst 5, 1) := by decide +kernel
theorem dX6_beside_40 : decode cX6_beside 40 = .ok (.isub, 1) := by decide +kernel
theorem dX6_beside_41 : decode cX6_beside 41 = .ok (.ireturn, 1) := by decide +kernel
theorem dX6_beside_42 : decode cX6_beside 42 = .ok (.iload_n 0, 1) := by decide +kernel
theorem dX6_beside_43 : decode cX6_beside 43 = .ok (.iconst 5, 1) := by decide +kernel
theorem dX6_beside_44 : decode cX6_beside 44 = .ok (.irem, 1) := by decide +kernel
theorem dX6_beside_45 : decode cX6_beside 45 = .ok (.ifCond .ne 8, 3) := by decide +kernel
theorem dX6_beside_48 : decode cX6_beside 48 = .ok (.bipush (-9), 2) := by decide +kernel
theorem dX6_beside_50 : decode cX6_beside 50 = .ok (.goto 6, 3) := by decide +kernel
theorem dX6_beside_53 : decode cX6_beside 53 = .ok (.iload_n 0, 1) := by decide +kernel
theorem dX6_beside_54 : decode cX6_beside 54 = .ok (.iconst 1, 1) := by decide +kernel
theorem dX6_beside_55 : decode cX6_beside 55 = .ok (.isub, 1) := by decide +kernel
theorem dX6_beside_56 : decode cX6_beside 56 = .ok (.ireturn, 1) := by decide +kernel
theorem dX6_beside_57 : decode cX6_beside 57 = .ok (.iload_n 0, 1) := by decide +kernel
theorem dX6_beside_58 : decode cX6_beside 58 = .ok (.iconst 5, 1) := by decide +kernel
theorem dX6_beside_59 : decode cX6_beside 59 = .ok (.irem, 1) := by decide +kernel
theorem dX6_beside_60 : decode cX6_beside 60 = .ok (.iconst 4, 1) := by decide +kernel
theorem dX6_beside_61 : decode cX6_beside 61 = .ok (.if_icmp .ne 8, 3) := by decide +kernel
theorem dX6_beside_64 : decode cX6_beside 64 = .ok (.bipush (-9), 2) := by decide +kernel
theorem dX6_beside_66 : decode cX6_beside 66 = .ok (.goto 6, 3) := by decide +kernel
theorem dX6_beside_69 : decode cX6_beside 69 = .ok (.iload_n 0, 1) := by decide +kernel
theorem dX6_beside_70 : decode cX6_beside 70 = .ok (.iconst 1, 1) := by decide +kernel
theorem dX6_beside_71 : decode cX6_beside 71 = .ok (.iadd, 1) := by decide +kernel
theorem dX6_beside_72 : decode cX6_beside 72 = .ok (.ireturn, 1) := by decide +kernel
theorem dX6_beside_73 : decode cX6_beside 73 = .ok (.iload_n 0, 1) := by decide +kernel
theorem dX6_beside_74 : decode cX6_beside 74 = .ok (.bipush 20, 2) := by decide +kernel
theorem dX6_beside_76 : decode cX6_beside 76 = .ok (.if_icmp .lt 8, 3) := by decide +kernel
theorem dX6_beside_79 : decode cX6_beside 79 = .ok (.bipush (-9), 2) := by decide +kernel
theorem dX6_beside_81 : decode cX6_beside 81 = .ok (.goto 6, 3) := by decide +kernel
theorem dX6_beside_84 : decode cX6_beside 84 = .ok (.iload_n 0, 1) := by decide +kernel
theorem dX6_beside_85 : decode cX6_beside 85 = .ok (.iconst 5, 1) := by decide +kernel
theorem dX6_beside_86 : decode cX6_beside 86 = .ok (.iadd, 1) := by decide +kernel
theorem dX6_beside_87 : decode cX6_beside 87 = .ok (.ireturn, 1) := by decide +kernel
theorem dX6_night_0 : decode cX6_night 0 = .ok (.aload_n 0, 1) := by decide +kernel
theorem dX6_night_1 : decode cX6_night 1 = .ok (.iconst 1, 1) := by decide +kernel
theorem dX6_night_2 : decode cX6_night 2 = .ok (.dup2, 1) := by decide +kernel
theorem dX6_night_3 : decode cX6_night 3 = .ok (.iaload, 1) := by decide +kernel
theorem dX6_night_4 : decode cX6_night 4 = .ok (.iconst 1, 1) := by decide +kernel
theorem dX6_night_5 : decode cX6_night 5 = .ok (.iadd, 1) := by decide +kernel
theorem dX6_night_6 : decode cX6_night 6 = .ok (.iastore, 1) := by decide +kernel
theorem dX6_night_7 : decode cX6_night 7 = .ok (.iconst 0, 1) := by decide +kernel
theorem dX6_night_8 : decode cX6_night 8 = .ok (.istore_n 1, 1) := by decide +kernel
theorem dX6_night_9 : decode cX6_night 9 = .ok (.iload_n 1, 1) := by decide +kernel
theorem dX6_night_10 : decode cX6_night 10 = .ok (.aload_n 0, 1) := by decide +kernel
theorem dX6_night_11 : decode cX6_night 11 = .ok (.iconst 0, 1) := by decide +kernel
theorem dX6_night_12 : decode cX6_night 12 = .ok (.iaload, 1) := by decide +kernel
theorem dX6_night_13 : decode cX6_night 13 = .ok (.if_icmp .ge 56, 3) := by decide +kernel
theorem dX6_night_16 : decode cX6_night 16 = .ok (.iconst 0, 1) := by decide +kernel
theorem dX6_night_17 : decode cX6_night 17 = .ok (.istore_n 2, 1) := by decide +kernel
theorem dX6_night_18 : decode cX6_night 18 = .ok (.iload_n 2, 1) := by decide +kernel
theorem dX6_night_19 : decode cX6_night 19 = .ok (.bipush 25, 2) := by decide +kernel
theorem dX6_night_21 : decode cX6_night 21 = .ok (.if_icmp .ge 42, 3) := by decide +kernel
theorem dX6_night_24 : decode cX6_night 24 = .ok (.aload_n 0, 1) := by decide +kernel
theorem dX6_night_25 : decode cX6_night 25 = .ok (.iconst 1, 1) := by decide +kernel
theorem dX6_night_26 : decode cX6_night 26 = .ok (.iaload, 1) := by decide +kernel
theorem dX6_night_27 : decode cX6_night 27 = .ok (.aload_n 0, 1) := by decide +kernel
theorem dX6_night_28 : decode cX6_night 28 = .ok (.bipush 52, 2) := by decide +kernel
theorem dX6_night_30 : decode cX6_night 30 = .ok (.iload_n 1, 1) := by decide +kernel
theorem dX6_night_31 : decode cX6_night 31 = .ok (.iadd, 1) := by decide +kernel
theorem dX6_night_32 : decode cX6_night 32 = .ok (.iaload, 1) := by decide +kernel
theorem dX6_night_33 : decode cX6_night 33 = .ok (.irem, 1) := by decide +kernel
theorem dX6_night_34 : decode cX6_night 34 = .ok (.ifCond .ne 29, 3) := by decide +kernel
theorem dX6_night_37 : decode cX6_night 37 = .ok (.aload_n 0, 1) := by decide +kernel
theorem dX6_night_38 : decode cX6_night 38 = .ok (.iload_n 1, 1) := by decide +kernel
theorem dX6_night_39 : decode cX6_night 39 = .ok (.iload_n 2, 1) := by decide +kernel
theorem dX6_night_40 : decode cX6_night 40 = .ok (.invokestatic 64, 3) := by decide +kernel
theorem dX6_night_43 : decode cX6_night 43 = .ok (.iconst 0, 1) := by decide +kernel
theorem dX6_night_44 : decode cX6_night 44 = .ok (.aload_n 0, 1) := by decide +kernel
theorem dX6_night_45 : decode cX6_night 45 = .ok (.iload_n 1, 1) := by decide +kernel
theorem dX6_night_46 : decode cX6_night 46 = .ok (.iload_n 2, 1) := by decide +kernel
theorem dX6_night_47 : decode cX6_night 47 = .ok (.invokestatic 64, 3) := by decide +kernel
theorem dX6_night_50 : decode cX6_night 50 = .ok (.iaload, 1) := by decide +kernel
theorem dX6_night_51 : decode cX6_night 51 = .ok (.iconst 1, 1) := by decide +kernel
theorem dX6_night_52 : decode cX6_night 52 = .ok (.isub, 1) := by decide +kernel
theorem dX6_night_53 : decode cX6_night 53 = .ok (.invokestatic 72, 3) := by decide +kernel
theorem dX6_night_56 : decode cX6_night 56 = .ok (.iastore, 1) := by decide +kernel
theorem dX6_night_57 : decode cX6_night 57 = .ok (.iinc 2 1, 3) := by decide +kernel
theorem dX6_night_60 : decode cX6_night 60 = .ok (.goto (-42), 3) := by decide +kernel
theorem dX6_night_63 : decode cX6_night 63 = .ok (.iinc 1 1, 3) := by decide +kernel
theorem dX6_night_66 : decode cX6_night 66 = .ok (.goto (-57), 3) := by decide +kernel
theorem dX6_night_69 : decode cX6_night 69 = .ok (.return_, 1) := by decide +kernel
theorem dX6_findsSoonest_0 : decode cX6_findsSoonest 0 = .ok (.iconst 0, 1) := by decide +kernel
theorem dX6_findsSoonest_1 : decode cX6_findsSoonest 1 = .ok (.istore_n 2, 1) := by decide +kernel
theorem dX6_findsSoonest_2 : decode cX6_findsSoonest 2 = .ok (.iload_n 2, 1) := by decide +kernel
theorem dX6_findsSoonest_3 : decode cX6_findsSoonest 3 = .ok (.bipush 25, 2) := by decide +kernel
theorem dX6_findsSoonest_5 : decode cX6_findsSoonest 5 = .ok (.if_icmp .ge 35, 3) := by decide +kernel
theorem dX6_findsSoonest_8 : decode cX6_findsSoonest 8 = .ok (.aload_n 0, 1) := by decide +kernel
theorem dX6_findsSoonest_9 : decode cX6_findsSoonest 9 = .ok (.getfield 34, 3) := by decide +kernel
theorem dX6_findsSoonest_12 : decode cX6_findsSoonest 12 = .ok (.iload_n 2, 1) := by decide +kernel
theorem dX6_findsSoonest_13 : decode cX6_findsSoonest 13 = .ok (.aload_n 0, 1) := by decide +kernel
theorem dX6_findsSoonest_14 : decode cX6_findsSoonest 14 = .ok (.getfield 31, 3) := by decide +kernel
theorem dX6_findsSoonest_17 : decode cX6_findsSoonest 17 = .ok (.iload_n 2, 1) := by decide +kernel
theorem dX6_findsSoonest_18 : decode cX6_findsSoonest 18 = .ok (.iaload, 1) := by decide +kernel
theorem dX6_findsSoonest_19 : decode cX6_findsSoonest 19 = .ok (.ifCond .lt 12, 3) := by decide +kernel
theorem dX6_findsSoonest_22 : decode cX6_findsSoonest 22 = .ok (.aload_n 0, 1) := by decide +kernel
theorem dX6_findsSoonest_23 : decode cX6_findsSoonest 23 = .ok (.getfield 31, 3) := by decide +kernel
theorem dX6_findsSoonest_26 : decode cX6_findsSoonest 26 = .ok (.iload_n 2, 1) := by decide +kernel
theorem dX6_findsSoonest_27 : decode cX6_findsSoonest 27 = .ok (.iaload, 1) := by decide +kernel
theorem dX6_findsSoonest_28 : decode cX6_findsSoonest 28 = .ok (.goto 5, 3) := by decide +kernel
theorem dX6_findsSoonest_31 : decode cX6_findsSoonest 31 = .ok (.ldc 63, 2) := by decide +kernel
theorem dX6_findsSoonest_33 : decode cX6_findsSoonest 33 = .ok (.iastore, 1) := by decide +kernel
theorem dX6_findsSoonest_34 : decode cX6_findsSoonest 34 = .ok (.iinc 2 1, 3) := by decide +kernel
theorem dX6_findsSoonest_37 : decode cX6_findsSoonest 37 = .ok (.goto (-35), 3) := by decide +kernel
theorem dX6_findsSoonest_40 : decode cX6_findsSoonest 40 = .ok (.iconst 1, 1) := by decide +kernel
theorem dX6_findsSoonest_41 : decode cX6_findsSoonest 41 = .ok (.istore_n 2, 1) := by decide +kernel
theorem dX6_findsSoonest_42 : decode cX6_findsSoonest 42 = .ok (.iload_n 2, 1) := by decide +kernel
theorem dX6_findsSoonest_43 : decode cX6_findsSoonest 43 = .ok (.ifCond .eq 139, 3) := by decide +kernel
theorem dX6_findsSoonest_46 : decode cX6_findsSoonest 46 = .ok (.iconst 0, 1) := by decide +kernel
theorem dX6_findsSoonest_47 : decode cX6_findsSoonest 47 = .ok (.istore_n 2, 1) := by decide +kernel
theorem dX6_findsSoonest_48 : decode cX6_findsSoonest 48 = .ok (.iconst 0, 1) := by decide +kernel
theorem dX6_findsSoonest_49 : decode cX6_findsSoonest 49 = .ok (.istore_n 3, 1) := by decide +kernel
theorem dX6_findsSoonest_50 : decode cX6_findsSoonest 50 = .ok (.iload_n 3, 1) := by decide +kernel
theorem dX6_findsSoonest_51 : decode cX6_findsSoonest 51 = .ok (.bipush 25, 2) := by decide +kernel
theorem dX6_findsSoonest_53 : decode cX6_findsSoonest 53 = .ok (.if_icmp .ge 126, 3) := by decide +kernel
theorem dX6_findsSoonest_56 : decode cX6_findsSoonest 56 = .ok (.aload_n 0, 1) := by decide +kernel
theorem dX6_findsSoonest_57 : decode cX6_findsSoonest 57 = .ok (.getfield 31, 3) := by decide +kernel
theorem dX6_findsSoonest_60 : decode cX6_findsSoonest 60 = .ok (.iload_n 3, 1) := by decide +kernel
theorem dX6_findsSoonest_61 : decode cX6_findsSoonest 61 = .ok (.iaload, 1) := by decide +kernel
theorem dX6_findsSoonest_62 : decode cX6_findsSoonest 62 = .ok (.ifCond .ge 111, 3) := by decide +kernel
theorem dX6_findsSoonest_65 : decode cX6_findsSoonest 65 = .ok (.aload_n 0, 1) := by decide +kernel
theorem dX6_findsSoonest_66 : decode cX6_findsSoonest 66 = .ok (.getfield 37, 3) := by decide +kernel
theorem dX6_findsSoonest_69 : decode cX6_findsSoonest 69 = .ok (.iload_n 3, 1) := by decide +kernel
theorem dX6_findsSoonest_70 : decode cX6_findsSoonest 70 = .ok (.iaload, 1) := by decide +kernel
theorem dX6_findsSoonest_71 : decode cX6_findsSoonest 71 = .ok (.ifCond .ge 102, 3) := by decide +kernel
theorem dX6_findsSoonest_74 : decode cX6_findsSoonest 74 = .ok (.aload_n 1, 1) := by decide +kernel
theorem dX6_findsSoonest_75 : decode cX6_findsSoonest 75 = .ok (.iload_n 3, 1) := by decide +kernel
theorem dX6_findsSoonest_76 : decode cX6_findsSoonest 76 = .ok (.invokestatic 75, 3) := by decide +kernel
theorem dX6_findsSoonest_79 : decode cX6_findsSoonest 79 = .ok (.ldc 63, 2) := by decide +kernel
theorem dX6_findsSoonest_81 : decode cX6_findsSoonest 81 = .ok (.if_icmp .ne 6, 3) := by decide +kernel
theorem dX6_findsSoonest_84 : decode cX6_findsSoonest 84 = .ok (.goto 89, 3) := by decide +kernel
theorem dX6_findsSoonest_87 : decode cX6_findsSoonest 87 = .ok (.iconst 0, 1) := by decide +kernel
theorem dX6_findsSoonest_88 : decode cX6_findsSoonest 88 = .ok (.istore 4, 2) := by decide +kernel
theorem dX6_findsSoonest_90 : decode cX6_findsSoonest 90 = .ok (.iload 4, 2) := by decide +kernel
theorem dX6_findsSoonest_92 : decode cX6_findsSoonest 92 = .ok (.iconst 4, 1) := by decide +kernel
theorem dX6_findsSoonest_93 : decode cX6_findsSoonest 93 = .ok (.if_icmp .ge 80, 3) := by decide +kernel
theorem dX6_findsSoonest_96 : decode cX6_findsSoonest 96 = .ok (.iload_n 3, 1) := by decide +kernel
theorem dX6_findsSoonest_97 : decode cX6_findsSoonest 97 = .ok (.iload 4, 2) := by decide +kernel
theorem dX6_findsSoonest_99 : decode cX6_findsSoonest 99 = .ok (.invokestatic 78, 3) := by decide +kernel
theorem dX6_findsSoonest_102 : decode cX6_findsSoonest 102 = .ok (.istore 5, 2) := by decide +kernel
theorem dX6_findsSoonest_104 : decode cX6_findsSoonest 104 = .ok (.iload 5, 2) := by decide +kernel
theorem dX6_findsSoonest_106 : decode cX6_findsSoonest 106 = .ok (.ifCond .lt 61, 3) := by decide +kernel
theorem dX6_findsSoonest_109 : decode cX6_findsSoonest 109 = .ok (.aload_n 0, 1) := by decide +kernel
theorem dX6_findsSoonest_110 : decode cX6_findsSoonest 110 = .ok (.getfield 34, 3) := by decide +kernel
theorem dX6_findsSoonest_113 : decode cX6_findsSoonest 113 = .ok (.iload 5, 2) := by decide +kernel
theorem dX6_findsSoonest_115 : decode cX6_findsSoonest 115 = .ok (.iaload, 1) := by decide +kernel
theorem dX6_findsSoonest_116 : decode cX6_findsSoonest 116 = .ok (.ldc 63, 2) := by decide +kernel
theorem dX6_findsSoonest_118 : decode cX6_findsSoonest 118 = .ok (.if_icmp .eq 49, 3) := by decide +kernel
theorem dX6_findsSoonest_121 : decode cX6_findsSoonest 121 = .ok (.aload_n 0, 1) := by decide +kernel
theorem dX6_findsSoonest_122 : decode cX6_findsSoonest 122 = .ok (.getfield 34, 3) := by decide +kernel
theorem dX6_findsSoonest_125 : decode cX6_findsSoonest 125 = .ok (.iload 5, 2) := by decide +kernel
theorem dX6_findsSoonest_127 : decode cX6_findsSoonest 127 = .ok (.iaload, 1) := by decide +kernel
theorem dX6_findsSoonest_128 : decode cX6_findsSoonest 128 = .ok (.aload_n 1, 1) := by decide +kernel
theorem dX6_findsSoonest_129 : decode cX6_findsSoonest 129 = .ok (.iload_n 3, 1) := by decide +kernel
theorem dX6_findsSoonest_130 : decode cX6_findsSoonest 130 = .ok (.invokestatic 75, 3) := by decide +kernel
theorem dX6_findsSoonest_133 : decode cX6_findsSoonest 133 = .ok (.iadd, 1) := by decide +kernel
theorem dX6_findsSoonest_134 : decode cX6_findsSoonest 134 = .ok (.aload_n 0, 1) := by decide +kernel
theorem dX6_findsSoonest_135 : decode cX6_findsSoonest 135 = .ok (.getfield 34, 3) := by decide +kernel
theorem dX6_findsSoonest_138 : decode cX6_findsSoonest 138 = .ok (.iload_n 3, 1) := by decide +kernel
theorem dX6_findsSoonest_139 : decode cX6_findsSoonest 139 = .ok (.iaload, 1) := by decide +kernel
theorem dX6_findsSoonest_140 : decode cX6_findsSoonest 140 = .ok (.if_icmp .lt 6, 3) := by decide +kernel
theorem dX6_findsSoonest_143 : decode cX6_findsSoonest 143 = .ok (.goto 24, 3) := by decide +kernel
theorem dX6_findsSoonest_146 : decode cX6_findsSoonest 146 = .ok (.aload_n 0, 1) := by decide +kernel
theorem dX6_findsSoonest_147 : decode cX6_findsSoonest 147 = .ok (.getfield 34, 3) := by decide +kernel
theorem dX6_findsSoonest_150 : decode cX6_findsSoonest 150 = .ok (.iload_n 3, 1) := by decide +kernel
theorem dX6_findsSoonest_151 : decode cX6_findsSoonest 151 = .ok (.aload_n 0, 1) := by decide +kernel
theorem dX6_findsSoonest_152 : decode cX6_findsSoonest 152 = .ok (.getfield 34, 3) := by decide +kernel
theorem dX6_findsSoonest_155 : decode cX6_findsSoonest 155 = .ok (.iload 5, 2) := by decide +kernel
theorem dX6_findsSoonest_157 : decode cX6_findsSoonest 157 = .ok (.iaload, 1) := by decide +kernel
theorem dX6_findsSoonest_158 : decode cX6_findsSoonest 158 = .ok (.aload_n 1, 1) := by decide +kernel
theorem dX6_findsSoonest_159 : decode cX6_findsSoonest 159 = .ok (.iload_n 3, 1) := by decide +kernel
theorem dX6_findsSoonest_160 : decode cX6_findsSoonest 160 = .ok (.invokestatic 75, 3) := by decide +kernel
theorem dX6_findsSoonest_163 : decode cX6_findsSoonest 163 = .ok (.iadd, 1) := by decide +kernel
theorem dX6_findsSoonest_164 : decode cX6_findsSoonest 164 = .ok (.iastore, 1) := by decide +kernel
theorem dX6_findsSoonest_165 : decode cX6_findsSoonest 165 = .ok (.iconst 1, 1) := by decide +kernel
theorem dX6_findsSoonest_166 : decode cX6_findsSoonest 166 = .ok (.istore_n 2, 1) := by decide +kernel
theorem dX6_findsSoonest_167 : decode cX6_findsSoonest 167 = .ok (.iinc 4 1, 3) := by decide +kernel
theorem dX6_findsSoonest_170 : decode cX6_findsSoonest 170 = .ok (.goto (-80), 3) := by decide +kernel
theorem dX6_findsSoonest_173 : decode cX6_findsSoonest 173 = .ok (.iinc 3 1, 3) := by decide +kernel
theorem dX6_findsSoonest_176 : decode cX6_findsSoonest 176 = .ok (.goto (-126), 3) := by decide +kernel
theorem dX6_findsSoonest_179 : decode cX6_findsSoonest 179 = .ok (.goto (-137), 3) := by decide +kernel
theorem dX6_findsSoonest_182 : decode cX6_findsSoonest 182 = .ok (.return_, 1) := by decide +kernel
theorem dX6_isGoingOn_0 : decode cX6_isGoingOn 0 = .ok (.iconst 0, 1) := by decide +kernel
theorem dX6_isGoingOn_1 : decode cX6_isGoingOn 1 = .ok (.istore_n 1, 1) := by decide +kernel
theorem dX6_isGoingOn_2 : decode cX6_isGoingOn 2 = .ok (.iload_n 1, 1) := by decide +kernel
theorem dX6_isGoingOn_3 : decode cX6_isGoingOn 3 = .ok (.bipush 25, 2) := by decide +kernel
theorem dX6_isGoingOn_5 : decode cX6_isGoingOn 5 = .ok (.if_icmp .ge 31, 3) := by decide +kernel
theorem dX6_isGoingOn_8 : decode cX6_isGoingOn 8 = .ok (.aload_n 0, 1) := by decide +kernel
theorem dX6_isGoingOn_9 : decode cX6_isGoingOn 9 = .ok (.getfield 31, 3) := by decide +kernel
theorem dX6_isGoingOn_12 : decode cX6_isGoingOn 12 = .ok (.iload_n 1, 1) := by decide +kernel
theorem dX6_isGoingOn_13 : decode cX6_isGoingOn 13 = .ok (.iaload, 1) := by decide +kernel
theorem dX6_isGoingOn_14 : decode cX6_isGoingOn 14 = .ok (.ifCond .ge 16, 3) := by decide +kernel
theorem dX6_isGoingOn_17 : decode cX6_isGoingOn 17 = .ok (.aload_n 0, 1) := by decide +kernel
theorem dX6_isGoingOn_18 : decode cX6_isGoingOn 18 = .ok (.getfield 34, 3) := by decide +kernel
theorem dX6_isGoingOn_21 : decode cX6_isGoingOn 21 = .ok (.iload_n 1, 1) := by decide +kernel
theorem dX6_isGoingOn_22 : decode cX6_isGoingOn 22 = .ok (.iaload, 1) := by decide +kernel
theorem dX6_isGoingOn_23 : decode cX6_isGoingOn 23 = .ok (.ldc 63, 2) := by decide +kernel
theorem dX6_isGoingOn_25 : decode cX6_isGoingOn 25 = .ok (.if_icmp .ge 5, 3) := by decide +kernel
theorem dX6_isGoingOn_28 : decode cX6_isGoingOn 28 = .ok (.iconst 1, 1) := by decide +kernel
theorem dX6_isGoingOn_29 : decode cX6_isGoingOn 29 = .ok (.ireturn, 1) := by decide +kernel
theorem dX6_isGoingOn_30 : decode cX6_isGoingOn 30 = .ok (.iinc 1 1, 3) := by decide +kernel
theorem dX6_isGoingOn_33 : decode cX6_isGoingOn 33 = .ok (.goto (-31), 3) := by decide +kernel
theorem dX6_isGoingOn_36 : decode cX6_isGoingOn 36 = .ok (.iconst 0, 1) := by decide +kernel
theorem dX6_isGoingOn_37 : decode cX6_isGoingOn 37 = .ok (.ireturn, 1) := by decide +kernel
theorem dX6_toSay_0 : decode cX6_toSay 0 = .ok (.bipush (-9), 2) := by decide +kernel
theorem dX6_toSay_2 : decode cX6_toSay 2 = .ok (.istore_n 3, 1) := by decide +kernel
theorem dX6_toSay_3 : decode cX6_toSay 3 = .ok (.iconst 0, 1) := by decide +kernel
theorem dX6_toSay_4 : decode cX6_toSay 4 = .ok (.istore 4, 2) := by decide +kernel
theorem dX6_toSay_6 : decode cX6_toSay 6 = .ok (.iload 4, 2) := by decide +kernel
theorem dX6_toSay_8 : decode cX6_toSay 8 = .ok (.bipush 25, 2) := by decide +kernel
theorem dX6_toSay_10 : decode cX6_toSay 10 = .ok (.if_icmp .ge 97, 3) := by decide +kernel
theorem dX6_toSay_13 : decode cX6_toSay 13 = .ok (.aload_n 0, 1) := by decide +kernel
theorem dX6_toSay_14 : decode cX6_toSay 14 = .ok (.getfield 31, 3) := by decide +kernel
theorem dX6_toSay_17 : decode cX6_toSay 17 = .ok (.iload 4, 2) := by decide +kernel
theorem dX6_toSay_19 : decode cX6_toSay 19 = .ok (.iaload, 1) := by decide +kernel
theorem dX6_toSay_20 : decode cX6_toSay 20 = .ok (.ifCond .ge 81, 3) := by decide +kernel
theorem dX6_toSay_23 : decode cX6_toSay 23 = .ok (.aload_n 0, 1) := by decide +kernel
theorem dX6_toSay_24 : decode cX6_toSay 24 = .ok (.getfield 34, 3) := by decide +kernel
theorem dX6_toSay_27 : decode cX6_toSay 27 = .ok (.iload 4, 2) := by decide +kernel
theorem dX6_toSay_29 : decode cX6_toSay 29 = .ok (.iaload, 1) := by decide +kernel
theorem dX6_toSay_30 : decode cX6_toSay 30 = .ok (.ldc 63, 2) := by decide +kernel
theorem dX6_toSay_32 : decode cX6_toSay 32 = .ok (.if_icmp .eq 69, 3) := by decide +kernel
theorem dX6_toSay_35 : decode cX6_toSay 35 = .ok (.aload_n 1, 1) := by decide +kernel
theorem dX6_toSay_36 : decode cX6_toSay 36 = .ok (.iload_n 2, 1) := by decide +kernel
theorem dX6_toSay_37 : decode cX6_toSay 37 = .ok (.iload 4, 2) := by decide +kernel
theorem dX6_toSay_39 : decode cX6_toSay 39 = .ok (.invokestatic 81, 3) := by decide +kernel
theorem dX6_toSay_42 : decode cX6_toSay 42 = .ok (.ifCond .ne 6, 3) := by decide +kernel
theorem dX6_toSay_45 : decode cX6_toSay 45 = .ok (.goto 56, 3) := by decide +kernel
theorem dX6_toSay_48 : decode cX6_toSay 48 = .ok (.iload_n 3, 1) := by decide +kernel
theorem dX6_toSay_49 : decode cX6_toSay 49 = .ok (.ifCond .lt 49, 3) := by decide +kernel
theorem dX6_toSay_52 : decode cX6_toSay 52 = .ok (.aload_n 0, 1) := by decide +kernel
theorem dX6_toSay_53 : decode cX6_toSay 53 = .ok (.getfield 34, 3) := by decide +kernel
theorem dX6_toSay_56 : decode cX6_toSay 56 = .ok (.iload 4, 2) := by decide +kernel
theorem dX6_toSay_58 : decode cX6_toSay 58 = .ok (.iaload, 1) := by decide +kernel
theorem dX6_toSay_59 : decode cX6_toSay 59 = .ok (.aload_n 0, 1) := by decide +kernel
theorem dX6_toSay_60 : decode cX6_toSay 60 = .ok (.getfield 34, 3) := by decide +kernel
theorem dX6_toSay_63 : decode cX6_toSay 63 = .ok (.iload_n 3, 1) := by decide +kernel
theorem dX6_toSay_64 : decode cX6_toSay 64 = .ok (.iaload, 1) := by decide +kernel
theorem dX6_toSay_65 : decode cX6_toSay 65 = .ok (.if_icmp .lt 33, 3) := by decide +kernel
theorem dX6_toSay_68 : decode cX6_toSay 68 = .ok (.aload_n 0, 1) := by decide +kernel
theorem dX6_toSay_69 : decode cX6_toSay 69 = .ok (.getfield 34, 3) := by decide +kernel
theorem dX6_toSay_72 : decode cX6_toSay 72 = .ok (.iload 4, 2) := by decide +kernel
theorem dX6_toSay_74 : decode cX6_toSay 74 = .ok (.iaload, 1) := by decide +kernel
theorem dX6_toSay_75 : decode cX6_toSay 75 = .ok (.aload_n 0, 1) := by decide +kernel
theorem dX6_toSay_76 : decode cX6_toSay 76 = .ok (.getfield 34, 3) := by decide +kernel
theorem dX6_toSay_79 : decode cX6_toSay 79 = .ok (.iload_n 3, 1) := by decide +kernel
theorem dX6_toSay_80 : decode cX6_toSay 80 = .ok (.iaload, 1) := by decide +kernel
theorem dX6_toSay_81 : decode cX6_toSay 81 = .ok (.if_icmp .ne 20, 3) := by decide +kernel
theorem dX6_toSay_84 : decode cX6_toSay 84 = .ok (.aload_n 1, 1) := by decide +kernel
theorem dX6_toSay_85 : decode cX6_toSay 85 = .ok (.iload 4, 2) := by decide +kernel
theorem dX6_toSay_87 : decode cX6_toSay 87 = .ok (.invokestatic 85, 3) := by decide +kernel
theorem dX6_toSay_90 : decode cX6_toSay 90 = .ok (.aload_n 1, 1) := by decide +kernel
theorem dX6_toSay_91 : decode cX6_toSay 91 = .ok (.iload_n 3, 1) := by decide +kernel
theorem dX6_toSay_92 : decode cX6_toSay 92 = .ok (.invokestatic 85, 3) := by decide +kernel
theorem dX6_toSay_95 : decode cX6_toSay 95 = .ok (.if_icmp .le 6, 3) := by decide +kernel
theorem dX6_toSay_98 : decode cX6_toSay 98 = .ok (.iload 4, 2) := by decide +kernel
theorem dX6_toSay_100 : decode cX6_toSay 100 = .ok (.istore_n 3, 1) := by decide +kernel
theorem dX6_toSay_101 : decode cX6_toSay 101 = .ok (.iinc 4 1, 3) := by decide +kernel
theorem dX6_toSay_104 : decode cX6_toSay 104 = .ok (.goto (-98), 3) := by decide +kernel
theorem dX6_toSay_107 : decode cX6_toSay 107 = .ok (.iload_n 3, 1) := by decide +kernel
theorem dX6_toSay_108 : decode cX6_toSay 108 = .ok (.ireturn, 1) := by decide +kernel
theorem dX6_burns_0 : decode cX6_burns 0 = .ok (.iconst 0, 1) := by decide +kernel
theorem dX6_burns_1 : decode cX6_burns 1 = .ok (.istore_n 3, 1) := by decide +kernel
theorem dX6_burns_2 : decode cX6_burns 2 = .ok (.iload_n 3, 1) := by decide +kernel
theorem dX6_burns_3 : decode cX6_burns 3 = .ok (.bipush 25, 2) := by decide +kernel
theorem dX6_burns_5 : decode cX6_burns 5 = .ok (.if_icmp .ge 33, 3) := by decide +kernel
theorem dX6_burns_8 : decode cX6_burns 8 = .ok (.aload_n 0, 1) := by decide +kernel
theorem dX6_burns_9 : decode cX6_burns 9 = .ok (.getfield 31, 3) := by decide +kernel
theorem dX6_burns_12 : decode cX6_burns 12 = .ok (.iload_n 3, 1) := by decide +kernel
theorem dX6_burns_13 : decode cX6_burns 13 = .ok (.bipush (-9), 2) := by decide +kernel
theorem dX6_burns_15 : decode cX6_burns 15 = .ok (.iastore, 1) := by decide +kernel
theorem dX6_burns_16 : decode cX6_burns 16 = .ok (.aload_n 0, 1) := by decide +kernel
theorem dX6_burns_17 : decode cX6_burns 17 = .ok (.getfield 37, 3) := by decide +kernel
theorem dX6_burns_20 : decode cX6_burns 20 = .ok (.iload_n 3, 1) := by decide +kernel
theorem dX6_burns_21 : decode cX6_burns 21 = .ok (.bipush (-9), 2) := by decide +kernel
theorem dX6_burns_23 : decode cX6_burns 23 = .ok (.iastore, 1) := by decide +kernel
theorem dX6_burns_24 : decode cX6_burns 24 = .ok (.aload_n 0, 1) := by decide +kernel
theorem dX6_burns_25 : decode cX6_burns 25 = .ok (.getfield 40, 3) := by decide +kernel
theorem dX6_burns_28 : decode cX6_burns 28 = .ok (.iload_n 3, 1) := by decide +kernel
theorem dX6_burns_29 : decode cX6_burns 29 = .ok (.bipush (-9), 2) := by decide +kernel
theorem dX6_burns_31 : decode cX6_burns 31 = .ok (.iastore, 1) := by decide +kernel
theorem dX6_burns_32 : decode cX6_burns 32 = .ok (.iinc 3 1, 3) := by decide +kernel
theorem dX6_burns_35 : decode cX6_burns 35 = .ok (.goto (-33), 3) := by decide +kernel
theorem dX6_burns_38 : decode cX6_burns 38 = .ok (.aload_n 0, 1) := by decide +kernel
theorem dX6_burns_39 : decode cX6_burns 39 = .ok (.getfield 31, 3) := by decide +kernel
theorem dX6_burns_42 : decode cX6_burns 42 = .ok (.iload_n 2, 1) := by decide +kernel
theorem dX6_burns_43 : decode cX6_burns 43 = .ok (.iconst 0, 1) := by decide +kernel
theorem dX6_burns_44 : decode cX6_burns 44 = .ok (.iastore, 1) := by decide +kernel
theorem dX6_burns_45 : decode cX6_burns 45 = .ok (.aload_n 0, 1) := by decide +kernel
theorem dX6_burns_46 : decode cX6_burns 46 = .ok (.aload_n 1, 1) := by decide +kernel
theorem dX6_burns_47 : decode cX6_burns 47 = .ok (.invokevirtual 88, 3) := by decide +kernel
theorem dX6_burns_50 : decode cX6_burns 50 = .ok (.iconst 1, 1) := by decide +kernel
theorem dX6_burns_51 : decode cX6_burns 51 = .ok (.istore_n 3, 1) := by decide +kernel
theorem dX6_burns_52 : decode cX6_burns 52 = .ok (.aload_n 0, 1) := by decide +kernel
theorem dX6_burns_53 : decode cX6_burns 53 = .ok (.invokevirtual 92, 3) := by decide +kernel
theorem dX6_burns_56 : decode cX6_burns 56 = .ok (.ifCond .eq 164, 3) := by decide +kernel
theorem dX6_burns_59 : decode cX6_burns 59 = .ok (.aload_n 0, 1) := by decide +kernel
theorem dX6_burns_60 : decode cX6_burns 60 = .ok (.getfield 96, 3) := by decide +kernel
theorem dX6_burns_63 : decode cX6_burns 63 = .ok (.ifCond .ne 8, 3) := by decide +kernel
theorem dX6_burns_66 : decode cX6_burns 66 = .ok (.bipush (-9), 2) := by decide +kernel
theorem dX6_burns_68 : decode cX6_burns 68 = .ok (.goto 16, 3) := by decide +kernel
theorem dX6_burns_71 : decode cX6_burns 71 = .ok (.aload_n 0, 1) := by decide +kernel
theorem dX6_burns_72 : decode cX6_burns 72 = .ok (.getfield 43, 3) := by decide +kernel
theorem dX6_burns_75 : decode cX6_burns 75 = .ok (.iload_n 3, 1) := by decide +kernel
theorem dX6_burns_76 : decode cX6_burns 76 = .ok (.iconst 1, 1) := by decide +kernel
theorem dX6_burns_77 : decode cX6_burns 77 = .ok (.isub, 1) := by decide +kernel
theorem dX6_burns_78 : decode cX6_burns 78 = .ok (.aload_n 0, 1) := by decide +kernel
theorem dX6_burns_79 : decode cX6_burns 79 = .ok (.getfield 96, 3) := by decide +kernel
theorem dX6_burns_82 : decode cX6_burns 82 = .ok (.irem, 1) := by decide +kernel
theorem dX6_burns_83 : decode cX6_burns 83 = .ok (.iaload, 1) := by decide +kernel
theorem dX6_burns_84 : decode cX6_burns 84 = .ok (.istore 4, 2) := by decide +kernel
theorem dX6_burns_86 : decode cX6_burns 86 = .ok (.iload_n 3, 1) := by decide +kernel
theorem dX6_burns_87 : decode cX6_burns 87 = .ok (.bipush 7, 2) := by decide +kernel
theorem dX6_burns_89 : decode cX6_burns 89 = .ok (.if_icmp .gt 21, 3) := by decide +kernel
theorem dX6_burns_92 : decode cX6_burns 92 = .ok (.aload_n 0, 1) := by decide +kernel
theorem dX6_burns_93 : decode cX6_burns 93 = .ok (.getfield 100, 3) := by decide +kernel
theorem dX6_burns_96 : decode cX6_burns 96 = .ok (.iload_n 3, 1) := by decide +kernel
theorem dX6_burns_97 : decode cX6_burns 97 = .ok (.iconst 1, 1) := by decide +kernel
theorem dX6_burns_98 : decode cX6_burns 98 = .ok (.isub, 1) := by decide +kernel
theorem dX6_burns_99 : decode cX6_burns 99 = .ok (.ishr, 1) := by decide +kernel
theorem dX6_burns_100 : decode cX6_burns 100 = .ok (.iconst 1, 1) := by decide +kernel
theorem dX6_burns_101 : decode cX6_burns 101 = .ok (.iand, 1) := by decide +kernel
theorem dX6_burns_102 : decode cX6_burns 102 = .ok (.iconst 1, 1) := by decide +kernel
theorem dX6_burns_103 : decode cX6_burns 103 = .ok (.if_icmp .ne 7, 3) := by decide +kernel
theorem dX6_burns_106 : decode cX6_burns 106 = .ok (.iconst 1, 1) := by decide +kernel
theorem dX6_burns_107 : decode cX6_burns 107 = .ok (.goto 4, 3) := by decide +kernel
theorem dX6_burns_110 : decode cX6_burns 110 = .ok (.iconst 0, 1) := by decide +kernel
theorem dX6_burns_111 : decode cX6_burns 111 = .ok (.istore 5, 2) := by decide +kernel
theorem dX6_burns_113 : decode cX6_burns 113 = .ok (.iload 4, 2) := by decide +kernel
theorem dX6_burns_115 : decode cX6_burns 115 = .ok (.ifCond .lt 8, 3) := by decide +kernel
theorem dX6_burns_118 : decode cX6_burns 118 = .ok (.iload 5, 2) := by decide +kernel
theorem dX6_burns_120 : decode cX6_burns 120 = .ok (.ifCond .eq 8, 3) := by decide +kernel
theorem dX6_burns_123 : decode cX6_burns 123 = .ok (.bipush (-9), 2) := by decide +kernel
theorem dX6_burns_125 : decode cX6_burns 125 = .ok (.goto 10, 3) := by decide +kernel
theorem dX6_burns_128 : decode cX6_burns 128 = .ok (.aload_n 0, 1) := by decide +kernel
theorem dX6_burns_129 : decode cX6_burns 129 = .ok (.aload_n 1, 1) := by decide +kernel
theorem dX6_burns_130 : decode cX6_burns 130 = .ok (.iload 4, 2) := by decide +kernel
theorem dX6_burns_132 : decode cX6_burns 132 = .ok (.invokevirtual 103, 3) := by decide +kernel
theorem dX6_burns_135 : decode cX6_burns 135 = .ok (.istore 6, 2) := by decide +kernel
theorem dX6_burns_137 : decode cX6_burns 137 = .ok (.iload 6, 2) := by decide +kernel
theorem dX6_burns_139 : decode cX6_burns 139 = .ok (.ifCond .lt 25, 3) := by decide +kernel
theorem dX6_burns_142 : decode cX6_burns 142 = .ok (.aload_n 0, 1) := by decide +kernel
theorem dX6_burns_143 : decode cX6_burns 143 = .ok (.getfield 37, 3) := by decide +kernel
theorem dX6_burns_146 : decode cX6_burns 146 = .ok (.iload 6, 2) := by decide +kernel
theorem dX6_burns_148 : decode cX6_burns 148 = .ok (.iload_n 3, 1) := by decide +kernel
theorem dX6_burns_149 : decode cX6_burns 149 = .ok (.iastore, 1) := by decide +kernel
theorem dX6_burns_150 : decode cX6_burns 150 = .ok (.aload_n 0, 1) := by decide +kernel
theorem dX6_burns_151 : decode cX6_burns 151 = .ok (.getfield 40, 3) := by decide +kernel
theorem dX6_burns_154 : decode cX6_burns 154 = .ok (.iload 6, 2) := by decide +kernel
theorem dX6_burns_156 : decode cX6_burns 156 = .ok (.iload 4, 2) := by decide +kernel
theorem dX6_burns_158 : decode cX6_burns 158 = .ok (.iastore, 1) := by decide +kernel
theorem dX6_burns_159 : decode cX6_burns 159 = .ok (.aload_n 0, 1) := by decide +kernel
theorem dX6_burns_160 : decode cX6_burns 160 = .ok (.aload_n 1, 1) := by decide +kernel
theorem dX6_burns_161 : decode cX6_burns 161 = .ok (.invokevirtual 88, 3) := by decide +kernel
theorem dX6_burns_164 : decode cX6_burns 164 = .ok (.iconst 0, 1) := by decide +kernel
theorem dX6_burns_165 : decode cX6_burns 165 = .ok (.istore 7, 2) := by decide +kernel
theorem dX6_burns_167 : decode cX6_burns 167 = .ok (.iload 7, 2) := by decide +kernel
theorem dX6_burns_169 : decode cX6_burns 169 = .ok (.bipush 25, 2) := by decide +kernel
theorem dX6_burns_171 : decode cX6_burns 171 = .ok (.if_icmp .ge 38, 3) := by decide +kernel
theorem dX6_burns_174 : decode cX6_burns 174 = .ok (.aload_n 0, 1) := by decide +kernel
theorem dX6_burns_175 : decode cX6_burns 175 = .ok (.getfield 31, 3) := by decide +kernel
theorem dX6_burns_178 : decode cX6_burns 178 = .ok (.iload 7, 2) := by decide +kernel
theorem dX6_burns_180 : decode cX6_burns 180 = .ok (.iaload, 1) := by decide +kernel
theorem dX6_burns_181 : decode cX6_burns 181 = .ok (.ifCond .ge 22, 3) := by decide +kernel
theorem dX6_burns_184 : decode cX6_burns 184 = .ok (.aload_n 0, 1) := by decide +kernel
theorem dX6_burns_185 : decode cX6_burns 185 = .ok (.getfield 34, 3) := by decide +kernel
theorem dX6_burns_188 : decode cX6_burns 188 = .ok (.iload 7, 2) := by decide +kernel
theorem dX6_burns_190 : decode cX6_burns 190 = .ok (.iaload, 1) := by decide +kernel
theorem dX6_burns_191 : decode cX6_burns 191 = .ok (.iload_n 3, 1) := by decide +kernel
theorem dX6_burns_192 : decode cX6_burns 192 = .ok (.if_icmp .ne 11, 3) := by decide +kernel
theorem dX6_burns_195 : decode cX6_burns 195 = .ok (.aload_n 0, 1) := by decide +kernel
theorem dX6_burns_196 : decode cX6_burns 196 = .ok (.getfield 31, 3) := by decide +kernel
theorem dX6_burns_199 : decode cX6_burns 199 = .ok (.iload 7, 2) := by decide +kernel
theorem dX6_burns_201 : decode cX6_burns 201 = .ok (.iload_n 3, 1) := by decide +kernel
theorem dX6_burns_202 : decode cX6_burns 202 = .ok (.iastore, 1) := by decide +kernel
theorem dX6_burns_203 : decode cX6_burns 203 = .ok (.iinc 7 1, 3) := by decide +kernel
theorem dX6_burns_206 : decode cX6_burns 206 = .ok (.goto (-39), 3) := by decide +kernel
theorem dX6_burns_209 : decode cX6_burns 209 = .ok (.aload_n 0, 1) := by decide +kernel
theorem dX6_burns_210 : decode cX6_burns 210 = .ok (.aload_n 1, 1) := by decide +kernel
theorem dX6_burns_211 : decode cX6_burns 211 = .ok (.invokevirtual 88, 3) := by decide +kernel
theorem dX6_burns_214 : decode cX6_burns 214 = .ok (.iinc 3 1, 3) := by decide +kernel
theorem dX6_burns_217 : decode cX6_burns 217 = .ok (.goto (-165), 3) := by decide +kernel
theorem dX6_burns_220 : decode cX6_burns 220 = .ok (.return_, 1) := by decide +kernel
theorem dX6_turnsFrom_0 : decode cX6_turnsFrom 0 = .ok (.aload_n 0, 1) := by decide +kernel
theorem dX6_turnsFrom_1 : decode cX6_turnsFrom 1 = .ok (.iconst 0, 1) := by decide +kernel
theorem dX6_turnsFrom_2 : decode cX6_turnsFrom 2 = .ok (.putfield 96, 3) := by decide +kernel
theorem dX6_turnsFrom_5 : decode cX6_turnsFrom 5 = .ok (.aload_n 0, 1) := by decide +kernel
theorem dX6_turnsFrom_6 : decode cX6_turnsFrom 6 = .ok (.iconst 0, 1) := by decide +kernel
theorem dX6_turnsFrom_7 : decode cX6_turnsFrom 7 = .ok (.putfield 100, 3) := by decide +kernel
theorem dX6_turnsFrom_10 : decode cX6_turnsFrom 10 = .ok (.iconst 0, 1) := by decide +kernel
theorem dX6_turnsFrom_11 : decode cX6_turnsFrom 11 = .ok (.istore 4, 2) := by decide +kernel
theorem dX6_turnsFrom_13 : decode cX6_turnsFrom 13 = .ok (.iload 4, 2) := by decide +kernel
theorem dX6_turnsFrom_15 : decode cX6_turnsFrom 15 = .ok (.aload_n 1, 1) := by decide +kernel
theorem dX6_turnsFrom_16 : decode cX6_turnsFrom 16 = .ok (.iconst 0, 1) := by decide +kernel
theorem dX6_turnsFrom_17 : decode cX6_turnsFrom 17 = .ok (.iaload, 1) := by decide +kernel
theorem dX6_turnsFrom_18 : decode cX6_turnsFrom 18 = .ok (.if_icmp .ge 49, 3) := by decide +kernel
theorem dX6_turnsFrom_21 : decode cX6_turnsFrom 21 = .ok (.iload_n 2, 1) := by decide +kernel
theorem dX6_turnsFrom_22 : decode cX6_turnsFrom 22 = .ok (.iload 4, 2) := by decide +kernel
theorem dX6_turnsFrom_24 : decode cX6_turnsFrom 24 = .ok (.iadd, 1) := by decide +kernel
theorem dX6_turnsFrom_25 : decode cX6_turnsFrom 25 = .ok (.aload_n 1, 1) := by decide +kernel
theorem dX6_turnsFrom_26 : decode cX6_turnsFrom 26 = .ok (.iconst 0, 1) := by decide +kernel
theorem dX6_turnsFrom_27 : decode cX6_turnsFrom 27 = .ok (.iaload, 1) := by decide +kernel
theorem dX6_turnsFrom_28 : decode cX6_turnsFrom 28 = .ok (.irem, 1) := by decide +kernel
theorem dX6_turnsFrom_29 : decode cX6_turnsFrom 29 = .ok (.istore 5, 2) := by decide +kernel
theorem dX6_turnsFrom_31 : decode cX6_turnsFrom 31 = .ok (.iload 5, 2) := by decide +kernel
theorem dX6_turnsFrom_33 : decode cX6_turnsFrom 33 = .ok (.iload_n 3, 1) := by decide +kernel
theorem dX6_turnsFrom_34 : decode cX6_turnsFrom 34 = .ok (.if_icmp .ne 6, 3) := by decide +kernel
theorem dX6_turnsFrom_37 : decode cX6_turnsFrom 37 = .ok (.goto 24, 3) := by decide +kernel
theorem dX6_turnsFrom_40 : decode cX6_turnsFrom 40 = .ok (.aload_n 0, 1) := by decide +kernel
theorem dX6_turnsFrom_41 : decode cX6_turnsFrom 41 = .ok (.getfield 43, 3) := by decide +kernel
theorem dX6_turnsFrom_44 : decode cX6_turnsFrom 44 = .ok (.aload_n 0, 1) := by decide +kernel
theorem dX6_turnsFrom_45 : decode cX6_turnsFrom 45 = .ok (.getfield 96, 3) := by decide +kernel
theorem dX6_turnsFrom_48 : decode cX6_turnsFrom 48 = .ok (.iload 5, 2) := by decide +kernel
theorem dX6_turnsFrom_50 : decode cX6_turnsFrom 50 = .ok (.iastore, 1) := by decide +kernel
theorem dX6_turnsFrom_51 : decode cX6_turnsFrom 51 = .ok (.aload_n 0, 1) := by decide +kernel
theorem dX6_turnsFrom_52 : decode cX6_turnsFrom 52 = .ok (.dup, 1) := by decide +kernel
theorem dX6_turnsFrom_53 : decode cX6_turnsFrom 53 = .ok (.getfield 96, 3) := by decide +kernel
theorem dX6_turnsFrom_56 : decode cX6_turnsFrom 56 = .ok (.iconst 1, 1) := by decide +kernel
theorem dX6_turnsFrom_57 : decode cX6_turnsFrom 57 = .ok (.iadd, 1) := by decide +kernel
theorem dX6_turnsFrom_58 : decode cX6_turnsFrom 58 = .ok (.putfield 96, 3) := by decide +kernel
theorem dX6_turnsFrom_61 : decode cX6_turnsFrom 61 = .ok (.iinc 4 1, 3) := by decide +kernel
theorem dX6_turnsFrom_64 : decode cX6_turnsFrom 64 = .ok (.goto (-51), 3) := by decide +kernel
theorem dX6_turnsFrom_67 : decode cX6_turnsFrom 67 = .ok (.return_, 1) := by decide +kernel
theorem dX6_burntMany_0 : decode cX6_burntMany 0 = .ok (.iconst 0, 1) := by decide +kernel
theorem dX6_burntMany_1 : decode cX6_burntMany 1 = .ok (.istore_n 1, 1) := by decide +kernel
theorem dX6_burntMany_2 : decode cX6_burntMany 2 = .ok (.iconst 0, 1) := by decide +kernel
theorem dX6_burntMany_3 : decode cX6_burntMany 3 = .ok (.istore_n 2, 1) := by decide +kernel
theorem dX6_burntMany_4 : decode cX6_burntMany 4 = .ok (.iload_n 2, 1) := by decide +kernel
theorem dX6_burntMany_5 : decode cX6_burntMany 5 = .ok (.bipush 25, 2) := by decide +kernel
theorem dX6_burntMany_7 : decode cX6_burntMany 7 = .ok (.if_icmp .ge 26, 3) := by decide +kernel
theorem dX6_burntMany_10 : decode cX6_burntMany 10 = .ok (.iload_n 1, 1) := by decide +kernel
theorem dX6_burntMany_11 : decode cX6_burntMany 11 = .ok (.aload_n 0, 1) := by decide +kernel
theorem dX6_burntMany_12 : decode cX6_burntMany 12 = .ok (.getfield 31, 3) := by decide +kernel
theorem dX6_burntMany_15 : decode cX6_burntMany 15 = .ok (.iload_n 2, 1) := by decide +kernel
theorem dX6_burntMany_16 : decode cX6_burntMany 16 = .ok (.iaload, 1) := by decide +kernel
theorem dX6_burntMany_17 : decode cX6_burntMany 17 = .ok (.ifCond .lt 7, 3) := by decide +kernel
theorem dX6_burntMany_20 : decode cX6_burntMany 20 = .ok (.iconst 1, 1) := by decide +kernel
theorem dX6_burntMany_21 : decode cX6_burntMany 21 = .ok (.goto 4, 3) := by decide +kernel
theorem dX6_burntMany_24 : decode cX6_burntMany 24 = .ok (.iconst 0, 1) := by decide +kernel
theorem dX6_burntMany_25 : decode cX6_burntMany 25 = .ok (.iadd, 1) := by decide +kernel
theorem dX6_burntMany_26 : decode cX6_burntMany 26 = .ok (.istore_n 1, 1) := by decide +kernel
theorem dX6_burntMany_27 : decode cX6_burntMany 27 = .ok (.iinc 2 1, 3) := by decide +kernel
theorem dX6_burntMany_30 : decode cX6_burntMany 30 = .ok (.goto (-26), 3) := by decide +kernel
theorem dX6_burntMany_33 : decode cX6_burntMany 33 = .ok (.iload_n 1, 1) := by decide +kernel
theorem dX6_burntMany_34 : decode cX6_burntMany 34 = .ok (.ireturn, 1) := by decide +kernel
theorem dX6_burntWorth_0 : decode cX6_burntWorth 0 = .ok (.iconst 0, 1) := by decide +kernel
theorem dX6_burntWorth_1 : decode cX6_burntWorth 1 = .ok (.istore_n 2, 1) := by decide +kernel
theorem dX6_burntWorth_2 : decode cX6_burntWorth 2 = .ok (.iconst 0, 1) := by decide +kernel
theorem dX6_burntWorth_3 : decode cX6_burntWorth 3 = .ok (.istore_n 3, 1) := by decide +kernel
theorem dX6_burntWorth_4 : decode cX6_burntWorth 4 = .ok (.iload_n 3, 1) := by decide +kernel
theorem dX6_burntWorth_5 : decode cX6_burntWorth 5 = .ok (.bipush 25, 2) := by decide +kernel
theorem dX6_burntWorth_7 : decode cX6_burntWorth 7 = .ok (.if_icmp .ge 30, 3) := by decide +kernel
theorem dX6_burntWorth_10 : decode cX6_burntWorth 10 = .ok (.iload_n 2, 1) := by decide +kernel
theorem dX6_burntWorth_11 : decode cX6_burntWorth 11 = .ok (.aload_n 0, 1) := by decide +kernel
theorem dX6_burntWorth_12 : decode cX6_burntWorth 12 = .ok (.getfield 31, 3) := by decide +kernel
theorem dX6_burntWorth_15 : decode cX6_burntWorth 15 = .ok (.iload_n 3, 1) := by decide +kernel
theorem dX6_burntWorth_16 : decode cX6_burntWorth 16 = .ok (.iaload, 1) := by decide +kernel
theorem dX6_burntWorth_17 : decode cX6_burntWorth 17 = .ok (.ifCond .lt 11, 3) := by decide +kernel
theorem dX6_burntWorth_20 : decode cX6_burntWorth 20 = .ok (.aload_n 1, 1) := by decide +kernel
theorem dX6_burntWorth_21 : decode cX6_burntWorth 21 = .ok (.iload_n 3, 1) := by decide +kernel
theorem dX6_burntWorth_22 : decode cX6_burntWorth 22 = .ok (.invokestatic 85, 3) := by decide +kernel
theorem dX6_burntWorth_25 : decode cX6_burntWorth 25 = .ok (.goto 4, 3) := by decide +kernel
theorem dX6_burntWorth_28 : decode cX6_burntWorth 28 = .ok (.iconst 0, 1) := by decide +kernel
theorem dX6_burntWorth_29 : decode cX6_burntWorth 29 = .ok (.iadd, 1) := by decide +kernel
theorem dX6_burntWorth_30 : decode cX6_burntWorth 30 = .ok (.istore_n 2, 1) := by decide +kernel
theorem dX6_burntWorth_31 : decode cX6_burntWorth 31 = .ok (.iinc 3 1, 3) := by decide +kernel
theorem dX6_burntWorth_34 : decode cX6_burntWorth 34 = .ok (.goto (-30), 3) := by decide +kernel
theorem dX6_burntWorth_37 : decode cX6_burntWorth 37 = .ok (.iload_n 2, 1) := by decide +kernel
theorem dX6_burntWorth_38 : decode cX6_burntWorth 38 = .ok (.ireturn, 1) := by decide +kernel
theorem dX6_worthBy_0 : decode cX6_worthBy 0 = .ok (.aload_n 0, 1) := by decide +kernel
theorem dX6_worthBy_1 : decode cX6_worthBy 1 = .ok (.aload_n 1, 1) := by decide +kernel
theorem dX6_worthBy_2 : decode cX6_worthBy 2 = .ok (.iload_n 3, 1) := by decide +kernel
theorem dX6_worthBy_3 : decode cX6_worthBy 3 = .ok (.bipush (-9), 2) := by decide +kernel
theorem dX6_worthBy_5 : decode cX6_worthBy 5 = .ok (.invokevirtual 106, 3) := by decide +kernel
theorem dX6_worthBy_8 : decode cX6_worthBy 8 = .ok (.aload_n 0, 1) := by decide +kernel
theorem dX6_worthBy_9 : decode cX6_worthBy 9 = .ok (.aload_n 1, 1) := by decide +kernel
theorem dX6_worthBy_10 : decode cX6_worthBy 10 = .ok (.iload_n 2, 1) := by decide +kernel
theorem dX6_worthBy_11 : decode cX6_worthBy 11 = .ok (.invokevirtual 110, 3) := by decide +kernel
theorem dX6_worthBy_14 : decode cX6_worthBy 14 = .ok (.aload_n 0, 1) := by decide +kernel
theorem dX6_worthBy_15 : decode cX6_worthBy 15 = .ok (.aload_n 1, 1) := by decide +kernel
theorem dX6_worthBy_16 : decode cX6_worthBy 16 = .ok (.invokevirtual 114, 3) := by decide +kernel
theorem dX6_worthBy_19 : decode cX6_worthBy 19 = .ok (.ireturn, 1) := by decide +kernel
theorem dX6_letter_0 : decode cX6_letter 0 = .ok (.iload_n 1, 1) := by decide +kernel
theorem dX6_letter_1 : decode cX6_letter 1 = .ok (.ifCond .ge 10, 3) := by decide +kernel
theorem dX6_letter_4 : decode cX6_letter 4 = .ok (.aload_n 0, 1) := by decide +kernel
theorem dX6_letter_5 : decode cX6_letter 5 = .ok (.bipush (-4), 2) := by decide +kernel
theorem dX6_letter_7 : decode cX6_letter 7 = .ok (.invokevirtual 51, 3) := by decide +kernel
theorem dX6_letter_10 : decode cX6_letter 10 = .ok (.ireturn, 1) := by decide +kernel
theorem dX6_letter_11 : decode cX6_letter 11 = .ok (.iload_n 1, 1) := by decide +kernel
theorem dX6_letter_12 : decode cX6_letter 12 = .ok (.sipush 255, 3) := by decide +kernel
theorem dX6_letter_15 : decode cX6_letter 15 = .ok (.if_icmp .gt 12, 3) := by decide +kernel
theorem dX6_letter_18 : decode cX6_letter 18 = .ok (.aload_n 0, 1) := by decide +kernel
theorem dX6_letter_19 : decode cX6_letter 19 = .ok (.getfield 118, 3) := by decide +kernel
theorem dX6_letter_22 : decode cX6_letter 22 = .ok (.bipush 96, 2) := by decide +kernel
theorem dX6_letter_24 : decode cX6_letter 24 = .ok (.if_icmp .ne 10, 3) := by decide +kernel
theorem dX6_letter_27 : decode cX6_letter 27 = .ok (.aload_n 0, 1) := by decide +kernel
theorem dX6_letter_28 : decode cX6_letter 28 = .ok (.bipush (-6), 2) := by decide +kernel
theorem dX6_letter_30 : decode cX6_letter 30 = .ok (.invokevirtual 51, 3) := by decide +kernel
theorem dX6_letter_33 : decode cX6_letter 33 = .ok (.ireturn, 1) := by decide +kernel
theorem dX6_letter_34 : decode cX6_letter 34 = .ok (.aload_n 0, 1) := by decide +kernel
theorem dX6_letter_35 : decode cX6_letter 35 = .ok (.getfield 22, 3) := by decide +kernel
theorem dX6_letter_38 : decode cX6_letter 38 = .ok (.aload_n 0, 1) := by decide +kernel
theorem dX6_letter_39 : decode cX6_letter 39 = .ok (.getfield 118, 3) := by decide +kernel
theorem dX6_letter_42 : decode cX6_letter 42 = .ok (.iload_n 1, 1) := by decide +kernel
theorem dX6_letter_43 : decode cX6_letter 43 = .ok (.iastore, 1) := by decide +kernel
theorem dX6_letter_44 : decode cX6_letter 44 = .ok (.aload_n 0, 1) := by decide +kernel
theorem dX6_letter_45 : decode cX6_letter 45 = .ok (.dup, 1) := by decide +kernel
theorem dX6_letter_46 : decode cX6_letter 46 = .ok (.getfield 118, 3) := by decide +kernel
theorem dX6_letter_49 : decode cX6_letter 49 = .ok (.iconst 1, 1) := by decide +kernel
theorem dX6_letter_50 : decode cX6_letter 50 = .ok (.iadd, 1) := by decide +kernel
theorem dX6_letter_51 : decode cX6_letter 51 = .ok (.putfield 118, 3) := by decide +kernel
theorem dX6_letter_54 : decode cX6_letter 54 = .ok (.aload_n 0, 1) := by decide +kernel
theorem dX6_letter_55 : decode cX6_letter 55 = .ok (.getfield 118, 3) := by decide +kernel
theorem dX6_letter_58 : decode cX6_letter 58 = .ok (.ireturn, 1) := by decide +kernel
theorem dX6_here_0 : decode cX6_here 0 = .ok (.aload_n 0, 1) := by decide +kernel
theorem dX6_here_1 : decode cX6_here 1 = .ok (.getfield 121, 3) := by decide +kernel
theorem dX6_here_4 : decode cX6_here 4 = .ok (.aload_n 0, 1) := by decide +kernel
theorem dX6_here_5 : decode cX6_here 5 = .ok (.getfield 118, 3) := by decide +kernel
theorem dX6_here_8 : decode cX6_here 8 = .ok (.if_icmp .ge 15, 3) := by decide +kernel
theorem dX6_here_11 : decode cX6_here 11 = .ok (.aload_n 0, 1) := by decide +kernel
theorem dX6_here_12 : decode cX6_here 12 = .ok (.getfield 22, 3) := by decide +kernel
theorem dX6_here_15 : decode cX6_here 15 = .ok (.aload_n 0, 1) := by decide +kernel
theorem dX6_here_16 : decode cX6_here 16 = .ok (.getfield 121, 3) := by decide +kernel
theorem dX6_here_19 : decode cX6_here 19 = .ok (.iaload, 1) := by decide +kernel
theorem dX6_here_20 : decode cX6_here 20 = .ok (.goto 4, 3) := by decide +kernel
theorem dX6_here_23 : decode cX6_here 23 = .ok (.iconst (-1), 1) := by decide +kernel
theorem dX6_here_24 : decode cX6_here 24 = .ok (.ireturn, 1) := by decide +kernel
theorem dX6_readsNumber_0 : decode cX6_readsNumber 0 = .ok (.aload_n 0, 1) := by decide +kernel
theorem dX6_readsNumber_1 : decode cX6_readsNumber 1 = .ok (.getfield 46, 3) := by decide +kernel
theorem dX6_readsNumber_4 : decode cX6_readsNumber 4 = .ok (.iload_n 1, 1) := by decide +kernel
theorem dX6_readsNumber_5 : decode cX6_readsNumber 5 = .ok (.iconst 0, 1) := by decide +kernel
theorem dX6_readsNumber_6 : decode cX6_readsNumber 6 = .ok (.iastore, 1) := by decide +kernel
theorem dX6_readsNumber_7 : decode cX6_readsNumber 7 = .ok (.iconst 0, 1) := by decide +kernel
theorem dX6_readsNumber_8 : decode cX6_readsNumber 8 = .ok (.istore_n 3, 1) := by decide +kernel
theorem dX6_readsNumber_9 : decode cX6_readsNumber 9 = .ok (.iload_n 3, 1) := by decide +kernel
theorem dX6_readsNumber_10 : decode cX6_readsNumber 10 = .ok (.iload_n 2, 1) := by decide +kernel
theorem dX6_readsNumber_11 : decode cX6_readsNumber 11 = .ok (.if_icmp .ge 58, 3) := by decide +kernel
theorem dX6_readsNumber_14 : decode cX6_readsNumber 14 = .ok (.aload_n 0, 1) := by decide +kernel
theorem dX6_readsNumber_15 : decode cX6_readsNumber 15 = .ok (.invokevirtual 124, 3) := by decide +kernel
theorem dX6_readsNumber_18 : decode cX6_readsNumber 18 = .ok (.bipush 48, 2) := by decide +kernel
theorem dX6_readsNumber_20 : decode cX6_readsNumber 20 = .ok (.bipush 57, 2) := by decide +kernel
theorem dX6_readsNumber_22 : decode cX6_readsNumber 22 = .ok (.invokestatic 55, 3) := by decide +kernel
theorem dX6_readsNumber_25 : decode cX6_readsNumber 25 = .ok (.ifCond .ne 5, 3) := by decide +kernel
theorem dX6_readsNumber_28 : decode cX6_readsNumber 28 = .ok (.iconst 0, 1) := by decide +kernel
theorem dX6_readsNumber_29 : decode cX6_readsNumber 29 = .ok (.ireturn, 1) := by decide +kernel
theorem dX6_readsNumber_30 : decode cX6_readsNumber 30 = .ok (.aload_n 0, 1) := by decide +kernel
theorem dX6_readsNumber_31 : decode cX6_readsNumber 31 = .ok (.getfield 46, 3) := by decide +kernel
theorem dX6_readsNumber_34 : decode cX6_readsNumber 34 = .ok (.iload_n 1, 1) := by decide +kernel
theorem dX6_readsNumber_35 : decode cX6_readsNumber 35 = .ok (.bipush 10, 2) := by decide +kernel
theorem dX6_readsNumber_37 : decode cX6_readsNumber 37 = .ok (.aload_n 0, 1) := by decide +kernel
theorem dX6_readsNumber_38 : decode cX6_readsNumber 38 = .ok (.getfield 46, 3) := by decide +kernel
theorem dX6_readsNumber_41 : decode cX6_readsNumber 41 = .ok (.iload_n 1, 1) := by decide +kernel
theorem dX6_readsNumber_42 : decode cX6_readsNumber 42 = .ok (.iaload, 1) := by decide +kernel
theorem dX6_readsNumber_43 : decode cX6_readsNumber 43 = .ok (.imul, 1) := by decide +kernel
theorem dX6_readsNumber_44 : decode cX6_readsNumber 44 = .ok (.aload_n 0, 1) := by decide +kernel
theorem dX6_readsNumber_45 : decode cX6_readsNumber 45 = .ok (.invokevirtual 124, 3) := by decide +kernel
theorem dX6_readsNumber_48 : decode cX6_readsNumber 48 = .ok (.iadd, 1) := by decide +kernel
theorem dX6_readsNumber_49 : decode cX6_readsNumber 49 = .ok (.bipush 48, 2) := by decide +kernel
theorem dX6_readsNumber_51 : decode cX6_readsNumber 51 = .ok (.isub, 1) := by decide +kernel
theorem dX6_readsNumber_52 : decode cX6_readsNumber 52 = .ok (.iastore, 1) := by decide +kernel
theorem dX6_readsNumber_53 : decode cX6_readsNumber 53 = .ok (.aload_n 0, 1) := by decide +kernel
theorem dX6_readsNumber_54 : decode cX6_readsNumber 54 = .ok (.dup, 1) := by decide +kernel
theorem dX6_readsNumber_55 : decode cX6_readsNumber 55 = .ok (.getfield 121, 3) := by decide +kernel
theorem dX6_readsNumber_58 : decode cX6_readsNumber 58 = .ok (.iconst 1, 1) := by decide +kernel
theorem dX6_readsNumber_59 : decode cX6_readsNumber 59 = .ok (.iadd, 1) := by decide +kernel
theorem dX6_readsNumber_60 : decode cX6_readsNumber 60 = .ok (.putfield 121, 3) := by decide +kernel
theorem dX6_readsNumber_63 : decode cX6_readsNumber 63 = .ok (.iinc 3 1, 3) := by decide +kernel
theorem dX6_readsNumber_66 : decode cX6_readsNumber 66 = .ok (.goto (-57), 3) := by decide +kernel
theorem dX6_readsNumber_69 : decode cX6_readsNumber 69 = .ok (.iconst 1, 1) := by decide +kernel
theorem dX6_readsNumber_70 : decode cX6_readsNumber 70 = .ok (.ireturn, 1) := by decide +kernel
theorem dX6_kindBy_0 : decode cX6_kindBy 0 = .ok (.iload_n 0, 1) := by decide +kernel
theorem dX6_kindBy_1 : decode cX6_kindBy 1 = .ok (.tableswitch 107 100 119 #[105, 107, 107, 107, 107, 107, 107, 107, 97, 107, 107, 107, 101, 107, 107, 99, 95, 107, 107, 103], 95) := by decide +kernel
theorem dX6_kindBy_96 : decode cX6_kindBy 96 = .ok (.iconst 0, 1) := by decide +kernel
theorem dX6_kindBy_97 : decode cX6_kindBy 97 = .ok (.ireturn, 1) := by decide +kernel
theorem dX6_kindBy_98 : decode cX6_kindBy 98 = .ok (.iconst 1, 1) := by decide +kernel
theorem dX6_kindBy_99 : decode cX6_kindBy 99 = .ok (.ireturn, 1) := by decide +kernel
theorem dX6_kindBy_100 : decode cX6_kindBy 100 = .ok (.iconst 2, 1) := by decide +kernel
theorem dX6_kindBy_101 : decode cX6_kindBy 101 = .ok (.ireturn, 1) := by decide +kernel
theorem dX6_kindBy_102 : decode cX6_kindBy 102 = .ok (.iconst 3, 1) := by decide +kernel
theorem dX6_kindBy_103 : decode cX6_kindBy 103 = .ok (.ireturn, 1) := by decide +kernel
theorem dX6_kindBy_104 : decode cX6_kindBy 104 = .ok (.iconst 4, 1) := by decide +kernel
theorem dX6_kindBy_105 : decode cX6_kindBy 105 = .ok (.ireturn, 1) := by decide +kernel
theorem dX6_kindBy_106 : decode cX6_kindBy 106 = .ok (.iconst 5, 1) := by decide +kernel
theorem dX6_kindBy_107 : decode cX6_kindBy 107 = .ok (.ireturn, 1) := by decide +kernel
theorem dX6_kindBy_108 : decode cX6_kindBy 108 = .ok (.bipush (-9), 2) := by decide +kernel
theorem dX6_kindBy_110 : decode cX6_kindBy 110 = .ok (.ireturn, 1) := by decide +kernel
theorem dX6_readsKind_0 : decode cX6_readsKind 0 = .ok (.aload_n 0, 1) := by decide +kernel
theorem dX6_readsKind_1 : decode cX6_readsKind 1 = .ok (.getfield 46, 3) := by decide +kernel
theorem dX6_readsKind_4 : decode cX6_readsKind 4 = .ok (.iconst 0, 1) := by decide +kernel
theorem dX6_readsKind_5 : decode cX6_readsKind 5 = .ok (.aload_n 0, 1) := by decide +kernel
theorem dX6_readsKind_6 : decode cX6_readsKind 6 = .ok (.invokevirtual 124, 3) := by decide +kernel
theorem dX6_readsKind_9 : decode cX6_readsKind 9 = .ok (.invokestatic 128, 3) := by decide +kernel
theorem dX6_readsKind_12 : decode cX6_readsKind 12 = .ok (.iastore, 1) := by decide +kernel
theorem dX6_readsKind_13 : decode cX6_readsKind 13 = .ok (.aload_n 0, 1) := by decide +kernel
theorem dX6_readsKind_14 : decode cX6_readsKind 14 = .ok (.dup, 1) := by decide +kernel
theorem dX6_readsKind_15 : decode cX6_readsKind 15 = .ok (.getfield 121, 3) := by decide +kernel
theorem dX6_readsKind_18 : decode cX6_readsKind 18 = .ok (.aload_n 0, 1) := by decide +kernel
theorem dX6_readsKind_19 : decode cX6_readsKind 19 = .ok (.getfield 46, 3) := by decide +kernel
theorem dX6_readsKind_22 : decode cX6_readsKind 22 = .ok (.iconst 0, 1) := by decide +kernel
theorem dX6_readsKind_23 : decode cX6_readsKind 23 = .ok (.iaload, 1) := by decide +kernel
theorem dX6_readsKind_24 : decode cX6_readsKind 24 = .ok (.ifCond .ge 7, 3) := by decide +kernel
theorem dX6_readsKind_27 : decode cX6_readsKind 27 = .ok (.iconst 0, 1) := by decide +kernel
theorem dX6_readsKind_28 : decode cX6_readsKind 28 = .ok (.goto 4, 3) := by decide +kernel
theorem dX6_readsKind_31 : decode cX6_readsKind 31 = .ok (.iconst 1, 1) := by decide +kernel
theorem dX6_readsKind_32 : decode cX6_readsKind 32 = .ok (.iadd, 1) := by decide +kernel
theorem dX6_readsKind_33 : decode cX6_readsKind 33 = .ok (.putfield 121, 3) := by decide +kernel
theorem dX6_readsKind_36 : decode cX6_readsKind 36 = .ok (.aload_n 0, 1) := by decide +kernel
theorem dX6_readsKind_37 : decode cX6_readsKind 37 = .ok (.getfield 46, 3) := by decide +kernel
theorem dX6_readsKind_40 : decode cX6_readsKind 40 = .ok (.iconst 0, 1) := by decide +kernel
theorem dX6_readsKind_41 : decode cX6_readsKind 41 = .ok (.iaload, 1) := by decide +kernel
theorem dX6_readsKind_42 : decode cX6_readsKind 42 = .ok (.ifCond .lt 7, 3) := by decide +kernel
theorem dX6_readsKind_45 : decode cX6_readsKind 45 = .ok (.iconst 1, 1) := by decide +kernel
theorem dX6_readsKind_46 : decode cX6_readsKind 46 = .ok (.goto 4, 3) := by decide +kernel
theorem dX6_readsKind_49 : decode cX6_readsKind 49 = .ok (.iconst 0, 1) := by decide +kernel
theorem dX6_readsKind_50 : decode cX6_readsKind 50 = .ok (.ireturn, 1) := by decide +kernel
theorem dX6_readsStatement_0 : decode cX6_readsStatement 0 = .ok (.aload_n 0, 1) := by decide +kernel
theorem dX6_readsStatement_1 : decode cX6_readsStatement 1 = .ok (.invokevirtual 124, 3) := by decide +kernel
theorem dX6_readsStatement_4 : decode cX6_readsStatement 4 = .ok (.istore_n 1, 1) := by decide +kernel
theorem dX6_readsStatement_5 : decode cX6_readsStatement 5 = .ok (.aload_n 0, 1) := by decide +kernel
theorem dX6_readsStatement_6 : decode cX6_readsStatement 6 = .ok (.dup, 1) := by decide +kernel
theorem dX6_readsStatement_7 : decode cX6_readsStatement 7 = .ok (.getfield 121, 3) := by decide +kernel
theorem dX6_readsStatement_10 : decode cX6_readsStatement 10 = .ok (.iconst 1, 1) := by decide +kernel
theorem dX6_readsStatement_11 : decode cX6_readsStatement 11 = .ok (.iadd, 1) := by decide +kernel
theorem dX6_readsStatement_12 : decode cX6_readsStatement 12 = .ok (.putfield 121, 3) := by decide +kernel
theorem dX6_readsStatement_15 : decode cX6_readsStatement 15 = .ok (.iload_n 1, 1) := by decide +kernel
theorem dX6_readsStatement_16 : decode cX6_readsStatement 16 = .ok (.tableswitch 218 107 118 #[163, 218, 218, 208, 218, 153, 218, 64, 218, 218, 218, 110], 64) := by decide +kernel
theorem dX6_readsStatement_80 : decode cX6_readsStatement 80 = .ok (.aload_n 0, 1) := by decide +kernel
theorem dX6_readsStatement_81 : decode cX6_readsStatement 81 = .ok (.invokevirtual 131, 3) := by decide +kernel
theorem dX6_readsStatement_84 : decode cX6_readsStatement 84 = .ok (.ifCond .eq 25, 3) := by decide +kernel
theorem dX6_readsStatement_87 : decode cX6_readsStatement 87 = .ok (.aload_n 0, 1) := by decide +kernel
theorem dX6_readsStatement_88 : decode cX6_readsStatement 88 = .ok (.iconst 1, 1) := by decide +kernel
theorem dX6_readsStatement_89 : decode cX6_readsStatement 89 = .ok (.iconst 2, 1) := by decide +kernel
theorem dX6_readsStatement_90 : decode cX6_readsStatement 90 = .ok (.invokevirtual 134, 3) := by decide +kernel
theorem dX6_readsStatement_93 : decode cX6_readsStatement 93 = .ok (.ifCond .eq 16, 3) := by decide +kernel
theorem dX6_readsStatement_96 : decode cX6_readsStatement 96 = .ok (.aload_n 0, 1) := by decide +kernel
theorem dX6_readsStatement_97 : decode cX6_readsStatement 97 = .ok (.iconst 3, 1) := by decide +kernel
theorem dX6_readsStatement_98 : decode cX6_readsStatement 98 = .ok (.iconst 1, 1) := by decide +kernel
theorem dX6_readsStatement_99 : decode cX6_readsStatement 99 = .ok (.invokevirtual 134, 3) := by decide +kernel
theorem dX6_readsStatement_102 : decode cX6_readsStatement 102 = .ok (.ifCond .eq 7, 3) := by decide +kernel
theorem dX6_readsStatement_105 : decode cX6_readsStatement 105 = .ok (.iconst 1, 1) := by decide +kernel
theorem dX6_readsStatement_106 : decode cX6_readsStatement 106 = .ok (.goto 4, 3) := by decide +kernel
theorem dX6_readsStatement_109 : decode cX6_readsStatement 109 = .ok (.iconst 0, 1) := by decide +kernel
theorem dX6_readsStatement_110 : decode cX6_readsStatement 110 = .ok (.istore_n 2, 1) := by decide +kernel
theorem dX6_readsStatement_111 : decode cX6_readsStatement 111 = .ok (.aload_n 0, 1) := by decide +kernel
theorem dX6_readsStatement_112 : decode cX6_readsStatement 112 = .ok (.getfield 46, 3) := by decide +kernel
theorem dX6_readsStatement_115 : decode cX6_readsStatement 115 = .ok (.iconst 2, 1) := by decide +kernel
theorem dX6_readsStatement_116 : decode cX6_readsStatement 116 = .ok (.aload_n 0, 1) := by decide +kernel
theorem dX6_readsStatement_117 : decode cX6_readsStatement 117 = .ok (.getfield 46, 3) := by decide +kernel
theorem dX6_readsStatement_120 : decode cX6_readsStatement 120 = .ok (.iconst 1, 1) := by decide +kernel
theorem dX6_readsStatement_121 : decode cX6_readsStatement 121 = .ok (.iaload, 1) := by decide +kernel
theorem dX6_readsStatement_122 : decode cX6_readsStatement 122 = .ok (.iastore, 1) := by decide +kernel
theorem dX6_readsStatement_123 : decode cX6_readsStatement 123 = .ok (.goto 123, 3) := by decide +kernel
theorem dX6_readsStatement_126 : decode cX6_readsStatement 126 = .ok (.aload_n 0, 1) := by decide +kernel
theorem dX6_readsStatement_127 : decode cX6_readsStatement 127 = .ok (.invokevirtual 131, 3) := by decide +kernel
theorem dX6_readsStatement_130 : decode cX6_readsStatement 130 = .ok (.ifCond .eq 34, 3) := by decide +kernel
theorem dX6_readsStatement_133 : decode cX6_readsStatement 133 = .ok (.aload_n 0, 1) := by decide +kernel
theorem dX6_readsStatement_134 : decode cX6_readsStatement 134 = .ok (.iconst 1, 1) := by decide +kernel
theorem dX6_readsStatement_135 : decode cX6_readsStatement 135 = .ok (.iconst 2, 1) := by decide +kernel
theorem dX6_readsStatement_136 : decode cX6_readsStatement 136 = .ok (.invokevirtual 134, 3) := by decide +kernel
theorem dX6_readsStatement_139 : decode cX6_readsStatement 139 = .ok (.ifCond .eq 25, 3) := by decide +kernel
theorem dX6_readsStatement_142 : decode cX6_readsStatement 142 = .ok (.aload_n 0, 1) := by decide +kernel
theorem dX6_readsStatement_143 : decode cX6_readsStatement 143 = .ok (.iconst 2, 1) := by decide +kernel
theorem dX6_readsStatement_144 : decode cX6_readsStatement 144 = .ok (.iconst 2, 1) := by decide +kernel
theorem dX6_readsStatement_145 : decode cX6_readsStatement 145 = .ok (.invokevirtual 134, 3) := by decide +kernel
theorem dX6_readsStatement_148 : decode cX6_readsStatement 148 = .ok (.ifCond .eq 16, 3) := by decide +kernel
theorem dX6_readsStatement_151 : decode cX6_readsStatement 151 = .ok (.aload_n 0, 1) := by decide +kernel
theorem dX6_readsStatement_152 : decode cX6_readsStatement 152 = .ok (.iconst 3, 1) := by decide +kernel
theorem dX6_readsStatement_153 : decode cX6_readsStatement 153 = .ok (.iconst 1, 1) := by decide +kernel
theorem dX6_readsStatement_154 : decode cX6_readsStatement 154 = .ok (.invokevirtual 134, 3) := by decide +kernel
theorem dX6_readsStatement_157 : decode cX6_readsStatement 157 = .ok (.ifCond .eq 7, 3) := by decide +kernel
theorem dX6_readsStatement_160 : decode cX6_readsStatement 160 = .ok (.iconst 1, 1) := by decide +kernel
theorem dX6_readsStatement_161 : decode cX6_readsStatement 161 = .ok (.goto 4, 3) := by decide +kernel
theorem dX6_readsStatement_164 : decode cX6_readsStatement 164 = .ok (.iconst 0, 1) := by decide +kernel
theorem dX6_readsStatement_165 : decode cX6_readsStatement 165 = .ok (.istore_n 2, 1) := by decide +kernel
theorem dX6_readsStatement_166 : decode cX6_readsStatement 166 = .ok (.goto 80, 3) := by decide +kernel
theorem dX6_readsStatement_169 : decode cX6_readsStatement 169 = .ok (.aload_n 0, 1) := by decide +kernel
theorem dX6_readsStatement_170 : decode cX6_readsStatement 170 = .ok (.iconst 0, 1) := by decide +kernel
theorem dX6_readsStatement_171 : decode cX6_readsStatement 171 = .ok (.iconst 1, 1) := by decide +kernel
theorem dX6_readsStatement_172 : decode cX6_readsStatement 172 = .ok (.invokevirtual 134, 3) := by decide +kernel
theorem dX6_readsStatement_175 : decode cX6_readsStatement 175 = .ok (.istore_n 2, 1) := by decide +kernel
theorem dX6_readsStatement_176 : decode cX6_readsStatement 176 = .ok (.goto 70, 3) := by decide +kernel
theorem dX6_readsStatement_179 : decode cX6_readsStatement 179 = .ok (.aload_n 0, 1) := by decide +kernel
theorem dX6_readsStatement_180 : decode cX6_readsStatement 180 = .ok (.iconst 0, 1) := by decide +kernel
theorem dX6_readsStatement_181 : decode cX6_readsStatement 181 = .ok (.iconst 1, 1) := by decide +kernel
theorem dX6_readsStatement_182 : decode cX6_readsStatement 182 = .ok (.invokevirtual 134, 3) := by decide +kernel
theorem dX6_readsStatement_185 : decode cX6_readsStatement 185 = .ok (.ifCond .eq 34, 3) := by decide +kernel
theorem dX6_readsStatement_188 : decode cX6_readsStatement 188 = .ok (.aload_n 0, 1) := by decide +kernel
theorem dX6_readsStatement_189 : decode cX6_readsStatement 189 = .ok (.iconst 1, 1) := by decide +kernel
theorem dX6_readsStatement_190 : decode cX6_readsStatement 190 = .ok (.iconst 2, 1) := by decide +kernel
theorem dX6_readsStatement_191 : decode cX6_readsStatement 191 = .ok (.invokevirtual 134, 3) := by decide +kernel
theorem dX6_readsStatement_194 : decode cX6_readsStatement 194 = .ok (.ifCond .eq 25, 3) := by decide +kernel
theorem dX6_readsStatement_197 : decode cX6_readsStatement 197 = .ok (.aload_n 0, 1) := by decide +kernel
theorem dX6_readsStatement_198 : decode cX6_readsStatement 198 = .ok (.iconst 2, 1) := by decide +kernel
theorem dX6_readsStatement_199 : decode cX6_readsStatement 199 = .ok (.iconst 2, 1) := by decide +kernel
theorem dX6_readsStatement_200 : decode cX6_readsStatement 200 = .ok (.invokevirtual 134, 3) := by decide +kernel
theorem dX6_readsStatement_203 : decode cX6_readsStatement 203 = .ok (.ifCond .eq 16, 3) := by decide +kernel
theorem dX6_readsStatement_206 : decode cX6_readsStatement 206 = .ok (.aload_n 0, 1) := by decide +kernel
theorem dX6_readsStatement_207 : decode cX6_readsStatement 207 = .ok (.iconst 3, 1) := by decide +kernel
theorem dX6_readsStatement_208 : decode cX6_readsStatement 208 = .ok (.iconst 1, 1) := by decide +kernel
theorem dX6_readsStatement_209 : decode cX6_readsStatement 209 = .ok (.invokevirtual 134, 3) := by decide +kernel
theorem dX6_readsStatement_212 : decode cX6_readsStatement 212 = .ok (.ifCond .eq 7, 3) := by decide +kernel
theorem dX6_readsStatement_215 : decode cX6_readsStatement 215 = .ok (.iconst 1, 1) := by decide +kernel
theorem dX6_readsStatement_216 : decode cX6_readsStatement 216 = .ok (.goto 4, 3) := by decide +kernel
theorem dX6_readsStatement_219 : decode cX6_readsStatement 219 = .ok (.iconst 0, 1) := by decide +kernel
theorem dX6_readsStatement_220 : decode cX6_readsStatement 220 = .ok (.istore_n 2, 1) := by decide +kernel
theorem dX6_readsStatement_221 : decode cX6_readsStatement 221 = .ok (.goto 25, 3) := by decide +kernel
theorem dX6_readsStatement_224 : decode cX6_readsStatement 224 = .ok (.aload_n 0, 1) := by decide +kernel
theorem dX6_readsStatement_225 : decode cX6_readsStatement 225 = .ok (.iconst 0, 1) := by decide +kernel
theorem dX6_readsStatement_226 : decode cX6_readsStatement 226 = .ok (.iconst 2, 1) := by decide +kernel
theorem dX6_readsStatement_227 : decode cX6_readsStatement 227 = .ok (.invokevirtual 134, 3) := by decide +kernel
theorem dX6_readsStatement_230 : decode cX6_readsStatement 230 = .ok (.istore_n 2, 1) := by decide +kernel
theorem dX6_readsStatement_231 : decode cX6_readsStatement 231 = .ok (.goto 15, 3) := by decide +kernel
theorem dX6_readsStatement_234 : decode cX6_readsStatement 234 = .ok (.aload_n 0, 1) := by decide +kernel
theorem dX6_readsStatement_235 : decode cX6_readsStatement 235 = .ok (.dup, 1) := by decide +kernel
theorem dX6_readsStatement_236 : decode cX6_readsStatement 236 = .ok (.getfield 121, 3) := by decide +kernel
theorem dX6_readsStatement_239 : decode cX6_readsStatement 239 = .ok (.iconst 1, 1) := by decide +kernel
theorem dX6_readsStatement_240 : decode cX6_readsStatement 240 = .ok (.isub, 1) := by decide +kernel
theorem dX6_readsStatement_241 : decode cX6_readsStatement 241 = .ok (.putfield 121, 3) := by decide +kernel
theorem dX6_readsStatement_244 : decode cX6_readsStatement 244 = .ok (.iconst 0, 1) := by decide +kernel
theorem dX6_readsStatement_245 : decode cX6_readsStatement 245 = .ok (.ireturn, 1) := by decide +kernel
theorem dX6_readsStatement_246 : decode cX6_readsStatement 246 = .ok (.iload_n 2, 1) := by decide +kernel
theorem dX6_readsStatement_247 : decode cX6_readsStatement 247 = .ok (.ifCond .eq 12, 3) := by decide +kernel
theorem dX6_readsStatement_250 : decode cX6_readsStatement 250 = .ok (.aload_n 0, 1) := by decide +kernel
theorem dX6_readsStatement_251 : decode cX6_readsStatement 251 = .ok (.invokevirtual 124, 3) := by decide +kernel
theorem dX6_readsStatement_254 : decode cX6_readsStatement 254 = .ok (.bipush 59, 2) := by decide +kernel
theorem dX6_readsStatement_256 : decode cX6_readsStatement 256 = .ok (.if_icmp .eq 5, 3) := by decide +kernel
theorem dX6_readsStatement_259 : decode cX6_readsStatement 259 = .ok (.iconst 0, 1) := by decide +kernel
theorem dX6_readsStatement_260 : decode cX6_readsStatement 260 = .ok (.ireturn, 1) := by decide +kernel
theorem dX6_readsStatement_261 : decode cX6_readsStatement 261 = .ok (.aload_n 0, 1) := by decide +kernel
theorem dX6_readsStatement_262 : decode cX6_readsStatement 262 = .ok (.dup, 1) := by decide +kernel
theorem dX6_readsStatement_263 : decode cX6_readsStatement 263 = .ok (.getfield 121, 3) := by decide +kernel
theorem dX6_readsStatement_266 : decode cX6_readsStatement 266 = .ok (.iconst 1, 1) := by decide +kernel
theorem dX6_readsStatement_267 : decode cX6_readsStatement 267 = .ok (.iadd, 1) := by decide +kernel
theorem dX6_readsStatement_268 : decode cX6_readsStatement 268 = .ok (.putfield 121, 3) := by decide +kernel
theorem dX6_readsStatement_271 : decode cX6_readsStatement 271 = .ok (.iconst 1, 1) := by decide +kernel
theorem dX6_readsStatement_272 : decode cX6_readsStatement 272 = .ok (.ireturn, 1) := by decide +kernel
theorem dX6_isDone_0 : decode cX6_isDone 0 = .ok (.aload_n 0, 1) := by decide +kernel
theorem dX6_isDone_1 : decode cX6_isDone 1 = .ok (.getfield 46, 3) := by decide +kernel
theorem dX6_isDone_4 : decode cX6_isDone 4 = .ok (.iconst 0, 1) := by decide +kernel
theorem dX6_isDone_5 : decode cX6_isDone 5 = .ok (.iaload, 1) := by decide +kernel
theorem dX6_isDone_6 : decode cX6_isDone 6 = .ok (.istore_n 2, 1) := by decide +kernel
theorem dX6_isDone_7 : decode cX6_isDone 7 = .ok (.aload_n 0, 1) := by decide +kernel
theorem dX6_isDone_8 : decode cX6_isDone 8 = .ok (.getfield 46, 3) := by decide +kernel
theorem dX6_isDone_11 : decode cX6_isDone 11 = .ok (.iconst 1, 1) := by decide +kernel
theorem dX6_isDone_12 : decode cX6_isDone 12 = .ok (.iaload, 1) := by decide +kernel
theorem dX6_isDone_13 : decode cX6_isDone 13 = .ok (.aload_n 0, 1) := by decide +kernel
theorem dX6_isDone_14 : decode cX6_isDone 14 = .ok (.getfield 46, 3) := by decide +kernel
theorem dX6_isDone_17 : decode cX6_isDone 17 = .ok (.iconst 2, 1) := by decide +kernel
theorem dX6_isDone_18 : decode cX6_isDone 18 = .ok (.iaload, 1) := by decide +kernel
theorem dX6_isDone_19 : decode cX6_isDone 19 = .ok (.if_icmp .gt 19, 3) := by decide +kernel
theorem dX6_isDone_22 : decode cX6_isDone 22 = .ok (.aload_n 0, 1) := by decide +kernel
theorem dX6_isDone_23 : decode cX6_isDone 23 = .ok (.getfield 46, 3) := by decide +kernel
theorem dX6_isDone_26 : decode cX6_isDone 26 = .ok (.iconst 2, 1) := by decide +kernel
theorem dX6_isDone_27 : decode cX6_isDone 27 = .ok (.iaload, 1) := by decide +kernel
theorem dX6_isDone_28 : decode cX6_isDone 28 = .ok (.invokestatic 138, 3) := by decide +kernel
theorem dX6_isDone_31 : decode cX6_isDone 31 = .ok (.ifCond .eq 7, 3) := by decide +kernel
theorem dX6_isDone_34 : decode cX6_isDone 34 = .ok (.iconst 1, 1) := by decide +kernel
theorem dX6_isDone_35 : decode cX6_isDone 35 = .ok (.goto 4, 3) := by decide +kernel
theorem dX6_isDone_38 : decode cX6_isDone 38 = .ok (.iconst 0, 1) := by decide +kernel
theorem dX6_isDone_39 : decode cX6_isDone 39 = .ok (.istore_n 3, 1) := by decide +kernel
theorem dX6_isDone_40 : decode cX6_isDone 40 = .ok (.iload_n 1, 1) := by decide +kernel
theorem dX6_isDone_41 : decode cX6_isDone 41 = .ok (.lookupswitch 236 #[(107, 178), (112, 102), (114, 43), (118, 43)], 43) := by decide +kernel
theorem dX6_isDone_84 : decode cX6_isDone 84 = .ok (.iload_n 3, 1) := by decide +kernel
theorem dX6_isDone_85 : decode cX6_isDone 85 = .ok (.ifCond .ne 5, 3) := by decide +kernel
theorem dX6_isDone_88 : decode cX6_isDone 88 = .ok (.iconst 0, 1) := by decide +kernel
theorem dX6_isDone_89 : decode cX6_isDone 89 = .ok (.ireturn, 1) := by decide +kernel
theorem dX6_isDone_90 : decode cX6_isDone 90 = .ok (.aload_n 0, 1) := by decide +kernel
theorem dX6_isDone_91 : decode cX6_isDone 91 = .ok (.getfield 46, 3) := by decide +kernel
theorem dX6_isDone_94 : decode cX6_isDone 94 = .ok (.iconst 1, 1) := by decide +kernel
theorem dX6_isDone_95 : decode cX6_isDone 95 = .ok (.iaload, 1) := by decide +kernel
theorem dX6_isDone_96 : decode cX6_isDone 96 = .ok (.istore 4, 2) := by decide +kernel
theorem dX6_isDone_98 : decode cX6_isDone 98 = .ok (.iload 4, 2) := by decide +kernel
theorem dX6_isDone_100 : decode cX6_isDone 100 = .ok (.aload_n 0, 1) := by decide +kernel
theorem dX6_isDone_101 : decode cX6_isDone 101 = .ok (.getfield 46, 3) := by decide +kernel
theorem dX6_isDone_104 : decode cX6_isDone 104 = .ok (.iconst 2, 1) := by decide +kernel
theorem dX6_isDone_105 : decode cX6_isDone 105 = .ok (.iaload, 1) := by decide +kernel
theorem dX6_isDone_106 : decode cX6_isDone 106 = .ok (.if_icmp .gt 35, 3) := by decide +kernel
theorem dX6_isDone_109 : decode cX6_isDone 109 = .ok (.aload_n 0, 1) := by decide +kernel
theorem dX6_isDone_110 : decode cX6_isDone 110 = .ok (.getfield 9, 3) := by decide +kernel
theorem dX6_isDone_113 : decode cX6_isDone 113 = .ok (.iconst 2, 1) := by decide +kernel
theorem dX6_isDone_114 : decode cX6_isDone 114 = .ok (.iload 4, 2) := by decide +kernel
theorem dX6_isDone_116 : decode cX6_isDone 116 = .ok (.iadd, 1) := by decide +kernel
theorem dX6_isDone_117 : decode cX6_isDone 117 = .ok (.iload_n 2, 1) := by decide +kernel
theorem dX6_isDone_118 : decode cX6_isDone 118 = .ok (.iastore, 1) := by decide +kernel
theorem dX6_isDone_119 : decode cX6_isDone 119 = .ok (.aload_n 0, 1) := by decide +kernel
theorem dX6_isDone_120 : decode cX6_isDone 120 = .ok (.getfield 9, 3) := by decide +kernel
theorem dX6_isDone_123 : decode cX6_isDone 123 = .ok (.bipush 27, 2) := by decide +kernel
theorem dX6_isDone_125 : decode cX6_isDone 125 = .ok (.iload 4, 2) := by decide +kernel
theorem dX6_isDone_127 : decode cX6_isDone 127 = .ok (.iadd, 1) := by decide +kernel
theorem dX6_isDone_128 : decode cX6_isDone 128 = .ok (.aload_n 0, 1) := by decide +kernel
theorem dX6_isDone_129 : decode cX6_isDone 129 = .ok (.getfield 46, 3) := by decide +kernel
theorem dX6_isDone_132 : decode cX6_isDone 132 = .ok (.iconst 3, 1) := by decide +kernel
theorem dX6_isDone_133 : decode cX6_isDone 133 = .ok (.iaload, 1) := by decide +kernel
theorem dX6_isDone_134 : decode cX6_isDone 134 = .ok (.iastore, 1) := by decide +kernel
theorem dX6_isDone_135 : decode cX6_isDone 135 = .ok (.iinc 4 1, 3) := by decide +kernel
theorem dX6_isDone_138 : decode cX6_isDone 138 = .ok (.goto (-40), 3) := by decide +kernel
theorem dX6_isDone_141 : decode cX6_isDone 141 = .ok (.iconst 1, 1) := by decide +kernel
theorem dX6_isDone_142 : decode cX6_isDone 142 = .ok (.ireturn, 1) := by decide +kernel
theorem dX6_isDone_143 : decode cX6_isDone 143 = .ok (.iload_n 2, 1) := by decide +kernel
theorem dX6_isDone_144 : decode cX6_isDone 144 = .ok (.ifCond .eq 13, 3) := by decide +kernel
theorem dX6_isDone_147 : decode cX6_isDone 147 = .ok (.aload_n 0, 1) := by decide +kernel
theorem dX6_isDone_148 : decode cX6_isDone 148 = .ok (.getfield 9, 3) := by decide +kernel
theorem dX6_isDone_151 : decode cX6_isDone 151 = .ok (.iconst 0, 1) := by decide +kernel
theorem dX6_isDone_152 : decode cX6_isDone 152 = .ok (.iaload, 1) := by decide +kernel
theorem dX6_isDone_153 : decode cX6_isDone 153 = .ok (.iconst 5, 1) := by decide +kernel
theorem dX6_isDone_154 : decode cX6_isDone 154 = .ok (.if_icmp .ne 5, 3) := by decide +kernel
theorem dX6_isDone_157 : decode cX6_isDone 157 = .ok (.iconst 0, 1) := by decide +kernel
theorem dX6_isDone_158 : decode cX6_isDone 158 = .ok (.ireturn, 1) := by decide +kernel
theorem dX6_isDone_159 : decode cX6_isDone 159 = .ok (.aload_n 0, 1) := by decide +kernel
theorem dX6_isDone_160 : decode cX6_isDone 160 = .ok (.getfield 9, 3) := by decide +kernel
theorem dX6_isDone_163 : decode cX6_isDone 163 = .ok (.bipush 52, 2) := by decide +kernel
theorem dX6_isDone_165 : decode cX6_isDone 165 = .ok (.aload_n 0, 1) := by decide +kernel
theorem dX6_isDone_166 : decode cX6_isDone 166 = .ok (.getfield 9, 3) := by decide +kernel
theorem dX6_isDone_169 : decode cX6_isDone 169 = .ok (.iconst 0, 1) := by decide +kernel
theorem dX6_isDone_170 : decode cX6_isDone 170 = .ok (.iaload, 1) := by decide +kernel
theorem dX6_isDone_171 : decode cX6_isDone 171 = .ok (.iadd, 1) := by decide +kernel
theorem dX6_isDone_172 : decode cX6_isDone 172 = .ok (.iload_n 2, 1) := by decide +kernel
theorem dX6_isDone_173 : decode cX6_isDone 173 = .ok (.iastore, 1) := by decide +kernel
theorem dX6_isDone_174 : decode cX6_isDone 174 = .ok (.iconst 0, 1) := by decide +kernel
theorem dX6_isDone_175 : decode cX6_isDone 175 = .ok (.istore 4, 2) := by decide +kernel
theorem dX6_isDone_177 : decode cX6_isDone 177 = .ok (.iload 4, 2) := by decide +kernel
theorem dX6_isDone_179 : decode cX6_isDone 179 = .ok (.bipush 25, 2) := by decide +kernel
theorem dX6_isDone_181 : decode cX6_isDone 181 = .ok (.if_icmp .ge 26, 3) := by decide +kernel
theorem dX6_isDone_184 : decode cX6_isDone 184 = .ok (.aload_n 0, 1) := by decide +kernel
theorem dX6_isDone_185 : decode cX6_isDone 185 = .ok (.getfield 9, 3) := by decide +kernel
theorem dX6_isDone_188 : decode cX6_isDone 188 = .ok (.aload_n 0, 1) := by decide +kernel
theorem dX6_isDone_189 : decode cX6_isDone 189 = .ok (.getfield 9, 3) := by decide +kernel
theorem dX6_isDone_192 : decode cX6_isDone 192 = .ok (.iconst 0, 1) := by decide +kernel
theorem dX6_isDone_193 : decode cX6_isDone 193 = .ok (.iaload, 1) := by decide +kernel
theorem dX6_isDone_194 : decode cX6_isDone 194 = .ok (.iload 4, 2) := by decide +kernel
theorem dX6_isDone_196 : decode cX6_isDone 196 = .ok (.invokestatic 64, 3) := by decide +kernel
theorem dX6_isDone_199 : decode cX6_isDone 199 = .ok (.iconst 0, 1) := by decide +kernel
theorem dX6_isDone_200 : decode cX6_isDone 200 = .ok (.iastore, 1) := by decide +kernel
theorem dX6_isDone_201 : decode cX6_isDone 201 = .ok (.iinc 4 1, 3) := by decide +kernel
theorem dX6_isDone_204 : decode cX6_isDone 204 = .ok (.goto (-27), 3) := by decide +kernel
theorem dX6_isDone_207 : decode cX6_isDone 207 = .ok (.aload_n 0, 1) := by decide +kernel
theorem dX6_isDone_208 : decode cX6_isDone 208 = .ok (.getfield 9, 3) := by decide +kernel
theorem dX6_isDone_211 : decode cX6_isDone 211 = .ok (.iconst 0, 1) := by decide +kernel
theorem dX6_isDone_212 : decode cX6_isDone 212 = .ok (.dup2, 1) := by decide +kernel
theorem dX6_isDone_213 : decode cX6_isDone 213 = .ok (.iaload, 1) := by decide +kernel
theorem dX6_isDone_214 : decode cX6_isDone 214 = .ok (.iconst 1, 1) := by decide +kernel
theorem dX6_isDone_215 : decode cX6_isDone 215 = .ok (.iadd, 1) := by decide +kernel
theorem dX6_isDone_216 : decode cX6_isDone 216 = .ok (.iastore, 1) := by decide +kernel
theorem dX6_isDone_217 : decode cX6_isDone 217 = .ok (.iconst 1, 1) := by decide +kernel
theorem dX6_isDone_218 : decode cX6_isDone 218 = .ok (.ireturn, 1) := by decide +kernel
theorem dX6_isDone_219 : decode cX6_isDone 219 = .ok (.aload_n 0, 1) := by decide +kernel
theorem dX6_isDone_220 : decode cX6_isDone 220 = .ok (.iload_n 2, 1) := by decide +kernel
theorem dX6_isDone_221 : decode cX6_isDone 221 = .ok (.invokevirtual 59, 3) := by decide +kernel
theorem dX6_isDone_224 : decode cX6_isDone 224 = .ok (.ifCond .eq 7, 3) := by decide +kernel
theorem dX6_isDone_227 : decode cX6_isDone 227 = .ok (.iload_n 3, 1) := by decide +kernel
theorem dX6_isDone_228 : decode cX6_isDone 228 = .ok (.ifCond .ne 5, 3) := by decide +kernel
theorem dX6_isDone_231 : decode cX6_isDone 231 = .ok (.iconst 0, 1) := by decide +kernel
theorem dX6_isDone_232 : decode cX6_isDone 232 = .ok (.ireturn, 1) := by decide +kernel
theorem dX6_isDone_233 : decode cX6_isDone 233 = .ok (.aload_n 0, 1) := by decide +kernel
theorem dX6_isDone_234 : decode cX6_isDone 234 = .ok (.getfield 46, 3) := by decide +kernel
theorem dX6_isDone_237 : decode cX6_isDone 237 = .ok (.iconst 1, 1) := by decide +kernel
theorem dX6_isDone_238 : decode cX6_isDone 238 = .ok (.iaload, 1) := by decide +kernel
theorem dX6_isDone_239 : decode cX6_isDone 239 = .ok (.istore 4, 2) := by decide +kernel
theorem dX6_isDone_241 : decode cX6_isDone 241 = .ok (.iload 4, 2) := by decide +kernel
theorem dX6_isDone_243 : decode cX6_isDone 243 = .ok (.aload_n 0, 1) := by decide +kernel
theorem dX6_isDone_244 : decode cX6_isDone 244 = .ok (.getfield 46, 3) := by decide +kernel
theorem dX6_isDone_247 : decode cX6_isDone 247 = .ok (.iconst 2, 1) := by decide +kernel
theorem dX6_isDone_248 : decode cX6_isDone 248 = .ok (.iaload, 1) := by decide +kernel
theorem dX6_isDone_249 : decode cX6_isDone 249 = .ok (.if_icmp .gt 26, 3) := by decide +kernel
theorem dX6_isDone_252 : decode cX6_isDone 252 = .ok (.aload_n 0, 1) := by decide +kernel
theorem dX6_isDone_253 : decode cX6_isDone 253 = .ok (.getfield 9, 3) := by decide +kernel
theorem dX6_isDone_256 : decode cX6_isDone 256 = .ok (.iload_n 2, 1) := by decide +kernel
theorem dX6_isDone_257 : decode cX6_isDone 257 = .ok (.iload 4, 2) := by decide +kernel
theorem dX6_isDone_259 : decode cX6_isDone 259 = .ok (.invokestatic 64, 3) := by decide +kernel
theorem dX6_isDone_262 : decode cX6_isDone 262 = .ok (.aload_n 0, 1) := by decide +kernel
theorem dX6_isDone_263 : decode cX6_isDone 263 = .ok (.getfield 46, 3) := by decide +kernel
theorem dX6_isDone_266 : decode cX6_isDone 266 = .ok (.iconst 3, 1) := by decide +kernel
theorem dX6_isDone_267 : decode cX6_isDone 267 = .ok (.iaload, 1) := by decide +kernel
theorem dX6_isDone_268 : decode cX6_isDone 268 = .ok (.iastore, 1) := by decide +kernel
theorem dX6_isDone_269 : decode cX6_isDone 269 = .ok (.iinc 4 1, 3) := by decide +kernel
theorem dX6_isDone_272 : decode cX6_isDone 272 = .ok (.goto (-31), 3) := by decide +kernel
theorem dX6_isDone_275 : decode cX6_isDone 275 = .ok (.iconst 1, 1) := by decide +kernel
theorem dX6_isDone_276 : decode cX6_isDone 276 = .ok (.ireturn, 1) := by decide +kernel
theorem dX6_isDone_277 : decode cX6_isDone 277 = .ok (.iload_n 2, 1) := by decide +kernel
theorem dX6_isDone_278 : decode cX6_isDone 278 = .ok (.iconst 1, 1) := by decide +kernel
theorem dX6_isDone_279 : decode cX6_isDone 279 = .ok (.bipush 60, 2) := by decide +kernel
theorem dX6_isDone_281 : decode cX6_isDone 281 = .ok (.invokestatic 55, 3) := by decide +kernel
theorem dX6_isDone_284 : decode cX6_isDone 284 = .ok (.ifCond .eq 17, 3) := by decide +kernel
theorem dX6_isDone_287 : decode cX6_isDone 287 = .ok (.aload_n 0, 1) := by decide +kernel
theorem dX6_isDone_288 : decode cX6_isDone 288 = .ok (.getfield 9, 3) := by decide +kernel
theorem dX6_isDone_291 : decode cX6_isDone 291 = .ok (.iconst 1, 1) := by decide +kernel
theorem dX6_isDone_292 : decode cX6_isDone 292 = .ok (.iaload, 1) := by decide +kernel
theorem dX6_isDone_293 : decode cX6_isDone 293 = .ok (.iload_n 2, 1) := by decide +kernel
theorem dX6_isDone_294 : decode cX6_isDone 294 = .ok (.iadd, 1) := by decide +kernel
theorem dX6_isDone_295 : decode cX6_isDone 295 = .ok (.sipush 999, 3) := by decide +kernel
theorem dX6_isDone_298 : decode cX6_isDone 298 = .ok (.if_icmp .le 5, 3) := by decide +kernel
theorem dX6_isDone_301 : decode cX6_isDone 301 = .ok (.iconst 0, 1) := by decide +kernel
theorem dX6_isDone_302 : decode cX6_isDone 302 = .ok (.ireturn, 1) := by decide +kernel
theorem dX6_isDone_303 : decode cX6_isDone 303 = .ok (.iconst 0, 1) := by decide +kernel
theorem dX6_isDone_304 : decode cX6_isDone 304 = .ok (.istore 4, 2) := by decide +kernel
theorem dX6_isDone_306 : decode cX6_isDone 306 = .ok (.iload 4, 2) := by decide +kernel
theorem dX6_isDone_308 : decode cX6_isDone 308 = .ok (.iload_n 2, 1) := by decide +kernel
theorem dX6_isDone_309 : decode cX6_isDone 309 = .ok (.if_icmp .ge 16, 3) := by decide +kernel
theorem dX6_isDone_312 : decode cX6_isDone 312 = .ok (.aload_n 0, 1) := by decide +kernel
theorem dX6_isDone_313 : decode cX6_isDone 313 = .ok (.getfield 9, 3) := by decide +kernel
theorem dX6_isDone_316 : decode cX6_isDone 316 = .ok (.invokestatic 141, 3) := by decide +kernel
theorem dX6_isDone_319 : decode cX6_isDone 319 = .ok (.iinc 4 1, 3) := by decide +kernel
theorem dX6_isDone_322 : decode cX6_isDone 322 = .ok (.goto (-16), 3) := by decide +kernel
theorem dX6_isDone_325 : decode cX6_isDone 325 = .ok (.iconst 1, 1) := by decide +kernel
theorem dX6_isDone_326 : decode cX6_isDone 326 = .ok (.ireturn, 1) := by decide +kernel
theorem dX6_house_0 : decode cX6_house 0 = .ok (.aload_n 0, 1) := by decide +kernel
theorem dX6_house_1 : decode cX6_house 1 = .ok (.iconst 0, 1) := by decide +kernel
theorem dX6_house_2 : decode cX6_house 2 = .ok (.putfield 121, 3) := by decide +kernel
theorem dX6_house_5 : decode cX6_house 5 = .ok (.iconst 0, 1) := by decide +kernel
theorem dX6_house_6 : decode cX6_house 6 = .ok (.istore_n 1, 1) := by decide +kernel
theorem dX6_house_7 : decode cX6_house 7 = .ok (.bipush (-9), 2) := by decide +kernel
theorem dX6_house_9 : decode cX6_house 9 = .ok (.istore_n 2, 1) := by decide +kernel
theorem dX6_house_10 : decode cX6_house 10 = .ok (.aload_n 0, 1) := by decide +kernel
theorem dX6_house_11 : decode cX6_house 11 = .ok (.invokevirtual 144, 3) := by decide +kernel
theorem dX6_house_14 : decode cX6_house 14 = .ok (.ifCond .ne 12, 3) := by decide +kernel
theorem dX6_house_17 : decode cX6_house 17 = .ok (.sipush (-1000), 3) := by decide +kernel
theorem dX6_house_20 : decode cX6_house 20 = .ok (.aload_n 0, 1) := by decide +kernel
theorem dX6_house_21 : decode cX6_house 21 = .ok (.getfield 121, 3) := by decide +kernel
theorem dX6_house_24 : decode cX6_house 24 = .ok (.isub, 1) := by decide +kernel
theorem dX6_house_25 : decode cX6_house 25 = .ok (.istore_n 2, 1) := by decide +kernel
theorem dX6_house_26 : decode cX6_house 26 = .ok (.iinc 1 1, 3) := by decide +kernel
theorem dX6_house_29 : decode cX6_house 29 = .ok (.iload_n 2, 1) := by decide +kernel
theorem dX6_house_30 : decode cX6_house 30 = .ok (.bipush (-9), 2) := by decide +kernel
theorem dX6_house_32 : decode cX6_house 32 = .ok (.if_icmp .ne 14, 3) := by decide +kernel
theorem dX6_house_35 : decode cX6_house 35 = .ok (.aload_n 0, 1) := by decide +kernel
theorem dX6_house_36 : decode cX6_house 36 = .ok (.getfield 121, 3) := by decide +kernel
theorem dX6_house_39 : decode cX6_house 39 = .ok (.aload_n 0, 1) := by decide +kernel
theorem dX6_house_40 : decode cX6_house 40 = .ok (.getfield 118, 3) := by decide +kernel
theorem dX6_house_43 : decode cX6_house 43 = .ok (.if_icmp .lt (-33), 3) := by decide +kernel
theorem dX6_house_46 : decode cX6_house 46 = .ok (.aload_n 0, 1) := by decide +kernel
theorem dX6_house_47 : decode cX6_house 47 = .ok (.getfield 9, 3) := by decide +kernel
theorem dX6_house_50 : decode cX6_house 50 = .ok (.aload_n 0, 1) := by decide +kernel
theorem dX6_house_51 : decode cX6_house 51 = .ok (.getfield 19, 3) := by decide +kernel
theorem dX6_house_54 : decode cX6_house 54 = .ok (.invokestatic 147, 3) := by decide +kernel
theorem dX6_house_57 : decode cX6_house 57 = .ok (.aload_n 0, 1) := by decide +kernel
theorem dX6_house_58 : decode cX6_house 58 = .ok (.iconst 0, 1) := by decide +kernel
theorem dX6_house_59 : decode cX6_house 59 = .ok (.putfield 121, 3) := by decide +kernel
theorem dX6_house_62 : decode cX6_house 62 = .ok (.iload_n 2, 1) := by decide +kernel
theorem dX6_house_63 : decode cX6_house 63 = .ok (.bipush (-9), 2) := by decide +kernel
theorem dX6_house_65 : decode cX6_house 65 = .ok (.if_icmp .ne 63, 3) := by decide +kernel
theorem dX6_house_68 : decode cX6_house 68 = .ok (.aload_n 0, 1) := by decide +kernel
theorem dX6_house_69 : decode cX6_house 69 = .ok (.getfield 121, 3) := by decide +kernel
theorem dX6_house_72 : decode cX6_house 72 = .ok (.aload_n 0, 1) := by decide +kernel
theorem dX6_house_73 : decode cX6_house 73 = .ok (.getfield 118, 3) := by decide +kernel
theorem dX6_house_76 : decode cX6_house 76 = .ok (.if_icmp .ge 52, 3) := by decide +kernel
theorem dX6_house_79 : decode cX6_house 79 = .ok (.aload_n 0, 1) := by decide +kernel
theorem dX6_house_80 : decode cX6_house 80 = .ok (.getfield 121, 3) := by decide +kernel
theorem dX6_house_83 : decode cX6_house 83 = .ok (.istore_n 3, 1) := by decide +kernel
theorem dX6_house_84 : decode cX6_house 84 = .ok (.aload_n 0, 1) := by decide +kernel
theorem dX6_house_85 : decode cX6_house 85 = .ok (.invokevirtual 124, 3) := by decide +kernel
theorem dX6_house_88 : decode cX6_house 88 = .ok (.istore 4, 2) := by decide +kernel
theorem dX6_house_90 : decode cX6_house 90 = .ok (.aload_n 0, 1) := by decide +kernel
theorem dX6_house_91 : decode cX6_house 91 = .ok (.invokevirtual 144, 3) := by decide +kernel
theorem dX6_house_94 : decode cX6_house 94 = .ok (.istore 5, 2) := by decide +kernel
theorem dX6_house_96 : decode cX6_house 96 = .ok (.aload_n 0, 1) := by decide +kernel
theorem dX6_house_97 : decode cX6_house 97 = .ok (.iload 4, 2) := by decide +kernel
theorem dX6_house_99 : decode cX6_house 99 = .ok (.invokevirtual 151, 3) := by decide +kernel
theorem dX6_house_102 : decode cX6_house 102 = .ok (.ifCond .eq 6, 3) := by decide +kernel
theorem dX6_house_105 : decode cX6_house 105 = .ok (.goto (-43), 3) := by decide +kernel
theorem dX6_house_108 : decode cX6_house 108 = .ok (.sipush (-2000), 3) := by decide +kernel
theorem dX6_house_111 : decode cX6_house 111 = .ok (.iload_n 3, 1) := by decide +kernel
theorem dX6_house_112 : decode cX6_house 112 = .ok (.isub, 1) := by decide +kernel
theorem dX6_house_113 : decode cX6_house 113 = .ok (.istore_n 2, 1) := by decide +kernel
theorem dX6_house_114 : decode cX6_house 114 = .ok (.aload_n 0, 1) := by decide +kernel
theorem dX6_house_115 : decode cX6_house 115 = .ok (.getfield 19, 3) := by decide +kernel
theorem dX6_house_118 : decode cX6_house 118 = .ok (.aload_n 0, 1) := by decide +kernel
theorem dX6_house_119 : decode cX6_house 119 = .ok (.getfield 9, 3) := by decide +kernel
theorem dX6_house_122 : decode cX6_house 122 = .ok (.invokestatic 147, 3) := by decide +kernel
theorem dX6_house_125 : decode cX6_house 125 = .ok (.goto (-63), 3) := by decide +kernel
theorem dX6_house_128 : decode cX6_house 128 = .ok (.aload_n 0, 1) := by decide +kernel
theorem dX6_house_129 : decode cX6_house 129 = .ok (.iconst 0, 1) := by decide +kernel
theorem dX6_house_130 : decode cX6_house 130 = .ok (.putfield 118, 3) := by decide +kernel
theorem dX6_house_133 : decode cX6_house 133 = .ok (.iload_n 2, 1) := by decide +kernel
theorem dX6_house_134 : decode cX6_house 134 = .ok (.bipush (-9), 2) := by decide +kernel
theorem dX6_house_136 : decode cX6_house 136 = .ok (.if_icmp .ne 7, 3) := by decide +kernel
theorem dX6_house_139 : decode cX6_house 139 = .ok (.iload_n 1, 1) := by decide +kernel
theorem dX6_house_140 : decode cX6_house 140 = .ok (.goto 4, 3) := by decide +kernel
theorem dX6_house_143 : decode cX6_house 143 = .ok (.iload_n 2, 1) := by decide +kernel
theorem dX6_house_144 : decode cX6_house 144 = .ok (.ireturn, 1) := by decide +kernel
theorem dX6_room_0 : decode cX6_room 0 = .ok (.iload_n 1, 1) := by decide +kernel
theorem dX6_room_1 : decode cX6_room 1 = .ok (.invokestatic 138, 3) := by decide +kernel
theorem dX6_room_4 : decode cX6_room 4 = .ok (.ifCond .ne 9, 3) := by decide +kernel
theorem dX6_room_7 : decode cX6_room 7 = .ok (.aload_n 0, 1) := by decide +kernel
theorem dX6_room_8 : decode cX6_room 8 = .ok (.iconst (-1), 1) := by decide +kernel
theorem dX6_room_9 : decode cX6_room 9 = .ok (.invokevirtual 51, 3) := by decide +kernel
theorem dX6_room_12 : decode cX6_room 12 = .ok (.ireturn, 1) := by decide +kernel
theorem dX6_room_13 : decode cX6_room 13 = .ok (.iload_n 2, 1) := by decide +kernel
theorem dX6_room_14 : decode cX6_room 14 = .ok (.tableswitch 98 0 4 #[34, 43, 53, 62, 89], 34) := by decide +kernel
theorem dX6_room_48 : decode cX6_room 48 = .ok (.aload_n 0, 1) := by decide +kernel
theorem dX6_room_49 : decode cX6_room 49 = .ok (.getfield 9, 3) := by decide +kernel
theorem dX6_room_52 : decode cX6_room 52 = .ok (.iconst 2, 1) := by decide +kernel
theorem dX6_room_53 : decode cX6_room 53 = .ok (.iload_n 1, 1) := by decide +kernel
theorem dX6_room_54 : decode cX6_room 54 = .ok (.iadd, 1) := by decide +kernel
theorem dX6_room_55 : decode cX6_room 55 = .ok (.iaload, 1) := by decide +kernel
theorem dX6_room_56 : decode cX6_room 56 = .ok (.ireturn, 1) := by decide +kernel
theorem dX6_room_57 : decode cX6_room 57 = .ok (.aload_n 0, 1) := by decide +kernel
theorem dX6_room_58 : decode cX6_room 58 = .ok (.getfield 9, 3) := by decide +kernel
theorem dX6_room_61 : decode cX6_room 61 = .ok (.bipush 27, 2) := by decide +kernel
theorem dX6_room_63 : decode cX6_room 63 = .ok (.iload_n 1, 1) := by decide +kernel
theorem dX6_room_64 : decode cX6_room 64 = .ok (.iadd, 1) := by decide +kernel
theorem dX6_room_65 : decode cX6_room 65 = .ok (.iaload, 1) := by decide +kernel
theorem dX6_room_66 : decode cX6_room 66 = .ok (.ireturn, 1) := by decide +kernel
theorem dX6_room_67 : decode cX6_room 67 = .ok (.aload_n 0, 1) := by decide +kernel
theorem dX6_room_68 : decode cX6_room 68 = .ok (.getfield 9, 3) := by decide +kernel
theorem dX6_room_71 : decode cX6_room 71 = .ok (.iload_n 1, 1) := by decide +kernel
theorem dX6_room_72 : decode cX6_room 72 = .ok (.invokestatic 68, 3) := by decide +kernel
theorem dX6_room_75 : decode cX6_room 75 = .ok (.ireturn, 1) := by decide +kernel
theorem dX6_room_76 : decode cX6_room 76 = .ok (.aload_n 0, 1) := by decide +kernel
theorem dX6_room_77 : decode cX6_room 77 = .ok (.getfield 9, 3) := by decide +kernel
theorem dX6_room_80 : decode cX6_room 80 = .ok (.iload_n 1, 1) := by decide +kernel
theorem dX6_room_81 : decode cX6_room 81 = .ok (.invokestatic 75, 3) := by decide +kernel
theorem dX6_room_84 : decode cX6_room 84 = .ok (.ldc 63, 2) := by decide +kernel
theorem dX6_room_86 : decode cX6_room 86 = .ok (.if_icmp .ne 8, 3) := by decide +kernel
theorem dX6_room_89 : decode cX6_room 89 = .ok (.bipush (-9), 2) := by decide +kernel
theorem dX6_room_91 : decode cX6_room 91 = .ok (.goto 11, 3) := by decide +kernel
theorem dX6_room_94 : decode cX6_room 94 = .ok (.aload_n 0, 1) := by decide +kernel
theorem dX6_room_95 : decode cX6_room 95 = .ok (.getfield 9, 3) := by decide +kernel
theorem dX6_room_98 : decode cX6_room 98 = .ok (.iload_n 1, 1) := by decide +kernel
theorem dX6_room_99 : decode cX6_room 99 = .ok (.invokestatic 75, 3) := by decide +kernel
theorem dX6_room_102 : decode cX6_room 102 = .ok (.ireturn, 1) := by decide +kernel
theorem dX6_room_103 : decode cX6_room 103 = .ok (.aload_n 0, 1) := by decide +kernel
theorem dX6_room_104 : decode cX6_room 104 = .ok (.getfield 9, 3) := by decide +kernel
theorem dX6_room_107 : decode cX6_room 107 = .ok (.iload_n 1, 1) := by decide +kernel
theorem dX6_room_108 : decode cX6_room 108 = .ok (.invokestatic 85, 3) := by decide +kernel
theorem dX6_room_111 : decode cX6_room 111 = .ok (.ireturn, 1) := by decide +kernel
theorem dX6_room_112 : decode cX6_room 112 = .ok (.aload_n 0, 1) := by decide +kernel
theorem dX6_room_113 : decode cX6_room 113 = .ok (.bipush (-2), 2) := by decide +kernel
theorem dX6_room_115 : decode cX6_room 115 = .ok (.invokevirtual 51, 3) := by decide +kernel
theorem dX6_room_118 : decode cX6_room 118 = .ok (.ireturn, 1) := by decide +kernel
theorem dX6_person_0 : decode cX6_person 0 = .ok (.aload_n 0, 1) := by decide +kernel
theorem dX6_person_1 : decode cX6_person 1 = .ok (.iload_n 1, 1) := by decide +kernel
theorem dX6_person_2 : decode cX6_person 2 = .ok (.invokevirtual 59, 3) := by decide +kernel
theorem dX6_person_5 : decode cX6_person 5 = .ok (.ifCond .eq 15, 3) := by decide +kernel
theorem dX6_person_8 : decode cX6_person 8 = .ok (.iload_n 2, 1) := by decide +kernel
theorem dX6_person_9 : decode cX6_person 9 = .ok (.iconst (-1), 1) := by decide +kernel
theorem dX6_person_10 : decode cX6_person 10 = .ok (.if_icmp .eq 16, 3) := by decide +kernel
theorem dX6_person_13 : decode cX6_person 13 = .ok (.iload_n 2, 1) := by decide +kernel
theorem dX6_person_14 : decode cX6_person 14 = .ok (.invokestatic 138, 3) := by decide +kernel
theorem dX6_person_17 : decode cX6_person 17 = .ok (.ifCond .ne 9, 3) := by decide +kernel
theorem dX6_person_20 : decode cX6_person 20 = .ok (.aload_n 0, 1) := by decide +kernel
theorem dX6_person_21 : decode cX6_person 21 = .ok (.iconst (-1), 1) := by decide +kernel
theorem dX6_person_22 : decode cX6_person 22 = .ok (.invokevirtual 51, 3) := by decide +kernel
theorem dX6_person_25 : decode cX6_person 25 = .ok (.ireturn, 1) := by decide +kernel
theorem dX6_person_26 : decode cX6_person 26 = .ok (.iload_n 2, 1) := by decide +kernel
theorem dX6_person_27 : decode cX6_person 27 = .ok (.ifCond .ge 15, 3) := by decide +kernel
theorem dX6_person_30 : decode cX6_person 30 = .ok (.aload_n 0, 1) := by decide +kernel
theorem dX6_person_31 : decode cX6_person 31 = .ok (.getfield 9, 3) := by decide +kernel
theorem dX6_person_34 : decode cX6_person 34 = .ok (.bipush 52, 2) := by decide +kernel
theorem dX6_person_36 : decode cX6_person 36 = .ok (.iload_n 1, 1) := by decide +kernel
theorem dX6_person_37 : decode cX6_person 37 = .ok (.iadd, 1) := by decide +kernel
theorem dX6_person_38 : decode cX6_person 38 = .ok (.iaload, 1) := by decide +kernel
theorem dX6_person_39 : decode cX6_person 39 = .ok (.goto 13, 3) := by decide +kernel
theorem dX6_person_42 : decode cX6_person 42 = .ok (.aload_n 0, 1) := by decide +kernel
theorem dX6_person_43 : decode cX6_person 43 = .ok (.getfield 9, 3) := by decide +kernel
theorem dX6_person_46 : decode cX6_person 46 = .ok (.iload_n 1, 1) := by decide +kernel
theorem dX6_person_47 : decode cX6_person 47 = .ok (.iload_n 2, 1) := by decide +kernel
theorem dX6_person_48 : decode cX6_person 48 = .ok (.invokestatic 64, 3) := by decide +kernel
theorem dX6_person_51 : decode cX6_person 51 = .ok (.iaload, 1) := by decide +kernel
theorem dX6_person_52 : decode cX6_person 52 = .ok (.ireturn, 1) := by decide +kernel
theorem dX6_turn_0 : decode cX6_turn 0 = .ok (.iload_n 1, 1) := by decide +kernel
theorem dX6_turn_1 : decode cX6_turn 1 = .ok (.invokestatic 138, 3) := by decide +kernel
theorem dX6_turn_4 : decode cX6_turn 4 = .ok (.ifCond .ne 9, 3) := by decide +kernel
theorem dX6_turn_7 : decode cX6_turn 7 = .ok (.aload_n 0, 1) := by decide +kernel
theorem dX6_turn_8 : decode cX6_turn 8 = .ok (.iconst (-1), 1) := by decide +kernel
theorem dX6_turn_9 : decode cX6_turn 9 = .ok (.invokevirtual 51, 3) := by decide +kernel
theorem dX6_turn_12 : decode cX6_turn 12 = .ok (.ireturn, 1) := by decide +kernel
theorem dX6_turn_13 : decode cX6_turn 13 = .ok (.iload_n 2, 1) := by decide +kernel
theorem dX6_turn_14 : decode cX6_turn 14 = .ok (.iconst 0, 1) := by decide +kernel
theorem dX6_turn_15 : decode cX6_turn 15 = .ok (.iconst 5, 1) := by decide +kernel
theorem dX6_turn_16 : decode cX6_turn 16 = .ok (.invokestatic 55, 3) := by decide +kernel
theorem dX6_turn_19 : decode cX6_turn 19 = .ok (.ifCond .ne 10, 3) := by decide +kernel
theorem dX6_turn_22 : decode cX6_turn 22 = .ok (.aload_n 0, 1) := by decide +kernel
theorem dX6_turn_23 : decode cX6_turn 23 = .ok (.bipush (-2), 2) := by decide +kernel
theorem dX6_turn_25 : decode cX6_turn 25 = .ok (.invokevirtual 51, 3) := by decide +kernel
theorem dX6_turn_28 : decode cX6_turn 28 = .ok (.ireturn, 1) := by decide +kernel
theorem dX6_turn_29 : decode cX6_turn 29 = .ok (.iload_n 3, 1) := by decide +kernel
theorem dX6_turn_30 : decode cX6_turn 30 = .ok (.ifCond .ge 10, 3) := by decide +kernel
theorem dX6_turn_33 : decode cX6_turn 33 = .ok (.aload_n 0, 1) := by decide +kernel
theorem dX6_turn_34 : decode cX6_turn 34 = .ok (.bipush (-4), 2) := by decide +kernel
theorem dX6_turn_36 : decode cX6_turn 36 = .ok (.invokevirtual 51, 3) := by decide +kernel
theorem dX6_turn_39 : decode cX6_turn 39 = .ok (.ireturn, 1) := by decide +kernel
theorem dX6_turn_40 : decode cX6_turn 40 = .ok (.iload_n 3, 1) := by decide +kernel
theorem dX6_turn_41 : decode cX6_turn 41 = .ok (.bipush 9, 2) := by decide +kernel
theorem dX6_turn_43 : decode cX6_turn 43 = .ok (.if_icmp .le 10, 3) := by decide +kernel
theorem dX6_turn_46 : decode cX6_turn 46 = .ok (.aload_n 0, 1) := by decide +kernel
theorem dX6_turn_47 : decode cX6_turn 47 = .ok (.bipush (-6), 2) := by decide +kernel
theorem dX6_turn_49 : decode cX6_turn 49 = .ok (.invokevirtual 51, 3) := by decide +kernel
theorem dX6_turn_52 : decode cX6_turn 52 = .ok (.ireturn, 1) := by decide +kernel
theorem dX6_turn_53 : decode cX6_turn 53 = .ok (.bipush 10, 2) := by decide +kernel
theorem dX6_turn_55 : decode cX6_turn 55 = .ok (.aload_n 0, 1) := by decide +kernel
theorem dX6_turn_56 : decode cX6_turn 56 = .ok (.getfield 9, 3) := by decide +kernel
theorem dX6_turn_59 : decode cX6_turn 59 = .ok (.iconst 2, 1) := by decide +kernel
theorem dX6_turn_60 : decode cX6_turn 60 = .ok (.iload_n 1, 1) := by decide +kernel
theorem dX6_turn_61 : decode cX6_turn 61 = .ok (.iadd, 1) := by decide +kernel
theorem dX6_turn_62 : decode cX6_turn 62 = .ok (.iaload, 1) := by decide +kernel
theorem dX6_turn_63 : decode cX6_turn 63 = .ok (.imul, 1) := by decide +kernel
theorem dX6_turn_64 : decode cX6_turn 64 = .ok (.aload_n 0, 1) := by decide +kernel
theorem dX6_turn_65 : decode cX6_turn 65 = .ok (.getfield 9, 3) := by decide +kernel
theorem dX6_turn_68 : decode cX6_turn 68 = .ok (.bipush 27, 2) := by decide +kernel
theorem dX6_turn_70 : decode cX6_turn 70 = .ok (.iload_n 1, 1) := by decide +kernel
theorem dX6_turn_71 : decode cX6_turn 71 = .ok (.iadd, 1) := by decide +kernel
theorem dX6_turn_72 : decode cX6_turn 72 = .ok (.iaload, 1) := by decide +kernel
theorem dX6_turn_73 : decode cX6_turn 73 = .ok (.iadd, 1) := by decide +kernel
theorem dX6_turn_74 : decode cX6_turn 74 = .ok (.istore 4, 2) := by decide +kernel
theorem dX6_turn_76 : decode cX6_turn 76 = .ok (.aload_n 0, 1) := by decide +kernel
theorem dX6_turn_77 : decode cX6_turn 77 = .ok (.getfield 9, 3) := by decide +kernel
theorem dX6_turn_80 : decode cX6_turn 80 = .ok (.iconst 2, 1) := by decide +kernel
theorem dX6_turn_81 : decode cX6_turn 81 = .ok (.iload_n 1, 1) := by decide +kernel
theorem dX6_turn_82 : decode cX6_turn 82 = .ok (.iadd, 1) := by decide +kernel
theorem dX6_turn_83 : decode cX6_turn 83 = .ok (.iload_n 2, 1) := by decide +kernel
theorem dX6_turn_84 : decode cX6_turn 84 = .ok (.iastore, 1) := by decide +kernel
theorem dX6_turn_85 : decode cX6_turn 85 = .ok (.aload_n 0, 1) := by decide +kernel
theorem dX6_turn_86 : decode cX6_turn 86 = .ok (.getfield 9, 3) := by decide +kernel
theorem dX6_turn_89 : decode cX6_turn 89 = .ok (.bipush 27, 2) := by decide +kernel
theorem dX6_turn_91 : decode cX6_turn 91 = .ok (.iload_n 1, 1) := by decide +kernel
theorem dX6_turn_92 : decode cX6_turn 92 = .ok (.iadd, 1) := by decide +kernel
theorem dX6_turn_93 : decode cX6_turn 93 = .ok (.iload_n 3, 1) := by decide +kernel
theorem dX6_turn_94 : decode cX6_turn 94 = .ok (.iastore, 1) := by decide +kernel
theorem dX6_turn_95 : decode cX6_turn 95 = .ok (.iload 4, 2) := by decide +kernel
theorem dX6_turn_97 : decode cX6_turn 97 = .ok (.ireturn, 1) := by decide +kernel
theorem dX6_sharp_0 : decode cX6_sharp 0 = .ok (.aload_n 0, 1) := by decide +kernel
theorem dX6_sharp_1 : decode cX6_sharp 1 = .ok (.iload_n 1, 1) := by decide +kernel
theorem dX6_sharp_2 : decode cX6_sharp 2 = .ok (.invokevirtual 59, 3) := by decide +kernel
theorem dX6_sharp_5 : decode cX6_sharp 5 = .ok (.ifCond .ne 9, 3) := by decide +kernel
theorem dX6_sharp_8 : decode cX6_sharp 8 = .ok (.aload_n 0, 1) := by decide +kernel
theorem dX6_sharp_9 : decode cX6_sharp 9 = .ok (.iconst (-1), 1) := by decide +kernel
theorem dX6_sharp_10 : decode cX6_sharp 10 = .ok (.invokevirtual 51, 3) := by decide +kernel
theorem dX6_sharp_13 : decode cX6_sharp 13 = .ok (.ireturn, 1) := by decide +kernel
theorem dX6_sharp_14 : decode cX6_sharp 14 = .ok (.iload_n 2, 1) := by decide +kernel
theorem dX6_sharp_15 : decode cX6_sharp 15 = .ok (.iconst 1, 1) := by decide +kernel
theorem dX6_sharp_16 : decode cX6_sharp 16 = .ok (.if_icmp .ge 10, 3) := by decide +kernel
theorem dX6_sharp_19 : decode cX6_sharp 19 = .ok (.aload_n 0, 1) := by decide +kernel
theorem dX6_sharp_20 : decode cX6_sharp 20 = .ok (.bipush (-4), 2) := by decide +kernel
theorem dX6_sharp_22 : decode cX6_sharp 22 = .ok (.invokevirtual 51, 3) := by decide +kernel
theorem dX6_sharp_25 : decode cX6_sharp 25 = .ok (.ireturn, 1) := by decide +kernel
theorem dX6_sharp_26 : decode cX6_sharp 26 = .ok (.iload_n 2, 1) := by decide +kernel
theorem dX6_sharp_27 : decode cX6_sharp 27 = .ok (.bipush 9, 2) := by decide +kernel
theorem dX6_sharp_29 : decode cX6_sharp 29 = .ok (.if_icmp .le 10, 3) := by decide +kernel
theorem dX6_sharp_32 : decode cX6_sharp 32 = .ok (.aload_n 0, 1) := by decide +kernel
theorem dX6_sharp_33 : decode cX6_sharp 33 = .ok (.bipush (-6), 2) := by decide +kernel
theorem dX6_sharp_35 : decode cX6_sharp 35 = .ok (.invokevirtual 51, 3) := by decide +kernel
theorem dX6_sharp_38 : decode cX6_sharp 38 = .ok (.ireturn, 1) := by decide +kernel
theorem dX6_sharp_39 : decode cX6_sharp 39 = .ok (.aload_n 0, 1) := by decide +kernel
theorem dX6_sharp_40 : decode cX6_sharp 40 = .ok (.getfield 9, 3) := by decide +kernel
theorem dX6_sharp_43 : decode cX6_sharp 43 = .ok (.bipush 52, 2) := by decide +kernel
theorem dX6_sharp_45 : decode cX6_sharp 45 = .ok (.iload_n 1, 1) := by decide +kernel
theorem dX6_sharp_46 : decode cX6_sharp 46 = .ok (.iadd, 1) := by decide +kernel
theorem dX6_sharp_47 : decode cX6_sharp 47 = .ok (.iaload, 1) := by decide +kernel
theorem dX6_sharp_48 : decode cX6_sharp 48 = .ok (.istore_n 3, 1) := by decide +kernel
theorem dX6_sharp_49 : decode cX6_sharp 49 = .ok (.aload_n 0, 1) := by decide +kernel
theorem dX6_sharp_50 : decode cX6_sharp 50 = .ok (.getfield 9, 3) := by decide +kernel
theorem dX6_sharp_53 : decode cX6_sharp 53 = .ok (.bipush 52, 2) := by decide +kernel
theorem dX6_sharp_55 : decode cX6_sharp 55 = .ok (.iload_n 1, 1) := by decide +kernel
theorem dX6_sharp_56 : decode cX6_sharp 56 = .ok (.iadd, 1) := by decide +kernel
theorem dX6_sharp_57 : decode cX6_sharp 57 = .ok (.iload_n 2, 1) := by decide +kernel
theorem dX6_sharp_58 : decode cX6_sharp 58 = .ok (.iastore, 1) := by decide +kernel
theorem dX6_sharp_59 : decode cX6_sharp 59 = .ok (.iload_n 3, 1) := by decide +kernel
theorem dX6_sharp_60 : decode cX6_sharp 60 = .ok (.ireturn, 1) := by decide +kernel
theorem dX6_visit_0 : decode cX6_visit 0 = .ok (.aload_n 0, 1) := by decide +kernel
theorem dX6_visit_1 : decode cX6_visit 1 = .ok (.iload_n 1, 1) := by decide +kernel
theorem dX6_visit_2 : decode cX6_visit 2 = .ok (.invokevirtual 59, 3) := by decide +kernel
theorem dX6_visit_5 : decode cX6_visit 5 = .ok (.ifCond .eq 10, 3) := by decide +kernel
theorem dX6_visit_8 : decode cX6_visit 8 = .ok (.iload_n 2, 1) := by decide +kernel
theorem dX6_visit_9 : decode cX6_visit 9 = .ok (.invokestatic 138, 3) := by decide +kernel
theorem dX6_visit_12 : decode cX6_visit 12 = .ok (.ifCond .ne 9, 3) := by decide +kernel
theorem dX6_visit_15 : decode cX6_visit 15 = .ok (.aload_n 0, 1) := by decide +kernel
theorem dX6_visit_16 : decode cX6_visit 16 = .ok (.iconst (-1), 1) := by decide +kernel
theorem dX6_visit_17 : decode cX6_visit 17 = .ok (.invokevirtual 51, 3) := by decide +kernel
theorem dX6_visit_20 : decode cX6_visit 20 = .ok (.ireturn, 1) := by decide +kernel
theorem dX6_visit_21 : decode cX6_visit 21 = .ok (.iload_n 3, 1) := by decide +kernel
theorem dX6_visit_22 : decode cX6_visit 22 = .ok (.ifCond .ge 10, 3) := by decide +kernel
theorem dX6_visit_25 : decode cX6_visit 25 = .ok (.aload_n 0, 1) := by decide +kernel
theorem dX6_visit_26 : decode cX6_visit 26 = .ok (.bipush (-4), 2) := by decide +kernel
theorem dX6_visit_28 : decode cX6_visit 28 = .ok (.invokevirtual 51, 3) := by decide +kernel
theorem dX6_visit_31 : decode cX6_visit 31 = .ok (.ireturn, 1) := by decide +kernel
theorem dX6_visit_32 : decode cX6_visit 32 = .ok (.iload_n 3, 1) := by decide +kernel
theorem dX6_visit_33 : decode cX6_visit 33 = .ok (.bipush 9, 2) := by decide +kernel
theorem dX6_visit_35 : decode cX6_visit 35 = .ok (.if_icmp .le 10, 3) := by decide +kernel
theorem dX6_visit_38 : decode cX6_visit 38 = .ok (.aload_n 0, 1) := by decide +kernel
theorem dX6_visit_39 : decode cX6_visit 39 = .ok (.bipush (-6), 2) := by decide +kernel
theorem dX6_visit_41 : decode cX6_visit 41 = .ok (.invokevirtual 51, 3) := by decide +kernel
theorem dX6_visit_44 : decode cX6_visit 44 = .ok (.ireturn, 1) := by decide +kernel
theorem dX6_visit_45 : decode cX6_visit 45 = .ok (.aload_n 0, 1) := by decide +kernel
theorem dX6_visit_46 : decode cX6_visit 46 = .ok (.getfield 9, 3) := by decide +kernel
theorem dX6_visit_49 : decode cX6_visit 49 = .ok (.iload_n 1, 1) := by decide +kernel
theorem dX6_visit_50 : decode cX6_visit 50 = .ok (.iload_n 2, 1) := by decide +kernel
theorem dX6_visit_51 : decode cX6_visit 51 = .ok (.invokestatic 64, 3) := by decide +kernel
theorem dX6_visit_54 : decode cX6_visit 54 = .ok (.iaload, 1) := by decide +kernel
theorem dX6_visit_55 : decode cX6_visit 55 = .ok (.istore 4, 2) := by decide +kernel
theorem dX6_visit_57 : decode cX6_visit 57 = .ok (.aload_n 0, 1) := by decide +kernel
theorem dX6_visit_58 : decode cX6_visit 58 = .ok (.getfield 9, 3) := by decide +kernel
theorem dX6_visit_61 : decode cX6_visit 61 = .ok (.iload_n 1, 1) := by decide +kernel
theorem dX6_visit_62 : decode cX6_visit 62 = .ok (.iload_n 2, 1) := by decide +kernel
theorem dX6_visit_63 : decode cX6_visit 63 = .ok (.invokestatic 64, 3) := by decide +kernel
theorem dX6_visit_66 : decode cX6_visit 66 = .ok (.iload_n 3, 1) := by decide +kernel
theorem dX6_visit_67 : decode cX6_visit 67 = .ok (.iastore, 1) := by decide +kernel
theorem dX6_visit_68 : decode cX6_visit 68 = .ok (.iload 4, 2) := by decide +kernel
theorem dX6_visit_70 : decode cX6_visit 70 = .ok (.ireturn, 1) := by decide +kernel
theorem dX6_knownMany_0 : decode cX6_knownMany 0 = .ok (.iconst 0, 1) := by decide +kernel
theorem dX6_knownMany_1 : decode cX6_knownMany 1 = .ok (.istore_n 2, 1) := by decide +kernel
theorem dX6_knownMany_2 : decode cX6_knownMany 2 = .ok (.iconst 0, 1) := by decide +kernel
theorem dX6_knownMany_3 : decode cX6_knownMany 3 = .ok (.istore_n 3, 1) := by decide +kernel
theorem dX6_knownMany_4 : decode cX6_knownMany 4 = .ok (.iload_n 3, 1) := by decide +kernel
theorem dX6_knownMany_5 : decode cX6_knownMany 5 = .ok (.bipush 25, 2) := by decide +kernel
theorem dX6_knownMany_7 : decode cX6_knownMany 7 = .ok (.if_icmp .ge 91, 3) := by decide +kernel
theorem dX6_knownMany_10 : decode cX6_knownMany 10 = .ok (.iconst 0, 1) := by decide +kernel
theorem dX6_knownMany_11 : decode cX6_knownMany 11 = .ok (.istore 4, 2) := by decide +kernel
theorem dX6_knownMany_13 : decode cX6_knownMany 13 = .ok (.iconst 0, 1) := by decide +kernel
theorem dX6_knownMany_14 : decode cX6_knownMany 14 = .ok (.istore 5, 2) := by decide +kernel
theorem dX6_knownMany_16 : decode cX6_knownMany 16 = .ok (.iload 5, 2) := by decide +kernel
theorem dX6_knownMany_18 : decode cX6_knownMany 18 = .ok (.aload_n 0, 1) := by decide +kernel
theorem dX6_knownMany_19 : decode cX6_knownMany 19 = .ok (.getfield 9, 3) := by decide +kernel
theorem dX6_knownMany_22 : decode cX6_knownMany 22 = .ok (.iconst 0, 1) := by decide +kernel
theorem dX6_knownMany_23 : decode cX6_knownMany 23 = .ok (.iaload, 1) := by decide +kernel
theorem dX6_knownMany_24 : decode cX6_knownMany 24 = .ok (.if_icmp .ge 32, 3) := by decide +kernel
theorem dX6_knownMany_27 : decode cX6_knownMany 27 = .ok (.iload 4, 2) := by decide +kernel
theorem dX6_knownMany_29 : decode cX6_knownMany 29 = .ok (.aload_n 0, 1) := by decide +kernel
theorem dX6_knownMany_30 : decode cX6_knownMany 30 = .ok (.getfield 9, 3) := by decide +kernel
theorem dX6_knownMany_33 : decode cX6_knownMany 33 = .ok (.iload 5, 2) := by decide +kernel
theorem dX6_knownMany_35 : decode cX6_knownMany 35 = .ok (.iload_n 3, 1) := by decide +kernel
theorem dX6_knownMany_36 : decode cX6_knownMany 36 = .ok (.invokestatic 81, 3) := by decide +kernel
theorem dX6_knownMany_39 : decode cX6_knownMany 39 = .ok (.ifCond .eq 7, 3) := by decide +kernel
theorem dX6_knownMany_42 : decode cX6_knownMany 42 = .ok (.iconst 1, 1) := by decide +kernel
theorem dX6_knownMany_43 : decode cX6_knownMany 43 = .ok (.goto 4, 3) := by decide +kernel
theorem dX6_knownMany_46 : decode cX6_knownMany 46 = .ok (.iconst 0, 1) := by decide +kernel
theorem dX6_knownMany_47 : decode cX6_knownMany 47 = .ok (.iadd, 1) := by decide +kernel
theorem dX6_knownMany_48 : decode cX6_knownMany 48 = .ok (.istore 4, 2) := by decide +kernel
theorem dX6_knownMany_50 : decode cX6_knownMany 50 = .ok (.iinc 5 1, 3) := by decide +kernel
theorem dX6_knownMany_53 : decode cX6_knownMany 53 = .ok (.goto (-37), 3) := by decide +kernel
theorem dX6_knownMany_56 : decode cX6_knownMany 56 = .ok (.iload_n 2, 1) := by decide +kernel
theorem dX6_knownMany_57 : decode cX6_knownMany 57 = .ok (.iload_n 1, 1) := by decide +kernel
theorem dX6_knownMany_58 : decode cX6_knownMany 58 = .ok (.ifCond .eq 22, 3) := by decide +kernel
theorem dX6_knownMany_61 : decode cX6_knownMany 61 = .ok (.iload 4, 2) := by decide +kernel
theorem dX6_knownMany_63 : decode cX6_knownMany 63 = .ok (.aload_n 0, 1) := by decide +kernel
theorem dX6_knownMany_64 : decode cX6_knownMany 64 = .ok (.getfield 9, 3) := by decide +kernel
theorem dX6_knownMany_67 : decode cX6_knownMany 67 = .ok (.iconst 0, 1) := by decide +kernel
theorem dX6_knownMany_68 : decode cX6_knownMany 68 = .ok (.iaload, 1) := by decide +kernel
theorem dX6_knownMany_69 : decode cX6_knownMany 69 = .ok (.if_icmp .ne 20, 3) := by decide +kernel
theorem dX6_knownMany_72 : decode cX6_knownMany 72 = .ok (.iload 4, 2) := by decide +kernel
theorem dX6_knownMany_74 : decode cX6_knownMany 74 = .ok (.ifCond .le 15, 3) := by decide +kernel
theorem dX6_knownMany_77 : decode cX6_knownMany 77 = .ok (.goto 8, 3) := by decide +kernel
theorem dX6_knownMany_80 : decode cX6_knownMany 80 = .ok (.iload 4, 2) := by decide +kernel
theorem dX6_knownMany_82 : decode cX6_knownMany 82 = .ok (.ifCond .le 7, 3) := by decide +kernel
theorem dX6_knownMany_85 : decode cX6_knownMany 85 = .ok (.iconst 1, 1) := by decide +kernel
theorem dX6_knownMany_86 : decode cX6_knownMany 86 = .ok (.goto 4, 3) := by decide +kernel
theorem dX6_knownMany_89 : decode cX6_knownMany 89 = .ok (.iconst 0, 1) := by decide +kernel
theorem dX6_knownMany_90 : decode cX6_knownMany 90 = .ok (.iadd, 1) := by decide +kernel
theorem dX6_knownMany_91 : decode cX6_knownMany 91 = .ok (.istore_n 2, 1) := by decide +kernel
theorem dX6_knownMany_92 : decode cX6_knownMany 92 = .ok (.iinc 3 1, 3) := by decide +kernel
theorem dX6_knownMany_95 : decode cX6_knownMany 95 = .ok (.goto (-91), 3) := by decide +kernel
theorem dX6_knownMany_98 : decode cX6_knownMany 98 = .ok (.iload_n 2, 1) := by decide +kernel
theorem dX6_knownMany_99 : decode cX6_knownMany 99 = .ok (.ireturn, 1) := by decide +kernel
theorem dX6_nights_0 : decode cX6_nights 0 = .ok (.iload_n 1, 1) := by decide +kernel
theorem dX6_nights_1 : decode cX6_nights 1 = .ok (.iconst 1, 1) := by decide +kernel
theorem dX6_nights_2 : decode cX6_nights 2 = .ok (.if_icmp .ge 10, 3) := by decide +kernel
theorem dX6_nights_5 : decode cX6_nights 5 = .ok (.aload_n 0, 1) := by decide +kernel
theorem dX6_nights_6 : decode cX6_nights 6 = .ok (.bipush (-4), 2) := by decide +kernel
theorem dX6_nights_8 : decode cX6_nights 8 = .ok (.invokevirtual 51, 3) := by decide +kernel
theorem dX6_nights_11 : decode cX6_nights 11 = .ok (.ireturn, 1) := by decide +kernel
theorem dX6_nights_12 : decode cX6_nights 12 = .ok (.iload_n 1, 1) := by decide +kernel
theorem dX6_nights_13 : decode cX6_nights 13 = .ok (.bipush 60, 2) := by decide +kernel
theorem dX6_nights_15 : decode cX6_nights 15 = .ok (.if_icmp .gt 17, 3) := by decide +kernel
theorem dX6_nights_18 : decode cX6_nights 18 = .ok (.aload_n 0, 1) := by decide +kernel
theorem dX6_nights_19 : decode cX6_nights 19 = .ok (.getfield 9, 3) := by decide +kernel
theorem dX6_nights_22 : decode cX6_nights 22 = .ok (.iconst 1, 1) := by decide +kernel
theorem dX6_nights_23 : decode cX6_nights 23 = .ok (.iaload, 1) := by decide +kernel
theorem dX6_nights_24 : decode cX6_nights 24 = .ok (.iload_n 1, 1) := by decide +kernel
theorem dX6_nights_25 : decode cX6_nights 25 = .ok (.iadd, 1) := by decide +kernel
theorem dX6_nights_26 : decode cX6_nights 26 = .ok (.sipush 999, 3) := by decide +kernel
theorem dX6_nights_29 : decode cX6_nights 29 = .ok (.if_icmp .le 10, 3) := by decide +kernel
theorem dX6_nights_32 : decode cX6_nights 32 = .ok (.aload_n 0, 1) := by decide +kernel
theorem dX6_nights_33 : decode cX6_nights 33 = .ok (.bipush (-6), 2) := by decide +kernel
theorem dX6_nights_35 : decode cX6_nights 35 = .ok (.invokevirtual 51, 3) := by decide +kernel
theorem dX6_nights_38 : decode cX6_nights 38 = .ok (.ireturn, 1) := by decide +kernel
theorem dX6_nights_39 : decode cX6_nights 39 = .ok (.iconst 0, 1) := by decide +kernel
theorem dX6_nights_40 : decode cX6_nights 40 = .ok (.istore_n 2, 1) := by decide +kernel
theorem dX6_nights_41 : decode cX6_nights 41 = .ok (.iload_n 2, 1) := by decide +kernel
theorem dX6_nights_42 : decode cX6_nights 42 = .ok (.iload_n 1, 1) := by decide +kernel
theorem dX6_nights_43 : decode cX6_nights 43 = .ok (.if_icmp .ge 16, 3) := by decide +kernel
theorem dX6_nights_46 : decode cX6_nights 46 = .ok (.aload_n 0, 1) := by decide +kernel
theorem dX6_nights_47 : decode cX6_nights 47 = .ok (.getfield 9, 3) := by decide +kernel
theorem dX6_nights_50 : decode cX6_nights 50 = .ok (.invokestatic 141, 3) := by decide +kernel
theorem dX6_nights_53 : decode cX6_nights 53 = .ok (.iinc 2 1, 3) := by decide +kernel
theorem dX6_nights_56 : decode cX6_nights 56 = .ok (.goto (-15), 3) := by decide +kernel
theorem dX6_nights_59 : decode cX6_nights 59 = .ok (.aload_n 0, 1) := by decide +kernel
theorem dX6_nights_60 : decode cX6_nights 60 = .ok (.iconst 1, 1) := by decide +kernel
theorem dX6_nights_61 : decode cX6_nights 61 = .ok (.invokevirtual 154, 3) := by decide +kernel
theorem dX6_nights_64 : decode cX6_nights 64 = .ok (.ireturn, 1) := by decide +kernel
theorem dX6_isFire_0 : decode cX6_isFire 0 = .ok (.iload_n 1, 1) := by decide +kernel
theorem dX6_isFire_1 : decode cX6_isFire 1 = .ok (.invokestatic 138, 3) := by decide +kernel
theorem dX6_isFire_4 : decode cX6_isFire 4 = .ok (.ifCond .eq 15, 3) := by decide +kernel
theorem dX6_isFire_7 : decode cX6_isFire 7 = .ok (.aload_n 0, 1) := by decide +kernel
theorem dX6_isFire_8 : decode cX6_isFire 8 = .ok (.iload_n 2, 1) := by decide +kernel
theorem dX6_isFire_9 : decode cX6_isFire 9 = .ok (.invokevirtual 158, 3) := by decide +kernel
theorem dX6_isFire_12 : decode cX6_isFire 12 = .ok (.ifCond .eq 7, 3) := by decide +kernel
theorem dX6_isFire_15 : decode cX6_isFire 15 = .ok (.iconst 1, 1) := by decide +kernel
theorem dX6_isFire_16 : decode cX6_isFire 16 = .ok (.goto 4, 3) := by decide +kernel
theorem dX6_isFire_19 : decode cX6_isFire 19 = .ok (.iconst 0, 1) := by decide +kernel
theorem dX6_isFire_20 : decode cX6_isFire 20 = .ok (.ireturn, 1) := by decide +kernel
theorem dX6_burnsBy_0 : decode cX6_burnsBy 0 = .ok (.aload_n 0, 1) := by decide +kernel
theorem dX6_burnsBy_1 : decode cX6_burnsBy 1 = .ok (.aload_n 0, 1) := by decide +kernel
theorem dX6_burnsBy_2 : decode cX6_burnsBy 2 = .ok (.getfield 9, 3) := by decide +kernel
theorem dX6_burnsBy_5 : decode cX6_burnsBy 5 = .ok (.iload_n 2, 1) := by decide +kernel
theorem dX6_burnsBy_6 : decode cX6_burnsBy 6 = .ok (.bipush (-9), 2) := by decide +kernel
theorem dX6_burnsBy_8 : decode cX6_burnsBy 8 = .ok (.invokevirtual 106, 3) := by decide +kernel
theorem dX6_burnsBy_11 : decode cX6_burnsBy 11 = .ok (.aload_n 0, 1) := by decide +kernel
theorem dX6_burnsBy_12 : decode cX6_burnsBy 12 = .ok (.aload_n 0, 1) := by decide +kernel
theorem dX6_burnsBy_13 : decode cX6_burnsBy 13 = .ok (.getfield 9, 3) := by decide +kernel
theorem dX6_burnsBy_16 : decode cX6_burnsBy 16 = .ok (.iload_n 1, 1) := by decide +kernel
theorem dX6_burnsBy_17 : decode cX6_burnsBy 17 = .ok (.invokevirtual 110, 3) := by decide +kernel
theorem dX6_burnsBy_20 : decode cX6_burnsBy 20 = .ok (.return_, 1) := by decide +kernel
theorem dX6_fire_0 : decode cX6_fire 0 = .ok (.aload_n 0, 1) := by decide +kernel
theorem dX6_fire_1 : decode cX6_fire 1 = .ok (.iload_n 1, 1) := by decide +kernel
theorem dX6_fire_2 : decode cX6_fire 2 = .ok (.iload_n 2, 1) := by decide +kernel
theorem dX6_fire_3 : decode cX6_fire 3 = .ok (.invokevirtual 161, 3) := by decide +kernel
theorem dX6_fire_6 : decode cX6_fire 6 = .ok (.ifCond .ne 9, 3) := by decide +kernel
theorem dX6_fire_9 : decode cX6_fire 9 = .ok (.aload_n 0, 1) := by decide +kernel
theorem dX6_fire_10 : decode cX6_fire 10 = .ok (.iconst (-1), 1) := by decide +kernel
theorem dX6_fire_11 : decode cX6_fire 11 = .ok (.invokevirtual 51, 3) := by decide +kernel
theorem dX6_fire_14 : decode cX6_fire 14 = .ok (.ireturn, 1) := by decide +kernel
theorem dX6_fire_15 : decode cX6_fire 15 = .ok (.iload_n 3, 1) := by decide +kernel
theorem dX6_fire_16 : decode cX6_fire 16 = .ok (.iconst 0, 1) := by decide +kernel
theorem dX6_fire_17 : decode cX6_fire 17 = .ok (.iconst 2, 1) := by decide +kernel
theorem dX6_fire_18 : decode cX6_fire 18 = .ok (.invokestatic 55, 3) := by decide +kernel
theorem dX6_fire_21 : decode cX6_fire 21 = .ok (.ifCond .ne 10, 3) := by decide +kernel
theorem dX6_fire_24 : decode cX6_fire 24 = .ok (.aload_n 0, 1) := by decide +kernel
theorem dX6_fire_25 : decode cX6_fire 25 = .ok (.bipush (-2), 2) := by decide +kernel
theorem dX6_fire_27 : decode cX6_fire 27 = .ok (.invokevirtual 51, 3) := by decide +kernel
theorem dX6_fire_30 : decode cX6_fire 30 = .ok (.ireturn, 1) := by decide +kernel
theorem dX6_fire_31 : decode cX6_fire 31 = .ok (.aload_n 0, 1) := by decide +kernel
theorem dX6_fire_32 : decode cX6_fire 32 = .ok (.iload_n 1, 1) := by decide +kernel
theorem dX6_fire_33 : decode cX6_fire 33 = .ok (.iload_n 2, 1) := by decide +kernel
theorem dX6_fire_34 : decode cX6_fire 34 = .ok (.invokevirtual 164, 3) := by decide +kernel
theorem dX6_fire_37 : decode cX6_fire 37 = .ok (.iload_n 3, 1) := by decide +kernel
theorem dX6_fire_38 : decode cX6_fire 38 = .ok (.iconst 2, 1) := by decide +kernel
theorem dX6_fire_39 : decode cX6_fire 39 = .ok (.if_icmp .ge 23, 3) := by decide +kernel
theorem dX6_fire_42 : decode cX6_fire 42 = .ok (.iload_n 3, 1) := by decide +kernel
theorem dX6_fire_43 : decode cX6_fire 43 = .ok (.ifCond .ne 10, 3) := by decide +kernel
theorem dX6_fire_46 : decode cX6_fire 46 = .ok (.aload_n 0, 1) := by decide +kernel
theorem dX6_fire_47 : decode cX6_fire 47 = .ok (.invokevirtual 168, 3) := by decide +kernel
theorem dX6_fire_50 : decode cX6_fire 50 = .ok (.goto 11, 3) := by decide +kernel
theorem dX6_fire_53 : decode cX6_fire 53 = .ok (.aload_n 0, 1) := by decide +kernel
theorem dX6_fire_54 : decode cX6_fire 54 = .ok (.aload_n 0, 1) := by decide +kernel
theorem dX6_fire_55 : decode cX6_fire 55 = .ok (.getfield 9, 3) := by decide +kernel
theorem dX6_fire_58 : decode cX6_fire 58 = .ok (.invokevirtual 114, 3) := by decide +kernel
theorem dX6_fire_61 : decode cX6_fire 61 = .ok (.ireturn, 1) := by decide +kernel
theorem dX6_fire_62 : decode cX6_fire 62 = .ok (.iconst 0, 1) := by decide +kernel
theorem dX6_fire_63 : decode cX6_fire 63 = .ok (.istore 4, 2) := by decide +kernel
theorem dX6_fire_65 : decode cX6_fire 65 = .ok (.iconst 0, 1) := by decide +kernel
theorem dX6_fire_66 : decode cX6_fire 66 = .ok (.istore 5, 2) := by decide +kernel
theorem dX6_fire_68 : decode cX6_fire 68 = .ok (.iload 5, 2) := by decide +kernel
theorem dX6_fire_70 : decode cX6_fire 70 = .ok (.bipush 25, 2) := by decide +kernel
theorem dX6_fire_72 : decode cX6_fire 72 = .ok (.if_icmp .ge 23, 3) := by decide +kernel
theorem dX6_fire_75 : decode cX6_fire 75 = .ok (.iload 4, 2) := by decide +kernel
theorem dX6_fire_77 : decode cX6_fire 77 = .ok (.aload_n 0, 1) := by decide +kernel
theorem dX6_fire_78 : decode cX6_fire 78 = .ok (.getfield 31, 3) := by decide +kernel
theorem dX6_fire_81 : decode cX6_fire 81 = .ok (.iload 5, 2) := by decide +kernel
theorem dX6_fire_83 : decode cX6_fire 83 = .ok (.iaload, 1) := by decide +kernel
theorem dX6_fire_84 : decode cX6_fire 84 = .ok (.invokestatic 72, 3) := by decide +kernel
theorem dX6_fire_87 : decode cX6_fire 87 = .ok (.istore 4, 2) := by decide +kernel
theorem dX6_fire_89 : decode cX6_fire 89 = .ok (.iinc 5 1, 3) := by decide +kernel
theorem dX6_fire_92 : decode cX6_fire 92 = .ok (.goto (-24), 3) := by decide +kernel
theorem dX6_fire_95 : decode cX6_fire 95 = .ok (.iload 4, 2) := by decide +kernel
theorem dX6_fire_97 : decode cX6_fire 97 = .ok (.ireturn, 1) := by decide +kernel
theorem dX6_burns__0 : decode cX6_burns_ 0 = .ok (.aload_n 0, 1) := by decide +kernel
theorem dX6_burns__1 : decode cX6_burns_ 1 = .ok (.iload_n 1, 1) := by decide +kernel
theorem dX6_burns__2 : decode cX6_burns_ 2 = .ok (.iload_n 2, 1) := by decide +kernel
theorem dX6_burns__3 : decode cX6_burns_ 3 = .ok (.invokevirtual 161, 3) := by decide +kernel
theorem dX6_burns__6 : decode cX6_burns_ 6 = .ok (.ifCond .eq 10, 3) := by decide +kernel
theorem dX6_burns__9 : decode cX6_burns_ 9 = .ok (.iload_n 3, 1) := by decide +kernel
theorem dX6_burns__10 : decode cX6_burns_ 10 = .ok (.invokestatic 138, 3) := by decide +kernel
theorem dX6_burns__13 : decode cX6_burns_ 13 = .ok (.ifCond .ne 9, 3) := by decide +kernel
theorem dX6_burns__16 : decode cX6_burns_ 16 = .ok (.aload_n 0, 1) := by decide +kernel
theorem dX6_burns__17 : decode cX6_burns_ 17 = .ok (.iconst (-1), 1) := by decide +kernel
theorem dX6_burns__18 : decode cX6_burns_ 18 = .ok (.invokevirtual 51, 3) := by decide +kernel
theorem dX6_burns__21 : decode cX6_burns_ 21 = .ok (.ireturn, 1) := by decide +kernel
theorem dX6_burns__22 : decode cX6_burns_ 22 = .ok (.aload_n 0, 1) := by decide +kernel
theorem dX6_burns__23 : decode cX6_burns_ 23 = .ok (.iload_n 1, 1) := by decide +kernel
theorem dX6_burns__24 : decode cX6_burns_ 24 = .ok (.iload_n 2, 1) := by decide +kernel
theorem dX6_burns__25 : decode cX6_burns_ 25 = .ok (.invokevirtual 164, 3) := by decide +kernel
theorem dX6_burns__28 : decode cX6_burns_ 28 = .ok (.aload_n 0, 1) := by decide +kernel
theorem dX6_burns__29 : decode cX6_burns_ 29 = .ok (.getfield 31, 3) := by decide +kernel
theorem dX6_burns__32 : decode cX6_burns_ 32 = .ok (.iload_n 3, 1) := by decide +kernel
theorem dX6_burns__33 : decode cX6_burns_ 33 = .ok (.iaload, 1) := by decide +kernel
theorem dX6_burns__34 : decode cX6_burns_ 34 = .ok (.ireturn, 1) := by decide +kernel
theorem dX6_said_0 : decode cX6_said 0 = .ok (.aload_n 0, 1) := by decide +kernel
theorem dX6_said_1 : decode cX6_said 1 = .ok (.iload_n 1, 1) := by decide +kernel
theorem dX6_said_2 : decode cX6_said 2 = .ok (.iload_n 2, 1) := by decide +kernel
theorem dX6_said_3 : decode cX6_said 3 = .ok (.invokevirtual 161, 3) := by decide +kernel
theorem dX6_said_6 : decode cX6_said 6 = .ok (.ifCond .eq 10, 3) := by decide +kernel
theorem dX6_said_9 : decode cX6_said 9 = .ok (.iload_n 3, 1) := by decide +kernel
theorem dX6_said_10 : decode cX6_said 10 = .ok (.invokestatic 138, 3) := by decide +kernel
theorem dX6_said_13 : decode cX6_said 13 = .ok (.ifCond .ne 9, 3) := by decide +kernel
theorem dX6_said_16 : decode cX6_said 16 = .ok (.aload_n 0, 1) := by decide +kernel
theorem dX6_said_17 : decode cX6_said 17 = .ok (.iconst (-1), 1) := by decide +kernel
theorem dX6_said_18 : decode cX6_said 18 = .ok (.invokevirtual 51, 3) := by decide +kernel
theorem dX6_said_21 : decode cX6_said 21 = .ok (.ireturn, 1) := by decide +kernel
theorem dX6_said_22 : decode cX6_said 22 = .ok (.iload 4, 2) := by decide +kernel
theorem dX6_said_24 : decode cX6_said 24 = .ok (.iconst 0, 1) := by decide +kernel
theorem dX6_said_25 : decode cX6_said 25 = .ok (.iconst 1, 1) := by decide +kernel
theorem dX6_said_26 : decode cX6_said 26 = .ok (.invokestatic 55, 3) := by decide +kernel
theorem dX6_said_29 : decode cX6_said 29 = .ok (.ifCond .ne 10, 3) := by decide +kernel
theorem dX6_said_32 : decode cX6_said 32 = .ok (.aload_n 0, 1) := by decide +kernel
theorem dX6_said_33 : decode cX6_said 33 = .ok (.bipush (-2), 2) := by decide +kernel
theorem dX6_said_35 : decode cX6_said 35 = .ok (.invokevirtual 51, 3) := by decide +kernel
theorem dX6_said_38 : decode cX6_said 38 = .ok (.ireturn, 1) := by decide +kernel
theorem dX6_said_39 : decode cX6_said 39 = .ok (.aload_n 0, 1) := by decide +kernel
theorem dX6_said_40 : decode cX6_said 40 = .ok (.iload_n 1, 1) := by decide +kernel
theorem dX6_said_41 : decode cX6_said 41 = .ok (.iload_n 2, 1) := by decide +kernel
theorem dX6_said_42 : decode cX6_said 42 = .ok (.invokevirtual 164, 3) := by decide +kernel
theorem dX6_said_45 : decode cX6_said 45 = .ok (.iload 4, 2) := by decide +kernel
theorem dX6_said_47 : decode cX6_said 47 = .ok (.ifCond .ne 12, 3) := by decide +kernel
theorem dX6_said_50 : decode cX6_said 50 = .ok (.aload_n 0, 1) := by decide +kernel
theorem dX6_said_51 : decode cX6_said 51 = .ok (.getfield 37, 3) := by decide +kernel
theorem dX6_said_54 : decode cX6_said 54 = .ok (.iload_n 3, 1) := by decide +kernel
theorem dX6_said_55 : decode cX6_said 55 = .ok (.iaload, 1) := by decide +kernel
theorem dX6_said_56 : decode cX6_said 56 = .ok (.goto 9, 3) := by decide +kernel
theorem dX6_said_59 : decode cX6_said 59 = .ok (.aload_n 0, 1) := by decide +kernel
theorem dX6_said_60 : decode cX6_said 60 = .ok (.getfield 40, 3) := by decide +kernel
theorem dX6_said_63 : decode cX6_said 63 = .ok (.iload_n 3, 1) := by decide +kernel
theorem dX6_said_64 : decode cX6_said 64 = .ok (.iaload, 1) := by decide +kernel
theorem dX6_said_65 : decode cX6_said 65 = .ok (.ireturn, 1) := by decide +kernel
theorem dX6_talker_0 : decode cX6_talker 0 = .ok (.aload_n 0, 1) := by decide +kernel
theorem dX6_talker_1 : decode cX6_talker 1 = .ok (.iload_n 1, 1) := by decide +kernel
theorem dX6_talker_2 : decode cX6_talker 2 = .ok (.iload_n 2, 1) := by decide +kernel
theorem dX6_talker_3 : decode cX6_talker 3 = .ok (.invokevirtual 161, 3) := by decide +kernel
theorem dX6_talker_6 : decode cX6_talker 6 = .ok (.ifCond .ne 9, 3) := by decide +kernel
theorem dX6_talker_9 : decode cX6_talker 9 = .ok (.aload_n 0, 1) := by decide +kernel
theorem dX6_talker_10 : decode cX6_talker 10 = .ok (.iconst (-1), 1) := by decide +kernel
theorem dX6_talker_11 : decode cX6_talker 11 = .ok (.invokevirtual 51, 3) := by decide +kernel
theorem dX6_talker_14 : decode cX6_talker 14 = .ok (.ireturn, 1) := by decide +kernel
theorem dX6_talker_15 : decode cX6_talker 15 = .ok (.aload_n 0, 1) := by decide +kernel
theorem dX6_talker_16 : decode cX6_talker 16 = .ok (.iload_n 1, 1) := by decide +kernel
theorem dX6_talker_17 : decode cX6_talker 17 = .ok (.iload_n 2, 1) := by decide +kernel
theorem dX6_talker_18 : decode cX6_talker 18 = .ok (.invokevirtual 164, 3) := by decide +kernel
theorem dX6_talker_21 : decode cX6_talker 21 = .ok (.bipush (-9), 2) := by decide +kernel
theorem dX6_talker_23 : decode cX6_talker 23 = .ok (.istore_n 3, 1) := by decide +kernel
theorem dX6_talker_24 : decode cX6_talker 24 = .ok (.iconst 0, 1) := by decide +kernel
theorem dX6_talker_25 : decode cX6_talker 25 = .ok (.istore 4, 2) := by decide +kernel
theorem dX6_talker_27 : decode cX6_talker 27 = .ok (.iconst 0, 1) := by decide +kernel
theorem dX6_talker_28 : decode cX6_talker 28 = .ok (.istore 5, 2) := by decide +kernel
theorem dX6_talker_30 : decode cX6_talker 30 = .ok (.iload 5, 2) := by decide +kernel
theorem dX6_talker_32 : decode cX6_talker 32 = .ok (.aload_n 0, 1) := by decide +kernel
theorem dX6_talker_33 : decode cX6_talker 33 = .ok (.getfield 9, 3) := by decide +kernel
theorem dX6_talker_36 : decode cX6_talker 36 = .ok (.iconst 0, 1) := by decide +kernel
theorem dX6_talker_37 : decode cX6_talker 37 = .ok (.iaload, 1) := by decide +kernel
theorem dX6_talker_38 : decode cX6_talker 38 = .ok (.if_icmp .ge 67, 3) := by decide +kernel
theorem dX6_talker_41 : decode cX6_talker 41 = .ok (.iconst 0, 1) := by decide +kernel
theorem dX6_talker_42 : decode cX6_talker 42 = .ok (.istore 6, 2) := by decide +kernel
theorem dX6_talker_44 : decode cX6_talker 44 = .ok (.iconst 0, 1) := by decide +kernel
theorem dX6_talker_45 : decode cX6_talker 45 = .ok (.istore 7, 2) := by decide +kernel
theorem dX6_talker_47 : decode cX6_talker 47 = .ok (.iload 7, 2) := by decide +kernel
theorem dX6_talker_49 : decode cX6_talker 49 = .ok (.bipush 25, 2) := by decide +kernel
theorem dX6_talker_51 : decode cX6_talker 51 = .ok (.if_icmp .ge 31, 3) := by decide +kernel
theorem dX6_talker_54 : decode cX6_talker 54 = .ok (.iload 6, 2) := by decide +kernel
theorem dX6_talker_56 : decode cX6_talker 56 = .ok (.aload_n 0, 1) := by decide +kernel
theorem dX6_talker_57 : decode cX6_talker 57 = .ok (.getfield 40, 3) := by decide +kernel
theorem dX6_talker_60 : decode cX6_talker 60 = .ok (.iload 7, 2) := by decide +kernel
theorem dX6_talker_62 : decode cX6_talker 62 = .ok (.iaload, 1) := by decide +kernel
theorem dX6_talker_63 : decode cX6_talker 63 = .ok (.iload 5, 2) := by decide +kernel
theorem dX6_talker_65 : decode cX6_talker 65 = .ok (.if_icmp .ne 7, 3) := by decide +kernel
theorem dX6_talker_68 : decode cX6_talker 68 = .ok (.iconst 1, 1) := by decide +kernel
theorem dX6_talker_69 : decode cX6_talker 69 = .ok (.goto 4, 3) := by decide +kernel
theorem dX6_talker_72 : decode cX6_talker 72 = .ok (.iconst 0, 1) := by decide +kernel
theorem dX6_talker_73 : decode cX6_talker 73 = .ok (.iadd, 1) := by decide +kernel
theorem dX6_talker_74 : decode cX6_talker 74 = .ok (.istore 6, 2) := by decide +kernel
theorem dX6_talker_76 : decode cX6_talker 76 = .ok (.iinc 7 1, 3) := by decide +kernel
theorem dX6_talker_79 : decode cX6_talker 79 = .ok (.goto (-32), 3) := by decide +kernel
theorem dX6_talker_82 : decode cX6_talker 82 = .ok (.iload 6, 2) := by decide +kernel
theorem dX6_talker_84 : decode cX6_talker 84 = .ok (.iload 4, 2) := by decide +kernel
theorem dX6_talker_86 : decode cX6_talker 86 = .ok (.if_icmp .gt 6, 3) := by decide +kernel
theorem dX6_talker_89 : decode cX6_talker 89 = .ok (.goto 10, 3) := by decide +kernel
theorem dX6_talker_92 : decode cX6_talker 92 = .ok (.iload 5, 2) := by decide +kernel
theorem dX6_talker_94 : decode cX6_talker 94 = .ok (.istore_n 3, 1) := by decide +kernel
theorem dX6_talker_95 : decode cX6_talker 95 = .ok (.iload 6, 2) := by decide +kernel
theorem dX6_talker_97 : decode cX6_talker 97 = .ok (.istore 4, 2) := by decide +kernel
theorem dX6_talker_99 : decode cX6_talker 99 = .ok (.iinc 5 1, 3) := by decide +kernel
theorem dX6_talker_102 : decode cX6_talker 102 = .ok (.goto (-72), 3) := by decide +kernel
theorem dX6_talker_105 : decode cX6_talker 105 = .ok (.iload_n 3, 1) := by decide +kernel
theorem dX6_talker_106 : decode cX6_talker 106 = .ok (.ireturn, 1) := by decide +kernel
theorem dX6_alone_0 : decode cX6_alone 0 = .ok (.iload_n 1, 1) := by decide +kernel
theorem dX6_alone_1 : decode cX6_alone 1 = .ok (.invokestatic 138, 3) := by decide +kernel
theorem dX6_alone_4 : decode cX6_alone 4 = .ok (.ifCond .ne 9, 3) := by decide +kernel
theorem dX6_alone_7 : decode cX6_alone 7 = .ok (.aload_n 0, 1) := by decide +kernel
theorem dX6_alone_8 : decode cX6_alone 8 = .ok (.iconst (-1), 1) := by decide +kernel
theorem dX6_alone_9 : decode cX6_alone 9 = .ok (.invokevirtual 51, 3) := by decide +kernel
theorem dX6_alone_12 : decode cX6_alone 12 = .ok (.ireturn, 1) := by decide +kernel
theorem dX6_alone_13 : decode cX6_alone 13 = .ok (.aload_n 0, 1) := by decide +kernel
theorem dX6_alone_14 : decode cX6_alone 14 = .ok (.iconst 0, 1) := by decide +kernel
theorem dX6_alone_15 : decode cX6_alone 15 = .ok (.putfield 96, 3) := by decide +kernel
theorem dX6_alone_18 : decode cX6_alone 18 = .ok (.aload_n 0, 1) := by decide +kernel
theorem dX6_alone_19 : decode cX6_alone 19 = .ok (.aload_n 0, 1) := by decide +kernel
theorem dX6_alone_20 : decode cX6_alone 20 = .ok (.getfield 9, 3) := by decide +kernel
theorem dX6_alone_23 : decode cX6_alone 23 = .ok (.iload_n 1, 1) := by decide +kernel
theorem dX6_alone_24 : decode cX6_alone 24 = .ok (.invokevirtual 110, 3) := by decide +kernel
theorem dX6_alone_27 : decode cX6_alone 27 = .ok (.aload_n 0, 1) := by decide +kernel
theorem dX6_alone_28 : decode cX6_alone 28 = .ok (.aload_n 0, 1) := by decide +kernel
theorem dX6_alone_29 : decode cX6_alone 29 = .ok (.getfield 9, 3) := by decide +kernel
theorem dX6_alone_32 : decode cX6_alone 32 = .ok (.invokevirtual 114, 3) := by decide +kernel
theorem dX6_alone_35 : decode cX6_alone 35 = .ok (.ireturn, 1) := by decide +kernel
theorem dX6_bestSpeaker_0 : decode cX6_bestSpeaker 0 = .ok (.iload_n 1, 1) := by decide +kernel
theorem dX6_bestSpeaker_1 : decode cX6_bestSpeaker 1 = .ok (.invokestatic 138, 3) := by decide +kernel
theorem dX6_bestSpeaker_4 : decode cX6_bestSpeaker 4 = .ok (.ifCond .ne 9, 3) := by decide +kernel
theorem dX6_bestSpeaker_7 : decode cX6_bestSpeaker 7 = .ok (.aload_n 0, 1) := by decide +kernel
theorem dX6_bestSpeaker_8 : decode cX6_bestSpeaker 8 = .ok (.iconst (-1), 1) := by decide +kernel
theorem dX6_bestSpeaker_9 : decode cX6_bestSpeaker 9 = .ok (.invokevirtual 51, 3) := by decide +kernel
theorem dX6_bestSpeaker_12 : decode cX6_bestSpeaker 12 = .ok (.ireturn, 1) := by decide +kernel
theorem dX6_bestSpeaker_13 : decode cX6_bestSpeaker 13 = .ok (.bipush (-9), 2) := by decide +kernel
theorem dX6_bestSpeaker_15 : decode cX6_bestSpeaker 15 = .ok (.istore_n 2, 1) := by decide +kernel
theorem dX6_bestSpeaker_16 : decode cX6_bestSpeaker 16 = .ok (.ldc 63, 2) := by decide +kernel
theorem dX6_bestSpeaker_18 : decode cX6_bestSpeaker 18 = .ok (.istore_n 3, 1) := by decide +kernel
theorem dX6_bestSpeaker_19 : decode cX6_bestSpeaker 19 = .ok (.iconst 0, 1) := by decide +kernel
theorem dX6_bestSpeaker_20 : decode cX6_bestSpeaker 20 = .ok (.istore 4, 2) := by decide +kernel
theorem dX6_bestSpeaker_22 : decode cX6_bestSpeaker 22 = .ok (.iload 4, 2) := by decide +kernel
theorem dX6_bestSpeaker_24 : decode cX6_bestSpeaker 24 = .ok (.aload_n 0, 1) := by decide +kernel
theorem dX6_bestSpeaker_25 : decode cX6_bestSpeaker 25 = .ok (.getfield 9, 3) := by decide +kernel
theorem dX6_bestSpeaker_28 : decode cX6_bestSpeaker 28 = .ok (.iconst 0, 1) := by decide +kernel
theorem dX6_bestSpeaker_29 : decode cX6_bestSpeaker 29 = .ok (.iaload, 1) := by decide +kernel
theorem dX6_bestSpeaker_30 : decode cX6_bestSpeaker 30 = .ok (.if_icmp .ge 37, 3) := by decide +kernel
theorem dX6_bestSpeaker_33 : decode cX6_bestSpeaker 33 = .ok (.aload_n 0, 1) := by decide +kernel
theorem dX6_bestSpeaker_34 : decode cX6_bestSpeaker 34 = .ok (.aload_n 0, 1) := by decide +kernel
theorem dX6_bestSpeaker_35 : decode cX6_bestSpeaker 35 = .ok (.getfield 9, 3) := by decide +kernel
theorem dX6_bestSpeaker_38 : decode cX6_bestSpeaker 38 = .ok (.iload_n 1, 1) := by decide +kernel
theorem dX6_bestSpeaker_39 : decode cX6_bestSpeaker 39 = .ok (.iload 4, 2) := by decide +kernel
theorem dX6_bestSpeaker_41 : decode cX6_bestSpeaker 41 = .ok (.invokevirtual 171, 3) := by decide +kernel
theorem dX6_bestSpeaker_44 : decode cX6_bestSpeaker 44 = .ok (.istore 5, 2) := by decide +kernel
theorem dX6_bestSpeaker_46 : decode cX6_bestSpeaker 46 = .ok (.iload 5, 2) := by decide +kernel
theorem dX6_bestSpeaker_48 : decode cX6_bestSpeaker 48 = .ok (.iload_n 3, 1) := by decide +kernel
theorem dX6_bestSpeaker_49 : decode cX6_bestSpeaker 49 = .ok (.if_icmp .lt 6, 3) := by decide +kernel
theorem dX6_bestSpeaker_52 : decode cX6_bestSpeaker 52 = .ok (.goto 9, 3) := by decide +kernel
theorem dX6_bestSpeaker_55 : decode cX6_bestSpeaker 55 = .ok (.iload 4, 2) := by decide +kernel
theorem dX6_bestSpeaker_57 : decode cX6_bestSpeaker 57 = .ok (.istore_n 2, 1) := by decide +kernel
theorem dX6_bestSpeaker_58 : decode cX6_bestSpeaker 58 = .ok (.iload 5, 2) := by decide +kernel
theorem dX6_bestSpeaker_60 : decode cX6_bestSpeaker 60 = .ok (.istore_n 3, 1) := by decide +kernel
theorem dX6_bestSpeaker_61 : decode cX6_bestSpeaker 61 = .ok (.iinc 4 1, 3) := by decide +kernel
theorem dX6_bestSpeaker_64 : decode cX6_bestSpeaker 64 = .ok (.goto (-42), 3) := by decide +kernel
theorem dX6_bestSpeaker_67 : decode cX6_bestSpeaker 67 = .ok (.iload_n 2, 1) := by decide +kernel
theorem dX6_bestSpeaker_68 : decode cX6_bestSpeaker 68 = .ok (.ireturn, 1) := by decide +kernel
theorem dX6_worstRoom_0 : decode cX6_worstRoom 0 = .ok (.iconst 0, 1) := by decide +kernel
theorem dX6_worstRoom_1 : decode cX6_worstRoom 1 = .ok (.istore_n 1, 1) := by decide +kernel
theorem dX6_worstRoom_2 : decode cX6_worstRoom 2 = .ok (.iconst (-1), 1) := by decide +kernel
theorem dX6_worstRoom_3 : decode cX6_worstRoom 3 = .ok (.istore_n 2, 1) := by decide +kernel
theorem dX6_worstRoom_4 : decode cX6_worstRoom 4 = .ok (.iconst 0, 1) := by decide +kernel
theorem dX6_worstRoom_5 : decode cX6_worstRoom 5 = .ok (.istore_n 3, 1) := by decide +kernel
theorem dX6_worstRoom_6 : decode cX6_worstRoom 6 = .ok (.iload_n 3, 1) := by decide +kernel
theorem dX6_worstRoom_7 : decode cX6_worstRoom 7 = .ok (.bipush 25, 2) := by decide +kernel
theorem dX6_worstRoom_9 : decode cX6_worstRoom 9 = .ok (.if_icmp .ge 35, 3) := by decide +kernel
theorem dX6_worstRoom_12 : decode cX6_worstRoom 12 = .ok (.aload_n 0, 1) := by decide +kernel
theorem dX6_worstRoom_13 : decode cX6_worstRoom 13 = .ok (.aload_n 0, 1) := by decide +kernel
theorem dX6_worstRoom_14 : decode cX6_worstRoom 14 = .ok (.getfield 9, 3) := by decide +kernel
theorem dX6_worstRoom_17 : decode cX6_worstRoom 17 = .ok (.iload_n 3, 1) := by decide +kernel
theorem dX6_worstRoom_18 : decode cX6_worstRoom 18 = .ok (.iconst 0, 1) := by decide +kernel
theorem dX6_worstRoom_19 : decode cX6_worstRoom 19 = .ok (.invokevirtual 171, 3) := by decide +kernel
theorem dX6_worstRoom_22 : decode cX6_worstRoom 22 = .ok (.istore 4, 2) := by decide +kernel
theorem dX6_worstRoom_24 : decode cX6_worstRoom 24 = .ok (.iload 4, 2) := by decide +kernel
theorem dX6_worstRoom_26 : decode cX6_worstRoom 26 = .ok (.iload_n 2, 1) := by decide +kernel
theorem dX6_worstRoom_27 : decode cX6_worstRoom 27 = .ok (.if_icmp .gt 6, 3) := by decide +kernel
theorem dX6_worstRoom_30 : decode cX6_worstRoom 30 = .ok (.goto 8, 3) := by decide +kernel
theorem dX6_worstRoom_33 : decode cX6_worstRoom 33 = .ok (.iload_n 3, 1) := by decide +kernel
theorem dX6_worstRoom_34 : decode cX6_worstRoom 34 = .ok (.istore_n 1, 1) := by decide +kernel
theorem dX6_worstRoom_35 : decode cX6_worstRoom 35 = .ok (.iload 4, 2) := by decide +kernel
theorem dX6_worstRoom_37 : decode cX6_worstRoom 37 = .ok (.istore_n 2, 1) := by decide +kernel
theorem dX6_worstRoom_38 : decode cX6_worstRoom 38 = .ok (.iinc 3 1, 3) := by decide +kernel
theorem dX6_worstRoom_41 : decode cX6_worstRoom 41 = .ok (.goto (-35), 3) := by decide +kernel
theorem dX6_worstRoom_44 : decode cX6_worstRoom 44 = .ok (.iload_n 1, 1) := by decide +kernel
theorem dX6_worstRoom_45 : decode cX6_worstRoom 45 = .ok (.ireturn, 1) := by decide +kernel
theorem dX6_show_0 : decode cX6_show 0 = .ok (.iload_n 1, 1) := by decide +kernel
theorem dX6_show_1 : decode cX6_show 1 = .ok (.invokestatic 138, 3) := by decide +kernel
theorem dX6_show_4 : decode cX6_show 4 = .ok (.ifCond .eq 11, 3) := by decide +kernel
theorem dX6_show_7 : decode cX6_show 7 = .ok (.aload_n 0, 1) := by decide +kernel
theorem dX6_show_8 : decode cX6_show 8 = .ok (.iload_n 2, 1) := by decide +kernel
theorem dX6_show_9 : decode cX6_show 9 = .ok (.invokevirtual 59, 3) := by decide +kernel
theorem dX6_show_12 : decode cX6_show 12 = .ok (.ifCond .ne 9, 3) := by decide +kernel
theorem dX6_show_15 : decode cX6_show 15 = .ok (.aload_n 0, 1) := by decide +kernel
theorem dX6_show_16 : decode cX6_show 16 = .ok (.iconst (-1), 1) := by decide +kernel
theorem dX6_show_17 : decode cX6_show 17 = .ok (.invokevirtual 51, 3) := by decide +kernel
theorem dX6_show_20 : decode cX6_show 20 = .ok (.ireturn, 1) := by decide +kernel
theorem dX6_show_21 : decode cX6_show 21 = .ok (.bipush (-9), 2) := by decide +kernel
theorem dX6_show_23 : decode cX6_show 23 = .ok (.istore_n 3, 1) := by decide +kernel
theorem dX6_show_24 : decode cX6_show 24 = .ok (.aload_n 0, 1) := by decide +kernel
theorem dX6_show_25 : decode cX6_show 25 = .ok (.aload_n 0, 1) := by decide +kernel
theorem dX6_show_26 : decode cX6_show 26 = .ok (.getfield 9, 3) := by decide +kernel
theorem dX6_show_29 : decode cX6_show 29 = .ok (.iload_n 1, 1) := by decide +kernel
theorem dX6_show_30 : decode cX6_show 30 = .ok (.iconst 0, 1) := by decide +kernel
theorem dX6_show_31 : decode cX6_show 31 = .ok (.invokevirtual 171, 3) := by decide +kernel
theorem dX6_show_34 : decode cX6_show 34 = .ok (.istore 4, 2) := by decide +kernel
theorem dX6_show_36 : decode cX6_show 36 = .ok (.iconst 0, 1) := by decide +kernel
theorem dX6_show_37 : decode cX6_show 37 = .ok (.istore 5, 2) := by decide +kernel
theorem dX6_show_39 : decode cX6_show 39 = .ok (.iload 5, 2) := by decide +kernel
theorem dX6_show_41 : decode cX6_show 41 = .ok (.bipush 25, 2) := by decide +kernel
theorem dX6_show_43 : decode cX6_show 43 = .ok (.if_icmp .ge 62, 3) := by decide +kernel
theorem dX6_show_46 : decode cX6_show 46 = .ok (.aload_n 0, 1) := by decide +kernel
theorem dX6_show_47 : decode cX6_show 47 = .ok (.getfield 9, 3) := by decide +kernel
theorem dX6_show_50 : decode cX6_show 50 = .ok (.aload_n 0, 1) := by decide +kernel
theorem dX6_show_51 : decode cX6_show 51 = .ok (.getfield 13, 3) := by decide +kernel
theorem dX6_show_54 : decode cX6_show 54 = .ok (.invokestatic 147, 3) := by decide +kernel
theorem dX6_show_57 : decode cX6_show 57 = .ok (.aload_n 0, 1) := by decide +kernel
theorem dX6_show_58 : decode cX6_show 58 = .ok (.getfield 13, 3) := by decide +kernel
theorem dX6_show_61 : decode cX6_show 61 = .ok (.iload_n 2, 1) := by decide +kernel
theorem dX6_show_62 : decode cX6_show 62 = .ok (.iload 5, 2) := by decide +kernel
theorem dX6_show_64 : decode cX6_show 64 = .ok (.invokestatic 64, 3) := by decide +kernel
theorem dX6_show_67 : decode cX6_show 67 = .ok (.bipush 9, 2) := by decide +kernel
theorem dX6_show_69 : decode cX6_show 69 = .ok (.iastore, 1) := by decide +kernel
theorem dX6_show_70 : decode cX6_show 70 = .ok (.aload_n 0, 1) := by decide +kernel
theorem dX6_show_71 : decode cX6_show 71 = .ok (.aload_n 0, 1) := by decide +kernel
theorem dX6_show_72 : decode cX6_show 72 = .ok (.getfield 13, 3) := by decide +kernel
theorem dX6_show_75 : decode cX6_show 75 = .ok (.iload_n 1, 1) := by decide +kernel
theorem dX6_show_76 : decode cX6_show 76 = .ok (.iconst 0, 1) := by decide +kernel
theorem dX6_show_77 : decode cX6_show 77 = .ok (.invokevirtual 171, 3) := by decide +kernel
theorem dX6_show_80 : decode cX6_show 80 = .ok (.istore 6, 2) := by decide +kernel
theorem dX6_show_82 : decode cX6_show 82 = .ok (.iload 6, 2) := by decide +kernel
theorem dX6_show_84 : decode cX6_show 84 = .ok (.iload 4, 2) := by decide +kernel
theorem dX6_show_86 : decode cX6_show 86 = .ok (.if_icmp .lt 6, 3) := by decide +kernel
theorem dX6_show_89 : decode cX6_show 89 = .ok (.goto 10, 3) := by decide +kernel
theorem dX6_show_92 : decode cX6_show 92 = .ok (.iload 5, 2) := by decide +kernel
theorem dX6_show_94 : decode cX6_show 94 = .ok (.istore_n 3, 1) := by decide +kernel
theorem dX6_show_95 : decode cX6_show 95 = .ok (.iload 6, 2) := by decide +kernel
theorem dX6_show_97 : decode cX6_show 97 = .ok (.istore 4, 2) := by decide +kernel
theorem dX6_show_99 : decode cX6_show 99 = .ok (.iinc 5 1, 3) := by decide +kernel
theorem dX6_show_102 : decode cX6_show 102 = .ok (.goto (-63), 3) := by decide +kernel
theorem dX6_show_105 : decode cX6_show 105 = .ok (.iload_n 3, 1) := by decide +kernel
theorem dX6_show_106 : decode cX6_show 106 = .ok (.ireturn, 1) := by decide +kernel
theorem dX6_mayWait_0 : decode cX6_mayWait 0 = .ok (.iload_n 1, 1) := by decide +kernel
theorem dX6_mayWait_1 : decode cX6_mayWait 1 = .ok (.invokestatic 138, 3) := by decide +kernel
theorem dX6_mayWait_4 : decode cX6_mayWait 4 = .ok (.ifCond .ne 9, 3) := by decide +kernel
theorem dX6_mayWait_7 : decode cX6_mayWait 7 = .ok (.aload_n 0, 1) := by decide +kernel
theorem dX6_mayWait_8 : decode cX6_mayWait 8 = .ok (.iconst (-1), 1) := by decide +kernel
theorem dX6_mayWait_9 : decode cX6_mayWait 9 = .ok (.invokevirtual 51, 3) := by decide +kernel
theorem dX6_mayWait_12 : decode cX6_mayWait 12 = .ok (.ireturn, 1) := by decide +kernel
theorem dX6_mayWait_13 : decode cX6_mayWait 13 = .ok (.aload_n 0, 1) := by decide +kernel
theorem dX6_mayWait_14 : decode cX6_mayWait 14 = .ok (.aload_n 0, 1) := by decide +kernel
theorem dX6_mayWait_15 : decode cX6_mayWait 15 = .ok (.getfield 9, 3) := by decide +kernel
theorem dX6_mayWait_18 : decode cX6_mayWait 18 = .ok (.iload_n 1, 1) := by decide +kernel
theorem dX6_mayWait_19 : decode cX6_mayWait 19 = .ok (.iconst 0, 1) := by decide +kernel
theorem dX6_mayWait_20 : decode cX6_mayWait 20 = .ok (.invokevirtual 171, 3) := by decide +kernel
theorem dX6_mayWait_23 : decode cX6_mayWait 23 = .ok (.istore_n 2, 1) := by decide +kernel
theorem dX6_mayWait_24 : decode cX6_mayWait 24 = .ok (.aload_n 0, 1) := by decide +kernel
theorem dX6_mayWait_25 : decode cX6_mayWait 25 = .ok (.getfield 9, 3) := by decide +kernel
theorem dX6_mayWait_28 : decode cX6_mayWait 28 = .ok (.aload_n 0, 1) := by decide +kernel
theorem dX6_mayWait_29 : decode cX6_mayWait 29 = .ok (.getfield 13, 3) := by decide +kernel
theorem dX6_mayWait_32 : decode cX6_mayWait 32 = .ok (.invokestatic 147, 3) := by decide +kernel
theorem dX6_mayWait_35 : decode cX6_mayWait 35 = .ok (.iconst 0, 1) := by decide +kernel
theorem dX6_mayWait_36 : decode cX6_mayWait 36 = .ok (.istore_n 3, 1) := by decide +kernel
theorem dX6_mayWait_37 : decode cX6_mayWait 37 = .ok (.iload_n 3, 1) := by decide +kernel
theorem dX6_mayWait_38 : decode cX6_mayWait 38 = .ok (.bipush 99, 2) := by decide +kernel
theorem dX6_mayWait_40 : decode cX6_mayWait 40 = .ok (.if_icmp .gt 32, 3) := by decide +kernel
theorem dX6_mayWait_43 : decode cX6_mayWait 43 = .ok (.aload_n 0, 1) := by decide +kernel
theorem dX6_mayWait_44 : decode cX6_mayWait 44 = .ok (.aload_n 0, 1) := by decide +kernel
theorem dX6_mayWait_45 : decode cX6_mayWait 45 = .ok (.getfield 13, 3) := by decide +kernel
theorem dX6_mayWait_48 : decode cX6_mayWait 48 = .ok (.iload_n 1, 1) := by decide +kernel
theorem dX6_mayWait_49 : decode cX6_mayWait 49 = .ok (.iconst 0, 1) := by decide +kernel
theorem dX6_mayWait_50 : decode cX6_mayWait 50 = .ok (.invokevirtual 171, 3) := by decide +kernel
theorem dX6_mayWait_53 : decode cX6_mayWait 53 = .ok (.iload_n 2, 1) := by decide +kernel
theorem dX6_mayWait_54 : decode cX6_mayWait 54 = .ok (.if_icmp .le 5, 3) := by decide +kernel
theorem dX6_mayWait_57 : decode cX6_mayWait 57 = .ok (.iload_n 3, 1) := by decide +kernel
theorem dX6_mayWait_58 : decode cX6_mayWait 58 = .ok (.ireturn, 1) := by decide +kernel
theorem dX6_mayWait_59 : decode cX6_mayWait 59 = .ok (.aload_n 0, 1) := by decide +kernel
theorem dX6_mayWait_60 : decode cX6_mayWait 60 = .ok (.getfield 13, 3) := by decide +kernel
theorem dX6_mayWait_63 : decode cX6_mayWait 63 = .ok (.invokestatic 141, 3) := by decide +kernel
theorem dX6_mayWait_66 : decode cX6_mayWait 66 = .ok (.iinc 3 1, 3) := by decide +kernel
theorem dX6_mayWait_69 : decode cX6_mayWait 69 = .ok (.goto (-32), 3) := by decide +kernel
theorem dX6_mayWait_72 : decode cX6_mayWait 72 = .ok (.bipush (-9), 2) := by decide +kernel
theorem dX6_mayWait_74 : decode cX6_mayWait 74 = .ok (.ireturn, 1) := by decide +kernel
theorem dX6_leftOut_0 : decode cX6_leftOut 0 = .ok (.iload_n 1, 1) := by decide +kernel
theorem dX6_leftOut_1 : decode cX6_leftOut 1 = .ok (.invokestatic 138, 3) := by decide +kernel
theorem dX6_leftOut_4 : decode cX6_leftOut 4 = .ok (.ifCond .ne 9, 3) := by decide +kernel
theorem dX6_leftOut_7 : decode cX6_leftOut 7 = .ok (.aload_n 0, 1) := by decide +kernel
theorem dX6_leftOut_8 : decode cX6_leftOut 8 = .ok (.iconst (-1), 1) := by decide +kernel
theorem dX6_leftOut_9 : decode cX6_leftOut 9 = .ok (.invokevirtual 51, 3) := by decide +kernel
theorem dX6_leftOut_12 : decode cX6_leftOut 12 = .ok (.ireturn, 1) := by decide +kernel
theorem dX6_leftOut_13 : decode cX6_leftOut 13 = .ok (.bipush (-9), 2) := by decide +kernel
theorem dX6_leftOut_15 : decode cX6_leftOut 15 = .ok (.istore_n 2, 1) := by decide +kernel
theorem dX6_leftOut_16 : decode cX6_leftOut 16 = .ok (.iconst (-1), 1) := by decide +kernel
theorem dX6_leftOut_17 : decode cX6_leftOut 17 = .ok (.istore_n 3, 1) := by decide +kernel
theorem dX6_leftOut_18 : decode cX6_leftOut 18 = .ok (.iconst 0, 1) := by decide +kernel
theorem dX6_leftOut_19 : decode cX6_leftOut 19 = .ok (.istore 4, 2) := by decide +kernel
theorem dX6_leftOut_21 : decode cX6_leftOut 21 = .ok (.iload 4, 2) := by decide +kernel
theorem dX6_leftOut_23 : decode cX6_leftOut 23 = .ok (.aload_n 0, 1) := by decide +kernel
theorem dX6_leftOut_24 : decode cX6_leftOut 24 = .ok (.getfield 9, 3) := by decide +kernel
theorem dX6_leftOut_27 : decode cX6_leftOut 27 = .ok (.iconst 0, 1) := by decide +kernel
theorem dX6_leftOut_28 : decode cX6_leftOut 28 = .ok (.iaload, 1) := by decide +kernel
theorem dX6_leftOut_29 : decode cX6_leftOut 29 = .ok (.if_icmp .ge 56, 3) := by decide +kernel
theorem dX6_leftOut_32 : decode cX6_leftOut 32 = .ok (.aload_n 0, 1) := by decide +kernel
theorem dX6_leftOut_33 : decode cX6_leftOut 33 = .ok (.aload_n 0, 1) := by decide +kernel
theorem dX6_leftOut_34 : decode cX6_leftOut 34 = .ok (.getfield 9, 3) := by decide +kernel
theorem dX6_leftOut_37 : decode cX6_leftOut 37 = .ok (.iconst 0, 1) := by decide +kernel
theorem dX6_leftOut_38 : decode cX6_leftOut 38 = .ok (.iload 4, 2) := by decide +kernel
theorem dX6_leftOut_40 : decode cX6_leftOut 40 = .ok (.invokevirtual 106, 3) := by decide +kernel
theorem dX6_leftOut_43 : decode cX6_leftOut 43 = .ok (.aload_n 0, 1) := by decide +kernel
theorem dX6_leftOut_44 : decode cX6_leftOut 44 = .ok (.aload_n 0, 1) := by decide +kernel
theorem dX6_leftOut_45 : decode cX6_leftOut 45 = .ok (.getfield 9, 3) := by decide +kernel
theorem dX6_leftOut_48 : decode cX6_leftOut 48 = .ok (.iload_n 1, 1) := by decide +kernel
theorem dX6_leftOut_49 : decode cX6_leftOut 49 = .ok (.invokevirtual 110, 3) := by decide +kernel
theorem dX6_leftOut_52 : decode cX6_leftOut 52 = .ok (.aload_n 0, 1) := by decide +kernel
theorem dX6_leftOut_53 : decode cX6_leftOut 53 = .ok (.aload_n 0, 1) := by decide +kernel
theorem dX6_leftOut_54 : decode cX6_leftOut 54 = .ok (.getfield 9, 3) := by decide +kernel
theorem dX6_leftOut_57 : decode cX6_leftOut 57 = .ok (.invokevirtual 114, 3) := by decide +kernel
theorem dX6_leftOut_60 : decode cX6_leftOut 60 = .ok (.iload_n 3, 1) := by decide +kernel
theorem dX6_leftOut_61 : decode cX6_leftOut 61 = .ok (.if_icmp .gt 6, 3) := by decide +kernel
theorem dX6_leftOut_64 : decode cX6_leftOut 64 = .ok (.goto 15, 3) := by decide +kernel
theorem dX6_leftOut_67 : decode cX6_leftOut 67 = .ok (.iload 4, 2) := by decide +kernel
theorem dX6_leftOut_69 : decode cX6_leftOut 69 = .ok (.istore_n 2, 1) := by decide +kernel
theorem dX6_leftOut_70 : decode cX6_leftOut 70 = .ok (.aload_n 0, 1) := by decide +kernel
theorem dX6_leftOut_71 : decode cX6_leftOut 71 = .ok (.aload_n 0, 1) := by decide +kernel
theorem dX6_leftOut_72 : decode cX6_leftOut 72 = .ok (.getfield 9, 3) := by decide +kernel
theorem dX6_leftOut_75 : decode cX6_leftOut 75 = .ok (.invokevirtual 114, 3) := by decide +kernel
theorem dX6_leftOut_78 : decode cX6_leftOut 78 = .ok (.istore_n 3, 1) := by decide +kernel
theorem dX6_leftOut_79 : decode cX6_leftOut 79 = .ok (.iinc 4 1, 3) := by decide +kernel
theorem dX6_leftOut_82 : decode cX6_leftOut 82 = .ok (.goto (-61), 3) := by decide +kernel
theorem dX6_leftOut_85 : decode cX6_leftOut 85 = .ok (.iload_n 2, 1) := by decide +kernel
theorem dX6_leftOut_86 : decode cX6_leftOut 86 = .ok (.ireturn, 1) := by decide +kernel
theorem dX6_bits_0 : decode cX6_bits 0 = .ok (.iconst 0, 1) := by decide +kernel
theorem dX6_bits_1 : decode cX6_bits 1 = .ok (.istore_n 1, 1) := by decide +kernel
theorem dX6_bits_2 : decode cX6_bits 2 = .ok (.iconst 0, 1) := by decide +kernel
theorem dX6_bits_3 : decode cX6_bits 3 = .ok (.istore_n 2, 1) := by decide +kernel
theorem dX6_bits_4 : decode cX6_bits 4 = .ok (.iload_n 2, 1) := by decide +kernel
theorem dX6_bits_5 : decode cX6_bits 5 = .ok (.bipush 10, 2) := by decide +kernel
theorem dX6_bits_7 : decode cX6_bits 7 = .ok (.if_icmp .ge 17, 3) := by decide +kernel
theorem dX6_bits_10 : decode cX6_bits 10 = .ok (.iload_n 1, 1) := by decide +kernel
theorem dX6_bits_11 : decode cX6_bits 11 = .ok (.iload_n 0, 1) := by decide +kernel
theorem dX6_bits_12 : decode cX6_bits 12 = .ok (.iload_n 2, 1) := by decide +kernel
theorem dX6_bits_13 : decode cX6_bits 13 = .ok (.ishr, 1) := by decide +kernel
theorem dX6_bits_14 : decode cX6_bits 14 = .ok (.iconst 1, 1) := by decide +kernel
theorem dX6_bits_15 : decode cX6_bits 15 = .ok (.iand, 1) := by decide +kernel
theorem dX6_bits_16 : decode cX6_bits 16 = .ok (.iadd, 1) := by decide +kernel
theorem dX6_bits_17 : decode cX6_bits 17 = .ok (.istore_n 1, 1) := by decide +kernel
theorem dX6_bits_18 : decode cX6_bits 18 = .ok (.iinc 2 1, 3) := by decide +kernel
theorem dX6_bits_21 : decode cX6_bits 21 = .ok (.goto (-17), 3) := by decide +kernel
theorem dX6_bits_24 : decode cX6_bits 24 = .ok (.iload_n 1, 1) := by decide +kernel
theorem dX6_bits_25 : decode cX6_bits 25 = .ok (.ireturn, 1) := by decide +kernel
theorem dX6_enough_0 : decode cX6_enough 0 = .ok (.iload_n 1, 1) := by decide +kernel
theorem dX6_enough_1 : decode cX6_enough 1 = .ok (.invokestatic 138, 3) := by decide +kernel
theorem dX6_enough_4 : decode cX6_enough 4 = .ok (.ifCond .ne 9, 3) := by decide +kernel
theorem dX6_enough_7 : decode cX6_enough 7 = .ok (.aload_n 0, 1) := by decide +kernel
theorem dX6_enough_8 : decode cX6_enough 8 = .ok (.iconst (-1), 1) := by decide +kernel
theorem dX6_enough_9 : decode cX6_enough 9 = .ok (.invokevirtual 51, 3) := by decide +kernel
theorem dX6_enough_12 : decode cX6_enough 12 = .ok (.ireturn, 1) := by decide +kernel
theorem dX6_enough_13 : decode cX6_enough 13 = .ok (.aload_n 0, 1) := by decide +kernel
theorem dX6_enough_14 : decode cX6_enough 14 = .ok (.aload_n 0, 1) := by decide +kernel
theorem dX6_enough_15 : decode cX6_enough 15 = .ok (.getfield 9, 3) := by decide +kernel
theorem dX6_enough_18 : decode cX6_enough 18 = .ok (.iload_n 1, 1) := by decide +kernel
theorem dX6_enough_19 : decode cX6_enough 19 = .ok (.iconst 0, 1) := by decide +kernel
theorem dX6_enough_20 : decode cX6_enough 20 = .ok (.invokevirtual 171, 3) := by decide +kernel
theorem dX6_enough_23 : decode cX6_enough 23 = .ok (.istore_n 2, 1) := by decide +kernel
theorem dX6_enough_24 : decode cX6_enough 24 = .ok (.iconst 1, 1) := by decide +kernel
theorem dX6_enough_25 : decode cX6_enough 25 = .ok (.aload_n 0, 1) := by decide +kernel
theorem dX6_enough_26 : decode cX6_enough 26 = .ok (.getfield 9, 3) := by decide +kernel
theorem dX6_enough_29 : decode cX6_enough 29 = .ok (.iconst 0, 1) := by decide +kernel
theorem dX6_enough_30 : decode cX6_enough 30 = .ok (.iaload, 1) := by decide +kernel
theorem dX6_enough_31 : decode cX6_enough 31 = .ok (.ishl, 1) := by decide +kernel
theorem dX6_enough_32 : decode cX6_enough 32 = .ok (.iconst 1, 1) := by decide +kernel
theorem dX6_enough_33 : decode cX6_enough 33 = .ok (.isub, 1) := by decide +kernel
theorem dX6_enough_34 : decode cX6_enough 34 = .ok (.istore_n 3, 1) := by decide +kernel
theorem dX6_enough_35 : decode cX6_enough 35 = .ok (.iconst 0, 1) := by decide +kernel
theorem dX6_enough_36 : decode cX6_enough 36 = .ok (.istore 4, 2) := by decide +kernel
theorem dX6_enough_38 : decode cX6_enough 38 = .ok (.iload 4, 2) := by decide +kernel
theorem dX6_enough_40 : decode cX6_enough 40 = .ok (.iconst 1, 1) := by decide +kernel
theorem dX6_enough_41 : decode cX6_enough 41 = .ok (.aload_n 0, 1) := by decide +kernel
theorem dX6_enough_42 : decode cX6_enough 42 = .ok (.getfield 9, 3) := by decide +kernel
theorem dX6_enough_45 : decode cX6_enough 45 = .ok (.iconst 0, 1) := by decide +kernel
theorem dX6_enough_46 : decode cX6_enough 46 = .ok (.iaload, 1) := by decide +kernel
theorem dX6_enough_47 : decode cX6_enough 47 = .ok (.ishl, 1) := by decide +kernel
theorem dX6_enough_48 : decode cX6_enough 48 = .ok (.if_icmp .ge 107, 3) := by decide +kernel
theorem dX6_enough_51 : decode cX6_enough 51 = .ok (.iload 4, 2) := by decide +kernel
theorem dX6_enough_53 : decode cX6_enough 53 = .ok (.invokestatic 175, 3) := by decide +kernel
theorem dX6_enough_56 : decode cX6_enough 56 = .ok (.iload_n 3, 1) := by decide +kernel
theorem dX6_enough_57 : decode cX6_enough 57 = .ok (.invokestatic 175, 3) := by decide +kernel
theorem dX6_enough_60 : decode cX6_enough 60 = .ok (.if_icmp .lt 6, 3) := by decide +kernel
theorem dX6_enough_63 : decode cX6_enough 63 = .ok (.goto 86, 3) := by decide +kernel
theorem dX6_enough_66 : decode cX6_enough 66 = .ok (.aload_n 0, 1) := by decide +kernel
theorem dX6_enough_67 : decode cX6_enough 67 = .ok (.iconst 0, 1) := by decide +kernel
theorem dX6_enough_68 : decode cX6_enough 68 = .ok (.putfield 96, 3) := by decide +kernel
theorem dX6_enough_71 : decode cX6_enough 71 = .ok (.iconst 0, 1) := by decide +kernel
theorem dX6_enough_72 : decode cX6_enough 72 = .ok (.istore 5, 2) := by decide +kernel
theorem dX6_enough_74 : decode cX6_enough 74 = .ok (.iload 5, 2) := by decide +kernel
theorem dX6_enough_76 : decode cX6_enough 76 = .ok (.aload_n 0, 1) := by decide +kernel
theorem dX6_enough_77 : decode cX6_enough 77 = .ok (.getfield 9, 3) := by decide +kernel
theorem dX6_enough_80 : decode cX6_enough 80 = .ok (.iconst 0, 1) := by decide +kernel
theorem dX6_enough_81 : decode cX6_enough 81 = .ok (.iaload, 1) := by decide +kernel
theorem dX6_enough_82 : decode cX6_enough 82 = .ok (.if_icmp .ge 43, 3) := by decide +kernel
theorem dX6_enough_85 : decode cX6_enough 85 = .ok (.iload 4, 2) := by decide +kernel
theorem dX6_enough_87 : decode cX6_enough 87 = .ok (.iload 5, 2) := by decide +kernel
theorem dX6_enough_89 : decode cX6_enough 89 = .ok (.ishr, 1) := by decide +kernel
theorem dX6_enough_90 : decode cX6_enough 90 = .ok (.iconst 1, 1) := by decide +kernel
theorem dX6_enough_91 : decode cX6_enough 91 = .ok (.iand, 1) := by decide +kernel
theorem dX6_enough_92 : decode cX6_enough 92 = .ok (.ifCond .ne 6, 3) := by decide +kernel
theorem dX6_enough_95 : decode cX6_enough 95 = .ok (.goto 24, 3) := by decide +kernel
theorem dX6_enough_98 : decode cX6_enough 98 = .ok (.aload_n 0, 1) := by decide +kernel
theorem dX6_enough_99 : decode cX6_enough 99 = .ok (.getfield 43, 3) := by decide +kernel
theorem dX6_enough_102 : decode cX6_enough 102 = .ok (.aload_n 0, 1) := by decide +kernel
theorem dX6_enough_103 : decode cX6_enough 103 = .ok (.getfield 96, 3) := by decide +kernel
theorem dX6_enough_106 : decode cX6_enough 106 = .ok (.iload 5, 2) := by decide +kernel
theorem dX6_enough_108 : decode cX6_enough 108 = .ok (.iastore, 1) := by decide +kernel
theorem dX6_enough_109 : decode cX6_enough 109 = .ok (.aload_n 0, 1) := by decide +kernel
theorem dX6_enough_110 : decode cX6_enough 110 = .ok (.dup, 1) := by decide +kernel
theorem dX6_enough_111 : decode cX6_enough 111 = .ok (.getfield 96, 3) := by decide +kernel
theorem dX6_enough_114 : decode cX6_enough 114 = .ok (.iconst 1, 1) := by decide +kernel
theorem dX6_enough_115 : decode cX6_enough 115 = .ok (.iadd, 1) := by decide +kernel
theorem dX6_enough_116 : decode cX6_enough 116 = .ok (.putfield 96, 3) := by decide +kernel
theorem dX6_enough_119 : decode cX6_enough 119 = .ok (.iinc 5 1, 3) := by decide +kernel
theorem dX6_enough_122 : decode cX6_enough 122 = .ok (.goto (-48), 3) := by decide +kernel
theorem dX6_enough_125 : decode cX6_enough 125 = .ok (.aload_n 0, 1) := by decide +kernel
theorem dX6_enough_126 : decode cX6_enough 126 = .ok (.aload_n 0, 1) := by decide +kernel
theorem dX6_enough_127 : decode cX6_enough 127 = .ok (.getfield 9, 3) := by decide +kernel
theorem dX6_enough_130 : decode cX6_enough 130 = .ok (.iload_n 1, 1) := by decide +kernel
theorem dX6_enough_131 : decode cX6_enough 131 = .ok (.invokevirtual 110, 3) := by decide +kernel
theorem dX6_enough_134 : decode cX6_enough 134 = .ok (.aload_n 0, 1) := by decide +kernel
theorem dX6_enough_135 : decode cX6_enough 135 = .ok (.aload_n 0, 1) := by decide +kernel
theorem dX6_enough_136 : decode cX6_enough 136 = .ok (.getfield 9, 3) := by decide +kernel
theorem dX6_enough_139 : decode cX6_enough 139 = .ok (.invokevirtual 114, 3) := by decide +kernel
theorem dX6_enough_142 : decode cX6_enough 142 = .ok (.iload_n 2, 1) := by decide +kernel
theorem dX6_enough_143 : decode cX6_enough 143 = .ok (.if_icmp .gt 6, 3) := by decide +kernel
theorem dX6_enough_146 : decode cX6_enough 146 = .ok (.iload 4, 2) := by decide +kernel
theorem dX6_enough_148 : decode cX6_enough 148 = .ok (.istore_n 3, 1) := by decide +kernel
theorem dX6_enough_149 : decode cX6_enough 149 = .ok (.iinc 4 1, 3) := by decide +kernel
theorem dX6_enough_152 : decode cX6_enough 152 = .ok (.goto (-114), 3) := by decide +kernel
theorem dX6_enough_155 : decode cX6_enough 155 = .ok (.iload_n 3, 1) := by decide +kernel
theorem dX6_enough_156 : decode cX6_enough 156 = .ok (.ireturn, 1) := by decide +kernel
theorem dX6_wall_0 : decode cX6_wall 0 = .ok (.iload_n 1, 1) := by decide +kernel
theorem dX6_wall_1 : decode cX6_wall 1 = .ok (.invokestatic 138, 3) := by decide +kernel
theorem dX6_wall_4 : decode cX6_wall 4 = .ok (.ifCond .ne 9, 3) := by decide +kernel
theorem dX6_wall_7 : decode cX6_wall 7 = .ok (.aload_n 0, 1) := by decide +kernel
theorem dX6_wall_8 : decode cX6_wall 8 = .ok (.iconst (-1), 1) := by decide +kernel
theorem dX6_wall_9 : decode cX6_wall 9 = .ok (.invokevirtual 51, 3) := by decide +kernel
theorem dX6_wall_12 : decode cX6_wall 12 = .ok (.ireturn, 1) := by decide +kernel
theorem dX6_wall_13 : decode cX6_wall 13 = .ok (.bipush (-9), 2) := by decide +kernel
theorem dX6_wall_15 : decode cX6_wall 15 = .ok (.istore_n 2, 1) := by decide +kernel
theorem dX6_wall_16 : decode cX6_wall 16 = .ok (.aload_n 0, 1) := by decide +kernel
theorem dX6_wall_17 : decode cX6_wall 17 = .ok (.aload_n 0, 1) := by decide +kernel
theorem dX6_wall_18 : decode cX6_wall 18 = .ok (.getfield 9, 3) := by decide +kernel
theorem dX6_wall_21 : decode cX6_wall 21 = .ok (.iload_n 1, 1) := by decide +kernel
theorem dX6_wall_22 : decode cX6_wall 22 = .ok (.iconst 0, 1) := by decide +kernel
theorem dX6_wall_23 : decode cX6_wall 23 = .ok (.invokevirtual 171, 3) := by decide +kernel
theorem dX6_wall_26 : decode cX6_wall 26 = .ok (.istore_n 3, 1) := by decide +kernel
theorem dX6_wall_27 : decode cX6_wall 27 = .ok (.iconst 0, 1) := by decide +kernel
theorem dX6_wall_28 : decode cX6_wall 28 = .ok (.istore 4, 2) := by decide +kernel
theorem dX6_wall_30 : decode cX6_wall 30 = .ok (.iload 4, 2) := by decide +kernel
theorem dX6_wall_32 : decode cX6_wall 32 = .ok (.bipush 25, 2) := by decide +kernel
theorem dX6_wall_34 : decode cX6_wall 34 = .ok (.if_icmp .ge 66, 3) := by decide +kernel
theorem dX6_wall_37 : decode cX6_wall 37 = .ok (.iload 4, 2) := by decide +kernel
theorem dX6_wall_39 : decode cX6_wall 39 = .ok (.iload_n 1, 1) := by decide +kernel
theorem dX6_wall_40 : decode cX6_wall 40 = .ok (.if_icmp .ne 6, 3) := by decide +kernel
theorem dX6_wall_43 : decode cX6_wall 43 = .ok (.goto 51, 3) := by decide +kernel
theorem dX6_wall_46 : decode cX6_wall 46 = .ok (.aload_n 0, 1) := by decide +kernel
theorem dX6_wall_47 : decode cX6_wall 47 = .ok (.getfield 9, 3) := by decide +kernel
theorem dX6_wall_50 : decode cX6_wall 50 = .ok (.aload_n 0, 1) := by decide +kernel
theorem dX6_wall_51 : decode cX6_wall 51 = .ok (.getfield 13, 3) := by decide +kernel
theorem dX6_wall_54 : decode cX6_wall 54 = .ok (.invokestatic 147, 3) := by decide +kernel
theorem dX6_wall_57 : decode cX6_wall 57 = .ok (.aload_n 0, 1) := by decide +kernel
theorem dX6_wall_58 : decode cX6_wall 58 = .ok (.getfield 13, 3) := by decide +kernel
theorem dX6_wall_61 : decode cX6_wall 61 = .ok (.iconst 2, 1) := by decide +kernel
theorem dX6_wall_62 : decode cX6_wall 62 = .ok (.iload 4, 2) := by decide +kernel
theorem dX6_wall_64 : decode cX6_wall 64 = .ok (.iadd, 1) := by decide +kernel
theorem dX6_wall_65 : decode cX6_wall 65 = .ok (.iconst 4, 1) := by decide +kernel
theorem dX6_wall_66 : decode cX6_wall 66 = .ok (.iastore, 1) := by decide +kernel
theorem dX6_wall_67 : decode cX6_wall 67 = .ok (.aload_n 0, 1) := by decide +kernel
theorem dX6_wall_68 : decode cX6_wall 68 = .ok (.aload_n 0, 1) := by decide +kernel
theorem dX6_wall_69 : decode cX6_wall 69 = .ok (.getfield 13, 3) := by decide +kernel
theorem dX6_wall_72 : decode cX6_wall 72 = .ok (.iload_n 1, 1) := by decide +kernel
theorem dX6_wall_73 : decode cX6_wall 73 = .ok (.iconst 0, 1) := by decide +kernel
theorem dX6_wall_74 : decode cX6_wall 74 = .ok (.invokevirtual 171, 3) := by decide +kernel
theorem dX6_wall_77 : decode cX6_wall 77 = .ok (.istore 5, 2) := by decide +kernel
theorem dX6_wall_79 : decode cX6_wall 79 = .ok (.iload 5, 2) := by decide +kernel
theorem dX6_wall_81 : decode cX6_wall 81 = .ok (.iload_n 3, 1) := by decide +kernel
theorem dX6_wall_82 : decode cX6_wall 82 = .ok (.if_icmp .lt 6, 3) := by decide +kernel
theorem dX6_wall_85 : decode cX6_wall 85 = .ok (.goto 9, 3) := by decide +kernel
theorem dX6_wall_88 : decode cX6_wall 88 = .ok (.iload 4, 2) := by decide +kernel
theorem dX6_wall_90 : decode cX6_wall 90 = .ok (.istore_n 2, 1) := by decide +kernel
theorem dX6_wall_91 : decode cX6_wall 91 = .ok (.iload 5, 2) := by decide +kernel
theorem dX6_wall_93 : decode cX6_wall 93 = .ok (.istore_n 3, 1) := by decide +kernel
theorem dX6_wall_94 : decode cX6_wall 94 = .ok (.iinc 4 1, 3) := by decide +kernel
theorem dX6_wall_97 : decode cX6_wall 97 = .ok (.goto (-67), 3) := by decide +kernel
theorem dX6_wall_100 : decode cX6_wall 100 = .ok (.iload_n 2, 1) := by decide +kernel
theorem dX6_wall_101 : decode cX6_wall 101 = .ok (.ireturn, 1) := by decide +kernel
theorem dX6_captain_0 : decode cX6_captain 0 = .ok (.iload_n 1, 1) := by decide +kernel
theorem dX6_captain_1 : decode cX6_captain 1 = .ok (.invokestatic 138, 3) := by decide +kernel
theorem dX6_captain_4 : decode cX6_captain 4 = .ok (.ifCond .eq 15, 3) := by decide +kernel
theorem dX6_captain_7 : decode cX6_captain 7 = .ok (.iload_n 2, 1) := by decide +kernel
theorem dX6_captain_8 : decode cX6_captain 8 = .ok (.invokestatic 138, 3) := by decide +kernel
theorem dX6_captain_11 : decode cX6_captain 11 = .ok (.ifCond .eq 8, 3) := by decide +kernel
theorem dX6_captain_14 : decode cX6_captain 14 = .ok (.iload_n 1, 1) := by decide +kernel
theorem dX6_captain_15 : decode cX6_captain 15 = .ok (.iload_n 2, 1) := by decide +kernel
theorem dX6_captain_16 : decode cX6_captain 16 = .ok (.if_icmp .ne 9, 3) := by decide +kernel
theorem dX6_captain_19 : decode cX6_captain 19 = .ok (.aload_n 0, 1) := by decide +kernel
theorem dX6_captain_20 : decode cX6_captain 20 = .ok (.iconst (-1), 1) := by decide +kernel
theorem dX6_captain_21 : decode cX6_captain 21 = .ok (.invokevirtual 51, 3) := by decide +kernel
theorem dX6_captain_24 : decode cX6_captain 24 = .ok (.ireturn, 1) := by decide +kernel
theorem dX6_captain_25 : decode cX6_captain 25 = .ok (.iload_n 3, 1) := by decide +kernel
theorem dX6_captain_26 : decode cX6_captain 26 = .ok (.iconst 0, 1) := by decide +kernel
theorem dX6_captain_27 : decode cX6_captain 27 = .ok (.iconst 1, 1) := by decide +kernel
theorem dX6_captain_28 : decode cX6_captain 28 = .ok (.invokestatic 55, 3) := by decide +kernel
theorem dX6_captain_31 : decode cX6_captain 31 = .ok (.ifCond .ne 10, 3) := by decide +kernel
theorem dX6_captain_34 : decode cX6_captain 34 = .ok (.aload_n 0, 1) := by decide +kernel
theorem dX6_captain_35 : decode cX6_captain 35 = .ok (.bipush (-2), 2) := by decide +kernel
theorem dX6_captain_37 : decode cX6_captain 37 = .ok (.invokevirtual 51, 3) := by decide +kernel
theorem dX6_captain_40 : decode cX6_captain 40 = .ok (.ireturn, 1) := by decide +kernel
theorem dX6_captain_41 : decode cX6_captain 41 = .ok (.bipush (-9), 2) := by decide +kernel
theorem dX6_captain_43 : decode cX6_captain 43 = .ok (.istore 4, 2) := by decide +kernel
theorem dX6_captain_45 : decode cX6_captain 45 = .ok (.ldc 63, 2) := by decide +kernel
theorem dX6_captain_47 : decode cX6_captain 47 = .ok (.istore 5, 2) := by decide +kernel
theorem dX6_captain_49 : decode cX6_captain 49 = .ok (.iconst 0, 1) := by decide +kernel
theorem dX6_captain_50 : decode cX6_captain 50 = .ok (.istore 6, 2) := by decide +kernel
theorem dX6_captain_52 : decode cX6_captain 52 = .ok (.iload 6, 2) := by decide +kernel
theorem dX6_captain_54 : decode cX6_captain 54 = .ok (.aload_n 0, 1) := by decide +kernel
theorem dX6_captain_55 : decode cX6_captain 55 = .ok (.getfield 9, 3) := by decide +kernel
theorem dX6_captain_58 : decode cX6_captain 58 = .ok (.iconst 0, 1) := by decide +kernel
theorem dX6_captain_59 : decode cX6_captain 59 = .ok (.iaload, 1) := by decide +kernel
theorem dX6_captain_60 : decode cX6_captain 60 = .ok (.if_icmp .ge 54, 3) := by decide +kernel
theorem dX6_captain_63 : decode cX6_captain 63 = .ok (.aload_n 0, 1) := by decide +kernel
theorem dX6_captain_64 : decode cX6_captain 64 = .ok (.aload_n 0, 1) := by decide +kernel
theorem dX6_captain_65 : decode cX6_captain 65 = .ok (.getfield 9, 3) := by decide +kernel
theorem dX6_captain_68 : decode cX6_captain 68 = .ok (.iload_n 1, 1) := by decide +kernel
theorem dX6_captain_69 : decode cX6_captain 69 = .ok (.iload 6, 2) := by decide +kernel
theorem dX6_captain_71 : decode cX6_captain 71 = .ok (.invokevirtual 171, 3) := by decide +kernel
theorem dX6_captain_74 : decode cX6_captain 74 = .ok (.aload_n 0, 1) := by decide +kernel
theorem dX6_captain_75 : decode cX6_captain 75 = .ok (.aload_n 0, 1) := by decide +kernel
theorem dX6_captain_76 : decode cX6_captain 76 = .ok (.getfield 9, 3) := by decide +kernel
theorem dX6_captain_79 : decode cX6_captain 79 = .ok (.iload_n 2, 1) := by decide +kernel
theorem dX6_captain_80 : decode cX6_captain 80 = .ok (.iload 6, 2) := by decide +kernel
theorem dX6_captain_82 : decode cX6_captain 82 = .ok (.invokevirtual 171, 3) := by decide +kernel
theorem dX6_captain_85 : decode cX6_captain 85 = .ok (.invokestatic 72, 3) := by decide +kernel
theorem dX6_captain_88 : decode cX6_captain 88 = .ok (.istore 7, 2) := by decide +kernel
theorem dX6_captain_90 : decode cX6_captain 90 = .ok (.iload 7, 2) := by decide +kernel
theorem dX6_captain_92 : decode cX6_captain 92 = .ok (.iload 5, 2) := by decide +kernel
theorem dX6_captain_94 : decode cX6_captain 94 = .ok (.if_icmp .lt 6, 3) := by decide +kernel
theorem dX6_captain_97 : decode cX6_captain 97 = .ok (.goto 11, 3) := by decide +kernel
theorem dX6_captain_100 : decode cX6_captain 100 = .ok (.iload 6, 2) := by decide +kernel
theorem dX6_captain_102 : decode cX6_captain 102 = .ok (.istore 4, 2) := by decide +kernel
theorem dX6_captain_104 : decode cX6_captain 104 = .ok (.iload 7, 2) := by decide +kernel
theorem dX6_captain_106 : decode cX6_captain 106 = .ok (.istore 5, 2) := by decide +kernel
theorem dX6_captain_108 : decode cX6_captain 108 = .ok (.iinc 6 1, 3) := by decide +kernel
theorem dX6_captain_111 : decode cX6_captain 111 = .ok (.goto (-59), 3) := by decide +kernel
theorem dX6_captain_114 : decode cX6_captain 114 = .ok (.iload 4, 2) := by decide +kernel
theorem dX6_captain_116 : decode cX6_captain 116 = .ok (.ifCond .lt 7, 3) := by decide +kernel
theorem dX6_captain_119 : decode cX6_captain 119 = .ok (.iload_n 3, 1) := by decide +kernel
theorem dX6_captain_120 : decode cX6_captain 120 = .ok (.ifCond .ne 8, 3) := by decide +kernel
theorem dX6_captain_123 : decode cX6_captain 123 = .ok (.iload 4, 2) := by decide +kernel
theorem dX6_captain_125 : decode cX6_captain 125 = .ok (.goto 5, 3) := by decide +kernel
theorem dX6_captain_128 : decode cX6_captain 128 = .ok (.iload 5, 2) := by decide +kernel
theorem dX6_captain_130 : decode cX6_captain 130 = .ok (.ireturn, 1) := by decide +kernel
theorem dX6_unlike_0 : decode cX6_unlike 0 = .ok (.aload_n 0, 1) := by decide +kernel
theorem dX6_unlike_1 : decode cX6_unlike 1 = .ok (.iload_n 1, 1) := by decide +kernel
theorem dX6_unlike_2 : decode cX6_unlike 2 = .ok (.invokevirtual 59, 3) := by decide +kernel
theorem dX6_unlike_5 : decode cX6_unlike 5 = .ok (.ifCond .eq 16, 3) := by decide +kernel
theorem dX6_unlike_8 : decode cX6_unlike 8 = .ok (.aload_n 0, 1) := by decide +kernel
theorem dX6_unlike_9 : decode cX6_unlike 9 = .ok (.iload_n 2, 1) := by decide +kernel
theorem dX6_unlike_10 : decode cX6_unlike 10 = .ok (.invokevirtual 59, 3) := by decide +kernel
theorem dX6_unlike_13 : decode cX6_unlike 13 = .ok (.ifCond .eq 8, 3) := by decide +kernel
theorem dX6_unlike_16 : decode cX6_unlike 16 = .ok (.iload_n 1, 1) := by decide +kernel
theorem dX6_unlike_17 : decode cX6_unlike 17 = .ok (.iload_n 2, 1) := by decide +kernel
theorem dX6_unlike_18 : decode cX6_unlike 18 = .ok (.if_icmp .ne 9, 3) := by decide +kernel
theorem dX6_unlike_21 : decode cX6_unlike 21 = .ok (.aload_n 0, 1) := by decide +kernel
theorem dX6_unlike_22 : decode cX6_unlike 22 = .ok (.iconst (-1), 1) := by decide +kernel
theorem dX6_unlike_23 : decode cX6_unlike 23 = .ok (.invokevirtual 51, 3) := by decide +kernel
theorem dX6_unlike_26 : decode cX6_unlike 26 = .ok (.ireturn, 1) := by decide +kernel
theorem dX6_unlike_27 : decode cX6_unlike 27 = .ok (.iload_n 3, 1) := by decide +kernel
theorem dX6_unlike_28 : decode cX6_unlike 28 = .ok (.iconst 0, 1) := by decide +kernel
theorem dX6_unlike_29 : decode cX6_unlike 29 = .ok (.iconst 1, 1) := by decide +kernel
theorem dX6_unlike_30 : decode cX6_unlike 30 = .ok (.invokestatic 55, 3) := by decide +kernel
theorem dX6_unlike_33 : decode cX6_unlike 33 = .ok (.ifCond .ne 10, 3) := by decide +kernel
theorem dX6_unlike_36 : decode cX6_unlike 36 = .ok (.aload_n 0, 1) := by decide +kernel
theorem dX6_unlike_37 : decode cX6_unlike 37 = .ok (.bipush (-2), 2) := by decide +kernel
theorem dX6_unlike_39 : decode cX6_unlike 39 = .ok (.invokevirtual 51, 3) := by decide +kernel
theorem dX6_unlike_42 : decode cX6_unlike 42 = .ok (.ireturn, 1) := by decide +kernel
theorem dX6_unlike_43 : decode cX6_unlike 43 = .ok (.iconst 0, 1) := by decide +kernel
theorem dX6_unlike_44 : decode cX6_unlike 44 = .ok (.istore 4, 2) := by decide +kernel
theorem dX6_unlike_46 : decode cX6_unlike 46 = .ok (.bipush (-9), 2) := by decide +kernel
theorem dX6_unlike_48 : decode cX6_unlike 48 = .ok (.istore 5, 2) := by decide +kernel
theorem dX6_unlike_50 : decode cX6_unlike 50 = .ok (.iconst 0, 1) := by decide +kernel
theorem dX6_unlike_51 : decode cX6_unlike 51 = .ok (.istore 6, 2) := by decide +kernel
theorem dX6_unlike_53 : decode cX6_unlike 53 = .ok (.iload 6, 2) := by decide +kernel
theorem dX6_unlike_55 : decode cX6_unlike 55 = .ok (.bipush 25, 2) := by decide +kernel
theorem dX6_unlike_57 : decode cX6_unlike 57 = .ok (.if_icmp .ge 55, 3) := by decide +kernel
theorem dX6_unlike_60 : decode cX6_unlike 60 = .ok (.aload_n 0, 1) := by decide +kernel
theorem dX6_unlike_61 : decode cX6_unlike 61 = .ok (.getfield 9, 3) := by decide +kernel
theorem dX6_unlike_64 : decode cX6_unlike 64 = .ok (.iload_n 1, 1) := by decide +kernel
theorem dX6_unlike_65 : decode cX6_unlike 65 = .ok (.iload 6, 2) := by decide +kernel
theorem dX6_unlike_67 : decode cX6_unlike 67 = .ok (.invokestatic 81, 3) := by decide +kernel
theorem dX6_unlike_70 : decode cX6_unlike 70 = .ok (.ifCond .eq 36, 3) := by decide +kernel
theorem dX6_unlike_73 : decode cX6_unlike 73 = .ok (.aload_n 0, 1) := by decide +kernel
theorem dX6_unlike_74 : decode cX6_unlike 74 = .ok (.getfield 9, 3) := by decide +kernel
theorem dX6_unlike_77 : decode cX6_unlike 77 = .ok (.iload_n 2, 1) := by decide +kernel
theorem dX6_unlike_78 : decode cX6_unlike 78 = .ok (.iload 6, 2) := by decide +kernel
theorem dX6_unlike_80 : decode cX6_unlike 80 = .ok (.invokestatic 81, 3) := by decide +kernel
theorem dX6_unlike_83 : decode cX6_unlike 83 = .ok (.ifCond .eq 6, 3) := by decide +kernel
theorem dX6_unlike_86 : decode cX6_unlike 86 = .ok (.goto 20, 3) := by decide +kernel
theorem dX6_unlike_89 : decode cX6_unlike 89 = .ok (.iload 4, 2) := by decide +kernel
theorem dX6_unlike_91 : decode cX6_unlike 91 = .ok (.ifCond .ne 8, 3) := by decide +kernel
theorem dX6_unlike_94 : decode cX6_unlike 94 = .ok (.iload 6, 2) := by decide +kernel
theorem dX6_unlike_96 : decode cX6_unlike 96 = .ok (.goto 5, 3) := by decide +kernel
theorem dX6_unlike_99 : decode cX6_unlike 99 = .ok (.iload 5, 2) := by decide +kernel
theorem dX6_unlike_101 : decode cX6_unlike 101 = .ok (.istore 5, 2) := by decide +kernel
theorem dX6_unlike_103 : decode cX6_unlike 103 = .ok (.iinc 4 1, 3) := by decide +kernel
theorem dX6_unlike_106 : decode cX6_unlike 106 = .ok (.iinc 6 1, 3) := by decide +kernel
theorem dX6_unlike_109 : decode cX6_unlike 109 = .ok (.goto (-56), 3) := by decide +kernel
theorem dX6_unlike_112 : decode cX6_unlike 112 = .ok (.iload_n 3, 1) := by decide +kernel
theorem dX6_unlike_113 : decode cX6_unlike 113 = .ok (.ifCond .ne 8, 3) := by decide +kernel
theorem dX6_unlike_116 : decode cX6_unlike 116 = .ok (.iload 4, 2) := by decide +kernel
theorem dX6_unlike_118 : decode cX6_unlike 118 = .ok (.goto 5, 3) := by decide +kernel
theorem dX6_unlike_121 : decode cX6_unlike 121 = .ok (.iload 5, 2) := by decide +kernel
theorem dX6_unlike_123 : decode cX6_unlike 123 = .ok (.ireturn, 1) := by decide +kernel
theorem dX6_sure_0 : decode cX6_sure 0 = .ok (.iload_n 1, 1) := by decide +kernel
theorem dX6_sure_1 : decode cX6_sure 1 = .ok (.iconst 0, 1) := by decide +kernel
theorem dX6_sure_2 : decode cX6_sure 2 = .ok (.iconst 1, 1) := by decide +kernel
theorem dX6_sure_3 : decode cX6_sure 3 = .ok (.invokestatic 55, 3) := by decide +kernel
theorem dX6_sure_6 : decode cX6_sure 6 = .ok (.ifCond .ne 10, 3) := by decide +kernel
theorem dX6_sure_9 : decode cX6_sure 9 = .ok (.aload_n 0, 1) := by decide +kernel
theorem dX6_sure_10 : decode cX6_sure 10 = .ok (.bipush (-2), 2) := by decide +kernel
theorem dX6_sure_12 : decode cX6_sure 12 = .ok (.invokevirtual 51, 3) := by decide +kernel
theorem dX6_sure_15 : decode cX6_sure 15 = .ok (.ireturn, 1) := by decide +kernel
theorem dX6_sure_16 : decode cX6_sure 16 = .ok (.iload_n 1, 1) := by decide +kernel
theorem dX6_sure_17 : decode cX6_sure 17 = .ok (.ifCond .ne 11, 3) := by decide +kernel
theorem dX6_sure_20 : decode cX6_sure 20 = .ok (.aload_n 0, 1) := by decide +kernel
theorem dX6_sure_21 : decode cX6_sure 21 = .ok (.iconst 1, 1) := by decide +kernel
theorem dX6_sure_22 : decode cX6_sure 22 = .ok (.invokevirtual 154, 3) := by decide +kernel
theorem dX6_sure_25 : decode cX6_sure 25 = .ok (.goto 11, 3) := by decide +kernel
theorem dX6_sure_28 : decode cX6_sure 28 = .ok (.bipush 25, 2) := by decide +kernel
theorem dX6_sure_30 : decode cX6_sure 30 = .ok (.aload_n 0, 1) := by decide +kernel
theorem dX6_sure_31 : decode cX6_sure 31 = .ok (.iconst 0, 1) := by decide +kernel
theorem dX6_sure_32 : decode cX6_sure 32 = .ok (.invokevirtual 154, 3) := by decide +kernel
theorem dX6_sure_35 : decode cX6_sure 35 = .ok (.isub, 1) := by decide +kernel
theorem dX6_sure_36 : decode cX6_sure 36 = .ok (.ireturn, 1) := by decide +kernel
theorem dX6_gcd_0 : decode cX6_gcd 0 = .ok (.lload_n 0, 1) := by decide +kernel
theorem dX6_gcd_1 : decode cX6_gcd 1 = .ok (.lstore 4, 2) := by decide +kernel
theorem dX6_gcd_3 : decode cX6_gcd 3 = .ok (.lload_n 2, 1) := by decide +kernel
theorem dX6_gcd_4 : decode cX6_gcd 4 = .ok (.lstore 6, 2) := by decide +kernel
theorem dX6_gcd_6 : decode cX6_gcd 6 = .ok (.lload 6, 2) := by decide +kernel
theorem dX6_gcd_8 : decode cX6_gcd 8 = .ok (.lconst 0, 1) := by decide +kernel
theorem dX6_gcd_9 : decode cX6_gcd 9 = .ok (.lcmp, 1) := by decide +kernel
theorem dX6_gcd_10 : decode cX6_gcd 10 = .ok (.ifCond .eq 21, 3) := by decide +kernel
theorem dX6_gcd_13 : decode cX6_gcd 13 = .ok (.lload 4, 2) := by decide +kernel
theorem dX6_gcd_15 : decode cX6_gcd 15 = .ok (.lload 6, 2) := by decide +kernel
theorem dX6_gcd_17 : decode cX6_gcd 17 = .ok (.lrem, 1) := by decide +kernel
theorem dX6_gcd_18 : decode cX6_gcd 18 = .ok (.lstore 8, 2) := by decide +kernel
theorem dX6_gcd_20 : decode cX6_gcd 20 = .ok (.lload 6, 2) := by decide +kernel
theorem dX6_gcd_22 : decode cX6_gcd 22 = .ok (.lstore 4, 2) := by decide +kernel
theorem dX6_gcd_24 : decode cX6_gcd 24 = .ok (.lload 8, 2) := by decide +kernel
theorem dX6_gcd_26 : decode cX6_gcd 26 = .ok (.lstore 6, 2) := by decide +kernel
theorem dX6_gcd_28 : decode cX6_gcd 28 = .ok (.goto (-22), 3) := by decide +kernel
theorem dX6_gcd_31 : decode cX6_gcd 31 = .ok (.lload 4, 2) := by decide +kernel
theorem dX6_gcd_33 : decode cX6_gcd 33 = .ok (.lreturn, 1) := by decide +kernel
theorem dX6_partOf_0 : decode cX6_partOf 0 = .ok (.lload_n 0, 1) := by decide +kernel
theorem dX6_partOf_1 : decode cX6_partOf 1 = .ok (.lconst 0, 1) := by decide +kernel
theorem dX6_partOf_2 : decode cX6_partOf 2 = .ok (.lcmp, 1) := by decide +kernel
theorem dX6_partOf_3 : decode cX6_partOf 3 = .ok (.ifCond .ne 7, 3) := by decide +kernel
theorem dX6_partOf_6 : decode cX6_partOf 6 = .ok (.iload 4, 2) := by decide +kernel
theorem dX6_partOf_8 : decode cX6_partOf 8 = .ok (.i2l, 1) := by decide +kernel
theorem dX6_partOf_9 : decode cX6_partOf 9 = .ok (.lreturn, 1) := by decide +kernel
theorem dX6_partOf_10 : decode cX6_partOf 10 = .ok (.iload 4, 2) := by decide +kernel
theorem dX6_partOf_12 : decode cX6_partOf 12 = .ok (.ifCond .ne 7, 3) := by decide +kernel
theorem dX6_partOf_15 : decode cX6_partOf 15 = .ok (.lload_n 0, 1) := by decide +kernel
theorem dX6_partOf_16 : decode cX6_partOf 16 = .ok (.goto 4, 3) := by decide +kernel
theorem dX6_partOf_19 : decode cX6_partOf 19 = .ok (.lload_n 2, 1) := by decide +kernel
theorem dX6_partOf_20 : decode cX6_partOf 20 = .ok (.lload_n 0, 1) := by decide +kernel
theorem dX6_partOf_21 : decode cX6_partOf 21 = .ok (.lload_n 2, 1) := by decide +kernel
theorem dX6_partOf_22 : decode cX6_partOf 22 = .ok (.invokestatic 178, 3) := by decide +kernel
theorem dX6_partOf_25 : decode cX6_partOf 25 = .ok (.ldiv, 1) := by decide +kernel
theorem dX6_partOf_26 : decode cX6_partOf 26 = .ok (.lreturn, 1) := by decide +kernel
theorem dX6_slip_0 : decode cX6_slip 0 = .ok (.iload_n 1, 1) := by decide +kernel
theorem dX6_slip_1 : decode cX6_slip 1 = .ok (.invokestatic 138, 3) := by decide +kernel
theorem dX6_slip_4 : decode cX6_slip 4 = .ok (.ifCond .ne 9, 3) := by decide +kernel
theorem dX6_slip_7 : decode cX6_slip 7 = .ok (.aload_n 0, 1) := by decide +kernel
theorem dX6_slip_8 : decode cX6_slip 8 = .ok (.iconst (-1), 1) := by decide +kernel
theorem dX6_slip_9 : decode cX6_slip 9 = .ok (.invokevirtual 182, 3) := by decide +kernel
theorem dX6_slip_12 : decode cX6_slip 12 = .ok (.lreturn, 1) := by decide +kernel
theorem dX6_slip_13 : decode cX6_slip 13 = .ok (.iload_n 2, 1) := by decide +kernel
theorem dX6_slip_14 : decode cX6_slip 14 = .ok (.ifCond .lt 13, 3) := by decide +kernel
theorem dX6_slip_17 : decode cX6_slip 17 = .ok (.iload 4, 2) := by decide +kernel
theorem dX6_slip_19 : decode cX6_slip 19 = .ok (.ifCond .lt 8, 3) := by decide +kernel
theorem dX6_slip_22 : decode cX6_slip 22 = .ok (.iload_n 3, 1) := by decide +kernel
theorem dX6_slip_23 : decode cX6_slip 23 = .ok (.iconst 2, 1) := by decide +kernel
theorem dX6_slip_24 : decode cX6_slip 24 = .ok (.if_icmp .ge 10, 3) := by decide +kernel
theorem dX6_slip_27 : decode cX6_slip 27 = .ok (.aload_n 0, 1) := by decide +kernel
theorem dX6_slip_28 : decode cX6_slip 28 = .ok (.bipush (-4), 2) := by decide +kernel
theorem dX6_slip_30 : decode cX6_slip 30 = .ok (.invokevirtual 182, 3) := by decide +kernel
theorem dX6_slip_33 : decode cX6_slip 33 = .ok (.lreturn, 1) := by decide +kernel
theorem dX6_slip_34 : decode cX6_slip 34 = .ok (.iload_n 2, 1) := by decide +kernel
theorem dX6_slip_35 : decode cX6_slip 35 = .ok (.bipush 7, 2) := by decide +kernel
theorem dX6_slip_37 : decode cX6_slip 37 = .ok (.if_icmp .gt 17, 3) := by decide +kernel
theorem dX6_slip_40 : decode cX6_slip 40 = .ok (.iload_n 3, 1) := by decide +kernel
theorem dX6_slip_41 : decode cX6_slip 41 = .ok (.bipush 20, 2) := by decide +kernel
theorem dX6_slip_43 : decode cX6_slip 43 = .ok (.if_icmp .gt 11, 3) := by decide +kernel
theorem dX6_slip_46 : decode cX6_slip 46 = .ok (.iload 4, 2) := by decide +kernel
theorem dX6_slip_48 : decode cX6_slip 48 = .ok (.sipush 999, 3) := by decide +kernel
theorem dX6_slip_51 : decode cX6_slip 51 = .ok (.if_icmp .le 10, 3) := by decide +kernel
theorem dX6_slip_54 : decode cX6_slip 54 = .ok (.aload_n 0, 1) := by decide +kernel
theorem dX6_slip_55 : decode cX6_slip 55 = .ok (.bipush (-6), 2) := by decide +kernel
theorem dX6_slip_57 : decode cX6_slip 57 = .ok (.invokevirtual 182, 3) := by decide +kernel
theorem dX6_slip_60 : decode cX6_slip 60 = .ok (.lreturn, 1) := by decide +kernel
theorem dX6_slip_61 : decode cX6_slip 61 = .ok (.iload 5, 2) := by decide +kernel
theorem dX6_slip_63 : decode cX6_slip 63 = .ok (.iconst 0, 1) := by decide +kernel
theorem dX6_slip_64 : decode cX6_slip 64 = .ok (.iconst 1, 1) := by decide +kernel
theorem dX6_slip_65 : decode cX6_slip 65 = .ok (.invokestatic 55, 3) := by decide +kernel
theorem dX6_slip_68 : decode cX6_slip 68 = .ok (.ifCond .ne 10, 3) := by decide +kernel
theorem dX6_slip_71 : decode cX6_slip 71 = .ok (.aload_n 0, 1) := by decide +kernel
theorem dX6_slip_72 : decode cX6_slip 72 = .ok (.bipush (-2), 2) := by decide +kernel
theorem dX6_slip_74 : decode cX6_slip 74 = .ok (.invokevirtual 182, 3) := by decide +kernel
theorem dX6_slip_77 : decode cX6_slip 77 = .ok (.lreturn, 1) := by decide +kernel
theorem dX6_slip_78 : decode cX6_slip 78 = .ok (.lconst 0, 1) := by decide +kernel
theorem dX6_slip_79 : decode cX6_slip 79 = .ok (.lstore 6, 2) := by decide +kernel
theorem dX6_slip_81 : decode cX6_slip 81 = .ok (.lconst 1, 1) := by decide +kernel
theorem dX6_slip_82 : decode cX6_slip 82 = .ok (.lstore 8, 2) := by decide +kernel
theorem dX6_slip_84 : decode cX6_slip 84 = .ok (.iconst 0, 1) := by decide +kernel
theorem dX6_slip_85 : decode cX6_slip 85 = .ok (.istore 10, 2) := by decide +kernel
theorem dX6_slip_87 : decode cX6_slip 87 = .ok (.iload 10, 2) := by decide +kernel
theorem dX6_slip_89 : decode cX6_slip 89 = .ok (.iload_n 2, 1) := by decide +kernel
theorem dX6_slip_90 : decode cX6_slip 90 = .ok (.if_icmp .ge 16, 3) := by decide +kernel
theorem dX6_slip_93 : decode cX6_slip 93 = .ok (.lload 8, 2) := by decide +kernel
theorem dX6_slip_95 : decode cX6_slip 95 = .ok (.iload_n 3, 1) := by decide +kernel
theorem dX6_slip_96 : decode cX6_slip 96 = .ok (.i2l, 1) := by decide +kernel
theorem dX6_slip_97 : decode cX6_slip 97 = .ok (.lmul, 1) := by decide +kernel
theorem dX6_slip_98 : decode cX6_slip 98 = .ok (.lstore 8, 2) := by decide +kernel
theorem dX6_slip_100 : decode cX6_slip 100 = .ok (.iinc 10 1, 3) := by decide +kernel
theorem dX6_slip_103 : decode cX6_slip 103 = .ok (.goto (-16), 3) := by decide +kernel
theorem dX6_slip_106 : decode cX6_slip 106 = .ok (.iconst 0, 1) := by decide +kernel
theorem dX6_slip_107 : decode cX6_slip 107 = .ok (.istore 10, 2) := by decide +kernel
theorem dX6_slip_109 : decode cX6_slip 109 = .ok (.iload 10, 2) := by decide +kernel
theorem dX6_slip_111 : decode cX6_slip 111 = .ok (.iconst 1, 1) := by decide +kernel
theorem dX6_slip_112 : decode cX6_slip 112 = .ok (.iload_n 2, 1) := by decide +kernel
theorem dX6_slip_113 : decode cX6_slip 113 = .ok (.ishl, 1) := by decide +kernel
theorem dX6_slip_114 : decode cX6_slip 114 = .ok (.if_icmp .ge 90, 3) := by decide +kernel
theorem dX6_slip_117 : decode cX6_slip 117 = .ok (.lconst 1, 1) := by decide +kernel
theorem dX6_slip_118 : decode cX6_slip 118 = .ok (.lstore 11, 2) := by decide +kernel
theorem dX6_slip_120 : decode cX6_slip 120 = .ok (.iload 10, 2) := by decide +kernel
theorem dX6_slip_122 : decode cX6_slip 122 = .ok (.invokestatic 175, 3) := by decide +kernel
theorem dX6_slip_125 : decode cX6_slip 125 = .ok (.istore 13, 2) := by decide +kernel
theorem dX6_slip_127 : decode cX6_slip 127 = .ok (.iload 13, 2) := by decide +kernel
theorem dX6_slip_129 : decode cX6_slip 129 = .ok (.iload_n 2, 1) := by decide +kernel
theorem dX6_slip_130 : decode cX6_slip 130 = .ok (.if_icmp .ge 18, 3) := by decide +kernel
theorem dX6_slip_133 : decode cX6_slip 133 = .ok (.lload 11, 2) := by decide +kernel
theorem dX6_slip_135 : decode cX6_slip 135 = .ok (.iload_n 3, 1) := by decide +kernel
theorem dX6_slip_136 : decode cX6_slip 136 = .ok (.iconst 1, 1) := by decide +kernel
theorem dX6_slip_137 : decode cX6_slip 137 = .ok (.isub, 1) := by decide +kernel
theorem dX6_slip_138 : decode cX6_slip 138 = .ok (.i2l, 1) := by decide +kernel
theorem dX6_slip_139 : decode cX6_slip 139 = .ok (.lmul, 1) := by decide +kernel
theorem dX6_slip_140 : decode cX6_slip 140 = .ok (.lstore 11, 2) := by decide +kernel
theorem dX6_slip_142 : decode cX6_slip 142 = .ok (.iinc 13 1, 3) := by decide +kernel
theorem dX6_slip_145 : decode cX6_slip 145 = .ok (.goto (-18), 3) := by decide +kernel
theorem dX6_slip_148 : decode cX6_slip 148 = .ok (.aload_n 0, 1) := by decide +kernel
theorem dX6_slip_149 : decode cX6_slip 149 = .ok (.aload_n 0, 1) := by decide +kernel
theorem dX6_slip_150 : decode cX6_slip 150 = .ok (.getfield 9, 3) := by decide +kernel
theorem dX6_slip_153 : decode cX6_slip 153 = .ok (.iconst 0, 1) := by decide +kernel
theorem dX6_slip_154 : decode cX6_slip 154 = .ok (.bipush (-9), 2) := by decide +kernel
theorem dX6_slip_156 : decode cX6_slip 156 = .ok (.invokevirtual 106, 3) := by decide +kernel
theorem dX6_slip_159 : decode cX6_slip 159 = .ok (.aload_n 0, 1) := by decide +kernel
theorem dX6_slip_160 : decode cX6_slip 160 = .ok (.iload 10, 2) := by decide +kernel
theorem dX6_slip_162 : decode cX6_slip 162 = .ok (.putfield 100, 3) := by decide +kernel
theorem dX6_slip_165 : decode cX6_slip 165 = .ok (.aload_n 0, 1) := by decide +kernel
theorem dX6_slip_166 : decode cX6_slip 166 = .ok (.aload_n 0, 1) := by decide +kernel
theorem dX6_slip_167 : decode cX6_slip 167 = .ok (.getfield 9, 3) := by decide +kernel
theorem dX6_slip_170 : decode cX6_slip 170 = .ok (.iload_n 1, 1) := by decide +kernel
theorem dX6_slip_171 : decode cX6_slip 171 = .ok (.invokevirtual 110, 3) := by decide +kernel
theorem dX6_slip_174 : decode cX6_slip 174 = .ok (.lload 6, 2) := by decide +kernel
theorem dX6_slip_176 : decode cX6_slip 176 = .ok (.aload_n 0, 1) := by decide +kernel
theorem dX6_slip_177 : decode cX6_slip 177 = .ok (.aload_n 0, 1) := by decide +kernel
theorem dX6_slip_178 : decode cX6_slip 178 = .ok (.getfield 9, 3) := by decide +kernel
theorem dX6_slip_181 : decode cX6_slip 181 = .ok (.invokevirtual 114, 3) := by decide +kernel
theorem dX6_slip_184 : decode cX6_slip 184 = .ok (.iload 4, 2) := by decide +kernel
theorem dX6_slip_186 : decode cX6_slip 186 = .ok (.if_icmp .gt 8, 3) := by decide +kernel
theorem dX6_slip_189 : decode cX6_slip 189 = .ok (.lload 11, 2) := by decide +kernel
theorem dX6_slip_191 : decode cX6_slip 191 = .ok (.goto 4, 3) := by decide +kernel
theorem dX6_slip_194 : decode cX6_slip 194 = .ok (.lconst 0, 1) := by decide +kernel
theorem dX6_slip_195 : decode cX6_slip 195 = .ok (.ladd, 1) := by decide +kernel
theorem dX6_slip_196 : decode cX6_slip 196 = .ok (.lstore 6, 2) := by decide +kernel
theorem dX6_slip_198 : decode cX6_slip 198 = .ok (.iinc 10 1, 3) := by decide +kernel
theorem dX6_slip_201 : decode cX6_slip 201 = .ok (.goto (-92), 3) := by decide +kernel
theorem dX6_slip_204 : decode cX6_slip 204 = .ok (.aload_n 0, 1) := by decide +kernel
theorem dX6_slip_205 : decode cX6_slip 205 = .ok (.iconst 0, 1) := by decide +kernel
theorem dX6_slip_206 : decode cX6_slip 206 = .ok (.putfield 100, 3) := by decide +kernel
theorem dX6_slip_209 : decode cX6_slip 209 = .ok (.lload 6, 2) := by decide +kernel
theorem dX6_slip_211 : decode cX6_slip 211 = .ok (.lload 8, 2) := by decide +kernel
theorem dX6_slip_213 : decode cX6_slip 213 = .ok (.iload 5, 2) := by decide +kernel
theorem dX6_slip_215 : decode cX6_slip 215 = .ok (.invokestatic 186, 3) := by decide +kernel
theorem dX6_slip_218 : decode cX6_slip 218 = .ok (.lreturn, 1) := by decide +kernel
theorem dX6_whatWas_0 : decode cX6_whatWas 0 = .ok (.iload_n 1, 1) := by decide +kernel
theorem dX6_whatWas_1 : decode cX6_whatWas 1 = .ok (.invokestatic 138, 3) := by decide +kernel
theorem dX6_whatWas_4 : decode cX6_whatWas 4 = .ok (.ifCond .eq 10, 3) := by decide +kernel
theorem dX6_whatWas_7 : decode cX6_whatWas 7 = .ok (.iload_n 2, 1) := by decide +kernel
theorem dX6_whatWas_8 : decode cX6_whatWas 8 = .ok (.invokestatic 138, 3) := by decide +kernel
theorem dX6_whatWas_11 : decode cX6_whatWas 11 = .ok (.ifCond .ne 9, 3) := by decide +kernel
theorem dX6_whatWas_14 : decode cX6_whatWas 14 = .ok (.aload_n 0, 1) := by decide +kernel
theorem dX6_whatWas_15 : decode cX6_whatWas 15 = .ok (.iconst (-1), 1) := by decide +kernel
theorem dX6_whatWas_16 : decode cX6_whatWas 16 = .ok (.invokevirtual 51, 3) := by decide +kernel
theorem dX6_whatWas_19 : decode cX6_whatWas 19 = .ok (.ireturn, 1) := by decide +kernel
theorem dX6_whatWas_20 : decode cX6_whatWas 20 = .ok (.iload_n 3, 1) := by decide +kernel
theorem dX6_whatWas_21 : decode cX6_whatWas 21 = .ok (.iconst 0, 1) := by decide +kernel
theorem dX6_whatWas_22 : decode cX6_whatWas 22 = .ok (.iconst 1, 1) := by decide +kernel
theorem dX6_whatWas_23 : decode cX6_whatWas 23 = .ok (.invokestatic 55, 3) := by decide +kernel
theorem dX6_whatWas_26 : decode cX6_whatWas 26 = .ok (.ifCond .ne 10, 3) := by decide +kernel
theorem dX6_whatWas_29 : decode cX6_whatWas 29 = .ok (.aload_n 0, 1) := by decide +kernel
theorem dX6_whatWas_30 : decode cX6_whatWas 30 = .ok (.bipush (-2), 2) := by decide +kernel
theorem dX6_whatWas_32 : decode cX6_whatWas 32 = .ok (.invokevirtual 51, 3) := by decide +kernel
theorem dX6_whatWas_35 : decode cX6_whatWas 35 = .ok (.ireturn, 1) := by decide +kernel
theorem dX6_whatWas_36 : decode cX6_whatWas 36 = .ok (.iconst 0, 1) := by decide +kernel
theorem dX6_whatWas_37 : decode cX6_whatWas 37 = .ok (.istore 4, 2) := by decide +kernel
theorem dX6_whatWas_39 : decode cX6_whatWas 39 = .ok (.iconst 0, 1) := by decide +kernel
theorem dX6_whatWas_40 : decode cX6_whatWas 40 = .ok (.istore 5, 2) := by decide +kernel
theorem dX6_whatWas_42 : decode cX6_whatWas 42 = .ok (.iload 5, 2) := by decide +kernel
theorem dX6_whatWas_44 : decode cX6_whatWas 44 = .ok (.iload_n 3, 1) := by decide +kernel
theorem dX6_whatWas_45 : decode cX6_whatWas 45 = .ok (.ifCond .ne 8, 3) := by decide +kernel
theorem dX6_whatWas_48 : decode cX6_whatWas 48 = .ok (.bipush 6, 2) := by decide +kernel
theorem dX6_whatWas_50 : decode cX6_whatWas 50 = .ok (.goto 5, 3) := by decide +kernel
theorem dX6_whatWas_53 : decode cX6_whatWas 53 = .ok (.bipush 10, 2) := by decide +kernel
theorem dX6_whatWas_55 : decode cX6_whatWas 55 = .ok (.if_icmp .ge 132, 3) := by decide +kernel
theorem dX6_whatWas_58 : decode cX6_whatWas 58 = .ok (.aload_n 0, 1) := by decide +kernel
theorem dX6_whatWas_59 : decode cX6_whatWas 59 = .ok (.getfield 9, 3) := by decide +kernel
theorem dX6_whatWas_62 : decode cX6_whatWas 62 = .ok (.aload_n 0, 1) := by decide +kernel
theorem dX6_whatWas_63 : decode cX6_whatWas 63 = .ok (.getfield 13, 3) := by decide +kernel
theorem dX6_whatWas_66 : decode cX6_whatWas 66 = .ok (.invokestatic 147, 3) := by decide +kernel
theorem dX6_whatWas_69 : decode cX6_whatWas 69 = .ok (.aload_n 0, 1) := by decide +kernel
theorem dX6_whatWas_70 : decode cX6_whatWas 70 = .ok (.getfield 13, 3) := by decide +kernel
theorem dX6_whatWas_73 : decode cX6_whatWas 73 = .ok (.iload_n 3, 1) := by decide +kernel
theorem dX6_whatWas_74 : decode cX6_whatWas 74 = .ok (.ifCond .ne 7, 3) := by decide +kernel
theorem dX6_whatWas_77 : decode cX6_whatWas 77 = .ok (.iconst 2, 1) := by decide +kernel
theorem dX6_whatWas_78 : decode cX6_whatWas 78 = .ok (.goto 5, 3) := by decide +kernel
theorem dX6_whatWas_81 : decode cX6_whatWas 81 = .ok (.bipush 27, 2) := by decide +kernel
theorem dX6_whatWas_83 : decode cX6_whatWas 83 = .ok (.iload_n 2, 1) := by decide +kernel
theorem dX6_whatWas_84 : decode cX6_whatWas 84 = .ok (.iadd, 1) := by decide +kernel
theorem dX6_whatWas_85 : decode cX6_whatWas 85 = .ok (.iload 5, 2) := by decide +kernel
theorem dX6_whatWas_87 : decode cX6_whatWas 87 = .ok (.iastore, 1) := by decide +kernel
theorem dX6_whatWas_88 : decode cX6_whatWas 88 = .ok (.aload_n 0, 1) := by decide +kernel
theorem dX6_whatWas_89 : decode cX6_whatWas 89 = .ok (.aload_n 0, 1) := by decide +kernel
theorem dX6_whatWas_90 : decode cX6_whatWas 90 = .ok (.getfield 13, 3) := by decide +kernel
theorem dX6_whatWas_93 : decode cX6_whatWas 93 = .ok (.iload_n 1, 1) := by decide +kernel
theorem dX6_whatWas_94 : decode cX6_whatWas 94 = .ok (.iconst 0, 1) := by decide +kernel
theorem dX6_whatWas_95 : decode cX6_whatWas 95 = .ok (.invokevirtual 171, 3) := by decide +kernel
theorem dX6_whatWas_98 : decode cX6_whatWas 98 = .ok (.istore 6, 2) := by decide +kernel
theorem dX6_whatWas_100 : decode cX6_whatWas 100 = .ok (.iconst 1, 1) := by decide +kernel
theorem dX6_whatWas_101 : decode cX6_whatWas 101 = .ok (.istore 7, 2) := by decide +kernel
theorem dX6_whatWas_103 : decode cX6_whatWas 103 = .ok (.iconst 0, 1) := by decide +kernel
theorem dX6_whatWas_104 : decode cX6_whatWas 104 = .ok (.istore 8, 2) := by decide +kernel
theorem dX6_whatWas_106 : decode cX6_whatWas 106 = .ok (.iload 8, 2) := by decide +kernel
theorem dX6_whatWas_108 : decode cX6_whatWas 108 = .ok (.aload_n 0, 1) := by decide +kernel
theorem dX6_whatWas_109 : decode cX6_whatWas 109 = .ok (.getfield 190, 3) := by decide +kernel
theorem dX6_whatWas_112 : decode cX6_whatWas 112 = .ok (.if_icmp .ge 51, 3) := by decide +kernel
theorem dX6_whatWas_115 : decode cX6_whatWas 115 = .ok (.iload 7, 2) := by decide +kernel
theorem dX6_whatWas_117 : decode cX6_whatWas 117 = .ok (.aload_n 0, 1) := by decide +kernel
theorem dX6_whatWas_118 : decode cX6_whatWas 118 = .ok (.getfield 31, 3) := by decide +kernel
theorem dX6_whatWas_121 : decode cX6_whatWas 121 = .ok (.iload 8, 2) := by decide +kernel
theorem dX6_whatWas_123 : decode cX6_whatWas 123 = .ok (.iaload, 1) := by decide +kernel
theorem dX6_whatWas_124 : decode cX6_whatWas 124 = .ok (.ifCond .ge 8, 3) := by decide +kernel
theorem dX6_whatWas_127 : decode cX6_whatWas 127 = .ok (.bipush 99, 2) := by decide +kernel
theorem dX6_whatWas_129 : decode cX6_whatWas 129 = .ok (.goto 10, 3) := by decide +kernel
theorem dX6_whatWas_132 : decode cX6_whatWas 132 = .ok (.aload_n 0, 1) := by decide +kernel
theorem dX6_whatWas_133 : decode cX6_whatWas 133 = .ok (.getfield 31, 3) := by decide +kernel
theorem dX6_whatWas_136 : decode cX6_whatWas 136 = .ok (.iload 8, 2) := by decide +kernel
theorem dX6_whatWas_138 : decode cX6_whatWas 138 = .ok (.iaload, 1) := by decide +kernel
theorem dX6_whatWas_139 : decode cX6_whatWas 139 = .ok (.aload_n 0, 1) := by decide +kernel
theorem dX6_whatWas_140 : decode cX6_whatWas 140 = .ok (.getfield 25, 3) := by decide +kernel
theorem dX6_whatWas_143 : decode cX6_whatWas 143 = .ok (.iload 8, 2) := by decide +kernel
theorem dX6_whatWas_145 : decode cX6_whatWas 145 = .ok (.iaload, 1) := by decide +kernel
theorem dX6_whatWas_146 : decode cX6_whatWas 146 = .ok (.if_icmp .ne 7, 3) := by decide +kernel
theorem dX6_whatWas_149 : decode cX6_whatWas 149 = .ok (.iconst 1, 1) := by decide +kernel
theorem dX6_whatWas_150 : decode cX6_whatWas 150 = .ok (.goto 4, 3) := by decide +kernel
theorem dX6_whatWas_153 : decode cX6_whatWas 153 = .ok (.iconst 0, 1) := by decide +kernel
theorem dX6_whatWas_154 : decode cX6_whatWas 154 = .ok (.iand, 1) := by decide +kernel
theorem dX6_whatWas_155 : decode cX6_whatWas 155 = .ok (.istore 7, 2) := by decide +kernel
theorem dX6_whatWas_157 : decode cX6_whatWas 157 = .ok (.iinc 8 1, 3) := by decide +kernel
theorem dX6_whatWas_160 : decode cX6_whatWas 160 = .ok (.goto (-54), 3) := by decide +kernel
theorem dX6_whatWas_163 : decode cX6_whatWas 163 = .ok (.iload 4, 2) := by decide +kernel
theorem dX6_whatWas_165 : decode cX6_whatWas 165 = .ok (.iload 7, 2) := by decide +kernel
theorem dX6_whatWas_167 : decode cX6_whatWas 167 = .ok (.ifCond .eq 10, 3) := by decide +kernel
theorem dX6_whatWas_170 : decode cX6_whatWas 170 = .ok (.iconst 1, 1) := by decide +kernel
theorem dX6_whatWas_171 : decode cX6_whatWas 171 = .ok (.iload 5, 2) := by decide +kernel
theorem dX6_whatWas_173 : decode cX6_whatWas 173 = .ok (.ishl, 1) := by decide +kernel
theorem dX6_whatWas_174 : decode cX6_whatWas 174 = .ok (.goto 4, 3) := by decide +kernel
theorem dX6_whatWas_177 : decode cX6_whatWas 177 = .ok (.iconst 0, 1) := by decide +kernel
theorem dX6_whatWas_178 : decode cX6_whatWas 178 = .ok (.ior, 1) := by decide +kernel
theorem dX6_whatWas_179 : decode cX6_whatWas 179 = .ok (.istore 4, 2) := by decide +kernel
theorem dX6_whatWas_181 : decode cX6_whatWas 181 = .ok (.iinc 5 1, 3) := by decide +kernel
theorem dX6_whatWas_184 : decode cX6_whatWas 184 = .ok (.goto (-142), 3) := by decide +kernel
theorem dX6_whatWas_187 : decode cX6_whatWas 187 = .ok (.iload 4, 2) := by decide +kernel
theorem dX6_whatWas_189 : decode cX6_whatWas 189 = .ok (.ireturn, 1) := by decide +kernel
theorem dX6_row_0 : decode cX6_row 0 = .ok (.iload_n 1, 1) := by decide +kernel
theorem dX6_row_1 : decode cX6_row 1 = .ok (.ifCond .ge 10, 3) := by decide +kernel
theorem dX6_row_4 : decode cX6_row 4 = .ok (.aload_n 0, 1) := by decide +kernel
theorem dX6_row_5 : decode cX6_row 5 = .ok (.bipush (-4), 2) := by decide +kernel
theorem dX6_row_7 : decode cX6_row 7 = .ok (.invokevirtual 51, 3) := by decide +kernel
theorem dX6_row_10 : decode cX6_row 10 = .ok (.ireturn, 1) := by decide +kernel
theorem dX6_row_11 : decode cX6_row 11 = .ok (.iload_n 1, 1) := by decide +kernel
theorem dX6_row_12 : decode cX6_row 12 = .ok (.bipush 99, 2) := by decide +kernel
theorem dX6_row_14 : decode cX6_row 14 = .ok (.if_icmp .gt 12, 3) := by decide +kernel
theorem dX6_row_17 : decode cX6_row 17 = .ok (.aload_n 0, 1) := by decide +kernel
theorem dX6_row_18 : decode cX6_row 18 = .ok (.getfield 190, 3) := by decide +kernel
theorem dX6_row_21 : decode cX6_row 21 = .ok (.bipush 25, 2) := by decide +kernel
theorem dX6_row_23 : decode cX6_row 23 = .ok (.if_icmp .ne 10, 3) := by decide +kernel
theorem dX6_row_26 : decode cX6_row 26 = .ok (.aload_n 0, 1) := by decide +kernel
theorem dX6_row_27 : decode cX6_row 27 = .ok (.bipush (-6), 2) := by decide +kernel
theorem dX6_row_29 : decode cX6_row 29 = .ok (.invokevirtual 51, 3) := by decide +kernel
theorem dX6_row_32 : decode cX6_row 32 = .ok (.ireturn, 1) := by decide +kernel
theorem dX6_row_33 : decode cX6_row 33 = .ok (.aload_n 0, 1) := by decide +kernel
theorem dX6_row_34 : decode cX6_row 34 = .ok (.getfield 25, 3) := by decide +kernel
theorem dX6_row_37 : decode cX6_row 37 = .ok (.aload_n 0, 1) := by decide +kernel
theorem dX6_row_38 : decode cX6_row 38 = .ok (.getfield 190, 3) := by decide +kernel
theorem dX6_row_41 : decode cX6_row 41 = .ok (.iload_n 1, 1) := by decide +kernel
theorem dX6_row_42 : decode cX6_row 42 = .ok (.iastore, 1) := by decide +kernel
theorem dX6_row_43 : decode cX6_row 43 = .ok (.aload_n 0, 1) := by decide +kernel
theorem dX6_row_44 : decode cX6_row 44 = .ok (.dup, 1) := by decide +kernel
theorem dX6_row_45 : decode cX6_row 45 = .ok (.getfield 190, 3) := by decide +kernel
theorem dX6_row_48 : decode cX6_row 48 = .ok (.iconst 1, 1) := by decide +kernel
theorem dX6_row_49 : decode cX6_row 49 = .ok (.iadd, 1) := by decide +kernel
theorem dX6_row_50 : decode cX6_row 50 = .ok (.putfield 190, 3) := by decide +kernel
theorem dX6_row_53 : decode cX6_row 53 = .ok (.aload_n 0, 1) := by decide +kernel
theorem dX6_row_54 : decode cX6_row 54 = .ok (.getfield 190, 3) := by decide +kernel
theorem dX6_row_57 : decode cX6_row 57 = .ok (.ireturn, 1) := by decide +kernel
theorem dX6_judge_0 : decode cX6_judge 0 = .ok (.iload_n 1, 1) := by decide +kernel
theorem dX6_judge_1 : decode cX6_judge 1 = .ok (.invokestatic 138, 3) := by decide +kernel
theorem dX6_judge_4 : decode cX6_judge 4 = .ok (.ifCond .ne 9, 3) := by decide +kernel
theorem dX6_judge_7 : decode cX6_judge 7 = .ok (.aload_n 0, 1) := by decide +kernel
theorem dX6_judge_8 : decode cX6_judge 8 = .ok (.iconst (-1), 1) := by decide +kernel
theorem dX6_judge_9 : decode cX6_judge 9 = .ok (.invokevirtual 51, 3) := by decide +kernel
theorem dX6_judge_12 : decode cX6_judge 12 = .ok (.ireturn, 1) := by decide +kernel
theorem dX6_judge_13 : decode cX6_judge 13 = .ok (.aload_n 0, 1) := by decide +kernel
theorem dX6_judge_14 : decode cX6_judge 14 = .ok (.getfield 190, 3) := by decide +kernel
theorem dX6_judge_17 : decode cX6_judge 17 = .ok (.istore_n 2, 1) := by decide +kernel
theorem dX6_judge_18 : decode cX6_judge 18 = .ok (.aload_n 0, 1) := by decide +kernel
theorem dX6_judge_19 : decode cX6_judge 19 = .ok (.iconst 0, 1) := by decide +kernel
theorem dX6_judge_20 : decode cX6_judge 20 = .ok (.putfield 190, 3) := by decide +kernel
theorem dX6_judge_23 : decode cX6_judge 23 = .ok (.aload_n 0, 1) := by decide +kernel
theorem dX6_judge_24 : decode cX6_judge 24 = .ok (.iload_n 1, 1) := by decide +kernel
theorem dX6_judge_25 : decode cX6_judge 25 = .ok (.iconst 0, 1) := by decide +kernel
theorem dX6_judge_26 : decode cX6_judge 26 = .ok (.invokevirtual 164, 3) := by decide +kernel
theorem dX6_judge_29 : decode cX6_judge 29 = .ok (.iconst 0, 1) := by decide +kernel
theorem dX6_judge_30 : decode cX6_judge 30 = .ok (.istore_n 3, 1) := by decide +kernel
theorem dX6_judge_31 : decode cX6_judge 31 = .ok (.iload_n 3, 1) := by decide +kernel
theorem dX6_judge_32 : decode cX6_judge 32 = .ok (.iload_n 2, 1) := by decide +kernel
theorem dX6_judge_33 : decode cX6_judge 33 = .ok (.if_icmp .ge 59, 3) := by decide +kernel
theorem dX6_judge_36 : decode cX6_judge 36 = .ok (.bipush 99, 2) := by decide +kernel
theorem dX6_judge_38 : decode cX6_judge 38 = .ok (.istore 4, 2) := by decide +kernel
theorem dX6_judge_40 : decode cX6_judge 40 = .ok (.iconst 0, 1) := by decide +kernel
theorem dX6_judge_41 : decode cX6_judge 41 = .ok (.istore 5, 2) := by decide +kernel
theorem dX6_judge_43 : decode cX6_judge 43 = .ok (.iload 5, 2) := by decide +kernel
theorem dX6_judge_45 : decode cX6_judge 45 = .ok (.bipush 25, 2) := by decide +kernel
theorem dX6_judge_47 : decode cX6_judge 47 = .ok (.if_icmp .ge 26, 3) := by decide +kernel
theorem dX6_judge_50 : decode cX6_judge 50 = .ok (.aload_n 0, 1) := by decide +kernel
theorem dX6_judge_51 : decode cX6_judge 51 = .ok (.getfield 37, 3) := by decide +kernel
theorem dX6_judge_54 : decode cX6_judge 54 = .ok (.iload 5, 2) := by decide +kernel
theorem dX6_judge_56 : decode cX6_judge 56 = .ok (.iaload, 1) := by decide +kernel
theorem dX6_judge_57 : decode cX6_judge 57 = .ok (.iload_n 3, 1) := by decide +kernel
theorem dX6_judge_58 : decode cX6_judge 58 = .ok (.iconst 1, 1) := by decide +kernel
theorem dX6_judge_59 : decode cX6_judge 59 = .ok (.iadd, 1) := by decide +kernel
theorem dX6_judge_60 : decode cX6_judge 60 = .ok (.if_icmp .ne 7, 3) := by decide +kernel
theorem dX6_judge_63 : decode cX6_judge 63 = .ok (.iload 5, 2) := by decide +kernel
theorem dX6_judge_65 : decode cX6_judge 65 = .ok (.istore 4, 2) := by decide +kernel
theorem dX6_judge_67 : decode cX6_judge 67 = .ok (.iinc 5 1, 3) := by decide +kernel
theorem dX6_judge_70 : decode cX6_judge 70 = .ok (.goto (-27), 3) := by decide +kernel
theorem dX6_judge_73 : decode cX6_judge 73 = .ok (.iload 4, 2) := by decide +kernel
theorem dX6_judge_75 : decode cX6_judge 75 = .ok (.aload_n 0, 1) := by decide +kernel
theorem dX6_judge_76 : decode cX6_judge 76 = .ok (.getfield 25, 3) := by decide +kernel
theorem dX6_judge_79 : decode cX6_judge 79 = .ok (.iload_n 3, 1) := by decide +kernel
theorem dX6_judge_80 : decode cX6_judge 80 = .ok (.iaload, 1) := by decide +kernel
theorem dX6_judge_81 : decode cX6_judge 81 = .ok (.if_icmp .eq 5, 3) := by decide +kernel
theorem dX6_judge_84 : decode cX6_judge 84 = .ok (.iload_n 3, 1) := by decide +kernel
theorem dX6_judge_85 : decode cX6_judge 85 = .ok (.ireturn, 1) := by decide +kernel
theorem dX6_judge_86 : decode cX6_judge 86 = .ok (.iinc 3 1, 3) := by decide +kernel
theorem dX6_judge_89 : decode cX6_judge 89 = .ok (.goto (-58), 3) := by decide +kernel
theorem dX6_judge_92 : decode cX6_judge 92 = .ok (.bipush (-9), 2) := by decide +kernel
theorem dX6_judge_94 : decode cX6_judge 94 = .ok (.ireturn, 1) := by decide +kernel
theorem dX6_clear_0 : decode cX6_clear 0 = .ok (.aload_n 0, 1) := by decide +kernel
theorem dX6_clear_1 : decode cX6_clear 1 = .ok (.getfield 190, 3) := by decide +kernel
theorem dX6_clear_4 : decode cX6_clear 4 = .ok (.istore_n 1, 1) := by decide +kernel
theorem dX6_clear_5 : decode cX6_clear 5 = .ok (.aload_n 0, 1) := by decide +kernel
theorem dX6_clear_6 : decode cX6_clear 6 = .ok (.iconst 0, 1) := by decide +kernel
theorem dX6_clear_7 : decode cX6_clear 7 = .ok (.putfield 190, 3) := by decide +kernel
theorem dX6_clear_10 : decode cX6_clear 10 = .ok (.iload_n 1, 1) := by decide +kernel
theorem dX6_clear_11 : decode cX6_clear 11 = .ok (.ireturn, 1) := by decide +kernel
theorem dX6_drawn_0 : decode cX6_drawn 0 = .ok (.aload_n 0, 1) := by decide +kernel
theorem dX6_drawn_1 : decode cX6_drawn 1 = .ok (.aload_n 0, 1) := by decide +kernel
theorem dX6_drawn_2 : decode cX6_drawn 2 = .ok (.getfield 193, 3) := by decide +kernel
theorem dX6_drawn_5 : decode cX6_drawn 5 = .ok (.ldc 196, 2) := by decide +kernel
theorem dX6_drawn_7 : decode cX6_drawn 7 = .ok (.imul, 1) := by decide +kernel
theorem dX6_drawn_8 : decode cX6_drawn 8 = .ok (.ldc 197, 2) := by decide +kernel
theorem dX6_drawn_10 : decode cX6_drawn 10 = .ok (.iadd, 1) := by decide +kernel
theorem dX6_drawn_11 : decode cX6_drawn 11 = .ok (.putfield 193, 3) := by decide +kernel
theorem dX6_drawn_14 : decode cX6_drawn 14 = .ok (.aload_n 0, 1) := by decide +kernel
theorem dX6_drawn_15 : decode cX6_drawn 15 = .ok (.getfield 193, 3) := by decide +kernel
theorem dX6_drawn_18 : decode cX6_drawn 18 = .ok (.ldc 198, 2) := by decide +kernel
theorem dX6_drawn_20 : decode cX6_drawn 20 = .ok (.iand, 1) := by decide +kernel
theorem dX6_drawn_21 : decode cX6_drawn 21 = .ok (.sipush 256, 3) := by decide +kernel
theorem dX6_drawn_24 : decode cX6_drawn 24 = .ok (.idiv, 1) := by decide +kernel
theorem dX6_drawn_25 : decode cX6_drawn 25 = .ok (.iload_n 1, 1) := by decide +kernel
theorem dX6_drawn_26 : decode cX6_drawn 26 = .ok (.irem, 1) := by decide +kernel
theorem dX6_drawn_27 : decode cX6_drawn 27 = .ok (.ireturn, 1) := by decide +kernel
theorem dX6_lots_0 : decode cX6_lots 0 = .ok (.iload_n 1, 1) := by decide +kernel
theorem dX6_lots_1 : decode cX6_lots 1 = .ok (.iconst 1, 1) := by decide +kernel
theorem dX6_lots_2 : decode cX6_lots 2 = .ok (.if_icmp .ge 10, 3) := by decide +kernel
theorem dX6_lots_5 : decode cX6_lots 5 = .ok (.aload_n 0, 1) := by decide +kernel
theorem dX6_lots_6 : decode cX6_lots 6 = .ok (.bipush (-4), 2) := by decide +kernel
theorem dX6_lots_8 : decode cX6_lots 8 = .ok (.invokevirtual 51, 3) := by decide +kernel
theorem dX6_lots_11 : decode cX6_lots 11 = .ok (.ireturn, 1) := by decide +kernel
theorem dX6_lots_12 : decode cX6_lots 12 = .ok (.iload_n 1, 1) := by decide +kernel
theorem dX6_lots_13 : decode cX6_lots 13 = .ok (.bipush 20, 2) := by decide +kernel
theorem dX6_lots_15 : decode cX6_lots 15 = .ok (.if_icmp .le 10, 3) := by decide +kernel
theorem dX6_lots_18 : decode cX6_lots 18 = .ok (.aload_n 0, 1) := by decide +kernel
theorem dX6_lots_19 : decode cX6_lots 19 = .ok (.bipush (-6), 2) := by decide +kernel
theorem dX6_lots_21 : decode cX6_lots 21 = .ok (.invokevirtual 51, 3) := by decide +kernel
theorem dX6_lots_24 : decode cX6_lots 24 = .ok (.ireturn, 1) := by decide +kernel
theorem dX6_lots_25 : decode cX6_lots 25 = .ok (.iload_n 3, 1) := by decide +kernel
theorem dX6_lots_26 : decode cX6_lots 26 = .ok (.iconst 0, 1) := by decide +kernel
theorem dX6_lots_27 : decode cX6_lots 27 = .ok (.iconst 1, 1) := by decide +kernel
theorem dX6_lots_28 : decode cX6_lots 28 = .ok (.invokestatic 55, 3) := by decide +kernel
theorem dX6_lots_31 : decode cX6_lots 31 = .ok (.ifCond .ne 10, 3) := by decide +kernel
theorem dX6_lots_34 : decode cX6_lots 34 = .ok (.aload_n 0, 1) := by decide +kernel
theorem dX6_lots_35 : decode cX6_lots 35 = .ok (.bipush (-2), 2) := by decide +kernel
theorem dX6_lots_37 : decode cX6_lots 37 = .ok (.invokevirtual 51, 3) := by decide +kernel
theorem dX6_lots_40 : decode cX6_lots 40 = .ok (.ireturn, 1) := by decide +kernel
theorem dX6_lots_41 : decode cX6_lots 41 = .ok (.aload_n 0, 1) := by decide +kernel
theorem dX6_lots_42 : decode cX6_lots 42 = .ok (.iload_n 2, 1) := by decide +kernel
theorem dX6_lots_43 : decode cX6_lots 43 = .ok (.putfield 193, 3) := by decide +kernel
theorem dX6_lots_46 : decode cX6_lots 46 = .ok (.iconst 0, 1) := by decide +kernel
theorem dX6_lots_47 : decode cX6_lots 47 = .ok (.istore 4, 2) := by decide +kernel
theorem dX6_lots_49 : decode cX6_lots 49 = .ok (.iconst 0, 1) := by decide +kernel
theorem dX6_lots_50 : decode cX6_lots 50 = .ok (.istore 5, 2) := by decide +kernel
theorem dX6_lots_52 : decode cX6_lots 52 = .ok (.iload 5, 2) := by decide +kernel
theorem dX6_lots_54 : decode cX6_lots 54 = .ok (.iload_n 1, 1) := by decide +kernel
theorem dX6_lots_55 : decode cX6_lots 55 = .ok (.if_icmp .ge 70, 3) := by decide +kernel
theorem dX6_lots_58 : decode cX6_lots 58 = .ok (.aload_n 0, 1) := by decide +kernel
theorem dX6_lots_59 : decode cX6_lots 59 = .ok (.bipush 25, 2) := by decide +kernel
theorem dX6_lots_61 : decode cX6_lots 61 = .ok (.invokevirtual 199, 3) := by decide +kernel
theorem dX6_lots_64 : decode cX6_lots 64 = .ok (.istore 6, 2) := by decide +kernel
theorem dX6_lots_66 : decode cX6_lots 66 = .ok (.aload_n 0, 1) := by decide +kernel
theorem dX6_lots_67 : decode cX6_lots 67 = .ok (.aload_n 0, 1) := by decide +kernel
theorem dX6_lots_68 : decode cX6_lots 68 = .ok (.getfield 9, 3) := by decide +kernel
theorem dX6_lots_71 : decode cX6_lots 71 = .ok (.iload 6, 2) := by decide +kernel
theorem dX6_lots_73 : decode cX6_lots 73 = .ok (.aload_n 0, 1) := by decide +kernel
theorem dX6_lots_74 : decode cX6_lots 74 = .ok (.getfield 9, 3) := by decide +kernel
theorem dX6_lots_77 : decode cX6_lots 77 = .ok (.iconst 0, 1) := by decide +kernel
theorem dX6_lots_78 : decode cX6_lots 78 = .ok (.iaload, 1) := by decide +kernel
theorem dX6_lots_79 : decode cX6_lots 79 = .ok (.ifCond .ne 7, 3) := by decide +kernel
theorem dX6_lots_82 : decode cX6_lots 82 = .ok (.iconst 0, 1) := by decide +kernel
theorem dX6_lots_83 : decode cX6_lots 83 = .ok (.goto 13, 3) := by decide +kernel
theorem dX6_lots_86 : decode cX6_lots 86 = .ok (.aload_n 0, 1) := by decide +kernel
theorem dX6_lots_87 : decode cX6_lots 87 = .ok (.aload_n 0, 1) := by decide +kernel
theorem dX6_lots_88 : decode cX6_lots 88 = .ok (.getfield 9, 3) := by decide +kernel
theorem dX6_lots_91 : decode cX6_lots 91 = .ok (.iconst 0, 1) := by decide +kernel
theorem dX6_lots_92 : decode cX6_lots 92 = .ok (.iaload, 1) := by decide +kernel
theorem dX6_lots_93 : decode cX6_lots 93 = .ok (.invokevirtual 199, 3) := by decide +kernel
theorem dX6_lots_96 : decode cX6_lots 96 = .ok (.invokevirtual 171, 3) := by decide +kernel
theorem dX6_lots_99 : decode cX6_lots 99 = .ok (.istore 7, 2) := by decide +kernel
theorem dX6_lots_101 : decode cX6_lots 101 = .ok (.iload 4, 2) := by decide +kernel
theorem dX6_lots_103 : decode cX6_lots 103 = .ok (.iload_n 3, 1) := by decide +kernel
theorem dX6_lots_104 : decode cX6_lots 104 = .ok (.ifCond .ne 8, 3) := by decide +kernel
theorem dX6_lots_107 : decode cX6_lots 107 = .ok (.iload 7, 2) := by decide +kernel
theorem dX6_lots_109 : decode cX6_lots 109 = .ok (.goto 7, 3) := by decide +kernel
theorem dX6_lots_112 : decode cX6_lots 112 = .ok (.aload_n 0, 1) := by decide +kernel
theorem dX6_lots_113 : decode cX6_lots 113 = .ok (.invokevirtual 168, 3) := by decide +kernel
theorem dX6_lots_116 : decode cX6_lots 116 = .ok (.iadd, 1) := by decide +kernel
theorem dX6_lots_117 : decode cX6_lots 117 = .ok (.istore 4, 2) := by decide +kernel
theorem dX6_lots_119 : decode cX6_lots 119 = .ok (.iinc 5 1, 3) := by decide +kernel
theorem dX6_lots_122 : decode cX6_lots 122 = .ok (.goto (-70), 3) := by decide +kernel
theorem dX6_lots_125 : decode cX6_lots 125 = .ok (.iload 4, 2) := by decide +kernel
theorem dX6_lots_127 : decode cX6_lots 127 = .ok (.ireturn, 1) := by decide +kernel
theorem dX6_image_0 : decode cX6_image 0 = .ok (.aload_n 0, 1) := by decide +kernel
theorem dX6_image_1 : decode cX6_image 1 = .ok (.getfield 9, 3) := by decide +kernel
theorem dX6_image_4 : decode cX6_image 4 = .ok (.aload_n 0, 1) := by decide +kernel
theorem dX6_image_5 : decode cX6_image 5 = .ok (.getfield 16, 3) := by decide +kernel
theorem dX6_image_8 : decode cX6_image 8 = .ok (.invokestatic 147, 3) := by decide +kernel
theorem dX6_image_11 : decode cX6_image 11 = .ok (.aload_n 0, 1) := by decide +kernel
theorem dX6_image_12 : decode cX6_image 12 = .ok (.iconst 1, 1) := by decide +kernel
theorem dX6_image_13 : decode cX6_image 13 = .ok (.putfield 202, 3) := by decide +kernel
theorem dX6_image_16 : decode cX6_image 16 = .ok (.aload_n 0, 1) := by decide +kernel
theorem dX6_image_17 : decode cX6_image 17 = .ok (.getfield 9, 3) := by decide +kernel
theorem dX6_image_20 : decode cX6_image 20 = .ok (.iconst 1, 1) := by decide +kernel
theorem dX6_image_21 : decode cX6_image 21 = .ok (.iaload, 1) := by decide +kernel
theorem dX6_image_22 : decode cX6_image 22 = .ok (.ireturn, 1) := by decide +kernel
theorem dX6_on_0 : decode cX6_on 0 = .ok (.aload_n 0, 1) := by decide +kernel
theorem dX6_on_1 : decode cX6_on 1 = .ok (.getfield 202, 3) := by decide +kernel
theorem dX6_on_4 : decode cX6_on 4 = .ok (.ifCond .ne 10, 3) := by decide +kernel
theorem dX6_on_7 : decode cX6_on 7 = .ok (.aload_n 0, 1) := by decide +kernel
theorem dX6_on_8 : decode cX6_on 8 = .ok (.bipush (-3), 2) := by decide +kernel
theorem dX6_on_10 : decode cX6_on 10 = .ok (.invokevirtual 51, 3) := by decide +kernel
theorem dX6_on_13 : decode cX6_on 13 = .ok (.ireturn, 1) := by decide +kernel
theorem dX6_on_14 : decode cX6_on 14 = .ok (.aload_n 0, 1) := by decide +kernel
theorem dX6_on_15 : decode cX6_on 15 = .ok (.getfield 16, 3) := by decide +kernel
theorem dX6_on_18 : decode cX6_on 18 = .ok (.aload_n 0, 1) := by decide +kernel
theorem dX6_on_19 : decode cX6_on 19 = .ok (.getfield 9, 3) := by decide +kernel
theorem dX6_on_22 : decode cX6_on 22 = .ok (.invokestatic 147, 3) := by decide +kernel
theorem dX6_on_25 : decode cX6_on 25 = .ok (.aload_n 0, 1) := by decide +kernel
theorem dX6_on_26 : decode cX6_on 26 = .ok (.getfield 9, 3) := by decide +kernel
theorem dX6_on_29 : decode cX6_on 29 = .ok (.iconst 1, 1) := by decide +kernel
theorem dX6_on_30 : decode cX6_on 30 = .ok (.iaload, 1) := by decide +kernel
theorem dX6_on_31 : decode cX6_on 31 = .ok (.ireturn, 1) := by decide +kernel
theorem dX6_count_0 : decode cX6_count 0 = .ok (.iload_n 1, 1) := by decide +kernel
theorem dX6_count_1 : decode cX6_count 1 = .ok (.bipush 11, 2) := by decide +kernel
theorem dX6_count_3 : decode cX6_count 3 = .ok (.bipush 16, 2) := by decide +kernel
theorem dX6_count_5 : decode cX6_count 5 = .ok (.invokestatic 55, 3) := by decide +kernel
theorem dX6_count_8 : decode cX6_count 8 = .ok (.ifCond .eq 13, 3) := by decide +kernel
theorem dX6_count_11 : decode cX6_count 11 = .ok (.aload_n 0, 1) := by decide +kernel
theorem dX6_count_12 : decode cX6_count 12 = .ok (.getfield 28, 3) := by decide +kernel
theorem dX6_count_15 : decode cX6_count 15 = .ok (.iload_n 1, 1) := by decide +kernel
theorem dX6_count_16 : decode cX6_count 16 = .ok (.bipush 10, 2) := by decide +kernel
theorem dX6_count_18 : decode cX6_count 18 = .ok (.isub, 1) := by decide +kernel
theorem dX6_count_19 : decode cX6_count 19 = .ok (.iaload, 1) := by decide +kernel
theorem dX6_count_20 : decode cX6_count 20 = .ok (.ireturn, 1) := by decide +kernel
theorem dX6_count_21 : decode cX6_count 21 = .ok (.iconst 0, 1) := by decide +kernel
theorem dX6_count_22 : decode cX6_count 22 = .ok (.istore_n 2, 1) := by decide +kernel
theorem dX6_count_23 : decode cX6_count 23 = .ok (.iload_n 1, 1) := by decide +kernel
theorem dX6_count_24 : decode cX6_count 24 = .ok (.tableswitch 191 0 7 #[48, 55, 62, 89, 125, 131, 181, 186], 48) := by decide +kernel
theorem dX6_count_72 : decode cX6_count 72 = .ok (.aload_n 0, 1) := by decide +kernel
theorem dX6_count_73 : decode cX6_count 73 = .ok (.getfield 9, 3) := by decide +kernel
theorem dX6_count_76 : decode cX6_count 76 = .ok (.iconst 0, 1) := by decide +kernel
theorem dX6_count_77 : decode cX6_count 77 = .ok (.iaload, 1) := by decide +kernel
theorem dX6_count_78 : decode cX6_count 78 = .ok (.ireturn, 1) := by decide +kernel
theorem dX6_count_79 : decode cX6_count 79 = .ok (.aload_n 0, 1) := by decide +kernel
theorem dX6_count_80 : decode cX6_count 80 = .ok (.getfield 9, 3) := by decide +kernel
theorem dX6_count_83 : decode cX6_count 83 = .ok (.iconst 1, 1) := by decide +kernel
theorem dX6_count_84 : decode cX6_count 84 = .ok (.iaload, 1) := by decide +kernel
theorem dX6_count_85 : decode cX6_count 85 = .ok (.ireturn, 1) := by decide +kernel
theorem dX6_count_86 : decode cX6_count 86 = .ok (.iconst 0, 1) := by decide +kernel
theorem dX6_count_87 : decode cX6_count 87 = .ok (.istore_n 3, 1) := by decide +kernel
theorem dX6_count_88 : decode cX6_count 88 = .ok (.iload_n 3, 1) := by decide +kernel
theorem dX6_count_89 : decode cX6_count 89 = .ok (.bipush 25, 2) := by decide +kernel
theorem dX6_count_91 : decode cX6_count 91 = .ok (.if_icmp .ge 20, 3) := by decide +kernel
theorem dX6_count_94 : decode cX6_count 94 = .ok (.iload_n 2, 1) := by decide +kernel
theorem dX6_count_95 : decode cX6_count 95 = .ok (.aload_n 0, 1) := by decide +kernel
theorem dX6_count_96 : decode cX6_count 96 = .ok (.getfield 9, 3) := by decide +kernel
theorem dX6_count_99 : decode cX6_count 99 = .ok (.iload_n 3, 1) := by decide +kernel
theorem dX6_count_100 : decode cX6_count 100 = .ok (.invokestatic 85, 3) := by decide +kernel
theorem dX6_count_103 : decode cX6_count 103 = .ok (.iadd, 1) := by decide +kernel
theorem dX6_count_104 : decode cX6_count 104 = .ok (.istore_n 2, 1) := by decide +kernel
theorem dX6_count_105 : decode cX6_count 105 = .ok (.iinc 3 1, 3) := by decide +kernel
theorem dX6_count_108 : decode cX6_count 108 = .ok (.goto (-20), 3) := by decide +kernel
theorem dX6_count_111 : decode cX6_count 111 = .ok (.iload_n 2, 1) := by decide +kernel
theorem dX6_count_112 : decode cX6_count 112 = .ok (.ireturn, 1) := by decide +kernel
theorem dX6_count_113 : decode cX6_count 113 = .ok (.iconst 0, 1) := by decide +kernel
theorem dX6_count_114 : decode cX6_count 114 = .ok (.istore_n 3, 1) := by decide +kernel
theorem dX6_count_115 : decode cX6_count 115 = .ok (.iload_n 3, 1) := by decide +kernel
theorem dX6_count_116 : decode cX6_count 116 = .ok (.bipush 25, 2) := by decide +kernel
theorem dX6_count_118 : decode cX6_count 118 = .ok (.if_icmp .ge 29, 3) := by decide +kernel
theorem dX6_count_121 : decode cX6_count 121 = .ok (.iload_n 2, 1) := by decide +kernel
theorem dX6_count_122 : decode cX6_count 122 = .ok (.aload_n 0, 1) := by decide +kernel
theorem dX6_count_123 : decode cX6_count 123 = .ok (.getfield 9, 3) := by decide +kernel
theorem dX6_count_126 : decode cX6_count 126 = .ok (.iconst 2, 1) := by decide +kernel
theorem dX6_count_127 : decode cX6_count 127 = .ok (.iload_n 3, 1) := by decide +kernel
theorem dX6_count_128 : decode cX6_count 128 = .ok (.iadd, 1) := by decide +kernel
theorem dX6_count_129 : decode cX6_count 129 = .ok (.iaload, 1) := by decide +kernel
theorem dX6_count_130 : decode cX6_count 130 = .ok (.iconst 4, 1) := by decide +kernel
theorem dX6_count_131 : decode cX6_count 131 = .ok (.if_icmp .lt 7, 3) := by decide +kernel
theorem dX6_count_134 : decode cX6_count 134 = .ok (.iconst 1, 1) := by decide +kernel
theorem dX6_count_135 : decode cX6_count 135 = .ok (.goto 4, 3) := by decide +kernel
theorem dX6_count_138 : decode cX6_count 138 = .ok (.iconst 0, 1) := by decide +kernel
theorem dX6_count_139 : decode cX6_count 139 = .ok (.iadd, 1) := by decide +kernel
theorem dX6_count_140 : decode cX6_count 140 = .ok (.istore_n 2, 1) := by decide +kernel
theorem dX6_count_141 : decode cX6_count 141 = .ok (.iinc 3 1, 3) := by decide +kernel
theorem dX6_count_144 : decode cX6_count 144 = .ok (.goto (-29), 3) := by decide +kernel
theorem dX6_count_147 : decode cX6_count 147 = .ok (.iload_n 2, 1) := by decide +kernel
theorem dX6_count_148 : decode cX6_count 148 = .ok (.ireturn, 1) := by decide +kernel
theorem dX6_count_149 : decode cX6_count 149 = .ok (.aload_n 0, 1) := by decide +kernel
theorem dX6_count_150 : decode cX6_count 150 = .ok (.iconst 0, 1) := by decide +kernel
theorem dX6_count_151 : decode cX6_count 151 = .ok (.invokevirtual 154, 3) := by decide +kernel
theorem dX6_count_154 : decode cX6_count 154 = .ok (.ireturn, 1) := by decide +kernel
theorem dX6_count_155 : decode cX6_count 155 = .ok (.iconst 0, 1) := by decide +kernel
theorem dX6_count_156 : decode cX6_count 156 = .ok (.istore_n 3, 1) := by decide +kernel
theorem dX6_count_157 : decode cX6_count 157 = .ok (.iload_n 3, 1) := by decide +kernel
theorem dX6_count_158 : decode cX6_count 158 = .ok (.aload_n 0, 1) := by decide +kernel
theorem dX6_count_159 : decode cX6_count 159 = .ok (.getfield 9, 3) := by decide +kernel
theorem dX6_count_162 : decode cX6_count 162 = .ok (.iconst 0, 1) := by decide +kernel
theorem dX6_count_163 : decode cX6_count 163 = .ok (.iaload, 1) := by decide +kernel
theorem dX6_count_164 : decode cX6_count 164 = .ok (.if_icmp .ge 39, 3) := by decide +kernel
theorem dX6_count_167 : decode cX6_count 167 = .ok (.iconst 0, 1) := by decide +kernel
theorem dX6_count_168 : decode cX6_count 168 = .ok (.istore 4, 2) := by decide +kernel
theorem dX6_count_170 : decode cX6_count 170 = .ok (.iload 4, 2) := by decide +kernel
theorem dX6_count_172 : decode cX6_count 172 = .ok (.bipush 25, 2) := by decide +kernel
theorem dX6_count_174 : decode cX6_count 174 = .ok (.if_icmp .ge 23, 3) := by decide +kernel
theorem dX6_count_177 : decode cX6_count 177 = .ok (.iload_n 2, 1) := by decide +kernel
theorem dX6_count_178 : decode cX6_count 178 = .ok (.aload_n 0, 1) := by decide +kernel
theorem dX6_count_179 : decode cX6_count 179 = .ok (.getfield 9, 3) := by decide +kernel
theorem dX6_count_182 : decode cX6_count 182 = .ok (.iload_n 3, 1) := by decide +kernel
theorem dX6_count_183 : decode cX6_count 183 = .ok (.iload 4, 2) := by decide +kernel
theorem dX6_count_185 : decode cX6_count 185 = .ok (.invokestatic 64, 3) := by decide +kernel
theorem dX6_count_188 : decode cX6_count 188 = .ok (.iaload, 1) := by decide +kernel
theorem dX6_count_189 : decode cX6_count 189 = .ok (.iadd, 1) := by decide +kernel
theorem dX6_count_190 : decode cX6_count 190 = .ok (.istore_n 2, 1) := by decide +kernel
theorem dX6_count_191 : decode cX6_count 191 = .ok (.iinc 4 1, 3) := by decide +kernel
theorem dX6_count_194 : decode cX6_count 194 = .ok (.goto (-24), 3) := by decide +kernel
theorem dX6_count_197 : decode cX6_count 197 = .ok (.iinc 3 1, 3) := by decide +kernel
theorem dX6_count_200 : decode cX6_count 200 = .ok (.goto (-43), 3) := by decide +kernel
theorem dX6_count_203 : decode cX6_count 203 = .ok (.iload_n 2, 1) := by decide +kernel
theorem dX6_count_204 : decode cX6_count 204 = .ok (.ireturn, 1) := by decide +kernel
theorem dX6_count_205 : decode cX6_count 205 = .ok (.aload_n 0, 1) := by decide +kernel
theorem dX6_count_206 : decode cX6_count 206 = .ok (.getfield 190, 3) := by decide +kernel
theorem dX6_count_209 : decode cX6_count 209 = .ok (.ireturn, 1) := by decide +kernel
theorem dX6_count_210 : decode cX6_count 210 = .ok (.aload_n 0, 1) := by decide +kernel
theorem dX6_count_211 : decode cX6_count 211 = .ok (.getfield 118, 3) := by decide +kernel
theorem dX6_count_214 : decode cX6_count 214 = .ok (.ireturn, 1) := by decide +kernel
theorem dX6_count_215 : decode cX6_count 215 = .ok (.bipush (-9), 2) := by decide +kernel
theorem dX6_count_217 : decode cX6_count 217 = .ok (.ireturn, 1) := by decide +kernel
