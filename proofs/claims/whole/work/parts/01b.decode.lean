theorem dX5_init_0 : decode cX5_init 0 = .ok (.aload_n 0, 1) := by decide +kernel
theorem dX5_init_1 : decode cX5_init 1 = .ok (.invokespecial 1, 3) := by decide +kernel
theorem dX5_init_4 : decode cX5_init 4 = .ok (.aload_n 0, 1) := by decide +kernel
theorem dX5_init_5 : decode cX5_init 5 = .ok (.new 7, 3) := by decide +kernel
theorem dX5_init_8 : decode cX5_init 8 = .ok (.dup, 1) := by decide +kernel
theorem dX5_init_9 : decode cX5_init 9 = .ok (.invokespecial 9, 3) := by decide +kernel
theorem dX5_init_12 : decode cX5_init 12 = .ok (.putfield 10, 3) := by decide +kernel
theorem dX5_init_15 : decode cX5_init 15 = .ok (.aload_n 0, 1) := by decide +kernel
theorem dX5_init_16 : decode cX5_init 16 = .ok (.new 7, 3) := by decide +kernel
theorem dX5_init_19 : decode cX5_init 19 = .ok (.dup, 1) := by decide +kernel
theorem dX5_init_20 : decode cX5_init 20 = .ok (.invokespecial 9, 3) := by decide +kernel
theorem dX5_init_23 : decode cX5_init 23 = .ok (.putfield 16, 3) := by decide +kernel
theorem dX5_init_26 : decode cX5_init 26 = .ok (.aload_n 0, 1) := by decide +kernel
theorem dX5_init_27 : decode cX5_init 27 = .ok (.new 7, 3) := by decide +kernel
theorem dX5_init_30 : decode cX5_init 30 = .ok (.dup, 1) := by decide +kernel
theorem dX5_init_31 : decode cX5_init 31 = .ok (.invokespecial 9, 3) := by decide +kernel
theorem dX5_init_34 : decode cX5_init 34 = .ok (.putfield 19, 3) := by decide +kernel
theorem dX5_init_37 : decode cX5_init 37 = .ok (.aload_n 0, 1) := by decide +kernel
theorem dX5_init_38 : decode cX5_init 38 = .ok (.new 22, 3) := by decide +kernel
theorem dX5_init_41 : decode cX5_init 41 = .ok (.dup, 1) := by decide +kernel
theorem dX5_init_42 : decode cX5_init 42 = .ok (.invokespecial 24, 3) := by decide +kernel
theorem dX5_init_45 : decode cX5_init 45 = .ok (.putfield 25, 3) := by decide +kernel
theorem dX5_init_48 : decode cX5_init 48 = .ok (.aload_n 0, 1) := by decide +kernel
theorem dX5_init_49 : decode cX5_init 49 = .ok (.new 29, 3) := by decide +kernel
theorem dX5_init_52 : decode cX5_init 52 = .ok (.dup, 1) := by decide +kernel
theorem dX5_init_53 : decode cX5_init 53 = .ok (.invokespecial 31, 3) := by decide +kernel
theorem dX5_init_56 : decode cX5_init 56 = .ok (.putfield 32, 3) := by decide +kernel
theorem dX5_init_59 : decode cX5_init 59 = .ok (.aload_n 0, 1) := by decide +kernel
theorem dX5_init_60 : decode cX5_init 60 = .ok (.new 36, 3) := by decide +kernel
theorem dX5_init_63 : decode cX5_init 63 = .ok (.dup, 1) := by decide +kernel
theorem dX5_init_64 : decode cX5_init 64 = .ok (.bipush 25, 2) := by decide +kernel
theorem dX5_init_66 : decode cX5_init 66 = .ok (.invokespecial 38, 3) := by decide +kernel
theorem dX5_init_69 : decode cX5_init 69 = .ok (.putfield 41, 3) := by decide +kernel
theorem dX5_init_72 : decode cX5_init 72 = .ok (.aload_n 0, 1) := by decide +kernel
theorem dX5_init_73 : decode cX5_init 73 = .ok (.bipush 7, 2) := by decide +kernel
theorem dX5_init_75 : decode cX5_init 75 = .ok (.newarray .int, 2) := by decide +kernel
theorem dX5_init_77 : decode cX5_init 77 = .ok (.putfield 45, 3) := by decide +kernel
theorem dX5_init_80 : decode cX5_init 80 = .ok (.aload_n 0, 1) := by decide +kernel
theorem dX5_init_81 : decode cX5_init 81 = .ok (.iconst 0, 1) := by decide +kernel
theorem dX5_init_82 : decode cX5_init 82 = .ok (.putfield 49, 3) := by decide +kernel
theorem dX5_init_85 : decode cX5_init 85 = .ok (.return_, 1) := by decide +kernel
theorem dX5_letter_0 : decode cX5_letter 0 = .ok (.iload_n 1, 1) := by decide +kernel
theorem dX5_letter_1 : decode cX5_letter 1 = .ok (.ifCond .ge 10, 3) := by decide +kernel
theorem dX5_letter_4 : decode cX5_letter 4 = .ok (.aload_n 0, 1) := by decide +kernel
theorem dX5_letter_5 : decode cX5_letter 5 = .ok (.bipush (-4), 2) := by decide +kernel
theorem dX5_letter_7 : decode cX5_letter 7 = .ok (.invokevirtual 53, 3) := by decide +kernel
theorem dX5_letter_10 : decode cX5_letter 10 = .ok (.ireturn, 1) := by decide +kernel
theorem dX5_letter_11 : decode cX5_letter 11 = .ok (.iload_n 1, 1) := by decide +kernel
theorem dX5_letter_12 : decode cX5_letter 12 = .ok (.sipush 255, 3) := by decide +kernel
theorem dX5_letter_15 : decode cX5_letter 15 = .ok (.if_icmp .gt 16, 3) := by decide +kernel
theorem dX5_letter_18 : decode cX5_letter 18 = .ok (.aload_n 0, 1) := by decide +kernel
theorem dX5_letter_19 : decode cX5_letter 19 = .ok (.getfield 32, 3) := by decide +kernel
theorem dX5_letter_22 : decode cX5_letter 22 = .ok (.getfield 57, 3) := by decide +kernel
theorem dX5_letter_25 : decode cX5_letter 25 = .ok (.invokevirtual 60, 3) := by decide +kernel
theorem dX5_letter_28 : decode cX5_letter 28 = .ok (.ifCond .eq 10, 3) := by decide +kernel
theorem dX5_letter_31 : decode cX5_letter 31 = .ok (.aload_n 0, 1) := by decide +kernel
theorem dX5_letter_32 : decode cX5_letter 32 = .ok (.bipush (-6), 2) := by decide +kernel
theorem dX5_letter_34 : decode cX5_letter 34 = .ok (.invokevirtual 53, 3) := by decide +kernel
theorem dX5_letter_37 : decode cX5_letter 37 = .ok (.ireturn, 1) := by decide +kernel
theorem dX5_letter_38 : decode cX5_letter 38 = .ok (.aload_n 0, 1) := by decide +kernel
theorem dX5_letter_39 : decode cX5_letter 39 = .ok (.getfield 32, 3) := by decide +kernel
theorem dX5_letter_42 : decode cX5_letter 42 = .ok (.getfield 57, 3) := by decide +kernel
theorem dX5_letter_45 : decode cX5_letter 45 = .ok (.iload_n 1, 1) := by decide +kernel
theorem dX5_letter_46 : decode cX5_letter 46 = .ok (.invokevirtual 64, 3) := by decide +kernel
theorem dX5_letter_49 : decode cX5_letter 49 = .ok (.ireturn, 1) := by decide +kernel
theorem dX5_house_0 : decode cX5_house 0 = .ok (.aload_n 0, 1) := by decide +kernel
theorem dX5_house_1 : decode cX5_house 1 = .ok (.getfield 19, 3) := by decide +kernel
theorem dX5_house_4 : decode cX5_house 4 = .ok (.aload_n 0, 1) := by decide +kernel
theorem dX5_house_5 : decode cX5_house 5 = .ok (.getfield 10, 3) := by decide +kernel
theorem dX5_house_8 : decode cX5_house 8 = .ok (.invokevirtual 67, 3) := by decide +kernel
theorem dX5_house_11 : decode cX5_house 11 = .ok (.aload_n 0, 1) := by decide +kernel
theorem dX5_house_12 : decode cX5_house 12 = .ok (.getfield 32, 3) := by decide +kernel
theorem dX5_house_15 : decode cX5_house 15 = .ok (.aload_n 0, 1) := by decide +kernel
theorem dX5_house_16 : decode cX5_house 16 = .ok (.getfield 19, 3) := by decide +kernel
theorem dX5_house_19 : decode cX5_house 19 = .ok (.invokevirtual 71, 3) := by decide +kernel
theorem dX5_house_22 : decode cX5_house 22 = .ok (.istore_n 1, 1) := by decide +kernel
theorem dX5_house_23 : decode cX5_house 23 = .ok (.aload_n 0, 1) := by decide +kernel
theorem dX5_house_24 : decode cX5_house 24 = .ok (.getfield 32, 3) := by decide +kernel
theorem dX5_house_27 : decode cX5_house 27 = .ok (.getfield 57, 3) := by decide +kernel
theorem dX5_house_30 : decode cX5_house 30 = .ok (.invokevirtual 75, 3) := by decide +kernel
theorem dX5_house_33 : decode cX5_house 33 = .ok (.iload_n 1, 1) := by decide +kernel
theorem dX5_house_34 : decode cX5_house 34 = .ok (.ifCond .lt 14, 3) := by decide +kernel
theorem dX5_house_37 : decode cX5_house 37 = .ok (.aload_n 0, 1) := by decide +kernel
theorem dX5_house_38 : decode cX5_house 38 = .ok (.getfield 10, 3) := by decide +kernel
theorem dX5_house_41 : decode cX5_house 41 = .ok (.aload_n 0, 1) := by decide +kernel
theorem dX5_house_42 : decode cX5_house 42 = .ok (.getfield 19, 3) := by decide +kernel
theorem dX5_house_45 : decode cX5_house 45 = .ok (.invokevirtual 67, 3) := by decide +kernel
theorem dX5_house_48 : decode cX5_house 48 = .ok (.iload_n 1, 1) := by decide +kernel
theorem dX5_house_49 : decode cX5_house 49 = .ok (.ireturn, 1) := by decide +kernel
theorem dX5_room_0 : decode cX5_room 0 = .ok (.iload_n 1, 1) := by decide +kernel
theorem dX5_room_1 : decode cX5_room 1 = .ok (.invokestatic 78, 3) := by decide +kernel
theorem dX5_room_4 : decode cX5_room 4 = .ok (.ifCond .ne 9, 3) := by decide +kernel
theorem dX5_room_7 : decode cX5_room 7 = .ok (.aload_n 0, 1) := by decide +kernel
theorem dX5_room_8 : decode cX5_room 8 = .ok (.iconst (-1), 1) := by decide +kernel
theorem dX5_room_9 : decode cX5_room 9 = .ok (.invokevirtual 53, 3) := by decide +kernel
theorem dX5_room_12 : decode cX5_room 12 = .ok (.ireturn, 1) := by decide +kernel
theorem dX5_room_13 : decode cX5_room 13 = .ok (.iload_n 2, 1) := by decide +kernel
theorem dX5_room_14 : decode cX5_room 14 = .ok (.tableswitch 79 0 4 #[34, 43, 52, 61, 70], 34) := by decide +kernel
theorem dX5_room_48 : decode cX5_room 48 = .ok (.aload_n 0, 1) := by decide +kernel
theorem dX5_room_49 : decode cX5_room 49 = .ok (.getfield 10, 3) := by decide +kernel
theorem dX5_room_52 : decode cX5_room 52 = .ok (.iload_n 1, 1) := by decide +kernel
theorem dX5_room_53 : decode cX5_room 53 = .ok (.invokevirtual 82, 3) := by decide +kernel
theorem dX5_room_56 : decode cX5_room 56 = .ok (.ireturn, 1) := by decide +kernel
theorem dX5_room_57 : decode cX5_room 57 = .ok (.aload_n 0, 1) := by decide +kernel
theorem dX5_room_58 : decode cX5_room 58 = .ok (.getfield 10, 3) := by decide +kernel
theorem dX5_room_61 : decode cX5_room 61 = .ok (.iload_n 1, 1) := by decide +kernel
theorem dX5_room_62 : decode cX5_room 62 = .ok (.invokevirtual 85, 3) := by decide +kernel
theorem dX5_room_65 : decode cX5_room 65 = .ok (.ireturn, 1) := by decide +kernel
theorem dX5_room_66 : decode cX5_room 66 = .ok (.aload_n 0, 1) := by decide +kernel
theorem dX5_room_67 : decode cX5_room 67 = .ok (.getfield 10, 3) := by decide +kernel
theorem dX5_room_70 : decode cX5_room 70 = .ok (.iload_n 1, 1) := by decide +kernel
theorem dX5_room_71 : decode cX5_room 71 = .ok (.invokevirtual 88, 3) := by decide +kernel
theorem dX5_room_74 : decode cX5_room 74 = .ok (.ireturn, 1) := by decide +kernel
theorem dX5_room_75 : decode cX5_room 75 = .ok (.aload_n 0, 1) := by decide +kernel
theorem dX5_room_76 : decode cX5_room 76 = .ok (.getfield 10, 3) := by decide +kernel
theorem dX5_room_79 : decode cX5_room 79 = .ok (.iload_n 1, 1) := by decide +kernel
theorem dX5_room_80 : decode cX5_room 80 = .ok (.invokevirtual 91, 3) := by decide +kernel
theorem dX5_room_83 : decode cX5_room 83 = .ok (.ireturn, 1) := by decide +kernel
theorem dX5_room_84 : decode cX5_room 84 = .ok (.aload_n 0, 1) := by decide +kernel
theorem dX5_room_85 : decode cX5_room 85 = .ok (.getfield 10, 3) := by decide +kernel
theorem dX5_room_88 : decode cX5_room 88 = .ok (.iload_n 1, 1) := by decide +kernel
theorem dX5_room_89 : decode cX5_room 89 = .ok (.invokevirtual 94, 3) := by decide +kernel
theorem dX5_room_92 : decode cX5_room 92 = .ok (.ireturn, 1) := by decide +kernel
theorem dX5_room_93 : decode cX5_room 93 = .ok (.aload_n 0, 1) := by decide +kernel
theorem dX5_room_94 : decode cX5_room 94 = .ok (.bipush (-2), 2) := by decide +kernel
theorem dX5_room_96 : decode cX5_room 96 = .ok (.invokevirtual 53, 3) := by decide +kernel
theorem dX5_room_99 : decode cX5_room 99 = .ok (.ireturn, 1) := by decide +kernel
theorem dX5_person_0 : decode cX5_person 0 = .ok (.aload_n 0, 1) := by decide +kernel
theorem dX5_person_1 : decode cX5_person 1 = .ok (.iload_n 1, 1) := by decide +kernel
theorem dX5_person_2 : decode cX5_person 2 = .ok (.invokevirtual 97, 3) := by decide +kernel
theorem dX5_person_5 : decode cX5_person 5 = .ok (.ifCond .eq 15, 3) := by decide +kernel
theorem dX5_person_8 : decode cX5_person 8 = .ok (.iload_n 2, 1) := by decide +kernel
theorem dX5_person_9 : decode cX5_person 9 = .ok (.iconst (-1), 1) := by decide +kernel
theorem dX5_person_10 : decode cX5_person 10 = .ok (.if_icmp .eq 16, 3) := by decide +kernel
theorem dX5_person_13 : decode cX5_person 13 = .ok (.iload_n 2, 1) := by decide +kernel
theorem dX5_person_14 : decode cX5_person 14 = .ok (.invokestatic 78, 3) := by decide +kernel
theorem dX5_person_17 : decode cX5_person 17 = .ok (.ifCond .ne 9, 3) := by decide +kernel
theorem dX5_person_20 : decode cX5_person 20 = .ok (.aload_n 0, 1) := by decide +kernel
theorem dX5_person_21 : decode cX5_person 21 = .ok (.iconst (-1), 1) := by decide +kernel
theorem dX5_person_22 : decode cX5_person 22 = .ok (.invokevirtual 53, 3) := by decide +kernel
theorem dX5_person_25 : decode cX5_person 25 = .ok (.ireturn, 1) := by decide +kernel
theorem dX5_person_26 : decode cX5_person 26 = .ok (.iload_n 2, 1) := by decide +kernel
theorem dX5_person_27 : decode cX5_person 27 = .ok (.iconst (-1), 1) := by decide +kernel
theorem dX5_person_28 : decode cX5_person 28 = .ok (.if_icmp .ne 14, 3) := by decide +kernel
theorem dX5_person_31 : decode cX5_person 31 = .ok (.aload_n 0, 1) := by decide +kernel
theorem dX5_person_32 : decode cX5_person 32 = .ok (.getfield 10, 3) := by decide +kernel
theorem dX5_person_35 : decode cX5_person 35 = .ok (.iload_n 1, 1) := by decide +kernel
theorem dX5_person_36 : decode cX5_person 36 = .ok (.invokevirtual 100, 3) := by decide +kernel
theorem dX5_person_39 : decode cX5_person 39 = .ok (.goto 12, 3) := by decide +kernel
theorem dX5_person_42 : decode cX5_person 42 = .ok (.aload_n 0, 1) := by decide +kernel
theorem dX5_person_43 : decode cX5_person 43 = .ok (.getfield 10, 3) := by decide +kernel
theorem dX5_person_46 : decode cX5_person 46 = .ok (.iload_n 1, 1) := by decide +kernel
theorem dX5_person_47 : decode cX5_person 47 = .ok (.iload_n 2, 1) := by decide +kernel
theorem dX5_person_48 : decode cX5_person 48 = .ok (.invokevirtual 103, 3) := by decide +kernel
theorem dX5_person_51 : decode cX5_person 51 = .ok (.ireturn, 1) := by decide +kernel
theorem dX5_turn_0 : decode cX5_turn 0 = .ok (.iload_n 1, 1) := by decide +kernel
theorem dX5_turn_1 : decode cX5_turn 1 = .ok (.invokestatic 78, 3) := by decide +kernel
theorem dX5_turn_4 : decode cX5_turn 4 = .ok (.ifCond .ne 9, 3) := by decide +kernel
theorem dX5_turn_7 : decode cX5_turn 7 = .ok (.aload_n 0, 1) := by decide +kernel
theorem dX5_turn_8 : decode cX5_turn 8 = .ok (.iconst (-1), 1) := by decide +kernel
theorem dX5_turn_9 : decode cX5_turn 9 = .ok (.invokevirtual 53, 3) := by decide +kernel
theorem dX5_turn_12 : decode cX5_turn 12 = .ok (.ireturn, 1) := by decide +kernel
theorem dX5_turn_13 : decode cX5_turn 13 = .ok (.iload_n 2, 1) := by decide +kernel
theorem dX5_turn_14 : decode cX5_turn 14 = .ok (.ifCond .lt 9, 3) := by decide +kernel
theorem dX5_turn_17 : decode cX5_turn 17 = .ok (.iload_n 2, 1) := by decide +kernel
theorem dX5_turn_18 : decode cX5_turn 18 = .ok (.bipush 6, 2) := by decide +kernel
theorem dX5_turn_20 : decode cX5_turn 20 = .ok (.if_icmp .lt 10, 3) := by decide +kernel
theorem dX5_turn_23 : decode cX5_turn 23 = .ok (.aload_n 0, 1) := by decide +kernel
theorem dX5_turn_24 : decode cX5_turn 24 = .ok (.bipush (-2), 2) := by decide +kernel
theorem dX5_turn_26 : decode cX5_turn 26 = .ok (.invokevirtual 53, 3) := by decide +kernel
theorem dX5_turn_29 : decode cX5_turn 29 = .ok (.ireturn, 1) := by decide +kernel
theorem dX5_turn_30 : decode cX5_turn 30 = .ok (.iload_n 3, 1) := by decide +kernel
theorem dX5_turn_31 : decode cX5_turn 31 = .ok (.ifCond .ge 10, 3) := by decide +kernel
theorem dX5_turn_34 : decode cX5_turn 34 = .ok (.aload_n 0, 1) := by decide +kernel
theorem dX5_turn_35 : decode cX5_turn 35 = .ok (.bipush (-4), 2) := by decide +kernel
theorem dX5_turn_37 : decode cX5_turn 37 = .ok (.invokevirtual 53, 3) := by decide +kernel
theorem dX5_turn_40 : decode cX5_turn 40 = .ok (.ireturn, 1) := by decide +kernel
theorem dX5_turn_41 : decode cX5_turn 41 = .ok (.iload_n 3, 1) := by decide +kernel
theorem dX5_turn_42 : decode cX5_turn 42 = .ok (.bipush 9, 2) := by decide +kernel
theorem dX5_turn_44 : decode cX5_turn 44 = .ok (.if_icmp .le 10, 3) := by decide +kernel
theorem dX5_turn_47 : decode cX5_turn 47 = .ok (.aload_n 0, 1) := by decide +kernel
theorem dX5_turn_48 : decode cX5_turn 48 = .ok (.bipush (-6), 2) := by decide +kernel
theorem dX5_turn_50 : decode cX5_turn 50 = .ok (.invokevirtual 53, 3) := by decide +kernel
theorem dX5_turn_53 : decode cX5_turn 53 = .ok (.ireturn, 1) := by decide +kernel
theorem dX5_turn_54 : decode cX5_turn 54 = .ok (.bipush 10, 2) := by decide +kernel
theorem dX5_turn_56 : decode cX5_turn 56 = .ok (.aload_n 0, 1) := by decide +kernel
theorem dX5_turn_57 : decode cX5_turn 57 = .ok (.getfield 10, 3) := by decide +kernel
theorem dX5_turn_60 : decode cX5_turn 60 = .ok (.iload_n 1, 1) := by decide +kernel
theorem dX5_turn_61 : decode cX5_turn 61 = .ok (.invokevirtual 82, 3) := by decide +kernel
theorem dX5_turn_64 : decode cX5_turn 64 = .ok (.imul, 1) := by decide +kernel
theorem dX5_turn_65 : decode cX5_turn 65 = .ok (.aload_n 0, 1) := by decide +kernel
theorem dX5_turn_66 : decode cX5_turn 66 = .ok (.getfield 10, 3) := by decide +kernel
theorem dX5_turn_69 : decode cX5_turn 69 = .ok (.iload_n 1, 1) := by decide +kernel
theorem dX5_turn_70 : decode cX5_turn 70 = .ok (.invokevirtual 85, 3) := by decide +kernel
theorem dX5_turn_73 : decode cX5_turn 73 = .ok (.iadd, 1) := by decide +kernel
theorem dX5_turn_74 : decode cX5_turn 74 = .ok (.istore 4, 2) := by decide +kernel
theorem dX5_turn_76 : decode cX5_turn 76 = .ok (.aload_n 0, 1) := by decide +kernel
theorem dX5_turn_77 : decode cX5_turn 77 = .ok (.getfield 10, 3) := by decide +kernel
theorem dX5_turn_80 : decode cX5_turn 80 = .ok (.iload_n 1, 1) := by decide +kernel
theorem dX5_turn_81 : decode cX5_turn 81 = .ok (.iload_n 2, 1) := by decide +kernel
theorem dX5_turn_82 : decode cX5_turn 82 = .ok (.iload_n 3, 1) := by decide +kernel
theorem dX5_turn_83 : decode cX5_turn 83 = .ok (.invokevirtual 107, 3) := by decide +kernel
theorem dX5_turn_86 : decode cX5_turn 86 = .ok (.iload 4, 2) := by decide +kernel
theorem dX5_turn_88 : decode cX5_turn 88 = .ok (.ireturn, 1) := by decide +kernel
theorem dX5_sharp_0 : decode cX5_sharp 0 = .ok (.aload_n 0, 1) := by decide +kernel
theorem dX5_sharp_1 : decode cX5_sharp 1 = .ok (.iload_n 1, 1) := by decide +kernel
theorem dX5_sharp_2 : decode cX5_sharp 2 = .ok (.invokevirtual 97, 3) := by decide +kernel
theorem dX5_sharp_5 : decode cX5_sharp 5 = .ok (.ifCond .ne 9, 3) := by decide +kernel
theorem dX5_sharp_8 : decode cX5_sharp 8 = .ok (.aload_n 0, 1) := by decide +kernel
theorem dX5_sharp_9 : decode cX5_sharp 9 = .ok (.iconst (-1), 1) := by decide +kernel
theorem dX5_sharp_10 : decode cX5_sharp 10 = .ok (.invokevirtual 53, 3) := by decide +kernel
theorem dX5_sharp_13 : decode cX5_sharp 13 = .ok (.ireturn, 1) := by decide +kernel
theorem dX5_sharp_14 : decode cX5_sharp 14 = .ok (.iload_n 2, 1) := by decide +kernel
theorem dX5_sharp_15 : decode cX5_sharp 15 = .ok (.iconst 1, 1) := by decide +kernel
theorem dX5_sharp_16 : decode cX5_sharp 16 = .ok (.if_icmp .ge 10, 3) := by decide +kernel
theorem dX5_sharp_19 : decode cX5_sharp 19 = .ok (.aload_n 0, 1) := by decide +kernel
theorem dX5_sharp_20 : decode cX5_sharp 20 = .ok (.bipush (-4), 2) := by decide +kernel
theorem dX5_sharp_22 : decode cX5_sharp 22 = .ok (.invokevirtual 53, 3) := by decide +kernel
theorem dX5_sharp_25 : decode cX5_sharp 25 = .ok (.ireturn, 1) := by decide +kernel
theorem dX5_sharp_26 : decode cX5_sharp 26 = .ok (.iload_n 2, 1) := by decide +kernel
theorem dX5_sharp_27 : decode cX5_sharp 27 = .ok (.bipush 9, 2) := by decide +kernel
theorem dX5_sharp_29 : decode cX5_sharp 29 = .ok (.if_icmp .le 10, 3) := by decide +kernel
theorem dX5_sharp_32 : decode cX5_sharp 32 = .ok (.aload_n 0, 1) := by decide +kernel
theorem dX5_sharp_33 : decode cX5_sharp 33 = .ok (.bipush (-6), 2) := by decide +kernel
theorem dX5_sharp_35 : decode cX5_sharp 35 = .ok (.invokevirtual 53, 3) := by decide +kernel
theorem dX5_sharp_38 : decode cX5_sharp 38 = .ok (.ireturn, 1) := by decide +kernel
theorem dX5_sharp_39 : decode cX5_sharp 39 = .ok (.aload_n 0, 1) := by decide +kernel
theorem dX5_sharp_40 : decode cX5_sharp 40 = .ok (.getfield 10, 3) := by decide +kernel
theorem dX5_sharp_43 : decode cX5_sharp 43 = .ok (.iload_n 1, 1) := by decide +kernel
theorem dX5_sharp_44 : decode cX5_sharp 44 = .ok (.invokevirtual 100, 3) := by decide +kernel
theorem dX5_sharp_47 : decode cX5_sharp 47 = .ok (.istore_n 3, 1) := by decide +kernel
theorem dX5_sharp_48 : decode cX5_sharp 48 = .ok (.aload_n 0, 1) := by decide +kernel
theorem dX5_sharp_49 : decode cX5_sharp 49 = .ok (.getfield 10, 3) := by decide +kernel
theorem dX5_sharp_52 : decode cX5_sharp 52 = .ok (.iload_n 1, 1) := by decide +kernel
theorem dX5_sharp_53 : decode cX5_sharp 53 = .ok (.iload_n 2, 1) := by decide +kernel
theorem dX5_sharp_54 : decode cX5_sharp 54 = .ok (.invokevirtual 111, 3) := by decide +kernel
theorem dX5_sharp_57 : decode cX5_sharp 57 = .ok (.iload_n 3, 1) := by decide +kernel
theorem dX5_sharp_58 : decode cX5_sharp 58 = .ok (.ireturn, 1) := by decide +kernel
theorem dX5_visit_0 : decode cX5_visit 0 = .ok (.aload_n 0, 1) := by decide +kernel
theorem dX5_visit_1 : decode cX5_visit 1 = .ok (.iload_n 1, 1) := by decide +kernel
theorem dX5_visit_2 : decode cX5_visit 2 = .ok (.invokevirtual 97, 3) := by decide +kernel
theorem dX5_visit_5 : decode cX5_visit 5 = .ok (.ifCond .eq 10, 3) := by decide +kernel
theorem dX5_visit_8 : decode cX5_visit 8 = .ok (.iload_n 2, 1) := by decide +kernel
theorem dX5_visit_9 : decode cX5_visit 9 = .ok (.invokestatic 78, 3) := by decide +kernel
theorem dX5_visit_12 : decode cX5_visit 12 = .ok (.ifCond .ne 9, 3) := by decide +kernel
theorem dX5_visit_15 : decode cX5_visit 15 = .ok (.aload_n 0, 1) := by decide +kernel
theorem dX5_visit_16 : decode cX5_visit 16 = .ok (.iconst (-1), 1) := by decide +kernel
theorem dX5_visit_17 : decode cX5_visit 17 = .ok (.invokevirtual 53, 3) := by decide +kernel
theorem dX5_visit_20 : decode cX5_visit 20 = .ok (.ireturn, 1) := by decide +kernel
theorem dX5_visit_21 : decode cX5_visit 21 = .ok (.iload_n 3, 1) := by decide +kernel
theorem dX5_visit_22 : decode cX5_visit 22 = .ok (.ifCond .ge 10, 3) := by decide +kernel
theorem dX5_visit_25 : decode cX5_visit 25 = .ok (.aload_n 0, 1) := by decide +kernel
theorem dX5_visit_26 : decode cX5_visit 26 = .ok (.bipush (-4), 2) := by decide +kernel
theorem dX5_visit_28 : decode cX5_visit 28 = .ok (.invokevirtual 53, 3) := by decide +kernel
theorem dX5_visit_31 : decode cX5_visit 31 = .ok (.ireturn, 1) := by decide +kernel
theorem dX5_visit_32 : decode cX5_visit 32 = .ok (.iload_n 3, 1) := by decide +kernel
theorem dX5_visit_33 : decode cX5_visit 33 = .ok (.bipush 9, 2) := by decide +kernel
theorem dX5_visit_35 : decode cX5_visit 35 = .ok (.if_icmp .le 10, 3) := by decide +kernel
theorem dX5_visit_38 : decode cX5_visit 38 = .ok (.aload_n 0, 1) := by decide +kernel
theorem dX5_visit_39 : decode cX5_visit 39 = .ok (.bipush (-6), 2) := by decide +kernel
theorem dX5_visit_41 : decode cX5_visit 41 = .ok (.invokevirtual 53, 3) := by decide +kernel
theorem dX5_visit_44 : decode cX5_visit 44 = .ok (.ireturn, 1) := by decide +kernel
theorem dX5_visit_45 : decode cX5_visit 45 = .ok (.aload_n 0, 1) := by decide +kernel
theorem dX5_visit_46 : decode cX5_visit 46 = .ok (.getfield 10, 3) := by decide +kernel
theorem dX5_visit_49 : decode cX5_visit 49 = .ok (.iload_n 1, 1) := by decide +kernel
theorem dX5_visit_50 : decode cX5_visit 50 = .ok (.iload_n 2, 1) := by decide +kernel
theorem dX5_visit_51 : decode cX5_visit 51 = .ok (.invokevirtual 103, 3) := by decide +kernel
theorem dX5_visit_54 : decode cX5_visit 54 = .ok (.istore 4, 2) := by decide +kernel
theorem dX5_visit_56 : decode cX5_visit 56 = .ok (.aload_n 0, 1) := by decide +kernel
theorem dX5_visit_57 : decode cX5_visit 57 = .ok (.getfield 10, 3) := by decide +kernel
theorem dX5_visit_60 : decode cX5_visit 60 = .ok (.iload_n 1, 1) := by decide +kernel
theorem dX5_visit_61 : decode cX5_visit 61 = .ok (.iload_n 2, 1) := by decide +kernel
theorem dX5_visit_62 : decode cX5_visit 62 = .ok (.iload_n 3, 1) := by decide +kernel
theorem dX5_visit_63 : decode cX5_visit 63 = .ok (.invokevirtual 115, 3) := by decide +kernel
theorem dX5_visit_66 : decode cX5_visit 66 = .ok (.iload 4, 2) := by decide +kernel
theorem dX5_visit_68 : decode cX5_visit 68 = .ok (.ireturn, 1) := by decide +kernel
theorem dX5_nights_0 : decode cX5_nights 0 = .ok (.iload_n 1, 1) := by decide +kernel
theorem dX5_nights_1 : decode cX5_nights 1 = .ok (.iconst 1, 1) := by decide +kernel
theorem dX5_nights_2 : decode cX5_nights 2 = .ok (.if_icmp .ge 10, 3) := by decide +kernel
theorem dX5_nights_5 : decode cX5_nights 5 = .ok (.aload_n 0, 1) := by decide +kernel
theorem dX5_nights_6 : decode cX5_nights 6 = .ok (.bipush (-4), 2) := by decide +kernel
theorem dX5_nights_8 : decode cX5_nights 8 = .ok (.invokevirtual 53, 3) := by decide +kernel
theorem dX5_nights_11 : decode cX5_nights 11 = .ok (.ireturn, 1) := by decide +kernel
theorem dX5_nights_12 : decode cX5_nights 12 = .ok (.iload_n 1, 1) := by decide +kernel
theorem dX5_nights_13 : decode cX5_nights 13 = .ok (.bipush 60, 2) := by decide +kernel
theorem dX5_nights_15 : decode cX5_nights 15 = .ok (.if_icmp .gt 18, 3) := by decide +kernel
theorem dX5_nights_18 : decode cX5_nights 18 = .ok (.aload_n 0, 1) := by decide +kernel
theorem dX5_nights_19 : decode cX5_nights 19 = .ok (.getfield 10, 3) := by decide +kernel
theorem dX5_nights_22 : decode cX5_nights 22 = .ok (.getfield 118, 3) := by decide +kernel
theorem dX5_nights_25 : decode cX5_nights 25 = .ok (.iload_n 1, 1) := by decide +kernel
theorem dX5_nights_26 : decode cX5_nights 26 = .ok (.iadd, 1) := by decide +kernel
theorem dX5_nights_27 : decode cX5_nights 27 = .ok (.sipush 999, 3) := by decide +kernel
theorem dX5_nights_30 : decode cX5_nights 30 = .ok (.if_icmp .le 10, 3) := by decide +kernel
theorem dX5_nights_33 : decode cX5_nights 33 = .ok (.aload_n 0, 1) := by decide +kernel
theorem dX5_nights_34 : decode cX5_nights 34 = .ok (.bipush (-6), 2) := by decide +kernel
theorem dX5_nights_36 : decode cX5_nights 36 = .ok (.invokevirtual 53, 3) := by decide +kernel
theorem dX5_nights_39 : decode cX5_nights 39 = .ok (.ireturn, 1) := by decide +kernel
theorem dX5_nights_40 : decode cX5_nights 40 = .ok (.aload_n 0, 1) := by decide +kernel
theorem dX5_nights_41 : decode cX5_nights 41 = .ok (.getfield 10, 3) := by decide +kernel
theorem dX5_nights_44 : decode cX5_nights 44 = .ok (.iload_n 1, 1) := by decide +kernel
theorem dX5_nights_45 : decode cX5_nights 45 = .ok (.invokevirtual 122, 3) := by decide +kernel
theorem dX5_nights_48 : decode cX5_nights 48 = .ok (.aload_n 0, 1) := by decide +kernel
theorem dX5_nights_49 : decode cX5_nights 49 = .ok (.getfield 10, 3) := by decide +kernel
theorem dX5_nights_52 : decode cX5_nights 52 = .ok (.invokevirtual 125, 3) := by decide +kernel
theorem dX5_nights_55 : decode cX5_nights 55 = .ok (.ireturn, 1) := by decide +kernel
theorem dX5_fire_0 : decode cX5_fire 0 = .ok (.iload_n 1, 1) := by decide +kernel
theorem dX5_fire_1 : decode cX5_fire 1 = .ok (.invokestatic 78, 3) := by decide +kernel
theorem dX5_fire_4 : decode cX5_fire 4 = .ok (.ifCond .eq 11, 3) := by decide +kernel
theorem dX5_fire_7 : decode cX5_fire 7 = .ok (.aload_n 0, 1) := by decide +kernel
theorem dX5_fire_8 : decode cX5_fire 8 = .ok (.iload_n 2, 1) := by decide +kernel
theorem dX5_fire_9 : decode cX5_fire 9 = .ok (.invokevirtual 129, 3) := by decide +kernel
theorem dX5_fire_12 : decode cX5_fire 12 = .ok (.ifCond .ne 9, 3) := by decide +kernel
theorem dX5_fire_15 : decode cX5_fire 15 = .ok (.aload_n 0, 1) := by decide +kernel
theorem dX5_fire_16 : decode cX5_fire 16 = .ok (.iconst (-1), 1) := by decide +kernel
theorem dX5_fire_17 : decode cX5_fire 17 = .ok (.invokevirtual 53, 3) := by decide +kernel
theorem dX5_fire_20 : decode cX5_fire 20 = .ok (.ireturn, 1) := by decide +kernel
theorem dX5_fire_21 : decode cX5_fire 21 = .ok (.iload_n 3, 1) := by decide +kernel
theorem dX5_fire_22 : decode cX5_fire 22 = .ok (.ifCond .lt 8, 3) := by decide +kernel
theorem dX5_fire_25 : decode cX5_fire 25 = .ok (.iload_n 3, 1) := by decide +kernel
theorem dX5_fire_26 : decode cX5_fire 26 = .ok (.iconst 2, 1) := by decide +kernel
theorem dX5_fire_27 : decode cX5_fire 27 = .ok (.if_icmp .le 10, 3) := by decide +kernel
theorem dX5_fire_30 : decode cX5_fire 30 = .ok (.aload_n 0, 1) := by decide +kernel
theorem dX5_fire_31 : decode cX5_fire 31 = .ok (.bipush (-2), 2) := by decide +kernel
theorem dX5_fire_33 : decode cX5_fire 33 = .ok (.invokevirtual 53, 3) := by decide +kernel
theorem dX5_fire_36 : decode cX5_fire 36 = .ok (.ireturn, 1) := by decide +kernel
theorem dX5_fire_37 : decode cX5_fire 37 = .ok (.aload_n 0, 1) := by decide +kernel
theorem dX5_fire_38 : decode cX5_fire 38 = .ok (.iload_n 1, 1) := by decide +kernel
theorem dX5_fire_39 : decode cX5_fire 39 = .ok (.iload_n 2, 1) := by decide +kernel
theorem dX5_fire_40 : decode cX5_fire 40 = .ok (.invokevirtual 132, 3) := by decide +kernel
theorem dX5_fire_43 : decode cX5_fire 43 = .ok (.iload_n 3, 1) := by decide +kernel
theorem dX5_fire_44 : decode cX5_fire 44 = .ok (.ifCond .ne 11, 3) := by decide +kernel
theorem dX5_fire_47 : decode cX5_fire 47 = .ok (.aload_n 0, 1) := by decide +kernel
theorem dX5_fire_48 : decode cX5_fire 48 = .ok (.getfield 25, 3) := by decide +kernel
theorem dX5_fire_51 : decode cX5_fire 51 = .ok (.invokevirtual 135, 3) := by decide +kernel
theorem dX5_fire_54 : decode cX5_fire 54 = .ok (.ireturn, 1) := by decide +kernel
theorem dX5_fire_55 : decode cX5_fire 55 = .ok (.iload_n 3, 1) := by decide +kernel
theorem dX5_fire_56 : decode cX5_fire 56 = .ok (.iconst 1, 1) := by decide +kernel
theorem dX5_fire_57 : decode cX5_fire 57 = .ok (.if_icmp .ne 13, 3) := by decide +kernel
theorem dX5_fire_60 : decode cX5_fire 60 = .ok (.aload_n 0, 1) := by decide +kernel
theorem dX5_fire_61 : decode cX5_fire 61 = .ok (.getfield 25, 3) := by decide +kernel
theorem dX5_fire_64 : decode cX5_fire 64 = .ok (.invokevirtual 138, 3) := by decide +kernel
theorem dX5_fire_67 : decode cX5_fire 67 = .ok (.goto 10, 3) := by decide +kernel
theorem dX5_fire_70 : decode cX5_fire 70 = .ok (.aload_n 0, 1) := by decide +kernel
theorem dX5_fire_71 : decode cX5_fire 71 = .ok (.getfield 25, 3) := by decide +kernel
theorem dX5_fire_74 : decode cX5_fire 74 = .ok (.invokevirtual 141, 3) := by decide +kernel
theorem dX5_fire_77 : decode cX5_fire 77 = .ok (.ireturn, 1) := by decide +kernel
theorem dX5_burns_0 : decode cX5_burns 0 = .ok (.iload_n 1, 1) := by decide +kernel
theorem dX5_burns_1 : decode cX5_burns 1 = .ok (.invokestatic 78, 3) := by decide +kernel
theorem dX5_burns_4 : decode cX5_burns 4 = .ok (.ifCond .eq 18, 3) := by decide +kernel
theorem dX5_burns_7 : decode cX5_burns 7 = .ok (.aload_n 0, 1) := by decide +kernel
theorem dX5_burns_8 : decode cX5_burns 8 = .ok (.iload_n 2, 1) := by decide +kernel
theorem dX5_burns_9 : decode cX5_burns 9 = .ok (.invokevirtual 129, 3) := by decide +kernel
theorem dX5_burns_12 : decode cX5_burns 12 = .ok (.ifCond .eq 10, 3) := by decide +kernel
theorem dX5_burns_15 : decode cX5_burns 15 = .ok (.iload_n 3, 1) := by decide +kernel
theorem dX5_burns_16 : decode cX5_burns 16 = .ok (.invokestatic 78, 3) := by decide +kernel
theorem dX5_burns_19 : decode cX5_burns 19 = .ok (.ifCond .ne 9, 3) := by decide +kernel
theorem dX5_burns_22 : decode cX5_burns 22 = .ok (.aload_n 0, 1) := by decide +kernel
theorem dX5_burns_23 : decode cX5_burns 23 = .ok (.iconst (-1), 1) := by decide +kernel
theorem dX5_burns_24 : decode cX5_burns 24 = .ok (.invokevirtual 53, 3) := by decide +kernel
theorem dX5_burns_27 : decode cX5_burns 27 = .ok (.ireturn, 1) := by decide +kernel
theorem dX5_burns_28 : decode cX5_burns 28 = .ok (.aload_n 0, 1) := by decide +kernel
theorem dX5_burns_29 : decode cX5_burns 29 = .ok (.iload_n 1, 1) := by decide +kernel
theorem dX5_burns_30 : decode cX5_burns 30 = .ok (.iload_n 2, 1) := by decide +kernel
theorem dX5_burns_31 : decode cX5_burns 31 = .ok (.invokevirtual 132, 3) := by decide +kernel
theorem dX5_burns_34 : decode cX5_burns 34 = .ok (.aload_n 0, 1) := by decide +kernel
theorem dX5_burns_35 : decode cX5_burns 35 = .ok (.getfield 25, 3) := by decide +kernel
theorem dX5_burns_38 : decode cX5_burns 38 = .ok (.iload_n 3, 1) := by decide +kernel
theorem dX5_burns_39 : decode cX5_burns 39 = .ok (.invokevirtual 144, 3) := by decide +kernel
theorem dX5_burns_42 : decode cX5_burns 42 = .ok (.ireturn, 1) := by decide +kernel
theorem dX5_said_0 : decode cX5_said 0 = .ok (.iload_n 1, 1) := by decide +kernel
theorem dX5_said_1 : decode cX5_said 1 = .ok (.invokestatic 78, 3) := by decide +kernel
theorem dX5_said_4 : decode cX5_said 4 = .ok (.ifCond .eq 18, 3) := by decide +kernel
theorem dX5_said_7 : decode cX5_said 7 = .ok (.aload_n 0, 1) := by decide +kernel
theorem dX5_said_8 : decode cX5_said 8 = .ok (.iload_n 2, 1) := by decide +kernel
theorem dX5_said_9 : decode cX5_said 9 = .ok (.invokevirtual 129, 3) := by decide +kernel
theorem dX5_said_12 : decode cX5_said 12 = .ok (.ifCond .eq 10, 3) := by decide +kernel
theorem dX5_said_15 : decode cX5_said 15 = .ok (.iload_n 3, 1) := by decide +kernel
theorem dX5_said_16 : decode cX5_said 16 = .ok (.invokestatic 78, 3) := by decide +kernel
theorem dX5_said_19 : decode cX5_said 19 = .ok (.ifCond .ne 9, 3) := by decide +kernel
theorem dX5_said_22 : decode cX5_said 22 = .ok (.aload_n 0, 1) := by decide +kernel
theorem dX5_said_23 : decode cX5_said 23 = .ok (.iconst (-1), 1) := by decide +kernel
theorem dX5_said_24 : decode cX5_said 24 = .ok (.invokevirtual 53, 3) := by decide +kernel
theorem dX5_said_27 : decode cX5_said 27 = .ok (.ireturn, 1) := by decide +kernel
theorem dX5_said_28 : decode cX5_said 28 = .ok (.iload 4, 2) := by decide +kernel
theorem dX5_said_30 : decode cX5_said 30 = .ok (.ifCond .eq 16, 3) := by decide +kernel
theorem dX5_said_33 : decode cX5_said 33 = .ok (.iload 4, 2) := by decide +kernel
theorem dX5_said_35 : decode cX5_said 35 = .ok (.iconst 1, 1) := by decide +kernel
theorem dX5_said_36 : decode cX5_said 36 = .ok (.if_icmp .eq 10, 3) := by decide +kernel
theorem dX5_said_39 : decode cX5_said 39 = .ok (.aload_n 0, 1) := by decide +kernel
theorem dX5_said_40 : decode cX5_said 40 = .ok (.bipush (-2), 2) := by decide +kernel
theorem dX5_said_42 : decode cX5_said 42 = .ok (.invokevirtual 53, 3) := by decide +kernel
theorem dX5_said_45 : decode cX5_said 45 = .ok (.ireturn, 1) := by decide +kernel
theorem dX5_said_46 : decode cX5_said 46 = .ok (.aload_n 0, 1) := by decide +kernel
theorem dX5_said_47 : decode cX5_said 47 = .ok (.iload_n 1, 1) := by decide +kernel
theorem dX5_said_48 : decode cX5_said 48 = .ok (.iload_n 2, 1) := by decide +kernel
theorem dX5_said_49 : decode cX5_said 49 = .ok (.invokevirtual 132, 3) := by decide +kernel
theorem dX5_said_52 : decode cX5_said 52 = .ok (.aload_n 0, 1) := by decide +kernel
theorem dX5_said_53 : decode cX5_said 53 = .ok (.getfield 25, 3) := by decide +kernel
theorem dX5_said_56 : decode cX5_said 56 = .ok (.iload_n 3, 1) := by decide +kernel
theorem dX5_said_57 : decode cX5_said 57 = .ok (.invokevirtual 147, 3) := by decide +kernel
theorem dX5_said_60 : decode cX5_said 60 = .ok (.istore 5, 2) := by decide +kernel
theorem dX5_said_62 : decode cX5_said 62 = .ok (.iload 4, 2) := by decide +kernel
theorem dX5_said_64 : decode cX5_said 64 = .ok (.ifCond .ne 8, 3) := by decide +kernel
theorem dX5_said_67 : decode cX5_said 67 = .ok (.iload 5, 2) := by decide +kernel
theorem dX5_said_69 : decode cX5_said 69 = .ok (.goto 12, 3) := by decide +kernel
theorem dX5_said_72 : decode cX5_said 72 = .ok (.aload_n 0, 1) := by decide +kernel
theorem dX5_said_73 : decode cX5_said 73 = .ok (.getfield 25, 3) := by decide +kernel
theorem dX5_said_76 : decode cX5_said 76 = .ok (.iload 5, 2) := by decide +kernel
theorem dX5_said_78 : decode cX5_said 78 = .ok (.invokevirtual 150, 3) := by decide +kernel
theorem dX5_said_81 : decode cX5_said 81 = .ok (.ireturn, 1) := by decide +kernel
theorem dX5_talker_0 : decode cX5_talker 0 = .ok (.iload_n 1, 1) := by decide +kernel
theorem dX5_talker_1 : decode cX5_talker 1 = .ok (.invokestatic 78, 3) := by decide +kernel
theorem dX5_talker_4 : decode cX5_talker 4 = .ok (.ifCond .eq 11, 3) := by decide +kernel
theorem dX5_talker_7 : decode cX5_talker 7 = .ok (.aload_n 0, 1) := by decide +kernel
theorem dX5_talker_8 : decode cX5_talker 8 = .ok (.iload_n 2, 1) := by decide +kernel
theorem dX5_talker_9 : decode cX5_talker 9 = .ok (.invokevirtual 129, 3) := by decide +kernel
theorem dX5_talker_12 : decode cX5_talker 12 = .ok (.ifCond .ne 9, 3) := by decide +kernel
theorem dX5_talker_15 : decode cX5_talker 15 = .ok (.aload_n 0, 1) := by decide +kernel
theorem dX5_talker_16 : decode cX5_talker 16 = .ok (.iconst (-1), 1) := by decide +kernel
theorem dX5_talker_17 : decode cX5_talker 17 = .ok (.invokevirtual 53, 3) := by decide +kernel
theorem dX5_talker_20 : decode cX5_talker 20 = .ok (.ireturn, 1) := by decide +kernel
theorem dX5_talker_21 : decode cX5_talker 21 = .ok (.aload_n 0, 1) := by decide +kernel
theorem dX5_talker_22 : decode cX5_talker 22 = .ok (.iload_n 1, 1) := by decide +kernel
theorem dX5_talker_23 : decode cX5_talker 23 = .ok (.iload_n 2, 1) := by decide +kernel
theorem dX5_talker_24 : decode cX5_talker 24 = .ok (.invokevirtual 132, 3) := by decide +kernel
theorem dX5_talker_27 : decode cX5_talker 27 = .ok (.bipush (-9), 2) := by decide +kernel
theorem dX5_talker_29 : decode cX5_talker 29 = .ok (.istore_n 3, 1) := by decide +kernel
theorem dX5_talker_30 : decode cX5_talker 30 = .ok (.iconst 0, 1) := by decide +kernel
theorem dX5_talker_31 : decode cX5_talker 31 = .ok (.istore 4, 2) := by decide +kernel
theorem dX5_talker_33 : decode cX5_talker 33 = .ok (.iconst 0, 1) := by decide +kernel
theorem dX5_talker_34 : decode cX5_talker 34 = .ok (.istore 5, 2) := by decide +kernel
theorem dX5_talker_36 : decode cX5_talker 36 = .ok (.iload 5, 2) := by decide +kernel
theorem dX5_talker_38 : decode cX5_talker 38 = .ok (.aload_n 0, 1) := by decide +kernel
theorem dX5_talker_39 : decode cX5_talker 39 = .ok (.getfield 10, 3) := by decide +kernel
theorem dX5_talker_42 : decode cX5_talker 42 = .ok (.getfield 153, 3) := by decide +kernel
theorem dX5_talker_45 : decode cX5_talker 45 = .ok (.if_icmp .ge 34, 3) := by decide +kernel
theorem dX5_talker_48 : decode cX5_talker 48 = .ok (.aload_n 0, 1) := by decide +kernel
theorem dX5_talker_49 : decode cX5_talker 49 = .ok (.getfield 25, 3) := by decide +kernel
theorem dX5_talker_52 : decode cX5_talker 52 = .ok (.iload 5, 2) := by decide +kernel
theorem dX5_talker_54 : decode cX5_talker 54 = .ok (.invokevirtual 156, 3) := by decide +kernel
theorem dX5_talker_57 : decode cX5_talker 57 = .ok (.istore 6, 2) := by decide +kernel
theorem dX5_talker_59 : decode cX5_talker 59 = .ok (.iload 6, 2) := by decide +kernel
theorem dX5_talker_61 : decode cX5_talker 61 = .ok (.iload 4, 2) := by decide +kernel
theorem dX5_talker_63 : decode cX5_talker 63 = .ok (.if_icmp .le 10, 3) := by decide +kernel
theorem dX5_talker_66 : decode cX5_talker 66 = .ok (.iload 6, 2) := by decide +kernel
theorem dX5_talker_68 : decode cX5_talker 68 = .ok (.istore 4, 2) := by decide +kernel
theorem dX5_talker_70 : decode cX5_talker 70 = .ok (.iload 5, 2) := by decide +kernel
theorem dX5_talker_72 : decode cX5_talker 72 = .ok (.istore_n 3, 1) := by decide +kernel
theorem dX5_talker_73 : decode cX5_talker 73 = .ok (.iinc 5 1, 3) := by decide +kernel
theorem dX5_talker_76 : decode cX5_talker 76 = .ok (.goto (-40), 3) := by decide +kernel
theorem dX5_talker_79 : decode cX5_talker 79 = .ok (.iload_n 3, 1) := by decide +kernel
theorem dX5_talker_80 : decode cX5_talker 80 = .ok (.ireturn, 1) := by decide +kernel
theorem dX5_alone_0 : decode cX5_alone 0 = .ok (.iload_n 1, 1) := by decide +kernel
theorem dX5_alone_1 : decode cX5_alone 1 = .ok (.invokestatic 78, 3) := by decide +kernel
theorem dX5_alone_4 : decode cX5_alone 4 = .ok (.ifCond .ne 9, 3) := by decide +kernel
theorem dX5_alone_7 : decode cX5_alone 7 = .ok (.aload_n 0, 1) := by decide +kernel
theorem dX5_alone_8 : decode cX5_alone 8 = .ok (.iconst (-1), 1) := by decide +kernel
theorem dX5_alone_9 : decode cX5_alone 9 = .ok (.invokevirtual 53, 3) := by decide +kernel
theorem dX5_alone_12 : decode cX5_alone 12 = .ok (.ireturn, 1) := by decide +kernel
theorem dX5_alone_13 : decode cX5_alone 13 = .ok (.aload_n 0, 1) := by decide +kernel
theorem dX5_alone_14 : decode cX5_alone 14 = .ok (.getfield 25, 3) := by decide +kernel
theorem dX5_alone_17 : decode cX5_alone 17 = .ok (.aload_n 0, 1) := by decide +kernel
theorem dX5_alone_18 : decode cX5_alone 18 = .ok (.getfield 10, 3) := by decide +kernel
theorem dX5_alone_21 : decode cX5_alone 21 = .ok (.invokevirtual 159, 3) := by decide +kernel
theorem dX5_alone_24 : decode cX5_alone 24 = .ok (.aload_n 0, 1) := by decide +kernel
theorem dX5_alone_25 : decode cX5_alone 25 = .ok (.iload_n 1, 1) := by decide +kernel
theorem dX5_alone_26 : decode cX5_alone 26 = .ok (.iconst 0, 1) := by decide +kernel
theorem dX5_alone_27 : decode cX5_alone 27 = .ok (.invokevirtual 162, 3) := by decide +kernel
theorem dX5_alone_30 : decode cX5_alone 30 = .ok (.ireturn, 1) := by decide +kernel
theorem dX5_bestSpeaker_0 : decode cX5_bestSpeaker 0 = .ok (.iload_n 1, 1) := by decide +kernel
theorem dX5_bestSpeaker_1 : decode cX5_bestSpeaker 1 = .ok (.invokestatic 78, 3) := by decide +kernel
theorem dX5_bestSpeaker_4 : decode cX5_bestSpeaker 4 = .ok (.ifCond .ne 9, 3) := by decide +kernel
theorem dX5_bestSpeaker_7 : decode cX5_bestSpeaker 7 = .ok (.aload_n 0, 1) := by decide +kernel
theorem dX5_bestSpeaker_8 : decode cX5_bestSpeaker 8 = .ok (.iconst (-1), 1) := by decide +kernel
theorem dX5_bestSpeaker_9 : decode cX5_bestSpeaker 9 = .ok (.invokevirtual 53, 3) := by decide +kernel
theorem dX5_bestSpeaker_12 : decode cX5_bestSpeaker 12 = .ok (.ireturn, 1) := by decide +kernel
theorem dX5_bestSpeaker_13 : decode cX5_bestSpeaker 13 = .ok (.aload_n 0, 1) := by decide +kernel
theorem dX5_bestSpeaker_14 : decode cX5_bestSpeaker 14 = .ok (.iload_n 1, 1) := by decide +kernel
theorem dX5_bestSpeaker_15 : decode cX5_bestSpeaker 15 = .ok (.iload_n 1, 1) := by decide +kernel
theorem dX5_bestSpeaker_16 : decode cX5_bestSpeaker 16 = .ok (.invokevirtual 165, 3) := by decide +kernel
theorem dX5_bestSpeaker_19 : decode cX5_bestSpeaker 19 = .ok (.ireturn, 1) := by decide +kernel
theorem dX5_worstRoom_0 : decode cX5_worstRoom 0 = .ok (.aload_n 0, 1) := by decide +kernel
theorem dX5_worstRoom_1 : decode cX5_worstRoom 1 = .ok (.getfield 25, 3) := by decide +kernel
theorem dX5_worstRoom_4 : decode cX5_worstRoom 4 = .ok (.aload_n 0, 1) := by decide +kernel
theorem dX5_worstRoom_5 : decode cX5_worstRoom 5 = .ok (.getfield 10, 3) := by decide +kernel
theorem dX5_worstRoom_8 : decode cX5_worstRoom 8 = .ok (.invokevirtual 159, 3) := by decide +kernel
theorem dX5_worstRoom_11 : decode cX5_worstRoom 11 = .ok (.iconst 0, 1) := by decide +kernel
theorem dX5_worstRoom_12 : decode cX5_worstRoom 12 = .ok (.istore_n 1, 1) := by decide +kernel
theorem dX5_worstRoom_13 : decode cX5_worstRoom 13 = .ok (.iconst (-1), 1) := by decide +kernel
theorem dX5_worstRoom_14 : decode cX5_worstRoom 14 = .ok (.istore_n 2, 1) := by decide +kernel
theorem dX5_worstRoom_15 : decode cX5_worstRoom 15 = .ok (.iconst 0, 1) := by decide +kernel
theorem dX5_worstRoom_16 : decode cX5_worstRoom 16 = .ok (.istore_n 3, 1) := by decide +kernel
theorem dX5_worstRoom_17 : decode cX5_worstRoom 17 = .ok (.iload_n 3, 1) := by decide +kernel
theorem dX5_worstRoom_18 : decode cX5_worstRoom 18 = .ok (.bipush 25, 2) := by decide +kernel
theorem dX5_worstRoom_20 : decode cX5_worstRoom 20 = .ok (.if_icmp .ge 28, 3) := by decide +kernel
theorem dX5_worstRoom_23 : decode cX5_worstRoom 23 = .ok (.aload_n 0, 1) := by decide +kernel
theorem dX5_worstRoom_24 : decode cX5_worstRoom 24 = .ok (.iload_n 3, 1) := by decide +kernel
theorem dX5_worstRoom_25 : decode cX5_worstRoom 25 = .ok (.iconst 0, 1) := by decide +kernel
theorem dX5_worstRoom_26 : decode cX5_worstRoom 26 = .ok (.invokevirtual 168, 3) := by decide +kernel
theorem dX5_worstRoom_29 : decode cX5_worstRoom 29 = .ok (.istore 4, 2) := by decide +kernel
theorem dX5_worstRoom_31 : decode cX5_worstRoom 31 = .ok (.iload 4, 2) := by decide +kernel
theorem dX5_worstRoom_33 : decode cX5_worstRoom 33 = .ok (.iload_n 2, 1) := by decide +kernel
theorem dX5_worstRoom_34 : decode cX5_worstRoom 34 = .ok (.if_icmp .le 8, 3) := by decide +kernel
theorem dX5_worstRoom_37 : decode cX5_worstRoom 37 = .ok (.iload 4, 2) := by decide +kernel
theorem dX5_worstRoom_39 : decode cX5_worstRoom 39 = .ok (.istore_n 2, 1) := by decide +kernel
theorem dX5_worstRoom_40 : decode cX5_worstRoom 40 = .ok (.iload_n 3, 1) := by decide +kernel
theorem dX5_worstRoom_41 : decode cX5_worstRoom 41 = .ok (.istore_n 1, 1) := by decide +kernel
theorem dX5_worstRoom_42 : decode cX5_worstRoom 42 = .ok (.iinc 3 1, 3) := by decide +kernel
theorem dX5_worstRoom_45 : decode cX5_worstRoom 45 = .ok (.goto (-28), 3) := by decide +kernel
theorem dX5_worstRoom_48 : decode cX5_worstRoom 48 = .ok (.iload_n 1, 1) := by decide +kernel
theorem dX5_worstRoom_49 : decode cX5_worstRoom 49 = .ok (.ireturn, 1) := by decide +kernel
theorem dX5_show_0 : decode cX5_show 0 = .ok (.iload_n 1, 1) := by decide +kernel
theorem dX5_show_1 : decode cX5_show 1 = .ok (.invokestatic 78, 3) := by decide +kernel
theorem dX5_show_4 : decode cX5_show 4 = .ok (.ifCond .eq 11, 3) := by decide +kernel
theorem dX5_show_7 : decode cX5_show 7 = .ok (.aload_n 0, 1) := by decide +kernel
theorem dX5_show_8 : decode cX5_show 8 = .ok (.iload_n 2, 1) := by decide +kernel
theorem dX5_show_9 : decode cX5_show 9 = .ok (.invokevirtual 97, 3) := by decide +kernel
theorem dX5_show_12 : decode cX5_show 12 = .ok (.ifCond .ne 9, 3) := by decide +kernel
theorem dX5_show_15 : decode cX5_show 15 = .ok (.aload_n 0, 1) := by decide +kernel
theorem dX5_show_16 : decode cX5_show 16 = .ok (.iconst (-1), 1) := by decide +kernel
theorem dX5_show_17 : decode cX5_show 17 = .ok (.invokevirtual 53, 3) := by decide +kernel
theorem dX5_show_20 : decode cX5_show 20 = .ok (.ireturn, 1) := by decide +kernel
theorem dX5_show_21 : decode cX5_show 21 = .ok (.aload_n 0, 1) := by decide +kernel
theorem dX5_show_22 : decode cX5_show 22 = .ok (.aload_n 0, 1) := by decide +kernel
theorem dX5_show_23 : decode cX5_show 23 = .ok (.getfield 10, 3) := by decide +kernel
theorem dX5_show_26 : decode cX5_show 26 = .ok (.iload_n 1, 1) := by decide +kernel
theorem dX5_show_27 : decode cX5_show 27 = .ok (.invokevirtual 171, 3) := by decide +kernel
theorem dX5_show_30 : decode cX5_show 30 = .ok (.istore_n 3, 1) := by decide +kernel
theorem dX5_show_31 : decode cX5_show 31 = .ok (.bipush (-9), 2) := by decide +kernel
theorem dX5_show_33 : decode cX5_show 33 = .ok (.istore 4, 2) := by decide +kernel
theorem dX5_show_35 : decode cX5_show 35 = .ok (.aload_n 0, 1) := by decide +kernel
theorem dX5_show_36 : decode cX5_show 36 = .ok (.getfield 19, 3) := by decide +kernel
theorem dX5_show_39 : decode cX5_show 39 = .ok (.aload_n 0, 1) := by decide +kernel
theorem dX5_show_40 : decode cX5_show 40 = .ok (.getfield 10, 3) := by decide +kernel
theorem dX5_show_43 : decode cX5_show 43 = .ok (.invokevirtual 67, 3) := by decide +kernel
theorem dX5_show_46 : decode cX5_show 46 = .ok (.iconst 0, 1) := by decide +kernel
theorem dX5_show_47 : decode cX5_show 47 = .ok (.istore 5, 2) := by decide +kernel
theorem dX5_show_49 : decode cX5_show 49 = .ok (.iload 5, 2) := by decide +kernel
theorem dX5_show_51 : decode cX5_show 51 = .ok (.bipush 25, 2) := by decide +kernel
theorem dX5_show_53 : decode cX5_show 53 = .ok (.if_icmp .ge 65, 3) := by decide +kernel
theorem dX5_show_56 : decode cX5_show 56 = .ok (.aload_n 0, 1) := by decide +kernel
theorem dX5_show_57 : decode cX5_show 57 = .ok (.getfield 19, 3) := by decide +kernel
theorem dX5_show_60 : decode cX5_show 60 = .ok (.iload_n 2, 1) := by decide +kernel
theorem dX5_show_61 : decode cX5_show 61 = .ok (.iload 5, 2) := by decide +kernel
theorem dX5_show_63 : decode cX5_show 63 = .ok (.bipush 9, 2) := by decide +kernel
theorem dX5_show_65 : decode cX5_show 65 = .ok (.invokevirtual 115, 3) := by decide +kernel
theorem dX5_show_68 : decode cX5_show 68 = .ok (.aload_n 0, 1) := by decide +kernel
theorem dX5_show_69 : decode cX5_show 69 = .ok (.aload_n 0, 1) := by decide +kernel
theorem dX5_show_70 : decode cX5_show 70 = .ok (.getfield 19, 3) := by decide +kernel
theorem dX5_show_73 : decode cX5_show 73 = .ok (.iload_n 1, 1) := by decide +kernel
theorem dX5_show_74 : decode cX5_show 74 = .ok (.invokevirtual 171, 3) := by decide +kernel
theorem dX5_show_77 : decode cX5_show 77 = .ok (.istore 6, 2) := by decide +kernel
theorem dX5_show_79 : decode cX5_show 79 = .ok (.iload 6, 2) := by decide +kernel
theorem dX5_show_81 : decode cX5_show 81 = .ok (.iload_n 3, 1) := by decide +kernel
theorem dX5_show_82 : decode cX5_show 82 = .ok (.if_icmp .ge 10, 3) := by decide +kernel
theorem dX5_show_85 : decode cX5_show 85 = .ok (.iload 6, 2) := by decide +kernel
theorem dX5_show_87 : decode cX5_show 87 = .ok (.istore_n 3, 1) := by decide +kernel
theorem dX5_show_88 : decode cX5_show 88 = .ok (.iload 5, 2) := by decide +kernel
theorem dX5_show_90 : decode cX5_show 90 = .ok (.istore 4, 2) := by decide +kernel
theorem dX5_show_92 : decode cX5_show 92 = .ok (.aload_n 0, 1) := by decide +kernel
theorem dX5_show_93 : decode cX5_show 93 = .ok (.getfield 19, 3) := by decide +kernel
theorem dX5_show_96 : decode cX5_show 96 = .ok (.iload_n 2, 1) := by decide +kernel
theorem dX5_show_97 : decode cX5_show 97 = .ok (.iload 5, 2) := by decide +kernel
theorem dX5_show_99 : decode cX5_show 99 = .ok (.aload_n 0, 1) := by decide +kernel
theorem dX5_show_100 : decode cX5_show 100 = .ok (.getfield 10, 3) := by decide +kernel
theorem dX5_show_103 : decode cX5_show 103 = .ok (.iload_n 2, 1) := by decide +kernel
theorem dX5_show_104 : decode cX5_show 104 = .ok (.iload 5, 2) := by decide +kernel
theorem dX5_show_106 : decode cX5_show 106 = .ok (.invokevirtual 103, 3) := by decide +kernel
theorem dX5_show_109 : decode cX5_show 109 = .ok (.invokevirtual 115, 3) := by decide +kernel
theorem dX5_show_112 : decode cX5_show 112 = .ok (.iinc 5 1, 3) := by decide +kernel
theorem dX5_show_115 : decode cX5_show 115 = .ok (.goto (-66), 3) := by decide +kernel
theorem dX5_show_118 : decode cX5_show 118 = .ok (.iload 4, 2) := by decide +kernel
theorem dX5_show_120 : decode cX5_show 120 = .ok (.ireturn, 1) := by decide +kernel
theorem dX5_mayWait_0 : decode cX5_mayWait 0 = .ok (.iload_n 1, 1) := by decide +kernel
theorem dX5_mayWait_1 : decode cX5_mayWait 1 = .ok (.invokestatic 78, 3) := by decide +kernel
theorem dX5_mayWait_4 : decode cX5_mayWait 4 = .ok (.ifCond .ne 9, 3) := by decide +kernel
theorem dX5_mayWait_7 : decode cX5_mayWait 7 = .ok (.aload_n 0, 1) := by decide +kernel
theorem dX5_mayWait_8 : decode cX5_mayWait 8 = .ok (.iconst (-1), 1) := by decide +kernel
theorem dX5_mayWait_9 : decode cX5_mayWait 9 = .ok (.invokevirtual 53, 3) := by decide +kernel
theorem dX5_mayWait_12 : decode cX5_mayWait 12 = .ok (.ireturn, 1) := by decide +kernel
theorem dX5_mayWait_13 : decode cX5_mayWait 13 = .ok (.aload_n 0, 1) := by decide +kernel
theorem dX5_mayWait_14 : decode cX5_mayWait 14 = .ok (.aload_n 0, 1) := by decide +kernel
theorem dX5_mayWait_15 : decode cX5_mayWait 15 = .ok (.getfield 10, 3) := by decide +kernel
theorem dX5_mayWait_18 : decode cX5_mayWait 18 = .ok (.iload_n 1, 1) := by decide +kernel
theorem dX5_mayWait_19 : decode cX5_mayWait 19 = .ok (.invokevirtual 171, 3) := by decide +kernel
theorem dX5_mayWait_22 : decode cX5_mayWait 22 = .ok (.istore_n 2, 1) := by decide +kernel
theorem dX5_mayWait_23 : decode cX5_mayWait 23 = .ok (.aload_n 0, 1) := by decide +kernel
theorem dX5_mayWait_24 : decode cX5_mayWait 24 = .ok (.getfield 19, 3) := by decide +kernel
theorem dX5_mayWait_27 : decode cX5_mayWait 27 = .ok (.aload_n 0, 1) := by decide +kernel
theorem dX5_mayWait_28 : decode cX5_mayWait 28 = .ok (.getfield 10, 3) := by decide +kernel
theorem dX5_mayWait_31 : decode cX5_mayWait 31 = .ok (.invokevirtual 67, 3) := by decide +kernel
theorem dX5_mayWait_34 : decode cX5_mayWait 34 = .ok (.iconst 1, 1) := by decide +kernel
theorem dX5_mayWait_35 : decode cX5_mayWait 35 = .ok (.istore_n 3, 1) := by decide +kernel
theorem dX5_mayWait_36 : decode cX5_mayWait 36 = .ok (.iload_n 3, 1) := by decide +kernel
theorem dX5_mayWait_37 : decode cX5_mayWait 37 = .ok (.bipush 99, 2) := by decide +kernel
theorem dX5_mayWait_39 : decode cX5_mayWait 39 = .ok (.if_icmp .gt 32, 3) := by decide +kernel
theorem dX5_mayWait_42 : decode cX5_mayWait 42 = .ok (.aload_n 0, 1) := by decide +kernel
theorem dX5_mayWait_43 : decode cX5_mayWait 43 = .ok (.getfield 19, 3) := by decide +kernel
theorem dX5_mayWait_46 : decode cX5_mayWait 46 = .ok (.iconst 1, 1) := by decide +kernel
theorem dX5_mayWait_47 : decode cX5_mayWait 47 = .ok (.invokevirtual 122, 3) := by decide +kernel
theorem dX5_mayWait_50 : decode cX5_mayWait 50 = .ok (.aload_n 0, 1) := by decide +kernel
theorem dX5_mayWait_51 : decode cX5_mayWait 51 = .ok (.aload_n 0, 1) := by decide +kernel
theorem dX5_mayWait_52 : decode cX5_mayWait 52 = .ok (.getfield 19, 3) := by decide +kernel
theorem dX5_mayWait_55 : decode cX5_mayWait 55 = .ok (.iload_n 1, 1) := by decide +kernel
theorem dX5_mayWait_56 : decode cX5_mayWait 56 = .ok (.invokevirtual 171, 3) := by decide +kernel
theorem dX5_mayWait_59 : decode cX5_mayWait 59 = .ok (.iload_n 2, 1) := by decide +kernel
theorem dX5_mayWait_60 : decode cX5_mayWait 60 = .ok (.if_icmp .le 5, 3) := by decide +kernel
theorem dX5_mayWait_63 : decode cX5_mayWait 63 = .ok (.iload_n 3, 1) := by decide +kernel
theorem dX5_mayWait_64 : decode cX5_mayWait 64 = .ok (.ireturn, 1) := by decide +kernel
theorem dX5_mayWait_65 : decode cX5_mayWait 65 = .ok (.iinc 3 1, 3) := by decide +kernel
theorem dX5_mayWait_68 : decode cX5_mayWait 68 = .ok (.goto (-32), 3) := by decide +kernel
theorem dX5_mayWait_71 : decode cX5_mayWait 71 = .ok (.bipush (-9), 2) := by decide +kernel
theorem dX5_mayWait_73 : decode cX5_mayWait 73 = .ok (.ireturn, 1) := by decide +kernel
theorem dX5_leftOut_0 : decode cX5_leftOut 0 = .ok (.iload_n 1, 1) := by decide +kernel
theorem dX5_leftOut_1 : decode cX5_leftOut 1 = .ok (.invokestatic 78, 3) := by decide +kernel
theorem dX5_leftOut_4 : decode cX5_leftOut 4 = .ok (.ifCond .ne 9, 3) := by decide +kernel
theorem dX5_leftOut_7 : decode cX5_leftOut 7 = .ok (.aload_n 0, 1) := by decide +kernel
theorem dX5_leftOut_8 : decode cX5_leftOut 8 = .ok (.iconst (-1), 1) := by decide +kernel
theorem dX5_leftOut_9 : decode cX5_leftOut 9 = .ok (.invokevirtual 53, 3) := by decide +kernel
theorem dX5_leftOut_12 : decode cX5_leftOut 12 = .ok (.ireturn, 1) := by decide +kernel
theorem dX5_leftOut_13 : decode cX5_leftOut 13 = .ok (.aload_n 0, 1) := by decide +kernel
theorem dX5_leftOut_14 : decode cX5_leftOut 14 = .ok (.getfield 25, 3) := by decide +kernel
theorem dX5_leftOut_17 : decode cX5_leftOut 17 = .ok (.aload_n 0, 1) := by decide +kernel
theorem dX5_leftOut_18 : decode cX5_leftOut 18 = .ok (.getfield 10, 3) := by decide +kernel
theorem dX5_leftOut_21 : decode cX5_leftOut 21 = .ok (.invokevirtual 159, 3) := by decide +kernel
theorem dX5_leftOut_24 : decode cX5_leftOut 24 = .ok (.iconst 1, 1) := by decide +kernel
theorem dX5_leftOut_25 : decode cX5_leftOut 25 = .ok (.aload_n 0, 1) := by decide +kernel
theorem dX5_leftOut_26 : decode cX5_leftOut 26 = .ok (.getfield 10, 3) := by decide +kernel
theorem dX5_leftOut_29 : decode cX5_leftOut 29 = .ok (.getfield 153, 3) := by decide +kernel
theorem dX5_leftOut_32 : decode cX5_leftOut 32 = .ok (.ishl, 1) := by decide +kernel
theorem dX5_leftOut_33 : decode cX5_leftOut 33 = .ok (.iconst 1, 1) := by decide +kernel
theorem dX5_leftOut_34 : decode cX5_leftOut 34 = .ok (.isub, 1) := by decide +kernel
theorem dX5_leftOut_35 : decode cX5_leftOut 35 = .ok (.istore_n 2, 1) := by decide +kernel
theorem dX5_leftOut_36 : decode cX5_leftOut 36 = .ok (.bipush (-9), 2) := by decide +kernel
theorem dX5_leftOut_38 : decode cX5_leftOut 38 = .ok (.istore_n 3, 1) := by decide +kernel
theorem dX5_leftOut_39 : decode cX5_leftOut 39 = .ok (.iconst (-1), 1) := by decide +kernel
theorem dX5_leftOut_40 : decode cX5_leftOut 40 = .ok (.istore 4, 2) := by decide +kernel
theorem dX5_leftOut_42 : decode cX5_leftOut 42 = .ok (.iconst 0, 1) := by decide +kernel
theorem dX5_leftOut_43 : decode cX5_leftOut 43 = .ok (.istore 5, 2) := by decide +kernel
theorem dX5_leftOut_45 : decode cX5_leftOut 45 = .ok (.iload 5, 2) := by decide +kernel
theorem dX5_leftOut_47 : decode cX5_leftOut 47 = .ok (.aload_n 0, 1) := by decide +kernel
theorem dX5_leftOut_48 : decode cX5_leftOut 48 = .ok (.getfield 10, 3) := by decide +kernel
theorem dX5_leftOut_51 : decode cX5_leftOut 51 = .ok (.getfield 153, 3) := by decide +kernel
theorem dX5_leftOut_54 : decode cX5_leftOut 54 = .ok (.if_icmp .ge 38, 3) := by decide +kernel
theorem dX5_leftOut_57 : decode cX5_leftOut 57 = .ok (.aload_n 0, 1) := by decide +kernel
theorem dX5_leftOut_58 : decode cX5_leftOut 58 = .ok (.iload_n 1, 1) := by decide +kernel
theorem dX5_leftOut_59 : decode cX5_leftOut 59 = .ok (.iload_n 2, 1) := by decide +kernel
theorem dX5_leftOut_60 : decode cX5_leftOut 60 = .ok (.iconst 1, 1) := by decide +kernel
theorem dX5_leftOut_61 : decode cX5_leftOut 61 = .ok (.iload 5, 2) := by decide +kernel
theorem dX5_leftOut_63 : decode cX5_leftOut 63 = .ok (.ishl, 1) := by decide +kernel
theorem dX5_leftOut_64 : decode cX5_leftOut 64 = .ok (.iconst (-1), 1) := by decide +kernel
theorem dX5_leftOut_65 : decode cX5_leftOut 65 = .ok (.ixor, 1) := by decide +kernel
theorem dX5_leftOut_66 : decode cX5_leftOut 66 = .ok (.iand, 1) := by decide +kernel
theorem dX5_leftOut_67 : decode cX5_leftOut 67 = .ok (.invokevirtual 162, 3) := by decide +kernel
theorem dX5_leftOut_70 : decode cX5_leftOut 70 = .ok (.istore 6, 2) := by decide +kernel
theorem dX5_leftOut_72 : decode cX5_leftOut 72 = .ok (.iload 6, 2) := by decide +kernel
theorem dX5_leftOut_74 : decode cX5_leftOut 74 = .ok (.iload 4, 2) := by decide +kernel
theorem dX5_leftOut_76 : decode cX5_leftOut 76 = .ok (.if_icmp .le 10, 3) := by decide +kernel
theorem dX5_leftOut_79 : decode cX5_leftOut 79 = .ok (.iload 6, 2) := by decide +kernel
theorem dX5_leftOut_81 : decode cX5_leftOut 81 = .ok (.istore 4, 2) := by decide +kernel
theorem dX5_leftOut_83 : decode cX5_leftOut 83 = .ok (.iload 5, 2) := by decide +kernel
theorem dX5_leftOut_85 : decode cX5_leftOut 85 = .ok (.istore_n 3, 1) := by decide +kernel
theorem dX5_leftOut_86 : decode cX5_leftOut 86 = .ok (.iinc 5 1, 3) := by decide +kernel
theorem dX5_leftOut_89 : decode cX5_leftOut 89 = .ok (.goto (-44), 3) := by decide +kernel
theorem dX5_leftOut_92 : decode cX5_leftOut 92 = .ok (.iload_n 3, 1) := by decide +kernel
theorem dX5_leftOut_93 : decode cX5_leftOut 93 = .ok (.ireturn, 1) := by decide +kernel
theorem dX5_enough_0 : decode cX5_enough 0 = .ok (.iload_n 1, 1) := by decide +kernel
theorem dX5_enough_1 : decode cX5_enough 1 = .ok (.invokestatic 78, 3) := by decide +kernel
theorem dX5_enough_4 : decode cX5_enough 4 = .ok (.ifCond .ne 9, 3) := by decide +kernel
theorem dX5_enough_7 : decode cX5_enough 7 = .ok (.aload_n 0, 1) := by decide +kernel
theorem dX5_enough_8 : decode cX5_enough 8 = .ok (.iconst (-1), 1) := by decide +kernel
theorem dX5_enough_9 : decode cX5_enough 9 = .ok (.invokevirtual 53, 3) := by decide +kernel
theorem dX5_enough_12 : decode cX5_enough 12 = .ok (.ireturn, 1) := by decide +kernel
theorem dX5_enough_13 : decode cX5_enough 13 = .ok (.aload_n 0, 1) := by decide +kernel
theorem dX5_enough_14 : decode cX5_enough 14 = .ok (.aload_n 0, 1) := by decide +kernel
theorem dX5_enough_15 : decode cX5_enough 15 = .ok (.getfield 10, 3) := by decide +kernel
theorem dX5_enough_18 : decode cX5_enough 18 = .ok (.iload_n 1, 1) := by decide +kernel
theorem dX5_enough_19 : decode cX5_enough 19 = .ok (.invokevirtual 171, 3) := by decide +kernel
theorem dX5_enough_22 : decode cX5_enough 22 = .ok (.istore_n 2, 1) := by decide +kernel
theorem dX5_enough_23 : decode cX5_enough 23 = .ok (.iconst 1, 1) := by decide +kernel
theorem dX5_enough_24 : decode cX5_enough 24 = .ok (.aload_n 0, 1) := by decide +kernel
theorem dX5_enough_25 : decode cX5_enough 25 = .ok (.getfield 10, 3) := by decide +kernel
theorem dX5_enough_28 : decode cX5_enough 28 = .ok (.getfield 153, 3) := by decide +kernel
theorem dX5_enough_31 : decode cX5_enough 31 = .ok (.ishl, 1) := by decide +kernel
theorem dX5_enough_32 : decode cX5_enough 32 = .ok (.iconst 1, 1) := by decide +kernel
theorem dX5_enough_33 : decode cX5_enough 33 = .ok (.isub, 1) := by decide +kernel
theorem dX5_enough_34 : decode cX5_enough 34 = .ok (.istore_n 3, 1) := by decide +kernel
theorem dX5_enough_35 : decode cX5_enough 35 = .ok (.iload_n 3, 1) := by decide +kernel
theorem dX5_enough_36 : decode cX5_enough 36 = .ok (.istore 4, 2) := by decide +kernel
theorem dX5_enough_38 : decode cX5_enough 38 = .ok (.iconst 0, 1) := by decide +kernel
theorem dX5_enough_39 : decode cX5_enough 39 = .ok (.istore 5, 2) := by decide +kernel
theorem dX5_enough_41 : decode cX5_enough 41 = .ok (.iload 5, 2) := by decide +kernel
theorem dX5_enough_43 : decode cX5_enough 43 = .ok (.iload_n 3, 1) := by decide +kernel
theorem dX5_enough_44 : decode cX5_enough 44 = .ok (.if_icmp .ge 37, 3) := by decide +kernel
theorem dX5_enough_47 : decode cX5_enough 47 = .ok (.iload 5, 2) := by decide +kernel
theorem dX5_enough_49 : decode cX5_enough 49 = .ok (.invokestatic 175, 3) := by decide +kernel
theorem dX5_enough_52 : decode cX5_enough 52 = .ok (.iload 4, 2) := by decide +kernel
theorem dX5_enough_54 : decode cX5_enough 54 = .ok (.invokestatic 175, 3) := by decide +kernel
theorem dX5_enough_57 : decode cX5_enough 57 = .ok (.if_icmp .ge 18, 3) := by decide +kernel
theorem dX5_enough_60 : decode cX5_enough 60 = .ok (.aload_n 0, 1) := by decide +kernel
theorem dX5_enough_61 : decode cX5_enough 61 = .ok (.iload_n 1, 1) := by decide +kernel
theorem dX5_enough_62 : decode cX5_enough 62 = .ok (.iload 5, 2) := by decide +kernel
theorem dX5_enough_64 : decode cX5_enough 64 = .ok (.invokevirtual 162, 3) := by decide +kernel
theorem dX5_enough_67 : decode cX5_enough 67 = .ok (.iload_n 2, 1) := by decide +kernel
theorem dX5_enough_68 : decode cX5_enough 68 = .ok (.if_icmp .gt 7, 3) := by decide +kernel
theorem dX5_enough_71 : decode cX5_enough 71 = .ok (.iload 5, 2) := by decide +kernel
theorem dX5_enough_73 : decode cX5_enough 73 = .ok (.istore 4, 2) := by decide +kernel
theorem dX5_enough_75 : decode cX5_enough 75 = .ok (.iinc 5 1, 3) := by decide +kernel
theorem dX5_enough_78 : decode cX5_enough 78 = .ok (.goto (-37), 3) := by decide +kernel
theorem dX5_enough_81 : decode cX5_enough 81 = .ok (.iload 4, 2) := by decide +kernel
theorem dX5_enough_83 : decode cX5_enough 83 = .ok (.ireturn, 1) := by decide +kernel
theorem dX5_wall_0 : decode cX5_wall 0 = .ok (.iload_n 1, 1) := by decide +kernel
theorem dX5_wall_1 : decode cX5_wall 1 = .ok (.invokestatic 78, 3) := by decide +kernel
theorem dX5_wall_4 : decode cX5_wall 4 = .ok (.ifCond .ne 9, 3) := by decide +kernel
theorem dX5_wall_7 : decode cX5_wall 7 = .ok (.aload_n 0, 1) := by decide +kernel
theorem dX5_wall_8 : decode cX5_wall 8 = .ok (.iconst (-1), 1) := by decide +kernel
theorem dX5_wall_9 : decode cX5_wall 9 = .ok (.invokevirtual 53, 3) := by decide +kernel
theorem dX5_wall_12 : decode cX5_wall 12 = .ok (.ireturn, 1) := by decide +kernel
theorem dX5_wall_13 : decode cX5_wall 13 = .ok (.aload_n 0, 1) := by decide +kernel
theorem dX5_wall_14 : decode cX5_wall 14 = .ok (.aload_n 0, 1) := by decide +kernel
theorem dX5_wall_15 : decode cX5_wall 15 = .ok (.getfield 10, 3) := by decide +kernel
theorem dX5_wall_18 : decode cX5_wall 18 = .ok (.iload_n 1, 1) := by decide +kernel
theorem dX5_wall_19 : decode cX5_wall 19 = .ok (.invokevirtual 171, 3) := by decide +kernel
theorem dX5_wall_22 : decode cX5_wall 22 = .ok (.istore_n 2, 1) := by decide +kernel
theorem dX5_wall_23 : decode cX5_wall 23 = .ok (.bipush (-9), 2) := by decide +kernel
theorem dX5_wall_25 : decode cX5_wall 25 = .ok (.istore_n 3, 1) := by decide +kernel
theorem dX5_wall_26 : decode cX5_wall 26 = .ok (.aload_n 0, 1) := by decide +kernel
theorem dX5_wall_27 : decode cX5_wall 27 = .ok (.getfield 19, 3) := by decide +kernel
theorem dX5_wall_30 : decode cX5_wall 30 = .ok (.aload_n 0, 1) := by decide +kernel
theorem dX5_wall_31 : decode cX5_wall 31 = .ok (.getfield 10, 3) := by decide +kernel
theorem dX5_wall_34 : decode cX5_wall 34 = .ok (.invokevirtual 67, 3) := by decide +kernel
theorem dX5_wall_37 : decode cX5_wall 37 = .ok (.iconst 0, 1) := by decide +kernel
theorem dX5_wall_38 : decode cX5_wall 38 = .ok (.istore 4, 2) := by decide +kernel
theorem dX5_wall_40 : decode cX5_wall 40 = .ok (.iload 4, 2) := by decide +kernel
theorem dX5_wall_42 : decode cX5_wall 42 = .ok (.bipush 25, 2) := by decide +kernel
theorem dX5_wall_44 : decode cX5_wall 44 = .ok (.if_icmp .ge 79, 3) := by decide +kernel
theorem dX5_wall_47 : decode cX5_wall 47 = .ok (.iload 4, 2) := by decide +kernel
theorem dX5_wall_49 : decode cX5_wall 49 = .ok (.iload_n 1, 1) := by decide +kernel
theorem dX5_wall_50 : decode cX5_wall 50 = .ok (.if_icmp .ne 6, 3) := by decide +kernel
theorem dX5_wall_53 : decode cX5_wall 53 = .ok (.goto 64, 3) := by decide +kernel
theorem dX5_wall_56 : decode cX5_wall 56 = .ok (.aload_n 0, 1) := by decide +kernel
theorem dX5_wall_57 : decode cX5_wall 57 = .ok (.getfield 19, 3) := by decide +kernel
theorem dX5_wall_60 : decode cX5_wall 60 = .ok (.iload 4, 2) := by decide +kernel
theorem dX5_wall_62 : decode cX5_wall 62 = .ok (.iconst 4, 1) := by decide +kernel
theorem dX5_wall_63 : decode cX5_wall 63 = .ok (.iconst 0, 1) := by decide +kernel
theorem dX5_wall_64 : decode cX5_wall 64 = .ok (.invokevirtual 107, 3) := by decide +kernel
theorem dX5_wall_67 : decode cX5_wall 67 = .ok (.aload_n 0, 1) := by decide +kernel
theorem dX5_wall_68 : decode cX5_wall 68 = .ok (.aload_n 0, 1) := by decide +kernel
theorem dX5_wall_69 : decode cX5_wall 69 = .ok (.getfield 19, 3) := by decide +kernel
theorem dX5_wall_72 : decode cX5_wall 72 = .ok (.iload_n 1, 1) := by decide +kernel
theorem dX5_wall_73 : decode cX5_wall 73 = .ok (.invokevirtual 171, 3) := by decide +kernel
theorem dX5_wall_76 : decode cX5_wall 76 = .ok (.istore 5, 2) := by decide +kernel
theorem dX5_wall_78 : decode cX5_wall 78 = .ok (.iload 5, 2) := by decide +kernel
theorem dX5_wall_80 : decode cX5_wall 80 = .ok (.iload_n 2, 1) := by decide +kernel
theorem dX5_wall_81 : decode cX5_wall 81 = .ok (.if_icmp .ge 9, 3) := by decide +kernel
theorem dX5_wall_84 : decode cX5_wall 84 = .ok (.iload 5, 2) := by decide +kernel
theorem dX5_wall_86 : decode cX5_wall 86 = .ok (.istore_n 2, 1) := by decide +kernel
theorem dX5_wall_87 : decode cX5_wall 87 = .ok (.iload 4, 2) := by decide +kernel
theorem dX5_wall_89 : decode cX5_wall 89 = .ok (.istore_n 3, 1) := by decide +kernel
theorem dX5_wall_90 : decode cX5_wall 90 = .ok (.aload_n 0, 1) := by decide +kernel
theorem dX5_wall_91 : decode cX5_wall 91 = .ok (.getfield 19, 3) := by decide +kernel
theorem dX5_wall_94 : decode cX5_wall 94 = .ok (.iload 4, 2) := by decide +kernel
theorem dX5_wall_96 : decode cX5_wall 96 = .ok (.aload_n 0, 1) := by decide +kernel
theorem dX5_wall_97 : decode cX5_wall 97 = .ok (.getfield 10, 3) := by decide +kernel
theorem dX5_wall_100 : decode cX5_wall 100 = .ok (.iload 4, 2) := by decide +kernel
theorem dX5_wall_102 : decode cX5_wall 102 = .ok (.invokevirtual 82, 3) := by decide +kernel
theorem dX5_wall_105 : decode cX5_wall 105 = .ok (.aload_n 0, 1) := by decide +kernel
theorem dX5_wall_106 : decode cX5_wall 106 = .ok (.getfield 10, 3) := by decide +kernel
theorem dX5_wall_109 : decode cX5_wall 109 = .ok (.iload 4, 2) := by decide +kernel
theorem dX5_wall_111 : decode cX5_wall 111 = .ok (.invokevirtual 85, 3) := by decide +kernel
theorem dX5_wall_114 : decode cX5_wall 114 = .ok (.invokevirtual 107, 3) := by decide +kernel
theorem dX5_wall_117 : decode cX5_wall 117 = .ok (.iinc 4 1, 3) := by decide +kernel
theorem dX5_wall_120 : decode cX5_wall 120 = .ok (.goto (-80), 3) := by decide +kernel
theorem dX5_wall_123 : decode cX5_wall 123 = .ok (.iload_n 3, 1) := by decide +kernel
theorem dX5_wall_124 : decode cX5_wall 124 = .ok (.ireturn, 1) := by decide +kernel
theorem dX5_captain_0 : decode cX5_captain 0 = .ok (.iload_n 1, 1) := by decide +kernel
theorem dX5_captain_1 : decode cX5_captain 1 = .ok (.invokestatic 78, 3) := by decide +kernel
theorem dX5_captain_4 : decode cX5_captain 4 = .ok (.ifCond .eq 15, 3) := by decide +kernel
theorem dX5_captain_7 : decode cX5_captain 7 = .ok (.iload_n 2, 1) := by decide +kernel
theorem dX5_captain_8 : decode cX5_captain 8 = .ok (.invokestatic 78, 3) := by decide +kernel
theorem dX5_captain_11 : decode cX5_captain 11 = .ok (.ifCond .eq 8, 3) := by decide +kernel
theorem dX5_captain_14 : decode cX5_captain 14 = .ok (.iload_n 1, 1) := by decide +kernel
theorem dX5_captain_15 : decode cX5_captain 15 = .ok (.iload_n 2, 1) := by decide +kernel
theorem dX5_captain_16 : decode cX5_captain 16 = .ok (.if_icmp .ne 9, 3) := by decide +kernel
theorem dX5_captain_19 : decode cX5_captain 19 = .ok (.aload_n 0, 1) := by decide +kernel
theorem dX5_captain_20 : decode cX5_captain 20 = .ok (.iconst (-1), 1) := by decide +kernel
theorem dX5_captain_21 : decode cX5_captain 21 = .ok (.invokevirtual 53, 3) := by decide +kernel
theorem dX5_captain_24 : decode cX5_captain 24 = .ok (.ireturn, 1) := by decide +kernel
theorem dX5_captain_25 : decode cX5_captain 25 = .ok (.iload_n 3, 1) := by decide +kernel
theorem dX5_captain_26 : decode cX5_captain 26 = .ok (.ifCond .eq 15, 3) := by decide +kernel
theorem dX5_captain_29 : decode cX5_captain 29 = .ok (.iload_n 3, 1) := by decide +kernel
theorem dX5_captain_30 : decode cX5_captain 30 = .ok (.iconst 1, 1) := by decide +kernel
theorem dX5_captain_31 : decode cX5_captain 31 = .ok (.if_icmp .eq 10, 3) := by decide +kernel
theorem dX5_captain_34 : decode cX5_captain 34 = .ok (.aload_n 0, 1) := by decide +kernel
theorem dX5_captain_35 : decode cX5_captain 35 = .ok (.bipush (-2), 2) := by decide +kernel
theorem dX5_captain_37 : decode cX5_captain 37 = .ok (.invokevirtual 53, 3) := by decide +kernel
theorem dX5_captain_40 : decode cX5_captain 40 = .ok (.ireturn, 1) := by decide +kernel
theorem dX5_captain_41 : decode cX5_captain 41 = .ok (.aload_n 0, 1) := by decide +kernel
theorem dX5_captain_42 : decode cX5_captain 42 = .ok (.iload_n 1, 1) := by decide +kernel
theorem dX5_captain_43 : decode cX5_captain 43 = .ok (.iload_n 2, 1) := by decide +kernel
theorem dX5_captain_44 : decode cX5_captain 44 = .ok (.invokevirtual 165, 3) := by decide +kernel
theorem dX5_captain_47 : decode cX5_captain 47 = .ok (.istore 4, 2) := by decide +kernel
theorem dX5_captain_49 : decode cX5_captain 49 = .ok (.iload_n 3, 1) := by decide +kernel
theorem dX5_captain_50 : decode cX5_captain 50 = .ok (.ifCond .eq 10, 3) := by decide +kernel
theorem dX5_captain_53 : decode cX5_captain 53 = .ok (.iload 4, 2) := by decide +kernel
theorem dX5_captain_55 : decode cX5_captain 55 = .ok (.bipush (-9), 2) := by decide +kernel
theorem dX5_captain_57 : decode cX5_captain 57 = .ok (.if_icmp .ne 6, 3) := by decide +kernel
theorem dX5_captain_60 : decode cX5_captain 60 = .ok (.iload 4, 2) := by decide +kernel
theorem dX5_captain_62 : decode cX5_captain 62 = .ok (.ireturn, 1) := by decide +kernel
theorem dX5_captain_63 : decode cX5_captain 63 = .ok (.aload_n 0, 1) := by decide +kernel
theorem dX5_captain_64 : decode cX5_captain 64 = .ok (.iload_n 1, 1) := by decide +kernel
theorem dX5_captain_65 : decode cX5_captain 65 = .ok (.iload 4, 2) := by decide +kernel
theorem dX5_captain_67 : decode cX5_captain 67 = .ok (.invokevirtual 168, 3) := by decide +kernel
theorem dX5_captain_70 : decode cX5_captain 70 = .ok (.aload_n 0, 1) := by decide +kernel
theorem dX5_captain_71 : decode cX5_captain 71 = .ok (.iload_n 2, 1) := by decide +kernel
theorem dX5_captain_72 : decode cX5_captain 72 = .ok (.iload 4, 2) := by decide +kernel
theorem dX5_captain_74 : decode cX5_captain 74 = .ok (.invokevirtual 168, 3) := by decide +kernel
theorem dX5_captain_77 : decode cX5_captain 77 = .ok (.invokestatic 180, 3) := by decide +kernel
theorem dX5_captain_80 : decode cX5_captain 80 = .ok (.ireturn, 1) := by decide +kernel
theorem dX5_unlike_0 : decode cX5_unlike 0 = .ok (.aload_n 0, 1) := by decide +kernel
theorem dX5_unlike_1 : decode cX5_unlike 1 = .ok (.iload_n 1, 1) := by decide +kernel
theorem dX5_unlike_2 : decode cX5_unlike 2 = .ok (.invokevirtual 97, 3) := by decide +kernel
theorem dX5_unlike_5 : decode cX5_unlike 5 = .ok (.ifCond .eq 16, 3) := by decide +kernel
theorem dX5_unlike_8 : decode cX5_unlike 8 = .ok (.aload_n 0, 1) := by decide +kernel
theorem dX5_unlike_9 : decode cX5_unlike 9 = .ok (.iload_n 2, 1) := by decide +kernel
theorem dX5_unlike_10 : decode cX5_unlike 10 = .ok (.invokevirtual 97, 3) := by decide +kernel
theorem dX5_unlike_13 : decode cX5_unlike 13 = .ok (.ifCond .eq 8, 3) := by decide +kernel
theorem dX5_unlike_16 : decode cX5_unlike 16 = .ok (.iload_n 1, 1) := by decide +kernel
theorem dX5_unlike_17 : decode cX5_unlike 17 = .ok (.iload_n 2, 1) := by decide +kernel
theorem dX5_unlike_18 : decode cX5_unlike 18 = .ok (.if_icmp .ne 9, 3) := by decide +kernel
theorem dX5_unlike_21 : decode cX5_unlike 21 = .ok (.aload_n 0, 1) := by decide +kernel
theorem dX5_unlike_22 : decode cX5_unlike 22 = .ok (.iconst (-1), 1) := by decide +kernel
theorem dX5_unlike_23 : decode cX5_unlike 23 = .ok (.invokevirtual 53, 3) := by decide +kernel
theorem dX5_unlike_26 : decode cX5_unlike 26 = .ok (.ireturn, 1) := by decide +kernel
theorem dX5_unlike_27 : decode cX5_unlike 27 = .ok (.iload_n 3, 1) := by decide +kernel
theorem dX5_unlike_28 : decode cX5_unlike 28 = .ok (.ifCond .eq 15, 3) := by decide +kernel
theorem dX5_unlike_31 : decode cX5_unlike 31 = .ok (.iload_n 3, 1) := by decide +kernel
theorem dX5_unlike_32 : decode cX5_unlike 32 = .ok (.iconst 1, 1) := by decide +kernel
theorem dX5_unlike_33 : decode cX5_unlike 33 = .ok (.if_icmp .eq 10, 3) := by decide +kernel
theorem dX5_unlike_36 : decode cX5_unlike 36 = .ok (.aload_n 0, 1) := by decide +kernel
theorem dX5_unlike_37 : decode cX5_unlike 37 = .ok (.bipush (-2), 2) := by decide +kernel
theorem dX5_unlike_39 : decode cX5_unlike 39 = .ok (.invokevirtual 53, 3) := by decide +kernel
theorem dX5_unlike_42 : decode cX5_unlike 42 = .ok (.ireturn, 1) := by decide +kernel
theorem dX5_unlike_43 : decode cX5_unlike 43 = .ok (.aload_n 0, 1) := by decide +kernel
theorem dX5_unlike_44 : decode cX5_unlike 44 = .ok (.getfield 10, 3) := by decide +kernel
theorem dX5_unlike_47 : decode cX5_unlike 47 = .ok (.iload_n 1, 1) := by decide +kernel
theorem dX5_unlike_48 : decode cX5_unlike 48 = .ok (.invokevirtual 185, 3) := by decide +kernel
theorem dX5_unlike_51 : decode cX5_unlike 51 = .ok (.aload_n 0, 1) := by decide +kernel
theorem dX5_unlike_52 : decode cX5_unlike 52 = .ok (.getfield 10, 3) := by decide +kernel
theorem dX5_unlike_55 : decode cX5_unlike 55 = .ok (.iload_n 2, 1) := by decide +kernel
theorem dX5_unlike_56 : decode cX5_unlike 56 = .ok (.invokevirtual 185, 3) := by decide +kernel
theorem dX5_unlike_59 : decode cX5_unlike 59 = .ok (.iconst (-1), 1) := by decide +kernel
theorem dX5_unlike_60 : decode cX5_unlike 60 = .ok (.ixor, 1) := by decide +kernel
theorem dX5_unlike_61 : decode cX5_unlike 61 = .ok (.iand, 1) := by decide +kernel
theorem dX5_unlike_62 : decode cX5_unlike 62 = .ok (.istore 4, 2) := by decide +kernel
theorem dX5_unlike_64 : decode cX5_unlike 64 = .ok (.iload_n 3, 1) := by decide +kernel
theorem dX5_unlike_65 : decode cX5_unlike 65 = .ok (.ifCond .ne 9, 3) := by decide +kernel
theorem dX5_unlike_68 : decode cX5_unlike 68 = .ok (.iload 4, 2) := by decide +kernel
theorem dX5_unlike_70 : decode cX5_unlike 70 = .ok (.invokestatic 175, 3) := by decide +kernel
theorem dX5_unlike_73 : decode cX5_unlike 73 = .ok (.ireturn, 1) := by decide +kernel
theorem dX5_unlike_74 : decode cX5_unlike 74 = .ok (.iload 4, 2) := by decide +kernel
theorem dX5_unlike_76 : decode cX5_unlike 76 = .ok (.invokestatic 188, 3) := by decide +kernel
theorem dX5_unlike_79 : decode cX5_unlike 79 = .ok (.ireturn, 1) := by decide +kernel
theorem dX5_sure_0 : decode cX5_sure 0 = .ok (.iload_n 1, 1) := by decide +kernel
theorem dX5_sure_1 : decode cX5_sure 1 = .ok (.ifCond .ne 11, 3) := by decide +kernel
theorem dX5_sure_4 : decode cX5_sure 4 = .ok (.aload_n 0, 1) := by decide +kernel
theorem dX5_sure_5 : decode cX5_sure 5 = .ok (.getfield 10, 3) := by decide +kernel
theorem dX5_sure_8 : decode cX5_sure 8 = .ok (.invokevirtual 125, 3) := by decide +kernel
theorem dX5_sure_11 : decode cX5_sure 11 = .ok (.ireturn, 1) := by decide +kernel
theorem dX5_sure_12 : decode cX5_sure 12 = .ok (.iload_n 1, 1) := by decide +kernel
theorem dX5_sure_13 : decode cX5_sure 13 = .ok (.iconst 1, 1) := by decide +kernel
theorem dX5_sure_14 : decode cX5_sure 14 = .ok (.if_icmp .ne 14, 3) := by decide +kernel
theorem dX5_sure_17 : decode cX5_sure 17 = .ok (.bipush 25, 2) := by decide +kernel
theorem dX5_sure_19 : decode cX5_sure 19 = .ok (.aload_n 0, 1) := by decide +kernel
theorem dX5_sure_20 : decode cX5_sure 20 = .ok (.getfield 10, 3) := by decide +kernel
theorem dX5_sure_23 : decode cX5_sure 23 = .ok (.invokevirtual 191, 3) := by decide +kernel
theorem dX5_sure_26 : decode cX5_sure 26 = .ok (.isub, 1) := by decide +kernel
theorem dX5_sure_27 : decode cX5_sure 27 = .ok (.ireturn, 1) := by decide +kernel
theorem dX5_sure_28 : decode cX5_sure 28 = .ok (.aload_n 0, 1) := by decide +kernel
theorem dX5_sure_29 : decode cX5_sure 29 = .ok (.bipush (-2), 2) := by decide +kernel
theorem dX5_sure_31 : decode cX5_sure 31 = .ok (.invokevirtual 53, 3) := by decide +kernel
theorem dX5_sure_34 : decode cX5_sure 34 = .ok (.ireturn, 1) := by decide +kernel
theorem dX5_slip_0 : decode cX5_slip 0 = .ok (.iload_n 1, 1) := by decide +kernel
theorem dX5_slip_1 : decode cX5_slip 1 = .ok (.invokestatic 78, 3) := by decide +kernel
theorem dX5_slip_4 : decode cX5_slip 4 = .ok (.ifCond .ne 9, 3) := by decide +kernel
theorem dX5_slip_7 : decode cX5_slip 7 = .ok (.aload_n 0, 1) := by decide +kernel
theorem dX5_slip_8 : decode cX5_slip 8 = .ok (.iconst (-1), 1) := by decide +kernel
theorem dX5_slip_9 : decode cX5_slip 9 = .ok (.invokevirtual 194, 3) := by decide +kernel
theorem dX5_slip_12 : decode cX5_slip 12 = .ok (.lreturn, 1) := by decide +kernel
theorem dX5_slip_13 : decode cX5_slip 13 = .ok (.iload_n 2, 1) := by decide +kernel
theorem dX5_slip_14 : decode cX5_slip 14 = .ok (.ifCond .lt 13, 3) := by decide +kernel
theorem dX5_slip_17 : decode cX5_slip 17 = .ok (.iload 4, 2) := by decide +kernel
theorem dX5_slip_19 : decode cX5_slip 19 = .ok (.ifCond .lt 8, 3) := by decide +kernel
theorem dX5_slip_22 : decode cX5_slip 22 = .ok (.iload_n 3, 1) := by decide +kernel
theorem dX5_slip_23 : decode cX5_slip 23 = .ok (.iconst 2, 1) := by decide +kernel
theorem dX5_slip_24 : decode cX5_slip 24 = .ok (.if_icmp .ge 10, 3) := by decide +kernel
theorem dX5_slip_27 : decode cX5_slip 27 = .ok (.aload_n 0, 1) := by decide +kernel
theorem dX5_slip_28 : decode cX5_slip 28 = .ok (.bipush (-4), 2) := by decide +kernel
theorem dX5_slip_30 : decode cX5_slip 30 = .ok (.invokevirtual 194, 3) := by decide +kernel
theorem dX5_slip_33 : decode cX5_slip 33 = .ok (.lreturn, 1) := by decide +kernel
theorem dX5_slip_34 : decode cX5_slip 34 = .ok (.iload_n 2, 1) := by decide +kernel
theorem dX5_slip_35 : decode cX5_slip 35 = .ok (.bipush 7, 2) := by decide +kernel
theorem dX5_slip_37 : decode cX5_slip 37 = .ok (.if_icmp .gt 17, 3) := by decide +kernel
theorem dX5_slip_40 : decode cX5_slip 40 = .ok (.iload_n 3, 1) := by decide +kernel
theorem dX5_slip_41 : decode cX5_slip 41 = .ok (.bipush 20, 2) := by decide +kernel
theorem dX5_slip_43 : decode cX5_slip 43 = .ok (.if_icmp .gt 11, 3) := by decide +kernel
theorem dX5_slip_46 : decode cX5_slip 46 = .ok (.iload 4, 2) := by decide +kernel
theorem dX5_slip_48 : decode cX5_slip 48 = .ok (.sipush 999, 3) := by decide +kernel
theorem dX5_slip_51 : decode cX5_slip 51 = .ok (.if_icmp .le 10, 3) := by decide +kernel
theorem dX5_slip_54 : decode cX5_slip 54 = .ok (.aload_n 0, 1) := by decide +kernel
theorem dX5_slip_55 : decode cX5_slip 55 = .ok (.bipush (-6), 2) := by decide +kernel
theorem dX5_slip_57 : decode cX5_slip 57 = .ok (.invokevirtual 194, 3) := by decide +kernel
theorem dX5_slip_60 : decode cX5_slip 60 = .ok (.lreturn, 1) := by decide +kernel
theorem dX5_slip_61 : decode cX5_slip 61 = .ok (.iload 5, 2) := by decide +kernel
theorem dX5_slip_63 : decode cX5_slip 63 = .ok (.ifCond .eq 16, 3) := by decide +kernel
theorem dX5_slip_66 : decode cX5_slip 66 = .ok (.iload 5, 2) := by decide +kernel
theorem dX5_slip_68 : decode cX5_slip 68 = .ok (.iconst 1, 1) := by decide +kernel
theorem dX5_slip_69 : decode cX5_slip 69 = .ok (.if_icmp .eq 10, 3) := by decide +kernel
theorem dX5_slip_72 : decode cX5_slip 72 = .ok (.aload_n 0, 1) := by decide +kernel
theorem dX5_slip_73 : decode cX5_slip 73 = .ok (.bipush (-2), 2) := by decide +kernel
theorem dX5_slip_75 : decode cX5_slip 75 = .ok (.invokevirtual 194, 3) := by decide +kernel
theorem dX5_slip_78 : decode cX5_slip 78 = .ok (.lreturn, 1) := by decide +kernel
theorem dX5_slip_79 : decode cX5_slip 79 = .ok (.aload_n 0, 1) := by decide +kernel
theorem dX5_slip_80 : decode cX5_slip 80 = .ok (.iload_n 1, 1) := by decide +kernel
theorem dX5_slip_81 : decode cX5_slip 81 = .ok (.iload_n 2, 1) := by decide +kernel
theorem dX5_slip_82 : decode cX5_slip 82 = .ok (.iload_n 3, 1) := by decide +kernel
theorem dX5_slip_83 : decode cX5_slip 83 = .ok (.iload 4, 2) := by decide +kernel
theorem dX5_slip_85 : decode cX5_slip 85 = .ok (.invokevirtual 198, 3) := by decide +kernel
theorem dX5_slip_88 : decode cX5_slip 88 = .ok (.lstore 6, 2) := by decide +kernel
theorem dX5_slip_90 : decode cX5_slip 90 = .ok (.iload_n 3, 1) := by decide +kernel
theorem dX5_slip_91 : decode cX5_slip 91 = .ok (.iload_n 2, 1) := by decide +kernel
theorem dX5_slip_92 : decode cX5_slip 92 = .ok (.invokestatic 202, 3) := by decide +kernel
theorem dX5_slip_95 : decode cX5_slip 95 = .ok (.lstore 8, 2) := by decide +kernel
theorem dX5_slip_97 : decode cX5_slip 97 = .ok (.lload 6, 2) := by decide +kernel
theorem dX5_slip_99 : decode cX5_slip 99 = .ok (.lload 8, 2) := by decide +kernel
theorem dX5_slip_101 : decode cX5_slip 101 = .ok (.invokestatic 206, 3) := by decide +kernel
theorem dX5_slip_104 : decode cX5_slip 104 = .ok (.lstore 10, 2) := by decide +kernel
theorem dX5_slip_106 : decode cX5_slip 106 = .ok (.lload 10, 2) := by decide +kernel
theorem dX5_slip_108 : decode cX5_slip 108 = .ok (.lconst 1, 1) := by decide +kernel
theorem dX5_slip_109 : decode cX5_slip 109 = .ok (.lcmp, 1) := by decide +kernel
theorem dX5_slip_110 : decode cX5_slip 110 = .ok (.ifCond .ge 5, 3) := by decide +kernel
theorem dX5_slip_113 : decode cX5_slip 113 = .ok (.lconst 0, 1) := by decide +kernel
theorem dX5_slip_114 : decode cX5_slip 114 = .ok (.lreturn, 1) := by decide +kernel
theorem dX5_slip_115 : decode cX5_slip 115 = .ok (.iload 5, 2) := by decide +kernel
theorem dX5_slip_117 : decode cX5_slip 117 = .ok (.ifCond .ne 8, 3) := by decide +kernel
theorem dX5_slip_120 : decode cX5_slip 120 = .ok (.lload 6, 2) := by decide +kernel
theorem dX5_slip_122 : decode cX5_slip 122 = .ok (.goto 5, 3) := by decide +kernel
theorem dX5_slip_125 : decode cX5_slip 125 = .ok (.lload 8, 2) := by decide +kernel
theorem dX5_slip_127 : decode cX5_slip 127 = .ok (.lload 10, 2) := by decide +kernel
theorem dX5_slip_129 : decode cX5_slip 129 = .ok (.ldiv, 1) := by decide +kernel
theorem dX5_slip_130 : decode cX5_slip 130 = .ok (.lreturn, 1) := by decide +kernel
theorem dX5_whatWas_0 : decode cX5_whatWas 0 = .ok (.iload_n 1, 1) := by decide +kernel
theorem dX5_whatWas_1 : decode cX5_whatWas 1 = .ok (.invokestatic 78, 3) := by decide +kernel
theorem dX5_whatWas_4 : decode cX5_whatWas 4 = .ok (.ifCond .eq 10, 3) := by decide +kernel
theorem dX5_whatWas_7 : decode cX5_whatWas 7 = .ok (.iload_n 2, 1) := by decide +kernel
theorem dX5_whatWas_8 : decode cX5_whatWas 8 = .ok (.invokestatic 78, 3) := by decide +kernel
theorem dX5_whatWas_11 : decode cX5_whatWas 11 = .ok (.ifCond .ne 9, 3) := by decide +kernel
theorem dX5_whatWas_14 : decode cX5_whatWas 14 = .ok (.aload_n 0, 1) := by decide +kernel
theorem dX5_whatWas_15 : decode cX5_whatWas 15 = .ok (.iconst (-1), 1) := by decide +kernel
theorem dX5_whatWas_16 : decode cX5_whatWas 16 = .ok (.invokevirtual 53, 3) := by decide +kernel
theorem dX5_whatWas_19 : decode cX5_whatWas 19 = .ok (.ireturn, 1) := by decide +kernel
theorem dX5_whatWas_20 : decode cX5_whatWas 20 = .ok (.iload_n 3, 1) := by decide +kernel
theorem dX5_whatWas_21 : decode cX5_whatWas 21 = .ok (.ifCond .eq 15, 3) := by decide +kernel
theorem dX5_whatWas_24 : decode cX5_whatWas 24 = .ok (.iload_n 3, 1) := by decide +kernel
theorem dX5_whatWas_25 : decode cX5_whatWas 25 = .ok (.iconst 1, 1) := by decide +kernel
theorem dX5_whatWas_26 : decode cX5_whatWas 26 = .ok (.if_icmp .eq 10, 3) := by decide +kernel
theorem dX5_whatWas_29 : decode cX5_whatWas 29 = .ok (.aload_n 0, 1) := by decide +kernel
theorem dX5_whatWas_30 : decode cX5_whatWas 30 = .ok (.bipush (-2), 2) := by decide +kernel
theorem dX5_whatWas_32 : decode cX5_whatWas 32 = .ok (.invokevirtual 53, 3) := by decide +kernel
theorem dX5_whatWas_35 : decode cX5_whatWas 35 = .ok (.ireturn, 1) := by decide +kernel
theorem dX5_whatWas_36 : decode cX5_whatWas 36 = .ok (.aload_n 0, 1) := by decide +kernel
theorem dX5_whatWas_37 : decode cX5_whatWas 37 = .ok (.getfield 19, 3) := by decide +kernel
theorem dX5_whatWas_40 : decode cX5_whatWas 40 = .ok (.aload_n 0, 1) := by decide +kernel
theorem dX5_whatWas_41 : decode cX5_whatWas 41 = .ok (.getfield 10, 3) := by decide +kernel
theorem dX5_whatWas_44 : decode cX5_whatWas 44 = .ok (.invokevirtual 67, 3) := by decide +kernel
theorem dX5_whatWas_47 : decode cX5_whatWas 47 = .ok (.iload_n 3, 1) := by decide +kernel
theorem dX5_whatWas_48 : decode cX5_whatWas 48 = .ok (.ifCond .ne 8, 3) := by decide +kernel
theorem dX5_whatWas_51 : decode cX5_whatWas 51 = .ok (.bipush 6, 2) := by decide +kernel
theorem dX5_whatWas_53 : decode cX5_whatWas 53 = .ok (.goto 5, 3) := by decide +kernel
theorem dX5_whatWas_56 : decode cX5_whatWas 56 = .ok (.bipush 10, 2) := by decide +kernel
theorem dX5_whatWas_58 : decode cX5_whatWas 58 = .ok (.istore 4, 2) := by decide +kernel
theorem dX5_whatWas_60 : decode cX5_whatWas 60 = .ok (.iconst 0, 1) := by decide +kernel
theorem dX5_whatWas_61 : decode cX5_whatWas 61 = .ok (.istore 5, 2) := by decide +kernel
theorem dX5_whatWas_63 : decode cX5_whatWas 63 = .ok (.iconst 0, 1) := by decide +kernel
theorem dX5_whatWas_64 : decode cX5_whatWas 64 = .ok (.istore 6, 2) := by decide +kernel
theorem dX5_whatWas_66 : decode cX5_whatWas 66 = .ok (.iload 6, 2) := by decide +kernel
theorem dX5_whatWas_68 : decode cX5_whatWas 68 = .ok (.iload 4, 2) := by decide +kernel
theorem dX5_whatWas_70 : decode cX5_whatWas 70 = .ok (.if_icmp .ge 69, 3) := by decide +kernel
theorem dX5_whatWas_73 : decode cX5_whatWas 73 = .ok (.iload_n 3, 1) := by decide +kernel
theorem dX5_whatWas_74 : decode cX5_whatWas 74 = .ok (.ifCond .ne 24, 3) := by decide +kernel
theorem dX5_whatWas_77 : decode cX5_whatWas 77 = .ok (.aload_n 0, 1) := by decide +kernel
theorem dX5_whatWas_78 : decode cX5_whatWas 78 = .ok (.getfield 19, 3) := by decide +kernel
theorem dX5_whatWas_81 : decode cX5_whatWas 81 = .ok (.iload_n 2, 1) := by decide +kernel
theorem dX5_whatWas_82 : decode cX5_whatWas 82 = .ok (.iload 6, 2) := by decide +kernel
theorem dX5_whatWas_84 : decode cX5_whatWas 84 = .ok (.aload_n 0, 1) := by decide +kernel
theorem dX5_whatWas_85 : decode cX5_whatWas 85 = .ok (.getfield 10, 3) := by decide +kernel
theorem dX5_whatWas_88 : decode cX5_whatWas 88 = .ok (.iload_n 2, 1) := by decide +kernel
theorem dX5_whatWas_89 : decode cX5_whatWas 89 = .ok (.invokevirtual 85, 3) := by decide +kernel
theorem dX5_whatWas_92 : decode cX5_whatWas 92 = .ok (.invokevirtual 107, 3) := by decide +kernel
theorem dX5_whatWas_95 : decode cX5_whatWas 95 = .ok (.goto 21, 3) := by decide +kernel
theorem dX5_whatWas_98 : decode cX5_whatWas 98 = .ok (.aload_n 0, 1) := by decide +kernel
theorem dX5_whatWas_99 : decode cX5_whatWas 99 = .ok (.getfield 19, 3) := by decide +kernel
theorem dX5_whatWas_102 : decode cX5_whatWas 102 = .ok (.iload_n 2, 1) := by decide +kernel
theorem dX5_whatWas_103 : decode cX5_whatWas 103 = .ok (.aload_n 0, 1) := by decide +kernel
theorem dX5_whatWas_104 : decode cX5_whatWas 104 = .ok (.getfield 10, 3) := by decide +kernel
theorem dX5_whatWas_107 : decode cX5_whatWas 107 = .ok (.iload_n 2, 1) := by decide +kernel
theorem dX5_whatWas_108 : decode cX5_whatWas 108 = .ok (.invokevirtual 82, 3) := by decide +kernel
theorem dX5_whatWas_111 : decode cX5_whatWas 111 = .ok (.iload 6, 2) := by decide +kernel
theorem dX5_whatWas_113 : decode cX5_whatWas 113 = .ok (.invokevirtual 107, 3) := by decide +kernel
theorem dX5_whatWas_116 : decode cX5_whatWas 116 = .ok (.aload_n 0, 1) := by decide +kernel
theorem dX5_whatWas_117 : decode cX5_whatWas 117 = .ok (.iload_n 1, 1) := by decide +kernel
theorem dX5_whatWas_118 : decode cX5_whatWas 118 = .ok (.invokevirtual 210, 3) := by decide +kernel
theorem dX5_whatWas_121 : decode cX5_whatWas 121 = .ok (.ifCond .eq 12, 3) := by decide +kernel
theorem dX5_whatWas_124 : decode cX5_whatWas 124 = .ok (.iload 5, 2) := by decide +kernel
theorem dX5_whatWas_126 : decode cX5_whatWas 126 = .ok (.iconst 1, 1) := by decide +kernel
theorem dX5_whatWas_127 : decode cX5_whatWas 127 = .ok (.iload 6, 2) := by decide +kernel
theorem dX5_whatWas_129 : decode cX5_whatWas 129 = .ok (.ishl, 1) := by decide +kernel
theorem dX5_whatWas_130 : decode cX5_whatWas 130 = .ok (.ior, 1) := by decide +kernel
theorem dX5_whatWas_131 : decode cX5_whatWas 131 = .ok (.istore 5, 2) := by decide +kernel
theorem dX5_whatWas_133 : decode cX5_whatWas 133 = .ok (.iinc 6 1, 3) := by decide +kernel
theorem dX5_whatWas_136 : decode cX5_whatWas 136 = .ok (.goto (-70), 3) := by decide +kernel
theorem dX5_whatWas_139 : decode cX5_whatWas 139 = .ok (.iload 5, 2) := by decide +kernel
theorem dX5_whatWas_141 : decode cX5_whatWas 141 = .ok (.ireturn, 1) := by decide +kernel
theorem dX5_row_0 : decode cX5_row 0 = .ok (.iload_n 1, 1) := by decide +kernel
theorem dX5_row_1 : decode cX5_row 1 = .ok (.ifCond .ge 10, 3) := by decide +kernel
theorem dX5_row_4 : decode cX5_row 4 = .ok (.aload_n 0, 1) := by decide +kernel
theorem dX5_row_5 : decode cX5_row 5 = .ok (.bipush (-4), 2) := by decide +kernel
theorem dX5_row_7 : decode cX5_row 7 = .ok (.invokevirtual 53, 3) := by decide +kernel
theorem dX5_row_10 : decode cX5_row 10 = .ok (.ireturn, 1) := by decide +kernel
theorem dX5_row_11 : decode cX5_row 11 = .ok (.iload_n 1, 1) := by decide +kernel
theorem dX5_row_12 : decode cX5_row 12 = .ok (.bipush 99, 2) := by decide +kernel
theorem dX5_row_14 : decode cX5_row 14 = .ok (.if_icmp .gt 13, 3) := by decide +kernel
theorem dX5_row_17 : decode cX5_row 17 = .ok (.aload_n 0, 1) := by decide +kernel
theorem dX5_row_18 : decode cX5_row 18 = .ok (.getfield 41, 3) := by decide +kernel
theorem dX5_row_21 : decode cX5_row 21 = .ok (.invokevirtual 60, 3) := by decide +kernel
theorem dX5_row_24 : decode cX5_row 24 = .ok (.ifCond .eq 10, 3) := by decide +kernel
theorem dX5_row_27 : decode cX5_row 27 = .ok (.aload_n 0, 1) := by decide +kernel
theorem dX5_row_28 : decode cX5_row 28 = .ok (.bipush (-6), 2) := by decide +kernel
theorem dX5_row_30 : decode cX5_row 30 = .ok (.invokevirtual 53, 3) := by decide +kernel
theorem dX5_row_33 : decode cX5_row 33 = .ok (.ireturn, 1) := by decide +kernel
theorem dX5_row_34 : decode cX5_row 34 = .ok (.aload_n 0, 1) := by decide +kernel
theorem dX5_row_35 : decode cX5_row 35 = .ok (.getfield 41, 3) := by decide +kernel
theorem dX5_row_38 : decode cX5_row 38 = .ok (.iload_n 1, 1) := by decide +kernel
theorem dX5_row_39 : decode cX5_row 39 = .ok (.invokevirtual 64, 3) := by decide +kernel
theorem dX5_row_42 : decode cX5_row 42 = .ok (.ireturn, 1) := by decide +kernel
theorem dX5_judge_0 : decode cX5_judge 0 = .ok (.iload_n 1, 1) := by decide +kernel
theorem dX5_judge_1 : decode cX5_judge 1 = .ok (.invokestatic 78, 3) := by decide +kernel
theorem dX5_judge_4 : decode cX5_judge 4 = .ok (.ifCond .ne 9, 3) := by decide +kernel
theorem dX5_judge_7 : decode cX5_judge 7 = .ok (.aload_n 0, 1) := by decide +kernel
theorem dX5_judge_8 : decode cX5_judge 8 = .ok (.iconst (-1), 1) := by decide +kernel
theorem dX5_judge_9 : decode cX5_judge 9 = .ok (.invokevirtual 53, 3) := by decide +kernel
theorem dX5_judge_12 : decode cX5_judge 12 = .ok (.ireturn, 1) := by decide +kernel
theorem dX5_judge_13 : decode cX5_judge 13 = .ok (.aload_n 0, 1) := by decide +kernel
theorem dX5_judge_14 : decode cX5_judge 14 = .ok (.iload_n 1, 1) := by decide +kernel
theorem dX5_judge_15 : decode cX5_judge 15 = .ok (.iconst 0, 1) := by decide +kernel
theorem dX5_judge_16 : decode cX5_judge 16 = .ok (.invokevirtual 132, 3) := by decide +kernel
theorem dX5_judge_19 : decode cX5_judge 19 = .ok (.bipush (-9), 2) := by decide +kernel
theorem dX5_judge_21 : decode cX5_judge 21 = .ok (.istore_n 2, 1) := by decide +kernel
theorem dX5_judge_22 : decode cX5_judge 22 = .ok (.iconst 0, 1) := by decide +kernel
theorem dX5_judge_23 : decode cX5_judge 23 = .ok (.istore_n 3, 1) := by decide +kernel
theorem dX5_judge_24 : decode cX5_judge 24 = .ok (.iload_n 3, 1) := by decide +kernel
theorem dX5_judge_25 : decode cX5_judge 25 = .ok (.aload_n 0, 1) := by decide +kernel
theorem dX5_judge_26 : decode cX5_judge 26 = .ok (.getfield 41, 3) := by decide +kernel
theorem dX5_judge_29 : decode cX5_judge 29 = .ok (.getfield 213, 3) := by decide +kernel
theorem dX5_judge_32 : decode cX5_judge 32 = .ok (.if_icmp .ge 41, 3) := by decide +kernel
theorem dX5_judge_35 : decode cX5_judge 35 = .ok (.iload_n 2, 1) := by decide +kernel
theorem dX5_judge_36 : decode cX5_judge 36 = .ok (.bipush (-9), 2) := by decide +kernel
theorem dX5_judge_38 : decode cX5_judge 38 = .ok (.if_icmp .ne 35, 3) := by decide +kernel
theorem dX5_judge_41 : decode cX5_judge 41 = .ok (.aload_n 0, 1) := by decide +kernel
theorem dX5_judge_42 : decode cX5_judge 42 = .ok (.getfield 41, 3) := by decide +kernel
theorem dX5_judge_45 : decode cX5_judge 45 = .ok (.iload_n 3, 1) := by decide +kernel
theorem dX5_judge_46 : decode cX5_judge 46 = .ok (.invokevirtual 216, 3) := by decide +kernel
theorem dX5_judge_49 : decode cX5_judge 49 = .ok (.aload_n 0, 1) := by decide +kernel
theorem dX5_judge_50 : decode cX5_judge 50 = .ok (.getfield 25, 3) := by decide +kernel
theorem dX5_judge_53 : decode cX5_judge 53 = .ok (.iload_n 3, 1) := by decide +kernel
theorem dX5_judge_54 : decode cX5_judge 54 = .ok (.iconst 1, 1) := by decide +kernel
theorem dX5_judge_55 : decode cX5_judge 55 = .ok (.iadd, 1) := by decide +kernel
theorem dX5_judge_56 : decode cX5_judge 56 = .ok (.invokevirtual 219, 3) := by decide +kernel
theorem dX5_judge_59 : decode cX5_judge 59 = .ok (.invokestatic 222, 3) := by decide +kernel
theorem dX5_judge_62 : decode cX5_judge 62 = .ok (.if_icmp .eq 5, 3) := by decide +kernel
theorem dX5_judge_65 : decode cX5_judge 65 = .ok (.iload_n 3, 1) := by decide +kernel
theorem dX5_judge_66 : decode cX5_judge 66 = .ok (.istore_n 2, 1) := by decide +kernel
theorem dX5_judge_67 : decode cX5_judge 67 = .ok (.iinc 3 1, 3) := by decide +kernel
theorem dX5_judge_70 : decode cX5_judge 70 = .ok (.goto (-46), 3) := by decide +kernel
theorem dX5_judge_73 : decode cX5_judge 73 = .ok (.aload_n 0, 1) := by decide +kernel
theorem dX5_judge_74 : decode cX5_judge 74 = .ok (.getfield 41, 3) := by decide +kernel
theorem dX5_judge_77 : decode cX5_judge 77 = .ok (.invokevirtual 75, 3) := by decide +kernel
theorem dX5_judge_80 : decode cX5_judge 80 = .ok (.iload_n 2, 1) := by decide +kernel
theorem dX5_judge_81 : decode cX5_judge 81 = .ok (.ireturn, 1) := by decide +kernel
theorem dX5_clear_0 : decode cX5_clear 0 = .ok (.aload_n 0, 1) := by decide +kernel
theorem dX5_clear_1 : decode cX5_clear 1 = .ok (.getfield 41, 3) := by decide +kernel
theorem dX5_clear_4 : decode cX5_clear 4 = .ok (.getfield 213, 3) := by decide +kernel
theorem dX5_clear_7 : decode cX5_clear 7 = .ok (.istore_n 1, 1) := by decide +kernel
theorem dX5_clear_8 : decode cX5_clear 8 = .ok (.aload_n 0, 1) := by decide +kernel
theorem dX5_clear_9 : decode cX5_clear 9 = .ok (.getfield 41, 3) := by decide +kernel
theorem dX5_clear_12 : decode cX5_clear 12 = .ok (.invokevirtual 75, 3) := by decide +kernel
theorem dX5_clear_15 : decode cX5_clear 15 = .ok (.iload_n 1, 1) := by decide +kernel
theorem dX5_clear_16 : decode cX5_clear 16 = .ok (.ireturn, 1) := by decide +kernel
theorem dX5_lots_0 : decode cX5_lots 0 = .ok (.iload_n 1, 1) := by decide +kernel
theorem dX5_lots_1 : decode cX5_lots 1 = .ok (.iconst 1, 1) := by decide +kernel
theorem dX5_lots_2 : decode cX5_lots 2 = .ok (.if_icmp .ge 10, 3) := by decide +kernel
theorem dX5_lots_5 : decode cX5_lots 5 = .ok (.aload_n 0, 1) := by decide +kernel
theorem dX5_lots_6 : decode cX5_lots 6 = .ok (.bipush (-4), 2) := by decide +kernel
theorem dX5_lots_8 : decode cX5_lots 8 = .ok (.invokevirtual 53, 3) := by decide +kernel
theorem dX5_lots_11 : decode cX5_lots 11 = .ok (.ireturn, 1) := by decide +kernel
theorem dX5_lots_12 : decode cX5_lots 12 = .ok (.iload_n 1, 1) := by decide +kernel
theorem dX5_lots_13 : decode cX5_lots 13 = .ok (.bipush 20, 2) := by decide +kernel
theorem dX5_lots_15 : decode cX5_lots 15 = .ok (.if_icmp .le 10, 3) := by decide +kernel
theorem dX5_lots_18 : decode cX5_lots 18 = .ok (.aload_n 0, 1) := by decide +kernel
theorem dX5_lots_19 : decode cX5_lots 19 = .ok (.bipush (-6), 2) := by decide +kernel
theorem dX5_lots_21 : decode cX5_lots 21 = .ok (.invokevirtual 53, 3) := by decide +kernel
theorem dX5_lots_24 : decode cX5_lots 24 = .ok (.ireturn, 1) := by decide +kernel
theorem dX5_lots_25 : decode cX5_lots 25 = .ok (.iload_n 3, 1) := by decide +kernel
theorem dX5_lots_26 : decode cX5_lots 26 = .ok (.ifCond .eq 15, 3) := by decide +kernel
theorem dX5_lots_29 : decode cX5_lots 29 = .ok (.iload_n 3, 1) := by decide +kernel
theorem dX5_lots_30 : decode cX5_lots 30 = .ok (.iconst 1, 1) := by decide +kernel
theorem dX5_lots_31 : decode cX5_lots 31 = .ok (.if_icmp .eq 10, 3) := by decide +kernel
theorem dX5_lots_34 : decode cX5_lots 34 = .ok (.aload_n 0, 1) := by decide +kernel
theorem dX5_lots_35 : decode cX5_lots 35 = .ok (.bipush (-2), 2) := by decide +kernel
theorem dX5_lots_37 : decode cX5_lots 37 = .ok (.invokevirtual 53, 3) := by decide +kernel
theorem dX5_lots_40 : decode cX5_lots 40 = .ok (.ireturn, 1) := by decide +kernel
theorem dX5_lots_41 : decode cX5_lots 41 = .ok (.aload_n 0, 1) := by decide +kernel
theorem dX5_lots_42 : decode cX5_lots 42 = .ok (.getfield 25, 3) := by decide +kernel
theorem dX5_lots_45 : decode cX5_lots 45 = .ok (.aload_n 0, 1) := by decide +kernel
theorem dX5_lots_46 : decode cX5_lots 46 = .ok (.getfield 10, 3) := by decide +kernel
theorem dX5_lots_49 : decode cX5_lots 49 = .ok (.invokevirtual 159, 3) := by decide +kernel
theorem dX5_lots_52 : decode cX5_lots 52 = .ok (.iload_n 2, 1) := by decide +kernel
theorem dX5_lots_53 : decode cX5_lots 53 = .ok (.istore 4, 2) := by decide +kernel
theorem dX5_lots_55 : decode cX5_lots 55 = .ok (.iconst 0, 1) := by decide +kernel
theorem dX5_lots_56 : decode cX5_lots 56 = .ok (.istore 5, 2) := by decide +kernel
theorem dX5_lots_58 : decode cX5_lots 58 = .ok (.iconst 0, 1) := by decide +kernel
theorem dX5_lots_59 : decode cX5_lots 59 = .ok (.istore 6, 2) := by decide +kernel
theorem dX5_lots_61 : decode cX5_lots 61 = .ok (.iload 6, 2) := by decide +kernel
theorem dX5_lots_63 : decode cX5_lots 63 = .ok (.iload_n 1, 1) := by decide +kernel
theorem dX5_lots_64 : decode cX5_lots 64 = .ok (.if_icmp .ge 90, 3) := by decide +kernel
theorem dX5_lots_67 : decode cX5_lots 67 = .ok (.iload 4, 2) := by decide +kernel
theorem dX5_lots_69 : decode cX5_lots 69 = .ok (.invokestatic 225, 3) := by decide +kernel
theorem dX5_lots_72 : decode cX5_lots 72 = .ok (.istore 4, 2) := by decide +kernel
theorem dX5_lots_74 : decode cX5_lots 74 = .ok (.iload 4, 2) := by decide +kernel
theorem dX5_lots_76 : decode cX5_lots 76 = .ok (.bipush 25, 2) := by decide +kernel
theorem dX5_lots_78 : decode cX5_lots 78 = .ok (.invokestatic 228, 3) := by decide +kernel
theorem dX5_lots_81 : decode cX5_lots 81 = .ok (.istore 7, 2) := by decide +kernel
theorem dX5_lots_83 : decode cX5_lots 83 = .ok (.iconst 0, 1) := by decide +kernel
theorem dX5_lots_84 : decode cX5_lots 84 = .ok (.istore 8, 2) := by decide +kernel
theorem dX5_lots_86 : decode cX5_lots 86 = .ok (.aload_n 0, 1) := by decide +kernel
theorem dX5_lots_87 : decode cX5_lots 87 = .ok (.getfield 10, 3) := by decide +kernel
theorem dX5_lots_90 : decode cX5_lots 90 = .ok (.getfield 153, 3) := by decide +kernel
theorem dX5_lots_93 : decode cX5_lots 93 = .ok (.ifCond .le 24, 3) := by decide +kernel
theorem dX5_lots_96 : decode cX5_lots 96 = .ok (.iload 4, 2) := by decide +kernel
theorem dX5_lots_98 : decode cX5_lots 98 = .ok (.invokestatic 225, 3) := by decide +kernel
theorem dX5_lots_101 : decode cX5_lots 101 = .ok (.istore 4, 2) := by decide +kernel
theorem dX5_lots_103 : decode cX5_lots 103 = .ok (.iload 4, 2) := by decide +kernel
theorem dX5_lots_105 : decode cX5_lots 105 = .ok (.aload_n 0, 1) := by decide +kernel
theorem dX5_lots_106 : decode cX5_lots 106 = .ok (.getfield 10, 3) := by decide +kernel
theorem dX5_lots_109 : decode cX5_lots 109 = .ok (.getfield 153, 3) := by decide +kernel
theorem dX5_lots_112 : decode cX5_lots 112 = .ok (.invokestatic 228, 3) := by decide +kernel
theorem dX5_lots_115 : decode cX5_lots 115 = .ok (.istore 8, 2) := by decide +kernel
theorem dX5_lots_117 : decode cX5_lots 117 = .ok (.aload_n 0, 1) := by decide +kernel
theorem dX5_lots_118 : decode cX5_lots 118 = .ok (.iload 7, 2) := by decide +kernel
theorem dX5_lots_120 : decode cX5_lots 120 = .ok (.iload 8, 2) := by decide +kernel
theorem dX5_lots_122 : decode cX5_lots 122 = .ok (.invokevirtual 168, 3) := by decide +kernel
theorem dX5_lots_125 : decode cX5_lots 125 = .ok (.istore 9, 2) := by decide +kernel
theorem dX5_lots_127 : decode cX5_lots 127 = .ok (.iload 5, 2) := by decide +kernel
theorem dX5_lots_129 : decode cX5_lots 129 = .ok (.iload_n 3, 1) := by decide +kernel
theorem dX5_lots_130 : decode cX5_lots 130 = .ok (.ifCond .ne 8, 3) := by decide +kernel
theorem dX5_lots_133 : decode cX5_lots 133 = .ok (.iload 9, 2) := by decide +kernel
theorem dX5_lots_135 : decode cX5_lots 135 = .ok (.goto 10, 3) := by decide +kernel
theorem dX5_lots_138 : decode cX5_lots 138 = .ok (.aload_n 0, 1) := by decide +kernel
theorem dX5_lots_139 : decode cX5_lots 139 = .ok (.getfield 25, 3) := by decide +kernel
theorem dX5_lots_142 : decode cX5_lots 142 = .ok (.invokevirtual 135, 3) := by decide +kernel
theorem dX5_lots_145 : decode cX5_lots 145 = .ok (.iadd, 1) := by decide +kernel
theorem dX5_lots_146 : decode cX5_lots 146 = .ok (.istore 5, 2) := by decide +kernel
theorem dX5_lots_148 : decode cX5_lots 148 = .ok (.iinc 6 1, 3) := by decide +kernel
theorem dX5_lots_151 : decode cX5_lots 151 = .ok (.goto (-90), 3) := by decide +kernel
theorem dX5_lots_154 : decode cX5_lots 154 = .ok (.iload 5, 2) := by decide +kernel
theorem dX5_lots_156 : decode cX5_lots 156 = .ok (.ireturn, 1) := by decide +kernel
theorem dX5_image_0 : decode cX5_image 0 = .ok (.aload_n 0, 1) := by decide +kernel
theorem dX5_image_1 : decode cX5_image 1 = .ok (.getfield 16, 3) := by decide +kernel
theorem dX5_image_4 : decode cX5_image 4 = .ok (.aload_n 0, 1) := by decide +kernel
theorem dX5_image_5 : decode cX5_image 5 = .ok (.getfield 10, 3) := by decide +kernel
theorem dX5_image_8 : decode cX5_image 8 = .ok (.invokevirtual 67, 3) := by decide +kernel
theorem dX5_image_11 : decode cX5_image 11 = .ok (.aload_n 0, 1) := by decide +kernel
theorem dX5_image_12 : decode cX5_image 12 = .ok (.iconst 1, 1) := by decide +kernel
theorem dX5_image_13 : decode cX5_image 13 = .ok (.putfield 49, 3) := by decide +kernel
theorem dX5_image_16 : decode cX5_image 16 = .ok (.aload_n 0, 1) := by decide +kernel
theorem dX5_image_17 : decode cX5_image 17 = .ok (.getfield 10, 3) := by decide +kernel
theorem dX5_image_20 : decode cX5_image 20 = .ok (.getfield 118, 3) := by decide +kernel
theorem dX5_image_23 : decode cX5_image 23 = .ok (.ireturn, 1) := by decide +kernel
theorem dX5_on_0 : decode cX5_on 0 = .ok (.aload_n 0, 1) := by decide +kernel
theorem dX5_on_1 : decode cX5_on 1 = .ok (.getfield 49, 3) := by decide +kernel
theorem dX5_on_4 : decode cX5_on 4 = .ok (.ifCond .ne 10, 3) := by decide +kernel
theorem dX5_on_7 : decode cX5_on 7 = .ok (.aload_n 0, 1) := by decide +kernel
theorem dX5_on_8 : decode cX5_on 8 = .ok (.bipush (-3), 2) := by decide +kernel
theorem dX5_on_10 : decode cX5_on 10 = .ok (.invokevirtual 53, 3) := by decide +kernel
theorem dX5_on_13 : decode cX5_on 13 = .ok (.ireturn, 1) := by decide +kernel
theorem dX5_on_14 : decode cX5_on 14 = .ok (.aload_n 0, 1) := by decide +kernel
theorem dX5_on_15 : decode cX5_on 15 = .ok (.getfield 10, 3) := by decide +kernel
theorem dX5_on_18 : decode cX5_on 18 = .ok (.aload_n 0, 1) := by decide +kernel
theorem dX5_on_19 : decode cX5_on 19 = .ok (.getfield 16, 3) := by decide +kernel
theorem dX5_on_22 : decode cX5_on 22 = .ok (.invokevirtual 67, 3) := by decide +kernel
theorem dX5_on_25 : decode cX5_on 25 = .ok (.aload_n 0, 1) := by decide +kernel
theorem dX5_on_26 : decode cX5_on 26 = .ok (.getfield 10, 3) := by decide +kernel
theorem dX5_on_29 : decode cX5_on 29 = .ok (.getfield 118, 3) := by decide +kernel
theorem dX5_on_32 : decode cX5_on 32 = .ok (.ireturn, 1) := by decide +kernel
theorem dX5_count_0 : decode cX5_count 0 = .ok (.iload_n 1, 1) := by decide +kernel
theorem dX5_count_1 : decode cX5_count 1 = .ok (.tableswitch 114 0 7 #[47, 55, 63, 71, 79, 87, 95, 103], 47) := by decide +kernel
theorem dX5_count_48 : decode cX5_count 48 = .ok (.aload_n 0, 1) := by decide +kernel
theorem dX5_count_49 : decode cX5_count 49 = .ok (.getfield 10, 3) := by decide +kernel
theorem dX5_count_52 : decode cX5_count 52 = .ok (.getfield 153, 3) := by decide +kernel
theorem dX5_count_55 : decode cX5_count 55 = .ok (.ireturn, 1) := by decide +kernel
theorem dX5_count_56 : decode cX5_count 56 = .ok (.aload_n 0, 1) := by decide +kernel
theorem dX5_count_57 : decode cX5_count 57 = .ok (.getfield 10, 3) := by decide +kernel
theorem dX5_count_60 : decode cX5_count 60 = .ok (.getfield 118, 3) := by decide +kernel
theorem dX5_count_63 : decode cX5_count 63 = .ok (.ireturn, 1) := by decide +kernel
theorem dX5_count_64 : decode cX5_count 64 = .ok (.aload_n 0, 1) := by decide +kernel
theorem dX5_count_65 : decode cX5_count 65 = .ok (.getfield 10, 3) := by decide +kernel
theorem dX5_count_68 : decode cX5_count 68 = .ok (.invokevirtual 231, 3) := by decide +kernel
theorem dX5_count_71 : decode cX5_count 71 = .ok (.ireturn, 1) := by decide +kernel
theorem dX5_count_72 : decode cX5_count 72 = .ok (.aload_n 0, 1) := by decide +kernel
theorem dX5_count_73 : decode cX5_count 73 = .ok (.getfield 10, 3) := by decide +kernel
theorem dX5_count_76 : decode cX5_count 76 = .ok (.invokevirtual 234, 3) := by decide +kernel
theorem dX5_count_79 : decode cX5_count 79 = .ok (.ireturn, 1) := by decide +kernel
theorem dX5_count_80 : decode cX5_count 80 = .ok (.aload_n 0, 1) := by decide +kernel
theorem dX5_count_81 : decode cX5_count 81 = .ok (.getfield 10, 3) := by decide +kernel
theorem dX5_count_84 : decode cX5_count 84 = .ok (.invokevirtual 191, 3) := by decide +kernel
theorem dX5_count_87 : decode cX5_count 87 = .ok (.ireturn, 1) := by decide +kernel
theorem dX5_count_88 : decode cX5_count 88 = .ok (.aload_n 0, 1) := by decide +kernel
theorem dX5_count_89 : decode cX5_count 89 = .ok (.getfield 10, 3) := by decide +kernel
theorem dX5_count_92 : decode cX5_count 92 = .ok (.invokevirtual 237, 3) := by decide +kernel
theorem dX5_count_95 : decode cX5_count 95 = .ok (.ireturn, 1) := by decide +kernel
theorem dX5_count_96 : decode cX5_count 96 = .ok (.aload_n 0, 1) := by decide +kernel
theorem dX5_count_97 : decode cX5_count 97 = .ok (.getfield 41, 3) := by decide +kernel
theorem dX5_count_100 : decode cX5_count 100 = .ok (.getfield 213, 3) := by decide +kernel
theorem dX5_count_103 : decode cX5_count 103 = .ok (.ireturn, 1) := by decide +kernel
theorem dX5_count_104 : decode cX5_count 104 = .ok (.aload_n 0, 1) := by decide +kernel
theorem dX5_count_105 : decode cX5_count 105 = .ok (.getfield 32, 3) := by decide +kernel
theorem dX5_count_108 : decode cX5_count 108 = .ok (.getfield 57, 3) := by decide +kernel
theorem dX5_count_111 : decode cX5_count 111 = .ok (.getfield 213, 3) := by decide +kernel
theorem dX5_count_114 : decode cX5_count 114 = .ok (.ireturn, 1) := by decide +kernel
theorem dX5_count_115 : decode cX5_count 115 = .ok (.iload_n 1, 1) := by decide +kernel
theorem dX5_count_116 : decode cX5_count 116 = .ok (.bipush 10, 2) := by decide +kernel
theorem dX5_count_118 : decode cX5_count 118 = .ok (.if_icmp .le 21, 3) := by decide +kernel
theorem dX5_count_121 : decode cX5_count 121 = .ok (.iload_n 1, 1) := by decide +kernel
theorem dX5_count_122 : decode cX5_count 122 = .ok (.bipush 16, 2) := by decide +kernel
theorem dX5_count_124 : decode cX5_count 124 = .ok (.if_icmp .gt 15, 3) := by decide +kernel
theorem dX5_count_127 : decode cX5_count 127 = .ok (.aload_n 0, 1) := by decide +kernel
theorem dX5_count_128 : decode cX5_count 128 = .ok (.getfield 45, 3) := by decide +kernel
theorem dX5_count_131 : decode cX5_count 131 = .ok (.iload_n 1, 1) := by decide +kernel
theorem dX5_count_132 : decode cX5_count 132 = .ok (.bipush 10, 2) := by decide +kernel
theorem dX5_count_134 : decode cX5_count 134 = .ok (.isub, 1) := by decide +kernel
theorem dX5_count_135 : decode cX5_count 135 = .ok (.iaload, 1) := by decide +kernel
theorem dX5_count_136 : decode cX5_count 136 = .ok (.goto 5, 3) := by decide +kernel
theorem dX5_count_139 : decode cX5_count 139 = .ok (.bipush (-9), 2) := by decide +kernel
theorem dX5_count_141 : decode cX5_count 141 = .ok (.ireturn, 1) := by decide +kernel
theorem dX5_refuse_0 : decode cX5_refuse 0 = .ok (.iload_n 1, 1) := by decide +kernel
theorem dX5_refuse_1 : decode cX5_refuse 1 = .ok (.ineg, 1) := by decide +kernel
theorem dX5_refuse_2 : decode cX5_refuse 2 = .ok (.istore_n 2, 1) := by decide +kernel
theorem dX5_refuse_3 : decode cX5_refuse 3 = .ok (.iload_n 2, 1) := by decide +kernel
theorem dX5_refuse_4 : decode cX5_refuse 4 = .ok (.iconst 1, 1) := by decide +kernel
theorem dX5_refuse_5 : decode cX5_refuse 5 = .ok (.if_icmp .lt 19, 3) := by decide +kernel
theorem dX5_refuse_8 : decode cX5_refuse 8 = .ok (.iload_n 2, 1) := by decide +kernel
theorem dX5_refuse_9 : decode cX5_refuse 9 = .ok (.bipush 6, 2) := by decide +kernel
theorem dX5_refuse_11 : decode cX5_refuse 11 = .ok (.if_icmp .gt 13, 3) := by decide +kernel
theorem dX5_refuse_14 : decode cX5_refuse 14 = .ok (.aload_n 0, 1) := by decide +kernel
theorem dX5_refuse_15 : decode cX5_refuse 15 = .ok (.getfield 45, 3) := by decide +kernel
theorem dX5_refuse_18 : decode cX5_refuse 18 = .ok (.iload_n 2, 1) := by decide +kernel
theorem dX5_refuse_19 : decode cX5_refuse 19 = .ok (.dup2, 1) := by decide +kernel
theorem dX5_refuse_20 : decode cX5_refuse 20 = .ok (.iaload, 1) := by decide +kernel
theorem dX5_refuse_21 : decode cX5_refuse 21 = .ok (.iconst 1, 1) := by decide +kernel
theorem dX5_refuse_22 : decode cX5_refuse 22 = .ok (.iadd, 1) := by decide +kernel
theorem dX5_refuse_23 : decode cX5_refuse 23 = .ok (.iastore, 1) := by decide +kernel
theorem dX5_refuse_24 : decode cX5_refuse 24 = .ok (.iload_n 1, 1) := by decide +kernel
theorem dX5_refuse_25 : decode cX5_refuse 25 = .ok (.ireturn, 1) := by decide +kernel
theorem dX5_refuseLong_0 : decode cX5_refuseLong 0 = .ok (.ldc2_w 240, 3) := by decide +kernel
theorem dX5_refuseLong_3 : decode cX5_refuseLong 3 = .ok (.aload_n 0, 1) := by decide +kernel
theorem dX5_refuseLong_4 : decode cX5_refuseLong 4 = .ok (.iload_n 1, 1) := by decide +kernel
theorem dX5_refuseLong_5 : decode cX5_refuseLong 5 = .ok (.invokevirtual 53, 3) := by decide +kernel
theorem dX5_refuseLong_8 : decode cX5_refuseLong 8 = .ok (.i2l, 1) := by decide +kernel
theorem dX5_refuseLong_9 : decode cX5_refuseLong 9 = .ok (.lsub, 1) := by decide +kernel
theorem dX5_refuseLong_10 : decode cX5_refuseLong 10 = .ok (.lreturn, 1) := by decide +kernel
theorem dX5_isRoom_0 : decode cX5_isRoom 0 = .ok (.iload_n 0, 1) := by decide +kernel
theorem dX5_isRoom_1 : decode cX5_isRoom 1 = .ok (.ifCond .lt 13, 3) := by decide +kernel
theorem dX5_isRoom_4 : decode cX5_isRoom 4 = .ok (.iload_n 0, 1) := by decide +kernel
theorem dX5_isRoom_5 : decode cX5_isRoom 5 = .ok (.bipush 25, 2) := by decide +kernel
theorem dX5_isRoom_7 : decode cX5_isRoom 7 = .ok (.if_icmp .ge 7, 3) := by decide +kernel
theorem dX5_isRoom_10 : decode cX5_isRoom 10 = .ok (.iconst 1, 1) := by decide +kernel
theorem dX5_isRoom_11 : decode cX5_isRoom 11 = .ok (.goto 4, 3) := by decide +kernel
theorem dX5_isRoom_14 : decode cX5_isRoom 14 = .ok (.iconst 0, 1) := by decide +kernel
theorem dX5_isRoom_15 : decode cX5_isRoom 15 = .ok (.ireturn, 1) := by decide +kernel
theorem dX5_isPerson_0 : decode cX5_isPerson 0 = .ok (.aload_n 0, 1) := by decide +kernel
theorem dX5_isPerson_1 : decode cX5_isPerson 1 = .ok (.getfield 10, 3) := by decide +kernel
theorem dX5_isPerson_4 : decode cX5_isPerson 4 = .ok (.iload_n 1, 1) := by decide +kernel
theorem dX5_isPerson_5 : decode cX5_isPerson 5 = .ok (.invokevirtual 242, 3) := by decide +kernel
theorem dX5_isPerson_8 : decode cX5_isPerson 8 = .ok (.ireturn, 1) := by decide +kernel
theorem dX5_isSpeaker_0 : decode cX5_isSpeaker 0 = .ok (.aload_n 0, 1) := by decide +kernel
theorem dX5_isSpeaker_1 : decode cX5_isSpeaker 1 = .ok (.getfield 10, 3) := by decide +kernel
theorem dX5_isSpeaker_4 : decode cX5_isSpeaker 4 = .ok (.getfield 153, 3) := by decide +kernel
theorem dX5_isSpeaker_7 : decode cX5_isSpeaker 7 = .ok (.ifCond .ne 15, 3) := by decide +kernel
theorem dX5_isSpeaker_10 : decode cX5_isSpeaker 10 = .ok (.iload_n 1, 1) := by decide +kernel
theorem dX5_isSpeaker_11 : decode cX5_isSpeaker 11 = .ok (.ifCond .ne 7, 3) := by decide +kernel
theorem dX5_isSpeaker_14 : decode cX5_isSpeaker 14 = .ok (.iconst 1, 1) := by decide +kernel
theorem dX5_isSpeaker_15 : decode cX5_isSpeaker 15 = .ok (.goto 12, 3) := by decide +kernel
theorem dX5_isSpeaker_18 : decode cX5_isSpeaker 18 = .ok (.iconst 0, 1) := by decide +kernel
theorem dX5_isSpeaker_19 : decode cX5_isSpeaker 19 = .ok (.goto 8, 3) := by decide +kernel
theorem dX5_isSpeaker_22 : decode cX5_isSpeaker 22 = .ok (.aload_n 0, 1) := by decide +kernel
theorem dX5_isSpeaker_23 : decode cX5_isSpeaker 23 = .ok (.iload_n 1, 1) := by decide +kernel
theorem dX5_isSpeaker_24 : decode cX5_isSpeaker 24 = .ok (.invokevirtual 97, 3) := by decide +kernel
theorem dX5_isSpeaker_27 : decode cX5_isSpeaker 27 = .ok (.ireturn, 1) := by decide +kernel
theorem dX5_burnAsNow_0 : decode cX5_burnAsNow 0 = .ok (.aload_n 0, 1) := by decide +kernel
theorem dX5_burnAsNow_1 : decode cX5_burnAsNow 1 = .ok (.getfield 25, 3) := by decide +kernel
theorem dX5_burnAsNow_4 : decode cX5_burnAsNow 4 = .ok (.aload_n 0, 1) := by decide +kernel
theorem dX5_burnAsNow_5 : decode cX5_burnAsNow 5 = .ok (.getfield 10, 3) := by decide +kernel
theorem dX5_burnAsNow_8 : decode cX5_burnAsNow 8 = .ok (.invokevirtual 159, 3) := by decide +kernel
theorem dX5_burnAsNow_11 : decode cX5_burnAsNow 11 = .ok (.aload_n 0, 1) := by decide +kernel
theorem dX5_burnAsNow_12 : decode cX5_burnAsNow 12 = .ok (.getfield 25, 3) := by decide +kernel
theorem dX5_burnAsNow_15 : decode cX5_burnAsNow 15 = .ok (.iload_n 2, 1) := by decide +kernel
theorem dX5_burnAsNow_16 : decode cX5_burnAsNow 16 = .ok (.invokevirtual 245, 3) := by decide +kernel
theorem dX5_burnAsNow_19 : decode cX5_burnAsNow 19 = .ok (.aload_n 0, 1) := by decide +kernel
theorem dX5_burnAsNow_20 : decode cX5_burnAsNow 20 = .ok (.getfield 25, 3) := by decide +kernel
theorem dX5_burnAsNow_23 : decode cX5_burnAsNow 23 = .ok (.iload_n 1, 1) := by decide +kernel
theorem dX5_burnAsNow_24 : decode cX5_burnAsNow 24 = .ok (.iconst 0, 1) := by decide +kernel
theorem dX5_burnAsNow_25 : decode cX5_burnAsNow 25 = .ok (.invokevirtual 248, 3) := by decide +kernel
theorem dX5_burnAsNow_28 : decode cX5_burnAsNow 28 = .ok (.return_, 1) := by decide +kernel
theorem dX5_worthIn_0 : decode cX5_worthIn 0 = .ok (.aload_n 0, 1) := by decide +kernel
theorem dX5_worthIn_1 : decode cX5_worthIn 1 = .ok (.getfield 25, 3) := by decide +kernel
theorem dX5_worthIn_4 : decode cX5_worthIn 4 = .ok (.aload_n 1, 1) := by decide +kernel
theorem dX5_worthIn_5 : decode cX5_worthIn 5 = .ok (.invokevirtual 159, 3) := by decide +kernel
theorem dX5_worthIn_8 : decode cX5_worthIn 8 = .ok (.aload_n 0, 1) := by decide +kernel
theorem dX5_worthIn_9 : decode cX5_worthIn 9 = .ok (.iload_n 2, 1) := by decide +kernel
theorem dX5_worthIn_10 : decode cX5_worthIn 10 = .ok (.iconst 0, 1) := by decide +kernel
theorem dX5_worthIn_11 : decode cX5_worthIn 11 = .ok (.invokevirtual 168, 3) := by decide +kernel
theorem dX5_worthIn_14 : decode cX5_worthIn 14 = .ok (.ireturn, 1) := by decide +kernel
theorem dX5_worthBy_0 : decode cX5_worthBy 0 = .ok (.aload_n 0, 1) := by decide +kernel
theorem dX5_worthBy_1 : decode cX5_worthBy 1 = .ok (.getfield 25, 3) := by decide +kernel
theorem dX5_worthBy_4 : decode cX5_worthBy 4 = .ok (.iload_n 2, 1) := by decide +kernel
theorem dX5_worthBy_5 : decode cX5_worthBy 5 = .ok (.invokevirtual 245, 3) := by decide +kernel
theorem dX5_worthBy_8 : decode cX5_worthBy 8 = .ok (.aload_n 0, 1) := by decide +kernel
theorem dX5_worthBy_9 : decode cX5_worthBy 9 = .ok (.getfield 25, 3) := by decide +kernel
theorem dX5_worthBy_12 : decode cX5_worthBy 12 = .ok (.iload_n 1, 1) := by decide +kernel
theorem dX5_worthBy_13 : decode cX5_worthBy 13 = .ok (.iconst 0, 1) := by decide +kernel
theorem dX5_worthBy_14 : decode cX5_worthBy 14 = .ok (.invokevirtual 248, 3) := by decide +kernel
theorem dX5_worthBy_17 : decode cX5_worthBy 17 = .ok (.aload_n 0, 1) := by decide +kernel
theorem dX5_worthBy_18 : decode cX5_worthBy 18 = .ok (.getfield 25, 3) := by decide +kernel
theorem dX5_worthBy_21 : decode cX5_worthBy 21 = .ok (.invokevirtual 138, 3) := by decide +kernel
theorem dX5_worthBy_24 : decode cX5_worthBy 24 = .ok (.ireturn, 1) := by decide +kernel
theorem dX5_worthWithOnly_0 : decode cX5_worthWithOnly 0 = .ok (.aload_n 0, 1) := by decide +kernel
theorem dX5_worthWithOnly_1 : decode cX5_worthWithOnly 1 = .ok (.getfield 25, 3) := by decide +kernel
theorem dX5_worthWithOnly_4 : decode cX5_worthWithOnly 4 = .ok (.iconst 0, 1) := by decide +kernel
theorem dX5_worthWithOnly_5 : decode cX5_worthWithOnly 5 = .ok (.iload_n 2, 1) := by decide +kernel
theorem dX5_worthWithOnly_6 : decode cX5_worthWithOnly 6 = .ok (.invokevirtual 251, 3) := by decide +kernel
theorem dX5_worthWithOnly_9 : decode cX5_worthWithOnly 9 = .ok (.aload_n 0, 1) := by decide +kernel
theorem dX5_worthWithOnly_10 : decode cX5_worthWithOnly 10 = .ok (.getfield 25, 3) := by decide +kernel
theorem dX5_worthWithOnly_13 : decode cX5_worthWithOnly 13 = .ok (.iload_n 1, 1) := by decide +kernel
theorem dX5_worthWithOnly_14 : decode cX5_worthWithOnly 14 = .ok (.iconst 0, 1) := by decide +kernel
theorem dX5_worthWithOnly_15 : decode cX5_worthWithOnly 15 = .ok (.invokevirtual 248, 3) := by decide +kernel
theorem dX5_worthWithOnly_18 : decode cX5_worthWithOnly 18 = .ok (.aload_n 0, 1) := by decide +kernel
theorem dX5_worthWithOnly_19 : decode cX5_worthWithOnly 19 = .ok (.getfield 25, 3) := by decide +kernel
theorem dX5_worthWithOnly_22 : decode cX5_worthWithOnly 22 = .ok (.invokevirtual 138, 3) := by decide +kernel
theorem dX5_worthWithOnly_25 : decode cX5_worthWithOnly 25 = .ok (.ireturn, 1) := by decide +kernel
theorem dX5_bestAgainst_0 : decode cX5_bestAgainst 0 = .ok (.aload_n 0, 1) := by decide +kernel
theorem dX5_bestAgainst_1 : decode cX5_bestAgainst 1 = .ok (.getfield 25, 3) := by decide +kernel
theorem dX5_bestAgainst_4 : decode cX5_bestAgainst 4 = .ok (.aload_n 0, 1) := by decide +kernel
theorem dX5_bestAgainst_5 : decode cX5_bestAgainst 5 = .ok (.getfield 10, 3) := by decide +kernel
theorem dX5_bestAgainst_8 : decode cX5_bestAgainst 8 = .ok (.invokevirtual 159, 3) := by decide +kernel
theorem dX5_bestAgainst_11 : decode cX5_bestAgainst 11 = .ok (.bipush (-9), 2) := by decide +kernel
theorem dX5_bestAgainst_13 : decode cX5_bestAgainst 13 = .ok (.istore_n 3, 1) := by decide +kernel
theorem dX5_bestAgainst_14 : decode cX5_bestAgainst 14 = .ok (.iconst 0, 1) := by decide +kernel
theorem dX5_bestAgainst_15 : decode cX5_bestAgainst 15 = .ok (.istore 4, 2) := by decide +kernel
theorem dX5_bestAgainst_17 : decode cX5_bestAgainst 17 = .ok (.iconst 0, 1) := by decide +kernel
theorem dX5_bestAgainst_18 : decode cX5_bestAgainst 18 = .ok (.istore 5, 2) := by decide +kernel
theorem dX5_bestAgainst_20 : decode cX5_bestAgainst 20 = .ok (.iload 5, 2) := by decide +kernel
theorem dX5_bestAgainst_22 : decode cX5_bestAgainst 22 = .ok (.aload_n 0, 1) := by decide +kernel
theorem dX5_bestAgainst_23 : decode cX5_bestAgainst 23 = .ok (.getfield 10, 3) := by decide +kernel
theorem dX5_bestAgainst_26 : decode cX5_bestAgainst 26 = .ok (.getfield 153, 3) := by decide +kernel
theorem dX5_bestAgainst_29 : decode cX5_bestAgainst 29 = .ok (.if_icmp .ge 48, 3) := by decide +kernel
theorem dX5_bestAgainst_32 : decode cX5_bestAgainst 32 = .ok (.aload_n 0, 1) := by decide +kernel
theorem dX5_bestAgainst_33 : decode cX5_bestAgainst 33 = .ok (.iload_n 1, 1) := by decide +kernel
theorem dX5_bestAgainst_34 : decode cX5_bestAgainst 34 = .ok (.iload 5, 2) := by decide +kernel
theorem dX5_bestAgainst_36 : decode cX5_bestAgainst 36 = .ok (.invokevirtual 168, 3) := by decide +kernel
theorem dX5_bestAgainst_39 : decode cX5_bestAgainst 39 = .ok (.aload_n 0, 1) := by decide +kernel
theorem dX5_bestAgainst_40 : decode cX5_bestAgainst 40 = .ok (.iload_n 2, 1) := by decide +kernel
theorem dX5_bestAgainst_41 : decode cX5_bestAgainst 41 = .ok (.iload 5, 2) := by decide +kernel
theorem dX5_bestAgainst_43 : decode cX5_bestAgainst 43 = .ok (.invokevirtual 168, 3) := by decide +kernel
theorem dX5_bestAgainst_46 : decode cX5_bestAgainst 46 = .ok (.invokestatic 180, 3) := by decide +kernel
theorem dX5_bestAgainst_49 : decode cX5_bestAgainst 49 = .ok (.istore 6, 2) := by decide +kernel
theorem dX5_bestAgainst_51 : decode cX5_bestAgainst 51 = .ok (.iload_n 3, 1) := by decide +kernel
theorem dX5_bestAgainst_52 : decode cX5_bestAgainst 52 = .ok (.bipush (-9), 2) := by decide +kernel
theorem dX5_bestAgainst_54 : decode cX5_bestAgainst 54 = .ok (.if_icmp .eq 10, 3) := by decide +kernel
theorem dX5_bestAgainst_57 : decode cX5_bestAgainst 57 = .ok (.iload 6, 2) := by decide +kernel
theorem dX5_bestAgainst_59 : decode cX5_bestAgainst 59 = .ok (.iload 4, 2) := by decide +kernel
theorem dX5_bestAgainst_61 : decode cX5_bestAgainst 61 = .ok (.if_icmp .ge 10, 3) := by decide +kernel
theorem dX5_bestAgainst_64 : decode cX5_bestAgainst 64 = .ok (.iload 6, 2) := by decide +kernel
theorem dX5_bestAgainst_66 : decode cX5_bestAgainst 66 = .ok (.istore 4, 2) := by decide +kernel
theorem dX5_bestAgainst_68 : decode cX5_bestAgainst 68 = .ok (.iload 5, 2) := by decide +kernel
theorem dX5_bestAgainst_70 : decode cX5_bestAgainst 70 = .ok (.istore_n 3, 1) := by decide +kernel
theorem dX5_bestAgainst_71 : decode cX5_bestAgainst 71 = .ok (.iinc 5 1, 3) := by decide +kernel
theorem dX5_bestAgainst_74 : decode cX5_bestAgainst 74 = .ok (.goto (-54), 3) := by decide +kernel
theorem dX5_bestAgainst_77 : decode cX5_bestAgainst 77 = .ok (.iload_n 3, 1) := by decide +kernel
theorem dX5_bestAgainst_78 : decode cX5_bestAgainst 78 = .ok (.ireturn, 1) := by decide +kernel
theorem dX5_slipsWithin_0 : decode cX5_slipsWithin 0 = .ok (.aload_n 0, 1) := by decide +kernel
theorem dX5_slipsWithin_1 : decode cX5_slipsWithin 1 = .ok (.getfield 25, 3) := by decide +kernel
theorem dX5_slipsWithin_4 : decode cX5_slipsWithin 4 = .ok (.aload_n 0, 1) := by decide +kernel
theorem dX5_slipsWithin_5 : decode cX5_slipsWithin 5 = .ok (.getfield 10, 3) := by decide +kernel
theorem dX5_slipsWithin_8 : decode cX5_slipsWithin 8 = .ok (.invokevirtual 159, 3) := by decide +kernel
theorem dX5_slipsWithin_11 : decode cX5_slipsWithin 11 = .ok (.aload_n 0, 1) := by decide +kernel
theorem dX5_slipsWithin_12 : decode cX5_slipsWithin 12 = .ok (.getfield 25, 3) := by decide +kernel
theorem dX5_slipsWithin_15 : decode cX5_slipsWithin 15 = .ok (.iconst 0, 1) := by decide +kernel
theorem dX5_slipsWithin_16 : decode cX5_slipsWithin 16 = .ok (.invokevirtual 245, 3) := by decide +kernel
theorem dX5_slipsWithin_19 : decode cX5_slipsWithin 19 = .ok (.lconst 0, 1) := by decide +kernel
theorem dX5_slipsWithin_20 : decode cX5_slipsWithin 20 = .ok (.lstore 5, 2) := by decide +kernel
theorem dX5_slipsWithin_22 : decode cX5_slipsWithin 22 = .ok (.iconst 0, 1) := by decide +kernel
theorem dX5_slipsWithin_23 : decode cX5_slipsWithin 23 = .ok (.istore 7, 2) := by decide +kernel
theorem dX5_slipsWithin_25 : decode cX5_slipsWithin 25 = .ok (.iload 7, 2) := by decide +kernel
theorem dX5_slipsWithin_27 : decode cX5_slipsWithin 27 = .ok (.iconst 1, 1) := by decide +kernel
theorem dX5_slipsWithin_28 : decode cX5_slipsWithin 28 = .ok (.iload_n 2, 1) := by decide +kernel
theorem dX5_slipsWithin_29 : decode cX5_slipsWithin 29 = .ok (.ishl, 1) := by decide +kernel
theorem dX5_slipsWithin_30 : decode cX5_slipsWithin 30 = .ok (.if_icmp .ge 49, 3) := by decide +kernel
theorem dX5_slipsWithin_33 : decode cX5_slipsWithin 33 = .ok (.aload_n 0, 1) := by decide +kernel
theorem dX5_slipsWithin_34 : decode cX5_slipsWithin 34 = .ok (.getfield 25, 3) := by decide +kernel
theorem dX5_slipsWithin_37 : decode cX5_slipsWithin 37 = .ok (.iload_n 1, 1) := by decide +kernel
theorem dX5_slipsWithin_38 : decode cX5_slipsWithin 38 = .ok (.iload 7, 2) := by decide +kernel
theorem dX5_slipsWithin_40 : decode cX5_slipsWithin 40 = .ok (.invokevirtual 248, 3) := by decide +kernel
theorem dX5_slipsWithin_43 : decode cX5_slipsWithin 43 = .ok (.aload_n 0, 1) := by decide +kernel
theorem dX5_slipsWithin_44 : decode cX5_slipsWithin 44 = .ok (.getfield 25, 3) := by decide +kernel
theorem dX5_slipsWithin_47 : decode cX5_slipsWithin 47 = .ok (.invokevirtual 138, 3) := by decide +kernel
theorem dX5_slipsWithin_50 : decode cX5_slipsWithin 50 = .ok (.iload 4, 2) := by decide +kernel
theorem dX5_slipsWithin_52 : decode cX5_slipsWithin 52 = .ok (.if_icmp .gt 21, 3) := by decide +kernel
theorem dX5_slipsWithin_55 : decode cX5_slipsWithin 55 = .ok (.lload 5, 2) := by decide +kernel
theorem dX5_slipsWithin_57 : decode cX5_slipsWithin 57 = .ok (.iload_n 3, 1) := by decide +kernel
theorem dX5_slipsWithin_58 : decode cX5_slipsWithin 58 = .ok (.iconst 1, 1) := by decide +kernel
theorem dX5_slipsWithin_59 : decode cX5_slipsWithin 59 = .ok (.isub, 1) := by decide +kernel
theorem dX5_slipsWithin_60 : decode cX5_slipsWithin 60 = .ok (.iload_n 2, 1) := by decide +kernel
theorem dX5_slipsWithin_61 : decode cX5_slipsWithin 61 = .ok (.iload 7, 2) := by decide +kernel
theorem dX5_slipsWithin_63 : decode cX5_slipsWithin 63 = .ok (.invokestatic 175, 3) := by decide +kernel
theorem dX5_slipsWithin_66 : decode cX5_slipsWithin 66 = .ok (.isub, 1) := by decide +kernel
theorem dX5_slipsWithin_67 : decode cX5_slipsWithin 67 = .ok (.invokestatic 202, 3) := by decide +kernel
theorem dX5_slipsWithin_70 : decode cX5_slipsWithin 70 = .ok (.ladd, 1) := by decide +kernel
theorem dX5_slipsWithin_71 : decode cX5_slipsWithin 71 = .ok (.lstore 5, 2) := by decide +kernel
theorem dX5_slipsWithin_73 : decode cX5_slipsWithin 73 = .ok (.iinc 7 1, 3) := by decide +kernel
theorem dX5_slipsWithin_76 : decode cX5_slipsWithin 76 = .ok (.goto (-51), 3) := by decide +kernel
theorem dX5_slipsWithin_79 : decode cX5_slipsWithin 79 = .ok (.lload 5, 2) := by decide +kernel
theorem dX5_slipsWithin_81 : decode cX5_slipsWithin 81 = .ok (.lreturn, 1) := by decide +kernel
theorem dX5_power_0 : decode cX5_power 0 = .ok (.lconst 1, 1) := by decide +kernel
theorem dX5_power_1 : decode cX5_power 1 = .ok (.lstore_n 2, 1) := by decide +kernel
theorem dX5_power_2 : decode cX5_power 2 = .ok (.iconst 0, 1) := by decide +kernel
theorem dX5_power_3 : decode cX5_power 3 = .ok (.istore 4, 2) := by decide +kernel
theorem dX5_power_5 : decode cX5_power 5 = .ok (.iload 4, 2) := by decide +kernel
theorem dX5_power_7 : decode cX5_power 7 = .ok (.iload_n 1, 1) := by decide +kernel
theorem dX5_power_8 : decode cX5_power 8 = .ok (.if_icmp .ge 14, 3) := by decide +kernel
theorem dX5_power_11 : decode cX5_power 11 = .ok (.lload_n 2, 1) := by decide +kernel
theorem dX5_power_12 : decode cX5_power 12 = .ok (.iload_n 0, 1) := by decide +kernel
theorem dX5_power_13 : decode cX5_power 13 = .ok (.i2l, 1) := by decide +kernel
theorem dX5_power_14 : decode cX5_power 14 = .ok (.lmul, 1) := by decide +kernel
theorem dX5_power_15 : decode cX5_power 15 = .ok (.lstore_n 2, 1) := by decide +kernel
theorem dX5_power_16 : decode cX5_power 16 = .ok (.iinc 4 1, 3) := by decide +kernel
theorem dX5_power_19 : decode cX5_power 19 = .ok (.goto (-14), 3) := by decide +kernel
theorem dX5_power_22 : decode cX5_power 22 = .ok (.lload_n 2, 1) := by decide +kernel
theorem dX5_power_23 : decode cX5_power 23 = .ok (.lreturn, 1) := by decide +kernel
theorem dX5_commonDivisor_0 : decode cX5_commonDivisor 0 = .ok (.lload_n 0, 1) := by decide +kernel
theorem dX5_commonDivisor_1 : decode cX5_commonDivisor 1 = .ok (.lstore 4, 2) := by decide +kernel
theorem dX5_commonDivisor_3 : decode cX5_commonDivisor 3 = .ok (.lload_n 2, 1) := by decide +kernel
theorem dX5_commonDivisor_4 : decode cX5_commonDivisor 4 = .ok (.lstore 6, 2) := by decide +kernel
theorem dX5_commonDivisor_6 : decode cX5_commonDivisor 6 = .ok (.iconst 0, 1) := by decide +kernel
theorem dX5_commonDivisor_7 : decode cX5_commonDivisor 7 = .ok (.istore 8, 2) := by decide +kernel
theorem dX5_commonDivisor_9 : decode cX5_commonDivisor 9 = .ok (.iload 8, 2) := by decide +kernel
theorem dX5_commonDivisor_11 : decode cX5_commonDivisor 11 = .ok (.sipush 200, 3) := by decide +kernel
theorem dX5_commonDivisor_14 : decode cX5_commonDivisor 14 = .ok (.if_icmp .ge 31, 3) := by decide +kernel
theorem dX5_commonDivisor_17 : decode cX5_commonDivisor 17 = .ok (.lload 6, 2) := by decide +kernel
theorem dX5_commonDivisor_19 : decode cX5_commonDivisor 19 = .ok (.lconst 0, 1) := by decide +kernel
theorem dX5_commonDivisor_20 : decode cX5_commonDivisor 20 = .ok (.lcmp, 1) := by decide +kernel
theorem dX5_commonDivisor_21 : decode cX5_commonDivisor 21 = .ok (.ifCond .eq 24, 3) := by decide +kernel
theorem dX5_commonDivisor_24 : decode cX5_commonDivisor 24 = .ok (.lload 4, 2) := by decide +kernel
theorem dX5_commonDivisor_26 : decode cX5_commonDivisor 26 = .ok (.lload 6, 2) := by decide +kernel
theorem dX5_commonDivisor_28 : decode cX5_commonDivisor 28 = .ok (.lrem, 1) := by decide +kernel
theorem dX5_commonDivisor_29 : decode cX5_commonDivisor 29 = .ok (.lstore 9, 2) := by decide +kernel
theorem dX5_commonDivisor_31 : decode cX5_commonDivisor 31 = .ok (.lload 6, 2) := by decide +kernel
theorem dX5_commonDivisor_33 : decode cX5_commonDivisor 33 = .ok (.lstore 4, 2) := by decide +kernel
theorem dX5_commonDivisor_35 : decode cX5_commonDivisor 35 = .ok (.lload 9, 2) := by decide +kernel
theorem dX5_commonDivisor_37 : decode cX5_commonDivisor 37 = .ok (.lstore 6, 2) := by decide +kernel
theorem dX5_commonDivisor_39 : decode cX5_commonDivisor 39 = .ok (.iinc 8 1, 3) := by decide +kernel
theorem dX5_commonDivisor_42 : decode cX5_commonDivisor 42 = .ok (.goto (-33), 3) := by decide +kernel
theorem dX5_commonDivisor_45 : decode cX5_commonDivisor 45 = .ok (.lload 4, 2) := by decide +kernel
theorem dX5_commonDivisor_47 : decode cX5_commonDivisor 47 = .ok (.lreturn, 1) := by decide +kernel
theorem dX5_burnsAsRowTells_0 : decode cX5_burnsAsRowTells 0 = .ok (.aload_n 0, 1) := by decide +kernel
theorem dX5_burnsAsRowTells_1 : decode cX5_burnsAsRowTells 1 = .ok (.getfield 25, 3) := by decide +kernel
theorem dX5_burnsAsRowTells_4 : decode cX5_burnsAsRowTells 4 = .ok (.aload_n 0, 1) := by decide +kernel
theorem dX5_burnsAsRowTells_5 : decode cX5_burnsAsRowTells 5 = .ok (.getfield 19, 3) := by decide +kernel
theorem dX5_burnsAsRowTells_8 : decode cX5_burnsAsRowTells 8 = .ok (.invokevirtual 159, 3) := by decide +kernel
theorem dX5_burnsAsRowTells_11 : decode cX5_burnsAsRowTells 11 = .ok (.aload_n 0, 1) := by decide +kernel
theorem dX5_burnsAsRowTells_12 : decode cX5_burnsAsRowTells 12 = .ok (.getfield 25, 3) := by decide +kernel
theorem dX5_burnsAsRowTells_15 : decode cX5_burnsAsRowTells 15 = .ok (.iconst 0, 1) := by decide +kernel
theorem dX5_burnsAsRowTells_16 : decode cX5_burnsAsRowTells 16 = .ok (.invokevirtual 245, 3) := by decide +kernel
theorem dX5_burnsAsRowTells_19 : decode cX5_burnsAsRowTells 19 = .ok (.aload_n 0, 1) := by decide +kernel
theorem dX5_burnsAsRowTells_20 : decode cX5_burnsAsRowTells 20 = .ok (.getfield 25, 3) := by decide +kernel
theorem dX5_burnsAsRowTells_23 : decode cX5_burnsAsRowTells 23 = .ok (.iload_n 1, 1) := by decide +kernel
theorem dX5_burnsAsRowTells_24 : decode cX5_burnsAsRowTells 24 = .ok (.iconst 0, 1) := by decide +kernel
theorem dX5_burnsAsRowTells_25 : decode cX5_burnsAsRowTells 25 = .ok (.invokevirtual 248, 3) := by decide +kernel
theorem dX5_burnsAsRowTells_28 : decode cX5_burnsAsRowTells 28 = .ok (.iconst 0, 1) := by decide +kernel
theorem dX5_burnsAsRowTells_29 : decode cX5_burnsAsRowTells 29 = .ok (.istore_n 2, 1) := by decide +kernel
theorem dX5_burnsAsRowTells_30 : decode cX5_burnsAsRowTells 30 = .ok (.iload_n 2, 1) := by decide +kernel
theorem dX5_burnsAsRowTells_31 : decode cX5_burnsAsRowTells 31 = .ok (.aload_n 0, 1) := by decide +kernel
theorem dX5_burnsAsRowTells_32 : decode cX5_burnsAsRowTells 32 = .ok (.getfield 41, 3) := by decide +kernel
theorem dX5_burnsAsRowTells_35 : decode cX5_burnsAsRowTells 35 = .ok (.getfield 213, 3) := by decide +kernel
theorem dX5_burnsAsRowTells_38 : decode cX5_burnsAsRowTells 38 = .ok (.if_icmp .ge 33, 3) := by decide +kernel
theorem dX5_burnsAsRowTells_41 : decode cX5_burnsAsRowTells 41 = .ok (.aload_n 0, 1) := by decide +kernel
theorem dX5_burnsAsRowTells_42 : decode cX5_burnsAsRowTells 42 = .ok (.getfield 41, 3) := by decide +kernel
theorem dX5_burnsAsRowTells_45 : decode cX5_burnsAsRowTells 45 = .ok (.iload_n 2, 1) := by decide +kernel
theorem dX5_burnsAsRowTells_46 : decode cX5_burnsAsRowTells 46 = .ok (.invokevirtual 216, 3) := by decide +kernel
theorem dX5_burnsAsRowTells_49 : decode cX5_burnsAsRowTells 49 = .ok (.aload_n 0, 1) := by decide +kernel
theorem dX5_burnsAsRowTells_50 : decode cX5_burnsAsRowTells 50 = .ok (.getfield 25, 3) := by decide +kernel
theorem dX5_burnsAsRowTells_53 : decode cX5_burnsAsRowTells 53 = .ok (.iload_n 2, 1) := by decide +kernel
theorem dX5_burnsAsRowTells_54 : decode cX5_burnsAsRowTells 54 = .ok (.invokevirtual 144, 3) := by decide +kernel
theorem dX5_burnsAsRowTells_57 : decode cX5_burnsAsRowTells 57 = .ok (.invokestatic 222, 3) := by decide +kernel
theorem dX5_burnsAsRowTells_60 : decode cX5_burnsAsRowTells 60 = .ok (.if_icmp .eq 5, 3) := by decide +kernel
theorem dX5_burnsAsRowTells_63 : decode cX5_burnsAsRowTells 63 = .ok (.iconst 0, 1) := by decide +kernel
theorem dX5_burnsAsRowTells_64 : decode cX5_burnsAsRowTells 64 = .ok (.ireturn, 1) := by decide +kernel
theorem dX5_burnsAsRowTells_65 : decode cX5_burnsAsRowTells 65 = .ok (.iinc 2 1, 3) := by decide +kernel
theorem dX5_burnsAsRowTells_68 : decode cX5_burnsAsRowTells 68 = .ok (.goto (-38), 3) := by decide +kernel
theorem dX5_burnsAsRowTells_71 : decode cX5_burnsAsRowTells 71 = .ok (.iconst 1, 1) := by decide +kernel
theorem dX5_burnsAsRowTells_72 : decode cX5_burnsAsRowTells 72 = .ok (.ireturn, 1) := by decide +kernel
theorem dX5_firstOf_0 : decode cX5_firstOf 0 = .ok (.iconst 0, 1) := by decide +kernel
theorem dX5_firstOf_1 : decode cX5_firstOf 1 = .ok (.istore_n 1, 1) := by decide +kernel
theorem dX5_firstOf_2 : decode cX5_firstOf 2 = .ok (.iload_n 1, 1) := by decide +kernel
theorem dX5_firstOf_3 : decode cX5_firstOf 3 = .ok (.bipush 25, 2) := by decide +kernel
theorem dX5_firstOf_5 : decode cX5_firstOf 5 = .ok (.if_icmp .ge 20, 3) := by decide +kernel
theorem dX5_firstOf_8 : decode cX5_firstOf 8 = .ok (.iload_n 0, 1) := by decide +kernel
theorem dX5_firstOf_9 : decode cX5_firstOf 9 = .ok (.iload_n 1, 1) := by decide +kernel
theorem dX5_firstOf_10 : decode cX5_firstOf 10 = .ok (.ishr, 1) := by decide +kernel
theorem dX5_firstOf_11 : decode cX5_firstOf 11 = .ok (.iconst 1, 1) := by decide +kernel
theorem dX5_firstOf_12 : decode cX5_firstOf 12 = .ok (.iand, 1) := by decide +kernel
theorem dX5_firstOf_13 : decode cX5_firstOf 13 = .ok (.iconst 1, 1) := by decide +kernel
theorem dX5_firstOf_14 : decode cX5_firstOf 14 = .ok (.if_icmp .ne 5, 3) := by decide +kernel
theorem dX5_firstOf_17 : decode cX5_firstOf 17 = .ok (.iload_n 1, 1) := by decide +kernel
theorem dX5_firstOf_18 : decode cX5_firstOf 18 = .ok (.ireturn, 1) := by decide +kernel
theorem dX5_firstOf_19 : decode cX5_firstOf 19 = .ok (.iinc 1 1, 3) := by decide +kernel
theorem dX5_firstOf_22 : decode cX5_firstOf 22 = .ok (.goto (-20), 3) := by decide +kernel
theorem dX5_firstOf_25 : decode cX5_firstOf 25 = .ok (.bipush (-9), 2) := by decide +kernel
theorem dX5_firstOf_27 : decode cX5_firstOf 27 = .ok (.ireturn, 1) := by decide +kernel
theorem dX5_asRowTells_0 : decode cX5_asRowTells 0 = .ok (.iload_n 0, 1) := by decide +kernel
theorem dX5_asRowTells_1 : decode cX5_asRowTells 1 = .ok (.bipush (-9), 2) := by decide +kernel
theorem dX5_asRowTells_3 : decode cX5_asRowTells 3 = .ok (.if_icmp .ne 8, 3) := by decide +kernel
theorem dX5_asRowTells_6 : decode cX5_asRowTells 6 = .ok (.bipush 99, 2) := by decide +kernel
theorem dX5_asRowTells_8 : decode cX5_asRowTells 8 = .ok (.goto 4, 3) := by decide +kernel
theorem dX5_asRowTells_11 : decode cX5_asRowTells 11 = .ok (.iload_n 0, 1) := by decide +kernel
theorem dX5_asRowTells_12 : decode cX5_asRowTells 12 = .ok (.ireturn, 1) := by decide +kernel
theorem dX5_seedAfter_0 : decode cX5_seedAfter 0 = .ok (.iload_n 0, 1) := by decide +kernel
theorem dX5_seedAfter_1 : decode cX5_seedAfter 1 = .ok (.ldc 254, 2) := by decide +kernel
theorem dX5_seedAfter_3 : decode cX5_seedAfter 3 = .ok (.imul, 1) := by decide +kernel
theorem dX5_seedAfter_4 : decode cX5_seedAfter 4 = .ok (.ldc 255, 2) := by decide +kernel
theorem dX5_seedAfter_6 : decode cX5_seedAfter 6 = .ok (.iadd, 1) := by decide +kernel
theorem dX5_seedAfter_7 : decode cX5_seedAfter 7 = .ok (.ireturn, 1) := by decide +kernel
theorem dX5_drawn_0 : decode cX5_drawn 0 = .ok (.iload_n 1, 1) := by decide +kernel
theorem dX5_drawn_1 : decode cX5_drawn 1 = .ok (.iconst 1, 1) := by decide +kernel
theorem dX5_drawn_2 : decode cX5_drawn 2 = .ok (.if_icmp .ge 7, 3) := by decide +kernel
theorem dX5_drawn_5 : decode cX5_drawn 5 = .ok (.iconst 0, 1) := by decide +kernel
theorem dX5_drawn_6 : decode cX5_drawn 6 = .ok (.goto 14, 3) := by decide +kernel
theorem dX5_drawn_9 : decode cX5_drawn 9 = .ok (.iload_n 0, 1) := by decide +kernel
theorem dX5_drawn_10 : decode cX5_drawn 10 = .ok (.ldc_w 256, 3) := by decide +kernel
theorem dX5_drawn_13 : decode cX5_drawn 13 = .ok (.iand, 1) := by decide +kernel
theorem dX5_drawn_14 : decode cX5_drawn 14 = .ok (.sipush 256, 3) := by decide +kernel
theorem dX5_drawn_17 : decode cX5_drawn 17 = .ok (.idiv, 1) := by decide +kernel
theorem dX5_drawn_18 : decode cX5_drawn 18 = .ok (.iload_n 1, 1) := by decide +kernel
theorem dX5_drawn_19 : decode cX5_drawn 19 = .ok (.irem, 1) := by decide +kernel
theorem dX5_drawn_20 : decode cX5_drawn 20 = .ok (.ireturn, 1) := by decide +kernel
