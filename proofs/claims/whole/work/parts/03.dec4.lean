theorem dX4_init_0 : decode cX4_init 0 = .ok (.aload_n 0, 1) := by decide +kernel
theorem dX4_init_1 : decode cX4_init 1 = .ok (.invokespecial 1, 3) := by decide +kernel
theorem dX4_init_4 : decode cX4_init 4 = .ok (.aload_n 0, 1) := by decide +kernel
theorem dX4_init_5 : decode cX4_init 5 = .ok (.new 7, 3) := by decide +kernel
theorem dX4_init_8 : decode cX4_init 8 = .ok (.dup, 1) := by decide +kernel
theorem dX4_init_9 : decode cX4_init 9 = .ok (.invokespecial 9, 3) := by decide +kernel
theorem dX4_init_12 : decode cX4_init 12 = .ok (.putfield 10, 3) := by decide +kernel
theorem dX4_init_15 : decode cX4_init 15 = .ok (.aload_n 0, 1) := by decide +kernel
theorem dX4_init_16 : decode cX4_init 16 = .ok (.new 7, 3) := by decide +kernel
theorem dX4_init_19 : decode cX4_init 19 = .ok (.dup, 1) := by decide +kernel
theorem dX4_init_20 : decode cX4_init 20 = .ok (.invokespecial 9, 3) := by decide +kernel
theorem dX4_init_23 : decode cX4_init 23 = .ok (.putfield 16, 3) := by decide +kernel
theorem dX4_init_26 : decode cX4_init 26 = .ok (.aload_n 0, 1) := by decide +kernel
theorem dX4_init_27 : decode cX4_init 27 = .ok (.new 7, 3) := by decide +kernel
theorem dX4_init_30 : decode cX4_init 30 = .ok (.dup, 1) := by decide +kernel
theorem dX4_init_31 : decode cX4_init 31 = .ok (.invokespecial 9, 3) := by decide +kernel
theorem dX4_init_34 : decode cX4_init 34 = .ok (.putfield 19, 3) := by decide +kernel
theorem dX4_init_37 : decode cX4_init 37 = .ok (.aload_n 0, 1) := by decide +kernel
theorem dX4_init_38 : decode cX4_init 38 = .ok (.iconst 0, 1) := by decide +kernel
theorem dX4_init_39 : decode cX4_init 39 = .ok (.putfield 22, 3) := by decide +kernel
theorem dX4_init_42 : decode cX4_init 42 = .ok (.aload_n 0, 1) := by decide +kernel
theorem dX4_init_43 : decode cX4_init 43 = .ok (.new 26, 3) := by decide +kernel
theorem dX4_init_46 : decode cX4_init 46 = .ok (.dup, 1) := by decide +kernel
theorem dX4_init_47 : decode cX4_init 47 = .ok (.invokespecial 28, 3) := by decide +kernel
theorem dX4_init_50 : decode cX4_init 50 = .ok (.putfield 29, 3) := by decide +kernel
theorem dX4_init_53 : decode cX4_init 53 = .ok (.aload_n 0, 1) := by decide +kernel
theorem dX4_init_54 : decode cX4_init 54 = .ok (.new 33, 3) := by decide +kernel
theorem dX4_init_57 : decode cX4_init 57 = .ok (.dup, 1) := by decide +kernel
theorem dX4_init_58 : decode cX4_init 58 = .ok (.invokespecial 35, 3) := by decide +kernel
theorem dX4_init_61 : decode cX4_init 61 = .ok (.putfield 36, 3) := by decide +kernel
theorem dX4_init_64 : decode cX4_init 64 = .ok (.aload_n 0, 1) := by decide +kernel
theorem dX4_init_65 : decode cX4_init 65 = .ok (.bipush 6, 2) := by decide +kernel
theorem dX4_init_67 : decode cX4_init 67 = .ok (.newarray .int, 2) := by decide +kernel
theorem dX4_init_69 : decode cX4_init 69 = .ok (.putfield 40, 3) := by decide +kernel
theorem dX4_init_72 : decode cX4_init 72 = .ok (.aload_n 0, 1) := by decide +kernel
theorem dX4_init_73 : decode cX4_init 73 = .ok (.bipush 6, 2) := by decide +kernel
theorem dX4_init_75 : decode cX4_init 75 = .ok (.newarray .int, 2) := by decide +kernel
theorem dX4_init_77 : decode cX4_init 77 = .ok (.putfield 44, 3) := by decide +kernel
theorem dX4_init_80 : decode cX4_init 80 = .ok (.aload_n 0, 1) := by decide +kernel
theorem dX4_init_81 : decode cX4_init 81 = .ok (.new 47, 3) := by decide +kernel
theorem dX4_init_84 : decode cX4_init 84 = .ok (.dup, 1) := by decide +kernel
theorem dX4_init_85 : decode cX4_init 85 = .ok (.invokespecial 49, 3) := by decide +kernel
theorem dX4_init_88 : decode cX4_init 88 = .ok (.putfield 50, 3) := by decide +kernel
theorem dX4_init_91 : decode cX4_init 91 = .ok (.aload_n 0, 1) := by decide +kernel
theorem dX4_init_92 : decode cX4_init 92 = .ok (.bipush 12, 2) := by decide +kernel
theorem dX4_init_94 : decode cX4_init 94 = .ok (.newarray .int, 2) := by decide +kernel
theorem dX4_init_96 : decode cX4_init 96 = .ok (.putfield 54, 3) := by decide +kernel
theorem dX4_init_99 : decode cX4_init 99 = .ok (.aload_n 0, 1) := by decide +kernel
theorem dX4_init_100 : decode cX4_init 100 = .ok (.iconst 0, 1) := by decide +kernel
theorem dX4_init_101 : decode cX4_init 101 = .ok (.putfield 57, 3) := by decide +kernel
theorem dX4_init_104 : decode cX4_init 104 = .ok (.aload_n 0, 1) := by decide +kernel
theorem dX4_init_105 : decode cX4_init 105 = .ok (.bipush 7, 2) := by decide +kernel
theorem dX4_init_107 : decode cX4_init 107 = .ok (.newarray .int, 2) := by decide +kernel
theorem dX4_init_109 : decode cX4_init 109 = .ok (.putfield 61, 3) := by decide +kernel
theorem dX4_init_112 : decode cX4_init 112 = .ok (.return_, 1) := by decide +kernel
theorem dX4_letter_0 : decode cX4_letter 0 = .ok (.iload_n 1, 1) := by decide +kernel
theorem dX4_letter_1 : decode cX4_letter 1 = .ok (.ifCond .ge 10, 3) := by decide +kernel
theorem dX4_letter_4 : decode cX4_letter 4 = .ok (.aload_n 0, 1) := by decide +kernel
theorem dX4_letter_5 : decode cX4_letter 5 = .ok (.bipush (-4), 2) := by decide +kernel
theorem dX4_letter_7 : decode cX4_letter 7 = .ok (.invokevirtual 64, 3) := by decide +kernel
theorem dX4_letter_10 : decode cX4_letter 10 = .ok (.ireturn, 1) := by decide +kernel
theorem dX4_letter_11 : decode cX4_letter 11 = .ok (.iload_n 1, 1) := by decide +kernel
theorem dX4_letter_12 : decode cX4_letter 12 = .ok (.sipush 255, 3) := by decide +kernel
theorem dX4_letter_15 : decode cX4_letter 15 = .ok (.if_icmp .gt 15, 3) := by decide +kernel
theorem dX4_letter_18 : decode cX4_letter 18 = .ok (.aload_n 0, 1) := by decide +kernel
theorem dX4_letter_19 : decode cX4_letter 19 = .ok (.getfield 50, 3) := by decide +kernel
theorem dX4_letter_22 : decode cX4_letter 22 = .ok (.getfield 68, 3) := by decide +kernel
theorem dX4_letter_25 : decode cX4_letter 25 = .ok (.bipush 96, 2) := by decide +kernel
theorem dX4_letter_27 : decode cX4_letter 27 = .ok (.if_icmp .lt 10, 3) := by decide +kernel
theorem dX4_letter_30 : decode cX4_letter 30 = .ok (.aload_n 0, 1) := by decide +kernel
theorem dX4_letter_31 : decode cX4_letter 31 = .ok (.bipush (-6), 2) := by decide +kernel
theorem dX4_letter_33 : decode cX4_letter 33 = .ok (.invokevirtual 64, 3) := by decide +kernel
theorem dX4_letter_36 : decode cX4_letter 36 = .ok (.ireturn, 1) := by decide +kernel
theorem dX4_letter_37 : decode cX4_letter 37 = .ok (.aload_n 0, 1) := by decide +kernel
theorem dX4_letter_38 : decode cX4_letter 38 = .ok (.getfield 50, 3) := by decide +kernel
theorem dX4_letter_41 : decode cX4_letter 41 = .ok (.iload_n 1, 1) := by decide +kernel
theorem dX4_letter_42 : decode cX4_letter 42 = .ok (.invokevirtual 71, 3) := by decide +kernel
theorem dX4_letter_45 : decode cX4_letter 45 = .ok (.aload_n 0, 1) := by decide +kernel
theorem dX4_letter_46 : decode cX4_letter 46 = .ok (.getfield 50, 3) := by decide +kernel
theorem dX4_letter_49 : decode cX4_letter 49 = .ok (.getfield 68, 3) := by decide +kernel
theorem dX4_letter_52 : decode cX4_letter 52 = .ok (.ireturn, 1) := by decide +kernel
theorem dX4_house_0 : decode cX4_house 0 = .ok (.aload_n 0, 1) := by decide +kernel
theorem dX4_house_1 : decode cX4_house 1 = .ok (.getfield 16, 3) := by decide +kernel
theorem dX4_house_4 : decode cX4_house 4 = .ok (.aload_n 0, 1) := by decide +kernel
theorem dX4_house_5 : decode cX4_house 5 = .ok (.getfield 10, 3) := by decide +kernel
theorem dX4_house_8 : decode cX4_house 8 = .ok (.invokevirtual 75, 3) := by decide +kernel
theorem dX4_house_11 : decode cX4_house 11 = .ok (.aload_n 0, 1) := by decide +kernel
theorem dX4_house_12 : decode cX4_house 12 = .ok (.getfield 50, 3) := by decide +kernel
theorem dX4_house_15 : decode cX4_house 15 = .ok (.aload_n 0, 1) := by decide +kernel
theorem dX4_house_16 : decode cX4_house 16 = .ok (.getfield 16, 3) := by decide +kernel
theorem dX4_house_19 : decode cX4_house 19 = .ok (.invokevirtual 79, 3) := by decide +kernel
theorem dX4_house_22 : decode cX4_house 22 = .ok (.istore_n 1, 1) := by decide +kernel
theorem dX4_house_23 : decode cX4_house 23 = .ok (.aload_n 0, 1) := by decide +kernel
theorem dX4_house_24 : decode cX4_house 24 = .ok (.getfield 50, 3) := by decide +kernel
theorem dX4_house_27 : decode cX4_house 27 = .ok (.iconst 0, 1) := by decide +kernel
theorem dX4_house_28 : decode cX4_house 28 = .ok (.putfield 68, 3) := by decide +kernel
theorem dX4_house_31 : decode cX4_house 31 = .ok (.iload_n 1, 1) := by decide +kernel
theorem dX4_house_32 : decode cX4_house 32 = .ok (.ifCond .le 14, 3) := by decide +kernel
theorem dX4_house_35 : decode cX4_house 35 = .ok (.aload_n 0, 1) := by decide +kernel
theorem dX4_house_36 : decode cX4_house 36 = .ok (.getfield 10, 3) := by decide +kernel
theorem dX4_house_39 : decode cX4_house 39 = .ok (.aload_n 0, 1) := by decide +kernel
theorem dX4_house_40 : decode cX4_house 40 = .ok (.getfield 16, 3) := by decide +kernel
theorem dX4_house_43 : decode cX4_house 43 = .ok (.invokevirtual 75, 3) := by decide +kernel
theorem dX4_house_46 : decode cX4_house 46 = .ok (.iload_n 1, 1) := by decide +kernel
theorem dX4_house_47 : decode cX4_house 47 = .ok (.ireturn, 1) := by decide +kernel
theorem dX4_story_0 : decode cX4_story 0 = .ok (.aload_n 0, 1) := by decide +kernel
theorem dX4_story_1 : decode cX4_story 1 = .ok (.getfield 10, 3) := by decide +kernel
theorem dX4_story_4 : decode cX4_story 4 = .ok (.iload_n 1, 1) := by decide +kernel
theorem dX4_story_5 : decode cX4_story 5 = .ok (.invokevirtual 83, 3) := by decide +kernel
theorem dX4_story_8 : decode cX4_story 8 = .ok (.ifCond .ne 9, 3) := by decide +kernel
theorem dX4_story_11 : decode cX4_story 11 = .ok (.aload_n 0, 1) := by decide +kernel
theorem dX4_story_12 : decode cX4_story 12 = .ok (.iconst (-1), 1) := by decide +kernel
theorem dX4_story_13 : decode cX4_story 13 = .ok (.invokevirtual 64, 3) := by decide +kernel
theorem dX4_story_16 : decode cX4_story 16 = .ok (.ireturn, 1) := by decide +kernel
theorem dX4_story_17 : decode cX4_story 17 = .ok (.iload_n 2, 1) := by decide +kernel
theorem dX4_story_18 : decode cX4_story 18 = .ok (.tableswitch 83 0 4 #[34, 44, 54, 64, 74], 34) := by decide +kernel
theorem dX4_story_52 : decode cX4_story 52 = .ok (.aload_n 0, 1) := by decide +kernel
theorem dX4_story_53 : decode cX4_story 53 = .ok (.getfield 10, 3) := by decide +kernel
theorem dX4_story_56 : decode cX4_story 56 = .ok (.getfield 87, 3) := by decide +kernel
theorem dX4_story_59 : decode cX4_story 59 = .ok (.iload_n 1, 1) := by decide +kernel
theorem dX4_story_60 : decode cX4_story 60 = .ok (.iaload, 1) := by decide +kernel
theorem dX4_story_61 : decode cX4_story 61 = .ok (.ireturn, 1) := by decide +kernel
theorem dX4_story_62 : decode cX4_story 62 = .ok (.aload_n 0, 1) := by decide +kernel
theorem dX4_story_63 : decode cX4_story 63 = .ok (.getfield 10, 3) := by decide +kernel
theorem dX4_story_66 : decode cX4_story 66 = .ok (.getfield 90, 3) := by decide +kernel
theorem dX4_story_69 : decode cX4_story 69 = .ok (.iload_n 1, 1) := by decide +kernel
theorem dX4_story_70 : decode cX4_story 70 = .ok (.iaload, 1) := by decide +kernel
theorem dX4_story_71 : decode cX4_story 71 = .ok (.ireturn, 1) := by decide +kernel
theorem dX4_story_72 : decode cX4_story 72 = .ok (.aload_n 0, 1) := by decide +kernel
theorem dX4_story_73 : decode cX4_story 73 = .ok (.getfield 10, 3) := by decide +kernel
theorem dX4_story_76 : decode cX4_story 76 = .ok (.getfield 93, 3) := by decide +kernel
theorem dX4_story_79 : decode cX4_story 79 = .ok (.iload_n 1, 1) := by decide +kernel
theorem dX4_story_80 : decode cX4_story 80 = .ok (.iaload, 1) := by decide +kernel
theorem dX4_story_81 : decode cX4_story 81 = .ok (.ireturn, 1) := by decide +kernel
theorem dX4_story_82 : decode cX4_story 82 = .ok (.aload_n 0, 1) := by decide +kernel
theorem dX4_story_83 : decode cX4_story 83 = .ok (.getfield 10, 3) := by decide +kernel
theorem dX4_story_86 : decode cX4_story 86 = .ok (.getfield 96, 3) := by decide +kernel
theorem dX4_story_89 : decode cX4_story 89 = .ok (.iload_n 1, 1) := by decide +kernel
theorem dX4_story_90 : decode cX4_story 90 = .ok (.iaload, 1) := by decide +kernel
theorem dX4_story_91 : decode cX4_story 91 = .ok (.ireturn, 1) := by decide +kernel
theorem dX4_story_92 : decode cX4_story 92 = .ok (.aload_n 0, 1) := by decide +kernel
theorem dX4_story_93 : decode cX4_story 93 = .ok (.getfield 10, 3) := by decide +kernel
theorem dX4_story_96 : decode cX4_story 96 = .ok (.iload_n 1, 1) := by decide +kernel
theorem dX4_story_97 : decode cX4_story 97 = .ok (.invokevirtual 99, 3) := by decide +kernel
theorem dX4_story_100 : decode cX4_story 100 = .ok (.ireturn, 1) := by decide +kernel
theorem dX4_story_101 : decode cX4_story 101 = .ok (.aload_n 0, 1) := by decide +kernel
theorem dX4_story_102 : decode cX4_story 102 = .ok (.bipush (-2), 2) := by decide +kernel
theorem dX4_story_104 : decode cX4_story 104 = .ok (.invokevirtual 64, 3) := by decide +kernel
theorem dX4_story_107 : decode cX4_story 107 = .ok (.ireturn, 1) := by decide +kernel
theorem dX4_place_0 : decode cX4_place 0 = .ok (.aload_n 0, 1) := by decide +kernel
theorem dX4_place_1 : decode cX4_place 1 = .ok (.getfield 10, 3) := by decide +kernel
theorem dX4_place_4 : decode cX4_place 4 = .ok (.iload_n 1, 1) := by decide +kernel
theorem dX4_place_5 : decode cX4_place 5 = .ok (.invokevirtual 83, 3) := by decide +kernel
theorem dX4_place_8 : decode cX4_place 8 = .ok (.ifCond .ne 9, 3) := by decide +kernel
theorem dX4_place_11 : decode cX4_place 11 = .ok (.aload_n 0, 1) := by decide +kernel
theorem dX4_place_12 : decode cX4_place 12 = .ok (.iconst (-1), 1) := by decide +kernel
theorem dX4_place_13 : decode cX4_place 13 = .ok (.invokevirtual 64, 3) := by decide +kernel
theorem dX4_place_16 : decode cX4_place 16 = .ok (.ireturn, 1) := by decide +kernel
theorem dX4_place_17 : decode cX4_place 17 = .ok (.aload_n 0, 1) := by decide +kernel
theorem dX4_place_18 : decode cX4_place 18 = .ok (.getfield 10, 3) := by decide +kernel
theorem dX4_place_21 : decode cX4_place 21 = .ok (.getfield 102, 3) := by decide +kernel
theorem dX4_place_24 : decode cX4_place 24 = .ok (.iload_n 1, 1) := by decide +kernel
theorem dX4_place_25 : decode cX4_place 25 = .ok (.iaload, 1) := by decide +kernel
theorem dX4_place_26 : decode cX4_place 26 = .ok (.ireturn, 1) := by decide +kernel
theorem dX4_change_0 : decode cX4_change 0 = .ok (.aload_n 0, 1) := by decide +kernel
theorem dX4_change_1 : decode cX4_change 1 = .ok (.getfield 10, 3) := by decide +kernel
theorem dX4_change_4 : decode cX4_change 4 = .ok (.iload_n 1, 1) := by decide +kernel
theorem dX4_change_5 : decode cX4_change 5 = .ok (.iload_n 2, 1) := by decide +kernel
theorem dX4_change_6 : decode cX4_change 6 = .ok (.invokevirtual 105, 3) := by decide +kernel
theorem dX4_change_9 : decode cX4_change 9 = .ok (.ifCond .ne 9, 3) := by decide +kernel
theorem dX4_change_12 : decode cX4_change 12 = .ok (.aload_n 0, 1) := by decide +kernel
theorem dX4_change_13 : decode cX4_change 13 = .ok (.iconst (-1), 1) := by decide +kernel
theorem dX4_change_14 : decode cX4_change 14 = .ok (.invokevirtual 64, 3) := by decide +kernel
theorem dX4_change_17 : decode cX4_change 17 = .ok (.ireturn, 1) := by decide +kernel
theorem dX4_change_18 : decode cX4_change 18 = .ok (.aload_n 0, 1) := by decide +kernel
theorem dX4_change_19 : decode cX4_change 19 = .ok (.getfield 10, 3) := by decide +kernel
theorem dX4_change_22 : decode cX4_change 22 = .ok (.iload_n 1, 1) := by decide +kernel
theorem dX4_change_23 : decode cX4_change 23 = .ok (.iload_n 2, 1) := by decide +kernel
theorem dX4_change_24 : decode cX4_change 24 = .ok (.invokevirtual 109, 3) := by decide +kernel
theorem dX4_change_27 : decode cX4_change 27 = .ok (.aload_n 0, 1) := by decide +kernel
theorem dX4_change_28 : decode cX4_change 28 = .ok (.getfield 10, 3) := by decide +kernel
theorem dX4_change_31 : decode cX4_change 31 = .ok (.iload_n 1, 1) := by decide +kernel
theorem dX4_change_32 : decode cX4_change 32 = .ok (.invokevirtual 99, 3) := by decide +kernel
theorem dX4_change_35 : decode cX4_change 35 = .ok (.ireturn, 1) := by decide +kernel
theorem dX4_people_0 : decode cX4_people 0 = .ok (.aload_n 0, 1) := by decide +kernel
theorem dX4_people_1 : decode cX4_people 1 = .ok (.getfield 10, 3) := by decide +kernel
theorem dX4_people_4 : decode cX4_people 4 = .ok (.iload_n 1, 1) := by decide +kernel
theorem dX4_people_5 : decode cX4_people 5 = .ok (.invokevirtual 83, 3) := by decide +kernel
theorem dX4_people_8 : decode cX4_people 8 = .ok (.ifCond .ne 9, 3) := by decide +kernel
theorem dX4_people_11 : decode cX4_people 11 = .ok (.aload_n 0, 1) := by decide +kernel
theorem dX4_people_12 : decode cX4_people 12 = .ok (.iconst (-1), 1) := by decide +kernel
theorem dX4_people_13 : decode cX4_people 13 = .ok (.invokevirtual 64, 3) := by decide +kernel
theorem dX4_people_16 : decode cX4_people 16 = .ok (.ireturn, 1) := by decide +kernel
theorem dX4_people_17 : decode cX4_people 17 = .ok (.iload_n 2, 1) := by decide +kernel
theorem dX4_people_18 : decode cX4_people 18 = .ok (.iconst 1, 1) := by decide +kernel
theorem dX4_people_19 : decode cX4_people 19 = .ok (.if_icmp .ge 10, 3) := by decide +kernel
theorem dX4_people_22 : decode cX4_people 22 = .ok (.aload_n 0, 1) := by decide +kernel
theorem dX4_people_23 : decode cX4_people 23 = .ok (.bipush (-4), 2) := by decide +kernel
theorem dX4_people_25 : decode cX4_people 25 = .ok (.invokevirtual 64, 3) := by decide +kernel
theorem dX4_people_28 : decode cX4_people 28 = .ok (.ireturn, 1) := by decide +kernel
theorem dX4_people_29 : decode cX4_people 29 = .ok (.iload_n 2, 1) := by decide +kernel
theorem dX4_people_30 : decode cX4_people 30 = .ok (.bipush 20, 2) := by decide +kernel
theorem dX4_people_32 : decode cX4_people 32 = .ok (.if_icmp .le 10, 3) := by decide +kernel
theorem dX4_people_35 : decode cX4_people 35 = .ok (.aload_n 0, 1) := by decide +kernel
theorem dX4_people_36 : decode cX4_people 36 = .ok (.bipush (-6), 2) := by decide +kernel
theorem dX4_people_38 : decode cX4_people 38 = .ok (.invokevirtual 64, 3) := by decide +kernel
theorem dX4_people_41 : decode cX4_people 41 = .ok (.ireturn, 1) := by decide +kernel
theorem dX4_people_42 : decode cX4_people 42 = .ok (.aload_n 0, 1) := by decide +kernel
theorem dX4_people_43 : decode cX4_people 43 = .ok (.getfield 10, 3) := by decide +kernel
theorem dX4_people_46 : decode cX4_people 46 = .ok (.getfield 93, 3) := by decide +kernel
theorem dX4_people_49 : decode cX4_people 49 = .ok (.iload_n 1, 1) := by decide +kernel
theorem dX4_people_50 : decode cX4_people 50 = .ok (.iaload, 1) := by decide +kernel
theorem dX4_people_51 : decode cX4_people 51 = .ok (.istore_n 3, 1) := by decide +kernel
theorem dX4_people_52 : decode cX4_people 52 = .ok (.aload_n 0, 1) := by decide +kernel
theorem dX4_people_53 : decode cX4_people 53 = .ok (.getfield 10, 3) := by decide +kernel
theorem dX4_people_56 : decode cX4_people 56 = .ok (.getfield 93, 3) := by decide +kernel
theorem dX4_people_59 : decode cX4_people 59 = .ok (.iload_n 1, 1) := by decide +kernel
theorem dX4_people_60 : decode cX4_people 60 = .ok (.iload_n 2, 1) := by decide +kernel
theorem dX4_people_61 : decode cX4_people 61 = .ok (.iastore, 1) := by decide +kernel
theorem dX4_people_62 : decode cX4_people 62 = .ok (.iload_n 3, 1) := by decide +kernel
theorem dX4_people_63 : decode cX4_people 63 = .ok (.ireturn, 1) := by decide +kernel
theorem dX4_set_0 : decode cX4_set 0 = .ok (.iload_n 1, 1) := by decide +kernel
theorem dX4_set_1 : decode cX4_set 1 = .ok (.ifCond .lt 11, 3) := by decide +kernel
theorem dX4_set_4 : decode cX4_set 4 = .ok (.iload_n 1, 1) := by decide +kernel
theorem dX4_set_5 : decode cX4_set 5 = .ok (.getstatic 113, 3) := by decide +kernel
theorem dX4_set_8 : decode cX4_set 8 = .ok (.arraylength, 1) := by decide +kernel
theorem dX4_set_9 : decode cX4_set 9 = .ok (.if_icmp .lt 10, 3) := by decide +kernel
theorem dX4_set_12 : decode cX4_set 12 = .ok (.aload_n 0, 1) := by decide +kernel
theorem dX4_set_13 : decode cX4_set 13 = .ok (.bipush (-2), 2) := by decide +kernel
theorem dX4_set_15 : decode cX4_set 15 = .ok (.invokevirtual 64, 3) := by decide +kernel
theorem dX4_set_18 : decode cX4_set 18 = .ok (.ireturn, 1) := by decide +kernel
theorem dX4_set_19 : decode cX4_set 19 = .ok (.iload_n 2, 1) := by decide +kernel
theorem dX4_set_20 : decode cX4_set 20 = .ok (.ifCond .ge 10, 3) := by decide +kernel
theorem dX4_set_23 : decode cX4_set 23 = .ok (.aload_n 0, 1) := by decide +kernel
theorem dX4_set_24 : decode cX4_set 24 = .ok (.bipush (-4), 2) := by decide +kernel
theorem dX4_set_26 : decode cX4_set 26 = .ok (.invokevirtual 64, 3) := by decide +kernel
theorem dX4_set_29 : decode cX4_set 29 = .ok (.ireturn, 1) := by decide +kernel
theorem dX4_set_30 : decode cX4_set 30 = .ok (.iload_n 2, 1) := by decide +kernel
theorem dX4_set_31 : decode cX4_set 31 = .ok (.getstatic 113, 3) := by decide +kernel
theorem dX4_set_34 : decode cX4_set 34 = .ok (.iload_n 1, 1) := by decide +kernel
theorem dX4_set_35 : decode cX4_set 35 = .ok (.iaload, 1) := by decide +kernel
theorem dX4_set_36 : decode cX4_set 36 = .ok (.if_icmp .le 10, 3) := by decide +kernel
theorem dX4_set_39 : decode cX4_set 39 = .ok (.aload_n 0, 1) := by decide +kernel
theorem dX4_set_40 : decode cX4_set 40 = .ok (.bipush (-6), 2) := by decide +kernel
theorem dX4_set_42 : decode cX4_set 42 = .ok (.invokevirtual 64, 3) := by decide +kernel
theorem dX4_set_45 : decode cX4_set 45 = .ok (.ireturn, 1) := by decide +kernel
theorem dX4_set_46 : decode cX4_set 46 = .ok (.aload_n 0, 1) := by decide +kernel
theorem dX4_set_47 : decode cX4_set 47 = .ok (.getfield 10, 3) := by decide +kernel
theorem dX4_set_50 : decode cX4_set 50 = .ok (.getfield 116, 3) := by decide +kernel
theorem dX4_set_53 : decode cX4_set 53 = .ok (.iload_n 1, 1) := by decide +kernel
theorem dX4_set_54 : decode cX4_set 54 = .ok (.iaload, 1) := by decide +kernel
theorem dX4_set_55 : decode cX4_set 55 = .ok (.istore_n 3, 1) := by decide +kernel
theorem dX4_set_56 : decode cX4_set 56 = .ok (.aload_n 0, 1) := by decide +kernel
theorem dX4_set_57 : decode cX4_set 57 = .ok (.getfield 10, 3) := by decide +kernel
theorem dX4_set_60 : decode cX4_set 60 = .ok (.getfield 116, 3) := by decide +kernel
theorem dX4_set_63 : decode cX4_set 63 = .ok (.iload_n 1, 1) := by decide +kernel
theorem dX4_set_64 : decode cX4_set 64 = .ok (.iload_n 2, 1) := by decide +kernel
theorem dX4_set_65 : decode cX4_set 65 = .ok (.iastore, 1) := by decide +kernel
theorem dX4_set_66 : decode cX4_set 66 = .ok (.iload_n 3, 1) := by decide +kernel
theorem dX4_set_67 : decode cX4_set 67 = .ok (.ireturn, 1) := by decide +kernel
theorem dX4_come_0 : decode cX4_come 0 = .ok (.aload_n 0, 1) := by decide +kernel
theorem dX4_come_1 : decode cX4_come 1 = .ok (.getfield 10, 3) := by decide +kernel
theorem dX4_come_4 : decode cX4_come 4 = .ok (.iload_n 1, 1) := by decide +kernel
theorem dX4_come_5 : decode cX4_come 5 = .ok (.invokevirtual 83, 3) := by decide +kernel
theorem dX4_come_8 : decode cX4_come 8 = .ok (.ifCond .ne 9, 3) := by decide +kernel
theorem dX4_come_11 : decode cX4_come 11 = .ok (.aload_n 0, 1) := by decide +kernel
theorem dX4_come_12 : decode cX4_come 12 = .ok (.iconst (-1), 1) := by decide +kernel
theorem dX4_come_13 : decode cX4_come 13 = .ok (.invokevirtual 64, 3) := by decide +kernel
theorem dX4_come_16 : decode cX4_come 16 = .ok (.ireturn, 1) := by decide +kernel
theorem dX4_come_17 : decode cX4_come 17 = .ok (.iload_n 2, 1) := by decide +kernel
theorem dX4_come_18 : decode cX4_come 18 = .ok (.ifCond .ge 10, 3) := by decide +kernel
theorem dX4_come_21 : decode cX4_come 21 = .ok (.aload_n 0, 1) := by decide +kernel
theorem dX4_come_22 : decode cX4_come 22 = .ok (.bipush (-4), 2) := by decide +kernel
theorem dX4_come_24 : decode cX4_come 24 = .ok (.invokevirtual 64, 3) := by decide +kernel
theorem dX4_come_27 : decode cX4_come 27 = .ok (.ireturn, 1) := by decide +kernel
theorem dX4_come_28 : decode cX4_come 28 = .ok (.iload_n 2, 1) := by decide +kernel
theorem dX4_come_29 : decode cX4_come 29 = .ok (.sipush 999, 3) := by decide +kernel
theorem dX4_come_32 : decode cX4_come 32 = .ok (.if_icmp .le 10, 3) := by decide +kernel
theorem dX4_come_35 : decode cX4_come 35 = .ok (.aload_n 0, 1) := by decide +kernel
theorem dX4_come_36 : decode cX4_come 36 = .ok (.bipush (-6), 2) := by decide +kernel
theorem dX4_come_38 : decode cX4_come 38 = .ok (.invokevirtual 64, 3) := by decide +kernel
theorem dX4_come_41 : decode cX4_come 41 = .ok (.ireturn, 1) := by decide +kernel
theorem dX4_come_42 : decode cX4_come 42 = .ok (.aload_n 0, 1) := by decide +kernel
theorem dX4_come_43 : decode cX4_come 43 = .ok (.getfield 10, 3) := by decide +kernel
theorem dX4_come_46 : decode cX4_come 46 = .ok (.iload_n 1, 1) := by decide +kernel
theorem dX4_come_47 : decode cX4_come 47 = .ok (.iload_n 2, 1) := by decide +kernel
theorem dX4_come_48 : decode cX4_come 48 = .ok (.invokevirtual 119, 3) := by decide +kernel
theorem dX4_come_51 : decode cX4_come 51 = .ok (.ireturn, 1) := by decide +kernel
theorem dX4_going_0 : decode cX4_going 0 = .ok (.iload_n 1, 1) := by decide +kernel
theorem dX4_going_1 : decode cX4_going 1 = .ok (.ifCond .lt 7, 3) := by decide +kernel
theorem dX4_going_4 : decode cX4_going 4 = .ok (.iload_n 2, 1) := by decide +kernel
theorem dX4_going_5 : decode cX4_going 5 = .ok (.ifCond .ge 10, 3) := by decide +kernel
theorem dX4_going_8 : decode cX4_going 8 = .ok (.aload_n 0, 1) := by decide +kernel
theorem dX4_going_9 : decode cX4_going 9 = .ok (.bipush (-4), 2) := by decide +kernel
theorem dX4_going_11 : decode cX4_going 11 = .ok (.invokevirtual 64, 3) := by decide +kernel
theorem dX4_going_14 : decode cX4_going 14 = .ok (.ireturn, 1) := by decide +kernel
theorem dX4_going_15 : decode cX4_going 15 = .ok (.iload_n 1, 1) := by decide +kernel
theorem dX4_going_16 : decode cX4_going 16 = .ok (.bipush 9, 2) := by decide +kernel
theorem dX4_going_18 : decode cX4_going 18 = .ok (.if_icmp .gt 9, 3) := by decide +kernel
theorem dX4_going_21 : decode cX4_going 21 = .ok (.iload_n 2, 1) := by decide +kernel
theorem dX4_going_22 : decode cX4_going 22 = .ok (.bipush 9, 2) := by decide +kernel
theorem dX4_going_24 : decode cX4_going 24 = .ok (.if_icmp .le 10, 3) := by decide +kernel
theorem dX4_going_27 : decode cX4_going 27 = .ok (.aload_n 0, 1) := by decide +kernel
theorem dX4_going_28 : decode cX4_going 28 = .ok (.bipush (-6), 2) := by decide +kernel
theorem dX4_going_30 : decode cX4_going 30 = .ok (.invokevirtual 64, 3) := by decide +kernel
theorem dX4_going_33 : decode cX4_going 33 = .ok (.ireturn, 1) := by decide +kernel
theorem dX4_going_34 : decode cX4_going 34 = .ok (.aload_n 0, 1) := by decide +kernel
theorem dX4_going_35 : decode cX4_going 35 = .ok (.getfield 10, 3) := by decide +kernel
theorem dX4_going_38 : decode cX4_going 38 = .ok (.iload_n 1, 1) := by decide +kernel
theorem dX4_going_39 : decode cX4_going 39 = .ok (.iload_n 2, 1) := by decide +kernel
theorem dX4_going_40 : decode cX4_going 40 = .ok (.invokevirtual 123, 3) := by decide +kernel
theorem dX4_going_43 : decode cX4_going 43 = .ok (.ireturn, 1) := by decide +kernel
theorem dX4_total_0 : decode cX4_total 0 = .ok (.iload_n 1, 1) := by decide +kernel
theorem dX4_total_1 : decode cX4_total 1 = .ok (.invokestatic 126, 3) := by decide +kernel
theorem dX4_total_4 : decode cX4_total 4 = .ok (.ifCond .ne 10, 3) := by decide +kernel
theorem dX4_total_7 : decode cX4_total 7 = .ok (.aload_n 0, 1) := by decide +kernel
theorem dX4_total_8 : decode cX4_total 8 = .ok (.bipush (-2), 2) := by decide +kernel
theorem dX4_total_10 : decode cX4_total 10 = .ok (.invokevirtual 64, 3) := by decide +kernel
theorem dX4_total_13 : decode cX4_total 13 = .ok (.ireturn, 1) := by decide +kernel
theorem dX4_total_14 : decode cX4_total 14 = .ok (.aload_n 0, 1) := by decide +kernel
theorem dX4_total_15 : decode cX4_total 15 = .ok (.getfield 29, 3) := by decide +kernel
theorem dX4_total_18 : decode cX4_total 18 = .ok (.aload_n 0, 1) := by decide +kernel
theorem dX4_total_19 : decode cX4_total 19 = .ok (.getfield 10, 3) := by decide +kernel
theorem dX4_total_22 : decode cX4_total 22 = .ok (.aload_n 0, 1) := by decide +kernel
theorem dX4_total_23 : decode cX4_total 23 = .ok (.getfield 10, 3) := by decide +kernel
theorem dX4_total_26 : decode cX4_total 26 = .ok (.getfield 102, 3) := by decide +kernel
theorem dX4_total_29 : decode cX4_total 29 = .ok (.invokevirtual 129, 3) := by decide +kernel
theorem dX4_total_32 : decode cX4_total 32 = .ok (.aload_n 0, 1) := by decide +kernel
theorem dX4_total_33 : decode cX4_total 33 = .ok (.getfield 29, 3) := by decide +kernel
theorem dX4_total_36 : decode cX4_total 36 = .ok (.getfield 133, 3) := by decide +kernel
theorem dX4_total_39 : decode cX4_total 39 = .ok (.iload_n 1, 1) := by decide +kernel
theorem dX4_total_40 : decode cX4_total 40 = .ok (.iaload, 1) := by decide +kernel
theorem dX4_total_41 : decode cX4_total 41 = .ok (.ireturn, 1) := by decide +kernel
theorem dX4_at_0 : decode cX4_at 0 = .ok (.aload_n 0, 1) := by decide +kernel
theorem dX4_at_1 : decode cX4_at 1 = .ok (.getfield 10, 3) := by decide +kernel
theorem dX4_at_4 : decode cX4_at 4 = .ok (.iload_n 1, 1) := by decide +kernel
theorem dX4_at_5 : decode cX4_at 5 = .ok (.invokevirtual 83, 3) := by decide +kernel
theorem dX4_at_8 : decode cX4_at 8 = .ok (.ifCond .ne 9, 3) := by decide +kernel
theorem dX4_at_11 : decode cX4_at 11 = .ok (.aload_n 0, 1) := by decide +kernel
theorem dX4_at_12 : decode cX4_at 12 = .ok (.iconst (-1), 1) := by decide +kernel
theorem dX4_at_13 : decode cX4_at 13 = .ok (.invokevirtual 64, 3) := by decide +kernel
theorem dX4_at_16 : decode cX4_at 16 = .ok (.ireturn, 1) := by decide +kernel
theorem dX4_at_17 : decode cX4_at 17 = .ok (.iload_n 2, 1) := by decide +kernel
theorem dX4_at_18 : decode cX4_at 18 = .ok (.ifCond .lt 8, 3) := by decide +kernel
theorem dX4_at_21 : decode cX4_at 21 = .ok (.iload_n 2, 1) := by decide +kernel
theorem dX4_at_22 : decode cX4_at 22 = .ok (.iconst 3, 1) := by decide +kernel
theorem dX4_at_23 : decode cX4_at 23 = .ok (.if_icmp .le 10, 3) := by decide +kernel
theorem dX4_at_26 : decode cX4_at 26 = .ok (.aload_n 0, 1) := by decide +kernel
theorem dX4_at_27 : decode cX4_at 27 = .ok (.bipush (-2), 2) := by decide +kernel
theorem dX4_at_29 : decode cX4_at 29 = .ok (.invokevirtual 64, 3) := by decide +kernel
theorem dX4_at_32 : decode cX4_at 32 = .ok (.ireturn, 1) := by decide +kernel
theorem dX4_at_33 : decode cX4_at 33 = .ok (.aload_n 0, 1) := by decide +kernel
theorem dX4_at_34 : decode cX4_at 34 = .ok (.getfield 29, 3) := by decide +kernel
theorem dX4_at_37 : decode cX4_at 37 = .ok (.aload_n 0, 1) := by decide +kernel
theorem dX4_at_38 : decode cX4_at 38 = .ok (.getfield 10, 3) := by decide +kernel
theorem dX4_at_41 : decode cX4_at 41 = .ok (.aload_n 0, 1) := by decide +kernel
theorem dX4_at_42 : decode cX4_at 42 = .ok (.getfield 10, 3) := by decide +kernel
theorem dX4_at_45 : decode cX4_at 45 = .ok (.getfield 102, 3) := by decide +kernel
theorem dX4_at_48 : decode cX4_at 48 = .ok (.invokevirtual 129, 3) := by decide +kernel
theorem dX4_at_51 : decode cX4_at 51 = .ok (.iload_n 2, 1) := by decide +kernel
theorem dX4_at_52 : decode cX4_at 52 = .ok (.tableswitch 58 0 2 #[28, 38, 48], 28) := by decide +kernel
theorem dX4_at_80 : decode cX4_at 80 = .ok (.aload_n 0, 1) := by decide +kernel
theorem dX4_at_81 : decode cX4_at 81 = .ok (.getfield 29, 3) := by decide +kernel
theorem dX4_at_84 : decode cX4_at 84 = .ok (.getfield 136, 3) := by decide +kernel
theorem dX4_at_87 : decode cX4_at 87 = .ok (.iload_n 1, 1) := by decide +kernel
theorem dX4_at_88 : decode cX4_at 88 = .ok (.iaload, 1) := by decide +kernel
theorem dX4_at_89 : decode cX4_at 89 = .ok (.ireturn, 1) := by decide +kernel
theorem dX4_at_90 : decode cX4_at 90 = .ok (.aload_n 0, 1) := by decide +kernel
theorem dX4_at_91 : decode cX4_at 91 = .ok (.getfield 29, 3) := by decide +kernel
theorem dX4_at_94 : decode cX4_at 94 = .ok (.getfield 139, 3) := by decide +kernel
theorem dX4_at_97 : decode cX4_at 97 = .ok (.iload_n 1, 1) := by decide +kernel
theorem dX4_at_98 : decode cX4_at 98 = .ok (.iaload, 1) := by decide +kernel
theorem dX4_at_99 : decode cX4_at 99 = .ok (.ireturn, 1) := by decide +kernel
theorem dX4_at_100 : decode cX4_at 100 = .ok (.aload_n 0, 1) := by decide +kernel
theorem dX4_at_101 : decode cX4_at 101 = .ok (.getfield 29, 3) := by decide +kernel
theorem dX4_at_104 : decode cX4_at 104 = .ok (.getfield 142, 3) := by decide +kernel
theorem dX4_at_107 : decode cX4_at 107 = .ok (.iload_n 1, 1) := by decide +kernel
theorem dX4_at_108 : decode cX4_at 108 = .ok (.iaload, 1) := by decide +kernel
theorem dX4_at_109 : decode cX4_at 109 = .ok (.ireturn, 1) := by decide +kernel
theorem dX4_at_110 : decode cX4_at 110 = .ok (.aload_n 0, 1) := by decide +kernel
theorem dX4_at_111 : decode cX4_at 111 = .ok (.getfield 29, 3) := by decide +kernel
theorem dX4_at_114 : decode cX4_at 114 = .ok (.getfield 145, 3) := by decide +kernel
theorem dX4_at_117 : decode cX4_at 117 = .ok (.iload_n 1, 1) := by decide +kernel
theorem dX4_at_118 : decode cX4_at 118 = .ok (.iaload, 1) := by decide +kernel
theorem dX4_at_119 : decode cX4_at 119 = .ok (.ireturn, 1) := by decide +kernel
theorem dX4_when_0 : decode cX4_when 0 = .ok (.aload_n 0, 1) := by decide +kernel
theorem dX4_when_1 : decode cX4_when 1 = .ok (.getfield 10, 3) := by decide +kernel
theorem dX4_when_4 : decode cX4_when 4 = .ok (.iload_n 1, 1) := by decide +kernel
theorem dX4_when_5 : decode cX4_when 5 = .ok (.invokevirtual 83, 3) := by decide +kernel
theorem dX4_when_8 : decode cX4_when 8 = .ok (.ifCond .ne 9, 3) := by decide +kernel
theorem dX4_when_11 : decode cX4_when 11 = .ok (.aload_n 0, 1) := by decide +kernel
theorem dX4_when_12 : decode cX4_when 12 = .ok (.iconst (-1), 1) := by decide +kernel
theorem dX4_when_13 : decode cX4_when 13 = .ok (.invokevirtual 64, 3) := by decide +kernel
theorem dX4_when_16 : decode cX4_when 16 = .ok (.ireturn, 1) := by decide +kernel
theorem dX4_when_17 : decode cX4_when 17 = .ok (.aload_n 0, 1) := by decide +kernel
theorem dX4_when_18 : decode cX4_when 18 = .ok (.getfield 29, 3) := by decide +kernel
theorem dX4_when_21 : decode cX4_when 21 = .ok (.aload_n 0, 1) := by decide +kernel
theorem dX4_when_22 : decode cX4_when 22 = .ok (.getfield 10, 3) := by decide +kernel
theorem dX4_when_25 : decode cX4_when 25 = .ok (.aload_n 0, 1) := by decide +kernel
theorem dX4_when_26 : decode cX4_when 26 = .ok (.getfield 10, 3) := by decide +kernel
theorem dX4_when_29 : decode cX4_when 29 = .ok (.getfield 102, 3) := by decide +kernel
theorem dX4_when_32 : decode cX4_when 32 = .ok (.invokevirtual 129, 3) := by decide +kernel
theorem dX4_when_35 : decode cX4_when 35 = .ok (.aload_n 0, 1) := by decide +kernel
theorem dX4_when_36 : decode cX4_when 36 = .ok (.getfield 29, 3) := by decide +kernel
theorem dX4_when_39 : decode cX4_when 39 = .ok (.getfield 136, 3) := by decide +kernel
theorem dX4_when_42 : decode cX4_when 42 = .ok (.aload_n 0, 1) := by decide +kernel
theorem dX4_when_43 : decode cX4_when 43 = .ok (.getfield 10, 3) := by decide +kernel
theorem dX4_when_46 : decode cX4_when 46 = .ok (.iload_n 1, 1) := by decide +kernel
theorem dX4_when_47 : decode cX4_when 47 = .ok (.invokevirtual 99, 3) := by decide +kernel
theorem dX4_when_50 : decode cX4_when 50 = .ok (.iaload, 1) := by decide +kernel
theorem dX4_when_51 : decode cX4_when 51 = .ok (.ireturn, 1) := by decide +kernel
theorem dX4_best_0 : decode cX4_best 0 = .ok (.iload_n 1, 1) := by decide +kernel
theorem dX4_best_1 : decode cX4_best 1 = .ok (.invokestatic 126, 3) := by decide +kernel
theorem dX4_best_4 : decode cX4_best 4 = .ok (.ifCond .ne 10, 3) := by decide +kernel
theorem dX4_best_7 : decode cX4_best 7 = .ok (.aload_n 0, 1) := by decide +kernel
theorem dX4_best_8 : decode cX4_best 8 = .ok (.bipush (-2), 2) := by decide +kernel
theorem dX4_best_10 : decode cX4_best 10 = .ok (.invokevirtual 64, 3) := by decide +kernel
theorem dX4_best_13 : decode cX4_best 13 = .ok (.ireturn, 1) := by decide +kernel
theorem dX4_best_14 : decode cX4_best 14 = .ok (.aload_n 0, 1) := by decide +kernel
theorem dX4_best_15 : decode cX4_best 15 = .ok (.iload_n 1, 1) := by decide +kernel
theorem dX4_best_16 : decode cX4_best 16 = .ok (.invokevirtual 148, 3) := by decide +kernel
theorem dX4_best_19 : decode cX4_best 19 = .ok (.ireturn, 1) := by decide +kernel
theorem dX4_bestAt_0 : decode cX4_bestAt 0 = .ok (.iload_n 1, 1) := by decide +kernel
theorem dX4_bestAt_1 : decode cX4_bestAt 1 = .ok (.invokestatic 126, 3) := by decide +kernel
theorem dX4_bestAt_4 : decode cX4_bestAt 4 = .ok (.ifCond .ne 10, 3) := by decide +kernel
theorem dX4_bestAt_7 : decode cX4_bestAt 7 = .ok (.aload_n 0, 1) := by decide +kernel
theorem dX4_bestAt_8 : decode cX4_bestAt 8 = .ok (.bipush (-2), 2) := by decide +kernel
theorem dX4_bestAt_10 : decode cX4_bestAt 10 = .ok (.invokevirtual 64, 3) := by decide +kernel
theorem dX4_bestAt_13 : decode cX4_bestAt 13 = .ok (.ireturn, 1) := by decide +kernel
theorem dX4_bestAt_14 : decode cX4_bestAt 14 = .ok (.aload_n 0, 1) := by decide +kernel
theorem dX4_bestAt_15 : decode cX4_bestAt 15 = .ok (.getfield 10, 3) := by decide +kernel
theorem dX4_bestAt_18 : decode cX4_bestAt 18 = .ok (.iload_n 2, 1) := by decide +kernel
theorem dX4_bestAt_19 : decode cX4_bestAt 19 = .ok (.invokevirtual 83, 3) := by decide +kernel
theorem dX4_bestAt_22 : decode cX4_bestAt 22 = .ok (.ifCond .ne 9, 3) := by decide +kernel
theorem dX4_bestAt_25 : decode cX4_bestAt 25 = .ok (.aload_n 0, 1) := by decide +kernel
theorem dX4_bestAt_26 : decode cX4_bestAt 26 = .ok (.iconst (-1), 1) := by decide +kernel
theorem dX4_bestAt_27 : decode cX4_bestAt 27 = .ok (.invokevirtual 64, 3) := by decide +kernel
theorem dX4_bestAt_30 : decode cX4_bestAt 30 = .ok (.ireturn, 1) := by decide +kernel
theorem dX4_bestAt_31 : decode cX4_bestAt 31 = .ok (.aload_n 0, 1) := by decide +kernel
theorem dX4_bestAt_32 : decode cX4_bestAt 32 = .ok (.iload_n 1, 1) := by decide +kernel
theorem dX4_bestAt_33 : decode cX4_bestAt 33 = .ok (.invokevirtual 148, 3) := by decide +kernel
theorem dX4_bestAt_36 : decode cX4_bestAt 36 = .ok (.pop, 1) := by decide +kernel
theorem dX4_bestAt_37 : decode cX4_bestAt 37 = .ok (.aload_n 0, 1) := by decide +kernel
theorem dX4_bestAt_38 : decode cX4_bestAt 38 = .ok (.getfield 40, 3) := by decide +kernel
theorem dX4_bestAt_41 : decode cX4_bestAt 41 = .ok (.iload_n 2, 1) := by decide +kernel
theorem dX4_bestAt_42 : decode cX4_bestAt 42 = .ok (.iaload, 1) := by decide +kernel
theorem dX4_bestAt_43 : decode cX4_bestAt 43 = .ok (.ireturn, 1) := by decide +kernel
theorem dX4_turned_0 : decode cX4_turned 0 = .ok (.aload_n 0, 1) := by decide +kernel
theorem dX4_turned_1 : decode cX4_turned 1 = .ok (.getfield 10, 3) := by decide +kernel
theorem dX4_turned_4 : decode cX4_turned 4 = .ok (.iload_n 1, 1) := by decide +kernel
theorem dX4_turned_5 : decode cX4_turned 5 = .ok (.invokevirtual 83, 3) := by decide +kernel
theorem dX4_turned_8 : decode cX4_turned 8 = .ok (.ifCond .ne 9, 3) := by decide +kernel
theorem dX4_turned_11 : decode cX4_turned 11 = .ok (.aload_n 0, 1) := by decide +kernel
theorem dX4_turned_12 : decode cX4_turned 12 = .ok (.iconst (-1), 1) := by decide +kernel
theorem dX4_turned_13 : decode cX4_turned 13 = .ok (.invokevirtual 64, 3) := by decide +kernel
theorem dX4_turned_16 : decode cX4_turned 16 = .ok (.ireturn, 1) := by decide +kernel
theorem dX4_turned_17 : decode cX4_turned 17 = .ok (.aload_n 0, 1) := by decide +kernel
theorem dX4_turned_18 : decode cX4_turned 18 = .ok (.invokevirtual 151, 3) := by decide +kernel
theorem dX4_turned_21 : decode cX4_turned 21 = .ok (.aload_n 0, 1) := by decide +kernel
theorem dX4_turned_22 : decode cX4_turned 22 = .ok (.getfield 44, 3) := by decide +kernel
theorem dX4_turned_25 : decode cX4_turned 25 = .ok (.iload_n 1, 1) := by decide +kernel
theorem dX4_turned_26 : decode cX4_turned 26 = .ok (.iaload, 1) := by decide +kernel
theorem dX4_turned_27 : decode cX4_turned 27 = .ok (.ireturn, 1) := by decide +kernel
theorem dX4_most_0 : decode cX4_most 0 = .ok (.aload_n 0, 1) := by decide +kernel
theorem dX4_most_1 : decode cX4_most 1 = .ok (.invokevirtual 151, 3) := by decide +kernel
theorem dX4_most_4 : decode cX4_most 4 = .ok (.iconst 0, 1) := by decide +kernel
theorem dX4_most_5 : decode cX4_most 5 = .ok (.istore_n 1, 1) := by decide +kernel
theorem dX4_most_6 : decode cX4_most 6 = .ok (.iconst 0, 1) := by decide +kernel
theorem dX4_most_7 : decode cX4_most 7 = .ok (.istore_n 2, 1) := by decide +kernel
theorem dX4_most_8 : decode cX4_most 8 = .ok (.iload_n 2, 1) := by decide +kernel
theorem dX4_most_9 : decode cX4_most 9 = .ok (.aload_n 0, 1) := by decide +kernel
theorem dX4_most_10 : decode cX4_most 10 = .ok (.getfield 10, 3) := by decide +kernel
theorem dX4_most_13 : decode cX4_most 13 = .ok (.getfield 154, 3) := by decide +kernel
theorem dX4_most_16 : decode cX4_most 16 = .ok (.if_icmp .ge 20, 3) := by decide +kernel
theorem dX4_most_19 : decode cX4_most 19 = .ok (.iload_n 1, 1) := by decide +kernel
theorem dX4_most_20 : decode cX4_most 20 = .ok (.aload_n 0, 1) := by decide +kernel
theorem dX4_most_21 : decode cX4_most 21 = .ok (.getfield 44, 3) := by decide +kernel
theorem dX4_most_24 : decode cX4_most 24 = .ok (.iload_n 2, 1) := by decide +kernel
theorem dX4_most_25 : decode cX4_most 25 = .ok (.iaload, 1) := by decide +kernel
theorem dX4_most_26 : decode cX4_most 26 = .ok (.invokestatic 157, 3) := by decide +kernel
theorem dX4_most_29 : decode cX4_most 29 = .ok (.istore_n 1, 1) := by decide +kernel
theorem dX4_most_30 : decode cX4_most 30 = .ok (.iinc 2 1, 3) := by decide +kernel
theorem dX4_most_33 : decode cX4_most 33 = .ok (.goto (-25), 3) := by decide +kernel
theorem dX4_most_36 : decode cX4_most 36 = .ok (.iload_n 1, 1) := by decide +kernel
theorem dX4_most_37 : decode cX4_most 37 = .ok (.ireturn, 1) := by decide +kernel
theorem dX4_enough_0 : decode cX4_enough 0 = .ok (.iload_n 1, 1) := by decide +kernel
theorem dX4_enough_1 : decode cX4_enough 1 = .ok (.ifCond .lt 8, 3) := by decide +kernel
theorem dX4_enough_4 : decode cX4_enough 4 = .ok (.iload_n 1, 1) := by decide +kernel
theorem dX4_enough_5 : decode cX4_enough 5 = .ok (.iconst 2, 1) := by decide +kernel
theorem dX4_enough_6 : decode cX4_enough 6 = .ok (.if_icmp .le 10, 3) := by decide +kernel
theorem dX4_enough_9 : decode cX4_enough 9 = .ok (.aload_n 0, 1) := by decide +kernel
theorem dX4_enough_10 : decode cX4_enough 10 = .ok (.bipush (-2), 2) := by decide +kernel
theorem dX4_enough_12 : decode cX4_enough 12 = .ok (.invokevirtual 64, 3) := by decide +kernel
theorem dX4_enough_15 : decode cX4_enough 15 = .ok (.ireturn, 1) := by decide +kernel
theorem dX4_enough_16 : decode cX4_enough 16 = .ok (.aload_n 0, 1) := by decide +kernel
theorem dX4_enough_17 : decode cX4_enough 17 = .ok (.getfield 16, 3) := by decide +kernel
theorem dX4_enough_20 : decode cX4_enough 20 = .ok (.aload_n 0, 1) := by decide +kernel
theorem dX4_enough_21 : decode cX4_enough 21 = .ok (.getfield 10, 3) := by decide +kernel
theorem dX4_enough_24 : decode cX4_enough 24 = .ok (.invokevirtual 75, 3) := by decide +kernel
theorem dX4_enough_27 : decode cX4_enough 27 = .ok (.iconst 0, 1) := by decide +kernel
theorem dX4_enough_28 : decode cX4_enough 28 = .ok (.istore_n 2, 1) := by decide +kernel
theorem dX4_enough_29 : decode cX4_enough 29 = .ok (.iload_n 2, 1) := by decide +kernel
theorem dX4_enough_30 : decode cX4_enough 30 = .ok (.bipush 60, 2) := by decide +kernel
theorem dX4_enough_32 : decode cX4_enough 32 = .ok (.if_icmp .gt 53, 3) := by decide +kernel
theorem dX4_enough_35 : decode cX4_enough 35 = .ok (.aload_n 0, 1) := by decide +kernel
theorem dX4_enough_36 : decode cX4_enough 36 = .ok (.getfield 16, 3) := by decide +kernel
theorem dX4_enough_39 : decode cX4_enough 39 = .ok (.getfield 116, 3) := by decide +kernel
theorem dX4_enough_42 : decode cX4_enough 42 = .ok (.iconst 2, 1) := by decide +kernel
theorem dX4_enough_43 : decode cX4_enough 43 = .ok (.iload_n 1, 1) := by decide +kernel
theorem dX4_enough_44 : decode cX4_enough 44 = .ok (.iadd, 1) := by decide +kernel
theorem dX4_enough_45 : decode cX4_enough 45 = .ok (.iload_n 2, 1) := by decide +kernel
theorem dX4_enough_46 : decode cX4_enough 46 = .ok (.iastore, 1) := by decide +kernel
theorem dX4_enough_47 : decode cX4_enough 47 = .ok (.aload_n 0, 1) := by decide +kernel
theorem dX4_enough_48 : decode cX4_enough 48 = .ok (.getfield 29, 3) := by decide +kernel
theorem dX4_enough_51 : decode cX4_enough 51 = .ok (.aload_n 0, 1) := by decide +kernel
theorem dX4_enough_52 : decode cX4_enough 52 = .ok (.getfield 16, 3) := by decide +kernel
theorem dX4_enough_55 : decode cX4_enough 55 = .ok (.aload_n 0, 1) := by decide +kernel
theorem dX4_enough_56 : decode cX4_enough 56 = .ok (.getfield 16, 3) := by decide +kernel
theorem dX4_enough_59 : decode cX4_enough 59 = .ok (.getfield 102, 3) := by decide +kernel
theorem dX4_enough_62 : decode cX4_enough 62 = .ok (.invokevirtual 129, 3) := by decide +kernel
theorem dX4_enough_65 : decode cX4_enough 65 = .ok (.aload_n 0, 1) := by decide +kernel
theorem dX4_enough_66 : decode cX4_enough 66 = .ok (.getfield 29, 3) := by decide +kernel
theorem dX4_enough_69 : decode cX4_enough 69 = .ok (.getfield 133, 3) := by decide +kernel
theorem dX4_enough_72 : decode cX4_enough 72 = .ok (.iconst 5, 1) := by decide +kernel
theorem dX4_enough_73 : decode cX4_enough 73 = .ok (.iaload, 1) := by decide +kernel
theorem dX4_enough_74 : decode cX4_enough 74 = .ok (.ifCond .ne 5, 3) := by decide +kernel
theorem dX4_enough_77 : decode cX4_enough 77 = .ok (.iload_n 2, 1) := by decide +kernel
theorem dX4_enough_78 : decode cX4_enough 78 = .ok (.ireturn, 1) := by decide +kernel
theorem dX4_enough_79 : decode cX4_enough 79 = .ok (.iinc 2 1, 3) := by decide +kernel
theorem dX4_enough_82 : decode cX4_enough 82 = .ok (.goto (-53), 3) := by decide +kernel
theorem dX4_enough_85 : decode cX4_enough 85 = .ok (.bipush (-9), 2) := by decide +kernel
theorem dX4_enough_87 : decode cX4_enough 87 = .ok (.ireturn, 1) := by decide +kernel
theorem dX4_fill_0 : decode cX4_fill 0 = .ok (.aload_n 0, 1) := by decide +kernel
theorem dX4_fill_1 : decode cX4_fill 1 = .ok (.bipush 8, 2) := by decide +kernel
theorem dX4_fill_3 : decode cX4_fill 3 = .ok (.invokevirtual 162, 3) := by decide +kernel
theorem dX4_fill_6 : decode cX4_fill 6 = .ok (.ireturn, 1) := by decide +kernel
theorem dX4_ramp_0 : decode cX4_ramp 0 = .ok (.aload_n 0, 1) := by decide +kernel
theorem dX4_ramp_1 : decode cX4_ramp 1 = .ok (.bipush 6, 2) := by decide +kernel
theorem dX4_ramp_3 : decode cX4_ramp 3 = .ok (.invokevirtual 162, 3) := by decide +kernel
theorem dX4_ramp_6 : decode cX4_ramp 6 = .ok (.ireturn, 1) := by decide +kernel
theorem dX4_keep_0 : decode cX4_keep 0 = .ok (.iload_n 1, 1) := by decide +kernel
theorem dX4_keep_1 : decode cX4_keep 1 = .ok (.ifCond .lt 8, 3) := by decide +kernel
theorem dX4_keep_4 : decode cX4_keep 4 = .ok (.iload_n 1, 1) := by decide +kernel
theorem dX4_keep_5 : decode cX4_keep 5 = .ok (.iconst 1, 1) := by decide +kernel
theorem dX4_keep_6 : decode cX4_keep 6 = .ok (.if_icmp .le 10, 3) := by decide +kernel
theorem dX4_keep_9 : decode cX4_keep 9 = .ok (.aload_n 0, 1) := by decide +kernel
theorem dX4_keep_10 : decode cX4_keep 10 = .ok (.bipush (-2), 2) := by decide +kernel
theorem dX4_keep_12 : decode cX4_keep 12 = .ok (.invokevirtual 64, 3) := by decide +kernel
theorem dX4_keep_15 : decode cX4_keep 15 = .ok (.ireturn, 1) := by decide +kernel
theorem dX4_keep_16 : decode cX4_keep 16 = .ok (.aload_n 0, 1) := by decide +kernel
theorem dX4_keep_17 : decode cX4_keep 17 = .ok (.getfield 16, 3) := by decide +kernel
theorem dX4_keep_20 : decode cX4_keep 20 = .ok (.aload_n 0, 1) := by decide +kernel
theorem dX4_keep_21 : decode cX4_keep 21 = .ok (.getfield 10, 3) := by decide +kernel
theorem dX4_keep_24 : decode cX4_keep 24 = .ok (.invokevirtual 75, 3) := by decide +kernel
theorem dX4_keep_27 : decode cX4_keep 27 = .ok (.iconst 0, 1) := by decide +kernel
theorem dX4_keep_28 : decode cX4_keep 28 = .ok (.istore_n 2, 1) := by decide +kernel
theorem dX4_keep_29 : decode cX4_keep 29 = .ok (.iconst (-1), 1) := by decide +kernel
theorem dX4_keep_30 : decode cX4_keep 30 = .ok (.istore_n 3, 1) := by decide +kernel
theorem dX4_keep_31 : decode cX4_keep 31 = .ok (.iconst 0, 1) := by decide +kernel
theorem dX4_keep_32 : decode cX4_keep 32 = .ok (.istore 4, 2) := by decide +kernel
theorem dX4_keep_34 : decode cX4_keep 34 = .ok (.iload 4, 2) := by decide +kernel
theorem dX4_keep_36 : decode cX4_keep 36 = .ok (.bipush 20, 2) := by decide +kernel
theorem dX4_keep_38 : decode cX4_keep 38 = .ok (.if_icmp .gt 84, 3) := by decide +kernel
theorem dX4_keep_41 : decode cX4_keep 41 = .ok (.aload_n 0, 1) := by decide +kernel
theorem dX4_keep_42 : decode cX4_keep 42 = .ok (.getfield 16, 3) := by decide +kernel
theorem dX4_keep_45 : decode cX4_keep 45 = .ok (.getfield 116, 3) := by decide +kernel
theorem dX4_keep_48 : decode cX4_keep 48 = .ok (.bipush 9, 2) := by decide +kernel
theorem dX4_keep_50 : decode cX4_keep 50 = .ok (.iload 4, 2) := by decide +kernel
theorem dX4_keep_52 : decode cX4_keep 52 = .ok (.iastore, 1) := by decide +kernel
theorem dX4_keep_53 : decode cX4_keep 53 = .ok (.aload_n 0, 1) := by decide +kernel
theorem dX4_keep_54 : decode cX4_keep 54 = .ok (.getfield 29, 3) := by decide +kernel
theorem dX4_keep_57 : decode cX4_keep 57 = .ok (.aload_n 0, 1) := by decide +kernel
theorem dX4_keep_58 : decode cX4_keep 58 = .ok (.getfield 16, 3) := by decide +kernel
theorem dX4_keep_61 : decode cX4_keep 61 = .ok (.aload_n 0, 1) := by decide +kernel
theorem dX4_keep_62 : decode cX4_keep 62 = .ok (.getfield 16, 3) := by decide +kernel
theorem dX4_keep_65 : decode cX4_keep 65 = .ok (.getfield 102, 3) := by decide +kernel
theorem dX4_keep_68 : decode cX4_keep 68 = .ok (.invokevirtual 129, 3) := by decide +kernel
theorem dX4_keep_71 : decode cX4_keep 71 = .ok (.aload_n 0, 1) := by decide +kernel
theorem dX4_keep_72 : decode cX4_keep 72 = .ok (.getfield 10, 3) := by decide +kernel
theorem dX4_keep_75 : decode cX4_keep 75 = .ok (.getfield 154, 3) := by decide +kernel
theorem dX4_keep_78 : decode cX4_keep 78 = .ok (.ifCond .ne 7, 3) := by decide +kernel
theorem dX4_keep_81 : decode cX4_keep 81 = .ok (.iconst 0, 1) := by decide +kernel
theorem dX4_keep_82 : decode cX4_keep 82 = .ok (.goto 20, 3) := by decide +kernel
theorem dX4_keep_85 : decode cX4_keep 85 = .ok (.aload_n 0, 1) := by decide +kernel
theorem dX4_keep_86 : decode cX4_keep 86 = .ok (.getfield 29, 3) := by decide +kernel
theorem dX4_keep_89 : decode cX4_keep 89 = .ok (.getfield 145, 3) := by decide +kernel
theorem dX4_keep_92 : decode cX4_keep 92 = .ok (.aload_n 0, 1) := by decide +kernel
theorem dX4_keep_93 : decode cX4_keep 93 = .ok (.getfield 10, 3) := by decide +kernel
theorem dX4_keep_96 : decode cX4_keep 96 = .ok (.getfield 154, 3) := by decide +kernel
theorem dX4_keep_99 : decode cX4_keep 99 = .ok (.iconst 1, 1) := by decide +kernel
theorem dX4_keep_100 : decode cX4_keep 100 = .ok (.isub, 1) := by decide +kernel
theorem dX4_keep_101 : decode cX4_keep 101 = .ok (.iaload, 1) := by decide +kernel
theorem dX4_keep_102 : decode cX4_keep 102 = .ok (.istore 5, 2) := by decide +kernel
theorem dX4_keep_104 : decode cX4_keep 104 = .ok (.iload 5, 2) := by decide +kernel
theorem dX4_keep_106 : decode cX4_keep 106 = .ok (.iload_n 3, 1) := by decide +kernel
theorem dX4_keep_107 : decode cX4_keep 107 = .ok (.if_icmp .le 9, 3) := by decide +kernel
theorem dX4_keep_110 : decode cX4_keep 110 = .ok (.iload 5, 2) := by decide +kernel
theorem dX4_keep_112 : decode cX4_keep 112 = .ok (.istore_n 3, 1) := by decide +kernel
theorem dX4_keep_113 : decode cX4_keep 113 = .ok (.iload 4, 2) := by decide +kernel
theorem dX4_keep_115 : decode cX4_keep 115 = .ok (.istore_n 2, 1) := by decide +kernel
theorem dX4_keep_116 : decode cX4_keep 116 = .ok (.iinc 4 1, 3) := by decide +kernel
theorem dX4_keep_119 : decode cX4_keep 119 = .ok (.goto (-85), 3) := by decide +kernel
theorem dX4_keep_122 : decode cX4_keep 122 = .ok (.iload_n 1, 1) := by decide +kernel
theorem dX4_keep_123 : decode cX4_keep 123 = .ok (.ifCond .ne 7, 3) := by decide +kernel
theorem dX4_keep_126 : decode cX4_keep 126 = .ok (.iload_n 2, 1) := by decide +kernel
theorem dX4_keep_127 : decode cX4_keep 127 = .ok (.goto 4, 3) := by decide +kernel
theorem dX4_keep_130 : decode cX4_keep 130 = .ok (.iload_n 3, 1) := by decide +kernel
theorem dX4_keep_131 : decode cX4_keep 131 = .ok (.ireturn, 1) := by decide +kernel
theorem dX4_oneEach_0 : decode cX4_oneEach 0 = .ok (.aload_n 0, 1) := by decide +kernel
theorem dX4_oneEach_1 : decode cX4_oneEach 1 = .ok (.getfield 29, 3) := by decide +kernel
theorem dX4_oneEach_4 : decode cX4_oneEach 4 = .ok (.aload_n 0, 1) := by decide +kernel
theorem dX4_oneEach_5 : decode cX4_oneEach 5 = .ok (.getfield 10, 3) := by decide +kernel
theorem dX4_oneEach_8 : decode cX4_oneEach 8 = .ok (.aload_n 0, 1) := by decide +kernel
theorem dX4_oneEach_9 : decode cX4_oneEach 9 = .ok (.getfield 10, 3) := by decide +kernel
theorem dX4_oneEach_12 : decode cX4_oneEach 12 = .ok (.getfield 102, 3) := by decide +kernel
theorem dX4_oneEach_15 : decode cX4_oneEach 15 = .ok (.invokevirtual 129, 3) := by decide +kernel
theorem dX4_oneEach_18 : decode cX4_oneEach 18 = .ok (.aload_n 0, 1) := by decide +kernel
theorem dX4_oneEach_19 : decode cX4_oneEach 19 = .ok (.getfield 29, 3) := by decide +kernel
theorem dX4_oneEach_22 : decode cX4_oneEach 22 = .ok (.getfield 133, 3) := by decide +kernel
theorem dX4_oneEach_25 : decode cX4_oneEach 25 = .ok (.iconst 5, 1) := by decide +kernel
theorem dX4_oneEach_26 : decode cX4_oneEach 26 = .ok (.iaload, 1) := by decide +kernel
theorem dX4_oneEach_27 : decode cX4_oneEach 27 = .ok (.istore_n 1, 1) := by decide +kernel
theorem dX4_oneEach_28 : decode cX4_oneEach 28 = .ok (.aload_n 0, 1) := by decide +kernel
theorem dX4_oneEach_29 : decode cX4_oneEach 29 = .ok (.getfield 29, 3) := by decide +kernel
theorem dX4_oneEach_32 : decode cX4_oneEach 32 = .ok (.aload_n 0, 1) := by decide +kernel
theorem dX4_oneEach_33 : decode cX4_oneEach 33 = .ok (.getfield 10, 3) := by decide +kernel
theorem dX4_oneEach_36 : decode cX4_oneEach 36 = .ok (.aload_n 0, 1) := by decide +kernel
theorem dX4_oneEach_37 : decode cX4_oneEach 37 = .ok (.getfield 10, 3) := by decide +kernel
theorem dX4_oneEach_40 : decode cX4_oneEach 40 = .ok (.getfield 102, 3) := by decide +kernel
theorem dX4_oneEach_43 : decode cX4_oneEach 43 = .ok (.invokevirtual 165, 3) := by decide +kernel
theorem dX4_oneEach_46 : decode cX4_oneEach 46 = .ok (.iload_n 1, 1) := by decide +kernel
theorem dX4_oneEach_47 : decode cX4_oneEach 47 = .ok (.aload_n 0, 1) := by decide +kernel
theorem dX4_oneEach_48 : decode cX4_oneEach 48 = .ok (.getfield 29, 3) := by decide +kernel
theorem dX4_oneEach_51 : decode cX4_oneEach 51 = .ok (.getfield 133, 3) := by decide +kernel
theorem dX4_oneEach_54 : decode cX4_oneEach 54 = .ok (.iconst 5, 1) := by decide +kernel
theorem dX4_oneEach_55 : decode cX4_oneEach 55 = .ok (.iaload, 1) := by decide +kernel
theorem dX4_oneEach_56 : decode cX4_oneEach 56 = .ok (.isub, 1) := by decide +kernel
theorem dX4_oneEach_57 : decode cX4_oneEach 57 = .ok (.ireturn, 1) := by decide +kernel
theorem dX4_machine_0 : decode cX4_machine 0 = .ok (.aload_n 0, 1) := by decide +kernel
theorem dX4_machine_1 : decode cX4_machine 1 = .ok (.invokevirtual 168, 3) := by decide +kernel
theorem dX4_machine_4 : decode cX4_machine 4 = .ok (.ireturn, 1) := by decide +kernel
theorem dX4_saves_0 : decode cX4_saves 0 = .ok (.aload_n 0, 1) := by decide +kernel
theorem dX4_saves_1 : decode cX4_saves 1 = .ok (.getfield 29, 3) := by decide +kernel
theorem dX4_saves_4 : decode cX4_saves 4 = .ok (.aload_n 0, 1) := by decide +kernel
theorem dX4_saves_5 : decode cX4_saves 5 = .ok (.getfield 10, 3) := by decide +kernel
theorem dX4_saves_8 : decode cX4_saves 8 = .ok (.aload_n 0, 1) := by decide +kernel
theorem dX4_saves_9 : decode cX4_saves 9 = .ok (.getfield 10, 3) := by decide +kernel
theorem dX4_saves_12 : decode cX4_saves 12 = .ok (.getfield 102, 3) := by decide +kernel
theorem dX4_saves_15 : decode cX4_saves 15 = .ok (.invokevirtual 129, 3) := by decide +kernel
theorem dX4_saves_18 : decode cX4_saves 18 = .ok (.aload_n 0, 1) := by decide +kernel
theorem dX4_saves_19 : decode cX4_saves 19 = .ok (.invokevirtual 168, 3) := by decide +kernel
theorem dX4_saves_22 : decode cX4_saves 22 = .ok (.aload_n 0, 1) := by decide +kernel
theorem dX4_saves_23 : decode cX4_saves 23 = .ok (.getfield 29, 3) := by decide +kernel
theorem dX4_saves_26 : decode cX4_saves 26 = .ok (.getfield 133, 3) := by decide +kernel
theorem dX4_saves_29 : decode cX4_saves 29 = .ok (.bipush 6, 2) := by decide +kernel
theorem dX4_saves_31 : decode cX4_saves 31 = .ok (.iaload, 1) := by decide +kernel
theorem dX4_saves_32 : decode cX4_saves 32 = .ok (.isub, 1) := by decide +kernel
theorem dX4_saves_33 : decode cX4_saves 33 = .ok (.ireturn, 1) := by decide +kernel
theorem dX4_late_0 : decode cX4_late 0 = .ok (.iload_n 1, 1) := by decide +kernel
theorem dX4_late_1 : decode cX4_late 1 = .ok (.ifCond .ge 15, 3) := by decide +kernel
theorem dX4_late_4 : decode cX4_late 4 = .ok (.ldc2_w 172, 3) := by decide +kernel
theorem dX4_late_7 : decode cX4_late 7 = .ok (.aload_n 0, 1) := by decide +kernel
theorem dX4_late_8 : decode cX4_late 8 = .ok (.bipush (-4), 2) := by decide +kernel
theorem dX4_late_10 : decode cX4_late 10 = .ok (.invokevirtual 64, 3) := by decide +kernel
theorem dX4_late_13 : decode cX4_late 13 = .ok (.i2l, 1) := by decide +kernel
theorem dX4_late_14 : decode cX4_late 14 = .ok (.lsub, 1) := by decide +kernel
theorem dX4_late_15 : decode cX4_late 15 = .ok (.lreturn, 1) := by decide +kernel
theorem dX4_late_16 : decode cX4_late 16 = .ok (.iload_n 1, 1) := by decide +kernel
theorem dX4_late_17 : decode cX4_late 17 = .ok (.bipush 10, 2) := by decide +kernel
theorem dX4_late_19 : decode cX4_late 19 = .ok (.if_icmp .le 15, 3) := by decide +kernel
theorem dX4_late_22 : decode cX4_late 22 = .ok (.ldc2_w 172, 3) := by decide +kernel
theorem dX4_late_25 : decode cX4_late 25 = .ok (.aload_n 0, 1) := by decide +kernel
theorem dX4_late_26 : decode cX4_late 26 = .ok (.bipush (-6), 2) := by decide +kernel
theorem dX4_late_28 : decode cX4_late 28 = .ok (.invokevirtual 64, 3) := by decide +kernel
theorem dX4_late_31 : decode cX4_late 31 = .ok (.i2l, 1) := by decide +kernel
theorem dX4_late_32 : decode cX4_late 32 = .ok (.lsub, 1) := by decide +kernel
theorem dX4_late_33 : decode cX4_late 33 = .ok (.lreturn, 1) := by decide +kernel
theorem dX4_late_34 : decode cX4_late 34 = .ok (.iload_n 2, 1) := by decide +kernel
theorem dX4_late_35 : decode cX4_late 35 = .ok (.ifCond .lt 8, 3) := by decide +kernel
theorem dX4_late_38 : decode cX4_late 38 = .ok (.iload_n 2, 1) := by decide +kernel
theorem dX4_late_39 : decode cX4_late 39 = .ok (.iconst 1, 1) := by decide +kernel
theorem dX4_late_40 : decode cX4_late 40 = .ok (.if_icmp .le 15, 3) := by decide +kernel
theorem dX4_late_43 : decode cX4_late 43 = .ok (.ldc2_w 172, 3) := by decide +kernel
theorem dX4_late_46 : decode cX4_late 46 = .ok (.aload_n 0, 1) := by decide +kernel
theorem dX4_late_47 : decode cX4_late 47 = .ok (.bipush (-2), 2) := by decide +kernel
theorem dX4_late_49 : decode cX4_late 49 = .ok (.invokevirtual 64, 3) := by decide +kernel
theorem dX4_late_52 : decode cX4_late 52 = .ok (.i2l, 1) := by decide +kernel
theorem dX4_late_53 : decode cX4_late 53 = .ok (.lsub, 1) := by decide +kernel
theorem dX4_late_54 : decode cX4_late 54 = .ok (.lreturn, 1) := by decide +kernel
theorem dX4_late_55 : decode cX4_late 55 = .ok (.aload_n 0, 1) := by decide +kernel
theorem dX4_late_56 : decode cX4_late 56 = .ok (.iload_n 1, 1) := by decide +kernel
theorem dX4_late_57 : decode cX4_late 57 = .ok (.invokevirtual 174, 3) := by decide +kernel
theorem dX4_late_60 : decode cX4_late 60 = .ok (.istore_n 3, 1) := by decide +kernel
theorem dX4_late_61 : decode cX4_late 61 = .ok (.iload_n 3, 1) := by decide +kernel
theorem dX4_late_62 : decode cX4_late 62 = .ok (.invokestatic 177, 3) := by decide +kernel
theorem dX4_late_65 : decode cX4_late 65 = .ok (.istore 4, 2) := by decide +kernel
theorem dX4_late_67 : decode cX4_late 67 = .ok (.iload_n 2, 1) := by decide +kernel
theorem dX4_late_68 : decode cX4_late 68 = .ok (.ifCond .ne 11, 3) := by decide +kernel
theorem dX4_late_71 : decode cX4_late 71 = .ok (.iload_n 3, 1) := by decide +kernel
theorem dX4_late_72 : decode cX4_late 72 = .ok (.iload 4, 2) := by decide +kernel
theorem dX4_late_74 : decode cX4_late 74 = .ok (.idiv, 1) := by decide +kernel
theorem dX4_late_75 : decode cX4_late 75 = .ok (.i2l, 1) := by decide +kernel
theorem dX4_late_76 : decode cX4_late 76 = .ok (.goto 9, 3) := by decide +kernel
theorem dX4_late_79 : decode cX4_late 79 = .ok (.bipush 10, 2) := by decide +kernel
theorem dX4_late_81 : decode cX4_late 81 = .ok (.iload 4, 2) := by decide +kernel
theorem dX4_late_83 : decode cX4_late 83 = .ok (.idiv, 1) := by decide +kernel
theorem dX4_late_84 : decode cX4_late 84 = .ok (.i2l, 1) := by decide +kernel
theorem dX4_late_85 : decode cX4_late 85 = .ok (.lreturn, 1) := by decide +kernel
theorem dX4_more_0 : decode cX4_more 0 = .ok (.aload_n 0, 1) := by decide +kernel
theorem dX4_more_1 : decode cX4_more 1 = .ok (.getfield 10, 3) := by decide +kernel
theorem dX4_more_4 : decode cX4_more 4 = .ok (.iload_n 1, 1) := by decide +kernel
theorem dX4_more_5 : decode cX4_more 5 = .ok (.invokevirtual 83, 3) := by decide +kernel
theorem dX4_more_8 : decode cX4_more 8 = .ok (.ifCond .ne 9, 3) := by decide +kernel
theorem dX4_more_11 : decode cX4_more 11 = .ok (.aload_n 0, 1) := by decide +kernel
theorem dX4_more_12 : decode cX4_more 12 = .ok (.iconst (-1), 1) := by decide +kernel
theorem dX4_more_13 : decode cX4_more 13 = .ok (.invokevirtual 64, 3) := by decide +kernel
theorem dX4_more_16 : decode cX4_more 16 = .ok (.ireturn, 1) := by decide +kernel
theorem dX4_more_17 : decode cX4_more 17 = .ok (.aload_n 0, 1) := by decide +kernel
theorem dX4_more_18 : decode cX4_more 18 = .ok (.getfield 29, 3) := by decide +kernel
theorem dX4_more_21 : decode cX4_more 21 = .ok (.aload_n 0, 1) := by decide +kernel
theorem dX4_more_22 : decode cX4_more 22 = .ok (.getfield 10, 3) := by decide +kernel
theorem dX4_more_25 : decode cX4_more 25 = .ok (.aload_n 0, 1) := by decide +kernel
theorem dX4_more_26 : decode cX4_more 26 = .ok (.getfield 10, 3) := by decide +kernel
theorem dX4_more_29 : decode cX4_more 29 = .ok (.getfield 102, 3) := by decide +kernel
theorem dX4_more_32 : decode cX4_more 32 = .ok (.invokevirtual 129, 3) := by decide +kernel
theorem dX4_more_35 : decode cX4_more 35 = .ok (.aload_n 0, 1) := by decide +kernel
theorem dX4_more_36 : decode cX4_more 36 = .ok (.getfield 29, 3) := by decide +kernel
theorem dX4_more_39 : decode cX4_more 39 = .ok (.getfield 133, 3) := by decide +kernel
theorem dX4_more_42 : decode cX4_more 42 = .ok (.iconst 2, 1) := by decide +kernel
theorem dX4_more_43 : decode cX4_more 43 = .ok (.iaload, 1) := by decide +kernel
theorem dX4_more_44 : decode cX4_more 44 = .ok (.istore_n 2, 1) := by decide +kernel
theorem dX4_more_45 : decode cX4_more 45 = .ok (.aload_n 0, 1) := by decide +kernel
theorem dX4_more_46 : decode cX4_more 46 = .ok (.getfield 16, 3) := by decide +kernel
theorem dX4_more_49 : decode cX4_more 49 = .ok (.aload_n 0, 1) := by decide +kernel
theorem dX4_more_50 : decode cX4_more 50 = .ok (.getfield 10, 3) := by decide +kernel
theorem dX4_more_53 : decode cX4_more 53 = .ok (.invokevirtual 75, 3) := by decide +kernel
theorem dX4_more_56 : decode cX4_more 56 = .ok (.bipush 20, 2) := by decide +kernel
theorem dX4_more_58 : decode cX4_more 58 = .ok (.istore_n 3, 1) := by decide +kernel
theorem dX4_more_59 : decode cX4_more 59 = .ok (.iload_n 3, 1) := by decide +kernel
theorem dX4_more_60 : decode cX4_more 60 = .ok (.aload_n 0, 1) := by decide +kernel
theorem dX4_more_61 : decode cX4_more 61 = .ok (.getfield 10, 3) := by decide +kernel
theorem dX4_more_64 : decode cX4_more 64 = .ok (.getfield 93, 3) := by decide +kernel
theorem dX4_more_67 : decode cX4_more 67 = .ok (.iload_n 1, 1) := by decide +kernel
theorem dX4_more_68 : decode cX4_more 68 = .ok (.iaload, 1) := by decide +kernel
theorem dX4_more_69 : decode cX4_more 69 = .ok (.if_icmp .le 62, 3) := by decide +kernel
theorem dX4_more_72 : decode cX4_more 72 = .ok (.aload_n 0, 1) := by decide +kernel
theorem dX4_more_73 : decode cX4_more 73 = .ok (.getfield 16, 3) := by decide +kernel
theorem dX4_more_76 : decode cX4_more 76 = .ok (.getfield 93, 3) := by decide +kernel
theorem dX4_more_79 : decode cX4_more 79 = .ok (.iload_n 1, 1) := by decide +kernel
theorem dX4_more_80 : decode cX4_more 80 = .ok (.iload_n 3, 1) := by decide +kernel
theorem dX4_more_81 : decode cX4_more 81 = .ok (.iastore, 1) := by decide +kernel
theorem dX4_more_82 : decode cX4_more 82 = .ok (.aload_n 0, 1) := by decide +kernel
theorem dX4_more_83 : decode cX4_more 83 = .ok (.getfield 29, 3) := by decide +kernel
theorem dX4_more_86 : decode cX4_more 86 = .ok (.aload_n 0, 1) := by decide +kernel
theorem dX4_more_87 : decode cX4_more 87 = .ok (.getfield 16, 3) := by decide +kernel
theorem dX4_more_90 : decode cX4_more 90 = .ok (.aload_n 0, 1) := by decide +kernel
theorem dX4_more_91 : decode cX4_more 91 = .ok (.getfield 16, 3) := by decide +kernel
theorem dX4_more_94 : decode cX4_more 94 = .ok (.getfield 102, 3) := by decide +kernel
theorem dX4_more_97 : decode cX4_more 97 = .ok (.invokevirtual 129, 3) := by decide +kernel
theorem dX4_more_100 : decode cX4_more 100 = .ok (.aload_n 0, 1) := by decide +kernel
theorem dX4_more_101 : decode cX4_more 101 = .ok (.getfield 29, 3) := by decide +kernel
theorem dX4_more_104 : decode cX4_more 104 = .ok (.getfield 133, 3) := by decide +kernel
theorem dX4_more_107 : decode cX4_more 107 = .ok (.iconst 2, 1) := by decide +kernel
theorem dX4_more_108 : decode cX4_more 108 = .ok (.iaload, 1) := by decide +kernel
theorem dX4_more_109 : decode cX4_more 109 = .ok (.iload_n 2, 1) := by decide +kernel
theorem dX4_more_110 : decode cX4_more 110 = .ok (.if_icmp .gt 15, 3) := by decide +kernel
theorem dX4_more_113 : decode cX4_more 113 = .ok (.iload_n 3, 1) := by decide +kernel
theorem dX4_more_114 : decode cX4_more 114 = .ok (.aload_n 0, 1) := by decide +kernel
theorem dX4_more_115 : decode cX4_more 115 = .ok (.getfield 10, 3) := by decide +kernel
theorem dX4_more_118 : decode cX4_more 118 = .ok (.getfield 93, 3) := by decide +kernel
theorem dX4_more_121 : decode cX4_more 121 = .ok (.iload_n 1, 1) := by decide +kernel
theorem dX4_more_122 : decode cX4_more 122 = .ok (.iaload, 1) := by decide +kernel
theorem dX4_more_123 : decode cX4_more 123 = .ok (.isub, 1) := by decide +kernel
theorem dX4_more_124 : decode cX4_more 124 = .ok (.ireturn, 1) := by decide +kernel
theorem dX4_more_125 : decode cX4_more 125 = .ok (.iinc 3 (-1), 3) := by decide +kernel
theorem dX4_more_128 : decode cX4_more 128 = .ok (.goto (-69), 3) := by decide +kernel
theorem dX4_more_131 : decode cX4_more 131 = .ok (.iconst 0, 1) := by decide +kernel
theorem dX4_more_132 : decode cX4_more 132 = .ok (.ireturn, 1) := by decide +kernel
theorem dX4_squeak_0 : decode cX4_squeak 0 = .ok (.iload_n 1, 1) := by decide +kernel
theorem dX4_squeak_1 : decode cX4_squeak 1 = .ok (.ifCond .ge 10, 3) := by decide +kernel
theorem dX4_squeak_4 : decode cX4_squeak 4 = .ok (.aload_n 0, 1) := by decide +kernel
theorem dX4_squeak_5 : decode cX4_squeak 5 = .ok (.bipush (-4), 2) := by decide +kernel
theorem dX4_squeak_7 : decode cX4_squeak 7 = .ok (.invokevirtual 64, 3) := by decide +kernel
theorem dX4_squeak_10 : decode cX4_squeak 10 = .ok (.ireturn, 1) := by decide +kernel
theorem dX4_squeak_11 : decode cX4_squeak 11 = .ok (.iload_n 1, 1) := by decide +kernel
theorem dX4_squeak_12 : decode cX4_squeak 12 = .ok (.bipush 9, 2) := by decide +kernel
theorem dX4_squeak_14 : decode cX4_squeak 14 = .ok (.if_icmp .le 10, 3) := by decide +kernel
theorem dX4_squeak_17 : decode cX4_squeak 17 = .ok (.aload_n 0, 1) := by decide +kernel
theorem dX4_squeak_18 : decode cX4_squeak 18 = .ok (.bipush (-6), 2) := by decide +kernel
theorem dX4_squeak_20 : decode cX4_squeak 20 = .ok (.invokevirtual 64, 3) := by decide +kernel
theorem dX4_squeak_23 : decode cX4_squeak 23 = .ok (.ireturn, 1) := by decide +kernel
theorem dX4_squeak_24 : decode cX4_squeak 24 = .ok (.aload_n 0, 1) := by decide +kernel
theorem dX4_squeak_25 : decode cX4_squeak 25 = .ok (.getfield 29, 3) := by decide +kernel
theorem dX4_squeak_28 : decode cX4_squeak 28 = .ok (.aload_n 0, 1) := by decide +kernel
theorem dX4_squeak_29 : decode cX4_squeak 29 = .ok (.getfield 10, 3) := by decide +kernel
theorem dX4_squeak_32 : decode cX4_squeak 32 = .ok (.aload_n 0, 1) := by decide +kernel
theorem dX4_squeak_33 : decode cX4_squeak 33 = .ok (.getfield 10, 3) := by decide +kernel
theorem dX4_squeak_36 : decode cX4_squeak 36 = .ok (.getfield 102, 3) := by decide +kernel
theorem dX4_squeak_39 : decode cX4_squeak 39 = .ok (.invokevirtual 129, 3) := by decide +kernel
theorem dX4_squeak_42 : decode cX4_squeak 42 = .ok (.iconst 0, 1) := by decide +kernel
theorem dX4_squeak_43 : decode cX4_squeak 43 = .ok (.istore_n 2, 1) := by decide +kernel
theorem dX4_squeak_44 : decode cX4_squeak 44 = .ok (.iconst 0, 1) := by decide +kernel
theorem dX4_squeak_45 : decode cX4_squeak 45 = .ok (.istore_n 3, 1) := by decide +kernel
theorem dX4_squeak_46 : decode cX4_squeak 46 = .ok (.iload_n 3, 1) := by decide +kernel
theorem dX4_squeak_47 : decode cX4_squeak 47 = .ok (.aload_n 0, 1) := by decide +kernel
theorem dX4_squeak_48 : decode cX4_squeak 48 = .ok (.getfield 10, 3) := by decide +kernel
theorem dX4_squeak_51 : decode cX4_squeak 51 = .ok (.getfield 154, 3) := by decide +kernel
theorem dX4_squeak_54 : decode cX4_squeak 54 = .ok (.if_icmp .ge 42, 3) := by decide +kernel
theorem dX4_squeak_57 : decode cX4_squeak 57 = .ok (.aload_n 0, 1) := by decide +kernel
theorem dX4_squeak_58 : decode cX4_squeak 58 = .ok (.getfield 10, 3) := by decide +kernel
theorem dX4_squeak_61 : decode cX4_squeak 61 = .ok (.getfield 90, 3) := by decide +kernel
theorem dX4_squeak_64 : decode cX4_squeak 64 = .ok (.aload_n 0, 1) := by decide +kernel
theorem dX4_squeak_65 : decode cX4_squeak 65 = .ok (.getfield 10, 3) := by decide +kernel
theorem dX4_squeak_68 : decode cX4_squeak 68 = .ok (.getfield 102, 3) := by decide +kernel
theorem dX4_squeak_71 : decode cX4_squeak 71 = .ok (.iload_n 3, 1) := by decide +kernel
theorem dX4_squeak_72 : decode cX4_squeak 72 = .ok (.iaload, 1) := by decide +kernel
theorem dX4_squeak_73 : decode cX4_squeak 73 = .ok (.iaload, 1) := by decide +kernel
theorem dX4_squeak_74 : decode cX4_squeak 74 = .ok (.iload_n 1, 1) := by decide +kernel
theorem dX4_squeak_75 : decode cX4_squeak 75 = .ok (.if_icmp .gt 15, 3) := by decide +kernel
theorem dX4_squeak_78 : decode cX4_squeak 78 = .ok (.iload_n 2, 1) := by decide +kernel
theorem dX4_squeak_79 : decode cX4_squeak 79 = .ok (.aload_n 0, 1) := by decide +kernel
theorem dX4_squeak_80 : decode cX4_squeak 80 = .ok (.getfield 29, 3) := by decide +kernel
theorem dX4_squeak_83 : decode cX4_squeak 83 = .ok (.getfield 180, 3) := by decide +kernel
theorem dX4_squeak_86 : decode cX4_squeak 86 = .ok (.iload_n 3, 1) := by decide +kernel
theorem dX4_squeak_87 : decode cX4_squeak 87 = .ok (.iaload, 1) := by decide +kernel
theorem dX4_squeak_88 : decode cX4_squeak 88 = .ok (.iadd, 1) := by decide +kernel
theorem dX4_squeak_89 : decode cX4_squeak 89 = .ok (.istore_n 2, 1) := by decide +kernel
theorem dX4_squeak_90 : decode cX4_squeak 90 = .ok (.iinc 3 1, 3) := by decide +kernel
theorem dX4_squeak_93 : decode cX4_squeak 93 = .ok (.goto (-47), 3) := by decide +kernel
theorem dX4_squeak_96 : decode cX4_squeak 96 = .ok (.iload_n 2, 1) := by decide +kernel
theorem dX4_squeak_97 : decode cX4_squeak 97 = .ok (.ireturn, 1) := by decide +kernel
theorem dX4_row_0 : decode cX4_row 0 = .ok (.iload_n 1, 1) := by decide +kernel
theorem dX4_row_1 : decode cX4_row 1 = .ok (.ifCond .ge 10, 3) := by decide +kernel
theorem dX4_row_4 : decode cX4_row 4 = .ok (.aload_n 0, 1) := by decide +kernel
theorem dX4_row_5 : decode cX4_row 5 = .ok (.bipush (-4), 2) := by decide +kernel
theorem dX4_row_7 : decode cX4_row 7 = .ok (.invokevirtual 64, 3) := by decide +kernel
theorem dX4_row_10 : decode cX4_row 10 = .ok (.ireturn, 1) := by decide +kernel
theorem dX4_row_11 : decode cX4_row 11 = .ok (.iload_n 1, 1) := by decide +kernel
theorem dX4_row_12 : decode cX4_row 12 = .ok (.bipush 99, 2) := by decide +kernel
theorem dX4_row_14 : decode cX4_row 14 = .ok (.if_icmp .gt 12, 3) := by decide +kernel
theorem dX4_row_17 : decode cX4_row 17 = .ok (.aload_n 0, 1) := by decide +kernel
theorem dX4_row_18 : decode cX4_row 18 = .ok (.getfield 57, 3) := by decide +kernel
theorem dX4_row_21 : decode cX4_row 21 = .ok (.bipush 12, 2) := by decide +kernel
theorem dX4_row_23 : decode cX4_row 23 = .ok (.if_icmp .lt 10, 3) := by decide +kernel
theorem dX4_row_26 : decode cX4_row 26 = .ok (.aload_n 0, 1) := by decide +kernel
theorem dX4_row_27 : decode cX4_row 27 = .ok (.bipush (-6), 2) := by decide +kernel
theorem dX4_row_29 : decode cX4_row 29 = .ok (.invokevirtual 64, 3) := by decide +kernel
theorem dX4_row_32 : decode cX4_row 32 = .ok (.ireturn, 1) := by decide +kernel
theorem dX4_row_33 : decode cX4_row 33 = .ok (.aload_n 0, 1) := by decide +kernel
theorem dX4_row_34 : decode cX4_row 34 = .ok (.getfield 54, 3) := by decide +kernel
theorem dX4_row_37 : decode cX4_row 37 = .ok (.aload_n 0, 1) := by decide +kernel
theorem dX4_row_38 : decode cX4_row 38 = .ok (.getfield 57, 3) := by decide +kernel
theorem dX4_row_41 : decode cX4_row 41 = .ok (.iload_n 1, 1) := by decide +kernel
theorem dX4_row_42 : decode cX4_row 42 = .ok (.iastore, 1) := by decide +kernel
theorem dX4_row_43 : decode cX4_row 43 = .ok (.aload_n 0, 1) := by decide +kernel
theorem dX4_row_44 : decode cX4_row 44 = .ok (.dup, 1) := by decide +kernel
theorem dX4_row_45 : decode cX4_row 45 = .ok (.getfield 57, 3) := by decide +kernel
theorem dX4_row_48 : decode cX4_row 48 = .ok (.iconst 1, 1) := by decide +kernel
theorem dX4_row_49 : decode cX4_row 49 = .ok (.iadd, 1) := by decide +kernel
theorem dX4_row_50 : decode cX4_row 50 = .ok (.putfield 57, 3) := by decide +kernel
theorem dX4_row_53 : decode cX4_row 53 = .ok (.aload_n 0, 1) := by decide +kernel
theorem dX4_row_54 : decode cX4_row 54 = .ok (.getfield 57, 3) := by decide +kernel
theorem dX4_row_57 : decode cX4_row 57 = .ok (.ireturn, 1) := by decide +kernel
theorem dX4_fits_0 : decode cX4_fits 0 = .ok (.iload_n 1, 1) := by decide +kernel
theorem dX4_fits_1 : decode cX4_fits 1 = .ok (.iconst (-1), 1) := by decide +kernel
theorem dX4_fits_2 : decode cX4_fits 2 = .ok (.if_icmp .ge 10, 3) := by decide +kernel
theorem dX4_fits_5 : decode cX4_fits 5 = .ok (.aload_n 0, 1) := by decide +kernel
theorem dX4_fits_6 : decode cX4_fits 6 = .ok (.bipush (-4), 2) := by decide +kernel
theorem dX4_fits_8 : decode cX4_fits 8 = .ok (.invokevirtual 64, 3) := by decide +kernel
theorem dX4_fits_11 : decode cX4_fits 11 = .ok (.ireturn, 1) := by decide +kernel
theorem dX4_fits_12 : decode cX4_fits 12 = .ok (.iload_n 1, 1) := by decide +kernel
theorem dX4_fits_13 : decode cX4_fits 13 = .ok (.iconst (-1), 1) := by decide +kernel
theorem dX4_fits_14 : decode cX4_fits 14 = .ok (.if_icmp .eq 20, 3) := by decide +kernel
theorem dX4_fits_17 : decode cX4_fits 17 = .ok (.aload_n 0, 1) := by decide +kernel
theorem dX4_fits_18 : decode cX4_fits 18 = .ok (.getfield 10, 3) := by decide +kernel
theorem dX4_fits_21 : decode cX4_fits 21 = .ok (.iload_n 1, 1) := by decide +kernel
theorem dX4_fits_22 : decode cX4_fits 22 = .ok (.invokevirtual 83, 3) := by decide +kernel
theorem dX4_fits_25 : decode cX4_fits 25 = .ok (.ifCond .ne 9, 3) := by decide +kernel
theorem dX4_fits_28 : decode cX4_fits 28 = .ok (.aload_n 0, 1) := by decide +kernel
theorem dX4_fits_29 : decode cX4_fits 29 = .ok (.iconst (-1), 1) := by decide +kernel
theorem dX4_fits_30 : decode cX4_fits 30 = .ok (.invokevirtual 64, 3) := by decide +kernel
theorem dX4_fits_33 : decode cX4_fits 33 = .ok (.ireturn, 1) := by decide +kernel
theorem dX4_fits_34 : decode cX4_fits 34 = .ok (.aload_n 0, 1) := by decide +kernel
theorem dX4_fits_35 : decode cX4_fits 35 = .ok (.invokevirtual 183, 3) := by decide +kernel
theorem dX4_fits_38 : decode cX4_fits 38 = .ok (.istore_n 2, 1) := by decide +kernel
theorem dX4_fits_39 : decode cX4_fits 39 = .ok (.iload_n 1, 1) := by decide +kernel
theorem dX4_fits_40 : decode cX4_fits 40 = .ok (.iconst (-1), 1) := by decide +kernel
theorem dX4_fits_41 : decode cX4_fits 41 = .ok (.if_icmp .ne 5, 3) := by decide +kernel
theorem dX4_fits_44 : decode cX4_fits 44 = .ok (.iload_n 2, 1) := by decide +kernel
theorem dX4_fits_45 : decode cX4_fits 45 = .ok (.ireturn, 1) := by decide +kernel
theorem dX4_fits_46 : decode cX4_fits 46 = .ok (.iload_n 2, 1) := by decide +kernel
theorem dX4_fits_47 : decode cX4_fits 47 = .ok (.ifCond .ne 8, 3) := by decide +kernel
theorem dX4_fits_50 : decode cX4_fits 50 = .ok (.bipush (-9), 2) := by decide +kernel
theorem dX4_fits_52 : decode cX4_fits 52 = .ok (.goto 9, 3) := by decide +kernel
theorem dX4_fits_55 : decode cX4_fits 55 = .ok (.aload_n 0, 1) := by decide +kernel
theorem dX4_fits_56 : decode cX4_fits 56 = .ok (.getfield 40, 3) := by decide +kernel
theorem dX4_fits_59 : decode cX4_fits 59 = .ok (.iload_n 1, 1) := by decide +kernel
theorem dX4_fits_60 : decode cX4_fits 60 = .ok (.iaload, 1) := by decide +kernel
theorem dX4_fits_61 : decode cX4_fits 61 = .ok (.ireturn, 1) := by decide +kernel
theorem dX4_judge_0 : decode cX4_judge 0 = .ok (.aload_n 0, 1) := by decide +kernel
theorem dX4_judge_1 : decode cX4_judge 1 = .ok (.getfield 29, 3) := by decide +kernel
theorem dX4_judge_4 : decode cX4_judge 4 = .ok (.aload_n 0, 1) := by decide +kernel
theorem dX4_judge_5 : decode cX4_judge 5 = .ok (.getfield 10, 3) := by decide +kernel
theorem dX4_judge_8 : decode cX4_judge 8 = .ok (.aload_n 0, 1) := by decide +kernel
theorem dX4_judge_9 : decode cX4_judge 9 = .ok (.getfield 10, 3) := by decide +kernel
theorem dX4_judge_12 : decode cX4_judge 12 = .ok (.getfield 102, 3) := by decide +kernel
theorem dX4_judge_15 : decode cX4_judge 15 = .ok (.invokevirtual 129, 3) := by decide +kernel
theorem dX4_judge_18 : decode cX4_judge 18 = .ok (.aload_n 0, 1) := by decide +kernel
theorem dX4_judge_19 : decode cX4_judge 19 = .ok (.invokevirtual 186, 3) := by decide +kernel
theorem dX4_judge_22 : decode cX4_judge 22 = .ok (.istore_n 1, 1) := by decide +kernel
theorem dX4_judge_23 : decode cX4_judge 23 = .ok (.aload_n 0, 1) := by decide +kernel
theorem dX4_judge_24 : decode cX4_judge 24 = .ok (.iconst 0, 1) := by decide +kernel
theorem dX4_judge_25 : decode cX4_judge 25 = .ok (.putfield 57, 3) := by decide +kernel
theorem dX4_judge_28 : decode cX4_judge 28 = .ok (.iload_n 1, 1) := by decide +kernel
theorem dX4_judge_29 : decode cX4_judge 29 = .ok (.ireturn, 1) := by decide +kernel
theorem dX4_lots_0 : decode cX4_lots 0 = .ok (.iload_n 1, 1) := by decide +kernel
theorem dX4_lots_1 : decode cX4_lots 1 = .ok (.iconst 1, 1) := by decide +kernel
theorem dX4_lots_2 : decode cX4_lots 2 = .ok (.if_icmp .ge 10, 3) := by decide +kernel
theorem dX4_lots_5 : decode cX4_lots 5 = .ok (.aload_n 0, 1) := by decide +kernel
theorem dX4_lots_6 : decode cX4_lots 6 = .ok (.bipush (-4), 2) := by decide +kernel
theorem dX4_lots_8 : decode cX4_lots 8 = .ok (.invokevirtual 64, 3) := by decide +kernel
theorem dX4_lots_11 : decode cX4_lots 11 = .ok (.ireturn, 1) := by decide +kernel
theorem dX4_lots_12 : decode cX4_lots 12 = .ok (.iload_n 1, 1) := by decide +kernel
theorem dX4_lots_13 : decode cX4_lots 13 = .ok (.bipush 20, 2) := by decide +kernel
theorem dX4_lots_15 : decode cX4_lots 15 = .ok (.if_icmp .le 10, 3) := by decide +kernel
theorem dX4_lots_18 : decode cX4_lots 18 = .ok (.aload_n 0, 1) := by decide +kernel
theorem dX4_lots_19 : decode cX4_lots 19 = .ok (.bipush (-6), 2) := by decide +kernel
theorem dX4_lots_21 : decode cX4_lots 21 = .ok (.invokevirtual 64, 3) := by decide +kernel
theorem dX4_lots_24 : decode cX4_lots 24 = .ok (.ireturn, 1) := by decide +kernel
theorem dX4_lots_25 : decode cX4_lots 25 = .ok (.aload_n 0, 1) := by decide +kernel
theorem dX4_lots_26 : decode cX4_lots 26 = .ok (.getfield 16, 3) := by decide +kernel
theorem dX4_lots_29 : decode cX4_lots 29 = .ok (.aload_n 0, 1) := by decide +kernel
theorem dX4_lots_30 : decode cX4_lots 30 = .ok (.getfield 10, 3) := by decide +kernel
theorem dX4_lots_33 : decode cX4_lots 33 = .ok (.invokevirtual 75, 3) := by decide +kernel
theorem dX4_lots_36 : decode cX4_lots 36 = .ok (.iload_n 2, 1) := by decide +kernel
theorem dX4_lots_37 : decode cX4_lots 37 = .ok (.istore_n 3, 1) := by decide +kernel
theorem dX4_lots_38 : decode cX4_lots 38 = .ok (.iconst 0, 1) := by decide +kernel
theorem dX4_lots_39 : decode cX4_lots 39 = .ok (.istore 4, 2) := by decide +kernel
theorem dX4_lots_41 : decode cX4_lots 41 = .ok (.iconst 0, 1) := by decide +kernel
theorem dX4_lots_42 : decode cX4_lots 42 = .ok (.istore 5, 2) := by decide +kernel
theorem dX4_lots_44 : decode cX4_lots 44 = .ok (.iload 5, 2) := by decide +kernel
theorem dX4_lots_46 : decode cX4_lots 46 = .ok (.iload_n 1, 1) := by decide +kernel
theorem dX4_lots_47 : decode cX4_lots 47 = .ok (.if_icmp .ge 94, 3) := by decide +kernel
theorem dX4_lots_50 : decode cX4_lots 50 = .ok (.iconst 0, 1) := by decide +kernel
theorem dX4_lots_51 : decode cX4_lots 51 = .ok (.istore 6, 2) := by decide +kernel
theorem dX4_lots_53 : decode cX4_lots 53 = .ok (.iload 6, 2) := by decide +kernel
theorem dX4_lots_55 : decode cX4_lots 55 = .ok (.aload_n 0, 1) := by decide +kernel
theorem dX4_lots_56 : decode cX4_lots 56 = .ok (.getfield 16, 3) := by decide +kernel
theorem dX4_lots_59 : decode cX4_lots 59 = .ok (.getfield 154, 3) := by decide +kernel
theorem dX4_lots_62 : decode cX4_lots 62 = .ok (.if_icmp .ge 40, 3) := by decide +kernel
theorem dX4_lots_65 : decode cX4_lots 65 = .ok (.iload_n 3, 1) := by decide +kernel
theorem dX4_lots_66 : decode cX4_lots 66 = .ok (.ldc 189, 2) := by decide +kernel
theorem dX4_lots_68 : decode cX4_lots 68 = .ok (.imul, 1) := by decide +kernel
theorem dX4_lots_69 : decode cX4_lots 69 = .ok (.ldc 190, 2) := by decide +kernel
theorem dX4_lots_71 : decode cX4_lots 71 = .ok (.iadd, 1) := by decide +kernel
theorem dX4_lots_72 : decode cX4_lots 72 = .ok (.istore_n 3, 1) := by decide +kernel
theorem dX4_lots_73 : decode cX4_lots 73 = .ok (.aload_n 0, 1) := by decide +kernel
theorem dX4_lots_74 : decode cX4_lots 74 = .ok (.getfield 16, 3) := by decide +kernel
theorem dX4_lots_77 : decode cX4_lots 77 = .ok (.getfield 93, 3) := by decide +kernel
theorem dX4_lots_80 : decode cX4_lots 80 = .ok (.iload 6, 2) := by decide +kernel
theorem dX4_lots_82 : decode cX4_lots 82 = .ok (.iload_n 3, 1) := by decide +kernel
theorem dX4_lots_83 : decode cX4_lots 83 = .ok (.ldc 191, 2) := by decide +kernel
theorem dX4_lots_85 : decode cX4_lots 85 = .ok (.iand, 1) := by decide +kernel
theorem dX4_lots_86 : decode cX4_lots 86 = .ok (.sipush 256, 3) := by decide +kernel
theorem dX4_lots_89 : decode cX4_lots 89 = .ok (.idiv, 1) := by decide +kernel
theorem dX4_lots_90 : decode cX4_lots 90 = .ok (.bipush 20, 2) := by decide +kernel
theorem dX4_lots_92 : decode cX4_lots 92 = .ok (.irem, 1) := by decide +kernel
theorem dX4_lots_93 : decode cX4_lots 93 = .ok (.iconst 1, 1) := by decide +kernel
theorem dX4_lots_94 : decode cX4_lots 94 = .ok (.iadd, 1) := by decide +kernel
theorem dX4_lots_95 : decode cX4_lots 95 = .ok (.iastore, 1) := by decide +kernel
theorem dX4_lots_96 : decode cX4_lots 96 = .ok (.iinc 6 1, 3) := by decide +kernel
theorem dX4_lots_99 : decode cX4_lots 99 = .ok (.goto (-46), 3) := by decide +kernel
theorem dX4_lots_102 : decode cX4_lots 102 = .ok (.aload_n 0, 1) := by decide +kernel
theorem dX4_lots_103 : decode cX4_lots 103 = .ok (.getfield 29, 3) := by decide +kernel
theorem dX4_lots_106 : decode cX4_lots 106 = .ok (.aload_n 0, 1) := by decide +kernel
theorem dX4_lots_107 : decode cX4_lots 107 = .ok (.getfield 16, 3) := by decide +kernel
theorem dX4_lots_110 : decode cX4_lots 110 = .ok (.aload_n 0, 1) := by decide +kernel
theorem dX4_lots_111 : decode cX4_lots 111 = .ok (.getfield 16, 3) := by decide +kernel
theorem dX4_lots_114 : decode cX4_lots 114 = .ok (.getfield 102, 3) := by decide +kernel
theorem dX4_lots_117 : decode cX4_lots 117 = .ok (.invokevirtual 129, 3) := by decide +kernel
theorem dX4_lots_120 : decode cX4_lots 120 = .ok (.iload 4, 2) := by decide +kernel
theorem dX4_lots_122 : decode cX4_lots 122 = .ok (.aload_n 0, 1) := by decide +kernel
theorem dX4_lots_123 : decode cX4_lots 123 = .ok (.getfield 29, 3) := by decide +kernel
theorem dX4_lots_126 : decode cX4_lots 126 = .ok (.getfield 133, 3) := by decide +kernel
theorem dX4_lots_129 : decode cX4_lots 129 = .ok (.bipush 7, 2) := by decide +kernel
theorem dX4_lots_131 : decode cX4_lots 131 = .ok (.iaload, 1) := by decide +kernel
theorem dX4_lots_132 : decode cX4_lots 132 = .ok (.iadd, 1) := by decide +kernel
theorem dX4_lots_133 : decode cX4_lots 133 = .ok (.istore 4, 2) := by decide +kernel
theorem dX4_lots_135 : decode cX4_lots 135 = .ok (.iinc 5 1, 3) := by decide +kernel
theorem dX4_lots_138 : decode cX4_lots 138 = .ok (.goto (-94), 3) := by decide +kernel
theorem dX4_lots_141 : decode cX4_lots 141 = .ok (.iload 4, 2) := by decide +kernel
theorem dX4_lots_143 : decode cX4_lots 143 = .ok (.ireturn, 1) := by decide +kernel
theorem dX4_image_0 : decode cX4_image 0 = .ok (.aload_n 0, 1) := by decide +kernel
theorem dX4_image_1 : decode cX4_image 1 = .ok (.getfield 19, 3) := by decide +kernel
theorem dX4_image_4 : decode cX4_image 4 = .ok (.aload_n 0, 1) := by decide +kernel
theorem dX4_image_5 : decode cX4_image 5 = .ok (.getfield 10, 3) := by decide +kernel
theorem dX4_image_8 : decode cX4_image 8 = .ok (.invokevirtual 75, 3) := by decide +kernel
theorem dX4_image_11 : decode cX4_image 11 = .ok (.aload_n 0, 1) := by decide +kernel
theorem dX4_image_12 : decode cX4_image 12 = .ok (.iconst 1, 1) := by decide +kernel
theorem dX4_image_13 : decode cX4_image 13 = .ok (.putfield 22, 3) := by decide +kernel
theorem dX4_image_16 : decode cX4_image 16 = .ok (.aload_n 0, 1) := by decide +kernel
theorem dX4_image_17 : decode cX4_image 17 = .ok (.getfield 10, 3) := by decide +kernel
theorem dX4_image_20 : decode cX4_image 20 = .ok (.getfield 154, 3) := by decide +kernel
theorem dX4_image_23 : decode cX4_image 23 = .ok (.ireturn, 1) := by decide +kernel
theorem dX4_on_0 : decode cX4_on 0 = .ok (.aload_n 0, 1) := by decide +kernel
theorem dX4_on_1 : decode cX4_on 1 = .ok (.getfield 22, 3) := by decide +kernel
theorem dX4_on_4 : decode cX4_on 4 = .ok (.ifCond .ne 10, 3) := by decide +kernel
theorem dX4_on_7 : decode cX4_on 7 = .ok (.aload_n 0, 1) := by decide +kernel
theorem dX4_on_8 : decode cX4_on 8 = .ok (.bipush (-3), 2) := by decide +kernel
theorem dX4_on_10 : decode cX4_on 10 = .ok (.invokevirtual 64, 3) := by decide +kernel
theorem dX4_on_13 : decode cX4_on 13 = .ok (.ireturn, 1) := by decide +kernel
theorem dX4_on_14 : decode cX4_on 14 = .ok (.aload_n 0, 1) := by decide +kernel
theorem dX4_on_15 : decode cX4_on 15 = .ok (.getfield 10, 3) := by decide +kernel
theorem dX4_on_18 : decode cX4_on 18 = .ok (.aload_n 0, 1) := by decide +kernel
theorem dX4_on_19 : decode cX4_on 19 = .ok (.getfield 19, 3) := by decide +kernel
theorem dX4_on_22 : decode cX4_on 22 = .ok (.invokevirtual 75, 3) := by decide +kernel
theorem dX4_on_25 : decode cX4_on 25 = .ok (.aload_n 0, 1) := by decide +kernel
theorem dX4_on_26 : decode cX4_on 26 = .ok (.getfield 10, 3) := by decide +kernel
theorem dX4_on_29 : decode cX4_on 29 = .ok (.getfield 154, 3) := by decide +kernel
theorem dX4_on_32 : decode cX4_on 32 = .ok (.ireturn, 1) := by decide +kernel
theorem dX4_count_0 : decode cX4_count 0 = .ok (.iload_n 1, 1) := by decide +kernel
theorem dX4_count_1 : decode cX4_count 1 = .ok (.bipush 11, 2) := by decide +kernel
theorem dX4_count_3 : decode cX4_count 3 = .ok (.if_icmp .lt 19, 3) := by decide +kernel
theorem dX4_count_6 : decode cX4_count 6 = .ok (.iload_n 1, 1) := by decide +kernel
theorem dX4_count_7 : decode cX4_count 7 = .ok (.bipush 16, 2) := by decide +kernel
theorem dX4_count_9 : decode cX4_count 9 = .ok (.if_icmp .gt 13, 3) := by decide +kernel
theorem dX4_count_12 : decode cX4_count 12 = .ok (.aload_n 0, 1) := by decide +kernel
theorem dX4_count_13 : decode cX4_count 13 = .ok (.getfield 61, 3) := by decide +kernel
theorem dX4_count_16 : decode cX4_count 16 = .ok (.iload_n 1, 1) := by decide +kernel
theorem dX4_count_17 : decode cX4_count 17 = .ok (.bipush 10, 2) := by decide +kernel
theorem dX4_count_19 : decode cX4_count 19 = .ok (.isub, 1) := by decide +kernel
theorem dX4_count_20 : decode cX4_count 20 = .ok (.iaload, 1) := by decide +kernel
theorem dX4_count_21 : decode cX4_count 21 = .ok (.ireturn, 1) := by decide +kernel
theorem dX4_count_22 : decode cX4_count 22 = .ok (.iload_n 1, 1) := by decide +kernel
theorem dX4_count_23 : decode cX4_count 23 = .ok (.tableswitch 164 0 9 #[53, 61, 69, 99, 109, 119, 129, 140, 151, 156], 53) := by decide +kernel
theorem dX4_count_76 : decode cX4_count 76 = .ok (.aload_n 0, 1) := by decide +kernel
theorem dX4_count_77 : decode cX4_count 77 = .ok (.getfield 10, 3) := by decide +kernel
theorem dX4_count_80 : decode cX4_count 80 = .ok (.getfield 154, 3) := by decide +kernel
theorem dX4_count_83 : decode cX4_count 83 = .ok (.ireturn, 1) := by decide +kernel
theorem dX4_count_84 : decode cX4_count 84 = .ok (.aload_n 0, 1) := by decide +kernel
theorem dX4_count_85 : decode cX4_count 85 = .ok (.getfield 10, 3) := by decide +kernel
theorem dX4_count_88 : decode cX4_count 88 = .ok (.invokevirtual 192, 3) := by decide +kernel
theorem dX4_count_91 : decode cX4_count 91 = .ok (.ireturn, 1) := by decide +kernel
theorem dX4_count_92 : decode cX4_count 92 = .ok (.aload_n 0, 1) := by decide +kernel
theorem dX4_count_93 : decode cX4_count 93 = .ok (.getfield 10, 3) := by decide +kernel
theorem dX4_count_96 : decode cX4_count 96 = .ok (.getfield 116, 3) := by decide +kernel
theorem dX4_count_99 : decode cX4_count 99 = .ok (.iconst 2, 1) := by decide +kernel
theorem dX4_count_100 : decode cX4_count 100 = .ok (.iaload, 1) := by decide +kernel
theorem dX4_count_101 : decode cX4_count 101 = .ok (.aload_n 0, 1) := by decide +kernel
theorem dX4_count_102 : decode cX4_count 102 = .ok (.getfield 10, 3) := by decide +kernel
theorem dX4_count_105 : decode cX4_count 105 = .ok (.getfield 116, 3) := by decide +kernel
theorem dX4_count_108 : decode cX4_count 108 = .ok (.iconst 3, 1) := by decide +kernel
theorem dX4_count_109 : decode cX4_count 109 = .ok (.iaload, 1) := by decide +kernel
theorem dX4_count_110 : decode cX4_count 110 = .ok (.iadd, 1) := by decide +kernel
theorem dX4_count_111 : decode cX4_count 111 = .ok (.aload_n 0, 1) := by decide +kernel
theorem dX4_count_112 : decode cX4_count 112 = .ok (.getfield 10, 3) := by decide +kernel
theorem dX4_count_115 : decode cX4_count 115 = .ok (.getfield 116, 3) := by decide +kernel
theorem dX4_count_118 : decode cX4_count 118 = .ok (.iconst 4, 1) := by decide +kernel
theorem dX4_count_119 : decode cX4_count 119 = .ok (.iaload, 1) := by decide +kernel
theorem dX4_count_120 : decode cX4_count 120 = .ok (.iadd, 1) := by decide +kernel
theorem dX4_count_121 : decode cX4_count 121 = .ok (.ireturn, 1) := by decide +kernel
theorem dX4_count_122 : decode cX4_count 122 = .ok (.aload_n 0, 1) := by decide +kernel
theorem dX4_count_123 : decode cX4_count 123 = .ok (.getfield 10, 3) := by decide +kernel
theorem dX4_count_126 : decode cX4_count 126 = .ok (.getfield 116, 3) := by decide +kernel
theorem dX4_count_129 : decode cX4_count 129 = .ok (.iconst 0, 1) := by decide +kernel
theorem dX4_count_130 : decode cX4_count 130 = .ok (.iaload, 1) := by decide +kernel
theorem dX4_count_131 : decode cX4_count 131 = .ok (.ireturn, 1) := by decide +kernel
theorem dX4_count_132 : decode cX4_count 132 = .ok (.aload_n 0, 1) := by decide +kernel
theorem dX4_count_133 : decode cX4_count 133 = .ok (.getfield 10, 3) := by decide +kernel
theorem dX4_count_136 : decode cX4_count 136 = .ok (.getfield 116, 3) := by decide +kernel
theorem dX4_count_139 : decode cX4_count 139 = .ok (.iconst 1, 1) := by decide +kernel
theorem dX4_count_140 : decode cX4_count 140 = .ok (.iaload, 1) := by decide +kernel
theorem dX4_count_141 : decode cX4_count 141 = .ok (.ireturn, 1) := by decide +kernel
theorem dX4_count_142 : decode cX4_count 142 = .ok (.aload_n 0, 1) := by decide +kernel
theorem dX4_count_143 : decode cX4_count 143 = .ok (.getfield 10, 3) := by decide +kernel
theorem dX4_count_146 : decode cX4_count 146 = .ok (.getfield 116, 3) := by decide +kernel
theorem dX4_count_149 : decode cX4_count 149 = .ok (.iconst 5, 1) := by decide +kernel
theorem dX4_count_150 : decode cX4_count 150 = .ok (.iaload, 1) := by decide +kernel
theorem dX4_count_151 : decode cX4_count 151 = .ok (.ireturn, 1) := by decide +kernel
theorem dX4_count_152 : decode cX4_count 152 = .ok (.aload_n 0, 1) := by decide +kernel
theorem dX4_count_153 : decode cX4_count 153 = .ok (.getfield 10, 3) := by decide +kernel
theorem dX4_count_156 : decode cX4_count 156 = .ok (.getfield 116, 3) := by decide +kernel
theorem dX4_count_159 : decode cX4_count 159 = .ok (.bipush 6, 2) := by decide +kernel
theorem dX4_count_161 : decode cX4_count 161 = .ok (.iaload, 1) := by decide +kernel
theorem dX4_count_162 : decode cX4_count 162 = .ok (.ireturn, 1) := by decide +kernel
theorem dX4_count_163 : decode cX4_count 163 = .ok (.aload_n 0, 1) := by decide +kernel
theorem dX4_count_164 : decode cX4_count 164 = .ok (.getfield 10, 3) := by decide +kernel
theorem dX4_count_167 : decode cX4_count 167 = .ok (.getfield 116, 3) := by decide +kernel
theorem dX4_count_170 : decode cX4_count 170 = .ok (.bipush 8, 2) := by decide +kernel
theorem dX4_count_172 : decode cX4_count 172 = .ok (.iaload, 1) := by decide +kernel
theorem dX4_count_173 : decode cX4_count 173 = .ok (.ireturn, 1) := by decide +kernel
theorem dX4_count_174 : decode cX4_count 174 = .ok (.aload_n 0, 1) := by decide +kernel
theorem dX4_count_175 : decode cX4_count 175 = .ok (.getfield 57, 3) := by decide +kernel
theorem dX4_count_178 : decode cX4_count 178 = .ok (.ireturn, 1) := by decide +kernel
theorem dX4_count_179 : decode cX4_count 179 = .ok (.aload_n 0, 1) := by decide +kernel
theorem dX4_count_180 : decode cX4_count 180 = .ok (.getfield 50, 3) := by decide +kernel
theorem dX4_count_183 : decode cX4_count 183 = .ok (.getfield 68, 3) := by decide +kernel
theorem dX4_count_186 : decode cX4_count 186 = .ok (.ireturn, 1) := by decide +kernel
theorem dX4_count_187 : decode cX4_count 187 = .ok (.bipush (-9), 2) := by decide +kernel
theorem dX4_count_189 : decode cX4_count 189 = .ok (.ireturn, 1) := by decide +kernel
theorem dX4_refuse_0 : decode cX4_refuse 0 = .ok (.aload_n 0, 1) := by decide +kernel
theorem dX4_refuse_1 : decode cX4_refuse 1 = .ok (.getfield 61, 3) := by decide +kernel
theorem dX4_refuse_4 : decode cX4_refuse 4 = .ok (.iload_n 1, 1) := by decide +kernel
theorem dX4_refuse_5 : decode cX4_refuse 5 = .ok (.ineg, 1) := by decide +kernel
theorem dX4_refuse_6 : decode cX4_refuse 6 = .ok (.dup2, 1) := by decide +kernel
theorem dX4_refuse_7 : decode cX4_refuse 7 = .ok (.iaload, 1) := by decide +kernel
theorem dX4_refuse_8 : decode cX4_refuse 8 = .ok (.iconst 1, 1) := by decide +kernel
theorem dX4_refuse_9 : decode cX4_refuse 9 = .ok (.iadd, 1) := by decide +kernel
theorem dX4_refuse_10 : decode cX4_refuse 10 = .ok (.iastore, 1) := by decide +kernel
theorem dX4_refuse_11 : decode cX4_refuse 11 = .ok (.iload_n 1, 1) := by decide +kernel
theorem dX4_refuse_12 : decode cX4_refuse 12 = .ok (.ireturn, 1) := by decide +kernel
theorem dX4_isTotal_0 : decode cX4_isTotal 0 = .ok (.iload_n 0, 1) := by decide +kernel
theorem dX4_isTotal_1 : decode cX4_isTotal 1 = .ok (.ifCond .lt 13, 3) := by decide +kernel
theorem dX4_isTotal_4 : decode cX4_isTotal 4 = .ok (.iload_n 0, 1) := by decide +kernel
theorem dX4_isTotal_5 : decode cX4_isTotal 5 = .ok (.bipush 8, 2) := by decide +kernel
theorem dX4_isTotal_7 : decode cX4_isTotal 7 = .ok (.if_icmp .ge 7, 3) := by decide +kernel
theorem dX4_isTotal_10 : decode cX4_isTotal 10 = .ok (.iconst 1, 1) := by decide +kernel
theorem dX4_isTotal_11 : decode cX4_isTotal 11 = .ok (.goto 4, 3) := by decide +kernel
theorem dX4_isTotal_14 : decode cX4_isTotal 14 = .ok (.iconst 0, 1) := by decide +kernel
theorem dX4_isTotal_15 : decode cX4_isTotal 15 = .ok (.ireturn, 1) := by decide +kernel
theorem dX4_findBest_0 : decode cX4_findBest 0 = .ok (.iload_n 1, 1) := by decide +kernel
theorem dX4_findBest_1 : decode cX4_findBest 1 = .ok (.iconst 1, 1) := by decide +kernel
theorem dX4_findBest_2 : decode cX4_findBest 2 = .ok (.if_icmp .eq 8, 3) := by decide +kernel
theorem dX4_findBest_5 : decode cX4_findBest 5 = .ok (.iload_n 1, 1) := by decide +kernel
theorem dX4_findBest_6 : decode cX4_findBest 6 = .ok (.iconst 4, 1) := by decide +kernel
theorem dX4_findBest_7 : decode cX4_findBest 7 = .ok (.if_icmp .ne 7, 3) := by decide +kernel
theorem dX4_findBest_10 : decode cX4_findBest 10 = .ok (.iconst 1, 1) := by decide +kernel
theorem dX4_findBest_11 : decode cX4_findBest 11 = .ok (.goto 4, 3) := by decide +kernel
theorem dX4_findBest_14 : decode cX4_findBest 14 = .ok (.iconst 0, 1) := by decide +kernel
theorem dX4_findBest_15 : decode cX4_findBest 15 = .ok (.istore_n 2, 1) := by decide +kernel
theorem dX4_findBest_16 : decode cX4_findBest 16 = .ok (.iconst 0, 1) := by decide +kernel
theorem dX4_findBest_17 : decode cX4_findBest 17 = .ok (.istore_n 3, 1) := by decide +kernel
theorem dX4_findBest_18 : decode cX4_findBest 18 = .ok (.aload_n 0, 1) := by decide +kernel
theorem dX4_findBest_19 : decode cX4_findBest 19 = .ok (.getfield 36, 3) := by decide +kernel
theorem dX4_findBest_22 : decode cX4_findBest 22 = .ok (.aload_n 0, 1) := by decide +kernel
theorem dX4_findBest_23 : decode cX4_findBest 23 = .ok (.getfield 10, 3) := by decide +kernel
theorem dX4_findBest_26 : decode cX4_findBest 26 = .ok (.getfield 154, 3) := by decide +kernel
theorem dX4_findBest_29 : decode cX4_findBest 29 = .ok (.invokevirtual 195, 3) := by decide +kernel
theorem dX4_findBest_32 : decode cX4_findBest 32 = .ok (.iconst 0, 1) := by decide +kernel
theorem dX4_findBest_33 : decode cX4_findBest 33 = .ok (.istore 4, 2) := by decide +kernel
theorem dX4_findBest_35 : decode cX4_findBest 35 = .ok (.iload 4, 2) := by decide +kernel
theorem dX4_findBest_37 : decode cX4_findBest 37 = .ok (.sipush 720, 3) := by decide +kernel
theorem dX4_findBest_40 : decode cX4_findBest 40 = .ok (.if_icmp .ge 93, 3) := by decide +kernel
theorem dX4_findBest_43 : decode cX4_findBest 43 = .ok (.aload_n 0, 1) := by decide +kernel
theorem dX4_findBest_44 : decode cX4_findBest 44 = .ok (.getfield 29, 3) := by decide +kernel
theorem dX4_findBest_47 : decode cX4_findBest 47 = .ok (.aload_n 0, 1) := by decide +kernel
theorem dX4_findBest_48 : decode cX4_findBest 48 = .ok (.getfield 10, 3) := by decide +kernel
theorem dX4_findBest_51 : decode cX4_findBest 51 = .ok (.aload_n 0, 1) := by decide +kernel
theorem dX4_findBest_52 : decode cX4_findBest 52 = .ok (.getfield 36, 3) := by decide +kernel
theorem dX4_findBest_55 : decode cX4_findBest 55 = .ok (.getfield 198, 3) := by decide +kernel
theorem dX4_findBest_58 : decode cX4_findBest 58 = .ok (.invokevirtual 129, 3) := by decide +kernel
theorem dX4_findBest_61 : decode cX4_findBest 61 = .ok (.iload_n 2, 1) := by decide +kernel
theorem dX4_findBest_62 : decode cX4_findBest 62 = .ok (.ifCond .eq 16, 3) := by decide +kernel
theorem dX4_findBest_65 : decode cX4_findBest 65 = .ok (.aload_n 0, 1) := by decide +kernel
theorem dX4_findBest_66 : decode cX4_findBest 66 = .ok (.getfield 29, 3) := by decide +kernel
theorem dX4_findBest_69 : decode cX4_findBest 69 = .ok (.getfield 133, 3) := by decide +kernel
theorem dX4_findBest_72 : decode cX4_findBest 72 = .ok (.iload_n 1, 1) := by decide +kernel
theorem dX4_findBest_73 : decode cX4_findBest 73 = .ok (.iaload, 1) := by decide +kernel
theorem dX4_findBest_74 : decode cX4_findBest 74 = .ok (.ineg, 1) := by decide +kernel
theorem dX4_findBest_75 : decode cX4_findBest 75 = .ok (.goto 12, 3) := by decide +kernel
theorem dX4_findBest_78 : decode cX4_findBest 78 = .ok (.aload_n 0, 1) := by decide +kernel
theorem dX4_findBest_79 : decode cX4_findBest 79 = .ok (.getfield 29, 3) := by decide +kernel
theorem dX4_findBest_82 : decode cX4_findBest 82 = .ok (.getfield 133, 3) := by decide +kernel
theorem dX4_findBest_85 : decode cX4_findBest 85 = .ok (.iload_n 1, 1) := by decide +kernel
theorem dX4_findBest_86 : decode cX4_findBest 86 = .ok (.iaload, 1) := by decide +kernel
theorem dX4_findBest_87 : decode cX4_findBest 87 = .ok (.istore 5, 2) := by decide +kernel
theorem dX4_findBest_89 : decode cX4_findBest 89 = .ok (.iload 4, 2) := by decide +kernel
theorem dX4_findBest_91 : decode cX4_findBest 91 = .ok (.ifCond .eq 9, 3) := by decide +kernel
theorem dX4_findBest_94 : decode cX4_findBest 94 = .ok (.iload 5, 2) := by decide +kernel
theorem dX4_findBest_96 : decode cX4_findBest 96 = .ok (.iload_n 3, 1) := by decide +kernel
theorem dX4_findBest_97 : decode cX4_findBest 97 = .ok (.if_icmp .ge 17, 3) := by decide +kernel
theorem dX4_findBest_100 : decode cX4_findBest 100 = .ok (.iload 5, 2) := by decide +kernel
theorem dX4_findBest_102 : decode cX4_findBest 102 = .ok (.istore_n 3, 1) := by decide +kernel
theorem dX4_findBest_103 : decode cX4_findBest 103 = .ok (.aload_n 0, 1) := by decide +kernel
theorem dX4_findBest_104 : decode cX4_findBest 104 = .ok (.getfield 36, 3) := by decide +kernel
theorem dX4_findBest_107 : decode cX4_findBest 107 = .ok (.aload_n 0, 1) := by decide +kernel
theorem dX4_findBest_108 : decode cX4_findBest 108 = .ok (.getfield 40, 3) := by decide +kernel
theorem dX4_findBest_111 : decode cX4_findBest 111 = .ok (.invokevirtual 199, 3) := by decide +kernel
theorem dX4_findBest_114 : decode cX4_findBest 114 = .ok (.aload_n 0, 1) := by decide +kernel
theorem dX4_findBest_115 : decode cX4_findBest 115 = .ok (.getfield 36, 3) := by decide +kernel
theorem dX4_findBest_118 : decode cX4_findBest 118 = .ok (.invokevirtual 203, 3) := by decide +kernel
theorem dX4_findBest_121 : decode cX4_findBest 121 = .ok (.ifCond .ne 6, 3) := by decide +kernel
theorem dX4_findBest_124 : decode cX4_findBest 124 = .ok (.goto 9, 3) := by decide +kernel
theorem dX4_findBest_127 : decode cX4_findBest 127 = .ok (.iinc 4 1, 3) := by decide +kernel
theorem dX4_findBest_130 : decode cX4_findBest 130 = .ok (.goto (-95), 3) := by decide +kernel
theorem dX4_findBest_133 : decode cX4_findBest 133 = .ok (.iload_n 2, 1) := by decide +kernel
theorem dX4_findBest_134 : decode cX4_findBest 134 = .ok (.ifCond .eq 8, 3) := by decide +kernel
theorem dX4_findBest_137 : decode cX4_findBest 137 = .ok (.iload_n 3, 1) := by decide +kernel
theorem dX4_findBest_138 : decode cX4_findBest 138 = .ok (.ineg, 1) := by decide +kernel
theorem dX4_findBest_139 : decode cX4_findBest 139 = .ok (.goto 4, 3) := by decide +kernel
theorem dX4_findBest_142 : decode cX4_findBest 142 = .ok (.iload_n 3, 1) := by decide +kernel
theorem dX4_findBest_143 : decode cX4_findBest 143 = .ok (.ireturn, 1) := by decide +kernel
theorem dX4_countFitting_0 : decode cX4_countFitting 0 = .ok (.iconst 0, 1) := by decide +kernel
theorem dX4_countFitting_1 : decode cX4_countFitting 1 = .ok (.istore_n 1, 1) := by decide +kernel
theorem dX4_countFitting_2 : decode cX4_countFitting 2 = .ok (.aload_n 0, 1) := by decide +kernel
theorem dX4_countFitting_3 : decode cX4_countFitting 3 = .ok (.getfield 36, 3) := by decide +kernel
theorem dX4_countFitting_6 : decode cX4_countFitting 6 = .ok (.aload_n 0, 1) := by decide +kernel
theorem dX4_countFitting_7 : decode cX4_countFitting 7 = .ok (.getfield 10, 3) := by decide +kernel
theorem dX4_countFitting_10 : decode cX4_countFitting 10 = .ok (.getfield 154, 3) := by decide +kernel
theorem dX4_countFitting_13 : decode cX4_countFitting 13 = .ok (.invokevirtual 195, 3) := by decide +kernel
theorem dX4_countFitting_16 : decode cX4_countFitting 16 = .ok (.iconst 0, 1) := by decide +kernel
theorem dX4_countFitting_17 : decode cX4_countFitting 17 = .ok (.istore_n 2, 1) := by decide +kernel
theorem dX4_countFitting_18 : decode cX4_countFitting 18 = .ok (.iload_n 2, 1) := by decide +kernel
theorem dX4_countFitting_19 : decode cX4_countFitting 19 = .ok (.sipush 720, 3) := by decide +kernel
theorem dX4_countFitting_22 : decode cX4_countFitting 22 = .ok (.if_icmp .ge 67, 3) := by decide +kernel
theorem dX4_countFitting_25 : decode cX4_countFitting 25 = .ok (.aload_n 0, 1) := by decide +kernel
theorem dX4_countFitting_26 : decode cX4_countFitting 26 = .ok (.getfield 29, 3) := by decide +kernel
theorem dX4_countFitting_29 : decode cX4_countFitting 29 = .ok (.aload_n 0, 1) := by decide +kernel
theorem dX4_countFitting_30 : decode cX4_countFitting 30 = .ok (.getfield 10, 3) := by decide +kernel
theorem dX4_countFitting_33 : decode cX4_countFitting 33 = .ok (.aload_n 0, 1) := by decide +kernel
theorem dX4_countFitting_34 : decode cX4_countFitting 34 = .ok (.getfield 36, 3) := by decide +kernel
theorem dX4_countFitting_37 : decode cX4_countFitting 37 = .ok (.getfield 198, 3) := by decide +kernel
theorem dX4_countFitting_40 : decode cX4_countFitting 40 = .ok (.invokevirtual 129, 3) := by decide +kernel
theorem dX4_countFitting_43 : decode cX4_countFitting 43 = .ok (.aload_n 0, 1) := by decide +kernel
theorem dX4_countFitting_44 : decode cX4_countFitting 44 = .ok (.invokevirtual 186, 3) := by decide +kernel
theorem dX4_countFitting_47 : decode cX4_countFitting 47 = .ok (.bipush (-9), 2) := by decide +kernel
theorem dX4_countFitting_49 : decode cX4_countFitting 49 = .ok (.if_icmp .ne 21, 3) := by decide +kernel
theorem dX4_countFitting_52 : decode cX4_countFitting 52 = .ok (.iload_n 1, 1) := by decide +kernel
theorem dX4_countFitting_53 : decode cX4_countFitting 53 = .ok (.ifCond .ne 14, 3) := by decide +kernel
theorem dX4_countFitting_56 : decode cX4_countFitting 56 = .ok (.aload_n 0, 1) := by decide +kernel
theorem dX4_countFitting_57 : decode cX4_countFitting 57 = .ok (.getfield 36, 3) := by decide +kernel
theorem dX4_countFitting_60 : decode cX4_countFitting 60 = .ok (.aload_n 0, 1) := by decide +kernel
theorem dX4_countFitting_61 : decode cX4_countFitting 61 = .ok (.getfield 40, 3) := by decide +kernel
theorem dX4_countFitting_64 : decode cX4_countFitting 64 = .ok (.invokevirtual 199, 3) := by decide +kernel
theorem dX4_countFitting_67 : decode cX4_countFitting 67 = .ok (.iinc 1 1, 3) := by decide +kernel
theorem dX4_countFitting_70 : decode cX4_countFitting 70 = .ok (.aload_n 0, 1) := by decide +kernel
theorem dX4_countFitting_71 : decode cX4_countFitting 71 = .ok (.getfield 36, 3) := by decide +kernel
theorem dX4_countFitting_74 : decode cX4_countFitting 74 = .ok (.invokevirtual 203, 3) := by decide +kernel
theorem dX4_countFitting_77 : decode cX4_countFitting 77 = .ok (.ifCond .ne 6, 3) := by decide +kernel
theorem dX4_countFitting_80 : decode cX4_countFitting 80 = .ok (.goto 9, 3) := by decide +kernel
theorem dX4_countFitting_83 : decode cX4_countFitting 83 = .ok (.iinc 2 1, 3) := by decide +kernel
theorem dX4_countFitting_86 : decode cX4_countFitting 86 = .ok (.goto (-68), 3) := by decide +kernel
theorem dX4_countFitting_89 : decode cX4_countFitting 89 = .ok (.iload_n 1, 1) := by decide +kernel
theorem dX4_countFitting_90 : decode cX4_countFitting 90 = .ok (.ireturn, 1) := by decide +kernel
theorem dX4_firstNotSo_0 : decode cX4_firstNotSo 0 = .ok (.iconst 0, 1) := by decide +kernel
theorem dX4_firstNotSo_1 : decode cX4_firstNotSo 1 = .ok (.istore_n 1, 1) := by decide +kernel
theorem dX4_firstNotSo_2 : decode cX4_firstNotSo 2 = .ok (.iload_n 1, 1) := by decide +kernel
theorem dX4_firstNotSo_3 : decode cX4_firstNotSo 3 = .ok (.aload_n 0, 1) := by decide +kernel
theorem dX4_firstNotSo_4 : decode cX4_firstNotSo 4 = .ok (.getfield 57, 3) := by decide +kernel
theorem dX4_firstNotSo_7 : decode cX4_firstNotSo 7 = .ok (.if_icmp .ge 40, 3) := by decide +kernel
theorem dX4_firstNotSo_10 : decode cX4_firstNotSo 10 = .ok (.iload_n 1, 1) := by decide +kernel
theorem dX4_firstNotSo_11 : decode cX4_firstNotSo 11 = .ok (.aload_n 0, 1) := by decide +kernel
theorem dX4_firstNotSo_12 : decode cX4_firstNotSo 12 = .ok (.getfield 10, 3) := by decide +kernel
theorem dX4_firstNotSo_15 : decode cX4_firstNotSo 15 = .ok (.getfield 154, 3) := by decide +kernel
theorem dX4_firstNotSo_18 : decode cX4_firstNotSo 18 = .ok (.if_icmp .ge 21, 3) := by decide +kernel
theorem dX4_firstNotSo_21 : decode cX4_firstNotSo 21 = .ok (.aload_n 0, 1) := by decide +kernel
theorem dX4_firstNotSo_22 : decode cX4_firstNotSo 22 = .ok (.getfield 54, 3) := by decide +kernel
theorem dX4_firstNotSo_25 : decode cX4_firstNotSo 25 = .ok (.iload_n 1, 1) := by decide +kernel
theorem dX4_firstNotSo_26 : decode cX4_firstNotSo 26 = .ok (.iaload, 1) := by decide +kernel
theorem dX4_firstNotSo_27 : decode cX4_firstNotSo 27 = .ok (.aload_n 0, 1) := by decide +kernel
theorem dX4_firstNotSo_28 : decode cX4_firstNotSo 28 = .ok (.getfield 29, 3) := by decide +kernel
theorem dX4_firstNotSo_31 : decode cX4_firstNotSo 31 = .ok (.getfield 142, 3) := by decide +kernel
theorem dX4_firstNotSo_34 : decode cX4_firstNotSo 34 = .ok (.iload_n 1, 1) := by decide +kernel
theorem dX4_firstNotSo_35 : decode cX4_firstNotSo 35 = .ok (.iaload, 1) := by decide +kernel
theorem dX4_firstNotSo_36 : decode cX4_firstNotSo 36 = .ok (.if_icmp .eq 5, 3) := by decide +kernel
theorem dX4_firstNotSo_39 : decode cX4_firstNotSo 39 = .ok (.iload_n 1, 1) := by decide +kernel
theorem dX4_firstNotSo_40 : decode cX4_firstNotSo 40 = .ok (.ireturn, 1) := by decide +kernel
theorem dX4_firstNotSo_41 : decode cX4_firstNotSo 41 = .ok (.iinc 1 1, 3) := by decide +kernel
theorem dX4_firstNotSo_44 : decode cX4_firstNotSo 44 = .ok (.goto (-42), 3) := by decide +kernel
theorem dX4_firstNotSo_47 : decode cX4_firstNotSo 47 = .ok (.bipush (-9), 2) := by decide +kernel
theorem dX4_firstNotSo_49 : decode cX4_firstNotSo 49 = .ok (.ireturn, 1) := by decide +kernel
theorem dX4_countColdDays_0 : decode cX4_countColdDays 0 = .ok (.iconst 0, 1) := by decide +kernel
theorem dX4_countColdDays_1 : decode cX4_countColdDays 1 = .ok (.istore_n 1, 1) := by decide +kernel
theorem dX4_countColdDays_2 : decode cX4_countColdDays 2 = .ok (.iload_n 1, 1) := by decide +kernel
theorem dX4_countColdDays_3 : decode cX4_countColdDays 3 = .ok (.aload_n 0, 1) := by decide +kernel
theorem dX4_countColdDays_4 : decode cX4_countColdDays 4 = .ok (.getfield 10, 3) := by decide +kernel
theorem dX4_countColdDays_7 : decode cX4_countColdDays 7 = .ok (.getfield 154, 3) := by decide +kernel
theorem dX4_countColdDays_10 : decode cX4_countColdDays 10 = .ok (.if_icmp .ge 16, 3) := by decide +kernel
theorem dX4_countColdDays_13 : decode cX4_countColdDays 13 = .ok (.aload_n 0, 1) := by decide +kernel
theorem dX4_countColdDays_14 : decode cX4_countColdDays 14 = .ok (.getfield 44, 3) := by decide +kernel
theorem dX4_countColdDays_17 : decode cX4_countColdDays 17 = .ok (.iload_n 1, 1) := by decide +kernel
theorem dX4_countColdDays_18 : decode cX4_countColdDays 18 = .ok (.iconst 0, 1) := by decide +kernel
theorem dX4_countColdDays_19 : decode cX4_countColdDays 19 = .ok (.iastore, 1) := by decide +kernel
theorem dX4_countColdDays_20 : decode cX4_countColdDays 20 = .ok (.iinc 1 1, 3) := by decide +kernel
theorem dX4_countColdDays_23 : decode cX4_countColdDays 23 = .ok (.goto (-21), 3) := by decide +kernel
theorem dX4_countColdDays_26 : decode cX4_countColdDays 26 = .ok (.iconst 0, 1) := by decide +kernel
theorem dX4_countColdDays_27 : decode cX4_countColdDays 27 = .ok (.istore_n 1, 1) := by decide +kernel
theorem dX4_countColdDays_28 : decode cX4_countColdDays 28 = .ok (.iload_n 1, 1) := by decide +kernel
theorem dX4_countColdDays_29 : decode cX4_countColdDays 29 = .ok (.aload_n 0, 1) := by decide +kernel
theorem dX4_countColdDays_30 : decode cX4_countColdDays 30 = .ok (.getfield 10, 3) := by decide +kernel
theorem dX4_countColdDays_33 : decode cX4_countColdDays 33 = .ok (.getfield 154, 3) := by decide +kernel
theorem dX4_countColdDays_36 : decode cX4_countColdDays 36 = .ok (.if_icmp .ge 81, 3) := by decide +kernel
theorem dX4_countColdDays_39 : decode cX4_countColdDays 39 = .ok (.aload_n 0, 1) := by decide +kernel
theorem dX4_countColdDays_40 : decode cX4_countColdDays 40 = .ok (.iload_n 1, 1) := by decide +kernel
theorem dX4_countColdDays_41 : decode cX4_countColdDays 41 = .ok (.invokevirtual 207, 3) := by decide +kernel
theorem dX4_countColdDays_44 : decode cX4_countColdDays 44 = .ok (.aload_n 0, 1) := by decide +kernel
theorem dX4_countColdDays_45 : decode cX4_countColdDays 45 = .ok (.getfield 29, 3) := by decide +kernel
theorem dX4_countColdDays_48 : decode cX4_countColdDays 48 = .ok (.aload_n 0, 1) := by decide +kernel
theorem dX4_countColdDays_49 : decode cX4_countColdDays 49 = .ok (.getfield 10, 3) := by decide +kernel
theorem dX4_countColdDays_52 : decode cX4_countColdDays 52 = .ok (.aload_n 0, 1) := by decide +kernel
theorem dX4_countColdDays_53 : decode cX4_countColdDays 53 = .ok (.getfield 16, 3) := by decide +kernel
theorem dX4_countColdDays_56 : decode cX4_countColdDays 56 = .ok (.getfield 102, 3) := by decide +kernel
theorem dX4_countColdDays_59 : decode cX4_countColdDays 59 = .ok (.invokevirtual 129, 3) := by decide +kernel
theorem dX4_countColdDays_62 : decode cX4_countColdDays 62 = .ok (.iconst 0, 1) := by decide +kernel
theorem dX4_countColdDays_63 : decode cX4_countColdDays 63 = .ok (.istore_n 2, 1) := by decide +kernel
theorem dX4_countColdDays_64 : decode cX4_countColdDays 64 = .ok (.iload_n 2, 1) := by decide +kernel
theorem dX4_countColdDays_65 : decode cX4_countColdDays 65 = .ok (.aload_n 0, 1) := by decide +kernel
theorem dX4_countColdDays_66 : decode cX4_countColdDays 66 = .ok (.getfield 10, 3) := by decide +kernel
theorem dX4_countColdDays_69 : decode cX4_countColdDays 69 = .ok (.getfield 154, 3) := by decide +kernel
theorem dX4_countColdDays_72 : decode cX4_countColdDays 72 = .ok (.if_icmp .ge 39, 3) := by decide +kernel
theorem dX4_countColdDays_75 : decode cX4_countColdDays 75 = .ok (.aload_n 0, 1) := by decide +kernel
theorem dX4_countColdDays_76 : decode cX4_countColdDays 76 = .ok (.getfield 29, 3) := by decide +kernel
theorem dX4_countColdDays_79 : decode cX4_countColdDays 79 = .ok (.getfield 210, 3) := by decide +kernel
theorem dX4_countColdDays_82 : decode cX4_countColdDays 82 = .ok (.iload_n 2, 1) := by decide +kernel
theorem dX4_countColdDays_83 : decode cX4_countColdDays 83 = .ok (.iaload, 1) := by decide +kernel
theorem dX4_countColdDays_84 : decode cX4_countColdDays 84 = .ok (.ifCond .le 21, 3) := by decide +kernel
theorem dX4_countColdDays_87 : decode cX4_countColdDays 87 = .ok (.aload_n 0, 1) := by decide +kernel
theorem dX4_countColdDays_88 : decode cX4_countColdDays 88 = .ok (.getfield 44, 3) := by decide +kernel
theorem dX4_countColdDays_91 : decode cX4_countColdDays 91 = .ok (.aload_n 0, 1) := by decide +kernel
theorem dX4_countColdDays_92 : decode cX4_countColdDays 92 = .ok (.getfield 16, 3) := by decide +kernel
theorem dX4_countColdDays_95 : decode cX4_countColdDays 95 = .ok (.getfield 102, 3) := by decide +kernel
theorem dX4_countColdDays_98 : decode cX4_countColdDays 98 = .ok (.iload_n 2, 1) := by decide +kernel
theorem dX4_countColdDays_99 : decode cX4_countColdDays 99 = .ok (.iaload, 1) := by decide +kernel
theorem dX4_countColdDays_100 : decode cX4_countColdDays 100 = .ok (.dup2, 1) := by decide +kernel
theorem dX4_countColdDays_101 : decode cX4_countColdDays 101 = .ok (.iaload, 1) := by decide +kernel
theorem dX4_countColdDays_102 : decode cX4_countColdDays 102 = .ok (.iconst 1, 1) := by decide +kernel
theorem dX4_countColdDays_103 : decode cX4_countColdDays 103 = .ok (.iadd, 1) := by decide +kernel
theorem dX4_countColdDays_104 : decode cX4_countColdDays 104 = .ok (.iastore, 1) := by decide +kernel
theorem dX4_countColdDays_105 : decode cX4_countColdDays 105 = .ok (.iinc 2 1, 3) := by decide +kernel
theorem dX4_countColdDays_108 : decode cX4_countColdDays 108 = .ok (.goto (-44), 3) := by decide +kernel
theorem dX4_countColdDays_111 : decode cX4_countColdDays 111 = .ok (.iinc 1 1, 3) := by decide +kernel
theorem dX4_countColdDays_114 : decode cX4_countColdDays 114 = .ok (.goto (-86), 3) := by decide +kernel
theorem dX4_countColdDays_117 : decode cX4_countColdDays 117 = .ok (.return_, 1) := by decide +kernel
theorem dX4_turn_0 : decode cX4_turn 0 = .ok (.iconst 0, 1) := by decide +kernel
theorem dX4_turn_1 : decode cX4_turn 1 = .ok (.istore_n 2, 1) := by decide +kernel
theorem dX4_turn_2 : decode cX4_turn 2 = .ok (.iload_n 2, 1) := by decide +kernel
theorem dX4_turn_3 : decode cX4_turn 3 = .ok (.aload_n 0, 1) := by decide +kernel
theorem dX4_turn_4 : decode cX4_turn 4 = .ok (.getfield 10, 3) := by decide +kernel
theorem dX4_turn_7 : decode cX4_turn 7 = .ok (.getfield 154, 3) := by decide +kernel
theorem dX4_turn_10 : decode cX4_turn 10 = .ok (.if_icmp .ge 52, 3) := by decide +kernel
theorem dX4_turn_13 : decode cX4_turn 13 = .ok (.iload_n 2, 1) := by decide +kernel
theorem dX4_turn_14 : decode cX4_turn 14 = .ok (.iload_n 1, 1) := by decide +kernel
theorem dX4_turn_15 : decode cX4_turn 15 = .ok (.iadd, 1) := by decide +kernel
theorem dX4_turn_16 : decode cX4_turn 16 = .ok (.istore_n 3, 1) := by decide +kernel
theorem dX4_turn_17 : decode cX4_turn 17 = .ok (.iload_n 3, 1) := by decide +kernel
theorem dX4_turn_18 : decode cX4_turn 18 = .ok (.aload_n 0, 1) := by decide +kernel
theorem dX4_turn_19 : decode cX4_turn 19 = .ok (.getfield 10, 3) := by decide +kernel
theorem dX4_turn_22 : decode cX4_turn 22 = .ok (.getfield 154, 3) := by decide +kernel
theorem dX4_turn_25 : decode cX4_turn 25 = .ok (.if_icmp .lt 13, 3) := by decide +kernel
theorem dX4_turn_28 : decode cX4_turn 28 = .ok (.iload_n 3, 1) := by decide +kernel
theorem dX4_turn_29 : decode cX4_turn 29 = .ok (.aload_n 0, 1) := by decide +kernel
theorem dX4_turn_30 : decode cX4_turn 30 = .ok (.getfield 10, 3) := by decide +kernel
theorem dX4_turn_33 : decode cX4_turn 33 = .ok (.getfield 154, 3) := by decide +kernel
theorem dX4_turn_36 : decode cX4_turn 36 = .ok (.isub, 1) := by decide +kernel
theorem dX4_turn_37 : decode cX4_turn 37 = .ok (.istore_n 3, 1) := by decide +kernel
theorem dX4_turn_38 : decode cX4_turn 38 = .ok (.aload_n 0, 1) := by decide +kernel
theorem dX4_turn_39 : decode cX4_turn 39 = .ok (.getfield 16, 3) := by decide +kernel
theorem dX4_turn_42 : decode cX4_turn 42 = .ok (.getfield 102, 3) := by decide +kernel
theorem dX4_turn_45 : decode cX4_turn 45 = .ok (.iload_n 2, 1) := by decide +kernel
theorem dX4_turn_46 : decode cX4_turn 46 = .ok (.aload_n 0, 1) := by decide +kernel
theorem dX4_turn_47 : decode cX4_turn 47 = .ok (.getfield 10, 3) := by decide +kernel
theorem dX4_turn_50 : decode cX4_turn 50 = .ok (.getfield 102, 3) := by decide +kernel
theorem dX4_turn_53 : decode cX4_turn 53 = .ok (.iload_n 3, 1) := by decide +kernel
theorem dX4_turn_54 : decode cX4_turn 54 = .ok (.iaload, 1) := by decide +kernel
theorem dX4_turn_55 : decode cX4_turn 55 = .ok (.iastore, 1) := by decide +kernel
theorem dX4_turn_56 : decode cX4_turn 56 = .ok (.iinc 2 1, 3) := by decide +kernel
theorem dX4_turn_59 : decode cX4_turn 59 = .ok (.goto (-57), 3) := by decide +kernel
theorem dX4_turn_62 : decode cX4_turn 62 = .ok (.return_, 1) := by decide +kernel
theorem dX4_cheapest_0 : decode cX4_cheapest 0 = .ok (.aload_n 0, 1) := by decide +kernel
theorem dX4_cheapest_1 : decode cX4_cheapest 1 = .ok (.getfield 16, 3) := by decide +kernel
theorem dX4_cheapest_4 : decode cX4_cheapest 4 = .ok (.aload_n 0, 1) := by decide +kernel
theorem dX4_cheapest_5 : decode cX4_cheapest 5 = .ok (.getfield 10, 3) := by decide +kernel
theorem dX4_cheapest_8 : decode cX4_cheapest 8 = .ok (.invokevirtual 75, 3) := by decide +kernel
theorem dX4_cheapest_11 : decode cX4_cheapest 11 = .ok (.iconst 0, 1) := by decide +kernel
theorem dX4_cheapest_12 : decode cX4_cheapest 12 = .ok (.istore_n 2, 1) := by decide +kernel
theorem dX4_cheapest_13 : decode cX4_cheapest 13 = .ok (.iconst 0, 1) := by decide +kernel
theorem dX4_cheapest_14 : decode cX4_cheapest 14 = .ok (.istore_n 3, 1) := by decide +kernel
theorem dX4_cheapest_15 : decode cX4_cheapest 15 = .ok (.iconst 0, 1) := by decide +kernel
theorem dX4_cheapest_16 : decode cX4_cheapest 16 = .ok (.istore 4, 2) := by decide +kernel
theorem dX4_cheapest_18 : decode cX4_cheapest 18 = .ok (.iload 4, 2) := by decide +kernel
theorem dX4_cheapest_20 : decode cX4_cheapest 20 = .ok (.getstatic 113, 3) := by decide +kernel
theorem dX4_cheapest_23 : decode cX4_cheapest 23 = .ok (.iload_n 1, 1) := by decide +kernel
theorem dX4_cheapest_24 : decode cX4_cheapest 24 = .ok (.iaload, 1) := by decide +kernel
theorem dX4_cheapest_25 : decode cX4_cheapest 25 = .ok (.if_icmp .gt 71, 3) := by decide +kernel
theorem dX4_cheapest_28 : decode cX4_cheapest 28 = .ok (.aload_n 0, 1) := by decide +kernel
theorem dX4_cheapest_29 : decode cX4_cheapest 29 = .ok (.getfield 16, 3) := by decide +kernel
theorem dX4_cheapest_32 : decode cX4_cheapest 32 = .ok (.getfield 116, 3) := by decide +kernel
theorem dX4_cheapest_35 : decode cX4_cheapest 35 = .ok (.iload_n 1, 1) := by decide +kernel
theorem dX4_cheapest_36 : decode cX4_cheapest 36 = .ok (.iload 4, 2) := by decide +kernel
theorem dX4_cheapest_38 : decode cX4_cheapest 38 = .ok (.iastore, 1) := by decide +kernel
theorem dX4_cheapest_39 : decode cX4_cheapest 39 = .ok (.aload_n 0, 1) := by decide +kernel
theorem dX4_cheapest_40 : decode cX4_cheapest 40 = .ok (.getfield 29, 3) := by decide +kernel
theorem dX4_cheapest_43 : decode cX4_cheapest 43 = .ok (.aload_n 0, 1) := by decide +kernel
theorem dX4_cheapest_44 : decode cX4_cheapest 44 = .ok (.getfield 16, 3) := by decide +kernel
theorem dX4_cheapest_47 : decode cX4_cheapest 47 = .ok (.aload_n 0, 1) := by decide +kernel
theorem dX4_cheapest_48 : decode cX4_cheapest 48 = .ok (.getfield 16, 3) := by decide +kernel
theorem dX4_cheapest_51 : decode cX4_cheapest 51 = .ok (.getfield 102, 3) := by decide +kernel
theorem dX4_cheapest_54 : decode cX4_cheapest 54 = .ok (.invokevirtual 129, 3) := by decide +kernel
theorem dX4_cheapest_57 : decode cX4_cheapest 57 = .ok (.iload 4, 2) := by decide +kernel
theorem dX4_cheapest_59 : decode cX4_cheapest 59 = .ok (.ifCond .eq 17, 3) := by decide +kernel
theorem dX4_cheapest_62 : decode cX4_cheapest 62 = .ok (.aload_n 0, 1) := by decide +kernel
theorem dX4_cheapest_63 : decode cX4_cheapest 63 = .ok (.getfield 29, 3) := by decide +kernel
theorem dX4_cheapest_66 : decode cX4_cheapest 66 = .ok (.getfield 133, 3) := by decide +kernel
theorem dX4_cheapest_69 : decode cX4_cheapest 69 = .ok (.bipush 7, 2) := by decide +kernel
theorem dX4_cheapest_71 : decode cX4_cheapest 71 = .ok (.iaload, 1) := by decide +kernel
theorem dX4_cheapest_72 : decode cX4_cheapest 72 = .ok (.iload_n 3, 1) := by decide +kernel
theorem dX4_cheapest_73 : decode cX4_cheapest 73 = .ok (.if_icmp .ge 17, 3) := by decide +kernel
theorem dX4_cheapest_76 : decode cX4_cheapest 76 = .ok (.aload_n 0, 1) := by decide +kernel
theorem dX4_cheapest_77 : decode cX4_cheapest 77 = .ok (.getfield 29, 3) := by decide +kernel
theorem dX4_cheapest_80 : decode cX4_cheapest 80 = .ok (.getfield 133, 3) := by decide +kernel
theorem dX4_cheapest_83 : decode cX4_cheapest 83 = .ok (.bipush 7, 2) := by decide +kernel
theorem dX4_cheapest_85 : decode cX4_cheapest 85 = .ok (.iaload, 1) := by decide +kernel
theorem dX4_cheapest_86 : decode cX4_cheapest 86 = .ok (.istore_n 3, 1) := by decide +kernel
theorem dX4_cheapest_87 : decode cX4_cheapest 87 = .ok (.iload 4, 2) := by decide +kernel
theorem dX4_cheapest_89 : decode cX4_cheapest 89 = .ok (.istore_n 2, 1) := by decide +kernel
theorem dX4_cheapest_90 : decode cX4_cheapest 90 = .ok (.iinc 4 1, 3) := by decide +kernel
theorem dX4_cheapest_93 : decode cX4_cheapest 93 = .ok (.goto (-75), 3) := by decide +kernel
theorem dX4_cheapest_96 : decode cX4_cheapest 96 = .ok (.iload_n 2, 1) := by decide +kernel
theorem dX4_cheapest_97 : decode cX4_cheapest 97 = .ok (.ireturn, 1) := by decide +kernel
theorem dX4_minutesToMachine_0 : decode cX4_minutesToMachine 0 = .ok (.iconst 0, 1) := by decide +kernel
theorem dX4_minutesToMachine_1 : decode cX4_minutesToMachine 1 = .ok (.istore_n 1, 1) := by decide +kernel
theorem dX4_minutesToMachine_2 : decode cX4_minutesToMachine 2 = .ok (.iconst 0, 1) := by decide +kernel
theorem dX4_minutesToMachine_3 : decode cX4_minutesToMachine 3 = .ok (.istore_n 2, 1) := by decide +kernel
theorem dX4_minutesToMachine_4 : decode cX4_minutesToMachine 4 = .ok (.iload_n 2, 1) := by decide +kernel
theorem dX4_minutesToMachine_5 : decode cX4_minutesToMachine 5 = .ok (.aload_n 0, 1) := by decide +kernel
theorem dX4_minutesToMachine_6 : decode cX4_minutesToMachine 6 = .ok (.getfield 10, 3) := by decide +kernel
theorem dX4_minutesToMachine_9 : decode cX4_minutesToMachine 9 = .ok (.getfield 154, 3) := by decide +kernel
theorem dX4_minutesToMachine_12 : decode cX4_minutesToMachine 12 = .ok (.if_icmp .ge 35, 3) := by decide +kernel
theorem dX4_minutesToMachine_15 : decode cX4_minutesToMachine 15 = .ok (.iload_n 1, 1) := by decide +kernel
theorem dX4_minutesToMachine_16 : decode cX4_minutesToMachine 16 = .ok (.aload_n 0, 1) := by decide +kernel
theorem dX4_minutesToMachine_17 : decode cX4_minutesToMachine 17 = .ok (.getfield 10, 3) := by decide +kernel
theorem dX4_minutesToMachine_20 : decode cX4_minutesToMachine 20 = .ok (.getfield 93, 3) := by decide +kernel
theorem dX4_minutesToMachine_23 : decode cX4_minutesToMachine 23 = .ok (.iload_n 2, 1) := by decide +kernel
theorem dX4_minutesToMachine_24 : decode cX4_minutesToMachine 24 = .ok (.iaload, 1) := by decide +kernel
theorem dX4_minutesToMachine_25 : decode cX4_minutesToMachine 25 = .ok (.iconst 2, 1) := by decide +kernel
theorem dX4_minutesToMachine_26 : decode cX4_minutesToMachine 26 = .ok (.aload_n 0, 1) := by decide +kernel
theorem dX4_minutesToMachine_27 : decode cX4_minutesToMachine 27 = .ok (.getfield 10, 3) := by decide +kernel
theorem dX4_minutesToMachine_30 : decode cX4_minutesToMachine 30 = .ok (.getfield 90, 3) := by decide +kernel
theorem dX4_minutesToMachine_33 : decode cX4_minutesToMachine 33 = .ok (.iload_n 2, 1) := by decide +kernel
theorem dX4_minutesToMachine_34 : decode cX4_minutesToMachine 34 = .ok (.iaload, 1) := by decide +kernel
theorem dX4_minutesToMachine_35 : decode cX4_minutesToMachine 35 = .ok (.imul, 1) := by decide +kernel
theorem dX4_minutesToMachine_36 : decode cX4_minutesToMachine 36 = .ok (.iconst 1, 1) := by decide +kernel
theorem dX4_minutesToMachine_37 : decode cX4_minutesToMachine 37 = .ok (.iadd, 1) := by decide +kernel
theorem dX4_minutesToMachine_38 : decode cX4_minutesToMachine 38 = .ok (.imul, 1) := by decide +kernel
theorem dX4_minutesToMachine_39 : decode cX4_minutesToMachine 39 = .ok (.iadd, 1) := by decide +kernel
theorem dX4_minutesToMachine_40 : decode cX4_minutesToMachine 40 = .ok (.istore_n 1, 1) := by decide +kernel
theorem dX4_minutesToMachine_41 : decode cX4_minutesToMachine 41 = .ok (.iinc 2 1, 3) := by decide +kernel
theorem dX4_minutesToMachine_44 : decode cX4_minutesToMachine 44 = .ok (.goto (-40), 3) := by decide +kernel
theorem dX4_minutesToMachine_47 : decode cX4_minutesToMachine 47 = .ok (.iload_n 1, 1) := by decide +kernel
theorem dX4_minutesToMachine_48 : decode cX4_minutesToMachine 48 = .ok (.ireturn, 1) := by decide +kernel
theorem dX4_tenthsOnTheWay_0 : decode cX4_tenthsOnTheWay 0 = .ok (.iconst 0, 1) := by decide +kernel
theorem dX4_tenthsOnTheWay_1 : decode cX4_tenthsOnTheWay 1 = .ok (.istore_n 2, 1) := by decide +kernel
theorem dX4_tenthsOnTheWay_2 : decode cX4_tenthsOnTheWay 2 = .ok (.aload_n 0, 1) := by decide +kernel
theorem dX4_tenthsOnTheWay_3 : decode cX4_tenthsOnTheWay 3 = .ok (.getfield 10, 3) := by decide +kernel
theorem dX4_tenthsOnTheWay_6 : decode cX4_tenthsOnTheWay 6 = .ok (.getfield 116, 3) := by decide +kernel
theorem dX4_tenthsOnTheWay_9 : decode cX4_tenthsOnTheWay 9 = .ok (.iconst 5, 1) := by decide +kernel
theorem dX4_tenthsOnTheWay_10 : decode cX4_tenthsOnTheWay 10 = .ok (.iaload, 1) := by decide +kernel
theorem dX4_tenthsOnTheWay_11 : decode cX4_tenthsOnTheWay 11 = .ok (.istore_n 3, 1) := by decide +kernel
theorem dX4_tenthsOnTheWay_12 : decode cX4_tenthsOnTheWay 12 = .ok (.iconst 0, 1) := by decide +kernel
theorem dX4_tenthsOnTheWay_13 : decode cX4_tenthsOnTheWay 13 = .ok (.istore 4, 2) := by decide +kernel
theorem dX4_tenthsOnTheWay_15 : decode cX4_tenthsOnTheWay 15 = .ok (.iload 4, 2) := by decide +kernel
theorem dX4_tenthsOnTheWay_17 : decode cX4_tenthsOnTheWay 17 = .ok (.aload_n 0, 1) := by decide +kernel
theorem dX4_tenthsOnTheWay_18 : decode cX4_tenthsOnTheWay 18 = .ok (.getfield 10, 3) := by decide +kernel
theorem dX4_tenthsOnTheWay_21 : decode cX4_tenthsOnTheWay 21 = .ok (.getfield 154, 3) := by decide +kernel
theorem dX4_tenthsOnTheWay_24 : decode cX4_tenthsOnTheWay 24 = .ok (.if_icmp .ge 61, 3) := by decide +kernel
theorem dX4_tenthsOnTheWay_27 : decode cX4_tenthsOnTheWay 27 = .ok (.aload_n 0, 1) := by decide +kernel
theorem dX4_tenthsOnTheWay_28 : decode cX4_tenthsOnTheWay 28 = .ok (.getfield 10, 3) := by decide +kernel
theorem dX4_tenthsOnTheWay_31 : decode cX4_tenthsOnTheWay 31 = .ok (.getfield 90, 3) := by decide +kernel
theorem dX4_tenthsOnTheWay_34 : decode cX4_tenthsOnTheWay 34 = .ok (.aload_n 0, 1) := by decide +kernel
theorem dX4_tenthsOnTheWay_35 : decode cX4_tenthsOnTheWay 35 = .ok (.getfield 10, 3) := by decide +kernel
theorem dX4_tenthsOnTheWay_38 : decode cX4_tenthsOnTheWay 38 = .ok (.getfield 102, 3) := by decide +kernel
theorem dX4_tenthsOnTheWay_41 : decode cX4_tenthsOnTheWay 41 = .ok (.iload 4, 2) := by decide +kernel
theorem dX4_tenthsOnTheWay_43 : decode cX4_tenthsOnTheWay 43 = .ok (.iaload, 1) := by decide +kernel
theorem dX4_tenthsOnTheWay_44 : decode cX4_tenthsOnTheWay 44 = .ok (.iaload, 1) := by decide +kernel
theorem dX4_tenthsOnTheWay_45 : decode cX4_tenthsOnTheWay 45 = .ok (.istore 5, 2) := by decide +kernel
theorem dX4_tenthsOnTheWay_47 : decode cX4_tenthsOnTheWay 47 = .ok (.iload_n 2, 1) := by decide +kernel
theorem dX4_tenthsOnTheWay_48 : decode cX4_tenthsOnTheWay 48 = .ok (.bipush 10, 2) := by decide +kernel
theorem dX4_tenthsOnTheWay_50 : decode cX4_tenthsOnTheWay 50 = .ok (.iload_n 1, 1) := by decide +kernel
theorem dX4_tenthsOnTheWay_51 : decode cX4_tenthsOnTheWay 51 = .ok (.isub, 1) := by decide +kernel
theorem dX4_tenthsOnTheWay_52 : decode cX4_tenthsOnTheWay 52 = .ok (.aload_n 0, 1) := by decide +kernel
theorem dX4_tenthsOnTheWay_53 : decode cX4_tenthsOnTheWay 53 = .ok (.getfield 10, 3) := by decide +kernel
theorem dX4_tenthsOnTheWay_56 : decode cX4_tenthsOnTheWay 56 = .ok (.iload_n 3, 1) := by decide +kernel
theorem dX4_tenthsOnTheWay_57 : decode cX4_tenthsOnTheWay 57 = .ok (.iload 5, 2) := by decide +kernel
theorem dX4_tenthsOnTheWay_59 : decode cX4_tenthsOnTheWay 59 = .ok (.invokevirtual 213, 3) := by decide +kernel
theorem dX4_tenthsOnTheWay_62 : decode cX4_tenthsOnTheWay 62 = .ok (.imul, 1) := by decide +kernel
theorem dX4_tenthsOnTheWay_63 : decode cX4_tenthsOnTheWay 63 = .ok (.iadd, 1) := by decide +kernel
theorem dX4_tenthsOnTheWay_64 : decode cX4_tenthsOnTheWay 64 = .ok (.istore_n 2, 1) := by decide +kernel
theorem dX4_tenthsOnTheWay_65 : decode cX4_tenthsOnTheWay 65 = .ok (.iload_n 2, 1) := by decide +kernel
theorem dX4_tenthsOnTheWay_66 : decode cX4_tenthsOnTheWay 66 = .ok (.iload_n 1, 1) := by decide +kernel
theorem dX4_tenthsOnTheWay_67 : decode cX4_tenthsOnTheWay 67 = .ok (.iload_n 3, 1) := by decide +kernel
theorem dX4_tenthsOnTheWay_68 : decode cX4_tenthsOnTheWay 68 = .ok (.iload 5, 2) := by decide +kernel
theorem dX4_tenthsOnTheWay_70 : decode cX4_tenthsOnTheWay 70 = .ok (.invokestatic 216, 3) := by decide +kernel
theorem dX4_tenthsOnTheWay_73 : decode cX4_tenthsOnTheWay 73 = .ok (.imul, 1) := by decide +kernel
theorem dX4_tenthsOnTheWay_74 : decode cX4_tenthsOnTheWay 74 = .ok (.iadd, 1) := by decide +kernel
theorem dX4_tenthsOnTheWay_75 : decode cX4_tenthsOnTheWay 75 = .ok (.istore_n 2, 1) := by decide +kernel
theorem dX4_tenthsOnTheWay_76 : decode cX4_tenthsOnTheWay 76 = .ok (.iload 5, 2) := by decide +kernel
theorem dX4_tenthsOnTheWay_78 : decode cX4_tenthsOnTheWay 78 = .ok (.istore_n 3, 1) := by decide +kernel
theorem dX4_tenthsOnTheWay_79 : decode cX4_tenthsOnTheWay 79 = .ok (.iinc 4 1, 3) := by decide +kernel
theorem dX4_tenthsOnTheWay_82 : decode cX4_tenthsOnTheWay 82 = .ok (.goto (-67), 3) := by decide +kernel
theorem dX4_tenthsOnTheWay_85 : decode cX4_tenthsOnTheWay 85 = .ok (.iload_n 2, 1) := by decide +kernel
theorem dX4_tenthsOnTheWay_86 : decode cX4_tenthsOnTheWay 86 = .ok (.ireturn, 1) := by decide +kernel
theorem dX4_commonDivisorWithTen_0 : decode cX4_commonDivisorWithTen 0 = .ok (.iload_n 0, 1) := by decide +kernel
theorem dX4_commonDivisorWithTen_1 : decode cX4_commonDivisorWithTen 1 = .ok (.bipush 10, 2) := by decide +kernel
theorem dX4_commonDivisorWithTen_3 : decode cX4_commonDivisorWithTen 3 = .ok (.irem, 1) := by decide +kernel
theorem dX4_commonDivisorWithTen_4 : decode cX4_commonDivisorWithTen 4 = .ok (.ifCond .ne 6, 3) := by decide +kernel
theorem dX4_commonDivisorWithTen_7 : decode cX4_commonDivisorWithTen 7 = .ok (.bipush 10, 2) := by decide +kernel
theorem dX4_commonDivisorWithTen_9 : decode cX4_commonDivisorWithTen 9 = .ok (.ireturn, 1) := by decide +kernel
theorem dX4_commonDivisorWithTen_10 : decode cX4_commonDivisorWithTen 10 = .ok (.iload_n 0, 1) := by decide +kernel
theorem dX4_commonDivisorWithTen_11 : decode cX4_commonDivisorWithTen 11 = .ok (.iconst 5, 1) := by decide +kernel
theorem dX4_commonDivisorWithTen_12 : decode cX4_commonDivisorWithTen 12 = .ok (.irem, 1) := by decide +kernel
theorem dX4_commonDivisorWithTen_13 : decode cX4_commonDivisorWithTen 13 = .ok (.ifCond .ne 5, 3) := by decide +kernel
theorem dX4_commonDivisorWithTen_16 : decode cX4_commonDivisorWithTen 16 = .ok (.iconst 5, 1) := by decide +kernel
theorem dX4_commonDivisorWithTen_17 : decode cX4_commonDivisorWithTen 17 = .ok (.ireturn, 1) := by decide +kernel
theorem dX4_commonDivisorWithTen_18 : decode cX4_commonDivisorWithTen 18 = .ok (.iload_n 0, 1) := by decide +kernel
theorem dX4_commonDivisorWithTen_19 : decode cX4_commonDivisorWithTen 19 = .ok (.iconst 2, 1) := by decide +kernel
theorem dX4_commonDivisorWithTen_20 : decode cX4_commonDivisorWithTen 20 = .ok (.irem, 1) := by decide +kernel
theorem dX4_commonDivisorWithTen_21 : decode cX4_commonDivisorWithTen 21 = .ok (.ifCond .ne 7, 3) := by decide +kernel
theorem dX4_commonDivisorWithTen_24 : decode cX4_commonDivisorWithTen 24 = .ok (.iconst 2, 1) := by decide +kernel
theorem dX4_commonDivisorWithTen_25 : decode cX4_commonDivisorWithTen 25 = .ok (.goto 4, 3) := by decide +kernel
theorem dX4_commonDivisorWithTen_28 : decode cX4_commonDivisorWithTen 28 = .ok (.iconst 1, 1) := by decide +kernel
theorem dX4_commonDivisorWithTen_29 : decode cX4_commonDivisorWithTen 29 = .ok (.ireturn, 1) := by decide +kernel
