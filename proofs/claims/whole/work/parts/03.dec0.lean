theorem dX0_init_0 : decode cX0_init 0 = .ok (.aload_n 0, 1) := by decide +kernel
theorem dX0_init_1 : decode cX0_init 1 = .ok (.invokespecial 3, 3) := by decide +kernel
theorem dX0_init_4 : decode cX0_init 4 = .ok (.aload_n 0, 1) := by decide +kernel
theorem dX0_init_5 : decode cX0_init 5 = .ok (.iconst 0, 1) := by decide +kernel
theorem dX0_init_6 : decode cX0_init 6 = .ok (.putfield 9, 3) := by decide +kernel
theorem dX0_init_9 : decode cX0_init 9 = .ok (.aload_n 0, 1) := by decide +kernel
theorem dX0_init_10 : decode cX0_init 10 = .ok (.bipush 6, 2) := by decide +kernel
theorem dX0_init_12 : decode cX0_init 12 = .ok (.newarray .int, 2) := by decide +kernel
theorem dX0_init_14 : decode cX0_init 14 = .ok (.putfield 15, 3) := by decide +kernel
theorem dX0_init_17 : decode cX0_init 17 = .ok (.aload_n 0, 1) := by decide +kernel
theorem dX0_init_18 : decode cX0_init 18 = .ok (.bipush 6, 2) := by decide +kernel
theorem dX0_init_20 : decode cX0_init 20 = .ok (.newarray .int, 2) := by decide +kernel
theorem dX0_init_22 : decode cX0_init 22 = .ok (.putfield 19, 3) := by decide +kernel
theorem dX0_init_25 : decode cX0_init 25 = .ok (.aload_n 0, 1) := by decide +kernel
theorem dX0_init_26 : decode cX0_init 26 = .ok (.bipush 6, 2) := by decide +kernel
theorem dX0_init_28 : decode cX0_init 28 = .ok (.newarray .int, 2) := by decide +kernel
theorem dX0_init_30 : decode cX0_init 30 = .ok (.putfield 22, 3) := by decide +kernel
theorem dX0_init_33 : decode cX0_init 33 = .ok (.aload_n 0, 1) := by decide +kernel
theorem dX0_init_34 : decode cX0_init 34 = .ok (.bipush 6, 2) := by decide +kernel
theorem dX0_init_36 : decode cX0_init 36 = .ok (.newarray .int, 2) := by decide +kernel
theorem dX0_init_38 : decode cX0_init 38 = .ok (.putfield 25, 3) := by decide +kernel
theorem dX0_init_41 : decode cX0_init 41 = .ok (.aload_n 0, 1) := by decide +kernel
theorem dX0_init_42 : decode cX0_init 42 = .ok (.bipush 6, 2) := by decide +kernel
theorem dX0_init_44 : decode cX0_init 44 = .ok (.newarray .int, 2) := by decide +kernel
theorem dX0_init_46 : decode cX0_init 46 = .ok (.putfield 28, 3) := by decide +kernel
theorem dX0_init_49 : decode cX0_init 49 = .ok (.aload_n 0, 1) := by decide +kernel
theorem dX0_init_50 : decode cX0_init 50 = .ok (.getstatic 31, 3) := by decide +kernel
theorem dX0_init_53 : decode cX0_init 53 = .ok (.arraylength, 1) := by decide +kernel
theorem dX0_init_54 : decode cX0_init 54 = .ok (.newarray .int, 2) := by decide +kernel
theorem dX0_init_56 : decode cX0_init 56 = .ok (.putfield 34, 3) := by decide +kernel
theorem dX0_init_59 : decode cX0_init 59 = .ok (.getstatic 31, 3) := by decide +kernel
theorem dX0_init_62 : decode cX0_init 62 = .ok (.iconst 0, 1) := by decide +kernel
theorem dX0_init_63 : decode cX0_init 63 = .ok (.aload_n 0, 1) := by decide +kernel
theorem dX0_init_64 : decode cX0_init 64 = .ok (.getfield 34, 3) := by decide +kernel
theorem dX0_init_67 : decode cX0_init 67 = .ok (.iconst 0, 1) := by decide +kernel
theorem dX0_init_68 : decode cX0_init 68 = .ok (.aload_n 0, 1) := by decide +kernel
theorem dX0_init_69 : decode cX0_init 69 = .ok (.getfield 34, 3) := by decide +kernel
theorem dX0_init_72 : decode cX0_init 72 = .ok (.arraylength, 1) := by decide +kernel
theorem dX0_init_73 : decode cX0_init 73 = .ok (.invokestatic 37, 3) := by decide +kernel
theorem dX0_init_76 : decode cX0_init 76 = .ok (.return_, 1) := by decide +kernel
theorem dX0_copyFrom_0 : decode cX0_copyFrom 0 = .ok (.aload_n 0, 1) := by decide +kernel
theorem dX0_copyFrom_1 : decode cX0_copyFrom 1 = .ok (.aload_n 1, 1) := by decide +kernel
theorem dX0_copyFrom_2 : decode cX0_copyFrom 2 = .ok (.getfield 9, 3) := by decide +kernel
theorem dX0_copyFrom_5 : decode cX0_copyFrom 5 = .ok (.putfield 9, 3) := by decide +kernel
theorem dX0_copyFrom_8 : decode cX0_copyFrom 8 = .ok (.aload_n 1, 1) := by decide +kernel
theorem dX0_copyFrom_9 : decode cX0_copyFrom 9 = .ok (.getfield 15, 3) := by decide +kernel
theorem dX0_copyFrom_12 : decode cX0_copyFrom 12 = .ok (.iconst 0, 1) := by decide +kernel
theorem dX0_copyFrom_13 : decode cX0_copyFrom 13 = .ok (.aload_n 0, 1) := by decide +kernel
theorem dX0_copyFrom_14 : decode cX0_copyFrom 14 = .ok (.getfield 15, 3) := by decide +kernel
theorem dX0_copyFrom_17 : decode cX0_copyFrom 17 = .ok (.iconst 0, 1) := by decide +kernel
theorem dX0_copyFrom_18 : decode cX0_copyFrom 18 = .ok (.bipush 6, 2) := by decide +kernel
theorem dX0_copyFrom_20 : decode cX0_copyFrom 20 = .ok (.invokestatic 37, 3) := by decide +kernel
theorem dX0_copyFrom_23 : decode cX0_copyFrom 23 = .ok (.aload_n 1, 1) := by decide +kernel
theorem dX0_copyFrom_24 : decode cX0_copyFrom 24 = .ok (.getfield 19, 3) := by decide +kernel
theorem dX0_copyFrom_27 : decode cX0_copyFrom 27 = .ok (.iconst 0, 1) := by decide +kernel
theorem dX0_copyFrom_28 : decode cX0_copyFrom 28 = .ok (.aload_n 0, 1) := by decide +kernel
theorem dX0_copyFrom_29 : decode cX0_copyFrom 29 = .ok (.getfield 19, 3) := by decide +kernel
theorem dX0_copyFrom_32 : decode cX0_copyFrom 32 = .ok (.iconst 0, 1) := by decide +kernel
theorem dX0_copyFrom_33 : decode cX0_copyFrom 33 = .ok (.bipush 6, 2) := by decide +kernel
theorem dX0_copyFrom_35 : decode cX0_copyFrom 35 = .ok (.invokestatic 37, 3) := by decide +kernel
theorem dX0_copyFrom_38 : decode cX0_copyFrom 38 = .ok (.aload_n 1, 1) := by decide +kernel
theorem dX0_copyFrom_39 : decode cX0_copyFrom 39 = .ok (.getfield 22, 3) := by decide +kernel
theorem dX0_copyFrom_42 : decode cX0_copyFrom 42 = .ok (.iconst 0, 1) := by decide +kernel
theorem dX0_copyFrom_43 : decode cX0_copyFrom 43 = .ok (.aload_n 0, 1) := by decide +kernel
theorem dX0_copyFrom_44 : decode cX0_copyFrom 44 = .ok (.getfield 22, 3) := by decide +kernel
theorem dX0_copyFrom_47 : decode cX0_copyFrom 47 = .ok (.iconst 0, 1) := by decide +kernel
theorem dX0_copyFrom_48 : decode cX0_copyFrom 48 = .ok (.bipush 6, 2) := by decide +kernel
theorem dX0_copyFrom_50 : decode cX0_copyFrom 50 = .ok (.invokestatic 37, 3) := by decide +kernel
theorem dX0_copyFrom_53 : decode cX0_copyFrom 53 = .ok (.aload_n 1, 1) := by decide +kernel
theorem dX0_copyFrom_54 : decode cX0_copyFrom 54 = .ok (.getfield 25, 3) := by decide +kernel
theorem dX0_copyFrom_57 : decode cX0_copyFrom 57 = .ok (.iconst 0, 1) := by decide +kernel
theorem dX0_copyFrom_58 : decode cX0_copyFrom 58 = .ok (.aload_n 0, 1) := by decide +kernel
theorem dX0_copyFrom_59 : decode cX0_copyFrom 59 = .ok (.getfield 25, 3) := by decide +kernel
theorem dX0_copyFrom_62 : decode cX0_copyFrom 62 = .ok (.iconst 0, 1) := by decide +kernel
theorem dX0_copyFrom_63 : decode cX0_copyFrom 63 = .ok (.bipush 6, 2) := by decide +kernel
theorem dX0_copyFrom_65 : decode cX0_copyFrom 65 = .ok (.invokestatic 37, 3) := by decide +kernel
theorem dX0_copyFrom_68 : decode cX0_copyFrom 68 = .ok (.aload_n 1, 1) := by decide +kernel
theorem dX0_copyFrom_69 : decode cX0_copyFrom 69 = .ok (.getfield 28, 3) := by decide +kernel
theorem dX0_copyFrom_72 : decode cX0_copyFrom 72 = .ok (.iconst 0, 1) := by decide +kernel
theorem dX0_copyFrom_73 : decode cX0_copyFrom 73 = .ok (.aload_n 0, 1) := by decide +kernel
theorem dX0_copyFrom_74 : decode cX0_copyFrom 74 = .ok (.getfield 28, 3) := by decide +kernel
theorem dX0_copyFrom_77 : decode cX0_copyFrom 77 = .ok (.iconst 0, 1) := by decide +kernel
theorem dX0_copyFrom_78 : decode cX0_copyFrom 78 = .ok (.bipush 6, 2) := by decide +kernel
theorem dX0_copyFrom_80 : decode cX0_copyFrom 80 = .ok (.invokestatic 37, 3) := by decide +kernel
theorem dX0_copyFrom_83 : decode cX0_copyFrom 83 = .ok (.aload_n 1, 1) := by decide +kernel
theorem dX0_copyFrom_84 : decode cX0_copyFrom 84 = .ok (.getfield 34, 3) := by decide +kernel
theorem dX0_copyFrom_87 : decode cX0_copyFrom 87 = .ok (.iconst 0, 1) := by decide +kernel
theorem dX0_copyFrom_88 : decode cX0_copyFrom 88 = .ok (.aload_n 0, 1) := by decide +kernel
theorem dX0_copyFrom_89 : decode cX0_copyFrom 89 = .ok (.getfield 34, 3) := by decide +kernel
theorem dX0_copyFrom_92 : decode cX0_copyFrom 92 = .ok (.iconst 0, 1) := by decide +kernel
theorem dX0_copyFrom_93 : decode cX0_copyFrom 93 = .ok (.aload_n 0, 1) := by decide +kernel
theorem dX0_copyFrom_94 : decode cX0_copyFrom 94 = .ok (.getfield 34, 3) := by decide +kernel
theorem dX0_copyFrom_97 : decode cX0_copyFrom 97 = .ok (.arraylength, 1) := by decide +kernel
theorem dX0_copyFrom_98 : decode cX0_copyFrom 98 = .ok (.invokestatic 37, 3) := by decide +kernel
theorem dX0_copyFrom_101 : decode cX0_copyFrom 101 = .ok (.return_, 1) := by decide +kernel
theorem dX0_hasFloor_0 : decode cX0_hasFloor 0 = .ok (.iload_n 1, 1) := by decide +kernel
theorem dX0_hasFloor_1 : decode cX0_hasFloor 1 = .ok (.ifCond .lt 15, 3) := by decide +kernel
theorem dX0_hasFloor_4 : decode cX0_hasFloor 4 = .ok (.iload_n 1, 1) := by decide +kernel
theorem dX0_hasFloor_5 : decode cX0_hasFloor 5 = .ok (.aload_n 0, 1) := by decide +kernel
theorem dX0_hasFloor_6 : decode cX0_hasFloor 6 = .ok (.getfield 9, 3) := by decide +kernel
theorem dX0_hasFloor_9 : decode cX0_hasFloor 9 = .ok (.if_icmp .ge 7, 3) := by decide +kernel
theorem dX0_hasFloor_12 : decode cX0_hasFloor 12 = .ok (.iconst 1, 1) := by decide +kernel
theorem dX0_hasFloor_13 : decode cX0_hasFloor 13 = .ok (.goto 4, 3) := by decide +kernel
theorem dX0_hasFloor_16 : decode cX0_hasFloor 16 = .ok (.iconst 0, 1) := by decide +kernel
theorem dX0_hasFloor_17 : decode cX0_hasFloor 17 = .ok (.ireturn, 1) := by decide +kernel
theorem dX0_addFloor_0 : decode cX0_addFloor 0 = .ok (.aload_n 0, 1) := by decide +kernel
theorem dX0_addFloor_1 : decode cX0_addFloor 1 = .ok (.getfield 15, 3) := by decide +kernel
theorem dX0_addFloor_4 : decode cX0_addFloor 4 = .ok (.aload_n 0, 1) := by decide +kernel
theorem dX0_addFloor_5 : decode cX0_addFloor 5 = .ok (.getfield 9, 3) := by decide +kernel
theorem dX0_addFloor_8 : decode cX0_addFloor 8 = .ok (.iload_n 1, 1) := by decide +kernel
theorem dX0_addFloor_9 : decode cX0_addFloor 9 = .ok (.iastore, 1) := by decide +kernel
theorem dX0_addFloor_10 : decode cX0_addFloor 10 = .ok (.aload_n 0, 1) := by decide +kernel
theorem dX0_addFloor_11 : decode cX0_addFloor 11 = .ok (.getfield 19, 3) := by decide +kernel
theorem dX0_addFloor_14 : decode cX0_addFloor 14 = .ok (.aload_n 0, 1) := by decide +kernel
theorem dX0_addFloor_15 : decode cX0_addFloor 15 = .ok (.getfield 9, 3) := by decide +kernel
theorem dX0_addFloor_18 : decode cX0_addFloor 18 = .ok (.iload_n 2, 1) := by decide +kernel
theorem dX0_addFloor_19 : decode cX0_addFloor 19 = .ok (.iastore, 1) := by decide +kernel
theorem dX0_addFloor_20 : decode cX0_addFloor 20 = .ok (.aload_n 0, 1) := by decide +kernel
theorem dX0_addFloor_21 : decode cX0_addFloor 21 = .ok (.getfield 22, 3) := by decide +kernel
theorem dX0_addFloor_24 : decode cX0_addFloor 24 = .ok (.aload_n 0, 1) := by decide +kernel
theorem dX0_addFloor_25 : decode cX0_addFloor 25 = .ok (.getfield 9, 3) := by decide +kernel
theorem dX0_addFloor_28 : decode cX0_addFloor 28 = .ok (.iload_n 3, 1) := by decide +kernel
theorem dX0_addFloor_29 : decode cX0_addFloor 29 = .ok (.iastore, 1) := by decide +kernel
theorem dX0_addFloor_30 : decode cX0_addFloor 30 = .ok (.aload_n 0, 1) := by decide +kernel
theorem dX0_addFloor_31 : decode cX0_addFloor 31 = .ok (.getfield 25, 3) := by decide +kernel
theorem dX0_addFloor_34 : decode cX0_addFloor 34 = .ok (.aload_n 0, 1) := by decide +kernel
theorem dX0_addFloor_35 : decode cX0_addFloor 35 = .ok (.getfield 9, 3) := by decide +kernel
theorem dX0_addFloor_38 : decode cX0_addFloor 38 = .ok (.iload 4, 2) := by decide +kernel
theorem dX0_addFloor_40 : decode cX0_addFloor 40 = .ok (.iastore, 1) := by decide +kernel
theorem dX0_addFloor_41 : decode cX0_addFloor 41 = .ok (.aload_n 0, 1) := by decide +kernel
theorem dX0_addFloor_42 : decode cX0_addFloor 42 = .ok (.getfield 28, 3) := by decide +kernel
theorem dX0_addFloor_45 : decode cX0_addFloor 45 = .ok (.aload_n 0, 1) := by decide +kernel
theorem dX0_addFloor_46 : decode cX0_addFloor 46 = .ok (.getfield 9, 3) := by decide +kernel
theorem dX0_addFloor_49 : decode cX0_addFloor 49 = .ok (.aload_n 0, 1) := by decide +kernel
theorem dX0_addFloor_50 : decode cX0_addFloor 50 = .ok (.getfield 9, 3) := by decide +kernel
theorem dX0_addFloor_53 : decode cX0_addFloor 53 = .ok (.iastore, 1) := by decide +kernel
theorem dX0_addFloor_54 : decode cX0_addFloor 54 = .ok (.aload_n 0, 1) := by decide +kernel
theorem dX0_addFloor_55 : decode cX0_addFloor 55 = .ok (.dup, 1) := by decide +kernel
theorem dX0_addFloor_56 : decode cX0_addFloor 56 = .ok (.getfield 9, 3) := by decide +kernel
theorem dX0_addFloor_59 : decode cX0_addFloor 59 = .ok (.iconst 1, 1) := by decide +kernel
theorem dX0_addFloor_60 : decode cX0_addFloor 60 = .ok (.iadd, 1) := by decide +kernel
theorem dX0_addFloor_61 : decode cX0_addFloor 61 = .ok (.putfield 9, 3) := by decide +kernel
theorem dX0_addFloor_64 : decode cX0_addFloor 64 = .ok (.return_, 1) := by decide +kernel
theorem dX0_placeOf_0 : decode cX0_placeOf 0 = .ok (.iconst 0, 1) := by decide +kernel
theorem dX0_placeOf_1 : decode cX0_placeOf 1 = .ok (.istore_n 2, 1) := by decide +kernel
theorem dX0_placeOf_2 : decode cX0_placeOf 2 = .ok (.iload_n 2, 1) := by decide +kernel
theorem dX0_placeOf_3 : decode cX0_placeOf 3 = .ok (.aload_n 0, 1) := by decide +kernel
theorem dX0_placeOf_4 : decode cX0_placeOf 4 = .ok (.getfield 9, 3) := by decide +kernel
theorem dX0_placeOf_7 : decode cX0_placeOf 7 = .ok (.if_icmp .ge 21, 3) := by decide +kernel
theorem dX0_placeOf_10 : decode cX0_placeOf 10 = .ok (.aload_n 0, 1) := by decide +kernel
theorem dX0_placeOf_11 : decode cX0_placeOf 11 = .ok (.getfield 28, 3) := by decide +kernel
theorem dX0_placeOf_14 : decode cX0_placeOf 14 = .ok (.iload_n 2, 1) := by decide +kernel
theorem dX0_placeOf_15 : decode cX0_placeOf 15 = .ok (.iaload, 1) := by decide +kernel
theorem dX0_placeOf_16 : decode cX0_placeOf 16 = .ok (.iload_n 1, 1) := by decide +kernel
theorem dX0_placeOf_17 : decode cX0_placeOf 17 = .ok (.if_icmp .ne 5, 3) := by decide +kernel
theorem dX0_placeOf_20 : decode cX0_placeOf 20 = .ok (.iload_n 2, 1) := by decide +kernel
theorem dX0_placeOf_21 : decode cX0_placeOf 21 = .ok (.ireturn, 1) := by decide +kernel
theorem dX0_placeOf_22 : decode cX0_placeOf 22 = .ok (.iinc 2 1, 3) := by decide +kernel
theorem dX0_placeOf_25 : decode cX0_placeOf 25 = .ok (.goto (-23), 3) := by decide +kernel
theorem dX0_placeOf_28 : decode cX0_placeOf 28 = .ok (.iconst 0, 1) := by decide +kernel
theorem dX0_placeOf_29 : decode cX0_placeOf 29 = .ok (.ireturn, 1) := by decide +kernel
theorem dX0_canSwap_0 : decode cX0_canSwap 0 = .ok (.aload_n 0, 1) := by decide +kernel
theorem dX0_canSwap_1 : decode cX0_canSwap 1 = .ok (.iload_n 1, 1) := by decide +kernel
theorem dX0_canSwap_2 : decode cX0_canSwap 2 = .ok (.invokevirtual 43, 3) := by decide +kernel
theorem dX0_canSwap_5 : decode cX0_canSwap 5 = .ok (.ifCond .eq 20, 3) := by decide +kernel
theorem dX0_canSwap_8 : decode cX0_canSwap 8 = .ok (.aload_n 0, 1) := by decide +kernel
theorem dX0_canSwap_9 : decode cX0_canSwap 9 = .ok (.iload_n 2, 1) := by decide +kernel
theorem dX0_canSwap_10 : decode cX0_canSwap 10 = .ok (.invokevirtual 43, 3) := by decide +kernel
theorem dX0_canSwap_13 : decode cX0_canSwap 13 = .ok (.ifCond .eq 12, 3) := by decide +kernel
theorem dX0_canSwap_16 : decode cX0_canSwap 16 = .ok (.iload_n 1, 1) := by decide +kernel
theorem dX0_canSwap_17 : decode cX0_canSwap 17 = .ok (.iload_n 2, 1) := by decide +kernel
theorem dX0_canSwap_18 : decode cX0_canSwap 18 = .ok (.if_icmp .eq 7, 3) := by decide +kernel
theorem dX0_canSwap_21 : decode cX0_canSwap 21 = .ok (.iconst 1, 1) := by decide +kernel
theorem dX0_canSwap_22 : decode cX0_canSwap 22 = .ok (.goto 4, 3) := by decide +kernel
theorem dX0_canSwap_25 : decode cX0_canSwap 25 = .ok (.iconst 0, 1) := by decide +kernel
theorem dX0_canSwap_26 : decode cX0_canSwap 26 = .ok (.ireturn, 1) := by decide +kernel
theorem dX0_swap_0 : decode cX0_swap 0 = .ok (.aload_n 0, 1) := by decide +kernel
theorem dX0_swap_1 : decode cX0_swap 1 = .ok (.iload_n 1, 1) := by decide +kernel
theorem dX0_swap_2 : decode cX0_swap 2 = .ok (.invokevirtual 47, 3) := by decide +kernel
theorem dX0_swap_5 : decode cX0_swap 5 = .ok (.istore_n 3, 1) := by decide +kernel
theorem dX0_swap_6 : decode cX0_swap 6 = .ok (.aload_n 0, 1) := by decide +kernel
theorem dX0_swap_7 : decode cX0_swap 7 = .ok (.getfield 28, 3) := by decide +kernel
theorem dX0_swap_10 : decode cX0_swap 10 = .ok (.aload_n 0, 1) := by decide +kernel
theorem dX0_swap_11 : decode cX0_swap 11 = .ok (.iload_n 2, 1) := by decide +kernel
theorem dX0_swap_12 : decode cX0_swap 12 = .ok (.invokevirtual 47, 3) := by decide +kernel
theorem dX0_swap_15 : decode cX0_swap 15 = .ok (.iload_n 1, 1) := by decide +kernel
theorem dX0_swap_16 : decode cX0_swap 16 = .ok (.iastore, 1) := by decide +kernel
theorem dX0_swap_17 : decode cX0_swap 17 = .ok (.aload_n 0, 1) := by decide +kernel
theorem dX0_swap_18 : decode cX0_swap 18 = .ok (.getfield 28, 3) := by decide +kernel
theorem dX0_swap_21 : decode cX0_swap 21 = .ok (.iload_n 3, 1) := by decide +kernel
theorem dX0_swap_22 : decode cX0_swap 22 = .ok (.iload_n 2, 1) := by decide +kernel
theorem dX0_swap_23 : decode cX0_swap 23 = .ok (.iastore, 1) := by decide +kernel
theorem dX0_swap_24 : decode cX0_swap 24 = .ok (.return_, 1) := by decide +kernel
theorem dX0_allPeople_0 : decode cX0_allPeople 0 = .ok (.iconst 0, 1) := by decide +kernel
theorem dX0_allPeople_1 : decode cX0_allPeople 1 = .ok (.istore_n 1, 1) := by decide +kernel
theorem dX0_allPeople_2 : decode cX0_allPeople 2 = .ok (.iconst 0, 1) := by decide +kernel
theorem dX0_allPeople_3 : decode cX0_allPeople 3 = .ok (.istore_n 2, 1) := by decide +kernel
theorem dX0_allPeople_4 : decode cX0_allPeople 4 = .ok (.iload_n 2, 1) := by decide +kernel
theorem dX0_allPeople_5 : decode cX0_allPeople 5 = .ok (.aload_n 0, 1) := by decide +kernel
theorem dX0_allPeople_6 : decode cX0_allPeople 6 = .ok (.getfield 9, 3) := by decide +kernel
theorem dX0_allPeople_9 : decode cX0_allPeople 9 = .ok (.if_icmp .ge 18, 3) := by decide +kernel
theorem dX0_allPeople_12 : decode cX0_allPeople 12 = .ok (.iload_n 1, 1) := by decide +kernel
theorem dX0_allPeople_13 : decode cX0_allPeople 13 = .ok (.aload_n 0, 1) := by decide +kernel
theorem dX0_allPeople_14 : decode cX0_allPeople 14 = .ok (.getfield 22, 3) := by decide +kernel
theorem dX0_allPeople_17 : decode cX0_allPeople 17 = .ok (.iload_n 2, 1) := by decide +kernel
theorem dX0_allPeople_18 : decode cX0_allPeople 18 = .ok (.iaload, 1) := by decide +kernel
theorem dX0_allPeople_19 : decode cX0_allPeople 19 = .ok (.iadd, 1) := by decide +kernel
theorem dX0_allPeople_20 : decode cX0_allPeople 20 = .ok (.istore_n 1, 1) := by decide +kernel
theorem dX0_allPeople_21 : decode cX0_allPeople 21 = .ok (.iinc 2 1, 3) := by decide +kernel
theorem dX0_allPeople_24 : decode cX0_allPeople 24 = .ok (.goto (-20), 3) := by decide +kernel
theorem dX0_allPeople_27 : decode cX0_allPeople 27 = .ok (.iload_n 1, 1) := by decide +kernel
theorem dX0_allPeople_28 : decode cX0_allPeople 28 = .ok (.ireturn, 1) := by decide +kernel
theorem dX0_comingAt_0 : decode cX0_comingAt 0 = .ok (.aload_n 0, 1) := by decide +kernel
theorem dX0_comingAt_1 : decode cX0_comingAt 1 = .ok (.getfield 15, 3) := by decide +kernel
theorem dX0_comingAt_4 : decode cX0_comingAt 4 = .ok (.iload_n 1, 1) := by decide +kernel
theorem dX0_comingAt_5 : decode cX0_comingAt 5 = .ok (.iaload, 1) := by decide +kernel
theorem dX0_comingAt_6 : decode cX0_comingAt 6 = .ok (.tableswitch 61 1 5 #[34, 51, 61, 51, 34], 34) := by decide +kernel
theorem dX0_comingAt_40 : decode cX0_comingAt 40 = .ok (.iload_n 2, 1) := by decide +kernel
theorem dX0_comingAt_41 : decode cX0_comingAt 41 = .ok (.bipush 10, 2) := by decide +kernel
theorem dX0_comingAt_43 : decode cX0_comingAt 43 = .ok (.if_icmp .ge 7, 3) := by decide +kernel
theorem dX0_comingAt_46 : decode cX0_comingAt 46 = .ok (.iconst 0, 1) := by decide +kernel
theorem dX0_comingAt_47 : decode cX0_comingAt 47 = .ok (.goto 9, 3) := by decide +kernel
theorem dX0_comingAt_50 : decode cX0_comingAt 50 = .ok (.aload_n 0, 1) := by decide +kernel
theorem dX0_comingAt_51 : decode cX0_comingAt 51 = .ok (.getfield 22, 3) := by decide +kernel
theorem dX0_comingAt_54 : decode cX0_comingAt 54 = .ok (.iload_n 1, 1) := by decide +kernel
theorem dX0_comingAt_55 : decode cX0_comingAt 55 = .ok (.iaload, 1) := by decide +kernel
theorem dX0_comingAt_56 : decode cX0_comingAt 56 = .ok (.ireturn, 1) := by decide +kernel
theorem dX0_comingAt_57 : decode cX0_comingAt 57 = .ok (.aload_n 0, 1) := by decide +kernel
theorem dX0_comingAt_58 : decode cX0_comingAt 58 = .ok (.getfield 22, 3) := by decide +kernel
theorem dX0_comingAt_61 : decode cX0_comingAt 61 = .ok (.iload_n 1, 1) := by decide +kernel
theorem dX0_comingAt_62 : decode cX0_comingAt 62 = .ok (.iaload, 1) := by decide +kernel
theorem dX0_comingAt_63 : decode cX0_comingAt 63 = .ok (.invokestatic 51, 3) := by decide +kernel
theorem dX0_comingAt_66 : decode cX0_comingAt 66 = .ok (.ireturn, 1) := by decide +kernel
theorem dX0_comingAt_67 : decode cX0_comingAt 67 = .ok (.aload_n 0, 1) := by decide +kernel
theorem dX0_comingAt_68 : decode cX0_comingAt 68 = .ok (.getfield 22, 3) := by decide +kernel
theorem dX0_comingAt_71 : decode cX0_comingAt 71 = .ok (.iload_n 1, 1) := by decide +kernel
theorem dX0_comingAt_72 : decode cX0_comingAt 72 = .ok (.iaload, 1) := by decide +kernel
theorem dX0_comingAt_73 : decode cX0_comingAt 73 = .ok (.ireturn, 1) := by decide +kernel
theorem dX0_bunsWanted_0 : decode cX0_bunsWanted 0 = .ok (.aload_n 0, 1) := by decide +kernel
theorem dX0_bunsWanted_1 : decode cX0_bunsWanted 1 = .ok (.getfield 15, 3) := by decide +kernel
theorem dX0_bunsWanted_4 : decode cX0_bunsWanted 4 = .ok (.iload_n 1, 1) := by decide +kernel
theorem dX0_bunsWanted_5 : decode cX0_bunsWanted 5 = .ok (.iaload, 1) := by decide +kernel
theorem dX0_bunsWanted_6 : decode cX0_bunsWanted 6 = .ok (.iconst 4, 1) := by decide +kernel
theorem dX0_bunsWanted_7 : decode cX0_bunsWanted 7 = .ok (.if_icmp .ne 7, 3) := by decide +kernel
theorem dX0_bunsWanted_10 : decode cX0_bunsWanted 10 = .ok (.iconst 3, 1) := by decide +kernel
theorem dX0_bunsWanted_11 : decode cX0_bunsWanted 11 = .ok (.goto 4, 3) := by decide +kernel
theorem dX0_bunsWanted_14 : decode cX0_bunsWanted 14 = .ok (.iconst 1, 1) := by decide +kernel
theorem dX0_bunsWanted_15 : decode cX0_bunsWanted 15 = .ok (.ireturn, 1) := by decide +kernel
theorem dX0_minutesToServe_0 : decode cX0_minutesToServe 0 = .ok (.iload_n 2, 1) := by decide +kernel
theorem dX0_minutesToServe_1 : decode cX0_minutesToServe 1 = .ok (.invokestatic 51, 3) := by decide +kernel
theorem dX0_minutesToServe_4 : decode cX0_minutesToServe 4 = .ok (.aload_n 0, 1) := by decide +kernel
theorem dX0_minutesToServe_5 : decode cX0_minutesToServe 5 = .ok (.getfield 25, 3) := by decide +kernel
theorem dX0_minutesToServe_8 : decode cX0_minutesToServe 8 = .ok (.iload_n 1, 1) := by decide +kernel
theorem dX0_minutesToServe_9 : decode cX0_minutesToServe 9 = .ok (.iaload, 1) := by decide +kernel
theorem dX0_minutesToServe_10 : decode cX0_minutesToServe 10 = .ok (.iadd, 1) := by decide +kernel
theorem dX0_minutesToServe_11 : decode cX0_minutesToServe 11 = .ok (.istore_n 3, 1) := by decide +kernel
theorem dX0_minutesToServe_12 : decode cX0_minutesToServe 12 = .ok (.aload_n 0, 1) := by decide +kernel
theorem dX0_minutesToServe_13 : decode cX0_minutesToServe 13 = .ok (.getfield 15, 3) := by decide +kernel
theorem dX0_minutesToServe_16 : decode cX0_minutesToServe 16 = .ok (.iload_n 1, 1) := by decide +kernel
theorem dX0_minutesToServe_17 : decode cX0_minutesToServe 17 = .ok (.iaload, 1) := by decide +kernel
theorem dX0_minutesToServe_18 : decode cX0_minutesToServe 18 = .ok (.iconst 3, 1) := by decide +kernel
theorem dX0_minutesToServe_19 : decode cX0_minutesToServe 19 = .ok (.if_icmp .ne 7, 3) := by decide +kernel
theorem dX0_minutesToServe_22 : decode cX0_minutesToServe 22 = .ok (.iload_n 3, 1) := by decide +kernel
theorem dX0_minutesToServe_23 : decode cX0_minutesToServe 23 = .ok (.iconst 2, 1) := by decide +kernel
theorem dX0_minutesToServe_24 : decode cX0_minutesToServe 24 = .ok (.iadd, 1) := by decide +kernel
theorem dX0_minutesToServe_25 : decode cX0_minutesToServe 25 = .ok (.ireturn, 1) := by decide +kernel
theorem dX0_minutesToServe_26 : decode cX0_minutesToServe 26 = .ok (.aload_n 0, 1) := by decide +kernel
theorem dX0_minutesToServe_27 : decode cX0_minutesToServe 27 = .ok (.getfield 15, 3) := by decide +kernel
theorem dX0_minutesToServe_30 : decode cX0_minutesToServe 30 = .ok (.iload_n 1, 1) := by decide +kernel
theorem dX0_minutesToServe_31 : decode cX0_minutesToServe 31 = .ok (.iaload, 1) := by decide +kernel
theorem dX0_minutesToServe_32 : decode cX0_minutesToServe 32 = .ok (.iconst 5, 1) := by decide +kernel
theorem dX0_minutesToServe_33 : decode cX0_minutesToServe 33 = .ok (.if_icmp .ne 9, 3) := by decide +kernel
theorem dX0_minutesToServe_36 : decode cX0_minutesToServe 36 = .ok (.iload_n 3, 1) := by decide +kernel
theorem dX0_minutesToServe_37 : decode cX0_minutesToServe 37 = .ok (.iconst 2, 1) := by decide +kernel
theorem dX0_minutesToServe_38 : decode cX0_minutesToServe 38 = .ok (.idiv, 1) := by decide +kernel
theorem dX0_minutesToServe_39 : decode cX0_minutesToServe 39 = .ok (.goto 4, 3) := by decide +kernel
theorem dX0_minutesToServe_42 : decode cX0_minutesToServe 42 = .ok (.iload_n 3, 1) := by decide +kernel
theorem dX0_minutesToServe_43 : decode cX0_minutesToServe 43 = .ok (.ireturn, 1) := by decide +kernel
theorem dX0_minutesBetween_0 : decode cX0_minutesBetween 0 = .ok (.aload_n 0, 1) := by decide +kernel
theorem dX0_minutesBetween_1 : decode cX0_minutesBetween 1 = .ok (.getfield 34, 3) := by decide +kernel
theorem dX0_minutesBetween_4 : decode cX0_minutesBetween 4 = .ok (.bipush 6, 2) := by decide +kernel
theorem dX0_minutesBetween_6 : decode cX0_minutesBetween 6 = .ok (.iaload, 1) := by decide +kernel
theorem dX0_minutesBetween_7 : decode cX0_minutesBetween 7 = .ok (.ifCond .ne 12, 3) := by decide +kernel
theorem dX0_minutesBetween_10 : decode cX0_minutesBetween 10 = .ok (.aload_n 0, 1) := by decide +kernel
theorem dX0_minutesBetween_11 : decode cX0_minutesBetween 11 = .ok (.iload_n 1, 1) := by decide +kernel
theorem dX0_minutesBetween_12 : decode cX0_minutesBetween 12 = .ok (.iload_n 2, 1) := by decide +kernel
theorem dX0_minutesBetween_13 : decode cX0_minutesBetween 13 = .ok (.invokevirtual 54, 3) := by decide +kernel
theorem dX0_minutesBetween_16 : decode cX0_minutesBetween 16 = .ok (.goto 8, 3) := by decide +kernel
theorem dX0_minutesBetween_19 : decode cX0_minutesBetween 19 = .ok (.iload_n 1, 1) := by decide +kernel
theorem dX0_minutesBetween_20 : decode cX0_minutesBetween 20 = .ok (.iload_n 2, 1) := by decide +kernel
theorem dX0_minutesBetween_21 : decode cX0_minutesBetween 21 = .ok (.invokestatic 58, 3) := by decide +kernel
theorem dX0_minutesBetween_24 : decode cX0_minutesBetween 24 = .ok (.ireturn, 1) := by decide +kernel
theorem dX0_minutesByLift_0 : decode cX0_minutesByLift 0 = .ok (.iload_n 1, 1) := by decide +kernel
theorem dX0_minutesByLift_1 : decode cX0_minutesByLift 1 = .ok (.iload_n 2, 1) := by decide +kernel
theorem dX0_minutesByLift_2 : decode cX0_minutesByLift 2 = .ok (.if_icmp .ne 7, 3) := by decide +kernel
theorem dX0_minutesByLift_5 : decode cX0_minutesByLift 5 = .ok (.iconst 0, 1) := by decide +kernel
theorem dX0_minutesByLift_6 : decode cX0_minutesByLift 6 = .ok (.goto 17, 3) := by decide +kernel
theorem dX0_minutesByLift_9 : decode cX0_minutesByLift 9 = .ok (.aload_n 0, 1) := by decide +kernel
theorem dX0_minutesByLift_10 : decode cX0_minutesByLift 10 = .ok (.getfield 34, 3) := by decide +kernel
theorem dX0_minutesByLift_13 : decode cX0_minutesByLift 13 = .ok (.bipush 7, 2) := by decide +kernel
theorem dX0_minutesByLift_15 : decode cX0_minutesByLift 15 = .ok (.iaload, 1) := by decide +kernel
theorem dX0_minutesByLift_16 : decode cX0_minutesByLift 16 = .ok (.iload_n 1, 1) := by decide +kernel
theorem dX0_minutesByLift_17 : decode cX0_minutesByLift 17 = .ok (.iload_n 2, 1) := by decide +kernel
theorem dX0_minutesByLift_18 : decode cX0_minutesByLift 18 = .ok (.isub, 1) := by decide +kernel
theorem dX0_minutesByLift_19 : decode cX0_minutesByLift 19 = .ok (.invokestatic 61, 3) := by decide +kernel
theorem dX0_minutesByLift_22 : decode cX0_minutesByLift 22 = .ok (.iadd, 1) := by decide +kernel
theorem dX0_minutesByLift_23 : decode cX0_minutesByLift 23 = .ok (.ireturn, 1) := by decide +kernel
theorem dX0_minutesByRamp_0 : decode cX0_minutesByRamp 0 = .ok (.iconst 3, 1) := by decide +kernel
theorem dX0_minutesByRamp_1 : decode cX0_minutesByRamp 1 = .ok (.iload_n 0, 1) := by decide +kernel
theorem dX0_minutesByRamp_2 : decode cX0_minutesByRamp 2 = .ok (.iload_n 1, 1) := by decide +kernel
theorem dX0_minutesByRamp_3 : decode cX0_minutesByRamp 3 = .ok (.isub, 1) := by decide +kernel
theorem dX0_minutesByRamp_4 : decode cX0_minutesByRamp 4 = .ok (.invokestatic 61, 3) := by decide +kernel
theorem dX0_minutesByRamp_7 : decode cX0_minutesByRamp 7 = .ok (.imul, 1) := by decide +kernel
theorem dX0_minutesByRamp_8 : decode cX0_minutesByRamp 8 = .ok (.ireturn, 1) := by decide +kernel
theorem dX0_halfRoundedUp_0 : decode cX0_halfRoundedUp 0 = .ok (.iload_n 0, 1) := by decide +kernel
theorem dX0_halfRoundedUp_1 : decode cX0_halfRoundedUp 1 = .ok (.iconst 1, 1) := by decide +kernel
theorem dX0_halfRoundedUp_2 : decode cX0_halfRoundedUp 2 = .ok (.iadd, 1) := by decide +kernel
theorem dX0_halfRoundedUp_3 : decode cX0_halfRoundedUp 3 = .ok (.iconst 2, 1) := by decide +kernel
theorem dX0_halfRoundedUp_4 : decode cX0_halfRoundedUp 4 = .ok (.idiv, 1) := by decide +kernel
theorem dX0_halfRoundedUp_5 : decode cX0_halfRoundedUp 5 = .ok (.ireturn, 1) := by decide +kernel
theorem dX1_init_0 : decode cX1_init 0 = .ok (.aload_n 0, 1) := by decide +kernel
theorem dX1_init_1 : decode cX1_init 1 = .ok (.invokespecial 3, 3) := by decide +kernel
theorem dX1_init_4 : decode cX1_init 4 = .ok (.aload_n 0, 1) := by decide +kernel
theorem dX1_init_5 : decode cX1_init 5 = .ok (.bipush 6, 2) := by decide +kernel
theorem dX1_init_7 : decode cX1_init 7 = .ok (.newarray .int, 2) := by decide +kernel
theorem dX1_init_9 : decode cX1_init 9 = .ok (.putfield 9, 3) := by decide +kernel
theorem dX1_init_12 : decode cX1_init 12 = .ok (.aload_n 0, 1) := by decide +kernel
theorem dX1_init_13 : decode cX1_init 13 = .ok (.iconst 0, 1) := by decide +kernel
theorem dX1_init_14 : decode cX1_init 14 = .ok (.putfield 15, 3) := by decide +kernel
theorem dX1_init_17 : decode cX1_init 17 = .ok (.return_, 1) := by decide +kernel
theorem dX1_begin_0 : decode cX1_begin 0 = .ok (.aload_n 0, 1) := by decide +kernel
theorem dX1_begin_1 : decode cX1_begin 1 = .ok (.iload_n 1, 1) := by decide +kernel
theorem dX1_begin_2 : decode cX1_begin 2 = .ok (.putfield 15, 3) := by decide +kernel
theorem dX1_begin_5 : decode cX1_begin 5 = .ok (.iconst 0, 1) := by decide +kernel
theorem dX1_begin_6 : decode cX1_begin 6 = .ok (.istore_n 2, 1) := by decide +kernel
theorem dX1_begin_7 : decode cX1_begin 7 = .ok (.iload_n 2, 1) := by decide +kernel
theorem dX1_begin_8 : decode cX1_begin 8 = .ok (.aload_n 0, 1) := by decide +kernel
theorem dX1_begin_9 : decode cX1_begin 9 = .ok (.getfield 15, 3) := by decide +kernel
theorem dX1_begin_12 : decode cX1_begin 12 = .ok (.if_icmp .ge 16, 3) := by decide +kernel
theorem dX1_begin_15 : decode cX1_begin 15 = .ok (.aload_n 0, 1) := by decide +kernel
theorem dX1_begin_16 : decode cX1_begin 16 = .ok (.getfield 9, 3) := by decide +kernel
theorem dX1_begin_19 : decode cX1_begin 19 = .ok (.iload_n 2, 1) := by decide +kernel
theorem dX1_begin_20 : decode cX1_begin 20 = .ok (.iload_n 2, 1) := by decide +kernel
theorem dX1_begin_21 : decode cX1_begin 21 = .ok (.iastore, 1) := by decide +kernel
theorem dX1_begin_22 : decode cX1_begin 22 = .ok (.iinc 2 1, 3) := by decide +kernel
theorem dX1_begin_25 : decode cX1_begin 25 = .ok (.goto (-18), 3) := by decide +kernel
theorem dX1_begin_28 : decode cX1_begin 28 = .ok (.return_, 1) := by decide +kernel
theorem dX1_copyTo_0 : decode cX1_copyTo 0 = .ok (.aload_n 0, 1) := by decide +kernel
theorem dX1_copyTo_1 : decode cX1_copyTo 1 = .ok (.getfield 9, 3) := by decide +kernel
theorem dX1_copyTo_4 : decode cX1_copyTo 4 = .ok (.iconst 0, 1) := by decide +kernel
theorem dX1_copyTo_5 : decode cX1_copyTo 5 = .ok (.aload_n 1, 1) := by decide +kernel
theorem dX1_copyTo_6 : decode cX1_copyTo 6 = .ok (.iconst 0, 1) := by decide +kernel
theorem dX1_copyTo_7 : decode cX1_copyTo 7 = .ok (.aload_n 0, 1) := by decide +kernel
theorem dX1_copyTo_8 : decode cX1_copyTo 8 = .ok (.getfield 15, 3) := by decide +kernel
theorem dX1_copyTo_11 : decode cX1_copyTo 11 = .ok (.invokestatic 19, 3) := by decide +kernel
theorem dX1_copyTo_14 : decode cX1_copyTo 14 = .ok (.return_, 1) := by decide +kernel
theorem dX1_advance_0 : decode cX1_advance 0 = .ok (.aload_n 0, 1) := by decide +kernel
theorem dX1_advance_1 : decode cX1_advance 1 = .ok (.getfield 15, 3) := by decide +kernel
theorem dX1_advance_4 : decode cX1_advance 4 = .ok (.iconst 2, 1) := by decide +kernel
theorem dX1_advance_5 : decode cX1_advance 5 = .ok (.isub, 1) := by decide +kernel
theorem dX1_advance_6 : decode cX1_advance 6 = .ok (.istore_n 1, 1) := by decide +kernel
theorem dX1_advance_7 : decode cX1_advance 7 = .ok (.iload_n 1, 1) := by decide +kernel
theorem dX1_advance_8 : decode cX1_advance 8 = .ok (.ifCond .lt 26, 3) := by decide +kernel
theorem dX1_advance_11 : decode cX1_advance 11 = .ok (.aload_n 0, 1) := by decide +kernel
theorem dX1_advance_12 : decode cX1_advance 12 = .ok (.getfield 9, 3) := by decide +kernel
theorem dX1_advance_15 : decode cX1_advance 15 = .ok (.iload_n 1, 1) := by decide +kernel
theorem dX1_advance_16 : decode cX1_advance 16 = .ok (.iaload, 1) := by decide +kernel
theorem dX1_advance_17 : decode cX1_advance 17 = .ok (.aload_n 0, 1) := by decide +kernel
theorem dX1_advance_18 : decode cX1_advance 18 = .ok (.getfield 9, 3) := by decide +kernel
theorem dX1_advance_21 : decode cX1_advance 21 = .ok (.iload_n 1, 1) := by decide +kernel
theorem dX1_advance_22 : decode cX1_advance 22 = .ok (.iconst 1, 1) := by decide +kernel
theorem dX1_advance_23 : decode cX1_advance 23 = .ok (.iadd, 1) := by decide +kernel
theorem dX1_advance_24 : decode cX1_advance 24 = .ok (.iaload, 1) := by decide +kernel
theorem dX1_advance_25 : decode cX1_advance 25 = .ok (.if_icmp .le 9, 3) := by decide +kernel
theorem dX1_advance_28 : decode cX1_advance 28 = .ok (.iinc 1 (-1), 3) := by decide +kernel
theorem dX1_advance_31 : decode cX1_advance 31 = .ok (.goto (-24), 3) := by decide +kernel
theorem dX1_advance_34 : decode cX1_advance 34 = .ok (.iload_n 1, 1) := by decide +kernel
theorem dX1_advance_35 : decode cX1_advance 35 = .ok (.ifCond .ge 5, 3) := by decide +kernel
theorem dX1_advance_38 : decode cX1_advance 38 = .ok (.iconst 0, 1) := by decide +kernel
theorem dX1_advance_39 : decode cX1_advance 39 = .ok (.ireturn, 1) := by decide +kernel
theorem dX1_advance_40 : decode cX1_advance 40 = .ok (.aload_n 0, 1) := by decide +kernel
theorem dX1_advance_41 : decode cX1_advance 41 = .ok (.getfield 15, 3) := by decide +kernel
theorem dX1_advance_44 : decode cX1_advance 44 = .ok (.iconst 1, 1) := by decide +kernel
theorem dX1_advance_45 : decode cX1_advance 45 = .ok (.isub, 1) := by decide +kernel
theorem dX1_advance_46 : decode cX1_advance 46 = .ok (.istore_n 2, 1) := by decide +kernel
theorem dX1_advance_47 : decode cX1_advance 47 = .ok (.iload_n 2, 1) := by decide +kernel
theorem dX1_advance_48 : decode cX1_advance 48 = .ok (.iload_n 1, 1) := by decide +kernel
theorem dX1_advance_49 : decode cX1_advance 49 = .ok (.if_icmp .le 24, 3) := by decide +kernel
theorem dX1_advance_52 : decode cX1_advance 52 = .ok (.aload_n 0, 1) := by decide +kernel
theorem dX1_advance_53 : decode cX1_advance 53 = .ok (.getfield 9, 3) := by decide +kernel
theorem dX1_advance_56 : decode cX1_advance 56 = .ok (.iload_n 2, 1) := by decide +kernel
theorem dX1_advance_57 : decode cX1_advance 57 = .ok (.iaload, 1) := by decide +kernel
theorem dX1_advance_58 : decode cX1_advance 58 = .ok (.aload_n 0, 1) := by decide +kernel
theorem dX1_advance_59 : decode cX1_advance 59 = .ok (.getfield 9, 3) := by decide +kernel
theorem dX1_advance_62 : decode cX1_advance 62 = .ok (.iload_n 1, 1) := by decide +kernel
theorem dX1_advance_63 : decode cX1_advance 63 = .ok (.iaload, 1) := by decide +kernel
theorem dX1_advance_64 : decode cX1_advance 64 = .ok (.if_icmp .ge 9, 3) := by decide +kernel
theorem dX1_advance_67 : decode cX1_advance 67 = .ok (.iinc 2 (-1), 3) := by decide +kernel
theorem dX1_advance_70 : decode cX1_advance 70 = .ok (.goto (-23), 3) := by decide +kernel
theorem dX1_advance_73 : decode cX1_advance 73 = .ok (.aload_n 0, 1) := by decide +kernel
theorem dX1_advance_74 : decode cX1_advance 74 = .ok (.iload_n 1, 1) := by decide +kernel
theorem dX1_advance_75 : decode cX1_advance 75 = .ok (.iload_n 2, 1) := by decide +kernel
theorem dX1_advance_76 : decode cX1_advance 76 = .ok (.invokevirtual 25, 3) := by decide +kernel
theorem dX1_advance_79 : decode cX1_advance 79 = .ok (.iload_n 1, 1) := by decide +kernel
theorem dX1_advance_80 : decode cX1_advance 80 = .ok (.iconst 1, 1) := by decide +kernel
theorem dX1_advance_81 : decode cX1_advance 81 = .ok (.iadd, 1) := by decide +kernel
theorem dX1_advance_82 : decode cX1_advance 82 = .ok (.istore_n 3, 1) := by decide +kernel
theorem dX1_advance_83 : decode cX1_advance 83 = .ok (.aload_n 0, 1) := by decide +kernel
theorem dX1_advance_84 : decode cX1_advance 84 = .ok (.getfield 15, 3) := by decide +kernel
theorem dX1_advance_87 : decode cX1_advance 87 = .ok (.iconst 1, 1) := by decide +kernel
theorem dX1_advance_88 : decode cX1_advance 88 = .ok (.isub, 1) := by decide +kernel
theorem dX1_advance_89 : decode cX1_advance 89 = .ok (.istore 4, 2) := by decide +kernel
theorem dX1_advance_91 : decode cX1_advance 91 = .ok (.iload_n 3, 1) := by decide +kernel
theorem dX1_advance_92 : decode cX1_advance 92 = .ok (.iload 4, 2) := by decide +kernel
theorem dX1_advance_94 : decode cX1_advance 94 = .ok (.if_icmp .ge 19, 3) := by decide +kernel
theorem dX1_advance_97 : decode cX1_advance 97 = .ok (.aload_n 0, 1) := by decide +kernel
theorem dX1_advance_98 : decode cX1_advance 98 = .ok (.iload_n 3, 1) := by decide +kernel
theorem dX1_advance_99 : decode cX1_advance 99 = .ok (.iload 4, 2) := by decide +kernel
theorem dX1_advance_101 : decode cX1_advance 101 = .ok (.invokevirtual 25, 3) := by decide +kernel
theorem dX1_advance_104 : decode cX1_advance 104 = .ok (.iinc 3 1, 3) := by decide +kernel
theorem dX1_advance_107 : decode cX1_advance 107 = .ok (.iinc 4 (-1), 3) := by decide +kernel
theorem dX1_advance_110 : decode cX1_advance 110 = .ok (.goto (-19), 3) := by decide +kernel
theorem dX1_advance_113 : decode cX1_advance 113 = .ok (.iconst 1, 1) := by decide +kernel
theorem dX1_advance_114 : decode cX1_advance 114 = .ok (.ireturn, 1) := by decide +kernel
theorem dX1_exchange_0 : decode cX1_exchange 0 = .ok (.aload_n 0, 1) := by decide +kernel
theorem dX1_exchange_1 : decode cX1_exchange 1 = .ok (.getfield 9, 3) := by decide +kernel
theorem dX1_exchange_4 : decode cX1_exchange 4 = .ok (.iload_n 1, 1) := by decide +kernel
theorem dX1_exchange_5 : decode cX1_exchange 5 = .ok (.iaload, 1) := by decide +kernel
theorem dX1_exchange_6 : decode cX1_exchange 6 = .ok (.istore_n 3, 1) := by decide +kernel
theorem dX1_exchange_7 : decode cX1_exchange 7 = .ok (.aload_n 0, 1) := by decide +kernel
theorem dX1_exchange_8 : decode cX1_exchange 8 = .ok (.getfield 9, 3) := by decide +kernel
theorem dX1_exchange_11 : decode cX1_exchange 11 = .ok (.iload_n 1, 1) := by decide +kernel
theorem dX1_exchange_12 : decode cX1_exchange 12 = .ok (.aload_n 0, 1) := by decide +kernel
theorem dX1_exchange_13 : decode cX1_exchange 13 = .ok (.getfield 9, 3) := by decide +kernel
theorem dX1_exchange_16 : decode cX1_exchange 16 = .ok (.iload_n 2, 1) := by decide +kernel
theorem dX1_exchange_17 : decode cX1_exchange 17 = .ok (.iaload, 1) := by decide +kernel
theorem dX1_exchange_18 : decode cX1_exchange 18 = .ok (.iastore, 1) := by decide +kernel
theorem dX1_exchange_19 : decode cX1_exchange 19 = .ok (.aload_n 0, 1) := by decide +kernel
theorem dX1_exchange_20 : decode cX1_exchange 20 = .ok (.getfield 9, 3) := by decide +kernel
theorem dX1_exchange_23 : decode cX1_exchange 23 = .ok (.iload_n 2, 1) := by decide +kernel
theorem dX1_exchange_24 : decode cX1_exchange 24 = .ok (.iload_n 3, 1) := by decide +kernel
theorem dX1_exchange_25 : decode cX1_exchange 25 = .ok (.iastore, 1) := by decide +kernel
theorem dX1_exchange_26 : decode cX1_exchange 26 = .ok (.return_, 1) := by decide +kernel
theorem dX2_init_0 : decode cX2_init 0 = .ok (.aload_n 0, 1) := by decide +kernel
theorem dX2_init_1 : decode cX2_init 1 = .ok (.invokespecial 3, 3) := by decide +kernel
theorem dX2_init_4 : decode cX2_init 4 = .ok (.aload_n 0, 1) := by decide +kernel
theorem dX2_init_5 : decode cX2_init 5 = .ok (.bipush 96, 2) := by decide +kernel
theorem dX2_init_7 : decode cX2_init 7 = .ok (.newarray .int, 2) := by decide +kernel
theorem dX2_init_9 : decode cX2_init 9 = .ok (.putfield 9, 3) := by decide +kernel
theorem dX2_init_12 : decode cX2_init 12 = .ok (.aload_n 0, 1) := by decide +kernel
theorem dX2_init_13 : decode cX2_init 13 = .ok (.iconst 0, 1) := by decide +kernel
theorem dX2_init_14 : decode cX2_init 14 = .ok (.putfield 15, 3) := by decide +kernel
theorem dX2_init_17 : decode cX2_init 17 = .ok (.return_, 1) := by decide +kernel
theorem dX2_add_0 : decode cX2_add 0 = .ok (.aload_n 0, 1) := by decide +kernel
theorem dX2_add_1 : decode cX2_add 1 = .ok (.getfield 9, 3) := by decide +kernel
theorem dX2_add_4 : decode cX2_add 4 = .ok (.aload_n 0, 1) := by decide +kernel
theorem dX2_add_5 : decode cX2_add 5 = .ok (.getfield 15, 3) := by decide +kernel
theorem dX2_add_8 : decode cX2_add 8 = .ok (.iload_n 1, 1) := by decide +kernel
theorem dX2_add_9 : decode cX2_add 9 = .ok (.iastore, 1) := by decide +kernel
theorem dX2_add_10 : decode cX2_add 10 = .ok (.aload_n 0, 1) := by decide +kernel
theorem dX2_add_11 : decode cX2_add 11 = .ok (.dup, 1) := by decide +kernel
theorem dX2_add_12 : decode cX2_add 12 = .ok (.getfield 15, 3) := by decide +kernel
theorem dX2_add_15 : decode cX2_add 15 = .ok (.iconst 1, 1) := by decide +kernel
theorem dX2_add_16 : decode cX2_add 16 = .ok (.iadd, 1) := by decide +kernel
theorem dX2_add_17 : decode cX2_add 17 = .ok (.putfield 15, 3) := by decide +kernel
theorem dX2_add_20 : decode cX2_add 20 = .ok (.return_, 1) := by decide +kernel
theorem dX2_readInto_0 : decode cX2_readInto 0 = .ok (.aload_n 0, 1) := by decide +kernel
theorem dX2_readInto_1 : decode cX2_readInto 1 = .ok (.invokevirtual 19, 3) := by decide +kernel
theorem dX2_readInto_4 : decode cX2_readInto 4 = .ok (.istore_n 2, 1) := by decide +kernel
theorem dX2_readInto_5 : decode cX2_readInto 5 = .ok (.iload_n 2, 1) := by decide +kernel
theorem dX2_readInto_6 : decode cX2_readInto 6 = .ok (.ifCond .lt 9, 3) := by decide +kernel
theorem dX2_readInto_9 : decode cX2_readInto 9 = .ok (.sipush (-1000), 3) := by decide +kernel
theorem dX2_readInto_12 : decode cX2_readInto 12 = .ok (.iload_n 2, 1) := by decide +kernel
theorem dX2_readInto_13 : decode cX2_readInto 13 = .ok (.isub, 1) := by decide +kernel
theorem dX2_readInto_14 : decode cX2_readInto 14 = .ok (.ireturn, 1) := by decide +kernel
theorem dX2_readInto_15 : decode cX2_readInto 15 = .ok (.iconst 0, 1) := by decide +kernel
theorem dX2_readInto_16 : decode cX2_readInto 16 = .ok (.istore_n 3, 1) := by decide +kernel
theorem dX2_readInto_17 : decode cX2_readInto 17 = .ok (.iconst 0, 1) := by decide +kernel
theorem dX2_readInto_18 : decode cX2_readInto 18 = .ok (.istore 4, 2) := by decide +kernel
theorem dX2_readInto_20 : decode cX2_readInto 20 = .ok (.iload 4, 2) := by decide +kernel
theorem dX2_readInto_22 : decode cX2_readInto 22 = .ok (.aload_n 0, 1) := by decide +kernel
theorem dX2_readInto_23 : decode cX2_readInto 23 = .ok (.getfield 15, 3) := by decide +kernel
theorem dX2_readInto_26 : decode cX2_readInto 26 = .ok (.if_icmp .ge 45, 3) := by decide +kernel
theorem dX2_readInto_29 : decode cX2_readInto 29 = .ok (.aload_n 0, 1) := by decide +kernel
theorem dX2_readInto_30 : decode cX2_readInto 30 = .ok (.iload 4, 2) := by decide +kernel
theorem dX2_readInto_32 : decode cX2_readInto 32 = .ok (.aload_n 1, 1) := by decide +kernel
theorem dX2_readInto_33 : decode cX2_readInto 33 = .ok (.invokevirtual 23, 3) := by decide +kernel
theorem dX2_readInto_36 : decode cX2_readInto 36 = .ok (.ifCond .ne 10, 3) := by decide +kernel
theorem dX2_readInto_39 : decode cX2_readInto 39 = .ok (.sipush (-2000), 3) := by decide +kernel
theorem dX2_readInto_42 : decode cX2_readInto 42 = .ok (.iload 4, 2) := by decide +kernel
theorem dX2_readInto_44 : decode cX2_readInto 44 = .ok (.isub, 1) := by decide +kernel
theorem dX2_readInto_45 : decode cX2_readInto 45 = .ok (.ireturn, 1) := by decide +kernel
theorem dX2_readInto_46 : decode cX2_readInto 46 = .ok (.iinc 3 1, 3) := by decide +kernel
theorem dX2_readInto_49 : decode cX2_readInto 49 = .ok (.iload 4, 2) := by decide +kernel
theorem dX2_readInto_51 : decode cX2_readInto 51 = .ok (.iconst 1, 1) := by decide +kernel
theorem dX2_readInto_52 : decode cX2_readInto 52 = .ok (.aload_n 0, 1) := by decide +kernel
theorem dX2_readInto_53 : decode cX2_readInto 53 = .ok (.getfield 9, 3) := by decide +kernel
theorem dX2_readInto_56 : decode cX2_readInto 56 = .ok (.iload 4, 2) := by decide +kernel
theorem dX2_readInto_58 : decode cX2_readInto 58 = .ok (.iaload, 1) := by decide +kernel
theorem dX2_readInto_59 : decode cX2_readInto 59 = .ok (.invokestatic 27, 3) := by decide +kernel
theorem dX2_readInto_62 : decode cX2_readInto 62 = .ok (.invokestatic 31, 3) := by decide +kernel
theorem dX2_readInto_65 : decode cX2_readInto 65 = .ok (.iadd, 1) := by decide +kernel
theorem dX2_readInto_66 : decode cX2_readInto 66 = .ok (.istore 4, 2) := by decide +kernel
theorem dX2_readInto_68 : decode cX2_readInto 68 = .ok (.goto (-48), 3) := by decide +kernel
theorem dX2_readInto_71 : decode cX2_readInto 71 = .ok (.iload_n 3, 1) := by decide +kernel
theorem dX2_readInto_72 : decode cX2_readInto 72 = .ok (.ireturn, 1) := by decide +kernel
theorem dX2_firstWrongLetter_0 : decode cX2_firstWrongLetter 0 = .ok (.aload_n 0, 1) := by decide +kernel
theorem dX2_firstWrongLetter_1 : decode cX2_firstWrongLetter 1 = .ok (.getfield 15, 3) := by decide +kernel
theorem dX2_firstWrongLetter_4 : decode cX2_firstWrongLetter 4 = .ok (.ifCond .ne 5, 3) := by decide +kernel
theorem dX2_firstWrongLetter_7 : decode cX2_firstWrongLetter 7 = .ok (.iconst 0, 1) := by decide +kernel
theorem dX2_firstWrongLetter_8 : decode cX2_firstWrongLetter 8 = .ok (.ireturn, 1) := by decide +kernel
theorem dX2_firstWrongLetter_9 : decode cX2_firstWrongLetter 9 = .ok (.iconst 0, 1) := by decide +kernel
theorem dX2_firstWrongLetter_10 : decode cX2_firstWrongLetter 10 = .ok (.istore_n 1, 1) := by decide +kernel
theorem dX2_firstWrongLetter_11 : decode cX2_firstWrongLetter 11 = .ok (.iload_n 1, 1) := by decide +kernel
theorem dX2_firstWrongLetter_12 : decode cX2_firstWrongLetter 12 = .ok (.aload_n 0, 1) := by decide +kernel
theorem dX2_firstWrongLetter_13 : decode cX2_firstWrongLetter 13 = .ok (.getfield 15, 3) := by decide +kernel
theorem dX2_firstWrongLetter_16 : decode cX2_firstWrongLetter 16 = .ok (.if_icmp .ge 75, 3) := by decide +kernel
theorem dX2_firstWrongLetter_19 : decode cX2_firstWrongLetter 19 = .ok (.aload_n 0, 1) := by decide +kernel
theorem dX2_firstWrongLetter_20 : decode cX2_firstWrongLetter 20 = .ok (.getfield 9, 3) := by decide +kernel
theorem dX2_firstWrongLetter_23 : decode cX2_firstWrongLetter 23 = .ok (.iload_n 1, 1) := by decide +kernel
theorem dX2_firstWrongLetter_24 : decode cX2_firstWrongLetter 24 = .ok (.iaload, 1) := by decide +kernel
theorem dX2_firstWrongLetter_25 : decode cX2_firstWrongLetter 25 = .ok (.invokestatic 27, 3) := by decide +kernel
theorem dX2_firstWrongLetter_28 : decode cX2_firstWrongLetter 28 = .ok (.istore_n 2, 1) := by decide +kernel
theorem dX2_firstWrongLetter_29 : decode cX2_firstWrongLetter 29 = .ok (.iload_n 2, 1) := by decide +kernel
theorem dX2_firstWrongLetter_30 : decode cX2_firstWrongLetter 30 = .ok (.ifCond .ne 5, 3) := by decide +kernel
theorem dX2_firstWrongLetter_33 : decode cX2_firstWrongLetter 33 = .ok (.iload_n 1, 1) := by decide +kernel
theorem dX2_firstWrongLetter_34 : decode cX2_firstWrongLetter 34 = .ok (.ireturn, 1) := by decide +kernel
theorem dX2_firstWrongLetter_35 : decode cX2_firstWrongLetter 35 = .ok (.iconst 1, 1) := by decide +kernel
theorem dX2_firstWrongLetter_36 : decode cX2_firstWrongLetter 36 = .ok (.istore_n 3, 1) := by decide +kernel
theorem dX2_firstWrongLetter_37 : decode cX2_firstWrongLetter 37 = .ok (.iload_n 3, 1) := by decide +kernel
theorem dX2_firstWrongLetter_38 : decode cX2_firstWrongLetter 38 = .ok (.iload_n 2, 1) := by decide +kernel
theorem dX2_firstWrongLetter_39 : decode cX2_firstWrongLetter 39 = .ok (.if_icmp .ge 33, 3) := by decide +kernel
theorem dX2_firstWrongLetter_42 : decode cX2_firstWrongLetter 42 = .ok (.iload_n 1, 1) := by decide +kernel
theorem dX2_firstWrongLetter_43 : decode cX2_firstWrongLetter 43 = .ok (.iload_n 3, 1) := by decide +kernel
theorem dX2_firstWrongLetter_44 : decode cX2_firstWrongLetter 44 = .ok (.iadd, 1) := by decide +kernel
theorem dX2_firstWrongLetter_45 : decode cX2_firstWrongLetter 45 = .ok (.aload_n 0, 1) := by decide +kernel
theorem dX2_firstWrongLetter_46 : decode cX2_firstWrongLetter 46 = .ok (.getfield 15, 3) := by decide +kernel
theorem dX2_firstWrongLetter_49 : decode cX2_firstWrongLetter 49 = .ok (.if_icmp .ge 13, 3) := by decide +kernel
theorem dX2_firstWrongLetter_52 : decode cX2_firstWrongLetter 52 = .ok (.aload_n 0, 1) := by decide +kernel
theorem dX2_firstWrongLetter_53 : decode cX2_firstWrongLetter 53 = .ok (.iload_n 1, 1) := by decide +kernel
theorem dX2_firstWrongLetter_54 : decode cX2_firstWrongLetter 54 = .ok (.iload_n 3, 1) := by decide +kernel
theorem dX2_firstWrongLetter_55 : decode cX2_firstWrongLetter 55 = .ok (.iload_n 2, 1) := by decide +kernel
theorem dX2_firstWrongLetter_56 : decode cX2_firstWrongLetter 56 = .ok (.invokevirtual 37, 3) := by decide +kernel
theorem dX2_firstWrongLetter_59 : decode cX2_firstWrongLetter 59 = .ok (.ifCond .ne 7, 3) := by decide +kernel
theorem dX2_firstWrongLetter_62 : decode cX2_firstWrongLetter 62 = .ok (.iload_n 1, 1) := by decide +kernel
theorem dX2_firstWrongLetter_63 : decode cX2_firstWrongLetter 63 = .ok (.iload_n 3, 1) := by decide +kernel
theorem dX2_firstWrongLetter_64 : decode cX2_firstWrongLetter 64 = .ok (.iadd, 1) := by decide +kernel
theorem dX2_firstWrongLetter_65 : decode cX2_firstWrongLetter 65 = .ok (.ireturn, 1) := by decide +kernel
theorem dX2_firstWrongLetter_66 : decode cX2_firstWrongLetter 66 = .ok (.iinc 3 1, 3) := by decide +kernel
theorem dX2_firstWrongLetter_69 : decode cX2_firstWrongLetter 69 = .ok (.goto (-32), 3) := by decide +kernel
theorem dX2_firstWrongLetter_72 : decode cX2_firstWrongLetter 72 = .ok (.iload_n 1, 1) := by decide +kernel
theorem dX2_firstWrongLetter_73 : decode cX2_firstWrongLetter 73 = .ok (.iconst 1, 1) := by decide +kernel
theorem dX2_firstWrongLetter_74 : decode cX2_firstWrongLetter 74 = .ok (.aload_n 0, 1) := by decide +kernel
theorem dX2_firstWrongLetter_75 : decode cX2_firstWrongLetter 75 = .ok (.getfield 9, 3) := by decide +kernel
theorem dX2_firstWrongLetter_78 : decode cX2_firstWrongLetter 78 = .ok (.iload_n 1, 1) := by decide +kernel
theorem dX2_firstWrongLetter_79 : decode cX2_firstWrongLetter 79 = .ok (.iaload, 1) := by decide +kernel
theorem dX2_firstWrongLetter_80 : decode cX2_firstWrongLetter 80 = .ok (.invokestatic 27, 3) := by decide +kernel
theorem dX2_firstWrongLetter_83 : decode cX2_firstWrongLetter 83 = .ok (.invokestatic 31, 3) := by decide +kernel
theorem dX2_firstWrongLetter_86 : decode cX2_firstWrongLetter 86 = .ok (.iadd, 1) := by decide +kernel
theorem dX2_firstWrongLetter_87 : decode cX2_firstWrongLetter 87 = .ok (.istore_n 1, 1) := by decide +kernel
theorem dX2_firstWrongLetter_88 : decode cX2_firstWrongLetter 88 = .ok (.goto (-77), 3) := by decide +kernel
theorem dX2_firstWrongLetter_91 : decode cX2_firstWrongLetter 91 = .ok (.iconst (-1), 1) := by decide +kernel
theorem dX2_firstWrongLetter_92 : decode cX2_firstWrongLetter 92 = .ok (.ireturn, 1) := by decide +kernel
theorem dX2_lengthOfStatement_0 : decode cX2_lengthOfStatement 0 = .ok (.iload_n 0, 1) := by decide +kernel
theorem dX2_lengthOfStatement_1 : decode cX2_lengthOfStatement 1 = .ok (.tableswitch 124 98 120 #[113, 124, 124, 124, 107, 118, 124, 124, 124, 124, 124, 124, 124, 124, 124, 124, 120, 116, 124, 110, 124, 124, 122], 107) := by decide +kernel
theorem dX2_lengthOfStatement_108 : decode cX2_lengthOfStatement 108 = .ok (.bipush 7, 2) := by decide +kernel
theorem dX2_lengthOfStatement_110 : decode cX2_lengthOfStatement 110 = .ok (.ireturn, 1) := by decide +kernel
theorem dX2_lengthOfStatement_111 : decode cX2_lengthOfStatement 111 = .ok (.bipush 6, 2) := by decide +kernel
theorem dX2_lengthOfStatement_113 : decode cX2_lengthOfStatement 113 = .ok (.ireturn, 1) := by decide +kernel
theorem dX2_lengthOfStatement_114 : decode cX2_lengthOfStatement 114 = .ok (.bipush 8, 2) := by decide +kernel
theorem dX2_lengthOfStatement_116 : decode cX2_lengthOfStatement 116 = .ok (.ireturn, 1) := by decide +kernel
theorem dX2_lengthOfStatement_117 : decode cX2_lengthOfStatement 117 = .ok (.iconst 3, 1) := by decide +kernel
theorem dX2_lengthOfStatement_118 : decode cX2_lengthOfStatement 118 = .ok (.ireturn, 1) := by decide +kernel
theorem dX2_lengthOfStatement_119 : decode cX2_lengthOfStatement 119 = .ok (.iconst 4, 1) := by decide +kernel
theorem dX2_lengthOfStatement_120 : decode cX2_lengthOfStatement 120 = .ok (.ireturn, 1) := by decide +kernel
theorem dX2_lengthOfStatement_121 : decode cX2_lengthOfStatement 121 = .ok (.iconst 5, 1) := by decide +kernel
theorem dX2_lengthOfStatement_122 : decode cX2_lengthOfStatement 122 = .ok (.ireturn, 1) := by decide +kernel
theorem dX2_lengthOfStatement_123 : decode cX2_lengthOfStatement 123 = .ok (.iconst 4, 1) := by decide +kernel
theorem dX2_lengthOfStatement_124 : decode cX2_lengthOfStatement 124 = .ok (.ireturn, 1) := by decide +kernel
theorem dX2_lengthOfStatement_125 : decode cX2_lengthOfStatement 125 = .ok (.iconst 0, 1) := by decide +kernel
theorem dX2_lengthOfStatement_126 : decode cX2_lengthOfStatement 126 = .ok (.ireturn, 1) := by decide +kernel
theorem dX2_mayStand_0 : decode cX2_mayStand 0 = .ok (.aload_n 0, 1) := by decide +kernel
theorem dX2_mayStand_1 : decode cX2_mayStand 1 = .ok (.getfield 9, 3) := by decide +kernel
theorem dX2_mayStand_4 : decode cX2_mayStand 4 = .ok (.iload_n 1, 1) := by decide +kernel
theorem dX2_mayStand_5 : decode cX2_mayStand 5 = .ok (.iload_n 2, 1) := by decide +kernel
theorem dX2_mayStand_6 : decode cX2_mayStand 6 = .ok (.iadd, 1) := by decide +kernel
theorem dX2_mayStand_7 : decode cX2_mayStand 7 = .ok (.iaload, 1) := by decide +kernel
theorem dX2_mayStand_8 : decode cX2_mayStand 8 = .ok (.istore 4, 2) := by decide +kernel
theorem dX2_mayStand_10 : decode cX2_mayStand 10 = .ok (.iload_n 2, 1) := by decide +kernel
theorem dX2_mayStand_11 : decode cX2_mayStand 11 = .ok (.iload_n 3, 1) := by decide +kernel
theorem dX2_mayStand_12 : decode cX2_mayStand 12 = .ok (.iconst 1, 1) := by decide +kernel
theorem dX2_mayStand_13 : decode cX2_mayStand 13 = .ok (.isub, 1) := by decide +kernel
theorem dX2_mayStand_14 : decode cX2_mayStand 14 = .ok (.if_icmp .ne 16, 3) := by decide +kernel
theorem dX2_mayStand_17 : decode cX2_mayStand 17 = .ok (.iload 4, 2) := by decide +kernel
theorem dX2_mayStand_19 : decode cX2_mayStand 19 = .ok (.bipush 59, 2) := by decide +kernel
theorem dX2_mayStand_21 : decode cX2_mayStand 21 = .ok (.if_icmp .ne 7, 3) := by decide +kernel
theorem dX2_mayStand_24 : decode cX2_mayStand 24 = .ok (.iconst 1, 1) := by decide +kernel
theorem dX2_mayStand_25 : decode cX2_mayStand 25 = .ok (.goto 4, 3) := by decide +kernel
theorem dX2_mayStand_28 : decode cX2_mayStand 28 = .ok (.iconst 0, 1) := by decide +kernel
theorem dX2_mayStand_29 : decode cX2_mayStand 29 = .ok (.ireturn, 1) := by decide +kernel
theorem dX2_mayStand_30 : decode cX2_mayStand 30 = .ok (.iload_n 2, 1) := by decide +kernel
theorem dX2_mayStand_31 : decode cX2_mayStand 31 = .ok (.iconst 1, 1) := by decide +kernel
theorem dX2_mayStand_32 : decode cX2_mayStand 32 = .ok (.if_icmp .ne 28, 3) := by decide +kernel
theorem dX2_mayStand_35 : decode cX2_mayStand 35 = .ok (.aload_n 0, 1) := by decide +kernel
theorem dX2_mayStand_36 : decode cX2_mayStand 36 = .ok (.getfield 9, 3) := by decide +kernel
theorem dX2_mayStand_39 : decode cX2_mayStand 39 = .ok (.iload_n 1, 1) := by decide +kernel
theorem dX2_mayStand_40 : decode cX2_mayStand 40 = .ok (.iaload, 1) := by decide +kernel
theorem dX2_mayStand_41 : decode cX2_mayStand 41 = .ok (.bipush 102, 2) := by decide +kernel
theorem dX2_mayStand_43 : decode cX2_mayStand 43 = .ok (.if_icmp .ne 17, 3) := by decide +kernel
theorem dX2_mayStand_46 : decode cX2_mayStand 46 = .ok (.iload 4, 2) := by decide +kernel
theorem dX2_mayStand_48 : decode cX2_mayStand 48 = .ok (.invokestatic 41, 3) := by decide +kernel
theorem dX2_mayStand_51 : decode cX2_mayStand 51 = .ok (.ifCond .lt 7, 3) := by decide +kernel
theorem dX2_mayStand_54 : decode cX2_mayStand 54 = .ok (.iconst 1, 1) := by decide +kernel
theorem dX2_mayStand_55 : decode cX2_mayStand 55 = .ok (.goto 4, 3) := by decide +kernel
theorem dX2_mayStand_58 : decode cX2_mayStand 58 = .ok (.iconst 0, 1) := by decide +kernel
theorem dX2_mayStand_59 : decode cX2_mayStand 59 = .ok (.ireturn, 1) := by decide +kernel
theorem dX2_mayStand_60 : decode cX2_mayStand 60 = .ok (.iload 4, 2) := by decide +kernel
theorem dX2_mayStand_62 : decode cX2_mayStand 62 = .ok (.bipush 48, 2) := by decide +kernel
theorem dX2_mayStand_64 : decode cX2_mayStand 64 = .ok (.if_icmp .lt 14, 3) := by decide +kernel
theorem dX2_mayStand_67 : decode cX2_mayStand 67 = .ok (.iload 4, 2) := by decide +kernel
theorem dX2_mayStand_69 : decode cX2_mayStand 69 = .ok (.bipush 57, 2) := by decide +kernel
theorem dX2_mayStand_71 : decode cX2_mayStand 71 = .ok (.if_icmp .gt 7, 3) := by decide +kernel
theorem dX2_mayStand_74 : decode cX2_mayStand 74 = .ok (.iconst 1, 1) := by decide +kernel
theorem dX2_mayStand_75 : decode cX2_mayStand 75 = .ok (.goto 4, 3) := by decide +kernel
theorem dX2_mayStand_78 : decode cX2_mayStand 78 = .ok (.iconst 0, 1) := by decide +kernel
theorem dX2_mayStand_79 : decode cX2_mayStand 79 = .ok (.ireturn, 1) := by decide +kernel
theorem dX2_kindOf_0 : decode cX2_kindOf 0 = .ok (.iload_n 0, 1) := by decide +kernel
theorem dX2_kindOf_1 : decode cX2_kindOf 1 = .ok (.tableswitch 95 100 116 #[89, 95, 95, 91, 95, 95, 95, 95, 95, 85, 95, 83, 95, 93, 95, 95, 87], 83) := by decide +kernel
theorem dX2_kindOf_84 : decode cX2_kindOf 84 = .ok (.iconst 0, 1) := by decide +kernel
theorem dX2_kindOf_85 : decode cX2_kindOf 85 = .ok (.ireturn, 1) := by decide +kernel
theorem dX2_kindOf_86 : decode cX2_kindOf 86 = .ok (.iconst 1, 1) := by decide +kernel
theorem dX2_kindOf_87 : decode cX2_kindOf 87 = .ok (.ireturn, 1) := by decide +kernel
theorem dX2_kindOf_88 : decode cX2_kindOf 88 = .ok (.iconst 2, 1) := by decide +kernel
theorem dX2_kindOf_89 : decode cX2_kindOf 89 = .ok (.ireturn, 1) := by decide +kernel
theorem dX2_kindOf_90 : decode cX2_kindOf 90 = .ok (.iconst 3, 1) := by decide +kernel
theorem dX2_kindOf_91 : decode cX2_kindOf 91 = .ok (.ireturn, 1) := by decide +kernel
theorem dX2_kindOf_92 : decode cX2_kindOf 92 = .ok (.iconst 4, 1) := by decide +kernel
theorem dX2_kindOf_93 : decode cX2_kindOf 93 = .ok (.ireturn, 1) := by decide +kernel
theorem dX2_kindOf_94 : decode cX2_kindOf 94 = .ok (.iconst 5, 1) := by decide +kernel
theorem dX2_kindOf_95 : decode cX2_kindOf 95 = .ok (.ireturn, 1) := by decide +kernel
theorem dX2_kindOf_96 : decode cX2_kindOf 96 = .ok (.iconst (-1), 1) := by decide +kernel
theorem dX2_kindOf_97 : decode cX2_kindOf 97 = .ok (.ireturn, 1) := by decide +kernel
theorem dX2_apply_0 : decode cX2_apply 0 = .ok (.iload_n 1, 1) := by decide +kernel
theorem dX2_apply_1 : decode cX2_apply 1 = .ok (.iconst 1, 1) := by decide +kernel
theorem dX2_apply_2 : decode cX2_apply 2 = .ok (.iadd, 1) := by decide +kernel
theorem dX2_apply_3 : decode cX2_apply 3 = .ok (.istore_n 3, 1) := by decide +kernel
theorem dX2_apply_4 : decode cX2_apply 4 = .ok (.aload_n 0, 1) := by decide +kernel
theorem dX2_apply_5 : decode cX2_apply 5 = .ok (.getfield 9, 3) := by decide +kernel
theorem dX2_apply_8 : decode cX2_apply 8 = .ok (.iload_n 1, 1) := by decide +kernel
theorem dX2_apply_9 : decode cX2_apply 9 = .ok (.iaload, 1) := by decide +kernel
theorem dX2_apply_10 : decode cX2_apply 10 = .ok (.tableswitch 267 98 117 #[135, 267, 267, 267, 94, 195, 267, 267, 267, 267, 267, 267, 267, 267, 267, 267, 231, 184, 267, 101], 94) := by decide +kernel
theorem dX2_apply_104 : decode cX2_apply 104 = .ok (.aload_n 0, 1) := by decide +kernel
theorem dX2_apply_105 : decode cX2_apply 105 = .ok (.iload_n 3, 1) := by decide +kernel
theorem dX2_apply_106 : decode cX2_apply 106 = .ok (.aload_n 2, 1) := by decide +kernel
theorem dX2_apply_107 : decode cX2_apply 107 = .ok (.invokevirtual 44, 3) := by decide +kernel
theorem dX2_apply_110 : decode cX2_apply 110 = .ok (.ireturn, 1) := by decide +kernel
theorem dX2_apply_111 : decode cX2_apply 111 = .ok (.aload_n 2, 1) := by decide +kernel
theorem dX2_apply_112 : decode cX2_apply 112 = .ok (.iconst 0, 1) := by decide +kernel
theorem dX2_apply_113 : decode cX2_apply 113 = .ok (.aload_n 0, 1) := by decide +kernel
theorem dX2_apply_114 : decode cX2_apply 114 = .ok (.iload_n 3, 1) := by decide +kernel
theorem dX2_apply_115 : decode cX2_apply 115 = .ok (.invokevirtual 47, 3) := by decide +kernel
theorem dX2_apply_118 : decode cX2_apply 118 = .ok (.invokestatic 50, 3) := by decide +kernel
theorem dX2_apply_121 : decode cX2_apply 121 = .ok (.ifCond .eq 22, 3) := by decide +kernel
theorem dX2_apply_124 : decode cX2_apply 124 = .ok (.aload_n 2, 1) := by decide +kernel
theorem dX2_apply_125 : decode cX2_apply 125 = .ok (.iconst 1, 1) := by decide +kernel
theorem dX2_apply_126 : decode cX2_apply 126 = .ok (.aload_n 0, 1) := by decide +kernel
theorem dX2_apply_127 : decode cX2_apply 127 = .ok (.iload_n 3, 1) := by decide +kernel
theorem dX2_apply_128 : decode cX2_apply 128 = .ok (.iconst 2, 1) := by decide +kernel
theorem dX2_apply_129 : decode cX2_apply 129 = .ok (.iadd, 1) := by decide +kernel
theorem dX2_apply_130 : decode cX2_apply 130 = .ok (.invokevirtual 47, 3) := by decide +kernel
theorem dX2_apply_133 : decode cX2_apply 133 = .ok (.invokestatic 50, 3) := by decide +kernel
theorem dX2_apply_136 : decode cX2_apply 136 = .ok (.ifCond .eq 7, 3) := by decide +kernel
theorem dX2_apply_139 : decode cX2_apply 139 = .ok (.iconst 1, 1) := by decide +kernel
theorem dX2_apply_140 : decode cX2_apply 140 = .ok (.goto 4, 3) := by decide +kernel
theorem dX2_apply_143 : decode cX2_apply 143 = .ok (.iconst 0, 1) := by decide +kernel
theorem dX2_apply_144 : decode cX2_apply 144 = .ok (.ireturn, 1) := by decide +kernel
theorem dX2_apply_145 : decode cX2_apply 145 = .ok (.aload_n 2, 1) := by decide +kernel
theorem dX2_apply_146 : decode cX2_apply 146 = .ok (.iconst 2, 1) := by decide +kernel
theorem dX2_apply_147 : decode cX2_apply 147 = .ok (.aload_n 0, 1) := by decide +kernel
theorem dX2_apply_148 : decode cX2_apply 148 = .ok (.iload_n 3, 1) := by decide +kernel
theorem dX2_apply_149 : decode cX2_apply 149 = .ok (.invokevirtual 47, 3) := by decide +kernel
theorem dX2_apply_152 : decode cX2_apply 152 = .ok (.invokestatic 50, 3) := by decide +kernel
theorem dX2_apply_155 : decode cX2_apply 155 = .ok (.ifCond .eq 37, 3) := by decide +kernel
theorem dX2_apply_158 : decode cX2_apply 158 = .ok (.aload_n 2, 1) := by decide +kernel
theorem dX2_apply_159 : decode cX2_apply 159 = .ok (.iconst 3, 1) := by decide +kernel
theorem dX2_apply_160 : decode cX2_apply 160 = .ok (.aload_n 0, 1) := by decide +kernel
theorem dX2_apply_161 : decode cX2_apply 161 = .ok (.iload_n 3, 1) := by decide +kernel
theorem dX2_apply_162 : decode cX2_apply 162 = .ok (.iconst 2, 1) := by decide +kernel
theorem dX2_apply_163 : decode cX2_apply 163 = .ok (.iadd, 1) := by decide +kernel
theorem dX2_apply_164 : decode cX2_apply 164 = .ok (.invokevirtual 47, 3) := by decide +kernel
theorem dX2_apply_167 : decode cX2_apply 167 = .ok (.invokestatic 50, 3) := by decide +kernel
theorem dX2_apply_170 : decode cX2_apply 170 = .ok (.ifCond .eq 22, 3) := by decide +kernel
theorem dX2_apply_173 : decode cX2_apply 173 = .ok (.aload_n 2, 1) := by decide +kernel
theorem dX2_apply_174 : decode cX2_apply 174 = .ok (.iconst 4, 1) := by decide +kernel
theorem dX2_apply_175 : decode cX2_apply 175 = .ok (.aload_n 0, 1) := by decide +kernel
theorem dX2_apply_176 : decode cX2_apply 176 = .ok (.iload_n 3, 1) := by decide +kernel
theorem dX2_apply_177 : decode cX2_apply 177 = .ok (.iconst 4, 1) := by decide +kernel
theorem dX2_apply_178 : decode cX2_apply 178 = .ok (.iadd, 1) := by decide +kernel
theorem dX2_apply_179 : decode cX2_apply 179 = .ok (.invokevirtual 47, 3) := by decide +kernel
theorem dX2_apply_182 : decode cX2_apply 182 = .ok (.invokestatic 50, 3) := by decide +kernel
theorem dX2_apply_185 : decode cX2_apply 185 = .ok (.ifCond .eq 7, 3) := by decide +kernel
theorem dX2_apply_188 : decode cX2_apply 188 = .ok (.iconst 1, 1) := by decide +kernel
theorem dX2_apply_189 : decode cX2_apply 189 = .ok (.goto 4, 3) := by decide +kernel
theorem dX2_apply_192 : decode cX2_apply 192 = .ok (.iconst 0, 1) := by decide +kernel
theorem dX2_apply_193 : decode cX2_apply 193 = .ok (.ireturn, 1) := by decide +kernel
theorem dX2_apply_194 : decode cX2_apply 194 = .ok (.aload_n 2, 1) := by decide +kernel
theorem dX2_apply_195 : decode cX2_apply 195 = .ok (.iconst 5, 1) := by decide +kernel
theorem dX2_apply_196 : decode cX2_apply 196 = .ok (.aload_n 0, 1) := by decide +kernel
theorem dX2_apply_197 : decode cX2_apply 197 = .ok (.iload_n 3, 1) := by decide +kernel
theorem dX2_apply_198 : decode cX2_apply 198 = .ok (.invokevirtual 54, 3) := by decide +kernel
theorem dX2_apply_201 : decode cX2_apply 201 = .ok (.invokestatic 50, 3) := by decide +kernel
theorem dX2_apply_204 : decode cX2_apply 204 = .ok (.ireturn, 1) := by decide +kernel
theorem dX2_apply_205 : decode cX2_apply 205 = .ok (.aload_n 2, 1) := by decide +kernel
theorem dX2_apply_206 : decode cX2_apply 206 = .ok (.bipush 6, 2) := by decide +kernel
theorem dX2_apply_208 : decode cX2_apply 208 = .ok (.aload_n 0, 1) := by decide +kernel
theorem dX2_apply_209 : decode cX2_apply 209 = .ok (.iload_n 3, 1) := by decide +kernel
theorem dX2_apply_210 : decode cX2_apply 210 = .ok (.invokevirtual 54, 3) := by decide +kernel
theorem dX2_apply_213 : decode cX2_apply 213 = .ok (.invokestatic 50, 3) := by decide +kernel
theorem dX2_apply_216 : decode cX2_apply 216 = .ok (.ifCond .eq 23, 3) := by decide +kernel
theorem dX2_apply_219 : decode cX2_apply 219 = .ok (.aload_n 2, 1) := by decide +kernel
theorem dX2_apply_220 : decode cX2_apply 220 = .ok (.bipush 7, 2) := by decide +kernel
theorem dX2_apply_222 : decode cX2_apply 222 = .ok (.aload_n 0, 1) := by decide +kernel
theorem dX2_apply_223 : decode cX2_apply 223 = .ok (.iload_n 3, 1) := by decide +kernel
theorem dX2_apply_224 : decode cX2_apply 224 = .ok (.iconst 1, 1) := by decide +kernel
theorem dX2_apply_225 : decode cX2_apply 225 = .ok (.iadd, 1) := by decide +kernel
theorem dX2_apply_226 : decode cX2_apply 226 = .ok (.invokevirtual 54, 3) := by decide +kernel
theorem dX2_apply_229 : decode cX2_apply 229 = .ok (.invokestatic 50, 3) := by decide +kernel
theorem dX2_apply_232 : decode cX2_apply 232 = .ok (.ifCond .eq 7, 3) := by decide +kernel
theorem dX2_apply_235 : decode cX2_apply 235 = .ok (.iconst 1, 1) := by decide +kernel
theorem dX2_apply_236 : decode cX2_apply 236 = .ok (.goto 4, 3) := by decide +kernel
theorem dX2_apply_239 : decode cX2_apply 239 = .ok (.iconst 0, 1) := by decide +kernel
theorem dX2_apply_240 : decode cX2_apply 240 = .ok (.ireturn, 1) := by decide +kernel
theorem dX2_apply_241 : decode cX2_apply 241 = .ok (.aload_n 2, 1) := by decide +kernel
theorem dX2_apply_242 : decode cX2_apply 242 = .ok (.bipush 8, 2) := by decide +kernel
theorem dX2_apply_244 : decode cX2_apply 244 = .ok (.aload_n 0, 1) := by decide +kernel
theorem dX2_apply_245 : decode cX2_apply 245 = .ok (.iload_n 3, 1) := by decide +kernel
theorem dX2_apply_246 : decode cX2_apply 246 = .ok (.invokevirtual 54, 3) := by decide +kernel
theorem dX2_apply_249 : decode cX2_apply 249 = .ok (.invokestatic 50, 3) := by decide +kernel
theorem dX2_apply_252 : decode cX2_apply 252 = .ok (.ifCond .eq 23, 3) := by decide +kernel
theorem dX2_apply_255 : decode cX2_apply 255 = .ok (.aload_n 2, 1) := by decide +kernel
theorem dX2_apply_256 : decode cX2_apply 256 = .ok (.bipush 9, 2) := by decide +kernel
theorem dX2_apply_258 : decode cX2_apply 258 = .ok (.aload_n 0, 1) := by decide +kernel
theorem dX2_apply_259 : decode cX2_apply 259 = .ok (.iload_n 3, 1) := by decide +kernel
theorem dX2_apply_260 : decode cX2_apply 260 = .ok (.iconst 1, 1) := by decide +kernel
theorem dX2_apply_261 : decode cX2_apply 261 = .ok (.iadd, 1) := by decide +kernel
theorem dX2_apply_262 : decode cX2_apply 262 = .ok (.invokevirtual 47, 3) := by decide +kernel
theorem dX2_apply_265 : decode cX2_apply 265 = .ok (.invokestatic 50, 3) := by decide +kernel
theorem dX2_apply_268 : decode cX2_apply 268 = .ok (.ifCond .eq 7, 3) := by decide +kernel
theorem dX2_apply_271 : decode cX2_apply 271 = .ok (.iconst 1, 1) := by decide +kernel
theorem dX2_apply_272 : decode cX2_apply 272 = .ok (.goto 4, 3) := by decide +kernel
theorem dX2_apply_275 : decode cX2_apply 275 = .ok (.iconst 0, 1) := by decide +kernel
theorem dX2_apply_276 : decode cX2_apply 276 = .ok (.ireturn, 1) := by decide +kernel
theorem dX2_apply_277 : decode cX2_apply 277 = .ok (.aload_n 0, 1) := by decide +kernel
theorem dX2_apply_278 : decode cX2_apply 278 = .ok (.iload_n 3, 1) := by decide +kernel
theorem dX2_apply_279 : decode cX2_apply 279 = .ok (.aload_n 2, 1) := by decide +kernel
theorem dX2_apply_280 : decode cX2_apply 280 = .ok (.invokevirtual 57, 3) := by decide +kernel
theorem dX2_apply_283 : decode cX2_apply 283 = .ok (.ireturn, 1) := by decide +kernel
theorem dX2_applyFloor_0 : decode cX2_applyFloor 0 = .ok (.aload_n 0, 1) := by decide +kernel
theorem dX2_applyFloor_1 : decode cX2_applyFloor 1 = .ok (.iload_n 1, 1) := by decide +kernel
theorem dX2_applyFloor_2 : decode cX2_applyFloor 2 = .ok (.iconst 2, 1) := by decide +kernel
theorem dX2_applyFloor_3 : decode cX2_applyFloor 3 = .ok (.iadd, 1) := by decide +kernel
theorem dX2_applyFloor_4 : decode cX2_applyFloor 4 = .ok (.invokevirtual 47, 3) := by decide +kernel
theorem dX2_applyFloor_7 : decode cX2_applyFloor 7 = .ok (.istore_n 3, 1) := by decide +kernel
theorem dX2_applyFloor_8 : decode cX2_applyFloor 8 = .ok (.aload_n 2, 1) := by decide +kernel
theorem dX2_applyFloor_9 : decode cX2_applyFloor 9 = .ok (.getfield 60, 3) := by decide +kernel
theorem dX2_applyFloor_12 : decode cX2_applyFloor 12 = .ok (.bipush 6, 2) := by decide +kernel
theorem dX2_applyFloor_14 : decode cX2_applyFloor 14 = .ok (.if_icmp .ge 14, 3) := by decide +kernel
theorem dX2_applyFloor_17 : decode cX2_applyFloor 17 = .ok (.iload_n 3, 1) := by decide +kernel
theorem dX2_applyFloor_18 : decode cX2_applyFloor 18 = .ok (.iconst 1, 1) := by decide +kernel
theorem dX2_applyFloor_19 : decode cX2_applyFloor 19 = .ok (.if_icmp .lt 9, 3) := by decide +kernel
theorem dX2_applyFloor_22 : decode cX2_applyFloor 22 = .ok (.iload_n 3, 1) := by decide +kernel
theorem dX2_applyFloor_23 : decode cX2_applyFloor 23 = .ok (.bipush 20, 2) := by decide +kernel
theorem dX2_applyFloor_25 : decode cX2_applyFloor 25 = .ok (.if_icmp .le 5, 3) := by decide +kernel
theorem dX2_applyFloor_28 : decode cX2_applyFloor 28 = .ok (.iconst 0, 1) := by decide +kernel
theorem dX2_applyFloor_29 : decode cX2_applyFloor 29 = .ok (.ireturn, 1) := by decide +kernel
theorem dX2_applyFloor_30 : decode cX2_applyFloor 30 = .ok (.aload_n 2, 1) := by decide +kernel
theorem dX2_applyFloor_31 : decode cX2_applyFloor 31 = .ok (.aload_n 0, 1) := by decide +kernel
theorem dX2_applyFloor_32 : decode cX2_applyFloor 32 = .ok (.getfield 9, 3) := by decide +kernel
theorem dX2_applyFloor_35 : decode cX2_applyFloor 35 = .ok (.iload_n 1, 1) := by decide +kernel
theorem dX2_applyFloor_36 : decode cX2_applyFloor 36 = .ok (.iaload, 1) := by decide +kernel
theorem dX2_applyFloor_37 : decode cX2_applyFloor 37 = .ok (.invokestatic 41, 3) := by decide +kernel
theorem dX2_applyFloor_40 : decode cX2_applyFloor 40 = .ok (.aload_n 0, 1) := by decide +kernel
theorem dX2_applyFloor_41 : decode cX2_applyFloor 41 = .ok (.iload_n 1, 1) := by decide +kernel
theorem dX2_applyFloor_42 : decode cX2_applyFloor 42 = .ok (.iconst 1, 1) := by decide +kernel
theorem dX2_applyFloor_43 : decode cX2_applyFloor 43 = .ok (.iadd, 1) := by decide +kernel
theorem dX2_applyFloor_44 : decode cX2_applyFloor 44 = .ok (.invokevirtual 54, 3) := by decide +kernel
theorem dX2_applyFloor_47 : decode cX2_applyFloor 47 = .ok (.iload_n 3, 1) := by decide +kernel
theorem dX2_applyFloor_48 : decode cX2_applyFloor 48 = .ok (.aload_n 0, 1) := by decide +kernel
theorem dX2_applyFloor_49 : decode cX2_applyFloor 49 = .ok (.iload_n 1, 1) := by decide +kernel
theorem dX2_applyFloor_50 : decode cX2_applyFloor 50 = .ok (.iconst 4, 1) := by decide +kernel
theorem dX2_applyFloor_51 : decode cX2_applyFloor 51 = .ok (.iadd, 1) := by decide +kernel
theorem dX2_applyFloor_52 : decode cX2_applyFloor 52 = .ok (.invokevirtual 54, 3) := by decide +kernel
theorem dX2_applyFloor_55 : decode cX2_applyFloor 55 = .ok (.invokevirtual 65, 3) := by decide +kernel
theorem dX2_applyFloor_58 : decode cX2_applyFloor 58 = .ok (.iconst 1, 1) := by decide +kernel
theorem dX2_applyFloor_59 : decode cX2_applyFloor 59 = .ok (.ireturn, 1) := by decide +kernel
theorem dX2_applyChange_0 : decode cX2_applyChange 0 = .ok (.aload_n 0, 1) := by decide +kernel
theorem dX2_applyChange_1 : decode cX2_applyChange 1 = .ok (.iload_n 1, 1) := by decide +kernel
theorem dX2_applyChange_2 : decode cX2_applyChange 2 = .ok (.invokevirtual 54, 3) := by decide +kernel
theorem dX2_applyChange_5 : decode cX2_applyChange 5 = .ok (.istore_n 3, 1) := by decide +kernel
theorem dX2_applyChange_6 : decode cX2_applyChange 6 = .ok (.aload_n 0, 1) := by decide +kernel
theorem dX2_applyChange_7 : decode cX2_applyChange 7 = .ok (.iload_n 1, 1) := by decide +kernel
theorem dX2_applyChange_8 : decode cX2_applyChange 8 = .ok (.iconst 1, 1) := by decide +kernel
theorem dX2_applyChange_9 : decode cX2_applyChange 9 = .ok (.iadd, 1) := by decide +kernel
theorem dX2_applyChange_10 : decode cX2_applyChange 10 = .ok (.invokevirtual 54, 3) := by decide +kernel
theorem dX2_applyChange_13 : decode cX2_applyChange 13 = .ok (.istore 4, 2) := by decide +kernel
theorem dX2_applyChange_15 : decode cX2_applyChange 15 = .ok (.aload_n 2, 1) := by decide +kernel
theorem dX2_applyChange_16 : decode cX2_applyChange 16 = .ok (.iload_n 3, 1) := by decide +kernel
theorem dX2_applyChange_17 : decode cX2_applyChange 17 = .ok (.iload 4, 2) := by decide +kernel
theorem dX2_applyChange_19 : decode cX2_applyChange 19 = .ok (.invokevirtual 69, 3) := by decide +kernel
theorem dX2_applyChange_22 : decode cX2_applyChange 22 = .ok (.ifCond .ne 5, 3) := by decide +kernel
theorem dX2_applyChange_25 : decode cX2_applyChange 25 = .ok (.iconst 0, 1) := by decide +kernel
theorem dX2_applyChange_26 : decode cX2_applyChange 26 = .ok (.ireturn, 1) := by decide +kernel
theorem dX2_applyChange_27 : decode cX2_applyChange 27 = .ok (.aload_n 2, 1) := by decide +kernel
theorem dX2_applyChange_28 : decode cX2_applyChange 28 = .ok (.iload_n 3, 1) := by decide +kernel
theorem dX2_applyChange_29 : decode cX2_applyChange 29 = .ok (.iload 4, 2) := by decide +kernel
theorem dX2_applyChange_31 : decode cX2_applyChange 31 = .ok (.invokevirtual 73, 3) := by decide +kernel
theorem dX2_applyChange_34 : decode cX2_applyChange 34 = .ok (.iconst 1, 1) := by decide +kernel
theorem dX2_applyChange_35 : decode cX2_applyChange 35 = .ok (.ireturn, 1) := by decide +kernel
theorem dX2_put_0 : decode cX2_put 0 = .ok (.iload_n 2, 1) := by decide +kernel
theorem dX2_put_1 : decode cX2_put 1 = .ok (.getstatic 77, 3) := by decide +kernel
theorem dX2_put_4 : decode cX2_put 4 = .ok (.iload_n 1, 1) := by decide +kernel
theorem dX2_put_5 : decode cX2_put 5 = .ok (.iaload, 1) := by decide +kernel
theorem dX2_put_6 : decode cX2_put 6 = .ok (.if_icmp .le 5, 3) := by decide +kernel
theorem dX2_put_9 : decode cX2_put 9 = .ok (.iconst 0, 1) := by decide +kernel
theorem dX2_put_10 : decode cX2_put 10 = .ok (.ireturn, 1) := by decide +kernel
theorem dX2_put_11 : decode cX2_put 11 = .ok (.aload_n 0, 1) := by decide +kernel
theorem dX2_put_12 : decode cX2_put 12 = .ok (.getfield 80, 3) := by decide +kernel
theorem dX2_put_15 : decode cX2_put 15 = .ok (.iload_n 1, 1) := by decide +kernel
theorem dX2_put_16 : decode cX2_put 16 = .ok (.iload_n 2, 1) := by decide +kernel
theorem dX2_put_17 : decode cX2_put 17 = .ok (.iastore, 1) := by decide +kernel
theorem dX2_put_18 : decode cX2_put 18 = .ok (.iconst 1, 1) := by decide +kernel
theorem dX2_put_19 : decode cX2_put 19 = .ok (.ireturn, 1) := by decide +kernel
theorem dX2_digit_0 : decode cX2_digit 0 = .ok (.aload_n 0, 1) := by decide +kernel
theorem dX2_digit_1 : decode cX2_digit 1 = .ok (.getfield 9, 3) := by decide +kernel
theorem dX2_digit_4 : decode cX2_digit 4 = .ok (.iload_n 1, 1) := by decide +kernel
theorem dX2_digit_5 : decode cX2_digit 5 = .ok (.iaload, 1) := by decide +kernel
theorem dX2_digit_6 : decode cX2_digit 6 = .ok (.bipush 48, 2) := by decide +kernel
theorem dX2_digit_8 : decode cX2_digit 8 = .ok (.isub, 1) := by decide +kernel
theorem dX2_digit_9 : decode cX2_digit 9 = .ok (.ireturn, 1) := by decide +kernel
theorem dX2_two_0 : decode cX2_two 0 = .ok (.bipush 10, 2) := by decide +kernel
theorem dX2_two_2 : decode cX2_two 2 = .ok (.aload_n 0, 1) := by decide +kernel
theorem dX2_two_3 : decode cX2_two 3 = .ok (.iload_n 1, 1) := by decide +kernel
theorem dX2_two_4 : decode cX2_two 4 = .ok (.invokevirtual 54, 3) := by decide +kernel
theorem dX2_two_7 : decode cX2_two 7 = .ok (.imul, 1) := by decide +kernel
theorem dX2_two_8 : decode cX2_two 8 = .ok (.aload_n 0, 1) := by decide +kernel
theorem dX2_two_9 : decode cX2_two 9 = .ok (.iload_n 1, 1) := by decide +kernel
theorem dX2_two_10 : decode cX2_two 10 = .ok (.iconst 1, 1) := by decide +kernel
theorem dX2_two_11 : decode cX2_two 11 = .ok (.iadd, 1) := by decide +kernel
theorem dX2_two_12 : decode cX2_two 12 = .ok (.invokevirtual 54, 3) := by decide +kernel
theorem dX2_two_15 : decode cX2_two 15 = .ok (.iadd, 1) := by decide +kernel
theorem dX2_two_16 : decode cX2_two 16 = .ok (.ireturn, 1) := by decide +kernel
theorem dX3_init_0 : decode cX3_init 0 = .ok (.aload_n 0, 1) := by decide +kernel
theorem dX3_init_1 : decode cX3_init 1 = .ok (.invokespecial 3, 3) := by decide +kernel
theorem dX3_init_4 : decode cX3_init 4 = .ok (.aload_n 0, 1) := by decide +kernel
theorem dX3_init_5 : decode cX3_init 5 = .ok (.bipush 8, 2) := by decide +kernel
theorem dX3_init_7 : decode cX3_init 7 = .ok (.newarray .int, 2) := by decide +kernel
theorem dX3_init_9 : decode cX3_init 9 = .ok (.putfield 9, 3) := by decide +kernel
theorem dX3_init_12 : decode cX3_init 12 = .ok (.aload_n 0, 1) := by decide +kernel
theorem dX3_init_13 : decode cX3_init 13 = .ok (.bipush 6, 2) := by decide +kernel
theorem dX3_init_15 : decode cX3_init 15 = .ok (.newarray .int, 2) := by decide +kernel
theorem dX3_init_17 : decode cX3_init 17 = .ok (.putfield 15, 3) := by decide +kernel
theorem dX3_init_20 : decode cX3_init 20 = .ok (.aload_n 0, 1) := by decide +kernel
theorem dX3_init_21 : decode cX3_init 21 = .ok (.bipush 6, 2) := by decide +kernel
theorem dX3_init_23 : decode cX3_init 23 = .ok (.newarray .int, 2) := by decide +kernel
theorem dX3_init_25 : decode cX3_init 25 = .ok (.putfield 18, 3) := by decide +kernel
theorem dX3_init_28 : decode cX3_init 28 = .ok (.aload_n 0, 1) := by decide +kernel
theorem dX3_init_29 : decode cX3_init 29 = .ok (.bipush 6, 2) := by decide +kernel
theorem dX3_init_31 : decode cX3_init 31 = .ok (.newarray .int, 2) := by decide +kernel
theorem dX3_init_33 : decode cX3_init 33 = .ok (.putfield 21, 3) := by decide +kernel
theorem dX3_init_36 : decode cX3_init 36 = .ok (.aload_n 0, 1) := by decide +kernel
theorem dX3_init_37 : decode cX3_init 37 = .ok (.bipush 6, 2) := by decide +kernel
theorem dX3_init_39 : decode cX3_init 39 = .ok (.newarray .int, 2) := by decide +kernel
theorem dX3_init_41 : decode cX3_init 41 = .ok (.putfield 24, 3) := by decide +kernel
theorem dX3_init_44 : decode cX3_init 44 = .ok (.aload_n 0, 1) := by decide +kernel
theorem dX3_init_45 : decode cX3_init 45 = .ok (.bipush 6, 2) := by decide +kernel
theorem dX3_init_47 : decode cX3_init 47 = .ok (.newarray .int, 2) := by decide +kernel
theorem dX3_init_49 : decode cX3_init 49 = .ok (.putfield 27, 3) := by decide +kernel
theorem dX3_init_52 : decode cX3_init 52 = .ok (.aload_n 0, 1) := by decide +kernel
theorem dX3_init_53 : decode cX3_init 53 = .ok (.bipush 6, 2) := by decide +kernel
theorem dX3_init_55 : decode cX3_init 55 = .ok (.newarray .int, 2) := by decide +kernel
theorem dX3_init_57 : decode cX3_init 57 = .ok (.putfield 30, 3) := by decide +kernel
theorem dX3_init_60 : decode cX3_init 60 = .ok (.aload_n 0, 1) := by decide +kernel
theorem dX3_init_61 : decode cX3_init 61 = .ok (.iconst 0, 1) := by decide +kernel
theorem dX3_init_62 : decode cX3_init 62 = .ok (.putfield 33, 3) := by decide +kernel
theorem dX3_init_65 : decode cX3_init 65 = .ok (.aload_n 0, 1) := by decide +kernel
theorem dX3_init_66 : decode cX3_init 66 = .ok (.iconst 0, 1) := by decide +kernel
theorem dX3_init_67 : decode cX3_init 67 = .ok (.putfield 37, 3) := by decide +kernel
theorem dX3_init_70 : decode cX3_init 70 = .ok (.aload_n 0, 1) := by decide +kernel
theorem dX3_init_71 : decode cX3_init 71 = .ok (.iconst 0, 1) := by decide +kernel
theorem dX3_init_72 : decode cX3_init 72 = .ok (.putfield 40, 3) := by decide +kernel
theorem dX3_init_75 : decode cX3_init 75 = .ok (.aload_n 0, 1) := by decide +kernel
theorem dX3_init_76 : decode cX3_init 76 = .ok (.iconst 0, 1) := by decide +kernel
theorem dX3_init_77 : decode cX3_init 77 = .ok (.putfield 43, 3) := by decide +kernel
theorem dX3_init_80 : decode cX3_init 80 = .ok (.aload_n 0, 1) := by decide +kernel
theorem dX3_init_81 : decode cX3_init 81 = .ok (.iconst 0, 1) := by decide +kernel
theorem dX3_init_82 : decode cX3_init 82 = .ok (.putfield 46, 3) := by decide +kernel
theorem dX3_init_85 : decode cX3_init 85 = .ok (.aload_n 0, 1) := by decide +kernel
theorem dX3_init_86 : decode cX3_init 86 = .ok (.iconst 0, 1) := by decide +kernel
theorem dX3_init_87 : decode cX3_init 87 = .ok (.putfield 49, 3) := by decide +kernel
theorem dX3_init_90 : decode cX3_init 90 = .ok (.aload_n 0, 1) := by decide +kernel
theorem dX3_init_91 : decode cX3_init 91 = .ok (.iconst 0, 1) := by decide +kernel
theorem dX3_init_92 : decode cX3_init 92 = .ok (.putfield 52, 3) := by decide +kernel
theorem dX3_init_95 : decode cX3_init 95 = .ok (.return_, 1) := by decide +kernel
theorem dX3_walk_0 : decode cX3_walk 0 = .ok (.aload_n 0, 1) := by decide +kernel
theorem dX3_walk_1 : decode cX3_walk 1 = .ok (.iconst 0, 1) := by decide +kernel
theorem dX3_walk_2 : decode cX3_walk 2 = .ok (.putfield 52, 3) := by decide +kernel
theorem dX3_walk_5 : decode cX3_walk 5 = .ok (.aload_n 0, 1) := by decide +kernel
theorem dX3_walk_6 : decode cX3_walk 6 = .ok (.aload_n 1, 1) := by decide +kernel
theorem dX3_walk_7 : decode cX3_walk 7 = .ok (.aload_n 2, 1) := by decide +kernel
theorem dX3_walk_8 : decode cX3_walk 8 = .ok (.invokevirtual 56, 3) := by decide +kernel
theorem dX3_walk_11 : decode cX3_walk 11 = .ok (.return_, 1) := by decide +kernel
theorem dX3_walkWithOneBunEach_0 : decode cX3_walkWithOneBunEach 0 = .ok (.aload_n 0, 1) := by decide +kernel
theorem dX3_walkWithOneBunEach_1 : decode cX3_walkWithOneBunEach 1 = .ok (.iconst 1, 1) := by decide +kernel
theorem dX3_walkWithOneBunEach_2 : decode cX3_walkWithOneBunEach 2 = .ok (.putfield 52, 3) := by decide +kernel
theorem dX3_walkWithOneBunEach_5 : decode cX3_walkWithOneBunEach 5 = .ok (.aload_n 0, 1) := by decide +kernel
theorem dX3_walkWithOneBunEach_6 : decode cX3_walkWithOneBunEach 6 = .ok (.aload_n 1, 1) := by decide +kernel
theorem dX3_walkWithOneBunEach_7 : decode cX3_walkWithOneBunEach 7 = .ok (.aload_n 2, 1) := by decide +kernel
theorem dX3_walkWithOneBunEach_8 : decode cX3_walkWithOneBunEach 8 = .ok (.invokevirtual 56, 3) := by decide +kernel
theorem dX3_walkWithOneBunEach_11 : decode cX3_walkWithOneBunEach 11 = .ok (.return_, 1) := by decide +kernel
theorem dX3_goRound_0 : decode cX3_goRound 0 = .ok (.aload_n 0, 1) := by decide +kernel
theorem dX3_goRound_1 : decode cX3_goRound 1 = .ok (.aload_n 1, 1) := by decide +kernel
theorem dX3_goRound_2 : decode cX3_goRound 2 = .ok (.invokevirtual 60, 3) := by decide +kernel
theorem dX3_goRound_5 : decode cX3_goRound 5 = .ok (.aload_n 1, 1) := by decide +kernel
theorem dX3_goRound_6 : decode cX3_goRound 6 = .ok (.getfield 64, 3) := by decide +kernel
theorem dX3_goRound_9 : decode cX3_goRound 9 = .ok (.iconst 5, 1) := by decide +kernel
theorem dX3_goRound_10 : decode cX3_goRound 10 = .ok (.iaload, 1) := by decide +kernel
theorem dX3_goRound_11 : decode cX3_goRound 11 = .ok (.istore_n 3, 1) := by decide +kernel
theorem dX3_goRound_12 : decode cX3_goRound 12 = .ok (.iconst 0, 1) := by decide +kernel
theorem dX3_goRound_13 : decode cX3_goRound 13 = .ok (.istore 4, 2) := by decide +kernel
theorem dX3_goRound_15 : decode cX3_goRound 15 = .ok (.iload 4, 2) := by decide +kernel
theorem dX3_goRound_17 : decode cX3_goRound 17 = .ok (.aload_n 1, 1) := by decide +kernel
theorem dX3_goRound_18 : decode cX3_goRound 18 = .ok (.getfield 69, 3) := by decide +kernel
theorem dX3_goRound_21 : decode cX3_goRound 21 = .ok (.if_icmp .ge 53, 3) := by decide +kernel
theorem dX3_goRound_24 : decode cX3_goRound 24 = .ok (.aload_n 2, 1) := by decide +kernel
theorem dX3_goRound_25 : decode cX3_goRound 25 = .ok (.iload 4, 2) := by decide +kernel
theorem dX3_goRound_27 : decode cX3_goRound 27 = .ok (.iaload, 1) := by decide +kernel
theorem dX3_goRound_28 : decode cX3_goRound 28 = .ok (.istore 5, 2) := by decide +kernel
theorem dX3_goRound_30 : decode cX3_goRound 30 = .ok (.aload_n 0, 1) := by decide +kernel
theorem dX3_goRound_31 : decode cX3_goRound 31 = .ok (.dup, 1) := by decide +kernel
theorem dX3_goRound_32 : decode cX3_goRound 32 = .ok (.getfield 33, 3) := by decide +kernel
theorem dX3_goRound_35 : decode cX3_goRound 35 = .ok (.aload_n 1, 1) := by decide +kernel
theorem dX3_goRound_36 : decode cX3_goRound 36 = .ok (.iload_n 3, 1) := by decide +kernel
theorem dX3_goRound_37 : decode cX3_goRound 37 = .ok (.aload_n 1, 1) := by decide +kernel
theorem dX3_goRound_38 : decode cX3_goRound 38 = .ok (.getfield 72, 3) := by decide +kernel
theorem dX3_goRound_41 : decode cX3_goRound 41 = .ok (.iload 5, 2) := by decide +kernel
theorem dX3_goRound_43 : decode cX3_goRound 43 = .ok (.iaload, 1) := by decide +kernel
theorem dX3_goRound_44 : decode cX3_goRound 44 = .ok (.invokevirtual 75, 3) := by decide +kernel
theorem dX3_goRound_47 : decode cX3_goRound 47 = .ok (.iadd, 1) := by decide +kernel
theorem dX3_goRound_48 : decode cX3_goRound 48 = .ok (.putfield 33, 3) := by decide +kernel
theorem dX3_goRound_51 : decode cX3_goRound 51 = .ok (.aload_n 1, 1) := by decide +kernel
theorem dX3_goRound_52 : decode cX3_goRound 52 = .ok (.getfield 72, 3) := by decide +kernel
theorem dX3_goRound_55 : decode cX3_goRound 55 = .ok (.iload 5, 2) := by decide +kernel
theorem dX3_goRound_57 : decode cX3_goRound 57 = .ok (.iaload, 1) := by decide +kernel
theorem dX3_goRound_58 : decode cX3_goRound 58 = .ok (.istore_n 3, 1) := by decide +kernel
theorem dX3_goRound_59 : decode cX3_goRound 59 = .ok (.aload_n 0, 1) := by decide +kernel
theorem dX3_goRound_60 : decode cX3_goRound 60 = .ok (.aload_n 1, 1) := by decide +kernel
theorem dX3_goRound_61 : decode cX3_goRound 61 = .ok (.iload 5, 2) := by decide +kernel
theorem dX3_goRound_63 : decode cX3_goRound 63 = .ok (.iload 4, 2) := by decide +kernel
theorem dX3_goRound_65 : decode cX3_goRound 65 = .ok (.invokevirtual 79, 3) := by decide +kernel
theorem dX3_goRound_68 : decode cX3_goRound 68 = .ok (.iinc 4 1, 3) := by decide +kernel
theorem dX3_goRound_71 : decode cX3_goRound 71 = .ok (.goto (-56), 3) := by decide +kernel
theorem dX3_goRound_74 : decode cX3_goRound 74 = .ok (.aload_n 0, 1) := by decide +kernel
theorem dX3_goRound_75 : decode cX3_goRound 75 = .ok (.getfield 9, 3) := by decide +kernel
theorem dX3_goRound_78 : decode cX3_goRound 78 = .ok (.iconst 0, 1) := by decide +kernel
theorem dX3_goRound_79 : decode cX3_goRound 79 = .ok (.aload_n 0, 1) := by decide +kernel
theorem dX3_goRound_80 : decode cX3_goRound 80 = .ok (.getfield 33, 3) := by decide +kernel
theorem dX3_goRound_83 : decode cX3_goRound 83 = .ok (.iastore, 1) := by decide +kernel
theorem dX3_goRound_84 : decode cX3_goRound 84 = .ok (.aload_n 0, 1) := by decide +kernel
theorem dX3_goRound_85 : decode cX3_goRound 85 = .ok (.getfield 9, 3) := by decide +kernel
theorem dX3_goRound_88 : decode cX3_goRound 88 = .ok (.bipush 7, 2) := by decide +kernel
theorem dX3_goRound_90 : decode cX3_goRound 90 = .ok (.aload_n 0, 1) := by decide +kernel
theorem dX3_goRound_91 : decode cX3_goRound 91 = .ok (.getfield 33, 3) := by decide +kernel
theorem dX3_goRound_94 : decode cX3_goRound 94 = .ok (.iconst 2, 1) := by decide +kernel
theorem dX3_goRound_95 : decode cX3_goRound 95 = .ok (.aload_n 0, 1) := by decide +kernel
theorem dX3_goRound_96 : decode cX3_goRound 96 = .ok (.getfield 9, 3) := by decide +kernel
theorem dX3_goRound_99 : decode cX3_goRound 99 = .ok (.iconst 3, 1) := by decide +kernel
theorem dX3_goRound_100 : decode cX3_goRound 100 = .ok (.iaload, 1) := by decide +kernel
theorem dX3_goRound_101 : decode cX3_goRound 101 = .ok (.imul, 1) := by decide +kernel
theorem dX3_goRound_102 : decode cX3_goRound 102 = .ok (.iadd, 1) := by decide +kernel
theorem dX3_goRound_103 : decode cX3_goRound 103 = .ok (.iconst 3, 1) := by decide +kernel
theorem dX3_goRound_104 : decode cX3_goRound 104 = .ok (.aload_n 0, 1) := by decide +kernel
theorem dX3_goRound_105 : decode cX3_goRound 105 = .ok (.getfield 9, 3) := by decide +kernel
theorem dX3_goRound_108 : decode cX3_goRound 108 = .ok (.iconst 5, 1) := by decide +kernel
theorem dX3_goRound_109 : decode cX3_goRound 109 = .ok (.iaload, 1) := by decide +kernel
theorem dX3_goRound_110 : decode cX3_goRound 110 = .ok (.imul, 1) := by decide +kernel
theorem dX3_goRound_111 : decode cX3_goRound 111 = .ok (.iadd, 1) := by decide +kernel
theorem dX3_goRound_112 : decode cX3_goRound 112 = .ok (.iconst 4, 1) := by decide +kernel
theorem dX3_goRound_113 : decode cX3_goRound 113 = .ok (.aload_n 0, 1) := by decide +kernel
theorem dX3_goRound_114 : decode cX3_goRound 114 = .ok (.getfield 9, 3) := by decide +kernel
theorem dX3_goRound_117 : decode cX3_goRound 117 = .ok (.iconst 2, 1) := by decide +kernel
theorem dX3_goRound_118 : decode cX3_goRound 118 = .ok (.iaload, 1) := by decide +kernel
theorem dX3_goRound_119 : decode cX3_goRound 119 = .ok (.imul, 1) := by decide +kernel
theorem dX3_goRound_120 : decode cX3_goRound 120 = .ok (.iadd, 1) := by decide +kernel
theorem dX3_goRound_121 : decode cX3_goRound 121 = .ok (.iastore, 1) := by decide +kernel
theorem dX3_goRound_122 : decode cX3_goRound 122 = .ok (.return_, 1) := by decide +kernel
theorem dX3_begin_0 : decode cX3_begin 0 = .ok (.iconst 0, 1) := by decide +kernel
theorem dX3_begin_1 : decode cX3_begin 1 = .ok (.istore_n 2, 1) := by decide +kernel
theorem dX3_begin_2 : decode cX3_begin 2 = .ok (.iload_n 2, 1) := by decide +kernel
theorem dX3_begin_3 : decode cX3_begin 3 = .ok (.bipush 8, 2) := by decide +kernel
theorem dX3_begin_5 : decode cX3_begin 5 = .ok (.if_icmp .ge 16, 3) := by decide +kernel
theorem dX3_begin_8 : decode cX3_begin 8 = .ok (.aload_n 0, 1) := by decide +kernel
theorem dX3_begin_9 : decode cX3_begin 9 = .ok (.getfield 9, 3) := by decide +kernel
theorem dX3_begin_12 : decode cX3_begin 12 = .ok (.iload_n 2, 1) := by decide +kernel
theorem dX3_begin_13 : decode cX3_begin 13 = .ok (.iconst 0, 1) := by decide +kernel
theorem dX3_begin_14 : decode cX3_begin 14 = .ok (.iastore, 1) := by decide +kernel
theorem dX3_begin_15 : decode cX3_begin 15 = .ok (.iinc 2 1, 3) := by decide +kernel
theorem dX3_begin_18 : decode cX3_begin 18 = .ok (.goto (-16), 3) := by decide +kernel
theorem dX3_begin_21 : decode cX3_begin 21 = .ok (.aload_n 0, 1) := by decide +kernel
theorem dX3_begin_22 : decode cX3_begin 22 = .ok (.iconst 0, 1) := by decide +kernel
theorem dX3_begin_23 : decode cX3_begin 23 = .ok (.putfield 33, 3) := by decide +kernel
theorem dX3_begin_26 : decode cX3_begin 26 = .ok (.aload_n 0, 1) := by decide +kernel
theorem dX3_begin_27 : decode cX3_begin 27 = .ok (.iconst 0, 1) := by decide +kernel
theorem dX3_begin_28 : decode cX3_begin 28 = .ok (.putfield 43, 3) := by decide +kernel
theorem dX3_begin_31 : decode cX3_begin 31 = .ok (.aload_n 0, 1) := by decide +kernel
theorem dX3_begin_32 : decode cX3_begin 32 = .ok (.aload_n 1, 1) := by decide +kernel
theorem dX3_begin_33 : decode cX3_begin 33 = .ok (.getfield 64, 3) := by decide +kernel
theorem dX3_begin_36 : decode cX3_begin 36 = .ok (.iconst 0, 1) := by decide +kernel
theorem dX3_begin_37 : decode cX3_begin 37 = .ok (.iaload, 1) := by decide +kernel
theorem dX3_begin_38 : decode cX3_begin 38 = .ok (.putfield 37, 3) := by decide +kernel
theorem dX3_begin_41 : decode cX3_begin 41 = .ok (.aload_n 0, 1) := by decide +kernel
theorem dX3_begin_42 : decode cX3_begin 42 = .ok (.aload_n 1, 1) := by decide +kernel
theorem dX3_begin_43 : decode cX3_begin 43 = .ok (.getfield 64, 3) := by decide +kernel
theorem dX3_begin_46 : decode cX3_begin 46 = .ok (.iconst 1, 1) := by decide +kernel
theorem dX3_begin_47 : decode cX3_begin 47 = .ok (.iaload, 1) := by decide +kernel
theorem dX3_begin_48 : decode cX3_begin 48 = .ok (.putfield 40, 3) := by decide +kernel
theorem dX3_begin_51 : decode cX3_begin 51 = .ok (.aload_n 0, 1) := by decide +kernel
theorem dX3_begin_52 : decode cX3_begin 52 = .ok (.aload_n 1, 1) := by decide +kernel
theorem dX3_begin_53 : decode cX3_begin 53 = .ok (.getfield 64, 3) := by decide +kernel
theorem dX3_begin_56 : decode cX3_begin 56 = .ok (.iconst 2, 1) := by decide +kernel
theorem dX3_begin_57 : decode cX3_begin 57 = .ok (.iaload, 1) := by decide +kernel
theorem dX3_begin_58 : decode cX3_begin 58 = .ok (.putfield 46, 3) := by decide +kernel
theorem dX3_begin_61 : decode cX3_begin 61 = .ok (.aload_n 0, 1) := by decide +kernel
theorem dX3_begin_62 : decode cX3_begin 62 = .ok (.aload_n 1, 1) := by decide +kernel
theorem dX3_begin_63 : decode cX3_begin 63 = .ok (.getfield 64, 3) := by decide +kernel
theorem dX3_begin_66 : decode cX3_begin 66 = .ok (.iconst 3, 1) := by decide +kernel
theorem dX3_begin_67 : decode cX3_begin 67 = .ok (.iaload, 1) := by decide +kernel
theorem dX3_begin_68 : decode cX3_begin 68 = .ok (.aload_n 1, 1) := by decide +kernel
theorem dX3_begin_69 : decode cX3_begin 69 = .ok (.getfield 64, 3) := by decide +kernel
theorem dX3_begin_72 : decode cX3_begin 72 = .ok (.iconst 4, 1) := by decide +kernel
theorem dX3_begin_73 : decode cX3_begin 73 = .ok (.iaload, 1) := by decide +kernel
theorem dX3_begin_74 : decode cX3_begin 74 = .ok (.iadd, 1) := by decide +kernel
theorem dX3_begin_75 : decode cX3_begin 75 = .ok (.putfield 49, 3) := by decide +kernel
theorem dX3_begin_78 : decode cX3_begin 78 = .ok (.return_, 1) := by decide +kernel
theorem dX3_visit_0 : decode cX3_visit 0 = .ok (.aload_n 0, 1) := by decide +kernel
theorem dX3_visit_1 : decode cX3_visit 1 = .ok (.getfield 15, 3) := by decide +kernel
theorem dX3_visit_4 : decode cX3_visit 4 = .ok (.iload_n 3, 1) := by decide +kernel
theorem dX3_visit_5 : decode cX3_visit 5 = .ok (.aload_n 0, 1) := by decide +kernel
theorem dX3_visit_6 : decode cX3_visit 6 = .ok (.getfield 33, 3) := by decide +kernel
theorem dX3_visit_9 : decode cX3_visit 9 = .ok (.iastore, 1) := by decide +kernel
theorem dX3_visit_10 : decode cX3_visit 10 = .ok (.aload_n 1, 1) := by decide +kernel
theorem dX3_visit_11 : decode cX3_visit 11 = .ok (.iload_n 2, 1) := by decide +kernel
theorem dX3_visit_12 : decode cX3_visit 12 = .ok (.aload_n 0, 1) := by decide +kernel
theorem dX3_visit_13 : decode cX3_visit 13 = .ok (.getfield 33, 3) := by decide +kernel
theorem dX3_visit_16 : decode cX3_visit 16 = .ok (.invokevirtual 83, 3) := by decide +kernel
theorem dX3_visit_19 : decode cX3_visit 19 = .ok (.istore 4, 2) := by decide +kernel
theorem dX3_visit_21 : decode cX3_visit 21 = .ok (.aload_n 0, 1) := by decide +kernel
theorem dX3_visit_22 : decode cX3_visit 22 = .ok (.getfield 37, 3) := by decide +kernel
theorem dX3_visit_25 : decode cX3_visit 25 = .ok (.iload 4, 2) := by decide +kernel
theorem dX3_visit_27 : decode cX3_visit 27 = .ok (.if_icmp .ge 14, 3) := by decide +kernel
theorem dX3_visit_30 : decode cX3_visit 30 = .ok (.aload_n 0, 1) := by decide +kernel
theorem dX3_visit_31 : decode cX3_visit 31 = .ok (.aload_n 1, 1) := by decide +kernel
theorem dX3_visit_32 : decode cX3_visit 32 = .ok (.getfield 64, 3) := by decide +kernel
theorem dX3_visit_35 : decode cX3_visit 35 = .ok (.bipush 8, 2) := by decide +kernel
theorem dX3_visit_37 : decode cX3_visit 37 = .ok (.iaload, 1) := by decide +kernel
theorem dX3_visit_38 : decode cX3_visit 38 = .ok (.invokevirtual 86, 3) := by decide +kernel
theorem dX3_visit_41 : decode cX3_visit 41 = .ok (.aload_n 0, 1) := by decide +kernel
theorem dX3_visit_42 : decode cX3_visit 42 = .ok (.getfield 18, 3) := by decide +kernel
theorem dX3_visit_45 : decode cX3_visit 45 = .ok (.iload_n 3, 1) := by decide +kernel
theorem dX3_visit_46 : decode cX3_visit 46 = .ok (.aload_n 0, 1) := by decide +kernel
theorem dX3_visit_47 : decode cX3_visit 47 = .ok (.invokevirtual 90, 3) := by decide +kernel
theorem dX3_visit_50 : decode cX3_visit 50 = .ok (.iastore, 1) := by decide +kernel
theorem dX3_visit_51 : decode cX3_visit 51 = .ok (.aload_n 0, 1) := by decide +kernel
theorem dX3_visit_52 : decode cX3_visit 52 = .ok (.getfield 21, 3) := by decide +kernel
theorem dX3_visit_55 : decode cX3_visit 55 = .ok (.iload_n 3, 1) := by decide +kernel
theorem dX3_visit_56 : decode cX3_visit 56 = .ok (.iload 4, 2) := by decide +kernel
theorem dX3_visit_58 : decode cX3_visit 58 = .ok (.aload_n 0, 1) := by decide +kernel
theorem dX3_visit_59 : decode cX3_visit 59 = .ok (.getfield 37, 3) := by decide +kernel
theorem dX3_visit_62 : decode cX3_visit 62 = .ok (.invokestatic 94, 3) := by decide +kernel
theorem dX3_visit_65 : decode cX3_visit 65 = .ok (.iastore, 1) := by decide +kernel
theorem dX3_visit_66 : decode cX3_visit 66 = .ok (.aload_n 0, 1) := by decide +kernel
theorem dX3_visit_67 : decode cX3_visit 67 = .ok (.dup, 1) := by decide +kernel
theorem dX3_visit_68 : decode cX3_visit 68 = .ok (.getfield 37, 3) := by decide +kernel
theorem dX3_visit_71 : decode cX3_visit 71 = .ok (.aload_n 0, 1) := by decide +kernel
theorem dX3_visit_72 : decode cX3_visit 72 = .ok (.getfield 21, 3) := by decide +kernel
theorem dX3_visit_75 : decode cX3_visit 75 = .ok (.iload_n 3, 1) := by decide +kernel
theorem dX3_visit_76 : decode cX3_visit 76 = .ok (.iaload, 1) := by decide +kernel
theorem dX3_visit_77 : decode cX3_visit 77 = .ok (.isub, 1) := by decide +kernel
theorem dX3_visit_78 : decode cX3_visit 78 = .ok (.putfield 37, 3) := by decide +kernel
theorem dX3_visit_81 : decode cX3_visit 81 = .ok (.aload_n 0, 1) := by decide +kernel
theorem dX3_visit_82 : decode cX3_visit 82 = .ok (.getfield 27, 3) := by decide +kernel
theorem dX3_visit_85 : decode cX3_visit 85 = .ok (.iload_n 3, 1) := by decide +kernel
theorem dX3_visit_86 : decode cX3_visit 86 = .ok (.aload_n 0, 1) := by decide +kernel
theorem dX3_visit_87 : decode cX3_visit 87 = .ok (.getfield 18, 3) := by decide +kernel
theorem dX3_visit_90 : decode cX3_visit 90 = .ok (.iload_n 3, 1) := by decide +kernel
theorem dX3_visit_91 : decode cX3_visit 91 = .ok (.iaload, 1) := by decide +kernel
theorem dX3_visit_92 : decode cX3_visit 92 = .ok (.bipush 60, 2) := by decide +kernel
theorem dX3_visit_94 : decode cX3_visit 94 = .ok (.if_icmp .ge 12, 3) := by decide +kernel
theorem dX3_visit_97 : decode cX3_visit 97 = .ok (.aload_n 0, 1) := by decide +kernel
theorem dX3_visit_98 : decode cX3_visit 98 = .ok (.getfield 21, 3) := by decide +kernel
theorem dX3_visit_101 : decode cX3_visit 101 = .ok (.iload_n 3, 1) := by decide +kernel
theorem dX3_visit_102 : decode cX3_visit 102 = .ok (.iaload, 1) := by decide +kernel
theorem dX3_visit_103 : decode cX3_visit 103 = .ok (.goto 4, 3) := by decide +kernel
theorem dX3_visit_106 : decode cX3_visit 106 = .ok (.iconst 0, 1) := by decide +kernel
theorem dX3_visit_107 : decode cX3_visit 107 = .ok (.iastore, 1) := by decide +kernel
theorem dX3_visit_108 : decode cX3_visit 108 = .ok (.aload_n 0, 1) := by decide +kernel
theorem dX3_visit_109 : decode cX3_visit 109 = .ok (.getfield 30, 3) := by decide +kernel
theorem dX3_visit_112 : decode cX3_visit 112 = .ok (.iload_n 3, 1) := by decide +kernel
theorem dX3_visit_113 : decode cX3_visit 113 = .ok (.iload 4, 2) := by decide +kernel
theorem dX3_visit_115 : decode cX3_visit 115 = .ok (.aload_n 0, 1) := by decide +kernel
theorem dX3_visit_116 : decode cX3_visit 116 = .ok (.getfield 33, 3) := by decide +kernel
theorem dX3_visit_119 : decode cX3_visit 119 = .ok (.imul, 1) := by decide +kernel
theorem dX3_visit_120 : decode cX3_visit 120 = .ok (.iastore, 1) := by decide +kernel
theorem dX3_visit_121 : decode cX3_visit 121 = .ok (.iload_n 3, 1) := by decide +kernel
theorem dX3_visit_122 : decode cX3_visit 122 = .ok (.aload_n 1, 1) := by decide +kernel
theorem dX3_visit_123 : decode cX3_visit 123 = .ok (.getfield 69, 3) := by decide +kernel
theorem dX3_visit_126 : decode cX3_visit 126 = .ok (.iconst 1, 1) := by decide +kernel
theorem dX3_visit_127 : decode cX3_visit 127 = .ok (.isub, 1) := by decide +kernel
theorem dX3_visit_128 : decode cX3_visit 128 = .ok (.if_icmp .ne 7, 3) := by decide +kernel
theorem dX3_visit_131 : decode cX3_visit 131 = .ok (.iconst 1, 1) := by decide +kernel
theorem dX3_visit_132 : decode cX3_visit 132 = .ok (.goto 4, 3) := by decide +kernel
theorem dX3_visit_135 : decode cX3_visit 135 = .ok (.iconst 0, 1) := by decide +kernel
theorem dX3_visit_136 : decode cX3_visit 136 = .ok (.istore 5, 2) := by decide +kernel
theorem dX3_visit_138 : decode cX3_visit 138 = .ok (.aload_n 0, 1) := by decide +kernel
theorem dX3_visit_139 : decode cX3_visit 139 = .ok (.iload_n 3, 1) := by decide +kernel
theorem dX3_visit_140 : decode cX3_visit 140 = .ok (.aload_n 0, 1) := by decide +kernel
theorem dX3_visit_141 : decode cX3_visit 141 = .ok (.getfield 52, 3) := by decide +kernel
theorem dX3_visit_144 : decode cX3_visit 144 = .ok (.ifCond .eq 7, 3) := by decide +kernel
theorem dX3_visit_147 : decode cX3_visit 147 = .ok (.iconst 1, 1) := by decide +kernel
theorem dX3_visit_148 : decode cX3_visit 148 = .ok (.goto 8, 3) := by decide +kernel
theorem dX3_visit_151 : decode cX3_visit 151 = .ok (.aload_n 1, 1) := by decide +kernel
theorem dX3_visit_152 : decode cX3_visit 152 = .ok (.iload_n 2, 1) := by decide +kernel
theorem dX3_visit_153 : decode cX3_visit 153 = .ok (.invokevirtual 99, 3) := by decide +kernel
theorem dX3_visit_156 : decode cX3_visit 156 = .ok (.iload 5, 2) := by decide +kernel
theorem dX3_visit_158 : decode cX3_visit 158 = .ok (.ifCond .eq 7, 3) := by decide +kernel
theorem dX3_visit_161 : decode cX3_visit 161 = .ok (.iconst 0, 1) := by decide +kernel
theorem dX3_visit_162 : decode cX3_visit 162 = .ok (.goto 10, 3) := by decide +kernel
theorem dX3_visit_165 : decode cX3_visit 165 = .ok (.aload_n 1, 1) := by decide +kernel
theorem dX3_visit_166 : decode cX3_visit 166 = .ok (.getfield 64, 3) := by decide +kernel
theorem dX3_visit_169 : decode cX3_visit 169 = .ok (.bipush 9, 2) := by decide +kernel
theorem dX3_visit_171 : decode cX3_visit 171 = .ok (.iaload, 1) := by decide +kernel
theorem dX3_visit_172 : decode cX3_visit 172 = .ok (.invokevirtual 103, 3) := by decide +kernel
theorem dX3_visit_175 : decode cX3_visit 175 = .ok (.aload_n 0, 1) := by decide +kernel
theorem dX3_visit_176 : decode cX3_visit 176 = .ok (.dup, 1) := by decide +kernel
theorem dX3_visit_177 : decode cX3_visit 177 = .ok (.getfield 33, 3) := by decide +kernel
theorem dX3_visit_180 : decode cX3_visit 180 = .ok (.aload_n 1, 1) := by decide +kernel
theorem dX3_visit_181 : decode cX3_visit 181 = .ok (.iload_n 2, 1) := by decide +kernel
theorem dX3_visit_182 : decode cX3_visit 182 = .ok (.aload_n 0, 1) := by decide +kernel
theorem dX3_visit_183 : decode cX3_visit 183 = .ok (.getfield 21, 3) := by decide +kernel
theorem dX3_visit_186 : decode cX3_visit 186 = .ok (.iload_n 3, 1) := by decide +kernel
theorem dX3_visit_187 : decode cX3_visit 187 = .ok (.iaload, 1) := by decide +kernel
theorem dX3_visit_188 : decode cX3_visit 188 = .ok (.invokevirtual 107, 3) := by decide +kernel
theorem dX3_visit_191 : decode cX3_visit 191 = .ok (.iadd, 1) := by decide +kernel
theorem dX3_visit_192 : decode cX3_visit 192 = .ok (.putfield 33, 3) := by decide +kernel
theorem dX3_visit_195 : decode cX3_visit 195 = .ok (.aload_n 0, 1) := by decide +kernel
theorem dX3_visit_196 : decode cX3_visit 196 = .ok (.getfield 9, 3) := by decide +kernel
theorem dX3_visit_199 : decode cX3_visit 199 = .ok (.iconst 1, 1) := by decide +kernel
theorem dX3_visit_200 : decode cX3_visit 200 = .ok (.dup2, 1) := by decide +kernel
theorem dX3_visit_201 : decode cX3_visit 201 = .ok (.iaload, 1) := by decide +kernel
theorem dX3_visit_202 : decode cX3_visit 202 = .ok (.aload_n 0, 1) := by decide +kernel
theorem dX3_visit_203 : decode cX3_visit 203 = .ok (.getfield 21, 3) := by decide +kernel
theorem dX3_visit_206 : decode cX3_visit 206 = .ok (.iload_n 3, 1) := by decide +kernel
theorem dX3_visit_207 : decode cX3_visit 207 = .ok (.iaload, 1) := by decide +kernel
theorem dX3_visit_208 : decode cX3_visit 208 = .ok (.iadd, 1) := by decide +kernel
theorem dX3_visit_209 : decode cX3_visit 209 = .ok (.iastore, 1) := by decide +kernel
theorem dX3_visit_210 : decode cX3_visit 210 = .ok (.aload_n 0, 1) := by decide +kernel
theorem dX3_visit_211 : decode cX3_visit 211 = .ok (.getfield 9, 3) := by decide +kernel
theorem dX3_visit_214 : decode cX3_visit 214 = .ok (.iconst 2, 1) := by decide +kernel
theorem dX3_visit_215 : decode cX3_visit 215 = .ok (.dup2, 1) := by decide +kernel
theorem dX3_visit_216 : decode cX3_visit 216 = .ok (.iaload, 1) := by decide +kernel
theorem dX3_visit_217 : decode cX3_visit 217 = .ok (.iload 4, 2) := by decide +kernel
theorem dX3_visit_219 : decode cX3_visit 219 = .ok (.aload_n 0, 1) := by decide +kernel
theorem dX3_visit_220 : decode cX3_visit 220 = .ok (.getfield 21, 3) := by decide +kernel
theorem dX3_visit_223 : decode cX3_visit 223 = .ok (.iload_n 3, 1) := by decide +kernel
theorem dX3_visit_224 : decode cX3_visit 224 = .ok (.iaload, 1) := by decide +kernel
theorem dX3_visit_225 : decode cX3_visit 225 = .ok (.isub, 1) := by decide +kernel
theorem dX3_visit_226 : decode cX3_visit 226 = .ok (.iadd, 1) := by decide +kernel
theorem dX3_visit_227 : decode cX3_visit 227 = .ok (.iastore, 1) := by decide +kernel
theorem dX3_visit_228 : decode cX3_visit 228 = .ok (.aload_n 0, 1) := by decide +kernel
theorem dX3_visit_229 : decode cX3_visit 229 = .ok (.getfield 9, 3) := by decide +kernel
theorem dX3_visit_232 : decode cX3_visit 232 = .ok (.iconst 3, 1) := by decide +kernel
theorem dX3_visit_233 : decode cX3_visit 233 = .ok (.dup2, 1) := by decide +kernel
theorem dX3_visit_234 : decode cX3_visit 234 = .ok (.iaload, 1) := by decide +kernel
theorem dX3_visit_235 : decode cX3_visit 235 = .ok (.aload_n 0, 1) := by decide +kernel
theorem dX3_visit_236 : decode cX3_visit 236 = .ok (.getfield 27, 3) := by decide +kernel
theorem dX3_visit_239 : decode cX3_visit 239 = .ok (.iload_n 3, 1) := by decide +kernel
theorem dX3_visit_240 : decode cX3_visit 240 = .ok (.iaload, 1) := by decide +kernel
theorem dX3_visit_241 : decode cX3_visit 241 = .ok (.iadd, 1) := by decide +kernel
theorem dX3_visit_242 : decode cX3_visit 242 = .ok (.iastore, 1) := by decide +kernel
theorem dX3_visit_243 : decode cX3_visit 243 = .ok (.aload_n 0, 1) := by decide +kernel
theorem dX3_visit_244 : decode cX3_visit 244 = .ok (.getfield 9, 3) := by decide +kernel
theorem dX3_visit_247 : decode cX3_visit 247 = .ok (.iconst 4, 1) := by decide +kernel
theorem dX3_visit_248 : decode cX3_visit 248 = .ok (.dup2, 1) := by decide +kernel
theorem dX3_visit_249 : decode cX3_visit 249 = .ok (.iaload, 1) := by decide +kernel
theorem dX3_visit_250 : decode cX3_visit 250 = .ok (.aload_n 0, 1) := by decide +kernel
theorem dX3_visit_251 : decode cX3_visit 251 = .ok (.getfield 24, 3) := by decide +kernel
theorem dX3_visit_254 : decode cX3_visit 254 = .ok (.iload_n 3, 1) := by decide +kernel
theorem dX3_visit_255 : decode cX3_visit 255 = .ok (.iaload, 1) := by decide +kernel
theorem dX3_visit_256 : decode cX3_visit 256 = .ok (.iadd, 1) := by decide +kernel
theorem dX3_visit_257 : decode cX3_visit 257 = .ok (.iastore, 1) := by decide +kernel
theorem dX3_visit_258 : decode cX3_visit 258 = .ok (.aload_n 0, 1) := by decide +kernel
theorem dX3_visit_259 : decode cX3_visit 259 = .ok (.getfield 9, 3) := by decide +kernel
theorem dX3_visit_262 : decode cX3_visit 262 = .ok (.bipush 6, 2) := by decide +kernel
theorem dX3_visit_264 : decode cX3_visit 264 = .ok (.dup2, 1) := by decide +kernel
theorem dX3_visit_265 : decode cX3_visit 265 = .ok (.iaload, 1) := by decide +kernel
theorem dX3_visit_266 : decode cX3_visit 266 = .ok (.aload_n 0, 1) := by decide +kernel
theorem dX3_visit_267 : decode cX3_visit 267 = .ok (.getfield 30, 3) := by decide +kernel
theorem dX3_visit_270 : decode cX3_visit 270 = .ok (.iload_n 3, 1) := by decide +kernel
theorem dX3_visit_271 : decode cX3_visit 271 = .ok (.iaload, 1) := by decide +kernel
theorem dX3_visit_272 : decode cX3_visit 272 = .ok (.iadd, 1) := by decide +kernel
theorem dX3_visit_273 : decode cX3_visit 273 = .ok (.iastore, 1) := by decide +kernel
theorem dX3_visit_274 : decode cX3_visit 274 = .ok (.return_, 1) := by decide +kernel
theorem dX3_warmNow_0 : decode cX3_warmNow 0 = .ok (.aload_n 0, 1) := by decide +kernel
theorem dX3_warmNow_1 : decode cX3_warmNow 1 = .ok (.getfield 40, 3) := by decide +kernel
theorem dX3_warmNow_4 : decode cX3_warmNow 4 = .ok (.aload_n 0, 1) := by decide +kernel
theorem dX3_warmNow_5 : decode cX3_warmNow 5 = .ok (.getfield 33, 3) := by decide +kernel
theorem dX3_warmNow_8 : decode cX3_warmNow 8 = .ok (.aload_n 0, 1) := by decide +kernel
theorem dX3_warmNow_9 : decode cX3_warmNow 9 = .ok (.getfield 43, 3) := by decide +kernel
theorem dX3_warmNow_12 : decode cX3_warmNow 12 = .ok (.isub, 1) := by decide +kernel
theorem dX3_warmNow_13 : decode cX3_warmNow 13 = .ok (.iconst 4, 1) := by decide +kernel
theorem dX3_warmNow_14 : decode cX3_warmNow 14 = .ok (.idiv, 1) := by decide +kernel
theorem dX3_warmNow_15 : decode cX3_warmNow 15 = .ok (.isub, 1) := by decide +kernel
theorem dX3_warmNow_16 : decode cX3_warmNow 16 = .ok (.istore_n 1, 1) := by decide +kernel
theorem dX3_warmNow_17 : decode cX3_warmNow 17 = .ok (.iload_n 1, 1) := by decide +kernel
theorem dX3_warmNow_18 : decode cX3_warmNow 18 = .ok (.ifCond .ge 7, 3) := by decide +kernel
theorem dX3_warmNow_21 : decode cX3_warmNow 21 = .ok (.iconst 0, 1) := by decide +kernel
theorem dX3_warmNow_22 : decode cX3_warmNow 22 = .ok (.goto 4, 3) := by decide +kernel
theorem dX3_warmNow_25 : decode cX3_warmNow 25 = .ok (.iload_n 1, 1) := by decide +kernel
theorem dX3_warmNow_26 : decode cX3_warmNow 26 = .ok (.ireturn, 1) := by decide +kernel
theorem dX3_refill_0 : decode cX3_refill 0 = .ok (.iload_n 1, 1) := by decide +kernel
theorem dX3_refill_1 : decode cX3_refill 1 = .ok (.ifCond .ne 4, 3) := by decide +kernel
theorem dX3_refill_4 : decode cX3_refill 4 = .ok (.return_, 1) := by decide +kernel
theorem dX3_refill_5 : decode cX3_refill 5 = .ok (.iload_n 1, 1) := by decide +kernel
theorem dX3_refill_6 : decode cX3_refill 6 = .ok (.iconst 1, 1) := by decide +kernel
theorem dX3_refill_7 : decode cX3_refill 7 = .ok (.if_icmp .ne 29, 3) := by decide +kernel
theorem dX3_refill_10 : decode cX3_refill 10 = .ok (.aload_n 0, 1) := by decide +kernel
theorem dX3_refill_11 : decode cX3_refill 11 = .ok (.bipush 90, 2) := by decide +kernel
theorem dX3_refill_13 : decode cX3_refill 13 = .ok (.putfield 40, 3) := by decide +kernel
theorem dX3_refill_16 : decode cX3_refill 16 = .ok (.aload_n 0, 1) := by decide +kernel
theorem dX3_refill_17 : decode cX3_refill 17 = .ok (.bipush 40, 2) := by decide +kernel
theorem dX3_refill_19 : decode cX3_refill 19 = .ok (.putfield 37, 3) := by decide +kernel
theorem dX3_refill_22 : decode cX3_refill 22 = .ok (.aload_n 0, 1) := by decide +kernel
theorem dX3_refill_23 : decode cX3_refill 23 = .ok (.dup, 1) := by decide +kernel
theorem dX3_refill_24 : decode cX3_refill 24 = .ok (.getfield 33, 3) := by decide +kernel
theorem dX3_refill_27 : decode cX3_refill 27 = .ok (.bipush 11, 2) := by decide +kernel
theorem dX3_refill_29 : decode cX3_refill 29 = .ok (.iadd, 1) := by decide +kernel
theorem dX3_refill_30 : decode cX3_refill 30 = .ok (.putfield 33, 3) := by decide +kernel
theorem dX3_refill_33 : decode cX3_refill 33 = .ok (.goto 43, 3) := by decide +kernel
theorem dX3_refill_36 : decode cX3_refill 36 = .ok (.aload_n 0, 1) := by decide +kernel
theorem dX3_refill_37 : decode cX3_refill 37 = .ok (.aload_n 0, 1) := by decide +kernel
theorem dX3_refill_38 : decode cX3_refill 38 = .ok (.invokevirtual 90, 3) := by decide +kernel
theorem dX3_refill_41 : decode cX3_refill 41 = .ok (.bipush 90, 2) := by decide +kernel
theorem dX3_refill_43 : decode cX3_refill 43 = .ok (.iadd, 1) := by decide +kernel
theorem dX3_refill_44 : decode cX3_refill 44 = .ok (.iconst 2, 1) := by decide +kernel
theorem dX3_refill_45 : decode cX3_refill 45 = .ok (.idiv, 1) := by decide +kernel
theorem dX3_refill_46 : decode cX3_refill 46 = .ok (.putfield 40, 3) := by decide +kernel
theorem dX3_refill_49 : decode cX3_refill 49 = .ok (.aload_n 0, 1) := by decide +kernel
theorem dX3_refill_50 : decode cX3_refill 50 = .ok (.bipush 40, 2) := by decide +kernel
theorem dX3_refill_52 : decode cX3_refill 52 = .ok (.aload_n 0, 1) := by decide +kernel
theorem dX3_refill_53 : decode cX3_refill 53 = .ok (.getfield 37, 3) := by decide +kernel
theorem dX3_refill_56 : decode cX3_refill 56 = .ok (.bipush 20, 2) := by decide +kernel
theorem dX3_refill_58 : decode cX3_refill 58 = .ok (.iadd, 1) := by decide +kernel
theorem dX3_refill_59 : decode cX3_refill 59 = .ok (.invokestatic 94, 3) := by decide +kernel
theorem dX3_refill_62 : decode cX3_refill 62 = .ok (.putfield 37, 3) := by decide +kernel
theorem dX3_refill_65 : decode cX3_refill 65 = .ok (.aload_n 0, 1) := by decide +kernel
theorem dX3_refill_66 : decode cX3_refill 66 = .ok (.dup, 1) := by decide +kernel
theorem dX3_refill_67 : decode cX3_refill 67 = .ok (.getfield 33, 3) := by decide +kernel
theorem dX3_refill_70 : decode cX3_refill 70 = .ok (.bipush 6, 2) := by decide +kernel
theorem dX3_refill_72 : decode cX3_refill 72 = .ok (.iadd, 1) := by decide +kernel
theorem dX3_refill_73 : decode cX3_refill 73 = .ok (.putfield 33, 3) := by decide +kernel
theorem dX3_refill_76 : decode cX3_refill 76 = .ok (.aload_n 0, 1) := by decide +kernel
theorem dX3_refill_77 : decode cX3_refill 77 = .ok (.aload_n 0, 1) := by decide +kernel
theorem dX3_refill_78 : decode cX3_refill 78 = .ok (.getfield 33, 3) := by decide +kernel
theorem dX3_refill_81 : decode cX3_refill 81 = .ok (.putfield 43, 3) := by decide +kernel
theorem dX3_refill_84 : decode cX3_refill 84 = .ok (.return_, 1) := by decide +kernel
theorem dX3_takeBuns_0 : decode cX3_takeBuns 0 = .ok (.iconst 0, 1) := by decide +kernel
theorem dX3_takeBuns_1 : decode cX3_takeBuns 1 = .ok (.aload_n 0, 1) := by decide +kernel
theorem dX3_takeBuns_2 : decode cX3_takeBuns 2 = .ok (.getfield 46, 3) := by decide +kernel
theorem dX3_takeBuns_5 : decode cX3_takeBuns 5 = .ok (.iload_n 3, 1) := by decide +kernel
theorem dX3_takeBuns_6 : decode cX3_takeBuns 6 = .ok (.isub, 1) := by decide +kernel
theorem dX3_takeBuns_7 : decode cX3_takeBuns 7 = .ok (.invokestatic 110, 3) := by decide +kernel
theorem dX3_takeBuns_10 : decode cX3_takeBuns 10 = .ok (.istore 4, 2) := by decide +kernel
theorem dX3_takeBuns_12 : decode cX3_takeBuns 12 = .ok (.aload_n 0, 1) := by decide +kernel
theorem dX3_takeBuns_13 : decode cX3_takeBuns 13 = .ok (.getfield 21, 3) := by decide +kernel
theorem dX3_takeBuns_16 : decode cX3_takeBuns 16 = .ok (.iload_n 1, 1) := by decide +kernel
theorem dX3_takeBuns_17 : decode cX3_takeBuns 17 = .ok (.iaload, 1) := by decide +kernel
theorem dX3_takeBuns_18 : decode cX3_takeBuns 18 = .ok (.iload_n 2, 1) := by decide +kernel
theorem dX3_takeBuns_19 : decode cX3_takeBuns 19 = .ok (.imul, 1) := by decide +kernel
theorem dX3_takeBuns_20 : decode cX3_takeBuns 20 = .ok (.iload 4, 2) := by decide +kernel
theorem dX3_takeBuns_22 : decode cX3_takeBuns 22 = .ok (.aload_n 0, 1) := by decide +kernel
theorem dX3_takeBuns_23 : decode cX3_takeBuns 23 = .ok (.getfield 49, 3) := by decide +kernel
theorem dX3_takeBuns_26 : decode cX3_takeBuns 26 = .ok (.iadd, 1) := by decide +kernel
theorem dX3_takeBuns_27 : decode cX3_takeBuns 27 = .ok (.invokestatic 94, 3) := by decide +kernel
theorem dX3_takeBuns_30 : decode cX3_takeBuns 30 = .ok (.istore 5, 2) := by decide +kernel
theorem dX3_takeBuns_32 : decode cX3_takeBuns 32 = .ok (.aload_n 0, 1) := by decide +kernel
theorem dX3_takeBuns_33 : decode cX3_takeBuns 33 = .ok (.getfield 24, 3) := by decide +kernel
theorem dX3_takeBuns_36 : decode cX3_takeBuns 36 = .ok (.iload_n 1, 1) := by decide +kernel
theorem dX3_takeBuns_37 : decode cX3_takeBuns 37 = .ok (.iload 5, 2) := by decide +kernel
theorem dX3_takeBuns_39 : decode cX3_takeBuns 39 = .ok (.iload 4, 2) := by decide +kernel
theorem dX3_takeBuns_41 : decode cX3_takeBuns 41 = .ok (.invokestatic 94, 3) := by decide +kernel
theorem dX3_takeBuns_44 : decode cX3_takeBuns 44 = .ok (.iastore, 1) := by decide +kernel
theorem dX3_takeBuns_45 : decode cX3_takeBuns 45 = .ok (.aload_n 0, 1) := by decide +kernel
theorem dX3_takeBuns_46 : decode cX3_takeBuns 46 = .ok (.dup, 1) := by decide +kernel
theorem dX3_takeBuns_47 : decode cX3_takeBuns 47 = .ok (.getfield 46, 3) := by decide +kernel
theorem dX3_takeBuns_50 : decode cX3_takeBuns 50 = .ok (.aload_n 0, 1) := by decide +kernel
theorem dX3_takeBuns_51 : decode cX3_takeBuns 51 = .ok (.getfield 24, 3) := by decide +kernel
theorem dX3_takeBuns_54 : decode cX3_takeBuns 54 = .ok (.iload_n 1, 1) := by decide +kernel
theorem dX3_takeBuns_55 : decode cX3_takeBuns 55 = .ok (.iaload, 1) := by decide +kernel
theorem dX3_takeBuns_56 : decode cX3_takeBuns 56 = .ok (.isub, 1) := by decide +kernel
theorem dX3_takeBuns_57 : decode cX3_takeBuns 57 = .ok (.putfield 46, 3) := by decide +kernel
theorem dX3_takeBuns_60 : decode cX3_takeBuns 60 = .ok (.aload_n 0, 1) := by decide +kernel
theorem dX3_takeBuns_61 : decode cX3_takeBuns 61 = .ok (.dup, 1) := by decide +kernel
theorem dX3_takeBuns_62 : decode cX3_takeBuns 62 = .ok (.getfield 49, 3) := by decide +kernel
theorem dX3_takeBuns_65 : decode cX3_takeBuns 65 = .ok (.iload 5, 2) := by decide +kernel
theorem dX3_takeBuns_67 : decode cX3_takeBuns 67 = .ok (.aload_n 0, 1) := by decide +kernel
theorem dX3_takeBuns_68 : decode cX3_takeBuns 68 = .ok (.getfield 24, 3) := by decide +kernel
theorem dX3_takeBuns_71 : decode cX3_takeBuns 71 = .ok (.iload_n 1, 1) := by decide +kernel
theorem dX3_takeBuns_72 : decode cX3_takeBuns 72 = .ok (.iaload, 1) := by decide +kernel
theorem dX3_takeBuns_73 : decode cX3_takeBuns 73 = .ok (.isub, 1) := by decide +kernel
theorem dX3_takeBuns_74 : decode cX3_takeBuns 74 = .ok (.isub, 1) := by decide +kernel
theorem dX3_takeBuns_75 : decode cX3_takeBuns 75 = .ok (.putfield 49, 3) := by decide +kernel
theorem dX3_takeBuns_78 : decode cX3_takeBuns 78 = .ok (.iload_n 2, 1) := by decide +kernel
theorem dX3_takeBuns_79 : decode cX3_takeBuns 79 = .ok (.iconst 3, 1) := by decide +kernel
theorem dX3_takeBuns_80 : decode cX3_takeBuns 80 = .ok (.if_icmp .ne 14, 3) := by decide +kernel
theorem dX3_takeBuns_83 : decode cX3_takeBuns 83 = .ok (.iload 5, 2) := by decide +kernel
theorem dX3_takeBuns_85 : decode cX3_takeBuns 85 = .ok (.iconst 3, 1) := by decide +kernel
theorem dX3_takeBuns_86 : decode cX3_takeBuns 86 = .ok (.iadd, 1) := by decide +kernel
theorem dX3_takeBuns_87 : decode cX3_takeBuns 87 = .ok (.iconst 1, 1) := by decide +kernel
theorem dX3_takeBuns_88 : decode cX3_takeBuns 88 = .ok (.isub, 1) := by decide +kernel
theorem dX3_takeBuns_89 : decode cX3_takeBuns 89 = .ok (.iconst 3, 1) := by decide +kernel
theorem dX3_takeBuns_90 : decode cX3_takeBuns 90 = .ok (.idiv, 1) := by decide +kernel
theorem dX3_takeBuns_91 : decode cX3_takeBuns 91 = .ok (.goto 5, 3) := by decide +kernel
theorem dX3_takeBuns_94 : decode cX3_takeBuns 94 = .ok (.iload 5, 2) := by decide +kernel
theorem dX3_takeBuns_96 : decode cX3_takeBuns 96 = .ok (.istore 6, 2) := by decide +kernel
theorem dX3_takeBuns_98 : decode cX3_takeBuns 98 = .ok (.aload_n 0, 1) := by decide +kernel
theorem dX3_takeBuns_99 : decode cX3_takeBuns 99 = .ok (.getfield 9, 3) := by decide +kernel
theorem dX3_takeBuns_102 : decode cX3_takeBuns 102 = .ok (.iconst 5, 1) := by decide +kernel
theorem dX3_takeBuns_103 : decode cX3_takeBuns 103 = .ok (.dup2, 1) := by decide +kernel
theorem dX3_takeBuns_104 : decode cX3_takeBuns 104 = .ok (.iaload, 1) := by decide +kernel
theorem dX3_takeBuns_105 : decode cX3_takeBuns 105 = .ok (.aload_n 0, 1) := by decide +kernel
theorem dX3_takeBuns_106 : decode cX3_takeBuns 106 = .ok (.getfield 21, 3) := by decide +kernel
theorem dX3_takeBuns_109 : decode cX3_takeBuns 109 = .ok (.iload_n 1, 1) := by decide +kernel
theorem dX3_takeBuns_110 : decode cX3_takeBuns 110 = .ok (.iaload, 1) := by decide +kernel
theorem dX3_takeBuns_111 : decode cX3_takeBuns 111 = .ok (.iload 6, 2) := by decide +kernel
theorem dX3_takeBuns_113 : decode cX3_takeBuns 113 = .ok (.isub, 1) := by decide +kernel
theorem dX3_takeBuns_114 : decode cX3_takeBuns 114 = .ok (.iadd, 1) := by decide +kernel
theorem dX3_takeBuns_115 : decode cX3_takeBuns 115 = .ok (.iastore, 1) := by decide +kernel
theorem dX3_takeBuns_116 : decode cX3_takeBuns 116 = .ok (.return_, 1) := by decide +kernel
