theorem dX0_init_0 : decode cX0_init 0 = .ok (.aload_n 0, 1) := by decide +kernel
theorem dX0_init_1 : decode cX0_init 1 = .ok (.invokespecial 3, 3) := by decide +kernel
theorem dX0_init_4 : decode cX0_init 4 = .ok (.aload_n 0, 1) := by decide +kernel
theorem dX0_init_5 : decode cX0_init 5 = .ok (.bipush 8, 2) := by decide +kernel
theorem dX0_init_7 : decode cX0_init 7 = .ok (.newarray .int, 2) := by decide +kernel
theorem dX0_init_9 : decode cX0_init 9 = .ok (.putfield 9, 3) := by decide +kernel
theorem dX0_init_12 : decode cX0_init 12 = .ok (.aload_n 0, 1) := by decide +kernel
theorem dX0_init_13 : decode cX0_init 13 = .ok (.bipush 8, 2) := by decide +kernel
theorem dX0_init_15 : decode cX0_init 15 = .ok (.newarray .int, 2) := by decide +kernel
theorem dX0_init_17 : decode cX0_init 17 = .ok (.putfield 15, 3) := by decide +kernel
theorem dX0_init_20 : decode cX0_init 20 = .ok (.return_, 1) := by decide +kernel
theorem dX0_note_0 : decode cX0_note 0 = .ok (.aload_n 0, 1) := by decide +kernel
theorem dX0_note_1 : decode cX0_note 1 = .ok (.getfield 18, 3) := by decide +kernel
theorem dX0_note_4 : decode cX0_note 4 = .ok (.bipush 8, 2) := by decide +kernel
theorem dX0_note_6 : decode cX0_note 6 = .ok (.if_icmp .lt 39, 3) := by decide +kernel
theorem dX0_note_9 : decode cX0_note 9 = .ok (.aload_n 0, 1) := by decide +kernel
theorem dX0_note_10 : decode cX0_note 10 = .ok (.getfield 9, 3) := by decide +kernel
theorem dX0_note_13 : decode cX0_note 13 = .ok (.iconst 1, 1) := by decide +kernel
theorem dX0_note_14 : decode cX0_note 14 = .ok (.aload_n 0, 1) := by decide +kernel
theorem dX0_note_15 : decode cX0_note 15 = .ok (.getfield 9, 3) := by decide +kernel
theorem dX0_note_18 : decode cX0_note 18 = .ok (.iconst 0, 1) := by decide +kernel
theorem dX0_note_19 : decode cX0_note 19 = .ok (.bipush 7, 2) := by decide +kernel
theorem dX0_note_21 : decode cX0_note 21 = .ok (.invokestatic 22, 3) := by decide +kernel
theorem dX0_note_24 : decode cX0_note 24 = .ok (.aload_n 0, 1) := by decide +kernel
theorem dX0_note_25 : decode cX0_note 25 = .ok (.getfield 15, 3) := by decide +kernel
theorem dX0_note_28 : decode cX0_note 28 = .ok (.iconst 1, 1) := by decide +kernel
theorem dX0_note_29 : decode cX0_note 29 = .ok (.aload_n 0, 1) := by decide +kernel
theorem dX0_note_30 : decode cX0_note 30 = .ok (.getfield 15, 3) := by decide +kernel
theorem dX0_note_33 : decode cX0_note 33 = .ok (.iconst 0, 1) := by decide +kernel
theorem dX0_note_34 : decode cX0_note 34 = .ok (.bipush 7, 2) := by decide +kernel
theorem dX0_note_36 : decode cX0_note 36 = .ok (.invokestatic 22, 3) := by decide +kernel
theorem dX0_note_39 : decode cX0_note 39 = .ok (.aload_n 0, 1) := by decide +kernel
theorem dX0_note_40 : decode cX0_note 40 = .ok (.bipush 7, 2) := by decide +kernel
theorem dX0_note_42 : decode cX0_note 42 = .ok (.putfield 18, 3) := by decide +kernel
theorem dX0_note_45 : decode cX0_note 45 = .ok (.aload_n 0, 1) := by decide +kernel
theorem dX0_note_46 : decode cX0_note 46 = .ok (.getfield 9, 3) := by decide +kernel
theorem dX0_note_49 : decode cX0_note 49 = .ok (.aload_n 0, 1) := by decide +kernel
theorem dX0_note_50 : decode cX0_note 50 = .ok (.getfield 18, 3) := by decide +kernel
theorem dX0_note_53 : decode cX0_note 53 = .ok (.iload_n 1, 1) := by decide +kernel
theorem dX0_note_54 : decode cX0_note 54 = .ok (.iastore, 1) := by decide +kernel
theorem dX0_note_55 : decode cX0_note 55 = .ok (.aload_n 0, 1) := by decide +kernel
theorem dX0_note_56 : decode cX0_note 56 = .ok (.getfield 15, 3) := by decide +kernel
theorem dX0_note_59 : decode cX0_note 59 = .ok (.aload_n 0, 1) := by decide +kernel
theorem dX0_note_60 : decode cX0_note 60 = .ok (.getfield 18, 3) := by decide +kernel
theorem dX0_note_63 : decode cX0_note 63 = .ok (.iload_n 2, 1) := by decide +kernel
theorem dX0_note_64 : decode cX0_note 64 = .ok (.iastore, 1) := by decide +kernel
theorem dX0_note_65 : decode cX0_note 65 = .ok (.aload_n 0, 1) := by decide +kernel
theorem dX0_note_66 : decode cX0_note 66 = .ok (.dup, 1) := by decide +kernel
theorem dX0_note_67 : decode cX0_note 67 = .ok (.getfield 18, 3) := by decide +kernel
theorem dX0_note_70 : decode cX0_note 70 = .ok (.iconst 1, 1) := by decide +kernel
theorem dX0_note_71 : decode cX0_note 71 = .ok (.iadd, 1) := by decide +kernel
theorem dX0_note_72 : decode cX0_note 72 = .ok (.putfield 18, 3) := by decide +kernel
theorem dX0_note_75 : decode cX0_note 75 = .ok (.return_, 1) := by decide +kernel
theorem dX0_takeBack_0 : decode cX0_takeBack 0 = .ok (.aload_n 0, 1) := by decide +kernel
theorem dX0_takeBack_1 : decode cX0_takeBack 1 = .ok (.dup, 1) := by decide +kernel
theorem dX0_takeBack_2 : decode cX0_takeBack 2 = .ok (.getfield 18, 3) := by decide +kernel
theorem dX0_takeBack_5 : decode cX0_takeBack 5 = .ok (.iconst 1, 1) := by decide +kernel
theorem dX0_takeBack_6 : decode cX0_takeBack 6 = .ok (.isub, 1) := by decide +kernel
theorem dX0_takeBack_7 : decode cX0_takeBack 7 = .ok (.putfield 18, 3) := by decide +kernel
theorem dX0_takeBack_10 : decode cX0_takeBack 10 = .ok (.aload_n 1, 1) := by decide +kernel
theorem dX0_takeBack_11 : decode cX0_takeBack 11 = .ok (.getfield 28, 3) := by decide +kernel
theorem dX0_takeBack_14 : decode cX0_takeBack 14 = .ok (.aload_n 0, 1) := by decide +kernel
theorem dX0_takeBack_15 : decode cX0_takeBack 15 = .ok (.getfield 9, 3) := by decide +kernel
theorem dX0_takeBack_18 : decode cX0_takeBack 18 = .ok (.aload_n 0, 1) := by decide +kernel
theorem dX0_takeBack_19 : decode cX0_takeBack 19 = .ok (.getfield 18, 3) := by decide +kernel
theorem dX0_takeBack_22 : decode cX0_takeBack 22 = .ok (.iaload, 1) := by decide +kernel
theorem dX0_takeBack_23 : decode cX0_takeBack 23 = .ok (.aload_n 0, 1) := by decide +kernel
theorem dX0_takeBack_24 : decode cX0_takeBack 24 = .ok (.getfield 15, 3) := by decide +kernel
theorem dX0_takeBack_27 : decode cX0_takeBack 27 = .ok (.aload_n 0, 1) := by decide +kernel
theorem dX0_takeBack_28 : decode cX0_takeBack 28 = .ok (.getfield 18, 3) := by decide +kernel
theorem dX0_takeBack_31 : decode cX0_takeBack 31 = .ok (.iaload, 1) := by decide +kernel
theorem dX0_takeBack_32 : decode cX0_takeBack 32 = .ok (.iastore, 1) := by decide +kernel
theorem dX0_takeBack_33 : decode cX0_takeBack 33 = .ok (.return_, 1) := by decide +kernel
theorem dX1_init_0 : decode cX1_init 0 = .ok (.aload_n 0, 1) := by decide +kernel
theorem dX1_init_1 : decode cX1_init 1 = .ok (.invokespecial 3, 3) := by decide +kernel
theorem dX1_init_4 : decode cX1_init 4 = .ok (.aload_n 0, 1) := by decide +kernel
theorem dX1_init_5 : decode cX1_init 5 = .ok (.bipush 11, 2) := by decide +kernel
theorem dX1_init_7 : decode cX1_init 7 = .ok (.bipush 11, 2) := by decide +kernel
theorem dX1_init_9 : decode cX1_init 9 = .ok (.multianewarray 9 2, 4) := by decide +kernel
theorem dX1_init_13 : decode cX1_init 13 = .ok (.putfield 11, 3) := by decide +kernel
theorem dX1_init_16 : decode cX1_init 16 = .ok (.aload_n 0, 1) := by decide +kernel
theorem dX1_init_17 : decode cX1_init 17 = .ok (.bipush 11, 2) := by decide +kernel
theorem dX1_init_19 : decode cX1_init 19 = .ok (.bipush 11, 2) := by decide +kernel
theorem dX1_init_21 : decode cX1_init 21 = .ok (.multianewarray 9 2, 4) := by decide +kernel
theorem dX1_init_25 : decode cX1_init 25 = .ok (.putfield 16, 3) := by decide +kernel
theorem dX1_init_28 : decode cX1_init 28 = .ok (.return_, 1) := by decide +kernel
theorem dX1_play_0 : decode cX1_play 0 = .ok (.iconst 1, 1) := by decide +kernel
theorem dX1_play_1 : decode cX1_play 1 = .ok (.istore 5, 2) := by decide +kernel
theorem dX1_play_3 : decode cX1_play 3 = .ok (.iload 5, 2) := by decide +kernel
theorem dX1_play_5 : decode cX1_play 5 = .ok (.bipush 10, 2) := by decide +kernel
theorem dX1_play_7 : decode cX1_play 7 = .ok (.if_icmp .gt 81, 3) := by decide +kernel
theorem dX1_play_10 : decode cX1_play 10 = .ok (.aload_n 1, 1) := by decide +kernel
theorem dX1_play_11 : decode cX1_play 11 = .ok (.getfield 19, 3) := by decide +kernel
theorem dX1_play_14 : decode cX1_play 14 = .ok (.iload_n 3, 1) := by decide +kernel
theorem dX1_play_15 : decode cX1_play 15 = .ok (.iload 5, 2) := by decide +kernel
theorem dX1_play_17 : decode cX1_play 17 = .ok (.iastore, 1) := by decide +kernel
theorem dX1_play_18 : decode cX1_play 18 = .ok (.iconst 1, 1) := by decide +kernel
theorem dX1_play_19 : decode cX1_play 19 = .ok (.istore 6, 2) := by decide +kernel
theorem dX1_play_21 : decode cX1_play 21 = .ok (.iload 6, 2) := by decide +kernel
theorem dX1_play_23 : decode cX1_play 23 = .ok (.bipush 10, 2) := by decide +kernel
theorem dX1_play_25 : decode cX1_play 25 = .ok (.if_icmp .gt 57, 3) := by decide +kernel
theorem dX1_play_28 : decode cX1_play 28 = .ok (.aload_n 1, 1) := by decide +kernel
theorem dX1_play_29 : decode cX1_play 29 = .ok (.getfield 19, 3) := by decide +kernel
theorem dX1_play_32 : decode cX1_play 32 = .ok (.iload 4, 2) := by decide +kernel
theorem dX1_play_34 : decode cX1_play 34 = .ok (.iload 6, 2) := by decide +kernel
theorem dX1_play_36 : decode cX1_play 36 = .ok (.iastore, 1) := by decide +kernel
theorem dX1_play_37 : decode cX1_play 37 = .ok (.aload_n 2, 1) := by decide +kernel
theorem dX1_play_38 : decode cX1_play 38 = .ok (.aload_n 1, 1) := by decide +kernel
theorem dX1_play_39 : decode cX1_play 39 = .ok (.iconst (-1), 1) := by decide +kernel
theorem dX1_play_40 : decode cX1_play 40 = .ok (.invokevirtual 25, 3) := by decide +kernel
theorem dX1_play_43 : decode cX1_play 43 = .ok (.aload_n 0, 1) := by decide +kernel
theorem dX1_play_44 : decode cX1_play 44 = .ok (.getfield 11, 3) := by decide +kernel
theorem dX1_play_47 : decode cX1_play 47 = .ok (.iload 5, 2) := by decide +kernel
theorem dX1_play_49 : decode cX1_play 49 = .ok (.aaload, 1) := by decide +kernel
theorem dX1_play_50 : decode cX1_play 50 = .ok (.iload 6, 2) := by decide +kernel
theorem dX1_play_52 : decode cX1_play 52 = .ok (.aload_n 2, 1) := by decide +kernel
theorem dX1_play_53 : decode cX1_play 53 = .ok (.aload_n 1, 1) := by decide +kernel
theorem dX1_play_54 : decode cX1_play 54 = .ok (.iload_n 3, 1) := by decide +kernel
theorem dX1_play_55 : decode cX1_play 55 = .ok (.invokevirtual 31, 3) := by decide +kernel
theorem dX1_play_58 : decode cX1_play 58 = .ok (.iastore, 1) := by decide +kernel
theorem dX1_play_59 : decode cX1_play 59 = .ok (.aload_n 0, 1) := by decide +kernel
theorem dX1_play_60 : decode cX1_play 60 = .ok (.getfield 16, 3) := by decide +kernel
theorem dX1_play_63 : decode cX1_play 63 = .ok (.iload 5, 2) := by decide +kernel
theorem dX1_play_65 : decode cX1_play 65 = .ok (.aaload, 1) := by decide +kernel
theorem dX1_play_66 : decode cX1_play 66 = .ok (.iload 6, 2) := by decide +kernel
theorem dX1_play_68 : decode cX1_play 68 = .ok (.aload_n 2, 1) := by decide +kernel
theorem dX1_play_69 : decode cX1_play 69 = .ok (.aload_n 1, 1) := by decide +kernel
theorem dX1_play_70 : decode cX1_play 70 = .ok (.iload 4, 2) := by decide +kernel
theorem dX1_play_72 : decode cX1_play 72 = .ok (.invokevirtual 31, 3) := by decide +kernel
theorem dX1_play_75 : decode cX1_play 75 = .ok (.iastore, 1) := by decide +kernel
theorem dX1_play_76 : decode cX1_play 76 = .ok (.iinc 6 1, 3) := by decide +kernel
theorem dX1_play_79 : decode cX1_play 79 = .ok (.goto (-58), 3) := by decide +kernel
theorem dX1_play_82 : decode cX1_play 82 = .ok (.iinc 5 1, 3) := by decide +kernel
theorem dX1_play_85 : decode cX1_play 85 = .ok (.goto (-82), 3) := by decide +kernel
theorem dX1_play_88 : decode cX1_play 88 = .ok (.return_, 1) := by decide +kernel
theorem dX1_findRests_0 : decode cX1_findRests 0 = .ok (.aload_n 0, 1) := by decide +kernel
theorem dX1_findRests_1 : decode cX1_findRests 1 = .ok (.iconst 0, 1) := by decide +kernel
theorem dX1_findRests_2 : decode cX1_findRests 2 = .ok (.putfield 35, 3) := by decide +kernel
theorem dX1_findRests_5 : decode cX1_findRests 5 = .ok (.iconst 1, 1) := by decide +kernel
theorem dX1_findRests_6 : decode cX1_findRests 6 = .ok (.istore_n 1, 1) := by decide +kernel
theorem dX1_findRests_7 : decode cX1_findRests 7 = .ok (.iload_n 1, 1) := by decide +kernel
theorem dX1_findRests_8 : decode cX1_findRests 8 = .ok (.bipush 10, 2) := by decide +kernel
theorem dX1_findRests_10 : decode cX1_findRests 10 = .ok (.if_icmp .gt 38, 3) := by decide +kernel
theorem dX1_findRests_13 : decode cX1_findRests 13 = .ok (.iconst 1, 1) := by decide +kernel
theorem dX1_findRests_14 : decode cX1_findRests 14 = .ok (.istore_n 2, 1) := by decide +kernel
theorem dX1_findRests_15 : decode cX1_findRests 15 = .ok (.iload_n 2, 1) := by decide +kernel
theorem dX1_findRests_16 : decode cX1_findRests 16 = .ok (.bipush 10, 2) := by decide +kernel
theorem dX1_findRests_18 : decode cX1_findRests 18 = .ok (.if_icmp .gt 24, 3) := by decide +kernel
theorem dX1_findRests_21 : decode cX1_findRests 21 = .ok (.aload_n 0, 1) := by decide +kernel
theorem dX1_findRests_22 : decode cX1_findRests 22 = .ok (.iload_n 1, 1) := by decide +kernel
theorem dX1_findRests_23 : decode cX1_findRests 23 = .ok (.iload_n 2, 1) := by decide +kernel
theorem dX1_findRests_24 : decode cX1_findRests 24 = .ok (.invokevirtual 39, 3) := by decide +kernel
theorem dX1_findRests_27 : decode cX1_findRests 27 = .ok (.ifCond .eq 9, 3) := by decide +kernel
theorem dX1_findRests_30 : decode cX1_findRests 30 = .ok (.aload_n 0, 1) := by decide +kernel
theorem dX1_findRests_31 : decode cX1_findRests 31 = .ok (.iload_n 1, 1) := by decide +kernel
theorem dX1_findRests_32 : decode cX1_findRests 32 = .ok (.iload_n 2, 1) := by decide +kernel
theorem dX1_findRests_33 : decode cX1_findRests 33 = .ok (.invokevirtual 43, 3) := by decide +kernel
theorem dX1_findRests_36 : decode cX1_findRests 36 = .ok (.iinc 2 1, 3) := by decide +kernel
theorem dX1_findRests_39 : decode cX1_findRests 39 = .ok (.goto (-24), 3) := by decide +kernel
theorem dX1_findRests_42 : decode cX1_findRests 42 = .ok (.iinc 1 1, 3) := by decide +kernel
theorem dX1_findRests_45 : decode cX1_findRests 45 = .ok (.goto (-38), 3) := by decide +kernel
theorem dX1_findRests_48 : decode cX1_findRests 48 = .ok (.return_, 1) := by decide +kernel
theorem dX1_noteRest_0 : decode cX1_noteRest 0 = .ok (.aload_n 0, 1) := by decide +kernel
theorem dX1_noteRest_1 : decode cX1_noteRest 1 = .ok (.getfield 35, 3) := by decide +kernel
theorem dX1_noteRest_4 : decode cX1_noteRest 4 = .ok (.ifCond .ne 13, 3) := by decide +kernel
theorem dX1_noteRest_7 : decode cX1_noteRest 7 = .ok (.aload_n 0, 1) := by decide +kernel
theorem dX1_noteRest_8 : decode cX1_noteRest 8 = .ok (.iload_n 1, 1) := by decide +kernel
theorem dX1_noteRest_9 : decode cX1_noteRest 9 = .ok (.putfield 47, 3) := by decide +kernel
theorem dX1_noteRest_12 : decode cX1_noteRest 12 = .ok (.aload_n 0, 1) := by decide +kernel
theorem dX1_noteRest_13 : decode cX1_noteRest 13 = .ok (.iload_n 2, 1) := by decide +kernel
theorem dX1_noteRest_14 : decode cX1_noteRest 14 = .ok (.putfield 50, 3) := by decide +kernel
theorem dX1_noteRest_17 : decode cX1_noteRest 17 = .ok (.aload_n 0, 1) := by decide +kernel
theorem dX1_noteRest_18 : decode cX1_noteRest 18 = .ok (.dup, 1) := by decide +kernel
theorem dX1_noteRest_19 : decode cX1_noteRest 19 = .ok (.getfield 35, 3) := by decide +kernel
theorem dX1_noteRest_22 : decode cX1_noteRest 22 = .ok (.iconst 1, 1) := by decide +kernel
theorem dX1_noteRest_23 : decode cX1_noteRest 23 = .ok (.iadd, 1) := by decide +kernel
theorem dX1_noteRest_24 : decode cX1_noteRest 24 = .ok (.putfield 35, 3) := by decide +kernel
theorem dX1_noteRest_27 : decode cX1_noteRest 27 = .ok (.return_, 1) := by decide +kernel
theorem dX1_isRest_0 : decode cX1_isRest 0 = .ok (.iconst 1, 1) := by decide +kernel
theorem dX1_isRest_1 : decode cX1_isRest 1 = .ok (.istore_n 3, 1) := by decide +kernel
theorem dX1_isRest_2 : decode cX1_isRest 2 = .ok (.iload_n 3, 1) := by decide +kernel
theorem dX1_isRest_3 : decode cX1_isRest 3 = .ok (.bipush 10, 2) := by decide +kernel
theorem dX1_isRest_5 : decode cX1_isRest 5 = .ok (.if_icmp .gt 49, 3) := by decide +kernel
theorem dX1_isRest_8 : decode cX1_isRest 8 = .ok (.aload_n 0, 1) := by decide +kernel
theorem dX1_isRest_9 : decode cX1_isRest 9 = .ok (.getfield 11, 3) := by decide +kernel
theorem dX1_isRest_12 : decode cX1_isRest 12 = .ok (.iload_n 3, 1) := by decide +kernel
theorem dX1_isRest_13 : decode cX1_isRest 13 = .ok (.aaload, 1) := by decide +kernel
theorem dX1_isRest_14 : decode cX1_isRest 14 = .ok (.iload_n 2, 1) := by decide +kernel
theorem dX1_isRest_15 : decode cX1_isRest 15 = .ok (.iaload, 1) := by decide +kernel
theorem dX1_isRest_16 : decode cX1_isRest 16 = .ok (.aload_n 0, 1) := by decide +kernel
theorem dX1_isRest_17 : decode cX1_isRest 17 = .ok (.getfield 11, 3) := by decide +kernel
theorem dX1_isRest_20 : decode cX1_isRest 20 = .ok (.iload_n 1, 1) := by decide +kernel
theorem dX1_isRest_21 : decode cX1_isRest 21 = .ok (.aaload, 1) := by decide +kernel
theorem dX1_isRest_22 : decode cX1_isRest 22 = .ok (.iload_n 2, 1) := by decide +kernel
theorem dX1_isRest_23 : decode cX1_isRest 23 = .ok (.iaload, 1) := by decide +kernel
theorem dX1_isRest_24 : decode cX1_isRest 24 = .ok (.if_icmp .gt 22, 3) := by decide +kernel
theorem dX1_isRest_27 : decode cX1_isRest 27 = .ok (.aload_n 0, 1) := by decide +kernel
theorem dX1_isRest_28 : decode cX1_isRest 28 = .ok (.getfield 16, 3) := by decide +kernel
theorem dX1_isRest_31 : decode cX1_isRest 31 = .ok (.iload_n 1, 1) := by decide +kernel
theorem dX1_isRest_32 : decode cX1_isRest 32 = .ok (.aaload, 1) := by decide +kernel
theorem dX1_isRest_33 : decode cX1_isRest 33 = .ok (.iload_n 3, 1) := by decide +kernel
theorem dX1_isRest_34 : decode cX1_isRest 34 = .ok (.iaload, 1) := by decide +kernel
theorem dX1_isRest_35 : decode cX1_isRest 35 = .ok (.aload_n 0, 1) := by decide +kernel
theorem dX1_isRest_36 : decode cX1_isRest 36 = .ok (.getfield 16, 3) := by decide +kernel
theorem dX1_isRest_39 : decode cX1_isRest 39 = .ok (.iload_n 1, 1) := by decide +kernel
theorem dX1_isRest_40 : decode cX1_isRest 40 = .ok (.aaload, 1) := by decide +kernel
theorem dX1_isRest_41 : decode cX1_isRest 41 = .ok (.iload_n 2, 1) := by decide +kernel
theorem dX1_isRest_42 : decode cX1_isRest 42 = .ok (.iaload, 1) := by decide +kernel
theorem dX1_isRest_43 : decode cX1_isRest 43 = .ok (.if_icmp .le 5, 3) := by decide +kernel
theorem dX1_isRest_46 : decode cX1_isRest 46 = .ok (.iconst 0, 1) := by decide +kernel
theorem dX1_isRest_47 : decode cX1_isRest 47 = .ok (.ireturn, 1) := by decide +kernel
theorem dX1_isRest_48 : decode cX1_isRest 48 = .ok (.iinc 3 1, 3) := by decide +kernel
theorem dX1_isRest_51 : decode cX1_isRest 51 = .ok (.goto (-49), 3) := by decide +kernel
theorem dX1_isRest_54 : decode cX1_isRest 54 = .ok (.iconst 1, 1) := by decide +kernel
theorem dX1_isRest_55 : decode cX1_isRest 55 = .ok (.ireturn, 1) := by decide +kernel
theorem dX2_init_0 : decode cX2_init 0 = .ok (.aload_n 0, 1) := by decide +kernel
theorem dX2_init_1 : decode cX2_init 1 = .ok (.invokespecial 3, 3) := by decide +kernel
theorem dX2_init_4 : decode cX2_init 4 = .ok (.aload_n 0, 1) := by decide +kernel
theorem dX2_init_5 : decode cX2_init 5 = .ok (.iconst 5, 1) := by decide +kernel
theorem dX2_init_6 : decode cX2_init 6 = .ok (.newarray .int, 2) := by decide +kernel
theorem dX2_init_8 : decode cX2_init 8 = .ok (.putfield 9, 3) := by decide +kernel
theorem dX2_init_11 : decode cX2_init 11 = .ok (.aload_n 0, 1) := by decide +kernel
theorem dX2_init_12 : decode cX2_init 12 = .ok (.iconst 5, 1) := by decide +kernel
theorem dX2_init_13 : decode cX2_init 13 = .ok (.newarray .int, 2) := by decide +kernel
theorem dX2_init_15 : decode cX2_init 15 = .ok (.putfield 15, 3) := by decide +kernel
theorem dX2_init_18 : decode cX2_init 18 = .ok (.aload_n 0, 1) := by decide +kernel
theorem dX2_init_19 : decode cX2_init 19 = .ok (.iconst 5, 1) := by decide +kernel
theorem dX2_init_20 : decode cX2_init 20 = .ok (.newarray .int, 2) := by decide +kernel
theorem dX2_init_22 : decode cX2_init 22 = .ok (.putfield 18, 3) := by decide +kernel
theorem dX2_init_25 : decode cX2_init 25 = .ok (.aload_n 0, 1) := by decide +kernel
theorem dX2_init_26 : decode cX2_init 26 = .ok (.iconst 3, 1) := by decide +kernel
theorem dX2_init_27 : decode cX2_init 27 = .ok (.newarray .int, 2) := by decide +kernel
theorem dX2_init_29 : decode cX2_init 29 = .ok (.putfield 21, 3) := by decide +kernel
theorem dX2_init_32 : decode cX2_init 32 = .ok (.return_, 1) := by decide +kernel
theorem dX2_hold_0 : decode cX2_hold 0 = .ok (.aload_n 0, 1) := by decide +kernel
theorem dX2_hold_1 : decode cX2_hold 1 = .ok (.getfield 9, 3) := by decide +kernel
theorem dX2_hold_4 : decode cX2_hold 4 = .ok (.bipush (-4), 2) := by decide +kernel
theorem dX2_hold_6 : decode cX2_hold 6 = .ok (.invokestatic 24, 3) := by decide +kernel
theorem dX2_hold_9 : decode cX2_hold 9 = .ok (.aload_n 0, 1) := by decide +kernel
theorem dX2_hold_10 : decode cX2_hold 10 = .ok (.getfield 15, 3) := by decide +kernel
theorem dX2_hold_13 : decode cX2_hold 13 = .ok (.iconst 0, 1) := by decide +kernel
theorem dX2_hold_14 : decode cX2_hold 14 = .ok (.invokestatic 24, 3) := by decide +kernel
theorem dX2_hold_17 : decode cX2_hold 17 = .ok (.iconst 0, 1) := by decide +kernel
theorem dX2_hold_18 : decode cX2_hold 18 = .ok (.istore_n 3, 1) := by decide +kernel
theorem dX2_hold_19 : decode cX2_hold 19 = .ok (.iload_n 3, 1) := by decide +kernel
theorem dX2_hold_20 : decode cX2_hold 20 = .ok (.aload_n 1, 1) := by decide +kernel
theorem dX2_hold_21 : decode cX2_hold 21 = .ok (.getfield 30, 3) := by decide +kernel
theorem dX2_hold_24 : decode cX2_hold 24 = .ok (.if_icmp .ge 93, 3) := by decide +kernel
theorem dX2_hold_27 : decode cX2_hold 27 = .ok (.iconst 0, 1) := by decide +kernel
theorem dX2_hold_28 : decode cX2_hold 28 = .ok (.istore 4, 2) := by decide +kernel
theorem dX2_hold_30 : decode cX2_hold 30 = .ok (.iload 4, 2) := by decide +kernel
theorem dX2_hold_32 : decode cX2_hold 32 = .ok (.aload_n 1, 1) := by decide +kernel
theorem dX2_hold_33 : decode cX2_hold 33 = .ok (.getfield 36, 3) := by decide +kernel
theorem dX2_hold_36 : decode cX2_hold 36 = .ok (.if_icmp .ge 33, 3) := by decide +kernel
theorem dX2_hold_39 : decode cX2_hold 39 = .ok (.aload_n 0, 1) := by decide +kernel
theorem dX2_hold_40 : decode cX2_hold 40 = .ok (.getfield 18, 3) := by decide +kernel
theorem dX2_hold_43 : decode cX2_hold 43 = .ok (.iload 4, 2) := by decide +kernel
theorem dX2_hold_45 : decode cX2_hold 45 = .ok (.iload 4, 2) := by decide +kernel
theorem dX2_hold_47 : decode cX2_hold 47 = .ok (.iload_n 2, 1) := by decide +kernel
theorem dX2_hold_48 : decode cX2_hold 48 = .ok (.if_icmp .ne 7, 3) := by decide +kernel
theorem dX2_hold_51 : decode cX2_hold 51 = .ok (.iconst 0, 1) := by decide +kernel
theorem dX2_hold_52 : decode cX2_hold 52 = .ok (.goto 10, 3) := by decide +kernel
theorem dX2_hold_55 : decode cX2_hold 55 = .ok (.aload_n 1, 1) := by decide +kernel
theorem dX2_hold_56 : decode cX2_hold 56 = .ok (.iload 4, 2) := by decide +kernel
theorem dX2_hold_58 : decode cX2_hold 58 = .ok (.iload_n 3, 1) := by decide +kernel
theorem dX2_hold_59 : decode cX2_hold 59 = .ok (.invokevirtual 39, 3) := by decide +kernel
theorem dX2_hold_62 : decode cX2_hold 62 = .ok (.iastore, 1) := by decide +kernel
theorem dX2_hold_63 : decode cX2_hold 63 = .ok (.iinc 4 1, 3) := by decide +kernel
theorem dX2_hold_66 : decode cX2_hold 66 = .ok (.goto (-36), 3) := by decide +kernel
theorem dX2_hold_69 : decode cX2_hold 69 = .ok (.aload_n 1, 1) := by decide +kernel
theorem dX2_hold_70 : decode cX2_hold 70 = .ok (.getfield 43, 3) := by decide +kernel
theorem dX2_hold_73 : decode cX2_hold 73 = .ok (.iconst 5, 1) := by decide +kernel
theorem dX2_hold_74 : decode cX2_hold 74 = .ok (.iaload, 1) := by decide +kernel
theorem dX2_hold_75 : decode cX2_hold 75 = .ok (.ifCond .ne 12, 3) := by decide +kernel
theorem dX2_hold_78 : decode cX2_hold 78 = .ok (.aload_n 0, 1) := by decide +kernel
theorem dX2_hold_79 : decode cX2_hold 79 = .ok (.aload_n 1, 1) := by decide +kernel
theorem dX2_hold_80 : decode cX2_hold 80 = .ok (.iload_n 3, 1) := by decide +kernel
theorem dX2_hold_81 : decode cX2_hold 81 = .ok (.invokevirtual 46, 3) := by decide +kernel
theorem dX2_hold_84 : decode cX2_hold 84 = .ok (.goto 27, 3) := by decide +kernel
theorem dX2_hold_87 : decode cX2_hold 87 = .ok (.aload_n 0, 1) := by decide +kernel
theorem dX2_hold_88 : decode cX2_hold 88 = .ok (.aload_n 1, 1) := by decide +kernel
theorem dX2_hold_89 : decode cX2_hold 89 = .ok (.iload_n 3, 1) := by decide +kernel
theorem dX2_hold_90 : decode cX2_hold 90 = .ok (.aload_n 1, 1) := by decide +kernel
theorem dX2_hold_91 : decode cX2_hold 91 = .ok (.getfield 43, 3) := by decide +kernel
theorem dX2_hold_94 : decode cX2_hold 94 = .ok (.iconst 5, 1) := by decide +kernel
theorem dX2_hold_95 : decode cX2_hold 95 = .ok (.iaload, 1) := by decide +kernel
theorem dX2_hold_96 : decode cX2_hold 96 = .ok (.iconst 1, 1) := by decide +kernel
theorem dX2_hold_97 : decode cX2_hold 97 = .ok (.if_icmp .ne 10, 3) := by decide +kernel
theorem dX2_hold_100 : decode cX2_hold 100 = .ok (.aload_n 1, 1) := by decide +kernel
theorem dX2_hold_101 : decode cX2_hold 101 = .ok (.invokevirtual 50, 3) := by decide +kernel
theorem dX2_hold_104 : decode cX2_hold 104 = .ok (.goto 4, 3) := by decide +kernel
theorem dX2_hold_107 : decode cX2_hold 107 = .ok (.iconst 1, 1) := by decide +kernel
theorem dX2_hold_108 : decode cX2_hold 108 = .ok (.invokevirtual 54, 3) := by decide +kernel
theorem dX2_hold_111 : decode cX2_hold 111 = .ok (.iinc 3 1, 3) := by decide +kernel
theorem dX2_hold_114 : decode cX2_hold 114 = .ok (.goto (-95), 3) := by decide +kernel
theorem dX2_hold_117 : decode cX2_hold 117 = .ok (.return_, 1) := by decide +kernel
theorem dX2_callFromBelow_0 : decode cX2_callFromBelow 0 = .ok (.aload_n 1, 1) := by decide +kernel
theorem dX2_callFromBelow_1 : decode cX2_callFromBelow 1 = .ok (.invokevirtual 50, 3) := by decide +kernel
theorem dX2_callFromBelow_4 : decode cX2_callFromBelow 4 = .ok (.istore_n 3, 1) := by decide +kernel
theorem dX2_callFromBelow_5 : decode cX2_callFromBelow 5 = .ok (.iconst 1, 1) := by decide +kernel
theorem dX2_callFromBelow_6 : decode cX2_callFromBelow 6 = .ok (.istore 4, 2) := by decide +kernel
theorem dX2_callFromBelow_8 : decode cX2_callFromBelow 8 = .ok (.iload 4, 2) := by decide +kernel
theorem dX2_callFromBelow_10 : decode cX2_callFromBelow 10 = .ok (.bipush 10, 2) := by decide +kernel
theorem dX2_callFromBelow_12 : decode cX2_callFromBelow 12 = .ok (.if_icmp .gt 28, 3) := by decide +kernel
theorem dX2_callFromBelow_15 : decode cX2_callFromBelow 15 = .ok (.aload_n 0, 1) := by decide +kernel
theorem dX2_callFromBelow_16 : decode cX2_callFromBelow 16 = .ok (.aload_n 1, 1) := by decide +kernel
theorem dX2_callFromBelow_17 : decode cX2_callFromBelow 17 = .ok (.iload 4, 2) := by decide +kernel
theorem dX2_callFromBelow_19 : decode cX2_callFromBelow 19 = .ok (.invokevirtual 58, 3) := by decide +kernel
theorem dX2_callFromBelow_22 : decode cX2_callFromBelow 22 = .ok (.aload_n 1, 1) := by decide +kernel
theorem dX2_callFromBelow_23 : decode cX2_callFromBelow 23 = .ok (.getfield 62, 3) := by decide +kernel
theorem dX2_callFromBelow_26 : decode cX2_callFromBelow 26 = .ok (.iload_n 2, 1) := by decide +kernel
theorem dX2_callFromBelow_27 : decode cX2_callFromBelow 27 = .ok (.iaload, 1) := by decide +kernel
theorem dX2_callFromBelow_28 : decode cX2_callFromBelow 28 = .ok (.if_icmp .le 12, 3) := by decide +kernel
theorem dX2_callFromBelow_31 : decode cX2_callFromBelow 31 = .ok (.iload 4, 2) := by decide +kernel
theorem dX2_callFromBelow_33 : decode cX2_callFromBelow 33 = .ok (.iload_n 3, 1) := by decide +kernel
theorem dX2_callFromBelow_34 : decode cX2_callFromBelow 34 = .ok (.iadd, 1) := by decide +kernel
theorem dX2_callFromBelow_35 : decode cX2_callFromBelow 35 = .ok (.istore 4, 2) := by decide +kernel
theorem dX2_callFromBelow_37 : decode cX2_callFromBelow 37 = .ok (.goto (-29), 3) := by decide +kernel
theorem dX2_callFromBelow_40 : decode cX2_callFromBelow 40 = .ok (.aload_n 0, 1) := by decide +kernel
theorem dX2_callFromBelow_41 : decode cX2_callFromBelow 41 = .ok (.getfield 21, 3) := by decide +kernel
theorem dX2_callFromBelow_44 : decode cX2_callFromBelow 44 = .ok (.iload_n 2, 1) := by decide +kernel
theorem dX2_callFromBelow_45 : decode cX2_callFromBelow 45 = .ok (.iload 4, 2) := by decide +kernel
theorem dX2_callFromBelow_47 : decode cX2_callFromBelow 47 = .ok (.iastore, 1) := by decide +kernel
theorem dX2_callFromBelow_48 : decode cX2_callFromBelow 48 = .ok (.aload_n 0, 1) := by decide +kernel
theorem dX2_callFromBelow_49 : decode cX2_callFromBelow 49 = .ok (.aload_n 1, 1) := by decide +kernel
theorem dX2_callFromBelow_50 : decode cX2_callFromBelow 50 = .ok (.iload_n 2, 1) := by decide +kernel
theorem dX2_callFromBelow_51 : decode cX2_callFromBelow 51 = .ok (.iload 4, 2) := by decide +kernel
theorem dX2_callFromBelow_53 : decode cX2_callFromBelow 53 = .ok (.aload_n 1, 1) := by decide +kernel
theorem dX2_callFromBelow_54 : decode cX2_callFromBelow 54 = .ok (.getfield 62, 3) := by decide +kernel
theorem dX2_callFromBelow_57 : decode cX2_callFromBelow 57 = .ok (.iload_n 2, 1) := by decide +kernel
theorem dX2_callFromBelow_58 : decode cX2_callFromBelow 58 = .ok (.iaload, 1) := by decide +kernel
theorem dX2_callFromBelow_59 : decode cX2_callFromBelow 59 = .ok (.invokevirtual 65, 3) := by decide +kernel
theorem dX2_callFromBelow_62 : decode cX2_callFromBelow 62 = .ok (.istore 5, 2) := by decide +kernel
theorem dX2_callFromBelow_64 : decode cX2_callFromBelow 64 = .ok (.iload 4, 2) := by decide +kernel
theorem dX2_callFromBelow_66 : decode cX2_callFromBelow 66 = .ok (.iconst 1, 1) := by decide +kernel
theorem dX2_callFromBelow_67 : decode cX2_callFromBelow 67 = .ok (.if_icmp .le 16, 3) := by decide +kernel
theorem dX2_callFromBelow_70 : decode cX2_callFromBelow 70 = .ok (.aload_n 0, 1) := by decide +kernel
theorem dX2_callFromBelow_71 : decode cX2_callFromBelow 71 = .ok (.aload_n 1, 1) := by decide +kernel
theorem dX2_callFromBelow_72 : decode cX2_callFromBelow 72 = .ok (.iload_n 2, 1) := by decide +kernel
theorem dX2_callFromBelow_73 : decode cX2_callFromBelow 73 = .ok (.iload 4, 2) := by decide +kernel
theorem dX2_callFromBelow_75 : decode cX2_callFromBelow 75 = .ok (.iload_n 3, 1) := by decide +kernel
theorem dX2_callFromBelow_76 : decode cX2_callFromBelow 76 = .ok (.isub, 1) := by decide +kernel
theorem dX2_callFromBelow_77 : decode cX2_callFromBelow 77 = .ok (.iload 5, 2) := by decide +kernel
theorem dX2_callFromBelow_79 : decode cX2_callFromBelow 79 = .ok (.invokevirtual 65, 3) := by decide +kernel
theorem dX2_callFromBelow_82 : decode cX2_callFromBelow 82 = .ok (.pop, 1) := by decide +kernel
theorem dX2_callFromBelow_83 : decode cX2_callFromBelow 83 = .ok (.return_, 1) := by decide +kernel
theorem dX2_callFromAbove_0 : decode cX2_callFromAbove 0 = .ok (.aload_n 1, 1) := by decide +kernel
theorem dX2_callFromAbove_1 : decode cX2_callFromAbove 1 = .ok (.getfield 62, 3) := by decide +kernel
theorem dX2_callFromAbove_4 : decode cX2_callFromAbove 4 = .ok (.iload_n 2, 1) := by decide +kernel
theorem dX2_callFromAbove_5 : decode cX2_callFromAbove 5 = .ok (.iaload, 1) := by decide +kernel
theorem dX2_callFromAbove_6 : decode cX2_callFromAbove 6 = .ok (.istore 4, 2) := by decide +kernel
theorem dX2_callFromAbove_8 : decode cX2_callFromAbove 8 = .ok (.bipush 10, 2) := by decide +kernel
theorem dX2_callFromAbove_10 : decode cX2_callFromAbove 10 = .ok (.istore 5, 2) := by decide +kernel
theorem dX2_callFromAbove_12 : decode cX2_callFromAbove 12 = .ok (.iload 5, 2) := by decide +kernel
theorem dX2_callFromAbove_14 : decode cX2_callFromAbove 14 = .ok (.iconst 1, 1) := by decide +kernel
theorem dX2_callFromAbove_15 : decode cX2_callFromAbove 15 = .ok (.if_icmp .lt 29, 3) := by decide +kernel
theorem dX2_callFromAbove_18 : decode cX2_callFromAbove 18 = .ok (.iload 4, 2) := by decide +kernel
theorem dX2_callFromAbove_20 : decode cX2_callFromAbove 20 = .ok (.ifCond .le 24, 3) := by decide +kernel
theorem dX2_callFromAbove_23 : decode cX2_callFromAbove 23 = .ok (.aload_n 0, 1) := by decide +kernel
theorem dX2_callFromAbove_24 : decode cX2_callFromAbove 24 = .ok (.aload_n 1, 1) := by decide +kernel
theorem dX2_callFromAbove_25 : decode cX2_callFromAbove 25 = .ok (.iload_n 2, 1) := by decide +kernel
theorem dX2_callFromAbove_26 : decode cX2_callFromAbove 26 = .ok (.iload 5, 2) := by decide +kernel
theorem dX2_callFromAbove_28 : decode cX2_callFromAbove 28 = .ok (.iload 4, 2) := by decide +kernel
theorem dX2_callFromAbove_30 : decode cX2_callFromAbove 30 = .ok (.invokevirtual 65, 3) := by decide +kernel
theorem dX2_callFromAbove_33 : decode cX2_callFromAbove 33 = .ok (.istore 4, 2) := by decide +kernel
theorem dX2_callFromAbove_35 : decode cX2_callFromAbove 35 = .ok (.iload 5, 2) := by decide +kernel
theorem dX2_callFromAbove_37 : decode cX2_callFromAbove 37 = .ok (.iload_n 3, 1) := by decide +kernel
theorem dX2_callFromAbove_38 : decode cX2_callFromAbove 38 = .ok (.isub, 1) := by decide +kernel
theorem dX2_callFromAbove_39 : decode cX2_callFromAbove 39 = .ok (.istore 5, 2) := by decide +kernel
theorem dX2_callFromAbove_41 : decode cX2_callFromAbove 41 = .ok (.goto (-29), 3) := by decide +kernel
theorem dX2_callFromAbove_44 : decode cX2_callFromAbove 44 = .ok (.return_, 1) := by decide +kernel
theorem dX2_isIn_0 : decode cX2_isIn 0 = .ok (.aload_n 0, 1) := by decide +kernel
theorem dX2_isIn_1 : decode cX2_isIn 1 = .ok (.getfield 9, 3) := by decide +kernel
theorem dX2_isIn_4 : decode cX2_isIn 4 = .ok (.iload_n 1, 1) := by decide +kernel
theorem dX2_isIn_5 : decode cX2_isIn 5 = .ok (.iaload, 1) := by decide +kernel
theorem dX2_isIn_6 : decode cX2_isIn 6 = .ok (.bipush (-4), 2) := by decide +kernel
theorem dX2_isIn_8 : decode cX2_isIn 8 = .ok (.if_icmp .ne 17, 3) := by decide +kernel
theorem dX2_isIn_11 : decode cX2_isIn 11 = .ok (.aload_n 0, 1) := by decide +kernel
theorem dX2_isIn_12 : decode cX2_isIn 12 = .ok (.getfield 18, 3) := by decide +kernel
theorem dX2_isIn_15 : decode cX2_isIn 15 = .ok (.iload_n 1, 1) := by decide +kernel
theorem dX2_isIn_16 : decode cX2_isIn 16 = .ok (.iaload, 1) := by decide +kernel
theorem dX2_isIn_17 : decode cX2_isIn 17 = .ok (.iload_n 2, 1) := by decide +kernel
theorem dX2_isIn_18 : decode cX2_isIn 18 = .ok (.if_icmp .lt 7, 3) := by decide +kernel
theorem dX2_isIn_21 : decode cX2_isIn 21 = .ok (.iconst 1, 1) := by decide +kernel
theorem dX2_isIn_22 : decode cX2_isIn 22 = .ok (.goto 4, 3) := by decide +kernel
theorem dX2_isIn_25 : decode cX2_isIn 25 = .ok (.iconst 0, 1) := by decide +kernel
theorem dX2_isIn_26 : decode cX2_isIn 26 = .ok (.ireturn, 1) := by decide +kernel
theorem dX2_howManyIn_0 : decode cX2_howManyIn 0 = .ok (.iconst 0, 1) := by decide +kernel
theorem dX2_howManyIn_1 : decode cX2_howManyIn 1 = .ok (.istore_n 3, 1) := by decide +kernel
theorem dX2_howManyIn_2 : decode cX2_howManyIn 2 = .ok (.iconst 0, 1) := by decide +kernel
theorem dX2_howManyIn_3 : decode cX2_howManyIn 3 = .ok (.istore 4, 2) := by decide +kernel
theorem dX2_howManyIn_5 : decode cX2_howManyIn 5 = .ok (.iload 4, 2) := by decide +kernel
theorem dX2_howManyIn_7 : decode cX2_howManyIn 7 = .ok (.aload_n 1, 1) := by decide +kernel
theorem dX2_howManyIn_8 : decode cX2_howManyIn 8 = .ok (.getfield 36, 3) := by decide +kernel
theorem dX2_howManyIn_11 : decode cX2_howManyIn 11 = .ok (.if_icmp .ge 22, 3) := by decide +kernel
theorem dX2_howManyIn_14 : decode cX2_howManyIn 14 = .ok (.aload_n 0, 1) := by decide +kernel
theorem dX2_howManyIn_15 : decode cX2_howManyIn 15 = .ok (.iload 4, 2) := by decide +kernel
theorem dX2_howManyIn_17 : decode cX2_howManyIn 17 = .ok (.iload_n 2, 1) := by decide +kernel
theorem dX2_howManyIn_18 : decode cX2_howManyIn 18 = .ok (.invokevirtual 69, 3) := by decide +kernel
theorem dX2_howManyIn_21 : decode cX2_howManyIn 21 = .ok (.ifCond .eq 6, 3) := by decide +kernel
theorem dX2_howManyIn_24 : decode cX2_howManyIn 24 = .ok (.iinc 3 1, 3) := by decide +kernel
theorem dX2_howManyIn_27 : decode cX2_howManyIn 27 = .ok (.iinc 4 1, 3) := by decide +kernel
theorem dX2_howManyIn_30 : decode cX2_howManyIn 30 = .ok (.goto (-25), 3) := by decide +kernel
theorem dX2_howManyIn_33 : decode cX2_howManyIn 33 = .ok (.iload_n 3, 1) := by decide +kernel
theorem dX2_howManyIn_34 : decode cX2_howManyIn 34 = .ok (.ireturn, 1) := by decide +kernel
theorem dX2_hire_0 : decode cX2_hire 0 = .ok (.iload 4, 2) := by decide +kernel
theorem dX2_hire_2 : decode cX2_hire 2 = .ok (.istore 5, 2) := by decide +kernel
theorem dX2_hire_4 : decode cX2_hire 4 = .ok (.iconst 0, 1) := by decide +kernel
theorem dX2_hire_5 : decode cX2_hire 5 = .ok (.istore 6, 2) := by decide +kernel
theorem dX2_hire_7 : decode cX2_hire 7 = .ok (.iload 6, 2) := by decide +kernel
theorem dX2_hire_9 : decode cX2_hire 9 = .ok (.aload_n 1, 1) := by decide +kernel
theorem dX2_hire_10 : decode cX2_hire 10 = .ok (.getfield 36, 3) := by decide +kernel
theorem dX2_hire_13 : decode cX2_hire 13 = .ok (.if_icmp .ge 43, 3) := by decide +kernel
theorem dX2_hire_16 : decode cX2_hire 16 = .ok (.iload 5, 2) := by decide +kernel
theorem dX2_hire_18 : decode cX2_hire 18 = .ok (.ifCond .le 38, 3) := by decide +kernel
theorem dX2_hire_21 : decode cX2_hire 21 = .ok (.aload_n 0, 1) := by decide +kernel
theorem dX2_hire_22 : decode cX2_hire 22 = .ok (.iload 6, 2) := by decide +kernel
theorem dX2_hire_24 : decode cX2_hire 24 = .ok (.iload_n 3, 1) := by decide +kernel
theorem dX2_hire_25 : decode cX2_hire 25 = .ok (.invokevirtual 69, 3) := by decide +kernel
theorem dX2_hire_28 : decode cX2_hire 28 = .ok (.ifCond .eq 22, 3) := by decide +kernel
theorem dX2_hire_31 : decode cX2_hire 31 = .ok (.aload_n 0, 1) := by decide +kernel
theorem dX2_hire_32 : decode cX2_hire 32 = .ok (.getfield 9, 3) := by decide +kernel
theorem dX2_hire_35 : decode cX2_hire 35 = .ok (.iload 6, 2) := by decide +kernel
theorem dX2_hire_37 : decode cX2_hire 37 = .ok (.iload_n 2, 1) := by decide +kernel
theorem dX2_hire_38 : decode cX2_hire 38 = .ok (.iastore, 1) := by decide +kernel
theorem dX2_hire_39 : decode cX2_hire 39 = .ok (.aload_n 0, 1) := by decide +kernel
theorem dX2_hire_40 : decode cX2_hire 40 = .ok (.getfield 15, 3) := by decide +kernel
theorem dX2_hire_43 : decode cX2_hire 43 = .ok (.iload 6, 2) := by decide +kernel
theorem dX2_hire_45 : decode cX2_hire 45 = .ok (.iload_n 3, 1) := by decide +kernel
theorem dX2_hire_46 : decode cX2_hire 46 = .ok (.iastore, 1) := by decide +kernel
theorem dX2_hire_47 : decode cX2_hire 47 = .ok (.iinc 5 (-1), 3) := by decide +kernel
theorem dX2_hire_50 : decode cX2_hire 50 = .ok (.iinc 6 1, 3) := by decide +kernel
theorem dX2_hire_53 : decode cX2_hire 53 = .ok (.goto (-46), 3) := by decide +kernel
theorem dX2_hire_56 : decode cX2_hire 56 = .ok (.iload 5, 2) := by decide +kernel
theorem dX2_hire_58 : decode cX2_hire 58 = .ok (.ireturn, 1) := by decide +kernel
theorem dX2_gainOf_0 : decode cX2_gainOf 0 = .ok (.aload_n 0, 1) := by decide +kernel
theorem dX2_gainOf_1 : decode cX2_gainOf 1 = .ok (.getfield 9, 3) := by decide +kernel
theorem dX2_gainOf_4 : decode cX2_gainOf 4 = .ok (.iload_n 2, 1) := by decide +kernel
theorem dX2_gainOf_5 : decode cX2_gainOf 5 = .ok (.iaload, 1) := by decide +kernel
theorem dX2_gainOf_6 : decode cX2_gainOf 6 = .ok (.bipush (-4), 2) := by decide +kernel
theorem dX2_gainOf_8 : decode cX2_gainOf 8 = .ok (.if_icmp .ne 7, 3) := by decide +kernel
theorem dX2_gainOf_11 : decode cX2_gainOf 11 = .ok (.iconst 0, 1) := by decide +kernel
theorem dX2_gainOf_12 : decode cX2_gainOf 12 = .ok (.goto 23, 3) := by decide +kernel
theorem dX2_gainOf_15 : decode cX2_gainOf 15 = .ok (.aload_n 1, 1) := by decide +kernel
theorem dX2_gainOf_16 : decode cX2_gainOf 16 = .ok (.getfield 73, 3) := by decide +kernel
theorem dX2_gainOf_19 : decode cX2_gainOf 19 = .ok (.iload_n 2, 1) := by decide +kernel
theorem dX2_gainOf_20 : decode cX2_gainOf 20 = .ok (.aaload, 1) := by decide +kernel
theorem dX2_gainOf_21 : decode cX2_gainOf 21 = .ok (.aload_n 0, 1) := by decide +kernel
theorem dX2_gainOf_22 : decode cX2_gainOf 22 = .ok (.getfield 9, 3) := by decide +kernel
theorem dX2_gainOf_25 : decode cX2_gainOf 25 = .ok (.iload_n 2, 1) := by decide +kernel
theorem dX2_gainOf_26 : decode cX2_gainOf 26 = .ok (.iaload, 1) := by decide +kernel
theorem dX2_gainOf_27 : decode cX2_gainOf 27 = .ok (.iaload, 1) := by decide +kernel
theorem dX2_gainOf_28 : decode cX2_gainOf 28 = .ok (.aload_n 0, 1) := by decide +kernel
theorem dX2_gainOf_29 : decode cX2_gainOf 29 = .ok (.getfield 15, 3) := by decide +kernel
theorem dX2_gainOf_32 : decode cX2_gainOf 32 = .ok (.iload_n 2, 1) := by decide +kernel
theorem dX2_gainOf_33 : decode cX2_gainOf 33 = .ok (.iaload, 1) := by decide +kernel
theorem dX2_gainOf_34 : decode cX2_gainOf 34 = .ok (.isub, 1) := by decide +kernel
theorem dX2_gainOf_35 : decode cX2_gainOf 35 = .ok (.ireturn, 1) := by decide +kernel
theorem dX2_ladsOf_0 : decode cX2_ladsOf 0 = .ok (.iconst 0, 1) := by decide +kernel
theorem dX2_ladsOf_1 : decode cX2_ladsOf 1 = .ok (.istore_n 3, 1) := by decide +kernel
theorem dX2_ladsOf_2 : decode cX2_ladsOf 2 = .ok (.iconst 0, 1) := by decide +kernel
theorem dX2_ladsOf_3 : decode cX2_ladsOf 3 = .ok (.istore 4, 2) := by decide +kernel
theorem dX2_ladsOf_5 : decode cX2_ladsOf 5 = .ok (.iload 4, 2) := by decide +kernel
theorem dX2_ladsOf_7 : decode cX2_ladsOf 7 = .ok (.aload_n 1, 1) := by decide +kernel
theorem dX2_ladsOf_8 : decode cX2_ladsOf 8 = .ok (.getfield 36, 3) := by decide +kernel
theorem dX2_ladsOf_11 : decode cX2_ladsOf 11 = .ok (.if_icmp .ge 27, 3) := by decide +kernel
theorem dX2_ladsOf_14 : decode cX2_ladsOf 14 = .ok (.aload_n 0, 1) := by decide +kernel
theorem dX2_ladsOf_15 : decode cX2_ladsOf 15 = .ok (.getfield 9, 3) := by decide +kernel
theorem dX2_ladsOf_18 : decode cX2_ladsOf 18 = .ok (.iload 4, 2) := by decide +kernel
theorem dX2_ladsOf_20 : decode cX2_ladsOf 20 = .ok (.iaload, 1) := by decide +kernel
theorem dX2_ladsOf_21 : decode cX2_ladsOf 21 = .ok (.iload_n 2, 1) := by decide +kernel
theorem dX2_ladsOf_22 : decode cX2_ladsOf 22 = .ok (.if_icmp .ne 10, 3) := by decide +kernel
theorem dX2_ladsOf_25 : decode cX2_ladsOf 25 = .ok (.iload_n 3, 1) := by decide +kernel
theorem dX2_ladsOf_26 : decode cX2_ladsOf 26 = .ok (.iconst 1, 1) := by decide +kernel
theorem dX2_ladsOf_27 : decode cX2_ladsOf 27 = .ok (.iload 4, 2) := by decide +kernel
theorem dX2_ladsOf_29 : decode cX2_ladsOf 29 = .ok (.ishl, 1) := by decide +kernel
theorem dX2_ladsOf_30 : decode cX2_ladsOf 30 = .ok (.ior, 1) := by decide +kernel
theorem dX2_ladsOf_31 : decode cX2_ladsOf 31 = .ok (.istore_n 3, 1) := by decide +kernel
theorem dX2_ladsOf_32 : decode cX2_ladsOf 32 = .ok (.iinc 4 1, 3) := by decide +kernel
theorem dX2_ladsOf_35 : decode cX2_ladsOf 35 = .ok (.goto (-30), 3) := by decide +kernel
theorem dX2_ladsOf_38 : decode cX2_ladsOf 38 = .ok (.iload_n 3, 1) := by decide +kernel
theorem dX2_ladsOf_39 : decode cX2_ladsOf 39 = .ok (.ireturn, 1) := by decide +kernel
theorem dX2_mostYearsOf_0 : decode cX2_mostYearsOf 0 = .ok (.iconst 0, 1) := by decide +kernel
theorem dX2_mostYearsOf_1 : decode cX2_mostYearsOf 1 = .ok (.istore_n 3, 1) := by decide +kernel
theorem dX2_mostYearsOf_2 : decode cX2_mostYearsOf 2 = .ok (.iconst 0, 1) := by decide +kernel
theorem dX2_mostYearsOf_3 : decode cX2_mostYearsOf 3 = .ok (.istore 4, 2) := by decide +kernel
theorem dX2_mostYearsOf_5 : decode cX2_mostYearsOf 5 = .ok (.iload 4, 2) := by decide +kernel
theorem dX2_mostYearsOf_7 : decode cX2_mostYearsOf 7 = .ok (.aload_n 1, 1) := by decide +kernel
theorem dX2_mostYearsOf_8 : decode cX2_mostYearsOf 8 = .ok (.getfield 36, 3) := by decide +kernel
theorem dX2_mostYearsOf_11 : decode cX2_mostYearsOf 11 = .ok (.if_icmp .ge 32, 3) := by decide +kernel
theorem dX2_mostYearsOf_14 : decode cX2_mostYearsOf 14 = .ok (.aload_n 0, 1) := by decide +kernel
theorem dX2_mostYearsOf_15 : decode cX2_mostYearsOf 15 = .ok (.getfield 9, 3) := by decide +kernel
theorem dX2_mostYearsOf_18 : decode cX2_mostYearsOf 18 = .ok (.iload 4, 2) := by decide +kernel
theorem dX2_mostYearsOf_20 : decode cX2_mostYearsOf 20 = .ok (.iaload, 1) := by decide +kernel
theorem dX2_mostYearsOf_21 : decode cX2_mostYearsOf 21 = .ok (.iload_n 2, 1) := by decide +kernel
theorem dX2_mostYearsOf_22 : decode cX2_mostYearsOf 22 = .ok (.if_icmp .ne 15, 3) := by decide +kernel
theorem dX2_mostYearsOf_25 : decode cX2_mostYearsOf 25 = .ok (.iload_n 3, 1) := by decide +kernel
theorem dX2_mostYearsOf_26 : decode cX2_mostYearsOf 26 = .ok (.aload_n 0, 1) := by decide +kernel
theorem dX2_mostYearsOf_27 : decode cX2_mostYearsOf 27 = .ok (.getfield 15, 3) := by decide +kernel
theorem dX2_mostYearsOf_30 : decode cX2_mostYearsOf 30 = .ok (.iload 4, 2) := by decide +kernel
theorem dX2_mostYearsOf_32 : decode cX2_mostYearsOf 32 = .ok (.iaload, 1) := by decide +kernel
theorem dX2_mostYearsOf_33 : decode cX2_mostYearsOf 33 = .ok (.invokestatic 77, 3) := by decide +kernel
theorem dX2_mostYearsOf_36 : decode cX2_mostYearsOf 36 = .ok (.istore_n 3, 1) := by decide +kernel
theorem dX2_mostYearsOf_37 : decode cX2_mostYearsOf 37 = .ok (.iinc 4 1, 3) := by decide +kernel
theorem dX2_mostYearsOf_40 : decode cX2_mostYearsOf 40 = .ok (.goto (-35), 3) := by decide +kernel
theorem dX2_mostYearsOf_43 : decode cX2_mostYearsOf 43 = .ok (.iload_n 3, 1) := by decide +kernel
theorem dX2_mostYearsOf_44 : decode cX2_mostYearsOf 44 = .ok (.ireturn, 1) := by decide +kernel
theorem dX2_yearsOfAll_0 : decode cX2_yearsOfAll 0 = .ok (.iconst 0, 1) := by decide +kernel
theorem dX2_yearsOfAll_1 : decode cX2_yearsOfAll 1 = .ok (.istore_n 2, 1) := by decide +kernel
theorem dX2_yearsOfAll_2 : decode cX2_yearsOfAll 2 = .ok (.iconst 0, 1) := by decide +kernel
theorem dX2_yearsOfAll_3 : decode cX2_yearsOfAll 3 = .ok (.istore_n 3, 1) := by decide +kernel
theorem dX2_yearsOfAll_4 : decode cX2_yearsOfAll 4 = .ok (.iload_n 3, 1) := by decide +kernel
theorem dX2_yearsOfAll_5 : decode cX2_yearsOfAll 5 = .ok (.aload_n 1, 1) := by decide +kernel
theorem dX2_yearsOfAll_6 : decode cX2_yearsOfAll 6 = .ok (.getfield 36, 3) := by decide +kernel
theorem dX2_yearsOfAll_9 : decode cX2_yearsOfAll 9 = .ok (.if_icmp .ge 18, 3) := by decide +kernel
theorem dX2_yearsOfAll_12 : decode cX2_yearsOfAll 12 = .ok (.iload_n 2, 1) := by decide +kernel
theorem dX2_yearsOfAll_13 : decode cX2_yearsOfAll 13 = .ok (.aload_n 0, 1) := by decide +kernel
theorem dX2_yearsOfAll_14 : decode cX2_yearsOfAll 14 = .ok (.getfield 15, 3) := by decide +kernel
theorem dX2_yearsOfAll_17 : decode cX2_yearsOfAll 17 = .ok (.iload_n 3, 1) := by decide +kernel
theorem dX2_yearsOfAll_18 : decode cX2_yearsOfAll 18 = .ok (.iaload, 1) := by decide +kernel
theorem dX2_yearsOfAll_19 : decode cX2_yearsOfAll 19 = .ok (.iadd, 1) := by decide +kernel
theorem dX2_yearsOfAll_20 : decode cX2_yearsOfAll 20 = .ok (.istore_n 2, 1) := by decide +kernel
theorem dX2_yearsOfAll_21 : decode cX2_yearsOfAll 21 = .ok (.iinc 3 1, 3) := by decide +kernel
theorem dX2_yearsOfAll_24 : decode cX2_yearsOfAll 24 = .ok (.goto (-20), 3) := by decide +kernel
theorem dX2_yearsOfAll_27 : decode cX2_yearsOfAll 27 = .ok (.iload_n 2, 1) := by decide +kernel
theorem dX2_yearsOfAll_28 : decode cX2_yearsOfAll 28 = .ok (.ireturn, 1) := by decide +kernel
theorem dX2_gainsOfAll_0 : decode cX2_gainsOfAll 0 = .ok (.iconst 0, 1) := by decide +kernel
theorem dX2_gainsOfAll_1 : decode cX2_gainsOfAll 1 = .ok (.istore_n 2, 1) := by decide +kernel
theorem dX2_gainsOfAll_2 : decode cX2_gainsOfAll 2 = .ok (.iconst 0, 1) := by decide +kernel
theorem dX2_gainsOfAll_3 : decode cX2_gainsOfAll 3 = .ok (.istore_n 3, 1) := by decide +kernel
theorem dX2_gainsOfAll_4 : decode cX2_gainsOfAll 4 = .ok (.iload_n 3, 1) := by decide +kernel
theorem dX2_gainsOfAll_5 : decode cX2_gainsOfAll 5 = .ok (.aload_n 1, 1) := by decide +kernel
theorem dX2_gainsOfAll_6 : decode cX2_gainsOfAll 6 = .ok (.getfield 36, 3) := by decide +kernel
theorem dX2_gainsOfAll_9 : decode cX2_gainsOfAll 9 = .ok (.if_icmp .ge 18, 3) := by decide +kernel
theorem dX2_gainsOfAll_12 : decode cX2_gainsOfAll 12 = .ok (.iload_n 2, 1) := by decide +kernel
theorem dX2_gainsOfAll_13 : decode cX2_gainsOfAll 13 = .ok (.aload_n 0, 1) := by decide +kernel
theorem dX2_gainsOfAll_14 : decode cX2_gainsOfAll 14 = .ok (.aload_n 1, 1) := by decide +kernel
theorem dX2_gainsOfAll_15 : decode cX2_gainsOfAll 15 = .ok (.iload_n 3, 1) := by decide +kernel
theorem dX2_gainsOfAll_16 : decode cX2_gainsOfAll 16 = .ok (.invokevirtual 82, 3) := by decide +kernel
theorem dX2_gainsOfAll_19 : decode cX2_gainsOfAll 19 = .ok (.iadd, 1) := by decide +kernel
theorem dX2_gainsOfAll_20 : decode cX2_gainsOfAll 20 = .ok (.istore_n 2, 1) := by decide +kernel
theorem dX2_gainsOfAll_21 : decode cX2_gainsOfAll 21 = .ok (.iinc 3 1, 3) := by decide +kernel
theorem dX2_gainsOfAll_24 : decode cX2_gainsOfAll 24 = .ok (.goto (-20), 3) := by decide +kernel
theorem dX2_gainsOfAll_27 : decode cX2_gainsOfAll 27 = .ok (.iload_n 2, 1) := by decide +kernel
theorem dX2_gainsOfAll_28 : decode cX2_gainsOfAll 28 = .ok (.ireturn, 1) := by decide +kernel
theorem dX2_ladsHired_0 : decode cX2_ladsHired 0 = .ok (.iconst 0, 1) := by decide +kernel
theorem dX2_ladsHired_1 : decode cX2_ladsHired 1 = .ok (.istore_n 2, 1) := by decide +kernel
theorem dX2_ladsHired_2 : decode cX2_ladsHired 2 = .ok (.iconst 0, 1) := by decide +kernel
theorem dX2_ladsHired_3 : decode cX2_ladsHired 3 = .ok (.istore_n 3, 1) := by decide +kernel
theorem dX2_ladsHired_4 : decode cX2_ladsHired 4 = .ok (.iload_n 3, 1) := by decide +kernel
theorem dX2_ladsHired_5 : decode cX2_ladsHired 5 = .ok (.aload_n 1, 1) := by decide +kernel
theorem dX2_ladsHired_6 : decode cX2_ladsHired 6 = .ok (.getfield 36, 3) := by decide +kernel
theorem dX2_ladsHired_9 : decode cX2_ladsHired 9 = .ok (.if_icmp .ge 23, 3) := by decide +kernel
theorem dX2_ladsHired_12 : decode cX2_ladsHired 12 = .ok (.aload_n 0, 1) := by decide +kernel
theorem dX2_ladsHired_13 : decode cX2_ladsHired 13 = .ok (.getfield 9, 3) := by decide +kernel
theorem dX2_ladsHired_16 : decode cX2_ladsHired 16 = .ok (.iload_n 3, 1) := by decide +kernel
theorem dX2_ladsHired_17 : decode cX2_ladsHired 17 = .ok (.iaload, 1) := by decide +kernel
theorem dX2_ladsHired_18 : decode cX2_ladsHired 18 = .ok (.bipush (-4), 2) := by decide +kernel
theorem dX2_ladsHired_20 : decode cX2_ladsHired 20 = .ok (.if_icmp .eq 6, 3) := by decide +kernel
theorem dX2_ladsHired_23 : decode cX2_ladsHired 23 = .ok (.iinc 2 1, 3) := by decide +kernel
theorem dX2_ladsHired_26 : decode cX2_ladsHired 26 = .ok (.iinc 3 1, 3) := by decide +kernel
theorem dX2_ladsHired_29 : decode cX2_ladsHired 29 = .ok (.goto (-25), 3) := by decide +kernel
theorem dX2_ladsHired_32 : decode cX2_ladsHired 32 = .ok (.iload_n 2, 1) := by decide +kernel
theorem dX2_ladsHired_33 : decode cX2_ladsHired 33 = .ok (.ireturn, 1) := by decide +kernel
theorem dX2_mastersAlone_0 : decode cX2_mastersAlone 0 = .ok (.iconst 0, 1) := by decide +kernel
theorem dX2_mastersAlone_1 : decode cX2_mastersAlone 1 = .ok (.istore_n 2, 1) := by decide +kernel
theorem dX2_mastersAlone_2 : decode cX2_mastersAlone 2 = .ok (.iconst 0, 1) := by decide +kernel
theorem dX2_mastersAlone_3 : decode cX2_mastersAlone 3 = .ok (.istore_n 3, 1) := by decide +kernel
theorem dX2_mastersAlone_4 : decode cX2_mastersAlone 4 = .ok (.iload_n 3, 1) := by decide +kernel
theorem dX2_mastersAlone_5 : decode cX2_mastersAlone 5 = .ok (.aload_n 1, 1) := by decide +kernel
theorem dX2_mastersAlone_6 : decode cX2_mastersAlone 6 = .ok (.getfield 30, 3) := by decide +kernel
theorem dX2_mastersAlone_9 : decode cX2_mastersAlone 9 = .ok (.if_icmp .ge 21, 3) := by decide +kernel
theorem dX2_mastersAlone_12 : decode cX2_mastersAlone 12 = .ok (.aload_n 0, 1) := by decide +kernel
theorem dX2_mastersAlone_13 : decode cX2_mastersAlone 13 = .ok (.aload_n 1, 1) := by decide +kernel
theorem dX2_mastersAlone_14 : decode cX2_mastersAlone 14 = .ok (.iload_n 3, 1) := by decide +kernel
theorem dX2_mastersAlone_15 : decode cX2_mastersAlone 15 = .ok (.invokevirtual 85, 3) := by decide +kernel
theorem dX2_mastersAlone_18 : decode cX2_mastersAlone 18 = .ok (.ifCond .ne 6, 3) := by decide +kernel
theorem dX2_mastersAlone_21 : decode cX2_mastersAlone 21 = .ok (.iinc 2 1, 3) := by decide +kernel
theorem dX2_mastersAlone_24 : decode cX2_mastersAlone 24 = .ok (.iinc 3 1, 3) := by decide +kernel
theorem dX2_mastersAlone_27 : decode cX2_mastersAlone 27 = .ok (.goto (-23), 3) := by decide +kernel
theorem dX2_mastersAlone_30 : decode cX2_mastersAlone 30 = .ok (.iload_n 2, 1) := by decide +kernel
theorem dX2_mastersAlone_31 : decode cX2_mastersAlone 31 = .ok (.ireturn, 1) := by decide +kernel
theorem dX2_hadGotAnother_0 : decode cX2_hadGotAnother 0 = .ok (.aload_n 0, 1) := by decide +kernel
theorem dX2_hadGotAnother_1 : decode cX2_hadGotAnother 1 = .ok (.getfield 9, 3) := by decide +kernel
theorem dX2_hadGotAnother_4 : decode cX2_hadGotAnother 4 = .ok (.iload_n 1, 1) := by decide +kernel
theorem dX2_hadGotAnother_5 : decode cX2_hadGotAnother 5 = .ok (.iaload, 1) := by decide +kernel
theorem dX2_hadGotAnother_6 : decode cX2_hadGotAnother 6 = .ok (.bipush (-4), 2) := by decide +kernel
theorem dX2_hadGotAnother_8 : decode cX2_hadGotAnother 8 = .ok (.if_icmp .eq 17, 3) := by decide +kernel
theorem dX2_hadGotAnother_11 : decode cX2_hadGotAnother 11 = .ok (.aload_n 0, 1) := by decide +kernel
theorem dX2_hadGotAnother_12 : decode cX2_hadGotAnother 12 = .ok (.getfield 9, 3) := by decide +kernel
theorem dX2_hadGotAnother_15 : decode cX2_hadGotAnother 15 = .ok (.iload_n 1, 1) := by decide +kernel
theorem dX2_hadGotAnother_16 : decode cX2_hadGotAnother 16 = .ok (.iaload, 1) := by decide +kernel
theorem dX2_hadGotAnother_17 : decode cX2_hadGotAnother 17 = .ok (.iload_n 2, 1) := by decide +kernel
theorem dX2_hadGotAnother_18 : decode cX2_hadGotAnother 18 = .ok (.if_icmp .ge 7, 3) := by decide +kernel
theorem dX2_hadGotAnother_21 : decode cX2_hadGotAnother 21 = .ok (.iconst 1, 1) := by decide +kernel
theorem dX2_hadGotAnother_22 : decode cX2_hadGotAnother 22 = .ok (.goto 4, 3) := by decide +kernel
theorem dX2_hadGotAnother_25 : decode cX2_hadGotAnother 25 = .ok (.iconst 0, 1) := by decide +kernel
theorem dX2_hadGotAnother_26 : decode cX2_hadGotAnother 26 = .ok (.ireturn, 1) := by decide +kernel
theorem dX2_firstCallOut_0 : decode cX2_firstCallOut 0 = .ok (.aload_n 1, 1) := by decide +kernel
theorem dX2_firstCallOut_1 : decode cX2_firstCallOut 1 = .ok (.iload_n 2, 1) := by decide +kernel
theorem dX2_firstCallOut_2 : decode cX2_firstCallOut 2 = .ok (.iload_n 3, 1) := by decide +kernel
theorem dX2_firstCallOut_3 : decode cX2_firstCallOut 3 = .ok (.invokevirtual 39, 3) := by decide +kernel
theorem dX2_firstCallOut_6 : decode cX2_firstCallOut 6 = .ok (.istore 4, 2) := by decide +kernel
theorem dX2_firstCallOut_8 : decode cX2_firstCallOut 8 = .ok (.iconst 1, 1) := by decide +kernel
theorem dX2_firstCallOut_9 : decode cX2_firstCallOut 9 = .ok (.istore 5, 2) := by decide +kernel
theorem dX2_firstCallOut_11 : decode cX2_firstCallOut 11 = .ok (.iload 5, 2) := by decide +kernel
theorem dX2_firstCallOut_13 : decode cX2_firstCallOut 13 = .ok (.aload_n 0, 1) := by decide +kernel
theorem dX2_firstCallOut_14 : decode cX2_firstCallOut 14 = .ok (.getfield 21, 3) := by decide +kernel
theorem dX2_firstCallOut_17 : decode cX2_firstCallOut 17 = .ok (.iload_n 3, 1) := by decide +kernel
theorem dX2_firstCallOut_18 : decode cX2_firstCallOut 18 = .ok (.iaload, 1) := by decide +kernel
theorem dX2_firstCallOut_19 : decode cX2_firstCallOut 19 = .ok (.if_icmp .gt 22, 3) := by decide +kernel
theorem dX2_firstCallOut_22 : decode cX2_firstCallOut 22 = .ok (.iload 5, 2) := by decide +kernel
theorem dX2_firstCallOut_24 : decode cX2_firstCallOut 24 = .ok (.iload 4, 2) := by decide +kernel
theorem dX2_firstCallOut_26 : decode cX2_firstCallOut 26 = .ok (.if_icmp .gt 15, 3) := by decide +kernel
theorem dX2_firstCallOut_29 : decode cX2_firstCallOut 29 = .ok (.iload 5, 2) := by decide +kernel
theorem dX2_firstCallOut_31 : decode cX2_firstCallOut 31 = .ok (.aload_n 1, 1) := by decide +kernel
theorem dX2_firstCallOut_32 : decode cX2_firstCallOut 32 = .ok (.invokevirtual 50, 3) := by decide +kernel
theorem dX2_firstCallOut_35 : decode cX2_firstCallOut 35 = .ok (.iadd, 1) := by decide +kernel
theorem dX2_firstCallOut_36 : decode cX2_firstCallOut 36 = .ok (.istore 5, 2) := by decide +kernel
theorem dX2_firstCallOut_38 : decode cX2_firstCallOut 38 = .ok (.goto (-27), 3) := by decide +kernel
theorem dX2_firstCallOut_41 : decode cX2_firstCallOut 41 = .ok (.iload 5, 2) := by decide +kernel
theorem dX2_firstCallOut_43 : decode cX2_firstCallOut 43 = .ok (.ireturn, 1) := by decide +kernel
theorem dX2_spanFrom_0 : decode cX2_spanFrom 0 = .ok (.aload_n 0, 1) := by decide +kernel
theorem dX2_spanFrom_1 : decode cX2_spanFrom 1 = .ok (.iload_n 2, 1) := by decide +kernel
theorem dX2_spanFrom_2 : decode cX2_spanFrom 2 = .ok (.iload_n 3, 1) := by decide +kernel
theorem dX2_spanFrom_3 : decode cX2_spanFrom 3 = .ok (.invokevirtual 88, 3) := by decide +kernel
theorem dX2_spanFrom_6 : decode cX2_spanFrom 6 = .ok (.ifCond .eq 5, 3) := by decide +kernel
theorem dX2_spanFrom_9 : decode cX2_spanFrom 9 = .ok (.iconst 0, 1) := by decide +kernel
theorem dX2_spanFrom_10 : decode cX2_spanFrom 10 = .ok (.ireturn, 1) := by decide +kernel
theorem dX2_spanFrom_11 : decode cX2_spanFrom 11 = .ok (.iconst 0, 1) := by decide +kernel
theorem dX2_spanFrom_12 : decode cX2_spanFrom 12 = .ok (.aload_n 0, 1) := by decide +kernel
theorem dX2_spanFrom_13 : decode cX2_spanFrom 13 = .ok (.aload_n 1, 1) := by decide +kernel
theorem dX2_spanFrom_14 : decode cX2_spanFrom 14 = .ok (.iload_n 2, 1) := by decide +kernel
theorem dX2_spanFrom_15 : decode cX2_spanFrom 15 = .ok (.iload_n 3, 1) := by decide +kernel
theorem dX2_spanFrom_16 : decode cX2_spanFrom 16 = .ok (.invokevirtual 91, 3) := by decide +kernel
theorem dX2_spanFrom_19 : decode cX2_spanFrom 19 = .ok (.aload_n 1, 1) := by decide +kernel
theorem dX2_spanFrom_20 : decode cX2_spanFrom 20 = .ok (.invokevirtual 50, 3) := by decide +kernel
theorem dX2_spanFrom_23 : decode cX2_spanFrom 23 = .ok (.isub, 1) := by decide +kernel
theorem dX2_spanFrom_24 : decode cX2_spanFrom 24 = .ok (.invokestatic 77, 3) := by decide +kernel
theorem dX2_spanFrom_27 : decode cX2_spanFrom 27 = .ok (.ireturn, 1) := by decide +kernel
theorem dX2_spanTo_0 : decode cX2_spanTo 0 = .ok (.aload_n 0, 1) := by decide +kernel
theorem dX2_spanTo_1 : decode cX2_spanTo 1 = .ok (.iload_n 2, 1) := by decide +kernel
theorem dX2_spanTo_2 : decode cX2_spanTo 2 = .ok (.iload_n 3, 1) := by decide +kernel
theorem dX2_spanTo_3 : decode cX2_spanTo 3 = .ok (.invokevirtual 88, 3) := by decide +kernel
theorem dX2_spanTo_6 : decode cX2_spanTo 6 = .ok (.ifCond .eq 6, 3) := by decide +kernel
theorem dX2_spanTo_9 : decode cX2_spanTo 9 = .ok (.bipush 10, 2) := by decide +kernel
theorem dX2_spanTo_11 : decode cX2_spanTo 11 = .ok (.ireturn, 1) := by decide +kernel
theorem dX2_spanTo_12 : decode cX2_spanTo 12 = .ok (.aload_n 0, 1) := by decide +kernel
theorem dX2_spanTo_13 : decode cX2_spanTo 13 = .ok (.aload_n 1, 1) := by decide +kernel
theorem dX2_spanTo_14 : decode cX2_spanTo 14 = .ok (.iload_n 2, 1) := by decide +kernel
theorem dX2_spanTo_15 : decode cX2_spanTo 15 = .ok (.iload_n 3, 1) := by decide +kernel
theorem dX2_spanTo_16 : decode cX2_spanTo 16 = .ok (.invokevirtual 91, 3) := by decide +kernel
theorem dX2_spanTo_19 : decode cX2_spanTo 19 = .ok (.istore 4, 2) := by decide +kernel
theorem dX2_spanTo_21 : decode cX2_spanTo 21 = .ok (.iload 4, 2) := by decide +kernel
theorem dX2_spanTo_23 : decode cX2_spanTo 23 = .ok (.aload_n 0, 1) := by decide +kernel
theorem dX2_spanTo_24 : decode cX2_spanTo 24 = .ok (.getfield 21, 3) := by decide +kernel
theorem dX2_spanTo_27 : decode cX2_spanTo 27 = .ok (.iload_n 3, 1) := by decide +kernel
theorem dX2_spanTo_28 : decode cX2_spanTo 28 = .ok (.iaload, 1) := by decide +kernel
theorem dX2_spanTo_29 : decode cX2_spanTo 29 = .ok (.if_icmp .le 8, 3) := by decide +kernel
theorem dX2_spanTo_32 : decode cX2_spanTo 32 = .ok (.bipush 10, 2) := by decide +kernel
theorem dX2_spanTo_34 : decode cX2_spanTo 34 = .ok (.goto 7, 3) := by decide +kernel
theorem dX2_spanTo_37 : decode cX2_spanTo 37 = .ok (.iload 4, 2) := by decide +kernel
theorem dX2_spanTo_39 : decode cX2_spanTo 39 = .ok (.iconst 1, 1) := by decide +kernel
theorem dX2_spanTo_40 : decode cX2_spanTo 40 = .ok (.isub, 1) := by decide +kernel
theorem dX2_spanTo_41 : decode cX2_spanTo 41 = .ok (.ireturn, 1) := by decide +kernel
theorem dX3_init_0 : decode cX3_init 0 = .ok (.aload_n 0, 1) := by decide +kernel
theorem dX3_init_1 : decode cX3_init 1 = .ok (.invokespecial 3, 3) := by decide +kernel
theorem dX3_init_4 : decode cX3_init 4 = .ok (.aload_n 0, 1) := by decide +kernel
theorem dX3_init_5 : decode cX3_init 5 = .ok (.iconst 5, 1) := by decide +kernel
theorem dX3_init_6 : decode cX3_init 6 = .ok (.newarray .int, 2) := by decide +kernel
theorem dX3_init_8 : decode cX3_init 8 = .ok (.putfield 9, 3) := by decide +kernel
theorem dX3_init_11 : decode cX3_init 11 = .ok (.aload_n 0, 1) := by decide +kernel
theorem dX3_init_12 : decode cX3_init 12 = .ok (.iconst 5, 1) := by decide +kernel
theorem dX3_init_13 : decode cX3_init 13 = .ok (.newarray .int, 2) := by decide +kernel
theorem dX3_init_15 : decode cX3_init 15 = .ok (.putfield 15, 3) := by decide +kernel
theorem dX3_init_18 : decode cX3_init 18 = .ok (.aload_n 0, 1) := by decide +kernel
theorem dX3_init_19 : decode cX3_init 19 = .ok (.iconst 3, 1) := by decide +kernel
theorem dX3_init_20 : decode cX3_init 20 = .ok (.newarray .int, 2) := by decide +kernel
theorem dX3_init_22 : decode cX3_init 22 = .ok (.putfield 18, 3) := by decide +kernel
theorem dX3_init_25 : decode cX3_init 25 = .ok (.aload_n 0, 1) := by decide +kernel
theorem dX3_init_26 : decode cX3_init 26 = .ok (.bipush 6, 2) := by decide +kernel
theorem dX3_init_28 : decode cX3_init 28 = .ok (.newarray .int, 2) := by decide +kernel
theorem dX3_init_30 : decode cX3_init 30 = .ok (.putfield 21, 3) := by decide +kernel
theorem dX3_init_33 : decode cX3_init 33 = .ok (.return_, 1) := by decide +kernel
theorem dX3_search_0 : decode cX3_search 0 = .ok (.aload_n 1, 1) := by decide +kernel
theorem dX3_search_1 : decode cX3_search 1 = .ok (.getfield 24, 3) := by decide +kernel
theorem dX3_search_4 : decode cX3_search 4 = .ok (.iconst 0, 1) := by decide +kernel
theorem dX3_search_5 : decode cX3_search 5 = .ok (.aload_n 0, 1) := by decide +kernel
theorem dX3_search_6 : decode cX3_search 6 = .ok (.getfield 18, 3) := by decide +kernel
theorem dX3_search_9 : decode cX3_search 9 = .ok (.iconst 0, 1) := by decide +kernel
theorem dX3_search_10 : decode cX3_search 10 = .ok (.iconst 3, 1) := by decide +kernel
theorem dX3_search_11 : decode cX3_search 11 = .ok (.invokestatic 29, 3) := by decide +kernel
theorem dX3_search_14 : decode cX3_search 14 = .ok (.aload_n 0, 1) := by decide +kernel
theorem dX3_search_15 : decode cX3_search 15 = .ok (.getfield 21, 3) := by decide +kernel
theorem dX3_search_18 : decode cX3_search 18 = .ok (.aload_n 1, 1) := by decide +kernel
theorem dX3_search_19 : decode cX3_search 19 = .ok (.getfield 35, 3) := by decide +kernel
theorem dX3_search_22 : decode cX3_search 22 = .ok (.iconst 0, 1) := by decide +kernel
theorem dX3_search_23 : decode cX3_search 23 = .ok (.iastore, 1) := by decide +kernel
theorem dX3_search_24 : decode cX3_search 24 = .ok (.aload_n 1, 1) := by decide +kernel
theorem dX3_search_25 : decode cX3_search 25 = .ok (.getfield 35, 3) := by decide +kernel
theorem dX3_search_28 : decode cX3_search 28 = .ok (.iconst 1, 1) := by decide +kernel
theorem dX3_search_29 : decode cX3_search 29 = .ok (.isub, 1) := by decide +kernel
theorem dX3_search_30 : decode cX3_search 30 = .ok (.istore_n 3, 1) := by decide +kernel
theorem dX3_search_31 : decode cX3_search 31 = .ok (.iload_n 3, 1) := by decide +kernel
theorem dX3_search_32 : decode cX3_search 32 = .ok (.ifCond .lt 38, 3) := by decide +kernel
theorem dX3_search_35 : decode cX3_search 35 = .ok (.aload_n 0, 1) := by decide +kernel
theorem dX3_search_36 : decode cX3_search 36 = .ok (.getfield 21, 3) := by decide +kernel
theorem dX3_search_39 : decode cX3_search 39 = .ok (.iload_n 3, 1) := by decide +kernel
theorem dX3_search_40 : decode cX3_search 40 = .ok (.aload_n 0, 1) := by decide +kernel
theorem dX3_search_41 : decode cX3_search 41 = .ok (.getfield 21, 3) := by decide +kernel
theorem dX3_search_44 : decode cX3_search 44 = .ok (.iload_n 3, 1) := by decide +kernel
theorem dX3_search_45 : decode cX3_search 45 = .ok (.iconst 1, 1) := by decide +kernel
theorem dX3_search_46 : decode cX3_search 46 = .ok (.iadd, 1) := by decide +kernel
theorem dX3_search_47 : decode cX3_search 47 = .ok (.iaload, 1) := by decide +kernel
theorem dX3_search_48 : decode cX3_search 48 = .ok (.iload_n 3, 1) := by decide +kernel
theorem dX3_search_49 : decode cX3_search 49 = .ok (.iload_n 2, 1) := by decide +kernel
theorem dX3_search_50 : decode cX3_search 50 = .ok (.if_icmp .ne 7, 3) := by decide +kernel
theorem dX3_search_53 : decode cX3_search 53 = .ok (.iconst 0, 1) := by decide +kernel
theorem dX3_search_54 : decode cX3_search 54 = .ok (.goto 8, 3) := by decide +kernel
theorem dX3_search_57 : decode cX3_search 57 = .ok (.aload_n 1, 1) := by decide +kernel
theorem dX3_search_58 : decode cX3_search 58 = .ok (.iload_n 3, 1) := by decide +kernel
theorem dX3_search_59 : decode cX3_search 59 = .ok (.invokestatic 39, 3) := by decide +kernel
theorem dX3_search_62 : decode cX3_search 62 = .ok (.iadd, 1) := by decide +kernel
theorem dX3_search_63 : decode cX3_search 63 = .ok (.iastore, 1) := by decide +kernel
theorem dX3_search_64 : decode cX3_search 64 = .ok (.iinc 3 (-1), 3) := by decide +kernel
theorem dX3_search_67 : decode cX3_search 67 = .ok (.goto (-36), 3) := by decide +kernel
theorem dX3_search_70 : decode cX3_search 70 = .ok (.aload_n 0, 1) := by decide +kernel
theorem dX3_search_71 : decode cX3_search 71 = .ok (.iconst (-1), 1) := by decide +kernel
theorem dX3_search_72 : decode cX3_search 72 = .ok (.putfield 43, 3) := by decide +kernel
theorem dX3_search_75 : decode cX3_search 75 = .ok (.aload_n 0, 1) := by decide +kernel
theorem dX3_search_76 : decode cX3_search 76 = .ok (.aload_n 1, 1) := by decide +kernel
theorem dX3_search_77 : decode cX3_search 77 = .ok (.iload_n 2, 1) := by decide +kernel
theorem dX3_search_78 : decode cX3_search 78 = .ok (.iconst 0, 1) := by decide +kernel
theorem dX3_search_79 : decode cX3_search 79 = .ok (.iconst 0, 1) := by decide +kernel
theorem dX3_search_80 : decode cX3_search 80 = .ok (.invokestatic 46, 3) := by decide +kernel
theorem dX3_search_83 : decode cX3_search 83 = .ok (.return_, 1) := by decide +kernel
theorem dX3_mostWantOf_0 : decode cX3_mostWantOf 0 = .ok (.iconst 0, 1) := by decide +kernel
theorem dX3_mostWantOf_1 : decode cX3_mostWantOf 1 = .ok (.istore_n 2, 1) := by decide +kernel
theorem dX3_mostWantOf_2 : decode cX3_mostWantOf 2 = .ok (.iconst 0, 1) := by decide +kernel
theorem dX3_mostWantOf_3 : decode cX3_mostWantOf 3 = .ok (.istore_n 3, 1) := by decide +kernel
theorem dX3_mostWantOf_4 : decode cX3_mostWantOf 4 = .ok (.iload_n 3, 1) := by decide +kernel
theorem dX3_mostWantOf_5 : decode cX3_mostWantOf 5 = .ok (.aload_n 0, 1) := by decide +kernel
theorem dX3_mostWantOf_6 : decode cX3_mostWantOf 6 = .ok (.getfield 50, 3) := by decide +kernel
theorem dX3_mostWantOf_9 : decode cX3_mostWantOf 9 = .ok (.if_icmp .ge 22, 3) := by decide +kernel
theorem dX3_mostWantOf_12 : decode cX3_mostWantOf 12 = .ok (.iload_n 2, 1) := by decide +kernel
theorem dX3_mostWantOf_13 : decode cX3_mostWantOf 13 = .ok (.aload_n 0, 1) := by decide +kernel
theorem dX3_mostWantOf_14 : decode cX3_mostWantOf 14 = .ok (.getfield 53, 3) := by decide +kernel
theorem dX3_mostWantOf_17 : decode cX3_mostWantOf 17 = .ok (.iload_n 1, 1) := by decide +kernel
theorem dX3_mostWantOf_18 : decode cX3_mostWantOf 18 = .ok (.aaload, 1) := by decide +kernel
theorem dX3_mostWantOf_19 : decode cX3_mostWantOf 19 = .ok (.iload_n 3, 1) := by decide +kernel
theorem dX3_mostWantOf_20 : decode cX3_mostWantOf 20 = .ok (.iaload, 1) := by decide +kernel
theorem dX3_mostWantOf_21 : decode cX3_mostWantOf 21 = .ok (.invokestatic 57, 3) := by decide +kernel
theorem dX3_mostWantOf_24 : decode cX3_mostWantOf 24 = .ok (.istore_n 2, 1) := by decide +kernel
theorem dX3_mostWantOf_25 : decode cX3_mostWantOf 25 = .ok (.iinc 3 1, 3) := by decide +kernel
theorem dX3_mostWantOf_28 : decode cX3_mostWantOf 28 = .ok (.goto (-24), 3) := by decide +kernel
theorem dX3_mostWantOf_31 : decode cX3_mostWantOf 31 = .ok (.iload_n 2, 1) := by decide +kernel
theorem dX3_mostWantOf_32 : decode cX3_mostWantOf 32 = .ok (.ireturn, 1) := by decide +kernel
theorem dX3_place_0 : decode cX3_place 0 = .ok (.iload_n 3, 1) := by decide +kernel
theorem dX3_place_1 : decode cX3_place 1 = .ok (.iconst 5, 1) := by decide +kernel
theorem dX3_place_2 : decode cX3_place 2 = .ok (.if_icmp .gt 19, 3) := by decide +kernel
theorem dX3_place_5 : decode cX3_place 5 = .ok (.iload 4, 2) := by decide +kernel
theorem dX3_place_7 : decode cX3_place 7 = .ok (.aload_n 0, 1) := by decide +kernel
theorem dX3_place_8 : decode cX3_place 8 = .ok (.getfield 21, 3) := by decide +kernel
theorem dX3_place_11 : decode cX3_place 11 = .ok (.iload_n 3, 1) := by decide +kernel
theorem dX3_place_12 : decode cX3_place 12 = .ok (.iaload, 1) := by decide +kernel
theorem dX3_place_13 : decode cX3_place 13 = .ok (.iadd, 1) := by decide +kernel
theorem dX3_place_14 : decode cX3_place 14 = .ok (.aload_n 0, 1) := by decide +kernel
theorem dX3_place_15 : decode cX3_place 15 = .ok (.getfield 43, 3) := by decide +kernel
theorem dX3_place_18 : decode cX3_place 18 = .ok (.if_icmp .gt 4, 3) := by decide +kernel
theorem dX3_place_21 : decode cX3_place 21 = .ok (.return_, 1) := by decide +kernel
theorem dX3_place_22 : decode cX3_place 22 = .ok (.iload_n 3, 1) := by decide +kernel
theorem dX3_place_23 : decode cX3_place 23 = .ok (.aload_n 1, 1) := by decide +kernel
theorem dX3_place_24 : decode cX3_place 24 = .ok (.getfield 35, 3) := by decide +kernel
theorem dX3_place_27 : decode cX3_place 27 = .ok (.if_icmp .lt 24, 3) := by decide +kernel
theorem dX3_place_30 : decode cX3_place 30 = .ok (.aload_n 0, 1) := by decide +kernel
theorem dX3_place_31 : decode cX3_place 31 = .ok (.iload 4, 2) := by decide +kernel
theorem dX3_place_33 : decode cX3_place 33 = .ok (.putfield 43, 3) := by decide +kernel
theorem dX3_place_36 : decode cX3_place 36 = .ok (.aload_n 0, 1) := by decide +kernel
theorem dX3_place_37 : decode cX3_place 37 = .ok (.getfield 15, 3) := by decide +kernel
theorem dX3_place_40 : decode cX3_place 40 = .ok (.iconst 0, 1) := by decide +kernel
theorem dX3_place_41 : decode cX3_place 41 = .ok (.aload_n 0, 1) := by decide +kernel
theorem dX3_place_42 : decode cX3_place 42 = .ok (.getfield 9, 3) := by decide +kernel
theorem dX3_place_45 : decode cX3_place 45 = .ok (.iconst 0, 1) := by decide +kernel
theorem dX3_place_46 : decode cX3_place 46 = .ok (.iconst 5, 1) := by decide +kernel
theorem dX3_place_47 : decode cX3_place 47 = .ok (.invokestatic 29, 3) := by decide +kernel
theorem dX3_place_50 : decode cX3_place 50 = .ok (.return_, 1) := by decide +kernel
theorem dX3_place_51 : decode cX3_place 51 = .ok (.iconst 0, 1) := by decide +kernel
theorem dX3_place_52 : decode cX3_place 52 = .ok (.istore 5, 2) := by decide +kernel
theorem dX3_place_54 : decode cX3_place 54 = .ok (.iload 5, 2) := by decide +kernel
theorem dX3_place_56 : decode cX3_place 56 = .ok (.aload_n 1, 1) := by decide +kernel
theorem dX3_place_57 : decode cX3_place 57 = .ok (.getfield 50, 3) := by decide +kernel
theorem dX3_place_60 : decode cX3_place 60 = .ok (.if_icmp .ge 75, 3) := by decide +kernel
theorem dX3_place_63 : decode cX3_place 63 = .ok (.iload_n 3, 1) := by decide +kernel
theorem dX3_place_64 : decode cX3_place 64 = .ok (.iload_n 2, 1) := by decide +kernel
theorem dX3_place_65 : decode cX3_place 65 = .ok (.if_icmp .eq 70, 3) := by decide +kernel
theorem dX3_place_68 : decode cX3_place 68 = .ok (.aload_n 0, 1) := by decide +kernel
theorem dX3_place_69 : decode cX3_place 69 = .ok (.getfield 18, 3) := by decide +kernel
theorem dX3_place_72 : decode cX3_place 72 = .ok (.iload 5, 2) := by decide +kernel
theorem dX3_place_74 : decode cX3_place 74 = .ok (.iaload, 1) := by decide +kernel
theorem dX3_place_75 : decode cX3_place 75 = .ok (.ifCond .le 54, 3) := by decide +kernel
theorem dX3_place_78 : decode cX3_place 78 = .ok (.aload_n 0, 1) := by decide +kernel
theorem dX3_place_79 : decode cX3_place 79 = .ok (.getfield 18, 3) := by decide +kernel
theorem dX3_place_82 : decode cX3_place 82 = .ok (.iload 5, 2) := by decide +kernel
theorem dX3_place_84 : decode cX3_place 84 = .ok (.dup2, 1) := by decide +kernel
theorem dX3_place_85 : decode cX3_place 85 = .ok (.iaload, 1) := by decide +kernel
theorem dX3_place_86 : decode cX3_place 86 = .ok (.iconst 1, 1) := by decide +kernel
theorem dX3_place_87 : decode cX3_place 87 = .ok (.isub, 1) := by decide +kernel
theorem dX3_place_88 : decode cX3_place 88 = .ok (.iastore, 1) := by decide +kernel
theorem dX3_place_89 : decode cX3_place 89 = .ok (.aload_n 0, 1) := by decide +kernel
theorem dX3_place_90 : decode cX3_place 90 = .ok (.getfield 15, 3) := by decide +kernel
theorem dX3_place_93 : decode cX3_place 93 = .ok (.iload_n 3, 1) := by decide +kernel
theorem dX3_place_94 : decode cX3_place 94 = .ok (.iload 5, 2) := by decide +kernel
theorem dX3_place_96 : decode cX3_place 96 = .ok (.iastore, 1) := by decide +kernel
theorem dX3_place_97 : decode cX3_place 97 = .ok (.aload_n 0, 1) := by decide +kernel
theorem dX3_place_98 : decode cX3_place 98 = .ok (.aload_n 1, 1) := by decide +kernel
theorem dX3_place_99 : decode cX3_place 99 = .ok (.iload_n 2, 1) := by decide +kernel
theorem dX3_place_100 : decode cX3_place 100 = .ok (.iload_n 3, 1) := by decide +kernel
theorem dX3_place_101 : decode cX3_place 101 = .ok (.iconst 1, 1) := by decide +kernel
theorem dX3_place_102 : decode cX3_place 102 = .ok (.iadd, 1) := by decide +kernel
theorem dX3_place_103 : decode cX3_place 103 = .ok (.iload 4, 2) := by decide +kernel
theorem dX3_place_105 : decode cX3_place 105 = .ok (.aload_n 1, 1) := by decide +kernel
theorem dX3_place_106 : decode cX3_place 106 = .ok (.getfield 53, 3) := by decide +kernel
theorem dX3_place_109 : decode cX3_place 109 = .ok (.iload_n 3, 1) := by decide +kernel
theorem dX3_place_110 : decode cX3_place 110 = .ok (.aaload, 1) := by decide +kernel
theorem dX3_place_111 : decode cX3_place 111 = .ok (.iload 5, 2) := by decide +kernel
theorem dX3_place_113 : decode cX3_place 113 = .ok (.iaload, 1) := by decide +kernel
theorem dX3_place_114 : decode cX3_place 114 = .ok (.iadd, 1) := by decide +kernel
theorem dX3_place_115 : decode cX3_place 115 = .ok (.invokestatic 46, 3) := by decide +kernel
theorem dX3_place_118 : decode cX3_place 118 = .ok (.aload_n 0, 1) := by decide +kernel
theorem dX3_place_119 : decode cX3_place 119 = .ok (.getfield 18, 3) := by decide +kernel
theorem dX3_place_122 : decode cX3_place 122 = .ok (.iload 5, 2) := by decide +kernel
theorem dX3_place_124 : decode cX3_place 124 = .ok (.dup2, 1) := by decide +kernel
theorem dX3_place_125 : decode cX3_place 125 = .ok (.iaload, 1) := by decide +kernel
theorem dX3_place_126 : decode cX3_place 126 = .ok (.iconst 1, 1) := by decide +kernel
theorem dX3_place_127 : decode cX3_place 127 = .ok (.iadd, 1) := by decide +kernel
theorem dX3_place_128 : decode cX3_place 128 = .ok (.iastore, 1) := by decide +kernel
theorem dX3_place_129 : decode cX3_place 129 = .ok (.iinc 5 1, 3) := by decide +kernel
theorem dX3_place_132 : decode cX3_place 132 = .ok (.goto (-78), 3) := by decide +kernel
theorem dX3_place_135 : decode cX3_place 135 = .ok (.aload_n 0, 1) := by decide +kernel
theorem dX3_place_136 : decode cX3_place 136 = .ok (.getfield 15, 3) := by decide +kernel
theorem dX3_place_139 : decode cX3_place 139 = .ok (.iload_n 3, 1) := by decide +kernel
theorem dX3_place_140 : decode cX3_place 140 = .ok (.bipush (-4), 2) := by decide +kernel
theorem dX3_place_142 : decode cX3_place 142 = .ok (.iastore, 1) := by decide +kernel
theorem dX3_place_143 : decode cX3_place 143 = .ok (.aload_n 0, 1) := by decide +kernel
theorem dX3_place_144 : decode cX3_place 144 = .ok (.aload_n 1, 1) := by decide +kernel
theorem dX3_place_145 : decode cX3_place 145 = .ok (.iload_n 2, 1) := by decide +kernel
theorem dX3_place_146 : decode cX3_place 146 = .ok (.iload_n 3, 1) := by decide +kernel
theorem dX3_place_147 : decode cX3_place 147 = .ok (.iconst 1, 1) := by decide +kernel
theorem dX3_place_148 : decode cX3_place 148 = .ok (.iadd, 1) := by decide +kernel
theorem dX3_place_149 : decode cX3_place 149 = .ok (.iload 4, 2) := by decide +kernel
theorem dX3_place_151 : decode cX3_place 151 = .ok (.invokestatic 46, 3) := by decide +kernel
theorem dX3_place_154 : decode cX3_place 154 = .ok (.return_, 1) := by decide +kernel
theorem dX4_init_0 : decode cX4_init 0 = .ok (.aload_n 0, 1) := by decide +kernel
theorem dX4_init_1 : decode cX4_init 1 = .ok (.invokespecial 3, 3) := by decide +kernel
theorem dX4_init_4 : decode cX4_init 4 = .ok (.aload_n 0, 1) := by decide +kernel
theorem dX4_init_5 : decode cX4_init 5 = .ok (.iconst 3, 1) := by decide +kernel
theorem dX4_init_6 : decode cX4_init 6 = .ok (.newarray .int, 2) := by decide +kernel
theorem dX4_init_8 : decode cX4_init 8 = .ok (.putfield 9, 3) := by decide +kernel
theorem dX4_init_11 : decode cX4_init 11 = .ok (.aload_n 0, 1) := by decide +kernel
theorem dX4_init_12 : decode cX4_init 12 = .ok (.iconst 5, 1) := by decide +kernel
theorem dX4_init_13 : decode cX4_init 13 = .ok (.newarray .int, 2) := by decide +kernel
theorem dX4_init_15 : decode cX4_init 15 = .ok (.putfield 15, 3) := by decide +kernel
theorem dX4_init_18 : decode cX4_init 18 = .ok (.aload_n 0, 1) := by decide +kernel
theorem dX4_init_19 : decode cX4_init 19 = .ok (.iconst 5, 1) := by decide +kernel
theorem dX4_init_20 : decode cX4_init 20 = .ok (.iconst 3, 1) := by decide +kernel
theorem dX4_init_21 : decode cX4_init 21 = .ok (.multianewarray 18 2, 4) := by decide +kernel
theorem dX4_init_25 : decode cX4_init 25 = .ok (.putfield 20, 3) := by decide +kernel
theorem dX4_init_28 : decode cX4_init 28 = .ok (.aload_n 0, 1) := by decide +kernel
theorem dX4_init_29 : decode cX4_init 29 = .ok (.bipush 7, 2) := by decide +kernel
theorem dX4_init_31 : decode cX4_init 31 = .ok (.newarray .int, 2) := by decide +kernel
theorem dX4_init_33 : decode cX4_init 33 = .ok (.putfield 23, 3) := by decide +kernel
theorem dX4_init_36 : decode cX4_init 36 = .ok (.return_, 1) := by decide +kernel
theorem dX4_clear_0 : decode cX4_clear 0 = .ok (.aload_n 0, 1) := by decide +kernel
theorem dX4_clear_1 : decode cX4_clear 1 = .ok (.iconst 0, 1) := by decide +kernel
theorem dX4_clear_2 : decode cX4_clear 2 = .ok (.putfield 26, 3) := by decide +kernel
theorem dX4_clear_5 : decode cX4_clear 5 = .ok (.aload_n 0, 1) := by decide +kernel
theorem dX4_clear_6 : decode cX4_clear 6 = .ok (.iconst 0, 1) := by decide +kernel
theorem dX4_clear_7 : decode cX4_clear 7 = .ok (.putfield 30, 3) := by decide +kernel
theorem dX4_clear_10 : decode cX4_clear 10 = .ok (.aload_n 0, 1) := by decide +kernel
theorem dX4_clear_11 : decode cX4_clear 11 = .ok (.getfield 23, 3) := by decide +kernel
theorem dX4_clear_14 : decode cX4_clear 14 = .ok (.iconst 5, 1) := by decide +kernel
theorem dX4_clear_15 : decode cX4_clear 15 = .ok (.iconst 0, 1) := by decide +kernel
theorem dX4_clear_16 : decode cX4_clear 16 = .ok (.iastore, 1) := by decide +kernel
theorem dX4_clear_17 : decode cX4_clear 17 = .ok (.aload_n 0, 1) := by decide +kernel
theorem dX4_clear_18 : decode cX4_clear 18 = .ok (.getfield 23, 3) := by decide +kernel
theorem dX4_clear_21 : decode cX4_clear 21 = .ok (.bipush 6, 2) := by decide +kernel
theorem dX4_clear_23 : decode cX4_clear 23 = .ok (.iconst 1, 1) := by decide +kernel
theorem dX4_clear_24 : decode cX4_clear 24 = .ok (.iastore, 1) := by decide +kernel
theorem dX4_clear_25 : decode cX4_clear 25 = .ok (.return_, 1) := by decide +kernel
theorem dX4_copyFrom_0 : decode cX4_copyFrom 0 = .ok (.aload_n 0, 1) := by decide +kernel
theorem dX4_copyFrom_1 : decode cX4_copyFrom 1 = .ok (.aload_n 1, 1) := by decide +kernel
theorem dX4_copyFrom_2 : decode cX4_copyFrom 2 = .ok (.getfield 26, 3) := by decide +kernel
theorem dX4_copyFrom_5 : decode cX4_copyFrom 5 = .ok (.putfield 26, 3) := by decide +kernel
theorem dX4_copyFrom_8 : decode cX4_copyFrom 8 = .ok (.aload_n 0, 1) := by decide +kernel
theorem dX4_copyFrom_9 : decode cX4_copyFrom 9 = .ok (.aload_n 1, 1) := by decide +kernel
theorem dX4_copyFrom_10 : decode cX4_copyFrom 10 = .ok (.getfield 30, 3) := by decide +kernel
theorem dX4_copyFrom_13 : decode cX4_copyFrom 13 = .ok (.putfield 30, 3) := by decide +kernel
theorem dX4_copyFrom_16 : decode cX4_copyFrom 16 = .ok (.aload_n 1, 1) := by decide +kernel
theorem dX4_copyFrom_17 : decode cX4_copyFrom 17 = .ok (.getfield 9, 3) := by decide +kernel
theorem dX4_copyFrom_20 : decode cX4_copyFrom 20 = .ok (.iconst 0, 1) := by decide +kernel
theorem dX4_copyFrom_21 : decode cX4_copyFrom 21 = .ok (.aload_n 0, 1) := by decide +kernel
theorem dX4_copyFrom_22 : decode cX4_copyFrom 22 = .ok (.getfield 9, 3) := by decide +kernel
theorem dX4_copyFrom_25 : decode cX4_copyFrom 25 = .ok (.iconst 0, 1) := by decide +kernel
theorem dX4_copyFrom_26 : decode cX4_copyFrom 26 = .ok (.iconst 3, 1) := by decide +kernel
theorem dX4_copyFrom_27 : decode cX4_copyFrom 27 = .ok (.invokestatic 33, 3) := by decide +kernel
theorem dX4_copyFrom_30 : decode cX4_copyFrom 30 = .ok (.aload_n 1, 1) := by decide +kernel
theorem dX4_copyFrom_31 : decode cX4_copyFrom 31 = .ok (.getfield 15, 3) := by decide +kernel
theorem dX4_copyFrom_34 : decode cX4_copyFrom 34 = .ok (.iconst 0, 1) := by decide +kernel
theorem dX4_copyFrom_35 : decode cX4_copyFrom 35 = .ok (.aload_n 0, 1) := by decide +kernel
theorem dX4_copyFrom_36 : decode cX4_copyFrom 36 = .ok (.getfield 15, 3) := by decide +kernel
theorem dX4_copyFrom_39 : decode cX4_copyFrom 39 = .ok (.iconst 0, 1) := by decide +kernel
theorem dX4_copyFrom_40 : decode cX4_copyFrom 40 = .ok (.iconst 5, 1) := by decide +kernel
theorem dX4_copyFrom_41 : decode cX4_copyFrom 41 = .ok (.invokestatic 33, 3) := by decide +kernel
theorem dX4_copyFrom_44 : decode cX4_copyFrom 44 = .ok (.aload_n 1, 1) := by decide +kernel
theorem dX4_copyFrom_45 : decode cX4_copyFrom 45 = .ok (.getfield 23, 3) := by decide +kernel
theorem dX4_copyFrom_48 : decode cX4_copyFrom 48 = .ok (.iconst 0, 1) := by decide +kernel
theorem dX4_copyFrom_49 : decode cX4_copyFrom 49 = .ok (.aload_n 0, 1) := by decide +kernel
theorem dX4_copyFrom_50 : decode cX4_copyFrom 50 = .ok (.getfield 23, 3) := by decide +kernel
theorem dX4_copyFrom_53 : decode cX4_copyFrom 53 = .ok (.iconst 0, 1) := by decide +kernel
theorem dX4_copyFrom_54 : decode cX4_copyFrom 54 = .ok (.bipush 7, 2) := by decide +kernel
theorem dX4_copyFrom_56 : decode cX4_copyFrom 56 = .ok (.invokestatic 33, 3) := by decide +kernel
theorem dX4_copyFrom_59 : decode cX4_copyFrom 59 = .ok (.iconst 0, 1) := by decide +kernel
theorem dX4_copyFrom_60 : decode cX4_copyFrom 60 = .ok (.istore_n 2, 1) := by decide +kernel
theorem dX4_copyFrom_61 : decode cX4_copyFrom 61 = .ok (.iload_n 2, 1) := by decide +kernel
theorem dX4_copyFrom_62 : decode cX4_copyFrom 62 = .ok (.aload_n 0, 1) := by decide +kernel
theorem dX4_copyFrom_63 : decode cX4_copyFrom 63 = .ok (.getfield 30, 3) := by decide +kernel
theorem dX4_copyFrom_66 : decode cX4_copyFrom 66 = .ok (.if_icmp .ge 27, 3) := by decide +kernel
theorem dX4_copyFrom_69 : decode cX4_copyFrom 69 = .ok (.aload_n 1, 1) := by decide +kernel
theorem dX4_copyFrom_70 : decode cX4_copyFrom 70 = .ok (.getfield 20, 3) := by decide +kernel
theorem dX4_copyFrom_73 : decode cX4_copyFrom 73 = .ok (.iload_n 2, 1) := by decide +kernel
theorem dX4_copyFrom_74 : decode cX4_copyFrom 74 = .ok (.aaload, 1) := by decide +kernel
theorem dX4_copyFrom_75 : decode cX4_copyFrom 75 = .ok (.iconst 0, 1) := by decide +kernel
theorem dX4_copyFrom_76 : decode cX4_copyFrom 76 = .ok (.aload_n 0, 1) := by decide +kernel
theorem dX4_copyFrom_77 : decode cX4_copyFrom 77 = .ok (.getfield 20, 3) := by decide +kernel
theorem dX4_copyFrom_80 : decode cX4_copyFrom 80 = .ok (.iload_n 2, 1) := by decide +kernel
theorem dX4_copyFrom_81 : decode cX4_copyFrom 81 = .ok (.aaload, 1) := by decide +kernel
theorem dX4_copyFrom_82 : decode cX4_copyFrom 82 = .ok (.iconst 0, 1) := by decide +kernel
theorem dX4_copyFrom_83 : decode cX4_copyFrom 83 = .ok (.iconst 3, 1) := by decide +kernel
theorem dX4_copyFrom_84 : decode cX4_copyFrom 84 = .ok (.invokestatic 33, 3) := by decide +kernel
theorem dX4_copyFrom_87 : decode cX4_copyFrom 87 = .ok (.iinc 2 1, 3) := by decide +kernel
theorem dX4_copyFrom_90 : decode cX4_copyFrom 90 = .ok (.goto (-29), 3) := by decide +kernel
theorem dX4_copyFrom_93 : decode cX4_copyFrom 93 = .ok (.return_, 1) := by decide +kernel
theorem dX4_hasMaster_0 : decode cX4_hasMaster 0 = .ok (.iload_n 1, 1) := by decide +kernel
theorem dX4_hasMaster_1 : decode cX4_hasMaster 1 = .ok (.ifCond .lt 15, 3) := by decide +kernel
theorem dX4_hasMaster_4 : decode cX4_hasMaster 4 = .ok (.iload_n 1, 1) := by decide +kernel
theorem dX4_hasMaster_5 : decode cX4_hasMaster 5 = .ok (.aload_n 0, 1) := by decide +kernel
theorem dX4_hasMaster_6 : decode cX4_hasMaster 6 = .ok (.getfield 26, 3) := by decide +kernel
theorem dX4_hasMaster_9 : decode cX4_hasMaster 9 = .ok (.if_icmp .ge 7, 3) := by decide +kernel
theorem dX4_hasMaster_12 : decode cX4_hasMaster 12 = .ok (.iconst 1, 1) := by decide +kernel
theorem dX4_hasMaster_13 : decode cX4_hasMaster 13 = .ok (.goto 4, 3) := by decide +kernel
theorem dX4_hasMaster_16 : decode cX4_hasMaster 16 = .ok (.iconst 0, 1) := by decide +kernel
theorem dX4_hasMaster_17 : decode cX4_hasMaster 17 = .ok (.ireturn, 1) := by decide +kernel
theorem dX4_hasLad_0 : decode cX4_hasLad 0 = .ok (.iload_n 1, 1) := by decide +kernel
theorem dX4_hasLad_1 : decode cX4_hasLad 1 = .ok (.ifCond .lt 15, 3) := by decide +kernel
theorem dX4_hasLad_4 : decode cX4_hasLad 4 = .ok (.iload_n 1, 1) := by decide +kernel
theorem dX4_hasLad_5 : decode cX4_hasLad 5 = .ok (.aload_n 0, 1) := by decide +kernel
theorem dX4_hasLad_6 : decode cX4_hasLad 6 = .ok (.getfield 30, 3) := by decide +kernel
theorem dX4_hasLad_9 : decode cX4_hasLad 9 = .ok (.if_icmp .ge 7, 3) := by decide +kernel
theorem dX4_hasLad_12 : decode cX4_hasLad 12 = .ok (.iconst 1, 1) := by decide +kernel
theorem dX4_hasLad_13 : decode cX4_hasLad 13 = .ok (.goto 4, 3) := by decide +kernel
theorem dX4_hasLad_16 : decode cX4_hasLad 16 = .ok (.iconst 0, 1) := by decide +kernel
theorem dX4_hasLad_17 : decode cX4_hasLad 17 = .ok (.ireturn, 1) := by decide +kernel
theorem dX4_addMaster_0 : decode cX4_addMaster 0 = .ok (.aload_n 0, 1) := by decide +kernel
theorem dX4_addMaster_1 : decode cX4_addMaster 1 = .ok (.getfield 26, 3) := by decide +kernel
theorem dX4_addMaster_4 : decode cX4_addMaster 4 = .ok (.iconst 3, 1) := by decide +kernel
theorem dX4_addMaster_5 : decode cX4_addMaster 5 = .ok (.if_icmp .ge 12, 3) := by decide +kernel
theorem dX4_addMaster_8 : decode cX4_addMaster 8 = .ok (.iload_n 1, 1) := by decide +kernel
theorem dX4_addMaster_9 : decode cX4_addMaster 9 = .ok (.iconst 1, 1) := by decide +kernel
theorem dX4_addMaster_10 : decode cX4_addMaster 10 = .ok (.iconst 3, 1) := by decide +kernel
theorem dX4_addMaster_11 : decode cX4_addMaster 11 = .ok (.invokestatic 39, 3) := by decide +kernel
theorem dX4_addMaster_14 : decode cX4_addMaster 14 = .ok (.ifCond .ne 5, 3) := by decide +kernel
theorem dX4_addMaster_17 : decode cX4_addMaster 17 = .ok (.iconst 0, 1) := by decide +kernel
theorem dX4_addMaster_18 : decode cX4_addMaster 18 = .ok (.ireturn, 1) := by decide +kernel
theorem dX4_addMaster_19 : decode cX4_addMaster 19 = .ok (.aload_n 0, 1) := by decide +kernel
theorem dX4_addMaster_20 : decode cX4_addMaster 20 = .ok (.getfield 9, 3) := by decide +kernel
theorem dX4_addMaster_23 : decode cX4_addMaster 23 = .ok (.aload_n 0, 1) := by decide +kernel
theorem dX4_addMaster_24 : decode cX4_addMaster 24 = .ok (.getfield 26, 3) := by decide +kernel
theorem dX4_addMaster_27 : decode cX4_addMaster 27 = .ok (.iload_n 1, 1) := by decide +kernel
theorem dX4_addMaster_28 : decode cX4_addMaster 28 = .ok (.iastore, 1) := by decide +kernel
theorem dX4_addMaster_29 : decode cX4_addMaster 29 = .ok (.aload_n 0, 1) := by decide +kernel
theorem dX4_addMaster_30 : decode cX4_addMaster 30 = .ok (.dup, 1) := by decide +kernel
theorem dX4_addMaster_31 : decode cX4_addMaster 31 = .ok (.getfield 26, 3) := by decide +kernel
theorem dX4_addMaster_34 : decode cX4_addMaster 34 = .ok (.iconst 1, 1) := by decide +kernel
theorem dX4_addMaster_35 : decode cX4_addMaster 35 = .ok (.iadd, 1) := by decide +kernel
theorem dX4_addMaster_36 : decode cX4_addMaster 36 = .ok (.putfield 26, 3) := by decide +kernel
theorem dX4_addMaster_39 : decode cX4_addMaster 39 = .ok (.iconst 1, 1) := by decide +kernel
theorem dX4_addMaster_40 : decode cX4_addMaster 40 = .ok (.ireturn, 1) := by decide +kernel
theorem dX4_addLad_0 : decode cX4_addLad 0 = .ok (.aload_n 0, 1) := by decide +kernel
theorem dX4_addLad_1 : decode cX4_addLad 1 = .ok (.getfield 30, 3) := by decide +kernel
theorem dX4_addLad_4 : decode cX4_addLad 4 = .ok (.iconst 5, 1) := by decide +kernel
theorem dX4_addLad_5 : decode cX4_addLad 5 = .ok (.if_icmp .ge 22, 3) := by decide +kernel
theorem dX4_addLad_8 : decode cX4_addLad 8 = .ok (.iload_n 1, 1) := by decide +kernel
theorem dX4_addLad_9 : decode cX4_addLad 9 = .ok (.iconst 1, 1) := by decide +kernel
theorem dX4_addLad_10 : decode cX4_addLad 10 = .ok (.bipush 10, 2) := by decide +kernel
theorem dX4_addLad_12 : decode cX4_addLad 12 = .ok (.invokestatic 39, 3) := by decide +kernel
theorem dX4_addLad_15 : decode cX4_addLad 15 = .ok (.ifCond .eq 12, 3) := by decide +kernel
theorem dX4_addLad_18 : decode cX4_addLad 18 = .ok (.iload_n 2, 1) := by decide +kernel
theorem dX4_addLad_19 : decode cX4_addLad 19 = .ok (.iconst 0, 1) := by decide +kernel
theorem dX4_addLad_20 : decode cX4_addLad 20 = .ok (.iconst 3, 1) := by decide +kernel
theorem dX4_addLad_21 : decode cX4_addLad 21 = .ok (.invokestatic 39, 3) := by decide +kernel
theorem dX4_addLad_24 : decode cX4_addLad 24 = .ok (.ifCond .ne 5, 3) := by decide +kernel
theorem dX4_addLad_27 : decode cX4_addLad 27 = .ok (.iconst 0, 1) := by decide +kernel
theorem dX4_addLad_28 : decode cX4_addLad 28 = .ok (.ireturn, 1) := by decide +kernel
theorem dX4_addLad_29 : decode cX4_addLad 29 = .ok (.aload_n 0, 1) := by decide +kernel
theorem dX4_addLad_30 : decode cX4_addLad 30 = .ok (.getfield 23, 3) := by decide +kernel
theorem dX4_addLad_33 : decode cX4_addLad 33 = .ok (.aload_n 0, 1) := by decide +kernel
theorem dX4_addLad_34 : decode cX4_addLad 34 = .ok (.getfield 30, 3) := by decide +kernel
theorem dX4_addLad_37 : decode cX4_addLad 37 = .ok (.iload_n 1, 1) := by decide +kernel
theorem dX4_addLad_38 : decode cX4_addLad 38 = .ok (.iastore, 1) := by decide +kernel
theorem dX4_addLad_39 : decode cX4_addLad 39 = .ok (.aload_n 0, 1) := by decide +kernel
theorem dX4_addLad_40 : decode cX4_addLad 40 = .ok (.getfield 15, 3) := by decide +kernel
theorem dX4_addLad_43 : decode cX4_addLad 43 = .ok (.aload_n 0, 1) := by decide +kernel
theorem dX4_addLad_44 : decode cX4_addLad 44 = .ok (.getfield 30, 3) := by decide +kernel
theorem dX4_addLad_47 : decode cX4_addLad 47 = .ok (.iload_n 2, 1) := by decide +kernel
theorem dX4_addLad_48 : decode cX4_addLad 48 = .ok (.iastore, 1) := by decide +kernel
theorem dX4_addLad_49 : decode cX4_addLad 49 = .ok (.aload_n 0, 1) := by decide +kernel
theorem dX4_addLad_50 : decode cX4_addLad 50 = .ok (.getfield 20, 3) := by decide +kernel
theorem dX4_addLad_53 : decode cX4_addLad 53 = .ok (.aload_n 0, 1) := by decide +kernel
theorem dX4_addLad_54 : decode cX4_addLad 54 = .ok (.getfield 30, 3) := by decide +kernel
theorem dX4_addLad_57 : decode cX4_addLad 57 = .ok (.aaload, 1) := by decide +kernel
theorem dX4_addLad_58 : decode cX4_addLad 58 = .ok (.iconst 0, 1) := by decide +kernel
theorem dX4_addLad_59 : decode cX4_addLad 59 = .ok (.invokestatic 43, 3) := by decide +kernel
theorem dX4_addLad_62 : decode cX4_addLad 62 = .ok (.aload_n 0, 1) := by decide +kernel
theorem dX4_addLad_63 : decode cX4_addLad 63 = .ok (.dup, 1) := by decide +kernel
theorem dX4_addLad_64 : decode cX4_addLad 64 = .ok (.getfield 30, 3) := by decide +kernel
theorem dX4_addLad_67 : decode cX4_addLad 67 = .ok (.iconst 1, 1) := by decide +kernel
theorem dX4_addLad_68 : decode cX4_addLad 68 = .ok (.iadd, 1) := by decide +kernel
theorem dX4_addLad_69 : decode cX4_addLad 69 = .ok (.putfield 30, 3) := by decide +kernel
theorem dX4_addLad_72 : decode cX4_addLad 72 = .ok (.iconst 1, 1) := by decide +kernel
theorem dX4_addLad_73 : decode cX4_addLad 73 = .ok (.ireturn, 1) := by decide +kernel
theorem dX4_addWant_0 : decode cX4_addWant 0 = .ok (.aload_n 0, 1) := by decide +kernel
theorem dX4_addWant_1 : decode cX4_addWant 1 = .ok (.iload_n 1, 1) := by decide +kernel
theorem dX4_addWant_2 : decode cX4_addWant 2 = .ok (.invokevirtual 49, 3) := by decide +kernel
theorem dX4_addWant_5 : decode cX4_addWant 5 = .ok (.ifCond .eq 21, 3) := by decide +kernel
theorem dX4_addWant_8 : decode cX4_addWant 8 = .ok (.aload_n 0, 1) := by decide +kernel
theorem dX4_addWant_9 : decode cX4_addWant 9 = .ok (.iload_n 2, 1) := by decide +kernel
theorem dX4_addWant_10 : decode cX4_addWant 10 = .ok (.invokevirtual 53, 3) := by decide +kernel
theorem dX4_addWant_13 : decode cX4_addWant 13 = .ok (.ifCond .eq 13, 3) := by decide +kernel
theorem dX4_addWant_16 : decode cX4_addWant 16 = .ok (.iload_n 3, 1) := by decide +kernel
theorem dX4_addWant_17 : decode cX4_addWant 17 = .ok (.iconst 0, 1) := by decide +kernel
theorem dX4_addWant_18 : decode cX4_addWant 18 = .ok (.bipush 10, 2) := by decide +kernel
theorem dX4_addWant_20 : decode cX4_addWant 20 = .ok (.invokestatic 39, 3) := by decide +kernel
theorem dX4_addWant_23 : decode cX4_addWant 23 = .ok (.ifCond .ne 5, 3) := by decide +kernel
theorem dX4_addWant_26 : decode cX4_addWant 26 = .ok (.iconst 0, 1) := by decide +kernel
theorem dX4_addWant_27 : decode cX4_addWant 27 = .ok (.ireturn, 1) := by decide +kernel
theorem dX4_addWant_28 : decode cX4_addWant 28 = .ok (.aload_n 0, 1) := by decide +kernel
theorem dX4_addWant_29 : decode cX4_addWant 29 = .ok (.getfield 20, 3) := by decide +kernel
theorem dX4_addWant_32 : decode cX4_addWant 32 = .ok (.iload_n 1, 1) := by decide +kernel
theorem dX4_addWant_33 : decode cX4_addWant 33 = .ok (.aaload, 1) := by decide +kernel
theorem dX4_addWant_34 : decode cX4_addWant 34 = .ok (.iload_n 2, 1) := by decide +kernel
theorem dX4_addWant_35 : decode cX4_addWant 35 = .ok (.iload_n 3, 1) := by decide +kernel
theorem dX4_addWant_36 : decode cX4_addWant 36 = .ok (.iastore, 1) := by decide +kernel
theorem dX4_addWant_37 : decode cX4_addWant 37 = .ok (.iconst 1, 1) := by decide +kernel
theorem dX4_addWant_38 : decode cX4_addWant 38 = .ok (.ireturn, 1) := by decide +kernel
theorem dX4_tellCalls_0 : decode cX4_tellCalls 0 = .ok (.iload_n 1, 1) := by decide +kernel
theorem dX4_tellCalls_1 : decode cX4_tellCalls 1 = .ok (.iconst 0, 1) := by decide +kernel
theorem dX4_tellCalls_2 : decode cX4_tellCalls 2 = .ok (.iconst 2, 1) := by decide +kernel
theorem dX4_tellCalls_3 : decode cX4_tellCalls 3 = .ok (.invokestatic 39, 3) := by decide +kernel
theorem dX4_tellCalls_6 : decode cX4_tellCalls 6 = .ok (.ifCond .ne 5, 3) := by decide +kernel
theorem dX4_tellCalls_9 : decode cX4_tellCalls 9 = .ok (.iconst 0, 1) := by decide +kernel
theorem dX4_tellCalls_10 : decode cX4_tellCalls 10 = .ok (.ireturn, 1) := by decide +kernel
theorem dX4_tellCalls_11 : decode cX4_tellCalls 11 = .ok (.aload_n 0, 1) := by decide +kernel
theorem dX4_tellCalls_12 : decode cX4_tellCalls 12 = .ok (.getfield 23, 3) := by decide +kernel
theorem dX4_tellCalls_15 : decode cX4_tellCalls 15 = .ok (.iconst 5, 1) := by decide +kernel
theorem dX4_tellCalls_16 : decode cX4_tellCalls 16 = .ok (.iload_n 1, 1) := by decide +kernel
theorem dX4_tellCalls_17 : decode cX4_tellCalls 17 = .ok (.iastore, 1) := by decide +kernel
theorem dX4_tellCalls_18 : decode cX4_tellCalls 18 = .ok (.iconst 1, 1) := by decide +kernel
theorem dX4_tellCalls_19 : decode cX4_tellCalls 19 = .ok (.ireturn, 1) := by decide +kernel
theorem dX4_tellStep_0 : decode cX4_tellStep 0 = .ok (.iload_n 1, 1) := by decide +kernel
theorem dX4_tellStep_1 : decode cX4_tellStep 1 = .ok (.iconst 1, 1) := by decide +kernel
theorem dX4_tellStep_2 : decode cX4_tellStep 2 = .ok (.iconst 3, 1) := by decide +kernel
theorem dX4_tellStep_3 : decode cX4_tellStep 3 = .ok (.invokestatic 39, 3) := by decide +kernel
theorem dX4_tellStep_6 : decode cX4_tellStep 6 = .ok (.ifCond .ne 5, 3) := by decide +kernel
theorem dX4_tellStep_9 : decode cX4_tellStep 9 = .ok (.iconst 0, 1) := by decide +kernel
theorem dX4_tellStep_10 : decode cX4_tellStep 10 = .ok (.ireturn, 1) := by decide +kernel
theorem dX4_tellStep_11 : decode cX4_tellStep 11 = .ok (.aload_n 0, 1) := by decide +kernel
theorem dX4_tellStep_12 : decode cX4_tellStep 12 = .ok (.getfield 23, 3) := by decide +kernel
theorem dX4_tellStep_15 : decode cX4_tellStep 15 = .ok (.bipush 6, 2) := by decide +kernel
theorem dX4_tellStep_17 : decode cX4_tellStep 17 = .ok (.iload_n 1, 1) := by decide +kernel
theorem dX4_tellStep_18 : decode cX4_tellStep 18 = .ok (.iastore, 1) := by decide +kernel
theorem dX4_tellStep_19 : decode cX4_tellStep 19 = .ok (.iconst 1, 1) := by decide +kernel
theorem dX4_tellStep_20 : decode cX4_tellStep 20 = .ok (.ireturn, 1) := by decide +kernel
theorem dX4_stride_0 : decode cX4_stride 0 = .ok (.iconst 1, 1) := by decide +kernel
theorem dX4_stride_1 : decode cX4_stride 1 = .ok (.aload_n 0, 1) := by decide +kernel
theorem dX4_stride_2 : decode cX4_stride 2 = .ok (.getfield 23, 3) := by decide +kernel
theorem dX4_stride_5 : decode cX4_stride 5 = .ok (.bipush 6, 2) := by decide +kernel
theorem dX4_stride_7 : decode cX4_stride 7 = .ok (.iaload, 1) := by decide +kernel
theorem dX4_stride_8 : decode cX4_stride 8 = .ok (.invokestatic 56, 3) := by decide +kernel
theorem dX4_stride_11 : decode cX4_stride 11 = .ok (.ireturn, 1) := by decide +kernel
theorem dX4_boundOf_0 : decode cX4_boundOf 0 = .ok (.aload_n 0, 1) := by decide +kernel
theorem dX4_boundOf_1 : decode cX4_boundOf 1 = .ok (.getfield 20, 3) := by decide +kernel
theorem dX4_boundOf_4 : decode cX4_boundOf 4 = .ok (.iload_n 1, 1) := by decide +kernel
theorem dX4_boundOf_5 : decode cX4_boundOf 5 = .ok (.aaload, 1) := by decide +kernel
theorem dX4_boundOf_6 : decode cX4_boundOf 6 = .ok (.iload_n 2, 1) := by decide +kernel
theorem dX4_boundOf_7 : decode cX4_boundOf 7 = .ok (.iaload, 1) := by decide +kernel
theorem dX4_boundOf_8 : decode cX4_boundOf 8 = .ok (.aload_n 0, 1) := by decide +kernel
theorem dX4_boundOf_9 : decode cX4_boundOf 9 = .ok (.getfield 23, 3) := by decide +kernel
theorem dX4_boundOf_12 : decode cX4_boundOf 12 = .ok (.iload_n 1, 1) := by decide +kernel
theorem dX4_boundOf_13 : decode cX4_boundOf 13 = .ok (.iaload, 1) := by decide +kernel
theorem dX4_boundOf_14 : decode cX4_boundOf 14 = .ok (.invokestatic 62, 3) := by decide +kernel
theorem dX4_boundOf_17 : decode cX4_boundOf 17 = .ok (.istore_n 3, 1) := by decide +kernel
theorem dX4_boundOf_18 : decode cX4_boundOf 18 = .ok (.aload_n 0, 1) := by decide +kernel
theorem dX4_boundOf_19 : decode cX4_boundOf 19 = .ok (.getfield 15, 3) := by decide +kernel
theorem dX4_boundOf_22 : decode cX4_boundOf 22 = .ok (.iload_n 1, 1) := by decide +kernel
theorem dX4_boundOf_23 : decode cX4_boundOf 23 = .ok (.iaload, 1) := by decide +kernel
theorem dX4_boundOf_24 : decode cX4_boundOf 24 = .ok (.tableswitch 56 1 3 #[28, 32, 50], 28) := by decide +kernel
theorem dX4_boundOf_52 : decode cX4_boundOf 52 = .ok (.iload_n 3, 1) := by decide +kernel
theorem dX4_boundOf_53 : decode cX4_boundOf 53 = .ok (.iconst 2, 1) := by decide +kernel
theorem dX4_boundOf_54 : decode cX4_boundOf 54 = .ok (.idiv, 1) := by decide +kernel
theorem dX4_boundOf_55 : decode cX4_boundOf 55 = .ok (.ireturn, 1) := by decide +kernel
theorem dX4_boundOf_56 : decode cX4_boundOf 56 = .ok (.aload_n 0, 1) := by decide +kernel
theorem dX4_boundOf_57 : decode cX4_boundOf 57 = .ok (.getfield 20, 3) := by decide +kernel
theorem dX4_boundOf_60 : decode cX4_boundOf 60 = .ok (.iload_n 1, 1) := by decide +kernel
theorem dX4_boundOf_61 : decode cX4_boundOf 61 = .ok (.aaload, 1) := by decide +kernel
theorem dX4_boundOf_62 : decode cX4_boundOf 62 = .ok (.iload_n 2, 1) := by decide +kernel
theorem dX4_boundOf_63 : decode cX4_boundOf 63 = .ok (.iaload, 1) := by decide +kernel
theorem dX4_boundOf_64 : decode cX4_boundOf 64 = .ok (.iconst 5, 1) := by decide +kernel
theorem dX4_boundOf_65 : decode cX4_boundOf 65 = .ok (.if_icmp .lt 7, 3) := by decide +kernel
theorem dX4_boundOf_68 : decode cX4_boundOf 68 = .ok (.iload_n 3, 1) := by decide +kernel
theorem dX4_boundOf_69 : decode cX4_boundOf 69 = .ok (.goto 4, 3) := by decide +kernel
theorem dX4_boundOf_72 : decode cX4_boundOf 72 = .ok (.iconst 0, 1) := by decide +kernel
theorem dX4_boundOf_73 : decode cX4_boundOf 73 = .ok (.ireturn, 1) := by decide +kernel
theorem dX4_boundOf_74 : decode cX4_boundOf 74 = .ok (.iload_n 3, 1) := by decide +kernel
theorem dX4_boundOf_75 : decode cX4_boundOf 75 = .ok (.iload_n 3, 1) := by decide +kernel
theorem dX4_boundOf_76 : decode cX4_boundOf 76 = .ok (.iconst 2, 1) := by decide +kernel
theorem dX4_boundOf_77 : decode cX4_boundOf 77 = .ok (.irem, 1) := by decide +kernel
theorem dX4_boundOf_78 : decode cX4_boundOf 78 = .ok (.isub, 1) := by decide +kernel
theorem dX4_boundOf_79 : decode cX4_boundOf 79 = .ok (.ireturn, 1) := by decide +kernel
theorem dX4_boundOf_80 : decode cX4_boundOf 80 = .ok (.iload_n 3, 1) := by decide +kernel
theorem dX4_boundOf_81 : decode cX4_boundOf 81 = .ok (.ireturn, 1) := by decide +kernel
theorem dX4_drawWants_0 : decode cX4_drawWants 0 = .ok (.iconst 0, 1) := by decide +kernel
theorem dX4_drawWants_1 : decode cX4_drawWants 1 = .ok (.istore_n 2, 1) := by decide +kernel
theorem dX4_drawWants_2 : decode cX4_drawWants 2 = .ok (.iload_n 2, 1) := by decide +kernel
theorem dX4_drawWants_3 : decode cX4_drawWants 3 = .ok (.aload_n 0, 1) := by decide +kernel
theorem dX4_drawWants_4 : decode cX4_drawWants 4 = .ok (.getfield 30, 3) := by decide +kernel
theorem dX4_drawWants_7 : decode cX4_drawWants 7 = .ok (.if_icmp .ge 71, 3) := by decide +kernel
theorem dX4_drawWants_10 : decode cX4_drawWants 10 = .ok (.iconst 0, 1) := by decide +kernel
theorem dX4_drawWants_11 : decode cX4_drawWants 11 = .ok (.istore_n 3, 1) := by decide +kernel
theorem dX4_drawWants_12 : decode cX4_drawWants 12 = .ok (.iload_n 3, 1) := by decide +kernel
theorem dX4_drawWants_13 : decode cX4_drawWants 13 = .ok (.aload_n 0, 1) := by decide +kernel
theorem dX4_drawWants_14 : decode cX4_drawWants 14 = .ok (.getfield 26, 3) := by decide +kernel
theorem dX4_drawWants_17 : decode cX4_drawWants 17 = .ok (.if_icmp .ge 55, 3) := by decide +kernel
theorem dX4_drawWants_20 : decode cX4_drawWants 20 = .ok (.ldc2_w 65, 3) := by decide +kernel
theorem dX4_drawWants_23 : decode cX4_drawWants 23 = .ok (.iload_n 1, 1) := by decide +kernel
theorem dX4_drawWants_24 : decode cX4_drawWants 24 = .ok (.i2l, 1) := by decide +kernel
theorem dX4_drawWants_25 : decode cX4_drawWants 25 = .ok (.lmul, 1) := by decide +kernel
theorem dX4_drawWants_26 : decode cX4_drawWants 26 = .ok (.ldc2_w 67, 3) := by decide +kernel
theorem dX4_drawWants_29 : decode cX4_drawWants 29 = .ok (.iload_n 2, 1) := by decide +kernel
theorem dX4_drawWants_30 : decode cX4_drawWants 30 = .ok (.i2l, 1) := by decide +kernel
theorem dX4_drawWants_31 : decode cX4_drawWants 31 = .ok (.lmul, 1) := by decide +kernel
theorem dX4_drawWants_32 : decode cX4_drawWants 32 = .ok (.ladd, 1) := by decide +kernel
theorem dX4_drawWants_33 : decode cX4_drawWants 33 = .ok (.ldc2_w 69, 3) := by decide +kernel
theorem dX4_drawWants_36 : decode cX4_drawWants 36 = .ok (.iload_n 3, 1) := by decide +kernel
theorem dX4_drawWants_37 : decode cX4_drawWants 37 = .ok (.i2l, 1) := by decide +kernel
theorem dX4_drawWants_38 : decode cX4_drawWants 38 = .ok (.lmul, 1) := by decide +kernel
theorem dX4_drawWants_39 : decode cX4_drawWants 39 = .ok (.ladd, 1) := by decide +kernel
theorem dX4_drawWants_40 : decode cX4_drawWants 40 = .ok (.lconst 1, 1) := by decide +kernel
theorem dX4_drawWants_41 : decode cX4_drawWants 41 = .ok (.ladd, 1) := by decide +kernel
theorem dX4_drawWants_42 : decode cX4_drawWants 42 = .ok (.lstore 4, 2) := by decide +kernel
theorem dX4_drawWants_44 : decode cX4_drawWants 44 = .ok (.aload_n 0, 1) := by decide +kernel
theorem dX4_drawWants_45 : decode cX4_drawWants 45 = .ok (.getfield 20, 3) := by decide +kernel
theorem dX4_drawWants_48 : decode cX4_drawWants 48 = .ok (.iload_n 2, 1) := by decide +kernel
theorem dX4_drawWants_49 : decode cX4_drawWants 49 = .ok (.aaload, 1) := by decide +kernel
theorem dX4_drawWants_50 : decode cX4_drawWants 50 = .ok (.iload_n 3, 1) := by decide +kernel
theorem dX4_drawWants_51 : decode cX4_drawWants 51 = .ok (.lload 4, 2) := by decide +kernel
theorem dX4_drawWants_53 : decode cX4_drawWants 53 = .ok (.lload 4, 2) := by decide +kernel
theorem dX4_drawWants_55 : decode cX4_drawWants 55 = .ok (.lmul, 1) := by decide +kernel
theorem dX4_drawWants_56 : decode cX4_drawWants 56 = .ok (.ldc2_w 71, 3) := by decide +kernel
theorem dX4_drawWants_59 : decode cX4_drawWants 59 = .ok (.lrem, 1) := by decide +kernel
theorem dX4_drawWants_60 : decode cX4_drawWants 60 = .ok (.ldc2_w 73, 3) := by decide +kernel
theorem dX4_drawWants_63 : decode cX4_drawWants 63 = .ok (.lrem, 1) := by decide +kernel
theorem dX4_drawWants_64 : decode cX4_drawWants 64 = .ok (.l2i, 1) := by decide +kernel
theorem dX4_drawWants_65 : decode cX4_drawWants 65 = .ok (.iastore, 1) := by decide +kernel
theorem dX4_drawWants_66 : decode cX4_drawWants 66 = .ok (.iinc 3 1, 3) := by decide +kernel
theorem dX4_drawWants_69 : decode cX4_drawWants 69 = .ok (.goto (-57), 3) := by decide +kernel
theorem dX4_drawWants_72 : decode cX4_drawWants 72 = .ok (.iinc 2 1, 3) := by decide +kernel
theorem dX4_drawWants_75 : decode cX4_drawWants 75 = .ok (.goto (-73), 3) := by decide +kernel
theorem dX4_drawWants_78 : decode cX4_drawWants 78 = .ok (.return_, 1) := by decide +kernel
theorem dX5_init_0 : decode cX5_init 0 = .ok (.aload_n 0, 1) := by decide +kernel
theorem dX5_init_1 : decode cX5_init 1 = .ok (.invokespecial 3, 3) := by decide +kernel
theorem dX5_init_4 : decode cX5_init 4 = .ok (.aload_n 0, 1) := by decide +kernel
theorem dX5_init_5 : decode cX5_init 5 = .ok (.iconst 3, 1) := by decide +kernel
theorem dX5_init_6 : decode cX5_init 6 = .ok (.newarray .int, 2) := by decide +kernel
theorem dX5_init_8 : decode cX5_init 8 = .ok (.putfield 9, 3) := by decide +kernel
theorem dX5_init_11 : decode cX5_init 11 = .ok (.aload_n 0, 1) := by decide +kernel
theorem dX5_init_12 : decode cX5_init 12 = .ok (.iconst 3, 1) := by decide +kernel
theorem dX5_init_13 : decode cX5_init 13 = .ok (.newarray .int, 2) := by decide +kernel
theorem dX5_init_15 : decode cX5_init 15 = .ok (.putfield 15, 3) := by decide +kernel
theorem dX5_init_18 : decode cX5_init 18 = .ok (.aload_n 0, 1) := by decide +kernel
theorem dX5_init_19 : decode cX5_init 19 = .ok (.iconst 3, 1) := by decide +kernel
theorem dX5_init_20 : decode cX5_init 20 = .ok (.newarray .int, 2) := by decide +kernel
theorem dX5_init_22 : decode cX5_init 22 = .ok (.putfield 18, 3) := by decide +kernel
theorem dX5_init_25 : decode cX5_init 25 = .ok (.return_, 1) := by decide +kernel
theorem dX5_search_0 : decode cX5_search 0 = .ok (.aload_n 0, 1) := by decide +kernel
theorem dX5_search_1 : decode cX5_search 1 = .ok (.iconst 0, 1) := by decide +kernel
theorem dX5_search_2 : decode cX5_search 2 = .ok (.putfield 21, 3) := by decide +kernel
theorem dX5_search_5 : decode cX5_search 5 = .ok (.aload_n 0, 1) := by decide +kernel
theorem dX5_search_6 : decode cX5_search 6 = .ok (.aload_n 1, 1) := by decide +kernel
theorem dX5_search_7 : decode cX5_search 7 = .ok (.aload_n 2, 1) := by decide +kernel
theorem dX5_search_8 : decode cX5_search 8 = .ok (.invokevirtual 25, 3) := by decide +kernel
theorem dX5_search_11 : decode cX5_search 11 = .ok (.aload_n 1, 1) := by decide +kernel
theorem dX5_search_12 : decode cX5_search 12 = .ok (.getfield 29, 3) := by decide +kernel
theorem dX5_search_15 : decode cX5_search 15 = .ok (.iconst 1, 1) := by decide +kernel
theorem dX5_search_16 : decode cX5_search 16 = .ok (.if_icmp .le 8, 3) := by decide +kernel
theorem dX5_search_19 : decode cX5_search 19 = .ok (.bipush 10, 2) := by decide +kernel
theorem dX5_search_21 : decode cX5_search 21 = .ok (.goto 4, 3) := by decide +kernel
theorem dX5_search_24 : decode cX5_search 24 = .ok (.iconst 0, 1) := by decide +kernel
theorem dX5_search_25 : decode cX5_search 25 = .ok (.istore 4, 2) := by decide +kernel
theorem dX5_search_27 : decode cX5_search 27 = .ok (.aload_n 1, 1) := by decide +kernel
theorem dX5_search_28 : decode cX5_search 28 = .ok (.getfield 29, 3) := by decide +kernel
theorem dX5_search_31 : decode cX5_search 31 = .ok (.iconst 2, 1) := by decide +kernel
theorem dX5_search_32 : decode cX5_search 32 = .ok (.if_icmp .le 8, 3) := by decide +kernel
theorem dX5_search_35 : decode cX5_search 35 = .ok (.bipush 10, 2) := by decide +kernel
theorem dX5_search_37 : decode cX5_search 37 = .ok (.goto 4, 3) := by decide +kernel
theorem dX5_search_40 : decode cX5_search 40 = .ok (.iconst 0, 1) := by decide +kernel
theorem dX5_search_41 : decode cX5_search 41 = .ok (.istore 5, 2) := by decide +kernel
theorem dX5_search_43 : decode cX5_search 43 = .ok (.iconst 0, 1) := by decide +kernel
theorem dX5_search_44 : decode cX5_search 44 = .ok (.istore 6, 2) := by decide +kernel
theorem dX5_search_46 : decode cX5_search 46 = .ok (.iload 6, 2) := by decide +kernel
theorem dX5_search_48 : decode cX5_search 48 = .ok (.bipush 10, 2) := by decide +kernel
theorem dX5_search_50 : decode cX5_search 50 = .ok (.if_icmp .gt 102, 3) := by decide +kernel
theorem dX5_search_53 : decode cX5_search 53 = .ok (.iconst 0, 1) := by decide +kernel
theorem dX5_search_54 : decode cX5_search 54 = .ok (.istore 7, 2) := by decide +kernel
theorem dX5_search_56 : decode cX5_search 56 = .ok (.iload 7, 2) := by decide +kernel
theorem dX5_search_58 : decode cX5_search 58 = .ok (.iload 4, 2) := by decide +kernel
theorem dX5_search_60 : decode cX5_search 60 = .ok (.if_icmp .gt 86, 3) := by decide +kernel
theorem dX5_search_63 : decode cX5_search 63 = .ok (.iconst 0, 1) := by decide +kernel
theorem dX5_search_64 : decode cX5_search 64 = .ok (.istore 8, 2) := by decide +kernel
theorem dX5_search_66 : decode cX5_search 66 = .ok (.iload 8, 2) := by decide +kernel
theorem dX5_search_68 : decode cX5_search 68 = .ok (.iload 5, 2) := by decide +kernel
theorem dX5_search_70 : decode cX5_search 70 = .ok (.if_icmp .gt 70, 3) := by decide +kernel
theorem dX5_search_73 : decode cX5_search 73 = .ok (.aload_n 0, 1) := by decide +kernel
theorem dX5_search_74 : decode cX5_search 74 = .ok (.getfield 15, 3) := by decide +kernel
theorem dX5_search_77 : decode cX5_search 77 = .ok (.iconst 0, 1) := by decide +kernel
theorem dX5_search_78 : decode cX5_search 78 = .ok (.iload 6, 2) := by decide +kernel
theorem dX5_search_80 : decode cX5_search 80 = .ok (.iastore, 1) := by decide +kernel
theorem dX5_search_81 : decode cX5_search 81 = .ok (.aload_n 0, 1) := by decide +kernel
theorem dX5_search_82 : decode cX5_search 82 = .ok (.getfield 15, 3) := by decide +kernel
theorem dX5_search_85 : decode cX5_search 85 = .ok (.iconst 1, 1) := by decide +kernel
theorem dX5_search_86 : decode cX5_search 86 = .ok (.iload 7, 2) := by decide +kernel
theorem dX5_search_88 : decode cX5_search 88 = .ok (.iastore, 1) := by decide +kernel
theorem dX5_search_89 : decode cX5_search 89 = .ok (.aload_n 0, 1) := by decide +kernel
theorem dX5_search_90 : decode cX5_search 90 = .ok (.getfield 15, 3) := by decide +kernel
theorem dX5_search_93 : decode cX5_search 93 = .ok (.iconst 2, 1) := by decide +kernel
theorem dX5_search_94 : decode cX5_search 94 = .ok (.iload 8, 2) := by decide +kernel
theorem dX5_search_96 : decode cX5_search 96 = .ok (.iastore, 1) := by decide +kernel
theorem dX5_search_97 : decode cX5_search 97 = .ok (.aload_n 0, 1) := by decide +kernel
theorem dX5_search_98 : decode cX5_search 98 = .ok (.iload 6, 2) := by decide +kernel
theorem dX5_search_100 : decode cX5_search 100 = .ok (.iload 7, 2) := by decide +kernel
theorem dX5_search_102 : decode cX5_search 102 = .ok (.iadd, 1) := by decide +kernel
theorem dX5_search_103 : decode cX5_search 103 = .ok (.iload 8, 2) := by decide +kernel
theorem dX5_search_105 : decode cX5_search 105 = .ok (.iadd, 1) := by decide +kernel
theorem dX5_search_106 : decode cX5_search 106 = .ok (.iload_n 3, 1) := by decide +kernel
theorem dX5_search_107 : decode cX5_search 107 = .ok (.invokevirtual 35, 3) := by decide +kernel
theorem dX5_search_110 : decode cX5_search 110 = .ok (.ifCond .eq 24, 3) := by decide +kernel
theorem dX5_search_113 : decode cX5_search 113 = .ok (.aload_n 0, 1) := by decide +kernel
theorem dX5_search_114 : decode cX5_search 114 = .ok (.aload_n 1, 1) := by decide +kernel
theorem dX5_search_115 : decode cX5_search 115 = .ok (.aload_n 2, 1) := by decide +kernel
theorem dX5_search_116 : decode cX5_search 116 = .ok (.invokevirtual 39, 3) := by decide +kernel
theorem dX5_search_119 : decode cX5_search 119 = .ok (.ifCond .eq 15, 3) := by decide +kernel
theorem dX5_search_122 : decode cX5_search 122 = .ok (.aload_n 0, 1) := by decide +kernel
theorem dX5_search_123 : decode cX5_search 123 = .ok (.iload 6, 2) := by decide +kernel
theorem dX5_search_125 : decode cX5_search 125 = .ok (.iload 7, 2) := by decide +kernel
theorem dX5_search_127 : decode cX5_search 127 = .ok (.iadd, 1) := by decide +kernel
theorem dX5_search_128 : decode cX5_search 128 = .ok (.iload 8, 2) := by decide +kernel
theorem dX5_search_130 : decode cX5_search 130 = .ok (.iadd, 1) := by decide +kernel
theorem dX5_search_131 : decode cX5_search 131 = .ok (.invokevirtual 43, 3) := by decide +kernel
theorem dX5_search_134 : decode cX5_search 134 = .ok (.iinc 8 1, 3) := by decide +kernel
theorem dX5_search_137 : decode cX5_search 137 = .ok (.goto (-71), 3) := by decide +kernel
theorem dX5_search_140 : decode cX5_search 140 = .ok (.iinc 7 1, 3) := by decide +kernel
theorem dX5_search_143 : decode cX5_search 143 = .ok (.goto (-87), 3) := by decide +kernel
theorem dX5_search_146 : decode cX5_search 146 = .ok (.iinc 6 1, 3) := by decide +kernel
theorem dX5_search_149 : decode cX5_search 149 = .ok (.goto (-103), 3) := by decide +kernel
theorem dX5_search_152 : decode cX5_search 152 = .ok (.return_, 1) := by decide +kernel
theorem dX5_countHeld_0 : decode cX5_countHeld 0 = .ok (.aload_n 0, 1) := by decide +kernel
theorem dX5_countHeld_1 : decode cX5_countHeld 1 = .ok (.getfield 18, 3) := by decide +kernel
theorem dX5_countHeld_4 : decode cX5_countHeld 4 = .ok (.iconst 0, 1) := by decide +kernel
theorem dX5_countHeld_5 : decode cX5_countHeld 5 = .ok (.invokestatic 47, 3) := by decide +kernel
theorem dX5_countHeld_8 : decode cX5_countHeld 8 = .ok (.iconst 0, 1) := by decide +kernel
theorem dX5_countHeld_9 : decode cX5_countHeld 9 = .ok (.istore_n 3, 1) := by decide +kernel
theorem dX5_countHeld_10 : decode cX5_countHeld 10 = .ok (.iload_n 3, 1) := by decide +kernel
theorem dX5_countHeld_11 : decode cX5_countHeld 11 = .ok (.aload_n 1, 1) := by decide +kernel
theorem dX5_countHeld_12 : decode cX5_countHeld 12 = .ok (.getfield 53, 3) := by decide +kernel
theorem dX5_countHeld_15 : decode cX5_countHeld 15 = .ok (.if_icmp .ge 29, 3) := by decide +kernel
theorem dX5_countHeld_18 : decode cX5_countHeld 18 = .ok (.aload_n 2, 1) := by decide +kernel
theorem dX5_countHeld_19 : decode cX5_countHeld 19 = .ok (.iload_n 3, 1) := by decide +kernel
theorem dX5_countHeld_20 : decode cX5_countHeld 20 = .ok (.iaload, 1) := by decide +kernel
theorem dX5_countHeld_21 : decode cX5_countHeld 21 = .ok (.bipush (-4), 2) := by decide +kernel
theorem dX5_countHeld_23 : decode cX5_countHeld 23 = .ok (.if_icmp .eq 15, 3) := by decide +kernel
theorem dX5_countHeld_26 : decode cX5_countHeld 26 = .ok (.aload_n 0, 1) := by decide +kernel
theorem dX5_countHeld_27 : decode cX5_countHeld 27 = .ok (.getfield 18, 3) := by decide +kernel
theorem dX5_countHeld_30 : decode cX5_countHeld 30 = .ok (.aload_n 2, 1) := by decide +kernel
theorem dX5_countHeld_31 : decode cX5_countHeld 31 = .ok (.iload_n 3, 1) := by decide +kernel
theorem dX5_countHeld_32 : decode cX5_countHeld 32 = .ok (.iaload, 1) := by decide +kernel
theorem dX5_countHeld_33 : decode cX5_countHeld 33 = .ok (.dup2, 1) := by decide +kernel
theorem dX5_countHeld_34 : decode cX5_countHeld 34 = .ok (.iaload, 1) := by decide +kernel
theorem dX5_countHeld_35 : decode cX5_countHeld 35 = .ok (.iconst 1, 1) := by decide +kernel
theorem dX5_countHeld_36 : decode cX5_countHeld 36 = .ok (.iadd, 1) := by decide +kernel
theorem dX5_countHeld_37 : decode cX5_countHeld 37 = .ok (.iastore, 1) := by decide +kernel
theorem dX5_countHeld_38 : decode cX5_countHeld 38 = .ok (.iinc 3 1, 3) := by decide +kernel
theorem dX5_countHeld_41 : decode cX5_countHeld 41 = .ok (.goto (-31), 3) := by decide +kernel
theorem dX5_countHeld_44 : decode cX5_countHeld 44 = .ok (.return_, 1) := by decide +kernel
theorem dX5_isBetter_0 : decode cX5_isBetter 0 = .ok (.aload_n 0, 1) := by decide +kernel
theorem dX5_isBetter_1 : decode cX5_isBetter 1 = .ok (.getfield 21, 3) := by decide +kernel
theorem dX5_isBetter_4 : decode cX5_isBetter 4 = .ok (.ifCond .ne 5, 3) := by decide +kernel
theorem dX5_isBetter_7 : decode cX5_isBetter 7 = .ok (.iconst 1, 1) := by decide +kernel
theorem dX5_isBetter_8 : decode cX5_isBetter 8 = .ok (.ireturn, 1) := by decide +kernel
theorem dX5_isBetter_9 : decode cX5_isBetter 9 = .ok (.iload_n 2, 1) := by decide +kernel
theorem dX5_isBetter_10 : decode cX5_isBetter 10 = .ok (.ifCond .eq 19, 3) := by decide +kernel
theorem dX5_isBetter_13 : decode cX5_isBetter 13 = .ok (.iload_n 1, 1) := by decide +kernel
theorem dX5_isBetter_14 : decode cX5_isBetter 14 = .ok (.aload_n 0, 1) := by decide +kernel
theorem dX5_isBetter_15 : decode cX5_isBetter 15 = .ok (.getfield 56, 3) := by decide +kernel
theorem dX5_isBetter_18 : decode cX5_isBetter 18 = .ok (.if_icmp .le 7, 3) := by decide +kernel
theorem dX5_isBetter_21 : decode cX5_isBetter 21 = .ok (.iconst 1, 1) := by decide +kernel
theorem dX5_isBetter_22 : decode cX5_isBetter 22 = .ok (.goto 20, 3) := by decide +kernel
theorem dX5_isBetter_25 : decode cX5_isBetter 25 = .ok (.iconst 0, 1) := by decide +kernel
theorem dX5_isBetter_26 : decode cX5_isBetter 26 = .ok (.goto 16, 3) := by decide +kernel
theorem dX5_isBetter_29 : decode cX5_isBetter 29 = .ok (.iload_n 1, 1) := by decide +kernel
theorem dX5_isBetter_30 : decode cX5_isBetter 30 = .ok (.aload_n 0, 1) := by decide +kernel
theorem dX5_isBetter_31 : decode cX5_isBetter 31 = .ok (.getfield 56, 3) := by decide +kernel
theorem dX5_isBetter_34 : decode cX5_isBetter 34 = .ok (.if_icmp .ge 7, 3) := by decide +kernel
theorem dX5_isBetter_37 : decode cX5_isBetter 37 = .ok (.iconst 1, 1) := by decide +kernel
theorem dX5_isBetter_38 : decode cX5_isBetter 38 = .ok (.goto 4, 3) := by decide +kernel
theorem dX5_isBetter_41 : decode cX5_isBetter 41 = .ok (.iconst 0, 1) := by decide +kernel
theorem dX5_isBetter_42 : decode cX5_isBetter 42 = .ok (.ireturn, 1) := by decide +kernel
theorem dX5_noteAsked_0 : decode cX5_noteAsked 0 = .ok (.aload_n 0, 1) := by decide +kernel
theorem dX5_noteAsked_1 : decode cX5_noteAsked 1 = .ok (.iconst 1, 1) := by decide +kernel
theorem dX5_noteAsked_2 : decode cX5_noteAsked 2 = .ok (.putfield 21, 3) := by decide +kernel
theorem dX5_noteAsked_5 : decode cX5_noteAsked 5 = .ok (.aload_n 0, 1) := by decide +kernel
theorem dX5_noteAsked_6 : decode cX5_noteAsked 6 = .ok (.iload_n 1, 1) := by decide +kernel
theorem dX5_noteAsked_7 : decode cX5_noteAsked 7 = .ok (.putfield 56, 3) := by decide +kernel
theorem dX5_noteAsked_10 : decode cX5_noteAsked 10 = .ok (.aload_n 0, 1) := by decide +kernel
theorem dX5_noteAsked_11 : decode cX5_noteAsked 11 = .ok (.getfield 15, 3) := by decide +kernel
theorem dX5_noteAsked_14 : decode cX5_noteAsked 14 = .ok (.iconst 0, 1) := by decide +kernel
theorem dX5_noteAsked_15 : decode cX5_noteAsked 15 = .ok (.aload_n 0, 1) := by decide +kernel
theorem dX5_noteAsked_16 : decode cX5_noteAsked 16 = .ok (.getfield 9, 3) := by decide +kernel
theorem dX5_noteAsked_19 : decode cX5_noteAsked 19 = .ok (.iconst 0, 1) := by decide +kernel
theorem dX5_noteAsked_20 : decode cX5_noteAsked 20 = .ok (.iconst 3, 1) := by decide +kernel
theorem dX5_noteAsked_21 : decode cX5_noteAsked 21 = .ok (.invokestatic 59, 3) := by decide +kernel
theorem dX5_noteAsked_24 : decode cX5_noteAsked 24 = .ok (.return_, 1) := by decide +kernel
theorem dX5_isAtRest_0 : decode cX5_isAtRest 0 = .ok (.iconst 0, 1) := by decide +kernel
theorem dX5_isAtRest_1 : decode cX5_isAtRest 1 = .ok (.istore_n 3, 1) := by decide +kernel
theorem dX5_isAtRest_2 : decode cX5_isAtRest 2 = .ok (.iload_n 3, 1) := by decide +kernel
theorem dX5_isAtRest_3 : decode cX5_isAtRest 3 = .ok (.aload_n 1, 1) := by decide +kernel
theorem dX5_isAtRest_4 : decode cX5_isAtRest 4 = .ok (.getfield 29, 3) := by decide +kernel
theorem dX5_isAtRest_7 : decode cX5_isAtRest 7 = .ok (.if_icmp .ge 35, 3) := by decide +kernel
theorem dX5_isAtRest_10 : decode cX5_isAtRest 10 = .ok (.aload_n 0, 1) := by decide +kernel
theorem dX5_isAtRest_11 : decode cX5_isAtRest 11 = .ok (.getfield 15, 3) := by decide +kernel
theorem dX5_isAtRest_14 : decode cX5_isAtRest 14 = .ok (.iload_n 3, 1) := by decide +kernel
theorem dX5_isAtRest_15 : decode cX5_isAtRest 15 = .ok (.iaload, 1) := by decide +kernel
theorem dX5_isAtRest_16 : decode cX5_isAtRest 16 = .ok (.ifCond .le 20, 3) := by decide +kernel
theorem dX5_isAtRest_19 : decode cX5_isAtRest 19 = .ok (.aload_n 0, 1) := by decide +kernel
theorem dX5_isAtRest_20 : decode cX5_isAtRest 20 = .ok (.getfield 18, 3) := by decide +kernel
theorem dX5_isAtRest_23 : decode cX5_isAtRest 23 = .ok (.iload_n 3, 1) := by decide +kernel
theorem dX5_isAtRest_24 : decode cX5_isAtRest 24 = .ok (.iaload, 1) := by decide +kernel
theorem dX5_isAtRest_25 : decode cX5_isAtRest 25 = .ok (.aload_n 1, 1) := by decide +kernel
theorem dX5_isAtRest_26 : decode cX5_isAtRest 26 = .ok (.getfield 65, 3) := by decide +kernel
theorem dX5_isAtRest_29 : decode cX5_isAtRest 29 = .ok (.iload_n 3, 1) := by decide +kernel
theorem dX5_isAtRest_30 : decode cX5_isAtRest 30 = .ok (.iaload, 1) := by decide +kernel
theorem dX5_isAtRest_31 : decode cX5_isAtRest 31 = .ok (.if_icmp .eq 5, 3) := by decide +kernel
theorem dX5_isAtRest_34 : decode cX5_isAtRest 34 = .ok (.iconst 0, 1) := by decide +kernel
theorem dX5_isAtRest_35 : decode cX5_isAtRest 35 = .ok (.ireturn, 1) := by decide +kernel
theorem dX5_isAtRest_36 : decode cX5_isAtRest 36 = .ok (.iinc 3 1, 3) := by decide +kernel
theorem dX5_isAtRest_39 : decode cX5_isAtRest 39 = .ok (.goto (-37), 3) := by decide +kernel
theorem dX5_isAtRest_42 : decode cX5_isAtRest 42 = .ok (.iconst 0, 1) := by decide +kernel
theorem dX5_isAtRest_43 : decode cX5_isAtRest 43 = .ok (.istore_n 3, 1) := by decide +kernel
theorem dX5_isAtRest_44 : decode cX5_isAtRest 44 = .ok (.iload_n 3, 1) := by decide +kernel
theorem dX5_isAtRest_45 : decode cX5_isAtRest 45 = .ok (.aload_n 1, 1) := by decide +kernel
theorem dX5_isAtRest_46 : decode cX5_isAtRest 46 = .ok (.getfield 53, 3) := by decide +kernel
theorem dX5_isAtRest_49 : decode cX5_isAtRest 49 = .ok (.if_icmp .ge 23, 3) := by decide +kernel
theorem dX5_isAtRest_52 : decode cX5_isAtRest 52 = .ok (.aload_n 0, 1) := by decide +kernel
theorem dX5_isAtRest_53 : decode cX5_isAtRest 53 = .ok (.aload_n 1, 1) := by decide +kernel
theorem dX5_isAtRest_54 : decode cX5_isAtRest 54 = .ok (.iload_n 3, 1) := by decide +kernel
theorem dX5_isAtRest_55 : decode cX5_isAtRest 55 = .ok (.aload_n 2, 1) := by decide +kernel
theorem dX5_isAtRest_56 : decode cX5_isAtRest 56 = .ok (.iload_n 3, 1) := by decide +kernel
theorem dX5_isAtRest_57 : decode cX5_isAtRest 57 = .ok (.iaload, 1) := by decide +kernel
theorem dX5_isAtRest_58 : decode cX5_isAtRest 58 = .ok (.invokevirtual 68, 3) := by decide +kernel
theorem dX5_isAtRest_61 : decode cX5_isAtRest 61 = .ok (.ifCond .ne 5, 3) := by decide +kernel
theorem dX5_isAtRest_64 : decode cX5_isAtRest 64 = .ok (.iconst 0, 1) := by decide +kernel
theorem dX5_isAtRest_65 : decode cX5_isAtRest 65 = .ok (.ireturn, 1) := by decide +kernel
theorem dX5_isAtRest_66 : decode cX5_isAtRest 66 = .ok (.iinc 3 1, 3) := by decide +kernel
theorem dX5_isAtRest_69 : decode cX5_isAtRest 69 = .ok (.goto (-25), 3) := by decide +kernel
theorem dX5_isAtRest_72 : decode cX5_isAtRest 72 = .ok (.iconst 1, 1) := by decide +kernel
theorem dX5_isAtRest_73 : decode cX5_isAtRest 73 = .ok (.ireturn, 1) := by decide +kernel
theorem dX5_isContent_0 : decode cX5_isContent 0 = .ok (.iload_n 3, 1) := by decide +kernel
theorem dX5_isContent_1 : decode cX5_isContent 1 = .ok (.bipush (-4), 2) := by decide +kernel
theorem dX5_isContent_3 : decode cX5_isContent 3 = .ok (.if_icmp .ne 7, 3) := by decide +kernel
theorem dX5_isContent_6 : decode cX5_isContent 6 = .ok (.iconst 0, 1) := by decide +kernel
theorem dX5_isContent_7 : decode cX5_isContent 7 = .ok (.goto 18, 3) := by decide +kernel
theorem dX5_isContent_10 : decode cX5_isContent 10 = .ok (.aload_n 1, 1) := by decide +kernel
theorem dX5_isContent_11 : decode cX5_isContent 11 = .ok (.getfield 72, 3) := by decide +kernel
theorem dX5_isContent_14 : decode cX5_isContent 14 = .ok (.iload_n 2, 1) := by decide +kernel
theorem dX5_isContent_15 : decode cX5_isContent 15 = .ok (.aaload, 1) := by decide +kernel
theorem dX5_isContent_16 : decode cX5_isContent 16 = .ok (.iload_n 3, 1) := by decide +kernel
theorem dX5_isContent_17 : decode cX5_isContent 17 = .ok (.iaload, 1) := by decide +kernel
theorem dX5_isContent_18 : decode cX5_isContent 18 = .ok (.aload_n 0, 1) := by decide +kernel
theorem dX5_isContent_19 : decode cX5_isContent 19 = .ok (.getfield 15, 3) := by decide +kernel
theorem dX5_isContent_22 : decode cX5_isContent 22 = .ok (.iload_n 3, 1) := by decide +kernel
theorem dX5_isContent_23 : decode cX5_isContent 23 = .ok (.iaload, 1) := by decide +kernel
theorem dX5_isContent_24 : decode cX5_isContent 24 = .ok (.isub, 1) := by decide +kernel
theorem dX5_isContent_25 : decode cX5_isContent 25 = .ok (.istore 4, 2) := by decide +kernel
theorem dX5_isContent_27 : decode cX5_isContent 27 = .ok (.iload 4, 2) := by decide +kernel
theorem dX5_isContent_29 : decode cX5_isContent 29 = .ok (.ifCond .ge 5, 3) := by decide +kernel
theorem dX5_isContent_32 : decode cX5_isContent 32 = .ok (.iconst 0, 1) := by decide +kernel
theorem dX5_isContent_33 : decode cX5_isContent 33 = .ok (.ireturn, 1) := by decide +kernel
theorem dX5_isContent_34 : decode cX5_isContent 34 = .ok (.iconst 0, 1) := by decide +kernel
theorem dX5_isContent_35 : decode cX5_isContent 35 = .ok (.istore 5, 2) := by decide +kernel
theorem dX5_isContent_37 : decode cX5_isContent 37 = .ok (.iload 5, 2) := by decide +kernel
theorem dX5_isContent_39 : decode cX5_isContent 39 = .ok (.aload_n 1, 1) := by decide +kernel
theorem dX5_isContent_40 : decode cX5_isContent 40 = .ok (.getfield 29, 3) := by decide +kernel
theorem dX5_isContent_43 : decode cX5_isContent 43 = .ok (.if_icmp .ge 33, 3) := by decide +kernel
theorem dX5_isContent_46 : decode cX5_isContent 46 = .ok (.aload_n 1, 1) := by decide +kernel
theorem dX5_isContent_47 : decode cX5_isContent 47 = .ok (.getfield 72, 3) := by decide +kernel
theorem dX5_isContent_50 : decode cX5_isContent 50 = .ok (.iload_n 2, 1) := by decide +kernel
theorem dX5_isContent_51 : decode cX5_isContent 51 = .ok (.aaload, 1) := by decide +kernel
theorem dX5_isContent_52 : decode cX5_isContent 52 = .ok (.iload 5, 2) := by decide +kernel
theorem dX5_isContent_54 : decode cX5_isContent 54 = .ok (.iaload, 1) := by decide +kernel
theorem dX5_isContent_55 : decode cX5_isContent 55 = .ok (.aload_n 0, 1) := by decide +kernel
theorem dX5_isContent_56 : decode cX5_isContent 56 = .ok (.getfield 15, 3) := by decide +kernel
theorem dX5_isContent_59 : decode cX5_isContent 59 = .ok (.iload 5, 2) := by decide +kernel
theorem dX5_isContent_61 : decode cX5_isContent 61 = .ok (.iaload, 1) := by decide +kernel
theorem dX5_isContent_62 : decode cX5_isContent 62 = .ok (.isub, 1) := by decide +kernel
theorem dX5_isContent_63 : decode cX5_isContent 63 = .ok (.iload 4, 2) := by decide +kernel
theorem dX5_isContent_65 : decode cX5_isContent 65 = .ok (.if_icmp .le 5, 3) := by decide +kernel
theorem dX5_isContent_68 : decode cX5_isContent 68 = .ok (.iconst 0, 1) := by decide +kernel
theorem dX5_isContent_69 : decode cX5_isContent 69 = .ok (.ireturn, 1) := by decide +kernel
theorem dX5_isContent_70 : decode cX5_isContent 70 = .ok (.iinc 5 1, 3) := by decide +kernel
theorem dX5_isContent_73 : decode cX5_isContent 73 = .ok (.goto (-36), 3) := by decide +kernel
theorem dX5_isContent_76 : decode cX5_isContent 76 = .ok (.iconst 1, 1) := by decide +kernel
theorem dX5_isContent_77 : decode cX5_isContent 77 = .ok (.ireturn, 1) := by decide +kernel
theorem dX6_init_0 : decode cX6_init 0 = .ok (.aload_n 0, 1) := by decide +kernel
theorem dX6_init_1 : decode cX6_init 1 = .ok (.invokespecial 3, 3) := by decide +kernel
theorem dX6_init_4 : decode cX6_init 4 = .ok (.aload_n 0, 1) := by decide +kernel
theorem dX6_init_5 : decode cX6_init 5 = .ok (.iconst 2, 1) := by decide +kernel
theorem dX6_init_6 : decode cX6_init 6 = .ok (.bipush 7, 2) := by decide +kernel
theorem dX6_init_8 : decode cX6_init 8 = .ok (.multianewarray 9 2, 4) := by decide +kernel
theorem dX6_init_12 : decode cX6_init 12 = .ok (.putfield 11, 3) := by decide +kernel
theorem dX6_init_15 : decode cX6_init 15 = .ok (.return_, 1) := by decide +kernel
theorem dX6_put_0 : decode cX6_put 0 = .ok (.aload_n 1, 1) := by decide +kernel
theorem dX6_put_1 : decode cX6_put 1 = .ok (.getfield 16, 3) := by decide +kernel
theorem dX6_put_4 : decode cX6_put 4 = .ok (.iconst 0, 1) := by decide +kernel
theorem dX6_put_5 : decode cX6_put 5 = .ok (.aload_n 0, 1) := by decide +kernel
theorem dX6_put_6 : decode cX6_put 6 = .ok (.getfield 11, 3) := by decide +kernel
theorem dX6_put_9 : decode cX6_put 9 = .ok (.aload_n 0, 1) := by decide +kernel
theorem dX6_put_10 : decode cX6_put 10 = .ok (.getfield 22, 3) := by decide +kernel
theorem dX6_put_13 : decode cX6_put 13 = .ok (.aaload, 1) := by decide +kernel
theorem dX6_put_14 : decode cX6_put 14 = .ok (.iconst 0, 1) := by decide +kernel
theorem dX6_put_15 : decode cX6_put 15 = .ok (.bipush 7, 2) := by decide +kernel
theorem dX6_put_17 : decode cX6_put 17 = .ok (.invokestatic 26, 3) := by decide +kernel
theorem dX6_put_20 : decode cX6_put 20 = .ok (.aload_n 0, 1) := by decide +kernel
theorem dX6_put_21 : decode cX6_put 21 = .ok (.dup, 1) := by decide +kernel
theorem dX6_put_22 : decode cX6_put 22 = .ok (.getfield 22, 3) := by decide +kernel
theorem dX6_put_25 : decode cX6_put 25 = .ok (.iconst 1, 1) := by decide +kernel
theorem dX6_put_26 : decode cX6_put 26 = .ok (.iadd, 1) := by decide +kernel
theorem dX6_put_27 : decode cX6_put 27 = .ok (.putfield 22, 3) := by decide +kernel
theorem dX6_put_30 : decode cX6_put 30 = .ok (.return_, 1) := by decide +kernel
theorem dX6_takeInto_0 : decode cX6_takeInto 0 = .ok (.aload_n 0, 1) := by decide +kernel
theorem dX6_takeInto_1 : decode cX6_takeInto 1 = .ok (.dup, 1) := by decide +kernel
theorem dX6_takeInto_2 : decode cX6_takeInto 2 = .ok (.getfield 22, 3) := by decide +kernel
theorem dX6_takeInto_5 : decode cX6_takeInto 5 = .ok (.iconst 1, 1) := by decide +kernel
theorem dX6_takeInto_6 : decode cX6_takeInto 6 = .ok (.isub, 1) := by decide +kernel
theorem dX6_takeInto_7 : decode cX6_takeInto 7 = .ok (.putfield 22, 3) := by decide +kernel
theorem dX6_takeInto_10 : decode cX6_takeInto 10 = .ok (.aload_n 0, 1) := by decide +kernel
theorem dX6_takeInto_11 : decode cX6_takeInto 11 = .ok (.getfield 11, 3) := by decide +kernel
theorem dX6_takeInto_14 : decode cX6_takeInto 14 = .ok (.aload_n 0, 1) := by decide +kernel
theorem dX6_takeInto_15 : decode cX6_takeInto 15 = .ok (.getfield 22, 3) := by decide +kernel
theorem dX6_takeInto_18 : decode cX6_takeInto 18 = .ok (.aaload, 1) := by decide +kernel
theorem dX6_takeInto_19 : decode cX6_takeInto 19 = .ok (.iconst 0, 1) := by decide +kernel
theorem dX6_takeInto_20 : decode cX6_takeInto 20 = .ok (.aload_n 1, 1) := by decide +kernel
theorem dX6_takeInto_21 : decode cX6_takeInto 21 = .ok (.getfield 16, 3) := by decide +kernel
theorem dX6_takeInto_24 : decode cX6_takeInto 24 = .ok (.iconst 0, 1) := by decide +kernel
theorem dX6_takeInto_25 : decode cX6_takeInto 25 = .ok (.bipush 7, 2) := by decide +kernel
theorem dX6_takeInto_27 : decode cX6_takeInto 27 = .ok (.invokestatic 26, 3) := by decide +kernel
theorem dX6_takeInto_30 : decode cX6_takeInto 30 = .ok (.return_, 1) := by decide +kernel
theorem dX7_init_0 : decode cX7_init 0 = .ok (.aload_n 0, 1) := by decide +kernel
theorem dX7_init_1 : decode cX7_init 1 = .ok (.invokespecial 3, 3) := by decide +kernel
theorem dX7_init_4 : decode cX7_init 4 = .ok (.aload_n 0, 1) := by decide +kernel
theorem dX7_init_5 : decode cX7_init 5 = .ok (.bipush 6, 2) := by decide +kernel
theorem dX7_init_7 : decode cX7_init 7 = .ok (.newarray .int, 2) := by decide +kernel
theorem dX7_init_9 : decode cX7_init 9 = .ok (.putfield 9, 3) := by decide +kernel
theorem dX7_init_12 : decode cX7_init 12 = .ok (.aload_n 0, 1) := by decide +kernel
theorem dX7_init_13 : decode cX7_init 13 = .ok (.bipush 6, 2) := by decide +kernel
theorem dX7_init_15 : decode cX7_init 15 = .ok (.newarray .int, 2) := by decide +kernel
theorem dX7_init_17 : decode cX7_init 17 = .ok (.putfield 15, 3) := by decide +kernel
theorem dX7_init_20 : decode cX7_init 20 = .ok (.return_, 1) := by decide +kernel
theorem dX7_add_0 : decode cX7_add 0 = .ok (.aload_n 0, 1) := by decide +kernel
theorem dX7_add_1 : decode cX7_add 1 = .ok (.getfield 9, 3) := by decide +kernel
theorem dX7_add_4 : decode cX7_add 4 = .ok (.aload_n 0, 1) := by decide +kernel
theorem dX7_add_5 : decode cX7_add 5 = .ok (.getfield 18, 3) := by decide +kernel
theorem dX7_add_8 : decode cX7_add 8 = .ok (.iload_n 1, 1) := by decide +kernel
theorem dX7_add_9 : decode cX7_add 9 = .ok (.iastore, 1) := by decide +kernel
theorem dX7_add_10 : decode cX7_add 10 = .ok (.aload_n 0, 1) := by decide +kernel
theorem dX7_add_11 : decode cX7_add 11 = .ok (.getfield 15, 3) := by decide +kernel
theorem dX7_add_14 : decode cX7_add 14 = .ok (.aload_n 0, 1) := by decide +kernel
theorem dX7_add_15 : decode cX7_add 15 = .ok (.getfield 18, 3) := by decide +kernel
theorem dX7_add_18 : decode cX7_add 18 = .ok (.iload_n 2, 1) := by decide +kernel
theorem dX7_add_19 : decode cX7_add 19 = .ok (.iastore, 1) := by decide +kernel
theorem dX7_add_20 : decode cX7_add 20 = .ok (.aload_n 0, 1) := by decide +kernel
theorem dX7_add_21 : decode cX7_add 21 = .ok (.dup, 1) := by decide +kernel
theorem dX7_add_22 : decode cX7_add 22 = .ok (.getfield 18, 3) := by decide +kernel
theorem dX7_add_25 : decode cX7_add 25 = .ok (.iconst 1, 1) := by decide +kernel
theorem dX7_add_26 : decode cX7_add 26 = .ok (.iadd, 1) := by decide +kernel
theorem dX7_add_27 : decode cX7_add 27 = .ok (.putfield 18, 3) := by decide +kernel
theorem dX7_add_30 : decode cX7_add 30 = .ok (.return_, 1) := by decide +kernel
theorem dX7_fit_0 : decode cX7_fit 0 = .ok (.iconst 0, 1) := by decide +kernel
theorem dX7_fit_1 : decode cX7_fit 1 = .ok (.istore_n 3, 1) := by decide +kernel
theorem dX7_fit_2 : decode cX7_fit 2 = .ok (.iload_n 3, 1) := by decide +kernel
theorem dX7_fit_3 : decode cX7_fit 3 = .ok (.aload_n 0, 1) := by decide +kernel
theorem dX7_fit_4 : decode cX7_fit 4 = .ok (.getfield 18, 3) := by decide +kernel
theorem dX7_fit_7 : decode cX7_fit 7 = .ok (.if_icmp .ge 31, 3) := by decide +kernel
theorem dX7_fit_10 : decode cX7_fit 10 = .ok (.aload_n 2, 1) := by decide +kernel
theorem dX7_fit_11 : decode cX7_fit 11 = .ok (.aload_n 1, 1) := by decide +kernel
theorem dX7_fit_12 : decode cX7_fit 12 = .ok (.aload_n 0, 1) := by decide +kernel
theorem dX7_fit_13 : decode cX7_fit 13 = .ok (.getfield 9, 3) := by decide +kernel
theorem dX7_fit_16 : decode cX7_fit 16 = .ok (.iload_n 3, 1) := by decide +kernel
theorem dX7_fit_17 : decode cX7_fit 17 = .ok (.iaload, 1) := by decide +kernel
theorem dX7_fit_18 : decode cX7_fit 18 = .ok (.invokevirtual 22, 3) := by decide +kernel
theorem dX7_fit_21 : decode cX7_fit 21 = .ok (.aload_n 0, 1) := by decide +kernel
theorem dX7_fit_22 : decode cX7_fit 22 = .ok (.getfield 15, 3) := by decide +kernel
theorem dX7_fit_25 : decode cX7_fit 25 = .ok (.iload_n 3, 1) := by decide +kernel
theorem dX7_fit_26 : decode cX7_fit 26 = .ok (.iaload, 1) := by decide +kernel
theorem dX7_fit_27 : decode cX7_fit 27 = .ok (.if_icmp .eq 5, 3) := by decide +kernel
theorem dX7_fit_30 : decode cX7_fit 30 = .ok (.iconst 0, 1) := by decide +kernel
theorem dX7_fit_31 : decode cX7_fit 31 = .ok (.ireturn, 1) := by decide +kernel
theorem dX7_fit_32 : decode cX7_fit 32 = .ok (.iinc 3 1, 3) := by decide +kernel
theorem dX7_fit_35 : decode cX7_fit 35 = .ok (.goto (-33), 3) := by decide +kernel
theorem dX7_fit_38 : decode cX7_fit 38 = .ok (.iconst 1, 1) := by decide +kernel
theorem dX7_fit_39 : decode cX7_fit 39 = .ok (.ireturn, 1) := by decide +kernel
theorem dX8_init_0 : decode cX8_init 0 = .ok (.aload_n 0, 1) := by decide +kernel
theorem dX8_init_1 : decode cX8_init 1 = .ok (.invokespecial 3, 3) := by decide +kernel
theorem dX8_init_4 : decode cX8_init 4 = .ok (.aload_n 0, 1) := by decide +kernel
theorem dX8_init_5 : decode cX8_init 5 = .ok (.sipush 300, 3) := by decide +kernel
theorem dX8_init_8 : decode cX8_init 8 = .ok (.newarray .byte, 2) := by decide +kernel
theorem dX8_init_10 : decode cX8_init 10 = .ok (.putfield 9, 3) := by decide +kernel
theorem dX8_init_13 : decode cX8_init 13 = .ok (.aload_n 0, 1) := by decide +kernel
theorem dX8_init_14 : decode cX8_init 14 = .ok (.iconst 3, 1) := by decide +kernel
theorem dX8_init_15 : decode cX8_init 15 = .ok (.newarray .int, 2) := by decide +kernel
theorem dX8_init_17 : decode cX8_init 17 = .ok (.putfield 15, 3) := by decide +kernel
theorem dX8_init_20 : decode cX8_init 20 = .ok (.return_, 1) := by decide +kernel
theorem dX8_append_0 : decode cX8_append 0 = .ok (.iload_n 1, 1) := by decide +kernel
theorem dX8_append_1 : decode cX8_append 1 = .ok (.iconst 1, 1) := by decide +kernel
theorem dX8_append_2 : decode cX8_append 2 = .ok (.isub, 1) := by decide +kernel
theorem dX8_append_3 : decode cX8_append 3 = .ok (.istore 4, 2) := by decide +kernel
theorem dX8_append_5 : decode cX8_append 5 = .ok (.iload 4, 2) := by decide +kernel
theorem dX8_append_7 : decode cX8_append 7 = .ok (.ifCond .lt 47, 3) := by decide +kernel
theorem dX8_append_10 : decode cX8_append 10 = .ok (.aload_n 0, 1) := by decide +kernel
theorem dX8_append_11 : decode cX8_append 11 = .ok (.getfield 19, 3) := by decide +kernel
theorem dX8_append_14 : decode cX8_append 14 = .ok (.sipush 300, 3) := by decide +kernel
theorem dX8_append_17 : decode cX8_append 17 = .ok (.if_icmp .ge 37, 3) := by decide +kernel
theorem dX8_append_20 : decode cX8_append 20 = .ok (.aload_n 0, 1) := by decide +kernel
theorem dX8_append_21 : decode cX8_append 21 = .ok (.getfield 9, 3) := by decide +kernel
theorem dX8_append_24 : decode cX8_append 24 = .ok (.aload_n 0, 1) := by decide +kernel
theorem dX8_append_25 : decode cX8_append 25 = .ok (.getfield 19, 3) := by decide +kernel
theorem dX8_append_28 : decode cX8_append 28 = .ok (.lload_n 2, 1) := by decide +kernel
theorem dX8_append_29 : decode cX8_append 29 = .ok (.bipush 8, 2) := by decide +kernel
theorem dX8_append_31 : decode cX8_append 31 = .ok (.iload 4, 2) := by decide +kernel
theorem dX8_append_33 : decode cX8_append 33 = .ok (.imul, 1) := by decide +kernel
theorem dX8_append_34 : decode cX8_append 34 = .ok (.lshr, 1) := by decide +kernel
theorem dX8_append_35 : decode cX8_append 35 = .ok (.l2i, 1) := by decide +kernel
theorem dX8_append_36 : decode cX8_append 36 = .ok (.i2b, 1) := by decide +kernel
theorem dX8_append_37 : decode cX8_append 37 = .ok (.bastore, 1) := by decide +kernel
theorem dX8_append_38 : decode cX8_append 38 = .ok (.aload_n 0, 1) := by decide +kernel
theorem dX8_append_39 : decode cX8_append 39 = .ok (.dup, 1) := by decide +kernel
theorem dX8_append_40 : decode cX8_append 40 = .ok (.getfield 19, 3) := by decide +kernel
theorem dX8_append_43 : decode cX8_append 43 = .ok (.iconst 1, 1) := by decide +kernel
theorem dX8_append_44 : decode cX8_append 44 = .ok (.iadd, 1) := by decide +kernel
theorem dX8_append_45 : decode cX8_append 45 = .ok (.putfield 19, 3) := by decide +kernel
theorem dX8_append_48 : decode cX8_append 48 = .ok (.iinc 4 (-1), 3) := by decide +kernel
theorem dX8_append_51 : decode cX8_append 51 = .ok (.goto (-46), 3) := by decide +kernel
theorem dX8_append_54 : decode cX8_append 54 = .ok (.return_, 1) := by decide +kernel
theorem dX8_readInto_0 : decode cX8_readInto 0 = .ok (.aload_n 1, 1) := by decide +kernel
theorem dX8_readInto_1 : decode cX8_readInto 1 = .ok (.invokevirtual 23, 3) := by decide +kernel
theorem dX8_readInto_4 : decode cX8_readInto 4 = .ok (.iconst 0, 1) := by decide +kernel
theorem dX8_readInto_5 : decode cX8_readInto 5 = .ok (.istore_n 2, 1) := by decide +kernel
theorem dX8_readInto_6 : decode cX8_readInto 6 = .ok (.iconst 0, 1) := by decide +kernel
theorem dX8_readInto_7 : decode cX8_readInto 7 = .ok (.istore_n 3, 1) := by decide +kernel
theorem dX8_readInto_8 : decode cX8_readInto 8 = .ok (.iload_n 3, 1) := by decide +kernel
theorem dX8_readInto_9 : decode cX8_readInto 9 = .ok (.sipush 300, 3) := by decide +kernel
theorem dX8_readInto_12 : decode cX8_readInto 12 = .ok (.if_icmp .ge 61, 3) := by decide +kernel
theorem dX8_readInto_15 : decode cX8_readInto 15 = .ok (.iload_n 2, 1) := by decide +kernel
theorem dX8_readInto_16 : decode cX8_readInto 16 = .ok (.aload_n 0, 1) := by decide +kernel
theorem dX8_readInto_17 : decode cX8_readInto 17 = .ok (.getfield 19, 3) := by decide +kernel
theorem dX8_readInto_20 : decode cX8_readInto 20 = .ok (.if_icmp .ge 53, 3) := by decide +kernel
theorem dX8_readInto_23 : decode cX8_readInto 23 = .ok (.aload_n 0, 1) := by decide +kernel
theorem dX8_readInto_24 : decode cX8_readInto 24 = .ok (.getfield 9, 3) := by decide +kernel
theorem dX8_readInto_27 : decode cX8_readInto 27 = .ok (.iload_n 2, 1) := by decide +kernel
theorem dX8_readInto_28 : decode cX8_readInto 28 = .ok (.baload, 1) := by decide +kernel
theorem dX8_readInto_29 : decode cX8_readInto 29 = .ok (.istore 4, 2) := by decide +kernel
theorem dX8_readInto_31 : decode cX8_readInto 31 = .ok (.aload_n 0, 1) := by decide +kernel
theorem dX8_readInto_32 : decode cX8_readInto 32 = .ok (.iload_n 2, 1) := by decide +kernel
theorem dX8_readInto_33 : decode cX8_readInto 33 = .ok (.iconst 1, 1) := by decide +kernel
theorem dX8_readInto_34 : decode cX8_readInto 34 = .ok (.iadd, 1) := by decide +kernel
theorem dX8_readInto_35 : decode cX8_readInto 35 = .ok (.iload 4, 2) := by decide +kernel
theorem dX8_readInto_37 : decode cX8_readInto 37 = .ok (.invokestatic 28, 3) := by decide +kernel
theorem dX8_readInto_40 : decode cX8_readInto 40 = .ok (.invokevirtual 32, 3) := by decide +kernel
theorem dX8_readInto_43 : decode cX8_readInto 43 = .ok (.istore 5, 2) := by decide +kernel
theorem dX8_readInto_45 : decode cX8_readInto 45 = .ok (.iload 5, 2) := by decide +kernel
theorem dX8_readInto_47 : decode cX8_readInto 47 = .ok (.bipush (-4), 2) := by decide +kernel
theorem dX8_readInto_49 : decode cX8_readInto 49 = .ok (.if_icmp .eq 13, 3) := by decide +kernel
theorem dX8_readInto_52 : decode cX8_readInto 52 = .ok (.aload_n 0, 1) := by decide +kernel
theorem dX8_readInto_53 : decode cX8_readInto 53 = .ok (.aload_n 1, 1) := by decide +kernel
theorem dX8_readInto_54 : decode cX8_readInto 54 = .ok (.iload 4, 2) := by decide +kernel
theorem dX8_readInto_56 : decode cX8_readInto 56 = .ok (.invokevirtual 36, 3) := by decide +kernel
theorem dX8_readInto_59 : decode cX8_readInto 59 = .ok (.ifCond .ne 5, 3) := by decide +kernel
theorem dX8_readInto_62 : decode cX8_readInto 62 = .ok (.iload_n 2, 1) := by decide +kernel
theorem dX8_readInto_63 : decode cX8_readInto 63 = .ok (.ireturn, 1) := by decide +kernel
theorem dX8_readInto_64 : decode cX8_readInto 64 = .ok (.iload 5, 2) := by decide +kernel
theorem dX8_readInto_66 : decode cX8_readInto 66 = .ok (.istore_n 2, 1) := by decide +kernel
theorem dX8_readInto_67 : decode cX8_readInto 67 = .ok (.iinc 3 1, 3) := by decide +kernel
theorem dX8_readInto_70 : decode cX8_readInto 70 = .ok (.goto (-62), 3) := by decide +kernel
theorem dX8_readInto_73 : decode cX8_readInto 73 = .ok (.bipush (-4), 2) := by decide +kernel
theorem dX8_readInto_75 : decode cX8_readInto 75 = .ok (.ireturn, 1) := by decide +kernel
theorem dX8_numbersOf_0 : decode cX8_numbersOf 0 = .ok (.iload_n 0, 1) := by decide +kernel
theorem dX8_numbersOf_1 : decode cX8_numbersOf 1 = .ok (.lookupswitch 61 #[(99, 57), (108, 53), (109, 51), (115, 59), (119, 55)], 51) := by decide +kernel
theorem dX8_numbersOf_52 : decode cX8_numbersOf 52 = .ok (.iconst 1, 1) := by decide +kernel
theorem dX8_numbersOf_53 : decode cX8_numbersOf 53 = .ok (.ireturn, 1) := by decide +kernel
theorem dX8_numbersOf_54 : decode cX8_numbersOf 54 = .ok (.iconst 2, 1) := by decide +kernel
theorem dX8_numbersOf_55 : decode cX8_numbersOf 55 = .ok (.ireturn, 1) := by decide +kernel
theorem dX8_numbersOf_56 : decode cX8_numbersOf 56 = .ok (.iconst 3, 1) := by decide +kernel
theorem dX8_numbersOf_57 : decode cX8_numbersOf 57 = .ok (.ireturn, 1) := by decide +kernel
theorem dX8_numbersOf_58 : decode cX8_numbersOf 58 = .ok (.iconst 1, 1) := by decide +kernel
theorem dX8_numbersOf_59 : decode cX8_numbersOf 59 = .ok (.ireturn, 1) := by decide +kernel
theorem dX8_numbersOf_60 : decode cX8_numbersOf 60 = .ok (.iconst 1, 1) := by decide +kernel
theorem dX8_numbersOf_61 : decode cX8_numbersOf 61 = .ok (.ireturn, 1) := by decide +kernel
theorem dX8_numbersOf_62 : decode cX8_numbersOf 62 = .ok (.iconst 0, 1) := by decide +kernel
theorem dX8_numbersOf_63 : decode cX8_numbersOf 63 = .ok (.ireturn, 1) := by decide +kernel
theorem dX8_tell_0 : decode cX8_tell 0 = .ok (.iload_n 2, 1) := by decide +kernel
theorem dX8_tell_1 : decode cX8_tell 1 = .ok (.lookupswitch 124 #[(99, 102), (108, 62), (109, 51), (115, 113), (119, 79)], 51) := by decide +kernel
theorem dX8_tell_52 : decode cX8_tell 52 = .ok (.aload_n 1, 1) := by decide +kernel
theorem dX8_tell_53 : decode cX8_tell 53 = .ok (.aload_n 0, 1) := by decide +kernel
theorem dX8_tell_54 : decode cX8_tell 54 = .ok (.getfield 15, 3) := by decide +kernel
theorem dX8_tell_57 : decode cX8_tell 57 = .ok (.iconst 0, 1) := by decide +kernel
theorem dX8_tell_58 : decode cX8_tell 58 = .ok (.iaload, 1) := by decide +kernel
theorem dX8_tell_59 : decode cX8_tell 59 = .ok (.invokevirtual 40, 3) := by decide +kernel
theorem dX8_tell_62 : decode cX8_tell 62 = .ok (.ireturn, 1) := by decide +kernel
theorem dX8_tell_63 : decode cX8_tell 63 = .ok (.aload_n 1, 1) := by decide +kernel
theorem dX8_tell_64 : decode cX8_tell 64 = .ok (.aload_n 0, 1) := by decide +kernel
theorem dX8_tell_65 : decode cX8_tell 65 = .ok (.getfield 15, 3) := by decide +kernel
theorem dX8_tell_68 : decode cX8_tell 68 = .ok (.iconst 0, 1) := by decide +kernel
theorem dX8_tell_69 : decode cX8_tell 69 = .ok (.iaload, 1) := by decide +kernel
theorem dX8_tell_70 : decode cX8_tell 70 = .ok (.aload_n 0, 1) := by decide +kernel
theorem dX8_tell_71 : decode cX8_tell 71 = .ok (.getfield 15, 3) := by decide +kernel
theorem dX8_tell_74 : decode cX8_tell 74 = .ok (.iconst 1, 1) := by decide +kernel
theorem dX8_tell_75 : decode cX8_tell 75 = .ok (.iaload, 1) := by decide +kernel
theorem dX8_tell_76 : decode cX8_tell 76 = .ok (.invokevirtual 44, 3) := by decide +kernel
theorem dX8_tell_79 : decode cX8_tell 79 = .ok (.ireturn, 1) := by decide +kernel
theorem dX8_tell_80 : decode cX8_tell 80 = .ok (.aload_n 1, 1) := by decide +kernel
theorem dX8_tell_81 : decode cX8_tell 81 = .ok (.aload_n 0, 1) := by decide +kernel
theorem dX8_tell_82 : decode cX8_tell 82 = .ok (.getfield 15, 3) := by decide +kernel
theorem dX8_tell_85 : decode cX8_tell 85 = .ok (.iconst 0, 1) := by decide +kernel
theorem dX8_tell_86 : decode cX8_tell 86 = .ok (.iaload, 1) := by decide +kernel
theorem dX8_tell_87 : decode cX8_tell 87 = .ok (.aload_n 0, 1) := by decide +kernel
theorem dX8_tell_88 : decode cX8_tell 88 = .ok (.getfield 15, 3) := by decide +kernel
theorem dX8_tell_91 : decode cX8_tell 91 = .ok (.iconst 1, 1) := by decide +kernel
theorem dX8_tell_92 : decode cX8_tell 92 = .ok (.iaload, 1) := by decide +kernel
theorem dX8_tell_93 : decode cX8_tell 93 = .ok (.aload_n 0, 1) := by decide +kernel
theorem dX8_tell_94 : decode cX8_tell 94 = .ok (.getfield 15, 3) := by decide +kernel
theorem dX8_tell_97 : decode cX8_tell 97 = .ok (.iconst 2, 1) := by decide +kernel
theorem dX8_tell_98 : decode cX8_tell 98 = .ok (.iaload, 1) := by decide +kernel
theorem dX8_tell_99 : decode cX8_tell 99 = .ok (.invokevirtual 48, 3) := by decide +kernel
theorem dX8_tell_102 : decode cX8_tell 102 = .ok (.ireturn, 1) := by decide +kernel
theorem dX8_tell_103 : decode cX8_tell 103 = .ok (.aload_n 1, 1) := by decide +kernel
theorem dX8_tell_104 : decode cX8_tell 104 = .ok (.aload_n 0, 1) := by decide +kernel
theorem dX8_tell_105 : decode cX8_tell 105 = .ok (.getfield 15, 3) := by decide +kernel
theorem dX8_tell_108 : decode cX8_tell 108 = .ok (.iconst 0, 1) := by decide +kernel
theorem dX8_tell_109 : decode cX8_tell 109 = .ok (.iaload, 1) := by decide +kernel
theorem dX8_tell_110 : decode cX8_tell 110 = .ok (.invokevirtual 52, 3) := by decide +kernel
theorem dX8_tell_113 : decode cX8_tell 113 = .ok (.ireturn, 1) := by decide +kernel
theorem dX8_tell_114 : decode cX8_tell 114 = .ok (.aload_n 1, 1) := by decide +kernel
theorem dX8_tell_115 : decode cX8_tell 115 = .ok (.aload_n 0, 1) := by decide +kernel
theorem dX8_tell_116 : decode cX8_tell 116 = .ok (.getfield 15, 3) := by decide +kernel
theorem dX8_tell_119 : decode cX8_tell 119 = .ok (.iconst 0, 1) := by decide +kernel
theorem dX8_tell_120 : decode cX8_tell 120 = .ok (.iaload, 1) := by decide +kernel
theorem dX8_tell_121 : decode cX8_tell 121 = .ok (.invokevirtual 55, 3) := by decide +kernel
theorem dX8_tell_124 : decode cX8_tell 124 = .ok (.ireturn, 1) := by decide +kernel
theorem dX8_tell_125 : decode cX8_tell 125 = .ok (.iconst 0, 1) := by decide +kernel
theorem dX8_tell_126 : decode cX8_tell 126 = .ok (.ireturn, 1) := by decide +kernel
theorem dX8_readNumbers_0 : decode cX8_readNumbers 0 = .ok (.iload_n 1, 1) := by decide +kernel
theorem dX8_readNumbers_1 : decode cX8_readNumbers 1 = .ok (.istore_n 3, 1) := by decide +kernel
theorem dX8_readNumbers_2 : decode cX8_readNumbers 2 = .ok (.iconst 0, 1) := by decide +kernel
theorem dX8_readNumbers_3 : decode cX8_readNumbers 3 = .ok (.istore 4, 2) := by decide +kernel
theorem dX8_readNumbers_5 : decode cX8_readNumbers 5 = .ok (.iload 4, 2) := by decide +kernel
theorem dX8_readNumbers_7 : decode cX8_readNumbers 7 = .ok (.iload_n 2, 1) := by decide +kernel
theorem dX8_readNumbers_8 : decode cX8_readNumbers 8 = .ok (.if_icmp .ge 72, 3) := by decide +kernel
theorem dX8_readNumbers_11 : decode cX8_readNumbers 11 = .ok (.aload_n 0, 1) := by decide +kernel
theorem dX8_readNumbers_12 : decode cX8_readNumbers 12 = .ok (.iload_n 3, 1) := by decide +kernel
theorem dX8_readNumbers_13 : decode cX8_readNumbers 13 = .ok (.invokevirtual 58, 3) := by decide +kernel
theorem dX8_readNumbers_16 : decode cX8_readNumbers 16 = .ok (.istore 5, 2) := by decide +kernel
theorem dX8_readNumbers_18 : decode cX8_readNumbers 18 = .ok (.iload 5, 2) := by decide +kernel
theorem dX8_readNumbers_20 : decode cX8_readNumbers 20 = .ok (.ifCond .ne 6, 3) := by decide +kernel
theorem dX8_readNumbers_23 : decode cX8_readNumbers 23 = .ok (.bipush (-4), 2) := by decide +kernel
theorem dX8_readNumbers_25 : decode cX8_readNumbers 25 = .ok (.ireturn, 1) := by decide +kernel
theorem dX8_readNumbers_26 : decode cX8_readNumbers 26 = .ok (.aload_n 0, 1) := by decide +kernel
theorem dX8_readNumbers_27 : decode cX8_readNumbers 27 = .ok (.getfield 15, 3) := by decide +kernel
theorem dX8_readNumbers_30 : decode cX8_readNumbers 30 = .ok (.iload 4, 2) := by decide +kernel
theorem dX8_readNumbers_32 : decode cX8_readNumbers 32 = .ok (.aload_n 0, 1) := by decide +kernel
theorem dX8_readNumbers_33 : decode cX8_readNumbers 33 = .ok (.iload_n 3, 1) := by decide +kernel
theorem dX8_readNumbers_34 : decode cX8_readNumbers 34 = .ok (.iload 5, 2) := by decide +kernel
theorem dX8_readNumbers_36 : decode cX8_readNumbers 36 = .ok (.invokevirtual 61, 3) := by decide +kernel
theorem dX8_readNumbers_39 : decode cX8_readNumbers 39 = .ok (.iastore, 1) := by decide +kernel
theorem dX8_readNumbers_40 : decode cX8_readNumbers 40 = .ok (.iload_n 3, 1) := by decide +kernel
theorem dX8_readNumbers_41 : decode cX8_readNumbers 41 = .ok (.iload 5, 2) := by decide +kernel
theorem dX8_readNumbers_43 : decode cX8_readNumbers 43 = .ok (.iadd, 1) := by decide +kernel
theorem dX8_readNumbers_44 : decode cX8_readNumbers 44 = .ok (.istore_n 3, 1) := by decide +kernel
theorem dX8_readNumbers_45 : decode cX8_readNumbers 45 = .ok (.aload_n 0, 1) := by decide +kernel
theorem dX8_readNumbers_46 : decode cX8_readNumbers 46 = .ok (.iload_n 3, 1) := by decide +kernel
theorem dX8_readNumbers_47 : decode cX8_readNumbers 47 = .ok (.iload 4, 2) := by decide +kernel
theorem dX8_readNumbers_49 : decode cX8_readNumbers 49 = .ok (.iload_n 2, 1) := by decide +kernel
theorem dX8_readNumbers_50 : decode cX8_readNumbers 50 = .ok (.iconst 1, 1) := by decide +kernel
theorem dX8_readNumbers_51 : decode cX8_readNumbers 51 = .ok (.isub, 1) := by decide +kernel
theorem dX8_readNumbers_52 : decode cX8_readNumbers 52 = .ok (.if_icmp .ne 8, 3) := by decide +kernel
theorem dX8_readNumbers_55 : decode cX8_readNumbers 55 = .ok (.bipush 59, 2) := by decide +kernel
theorem dX8_readNumbers_57 : decode cX8_readNumbers 57 = .ok (.goto 5, 3) := by decide +kernel
theorem dX8_readNumbers_60 : decode cX8_readNumbers 60 = .ok (.bipush 44, 2) := by decide +kernel
theorem dX8_readNumbers_62 : decode cX8_readNumbers 62 = .ok (.invokevirtual 64, 3) := by decide +kernel
theorem dX8_readNumbers_65 : decode cX8_readNumbers 65 = .ok (.ifCond .ne 6, 3) := by decide +kernel
theorem dX8_readNumbers_68 : decode cX8_readNumbers 68 = .ok (.bipush (-4), 2) := by decide +kernel
theorem dX8_readNumbers_70 : decode cX8_readNumbers 70 = .ok (.ireturn, 1) := by decide +kernel
theorem dX8_readNumbers_71 : decode cX8_readNumbers 71 = .ok (.iinc 3 1, 3) := by decide +kernel
theorem dX8_readNumbers_74 : decode cX8_readNumbers 74 = .ok (.iinc 4 1, 3) := by decide +kernel
theorem dX8_readNumbers_77 : decode cX8_readNumbers 77 = .ok (.goto (-72), 3) := by decide +kernel
theorem dX8_readNumbers_80 : decode cX8_readNumbers 80 = .ok (.iload_n 3, 1) := by decide +kernel
theorem dX8_readNumbers_81 : decode cX8_readNumbers 81 = .ok (.ireturn, 1) := by decide +kernel
theorem dX8_figuresAt_0 : decode cX8_figuresAt 0 = .ok (.aload_n 0, 1) := by decide +kernel
theorem dX8_figuresAt_1 : decode cX8_figuresAt 1 = .ok (.iload_n 1, 1) := by decide +kernel
theorem dX8_figuresAt_2 : decode cX8_figuresAt 2 = .ok (.invokevirtual 68, 3) := by decide +kernel
theorem dX8_figuresAt_5 : decode cX8_figuresAt 5 = .ok (.ifCond .ne 5, 3) := by decide +kernel
theorem dX8_figuresAt_8 : decode cX8_figuresAt 8 = .ok (.iconst 0, 1) := by decide +kernel
theorem dX8_figuresAt_9 : decode cX8_figuresAt 9 = .ok (.ireturn, 1) := by decide +kernel
theorem dX8_figuresAt_10 : decode cX8_figuresAt 10 = .ok (.aload_n 0, 1) := by decide +kernel
theorem dX8_figuresAt_11 : decode cX8_figuresAt 11 = .ok (.iload_n 1, 1) := by decide +kernel
theorem dX8_figuresAt_12 : decode cX8_figuresAt 12 = .ok (.iconst 1, 1) := by decide +kernel
theorem dX8_figuresAt_13 : decode cX8_figuresAt 13 = .ok (.iadd, 1) := by decide +kernel
theorem dX8_figuresAt_14 : decode cX8_figuresAt 14 = .ok (.invokevirtual 68, 3) := by decide +kernel
theorem dX8_figuresAt_17 : decode cX8_figuresAt 17 = .ok (.ifCond .eq 7, 3) := by decide +kernel
theorem dX8_figuresAt_20 : decode cX8_figuresAt 20 = .ok (.iconst 2, 1) := by decide +kernel
theorem dX8_figuresAt_21 : decode cX8_figuresAt 21 = .ok (.goto 4, 3) := by decide +kernel
theorem dX8_figuresAt_24 : decode cX8_figuresAt 24 = .ok (.iconst 1, 1) := by decide +kernel
theorem dX8_figuresAt_25 : decode cX8_figuresAt 25 = .ok (.ireturn, 1) := by decide +kernel
theorem dX8_numberAt_0 : decode cX8_numberAt 0 = .ok (.iconst 0, 1) := by decide +kernel
theorem dX8_numberAt_1 : decode cX8_numberAt 1 = .ok (.istore_n 3, 1) := by decide +kernel
theorem dX8_numberAt_2 : decode cX8_numberAt 2 = .ok (.iconst 0, 1) := by decide +kernel
theorem dX8_numberAt_3 : decode cX8_numberAt 3 = .ok (.istore 4, 2) := by decide +kernel
theorem dX8_numberAt_5 : decode cX8_numberAt 5 = .ok (.iload 4, 2) := by decide +kernel
theorem dX8_numberAt_7 : decode cX8_numberAt 7 = .ok (.iload_n 2, 1) := by decide +kernel
theorem dX8_numberAt_8 : decode cX8_numberAt 8 = .ok (.if_icmp .ge 27, 3) := by decide +kernel
theorem dX8_numberAt_11 : decode cX8_numberAt 11 = .ok (.bipush 10, 2) := by decide +kernel
theorem dX8_numberAt_13 : decode cX8_numberAt 13 = .ok (.iload_n 3, 1) := by decide +kernel
theorem dX8_numberAt_14 : decode cX8_numberAt 14 = .ok (.imul, 1) := by decide +kernel
theorem dX8_numberAt_15 : decode cX8_numberAt 15 = .ok (.aload_n 0, 1) := by decide +kernel
theorem dX8_numberAt_16 : decode cX8_numberAt 16 = .ok (.getfield 9, 3) := by decide +kernel
theorem dX8_numberAt_19 : decode cX8_numberAt 19 = .ok (.iload_n 1, 1) := by decide +kernel
theorem dX8_numberAt_20 : decode cX8_numberAt 20 = .ok (.iload 4, 2) := by decide +kernel
theorem dX8_numberAt_22 : decode cX8_numberAt 22 = .ok (.iadd, 1) := by decide +kernel
theorem dX8_numberAt_23 : decode cX8_numberAt 23 = .ok (.baload, 1) := by decide +kernel
theorem dX8_numberAt_24 : decode cX8_numberAt 24 = .ok (.iadd, 1) := by decide +kernel
theorem dX8_numberAt_25 : decode cX8_numberAt 25 = .ok (.bipush 48, 2) := by decide +kernel
theorem dX8_numberAt_27 : decode cX8_numberAt 27 = .ok (.isub, 1) := by decide +kernel
theorem dX8_numberAt_28 : decode cX8_numberAt 28 = .ok (.istore_n 3, 1) := by decide +kernel
theorem dX8_numberAt_29 : decode cX8_numberAt 29 = .ok (.iinc 4 1, 3) := by decide +kernel
theorem dX8_numberAt_32 : decode cX8_numberAt 32 = .ok (.goto (-27), 3) := by decide +kernel
theorem dX8_numberAt_35 : decode cX8_numberAt 35 = .ok (.iload_n 3, 1) := by decide +kernel
theorem dX8_numberAt_36 : decode cX8_numberAt 36 = .ok (.ireturn, 1) := by decide +kernel
theorem dX8_isFigureAt_0 : decode cX8_isFigureAt 0 = .ok (.iload_n 1, 1) := by decide +kernel
theorem dX8_isFigureAt_1 : decode cX8_isFigureAt 1 = .ok (.aload_n 0, 1) := by decide +kernel
theorem dX8_isFigureAt_2 : decode cX8_isFigureAt 2 = .ok (.getfield 19, 3) := by decide +kernel
theorem dX8_isFigureAt_5 : decode cX8_isFigureAt 5 = .ok (.if_icmp .ge 29, 3) := by decide +kernel
theorem dX8_isFigureAt_8 : decode cX8_isFigureAt 8 = .ok (.aload_n 0, 1) := by decide +kernel
theorem dX8_isFigureAt_9 : decode cX8_isFigureAt 9 = .ok (.getfield 9, 3) := by decide +kernel
theorem dX8_isFigureAt_12 : decode cX8_isFigureAt 12 = .ok (.iload_n 1, 1) := by decide +kernel
theorem dX8_isFigureAt_13 : decode cX8_isFigureAt 13 = .ok (.baload, 1) := by decide +kernel
theorem dX8_isFigureAt_14 : decode cX8_isFigureAt 14 = .ok (.bipush 48, 2) := by decide +kernel
theorem dX8_isFigureAt_16 : decode cX8_isFigureAt 16 = .ok (.if_icmp .lt 18, 3) := by decide +kernel
theorem dX8_isFigureAt_19 : decode cX8_isFigureAt 19 = .ok (.aload_n 0, 1) := by decide +kernel
theorem dX8_isFigureAt_20 : decode cX8_isFigureAt 20 = .ok (.getfield 9, 3) := by decide +kernel
theorem dX8_isFigureAt_23 : decode cX8_isFigureAt 23 = .ok (.iload_n 1, 1) := by decide +kernel
theorem dX8_isFigureAt_24 : decode cX8_isFigureAt 24 = .ok (.baload, 1) := by decide +kernel
theorem dX8_isFigureAt_25 : decode cX8_isFigureAt 25 = .ok (.bipush 57, 2) := by decide +kernel
theorem dX8_isFigureAt_27 : decode cX8_isFigureAt 27 = .ok (.if_icmp .gt 7, 3) := by decide +kernel
theorem dX8_isFigureAt_30 : decode cX8_isFigureAt 30 = .ok (.iconst 1, 1) := by decide +kernel
theorem dX8_isFigureAt_31 : decode cX8_isFigureAt 31 = .ok (.goto 4, 3) := by decide +kernel
theorem dX8_isFigureAt_34 : decode cX8_isFigureAt 34 = .ok (.iconst 0, 1) := by decide +kernel
theorem dX8_isFigureAt_35 : decode cX8_isFigureAt 35 = .ok (.ireturn, 1) := by decide +kernel
theorem dX8_isSignAt_0 : decode cX8_isSignAt 0 = .ok (.iload_n 1, 1) := by decide +kernel
theorem dX8_isSignAt_1 : decode cX8_isSignAt 1 = .ok (.aload_n 0, 1) := by decide +kernel
theorem dX8_isSignAt_2 : decode cX8_isSignAt 2 = .ok (.getfield 19, 3) := by decide +kernel
theorem dX8_isSignAt_5 : decode cX8_isSignAt 5 = .ok (.if_icmp .ge 17, 3) := by decide +kernel
theorem dX8_isSignAt_8 : decode cX8_isSignAt 8 = .ok (.aload_n 0, 1) := by decide +kernel
theorem dX8_isSignAt_9 : decode cX8_isSignAt 9 = .ok (.getfield 9, 3) := by decide +kernel
theorem dX8_isSignAt_12 : decode cX8_isSignAt 12 = .ok (.iload_n 1, 1) := by decide +kernel
theorem dX8_isSignAt_13 : decode cX8_isSignAt 13 = .ok (.baload, 1) := by decide +kernel
theorem dX8_isSignAt_14 : decode cX8_isSignAt 14 = .ok (.iload_n 2, 1) := by decide +kernel
theorem dX8_isSignAt_15 : decode cX8_isSignAt 15 = .ok (.if_icmp .ne 7, 3) := by decide +kernel
theorem dX8_isSignAt_18 : decode cX8_isSignAt 18 = .ok (.iconst 1, 1) := by decide +kernel
theorem dX8_isSignAt_19 : decode cX8_isSignAt 19 = .ok (.goto 4, 3) := by decide +kernel
theorem dX8_isSignAt_22 : decode cX8_isSignAt 22 = .ok (.iconst 0, 1) := by decide +kernel
theorem dX8_isSignAt_23 : decode cX8_isSignAt 23 = .ok (.ireturn, 1) := by decide +kernel
theorem dX9_init_0 : decode cX9_init 0 = .ok (.aload_n 0, 1) := by decide +kernel
theorem dX9_init_1 : decode cX9_init 1 = .ok (.invokespecial 3, 3) := by decide +kernel
theorem dX9_init_4 : decode cX9_init 4 = .ok (.aload_n 0, 1) := by decide +kernel
theorem dX9_init_5 : decode cX9_init 5 = .ok (.new 9, 3) := by decide +kernel
theorem dX9_init_8 : decode cX9_init 8 = .ok (.dup, 1) := by decide +kernel
theorem dX9_init_9 : decode cX9_init 9 = .ok (.invokespecial 11, 3) := by decide +kernel
theorem dX9_init_12 : decode cX9_init 12 = .ok (.putfield 12, 3) := by decide +kernel
theorem dX9_init_15 : decode cX9_init 15 = .ok (.aload_n 0, 1) := by decide +kernel
theorem dX9_init_16 : decode cX9_init 16 = .ok (.new 16, 3) := by decide +kernel
theorem dX9_init_19 : decode cX9_init 19 = .ok (.dup, 1) := by decide +kernel
theorem dX9_init_20 : decode cX9_init 20 = .ok (.invokespecial 18, 3) := by decide +kernel
theorem dX9_init_23 : decode cX9_init 23 = .ok (.putfield 19, 3) := by decide +kernel
theorem dX9_init_26 : decode cX9_init 26 = .ok (.aload_n 0, 1) := by decide +kernel
theorem dX9_init_27 : decode cX9_init 27 = .ok (.new 16, 3) := by decide +kernel
theorem dX9_init_30 : decode cX9_init 30 = .ok (.dup, 1) := by decide +kernel
theorem dX9_init_31 : decode cX9_init 31 = .ok (.invokespecial 18, 3) := by decide +kernel
theorem dX9_init_34 : decode cX9_init 34 = .ok (.putfield 23, 3) := by decide +kernel
theorem dX9_init_37 : decode cX9_init 37 = .ok (.aload_n 0, 1) := by decide +kernel
theorem dX9_init_38 : decode cX9_init 38 = .ok (.new 26, 3) := by decide +kernel
theorem dX9_init_41 : decode cX9_init 41 = .ok (.dup, 1) := by decide +kernel
theorem dX9_init_42 : decode cX9_init 42 = .ok (.invokespecial 28, 3) := by decide +kernel
theorem dX9_init_45 : decode cX9_init 45 = .ok (.putfield 29, 3) := by decide +kernel
theorem dX9_init_48 : decode cX9_init 48 = .ok (.aload_n 0, 1) := by decide +kernel
theorem dX9_init_49 : decode cX9_init 49 = .ok (.new 33, 3) := by decide +kernel
theorem dX9_init_52 : decode cX9_init 52 = .ok (.dup, 1) := by decide +kernel
theorem dX9_init_53 : decode cX9_init 53 = .ok (.invokespecial 35, 3) := by decide +kernel
theorem dX9_init_56 : decode cX9_init 56 = .ok (.putfield 36, 3) := by decide +kernel
theorem dX9_init_59 : decode cX9_init 59 = .ok (.aload_n 0, 1) := by decide +kernel
theorem dX9_init_60 : decode cX9_init 60 = .ok (.new 40, 3) := by decide +kernel
theorem dX9_init_63 : decode cX9_init 63 = .ok (.dup, 1) := by decide +kernel
theorem dX9_init_64 : decode cX9_init 64 = .ok (.invokespecial 42, 3) := by decide +kernel
theorem dX9_init_67 : decode cX9_init 67 = .ok (.putfield 43, 3) := by decide +kernel
theorem dX9_init_70 : decode cX9_init 70 = .ok (.aload_n 0, 1) := by decide +kernel
theorem dX9_init_71 : decode cX9_init 71 = .ok (.new 47, 3) := by decide +kernel
theorem dX9_init_74 : decode cX9_init 74 = .ok (.dup, 1) := by decide +kernel
theorem dX9_init_75 : decode cX9_init 75 = .ok (.invokespecial 49, 3) := by decide +kernel
theorem dX9_init_78 : decode cX9_init 78 = .ok (.putfield 50, 3) := by decide +kernel
theorem dX9_init_81 : decode cX9_init 81 = .ok (.aload_n 0, 1) := by decide +kernel
theorem dX9_init_82 : decode cX9_init 82 = .ok (.new 54, 3) := by decide +kernel
theorem dX9_init_85 : decode cX9_init 85 = .ok (.dup, 1) := by decide +kernel
theorem dX9_init_86 : decode cX9_init 86 = .ok (.invokespecial 56, 3) := by decide +kernel
theorem dX9_init_89 : decode cX9_init 89 = .ok (.putfield 57, 3) := by decide +kernel
theorem dX9_init_92 : decode cX9_init 92 = .ok (.aload_n 0, 1) := by decide +kernel
theorem dX9_init_93 : decode cX9_init 93 = .ok (.new 61, 3) := by decide +kernel
theorem dX9_init_96 : decode cX9_init 96 = .ok (.dup, 1) := by decide +kernel
theorem dX9_init_97 : decode cX9_init 97 = .ok (.invokespecial 63, 3) := by decide +kernel
theorem dX9_init_100 : decode cX9_init 100 = .ok (.putfield 64, 3) := by decide +kernel
theorem dX9_init_103 : decode cX9_init 103 = .ok (.aload_n 0, 1) := by decide +kernel
theorem dX9_init_104 : decode cX9_init 104 = .ok (.new 68, 3) := by decide +kernel
theorem dX9_init_107 : decode cX9_init 107 = .ok (.dup, 1) := by decide +kernel
theorem dX9_init_108 : decode cX9_init 108 = .ok (.invokespecial 70, 3) := by decide +kernel
theorem dX9_init_111 : decode cX9_init 111 = .ok (.putfield 71, 3) := by decide +kernel
theorem dX9_init_114 : decode cX9_init 114 = .ok (.aload_n 0, 1) := by decide +kernel
theorem dX9_init_115 : decode cX9_init 115 = .ok (.getfield 19, 3) := by decide +kernel
theorem dX9_init_118 : decode cX9_init 118 = .ok (.invokevirtual 75, 3) := by decide +kernel
theorem dX9_init_121 : decode cX9_init 121 = .ok (.aload_n 0, 1) := by decide +kernel
theorem dX9_init_122 : decode cX9_init 122 = .ok (.getfield 19, 3) := by decide +kernel
theorem dX9_init_125 : decode cX9_init 125 = .ok (.iconst 1, 1) := by decide +kernel
theorem dX9_init_126 : decode cX9_init 126 = .ok (.invokevirtual 78, 3) := by decide +kernel
theorem dX9_init_129 : decode cX9_init 129 = .ok (.pop, 1) := by decide +kernel
theorem dX9_init_130 : decode cX9_init 130 = .ok (.aload_n 0, 1) := by decide +kernel
theorem dX9_init_131 : decode cX9_init 131 = .ok (.getfield 19, 3) := by decide +kernel
theorem dX9_init_134 : decode cX9_init 134 = .ok (.bipush 8, 2) := by decide +kernel
theorem dX9_init_136 : decode cX9_init 136 = .ok (.iconst 0, 1) := by decide +kernel
theorem dX9_init_137 : decode cX9_init 137 = .ok (.invokevirtual 82, 3) := by decide +kernel
theorem dX9_init_140 : decode cX9_init 140 = .ok (.pop, 1) := by decide +kernel
theorem dX9_init_141 : decode cX9_init 141 = .ok (.aload_n 0, 1) := by decide +kernel
theorem dX9_init_142 : decode cX9_init 142 = .ok (.getfield 19, 3) := by decide +kernel
theorem dX9_init_145 : decode cX9_init 145 = .ok (.iconst 5, 1) := by decide +kernel
theorem dX9_init_146 : decode cX9_init 146 = .ok (.iconst 0, 1) := by decide +kernel
theorem dX9_init_147 : decode cX9_init 147 = .ok (.invokevirtual 82, 3) := by decide +kernel
theorem dX9_init_150 : decode cX9_init 150 = .ok (.pop, 1) := by decide +kernel
theorem dX9_init_151 : decode cX9_init 151 = .ok (.aload_n 0, 1) := by decide +kernel
theorem dX9_init_152 : decode cX9_init 152 = .ok (.getfield 19, 3) := by decide +kernel
theorem dX9_init_155 : decode cX9_init 155 = .ok (.iconst 0, 1) := by decide +kernel
theorem dX9_init_156 : decode cX9_init 156 = .ok (.iconst 0, 1) := by decide +kernel
theorem dX9_init_157 : decode cX9_init 157 = .ok (.bipush 9, 2) := by decide +kernel
theorem dX9_init_159 : decode cX9_init 159 = .ok (.invokevirtual 86, 3) := by decide +kernel
theorem dX9_init_162 : decode cX9_init 162 = .ok (.pop, 1) := by decide +kernel
theorem dX9_init_163 : decode cX9_init 163 = .ok (.aload_n 0, 1) := by decide +kernel
theorem dX9_init_164 : decode cX9_init 164 = .ok (.getfield 19, 3) := by decide +kernel
theorem dX9_init_167 : decode cX9_init 167 = .ok (.iconst 1, 1) := by decide +kernel
theorem dX9_init_168 : decode cX9_init 168 = .ok (.iconst 0, 1) := by decide +kernel
theorem dX9_init_169 : decode cX9_init 169 = .ok (.bipush 6, 2) := by decide +kernel
theorem dX9_init_171 : decode cX9_init 171 = .ok (.invokevirtual 86, 3) := by decide +kernel
theorem dX9_init_174 : decode cX9_init 174 = .ok (.pop, 1) := by decide +kernel
theorem dX9_init_175 : decode cX9_init 175 = .ok (.return_, 1) := by decide +kernel
theorem dX9_write_0 : decode cX9_write 0 = .ok (.iload_n 1, 1) := by decide +kernel
theorem dX9_write_1 : decode cX9_write 1 = .ok (.iconst 1, 1) := by decide +kernel
theorem dX9_write_2 : decode cX9_write 2 = .ok (.bipush 8, 2) := by decide +kernel
theorem dX9_write_4 : decode cX9_write 4 = .ok (.invokestatic 90, 3) := by decide +kernel
theorem dX9_write_7 : decode cX9_write 7 = .ok (.ifCond .ne 5, 3) := by decide +kernel
theorem dX9_write_10 : decode cX9_write 10 = .ok (.iconst (-1), 1) := by decide +kernel
theorem dX9_write_11 : decode cX9_write 11 = .ok (.ireturn, 1) := by decide +kernel
theorem dX9_write_12 : decode cX9_write 12 = .ok (.aload_n 0, 1) := by decide +kernel
theorem dX9_write_13 : decode cX9_write 13 = .ok (.getfield 12, 3) := by decide +kernel
theorem dX9_write_16 : decode cX9_write 16 = .ok (.getfield 93, 3) := by decide +kernel
theorem dX9_write_19 : decode cX9_write 19 = .ok (.iload_n 1, 1) := by decide +kernel
theorem dX9_write_20 : decode cX9_write 20 = .ok (.iadd, 1) := by decide +kernel
theorem dX9_write_21 : decode cX9_write 21 = .ok (.sipush 300, 3) := by decide +kernel
theorem dX9_write_24 : decode cX9_write 24 = .ok (.if_icmp .le 6, 3) := by decide +kernel
theorem dX9_write_27 : decode cX9_write 27 = .ok (.bipush (-3), 2) := by decide +kernel
theorem dX9_write_29 : decode cX9_write 29 = .ok (.ireturn, 1) := by decide +kernel
theorem dX9_write_30 : decode cX9_write 30 = .ok (.aload_n 0, 1) := by decide +kernel
theorem dX9_write_31 : decode cX9_write 31 = .ok (.getfield 12, 3) := by decide +kernel
theorem dX9_write_34 : decode cX9_write 34 = .ok (.iload_n 1, 1) := by decide +kernel
theorem dX9_write_35 : decode cX9_write 35 = .ok (.lload_n 2, 1) := by decide +kernel
theorem dX9_write_36 : decode cX9_write 36 = .ok (.invokevirtual 97, 3) := by decide +kernel
theorem dX9_write_39 : decode cX9_write 39 = .ok (.aload_n 0, 1) := by decide +kernel
theorem dX9_write_40 : decode cX9_write 40 = .ok (.getfield 12, 3) := by decide +kernel
theorem dX9_write_43 : decode cX9_write 43 = .ok (.getfield 93, 3) := by decide +kernel
theorem dX9_write_46 : decode cX9_write 46 = .ok (.ireturn, 1) := by decide +kernel
theorem dX9_wipe_0 : decode cX9_wipe 0 = .ok (.aload_n 0, 1) := by decide +kernel
theorem dX9_wipe_1 : decode cX9_wipe 1 = .ok (.getfield 12, 3) := by decide +kernel
theorem dX9_wipe_4 : decode cX9_wipe 4 = .ok (.getfield 93, 3) := by decide +kernel
theorem dX9_wipe_7 : decode cX9_wipe 7 = .ok (.istore_n 1, 1) := by decide +kernel
theorem dX9_wipe_8 : decode cX9_wipe 8 = .ok (.aload_n 0, 1) := by decide +kernel
theorem dX9_wipe_9 : decode cX9_wipe 9 = .ok (.getfield 12, 3) := by decide +kernel
theorem dX9_wipe_12 : decode cX9_wipe 12 = .ok (.iconst 0, 1) := by decide +kernel
theorem dX9_wipe_13 : decode cX9_wipe 13 = .ok (.putfield 93, 3) := by decide +kernel
theorem dX9_wipe_16 : decode cX9_wipe 16 = .ok (.iload_n 1, 1) := by decide +kernel
theorem dX9_wipe_17 : decode cX9_wipe 17 = .ok (.ireturn, 1) := by decide +kernel
theorem dX9_fault_0 : decode cX9_fault 0 = .ok (.aload_n 0, 1) := by decide +kernel
theorem dX9_fault_1 : decode cX9_fault 1 = .ok (.getfield 12, 3) := by decide +kernel
theorem dX9_fault_4 : decode cX9_fault 4 = .ok (.aload_n 0, 1) := by decide +kernel
theorem dX9_fault_5 : decode cX9_fault 5 = .ok (.getfield 23, 3) := by decide +kernel
theorem dX9_fault_8 : decode cX9_fault 8 = .ok (.invokevirtual 101, 3) := by decide +kernel
theorem dX9_fault_11 : decode cX9_fault 11 = .ok (.ireturn, 1) := by decide +kernel
theorem dX9_lay_0 : decode cX9_lay 0 = .ok (.aload_n 0, 1) := by decide +kernel
theorem dX9_lay_1 : decode cX9_lay 1 = .ok (.getfield 12, 3) := by decide +kernel
theorem dX9_lay_4 : decode cX9_lay 4 = .ok (.aload_n 0, 1) := by decide +kernel
theorem dX9_lay_5 : decode cX9_lay 5 = .ok (.getfield 23, 3) := by decide +kernel
theorem dX9_lay_8 : decode cX9_lay 8 = .ok (.invokevirtual 101, 3) := by decide +kernel
theorem dX9_lay_11 : decode cX9_lay 11 = .ok (.bipush (-4), 2) := by decide +kernel
theorem dX9_lay_13 : decode cX9_lay 13 = .ok (.if_icmp .ne 23, 3) := by decide +kernel
theorem dX9_lay_16 : decode cX9_lay 16 = .ok (.aload_n 0, 1) := by decide +kernel
theorem dX9_lay_17 : decode cX9_lay 17 = .ok (.getfield 23, 3) := by decide +kernel
theorem dX9_lay_20 : decode cX9_lay 20 = .ok (.getfield 105, 3) := by decide +kernel
theorem dX9_lay_23 : decode cX9_lay 23 = .ok (.ifCond .eq 13, 3) := by decide +kernel
theorem dX9_lay_26 : decode cX9_lay 26 = .ok (.aload_n 0, 1) := by decide +kernel
theorem dX9_lay_27 : decode cX9_lay 27 = .ok (.getfield 23, 3) := by decide +kernel
theorem dX9_lay_30 : decode cX9_lay 30 = .ok (.getfield 108, 3) := by decide +kernel
theorem dX9_lay_33 : decode cX9_lay 33 = .ok (.ifCond .ne 6, 3) := by decide +kernel
theorem dX9_lay_36 : decode cX9_lay 36 = .ok (.bipush (-2), 2) := by decide +kernel
theorem dX9_lay_38 : decode cX9_lay 38 = .ok (.ireturn, 1) := by decide +kernel
theorem dX9_lay_39 : decode cX9_lay 39 = .ok (.aload_n 0, 1) := by decide +kernel
theorem dX9_lay_40 : decode cX9_lay 40 = .ok (.getfield 19, 3) := by decide +kernel
theorem dX9_lay_43 : decode cX9_lay 43 = .ok (.aload_n 0, 1) := by decide +kernel
theorem dX9_lay_44 : decode cX9_lay 44 = .ok (.getfield 23, 3) := by decide +kernel
theorem dX9_lay_47 : decode cX9_lay 47 = .ok (.invokevirtual 111, 3) := by decide +kernel
theorem dX9_lay_50 : decode cX9_lay 50 = .ok (.aload_n 0, 1) := by decide +kernel
theorem dX9_lay_51 : decode cX9_lay 51 = .ok (.getfield 57, 3) := by decide +kernel
theorem dX9_lay_54 : decode cX9_lay 54 = .ok (.iconst 0, 1) := by decide +kernel
theorem dX9_lay_55 : decode cX9_lay 55 = .ok (.putfield 115, 3) := by decide +kernel
theorem dX9_lay_58 : decode cX9_lay 58 = .ok (.aload_n 0, 1) := by decide +kernel
theorem dX9_lay_59 : decode cX9_lay 59 = .ok (.getfield 64, 3) := by decide +kernel
theorem dX9_lay_62 : decode cX9_lay 62 = .ok (.iconst 0, 1) := by decide +kernel
theorem dX9_lay_63 : decode cX9_lay 63 = .ok (.putfield 118, 3) := by decide +kernel
theorem dX9_lay_66 : decode cX9_lay 66 = .ok (.aload_n 0, 1) := by decide +kernel
theorem dX9_lay_67 : decode cX9_lay 67 = .ok (.getfield 71, 3) := by decide +kernel
theorem dX9_lay_70 : decode cX9_lay 70 = .ok (.iconst 0, 1) := by decide +kernel
theorem dX9_lay_71 : decode cX9_lay 71 = .ok (.putfield 119, 3) := by decide +kernel
theorem dX9_lay_74 : decode cX9_lay 74 = .ok (.aload_n 0, 1) := by decide +kernel
theorem dX9_lay_75 : decode cX9_lay 75 = .ok (.getfield 19, 3) := by decide +kernel
theorem dX9_lay_78 : decode cX9_lay 78 = .ok (.getfield 108, 3) := by decide +kernel
theorem dX9_lay_81 : decode cX9_lay 81 = .ok (.ireturn, 1) := by decide +kernel
theorem dX9_lad_0 : decode cX9_lad 0 = .ok (.aload_n 0, 1) := by decide +kernel
theorem dX9_lad_1 : decode cX9_lad 1 = .ok (.getfield 19, 3) := by decide +kernel
theorem dX9_lad_4 : decode cX9_lad 4 = .ok (.iload_n 1, 1) := by decide +kernel
theorem dX9_lad_5 : decode cX9_lad 5 = .ok (.invokevirtual 120, 3) := by decide +kernel
theorem dX9_lad_8 : decode cX9_lad 8 = .ok (.ifCond .eq 12, 3) := by decide +kernel
theorem dX9_lad_11 : decode cX9_lad 11 = .ok (.iload_n 2, 1) := by decide +kernel
theorem dX9_lad_12 : decode cX9_lad 12 = .ok (.iconst 0, 1) := by decide +kernel
theorem dX9_lad_13 : decode cX9_lad 13 = .ok (.iconst 4, 1) := by decide +kernel
theorem dX9_lad_14 : decode cX9_lad 14 = .ok (.invokestatic 90, 3) := by decide +kernel
theorem dX9_lad_17 : decode cX9_lad 17 = .ok (.ifCond .ne 5, 3) := by decide +kernel
theorem dX9_lad_20 : decode cX9_lad 20 = .ok (.iconst (-1), 1) := by decide +kernel
theorem dX9_lad_21 : decode cX9_lad 21 = .ok (.ireturn, 1) := by decide +kernel
theorem dX9_lad_22 : decode cX9_lad 22 = .ok (.iload_n 2, 1) := by decide +kernel
theorem dX9_lad_23 : decode cX9_lad 23 = .ok (.ifCond .ne 13, 3) := by decide +kernel
theorem dX9_lad_26 : decode cX9_lad 26 = .ok (.aload_n 0, 1) := by decide +kernel
theorem dX9_lad_27 : decode cX9_lad 27 = .ok (.getfield 19, 3) := by decide +kernel
theorem dX9_lad_30 : decode cX9_lad 30 = .ok (.getfield 123, 3) := by decide +kernel
theorem dX9_lad_33 : decode cX9_lad 33 = .ok (.iload_n 1, 1) := by decide +kernel
theorem dX9_lad_34 : decode cX9_lad 34 = .ok (.iaload, 1) := by decide +kernel
theorem dX9_lad_35 : decode cX9_lad 35 = .ok (.ireturn, 1) := by decide +kernel
theorem dX9_lad_36 : decode cX9_lad 36 = .ok (.iload_n 2, 1) := by decide +kernel
theorem dX9_lad_37 : decode cX9_lad 37 = .ok (.iconst 1, 1) := by decide +kernel
theorem dX9_lad_38 : decode cX9_lad 38 = .ok (.if_icmp .ne 13, 3) := by decide +kernel
theorem dX9_lad_41 : decode cX9_lad 41 = .ok (.aload_n 0, 1) := by decide +kernel
theorem dX9_lad_42 : decode cX9_lad 42 = .ok (.getfield 19, 3) := by decide +kernel
theorem dX9_lad_45 : decode cX9_lad 45 = .ok (.getfield 127, 3) := by decide +kernel
theorem dX9_lad_48 : decode cX9_lad 48 = .ok (.iload_n 1, 1) := by decide +kernel
theorem dX9_lad_49 : decode cX9_lad 49 = .ok (.iaload, 1) := by decide +kernel
theorem dX9_lad_50 : decode cX9_lad 50 = .ok (.ireturn, 1) := by decide +kernel
theorem dX9_lad_51 : decode cX9_lad 51 = .ok (.aload_n 0, 1) := by decide +kernel
theorem dX9_lad_52 : decode cX9_lad 52 = .ok (.getfield 29, 3) := by decide +kernel
theorem dX9_lad_55 : decode cX9_lad 55 = .ok (.aload_n 0, 1) := by decide +kernel
theorem dX9_lad_56 : decode cX9_lad 56 = .ok (.getfield 19, 3) := by decide +kernel
theorem dX9_lad_59 : decode cX9_lad 59 = .ok (.iconst (-1), 1) := by decide +kernel
theorem dX9_lad_60 : decode cX9_lad 60 = .ok (.invokevirtual 130, 3) := by decide +kernel
theorem dX9_lad_63 : decode cX9_lad 63 = .ok (.iload_n 2, 1) := by decide +kernel
theorem dX9_lad_64 : decode cX9_lad 64 = .ok (.iconst 2, 1) := by decide +kernel
theorem dX9_lad_65 : decode cX9_lad 65 = .ok (.if_icmp .ne 13, 3) := by decide +kernel
theorem dX9_lad_68 : decode cX9_lad 68 = .ok (.aload_n 0, 1) := by decide +kernel
theorem dX9_lad_69 : decode cX9_lad 69 = .ok (.getfield 29, 3) := by decide +kernel
theorem dX9_lad_72 : decode cX9_lad 72 = .ok (.getfield 134, 3) := by decide +kernel
theorem dX9_lad_75 : decode cX9_lad 75 = .ok (.iload_n 1, 1) := by decide +kernel
theorem dX9_lad_76 : decode cX9_lad 76 = .ok (.iaload, 1) := by decide +kernel
theorem dX9_lad_77 : decode cX9_lad 77 = .ok (.ireturn, 1) := by decide +kernel
theorem dX9_lad_78 : decode cX9_lad 78 = .ok (.iload_n 2, 1) := by decide +kernel
theorem dX9_lad_79 : decode cX9_lad 79 = .ok (.iconst 3, 1) := by decide +kernel
theorem dX9_lad_80 : decode cX9_lad 80 = .ok (.if_icmp .ne 15, 3) := by decide +kernel
theorem dX9_lad_83 : decode cX9_lad 83 = .ok (.aload_n 0, 1) := by decide +kernel
theorem dX9_lad_84 : decode cX9_lad 84 = .ok (.getfield 29, 3) := by decide +kernel
theorem dX9_lad_87 : decode cX9_lad 87 = .ok (.getfield 137, 3) := by decide +kernel
theorem dX9_lad_90 : decode cX9_lad 90 = .ok (.iload_n 1, 1) := by decide +kernel
theorem dX9_lad_91 : decode cX9_lad 91 = .ok (.iaload, 1) := by decide +kernel
theorem dX9_lad_92 : decode cX9_lad 92 = .ok (.goto 15, 3) := by decide +kernel
theorem dX9_lad_95 : decode cX9_lad 95 = .ok (.aload_n 0, 1) := by decide +kernel
theorem dX9_lad_96 : decode cX9_lad 96 = .ok (.getfield 29, 3) := by decide +kernel
theorem dX9_lad_99 : decode cX9_lad 99 = .ok (.aload_n 0, 1) := by decide +kernel
theorem dX9_lad_100 : decode cX9_lad 100 = .ok (.getfield 19, 3) := by decide +kernel
theorem dX9_lad_103 : decode cX9_lad 103 = .ok (.iload_n 1, 1) := by decide +kernel
theorem dX9_lad_104 : decode cX9_lad 104 = .ok (.invokevirtual 140, 3) := by decide +kernel
theorem dX9_lad_107 : decode cX9_lad 107 = .ok (.ireturn, 1) := by decide +kernel
theorem dX9_master_0 : decode cX9_master 0 = .ok (.aload_n 0, 1) := by decide +kernel
theorem dX9_master_1 : decode cX9_master 1 = .ok (.getfield 19, 3) := by decide +kernel
theorem dX9_master_4 : decode cX9_master 4 = .ok (.iload_n 1, 1) := by decide +kernel
theorem dX9_master_5 : decode cX9_master 5 = .ok (.invokevirtual 144, 3) := by decide +kernel
theorem dX9_master_8 : decode cX9_master 8 = .ok (.ifCond .eq 12, 3) := by decide +kernel
theorem dX9_master_11 : decode cX9_master 11 = .ok (.iload_n 2, 1) := by decide +kernel
theorem dX9_master_12 : decode cX9_master 12 = .ok (.iconst 0, 1) := by decide +kernel
theorem dX9_master_13 : decode cX9_master 13 = .ok (.iconst 2, 1) := by decide +kernel
theorem dX9_master_14 : decode cX9_master 14 = .ok (.invokestatic 90, 3) := by decide +kernel
theorem dX9_master_17 : decode cX9_master 17 = .ok (.ifCond .ne 5, 3) := by decide +kernel
theorem dX9_master_20 : decode cX9_master 20 = .ok (.iconst (-1), 1) := by decide +kernel
theorem dX9_master_21 : decode cX9_master 21 = .ok (.ireturn, 1) := by decide +kernel
theorem dX9_master_22 : decode cX9_master 22 = .ok (.iload_n 2, 1) := by decide +kernel
theorem dX9_master_23 : decode cX9_master 23 = .ok (.ifCond .ne 13, 3) := by decide +kernel
theorem dX9_master_26 : decode cX9_master 26 = .ok (.aload_n 0, 1) := by decide +kernel
theorem dX9_master_27 : decode cX9_master 27 = .ok (.getfield 19, 3) := by decide +kernel
theorem dX9_master_30 : decode cX9_master 30 = .ok (.getfield 147, 3) := by decide +kernel
theorem dX9_master_33 : decode cX9_master 33 = .ok (.iload_n 1, 1) := by decide +kernel
theorem dX9_master_34 : decode cX9_master 34 = .ok (.iaload, 1) := by decide +kernel
theorem dX9_master_35 : decode cX9_master 35 = .ok (.ireturn, 1) := by decide +kernel
theorem dX9_master_36 : decode cX9_master 36 = .ok (.aload_n 0, 1) := by decide +kernel
theorem dX9_master_37 : decode cX9_master 37 = .ok (.getfield 29, 3) := by decide +kernel
theorem dX9_master_40 : decode cX9_master 40 = .ok (.aload_n 0, 1) := by decide +kernel
theorem dX9_master_41 : decode cX9_master 41 = .ok (.getfield 19, 3) := by decide +kernel
theorem dX9_master_44 : decode cX9_master 44 = .ok (.iconst (-1), 1) := by decide +kernel
theorem dX9_master_45 : decode cX9_master 45 = .ok (.invokevirtual 130, 3) := by decide +kernel
theorem dX9_master_48 : decode cX9_master 48 = .ok (.iload_n 2, 1) := by decide +kernel
theorem dX9_master_49 : decode cX9_master 49 = .ok (.iconst 1, 1) := by decide +kernel
theorem dX9_master_50 : decode cX9_master 50 = .ok (.if_icmp .ne 18, 3) := by decide +kernel
theorem dX9_master_53 : decode cX9_master 53 = .ok (.aload_n 0, 1) := by decide +kernel
theorem dX9_master_54 : decode cX9_master 54 = .ok (.getfield 29, 3) := by decide +kernel
theorem dX9_master_57 : decode cX9_master 57 = .ok (.aload_n 0, 1) := by decide +kernel
theorem dX9_master_58 : decode cX9_master 58 = .ok (.getfield 19, 3) := by decide +kernel
theorem dX9_master_61 : decode cX9_master 61 = .ok (.iload_n 1, 1) := by decide +kernel
theorem dX9_master_62 : decode cX9_master 62 = .ok (.invokevirtual 150, 3) := by decide +kernel
theorem dX9_master_65 : decode cX9_master 65 = .ok (.goto 15, 3) := by decide +kernel
theorem dX9_master_68 : decode cX9_master 68 = .ok (.aload_n 0, 1) := by decide +kernel
theorem dX9_master_69 : decode cX9_master 69 = .ok (.getfield 29, 3) := by decide +kernel
theorem dX9_master_72 : decode cX9_master 72 = .ok (.aload_n 0, 1) := by decide +kernel
theorem dX9_master_73 : decode cX9_master 73 = .ok (.getfield 19, 3) := by decide +kernel
theorem dX9_master_76 : decode cX9_master 76 = .ok (.iload_n 1, 1) := by decide +kernel
theorem dX9_master_77 : decode cX9_master 77 = .ok (.invokevirtual 153, 3) := by decide +kernel
theorem dX9_master_80 : decode cX9_master 80 = .ok (.ireturn, 1) := by decide +kernel
theorem dX9_wants_0 : decode cX9_wants 0 = .ok (.aload_n 0, 1) := by decide +kernel
theorem dX9_wants_1 : decode cX9_wants 1 = .ok (.getfield 19, 3) := by decide +kernel
theorem dX9_wants_4 : decode cX9_wants 4 = .ok (.iload_n 1, 1) := by decide +kernel
theorem dX9_wants_5 : decode cX9_wants 5 = .ok (.invokevirtual 120, 3) := by decide +kernel
theorem dX9_wants_8 : decode cX9_wants 8 = .ok (.ifCond .eq 23, 3) := by decide +kernel
theorem dX9_wants_11 : decode cX9_wants 11 = .ok (.aload_n 0, 1) := by decide +kernel
theorem dX9_wants_12 : decode cX9_wants 12 = .ok (.getfield 19, 3) := by decide +kernel
theorem dX9_wants_15 : decode cX9_wants 15 = .ok (.iload_n 2, 1) := by decide +kernel
theorem dX9_wants_16 : decode cX9_wants 16 = .ok (.invokevirtual 144, 3) := by decide +kernel
theorem dX9_wants_19 : decode cX9_wants 19 = .ok (.ifCond .eq 12, 3) := by decide +kernel
theorem dX9_wants_22 : decode cX9_wants 22 = .ok (.iload_n 3, 1) := by decide +kernel
theorem dX9_wants_23 : decode cX9_wants 23 = .ok (.iconst 0, 1) := by decide +kernel
theorem dX9_wants_24 : decode cX9_wants 24 = .ok (.iconst 1, 1) := by decide +kernel
theorem dX9_wants_25 : decode cX9_wants 25 = .ok (.invokestatic 90, 3) := by decide +kernel
theorem dX9_wants_28 : decode cX9_wants 28 = .ok (.ifCond .ne 5, 3) := by decide +kernel
theorem dX9_wants_31 : decode cX9_wants 31 = .ok (.iconst (-1), 1) := by decide +kernel
theorem dX9_wants_32 : decode cX9_wants 32 = .ok (.ireturn, 1) := by decide +kernel
theorem dX9_wants_33 : decode cX9_wants 33 = .ok (.iload_n 3, 1) := by decide +kernel
theorem dX9_wants_34 : decode cX9_wants 34 = .ok (.ifCond .ne 17, 3) := by decide +kernel
theorem dX9_wants_37 : decode cX9_wants 37 = .ok (.aload_n 0, 1) := by decide +kernel
theorem dX9_wants_38 : decode cX9_wants 38 = .ok (.getfield 19, 3) := by decide +kernel
theorem dX9_wants_41 : decode cX9_wants 41 = .ok (.getfield 156, 3) := by decide +kernel
theorem dX9_wants_44 : decode cX9_wants 44 = .ok (.iload_n 1, 1) := by decide +kernel
theorem dX9_wants_45 : decode cX9_wants 45 = .ok (.aaload, 1) := by decide +kernel
theorem dX9_wants_46 : decode cX9_wants 46 = .ok (.iload_n 2, 1) := by decide +kernel
theorem dX9_wants_47 : decode cX9_wants 47 = .ok (.iaload, 1) := by decide +kernel
theorem dX9_wants_48 : decode cX9_wants 48 = .ok (.goto 12, 3) := by decide +kernel
theorem dX9_wants_51 : decode cX9_wants 51 = .ok (.aload_n 0, 1) := by decide +kernel
theorem dX9_wants_52 : decode cX9_wants 52 = .ok (.getfield 19, 3) := by decide +kernel
theorem dX9_wants_55 : decode cX9_wants 55 = .ok (.iload_n 1, 1) := by decide +kernel
theorem dX9_wants_56 : decode cX9_wants 56 = .ok (.iload_n 2, 1) := by decide +kernel
theorem dX9_wants_57 : decode cX9_wants 57 = .ok (.invokevirtual 160, 3) := by decide +kernel
theorem dX9_wants_60 : decode cX9_wants 60 = .ok (.ireturn, 1) := by decide +kernel
theorem dX9_all_0 : decode cX9_all 0 = .ok (.iload_n 1, 1) := by decide +kernel
theorem dX9_all_1 : decode cX9_all 1 = .ok (.iconst 0, 1) := by decide +kernel
theorem dX9_all_2 : decode cX9_all 2 = .ok (.iconst 2, 1) := by decide +kernel
theorem dX9_all_3 : decode cX9_all 3 = .ok (.invokestatic 90, 3) := by decide +kernel
theorem dX9_all_6 : decode cX9_all 6 = .ok (.ifCond .ne 5, 3) := by decide +kernel
theorem dX9_all_9 : decode cX9_all 9 = .ok (.iconst (-1), 1) := by decide +kernel
theorem dX9_all_10 : decode cX9_all 10 = .ok (.ireturn, 1) := by decide +kernel
theorem dX9_all_11 : decode cX9_all 11 = .ok (.aload_n 0, 1) := by decide +kernel
theorem dX9_all_12 : decode cX9_all 12 = .ok (.getfield 29, 3) := by decide +kernel
theorem dX9_all_15 : decode cX9_all 15 = .ok (.aload_n 0, 1) := by decide +kernel
theorem dX9_all_16 : decode cX9_all 16 = .ok (.getfield 19, 3) := by decide +kernel
theorem dX9_all_19 : decode cX9_all 19 = .ok (.iconst (-1), 1) := by decide +kernel
theorem dX9_all_20 : decode cX9_all 20 = .ok (.invokevirtual 130, 3) := by decide +kernel
theorem dX9_all_23 : decode cX9_all 23 = .ok (.iload_n 1, 1) := by decide +kernel
theorem dX9_all_24 : decode cX9_all 24 = .ok (.ifCond .ne 15, 3) := by decide +kernel
theorem dX9_all_27 : decode cX9_all 27 = .ok (.aload_n 0, 1) := by decide +kernel
theorem dX9_all_28 : decode cX9_all 28 = .ok (.getfield 29, 3) := by decide +kernel
theorem dX9_all_31 : decode cX9_all 31 = .ok (.aload_n 0, 1) := by decide +kernel
theorem dX9_all_32 : decode cX9_all 32 = .ok (.getfield 19, 3) := by decide +kernel
theorem dX9_all_35 : decode cX9_all 35 = .ok (.invokevirtual 164, 3) := by decide +kernel
theorem dX9_all_38 : decode cX9_all 38 = .ok (.ireturn, 1) := by decide +kernel
theorem dX9_all_39 : decode cX9_all 39 = .ok (.iload_n 1, 1) := by decide +kernel
theorem dX9_all_40 : decode cX9_all 40 = .ok (.iconst 1, 1) := by decide +kernel
theorem dX9_all_41 : decode cX9_all 41 = .ok (.if_icmp .ne 17, 3) := by decide +kernel
theorem dX9_all_44 : decode cX9_all 44 = .ok (.aload_n 0, 1) := by decide +kernel
theorem dX9_all_45 : decode cX9_all 45 = .ok (.getfield 29, 3) := by decide +kernel
theorem dX9_all_48 : decode cX9_all 48 = .ok (.aload_n 0, 1) := by decide +kernel
theorem dX9_all_49 : decode cX9_all 49 = .ok (.getfield 19, 3) := by decide +kernel
theorem dX9_all_52 : decode cX9_all 52 = .ok (.invokevirtual 167, 3) := by decide +kernel
theorem dX9_all_55 : decode cX9_all 55 = .ok (.goto 14, 3) := by decide +kernel
theorem dX9_all_58 : decode cX9_all 58 = .ok (.aload_n 0, 1) := by decide +kernel
theorem dX9_all_59 : decode cX9_all 59 = .ok (.getfield 29, 3) := by decide +kernel
theorem dX9_all_62 : decode cX9_all 62 = .ok (.aload_n 0, 1) := by decide +kernel
theorem dX9_all_63 : decode cX9_all 63 = .ok (.getfield 19, 3) := by decide +kernel
theorem dX9_all_66 : decode cX9_all 66 = .ok (.invokevirtual 170, 3) := by decide +kernel
theorem dX9_all_69 : decode cX9_all 69 = .ok (.ireturn, 1) := by decide +kernel
theorem dX9_limit_0 : decode cX9_limit 0 = .ok (.aload_n 0, 1) := by decide +kernel
theorem dX9_limit_1 : decode cX9_limit 1 = .ok (.getfield 19, 3) := by decide +kernel
theorem dX9_limit_4 : decode cX9_limit 4 = .ok (.iload_n 1, 1) := by decide +kernel
theorem dX9_limit_5 : decode cX9_limit 5 = .ok (.invokevirtual 120, 3) := by decide +kernel
theorem dX9_limit_8 : decode cX9_limit 8 = .ok (.ifCond .eq 13, 3) := by decide +kernel
theorem dX9_limit_11 : decode cX9_limit 11 = .ok (.iload_n 2, 1) := by decide +kernel
theorem dX9_limit_12 : decode cX9_limit 12 = .ok (.iconst 1, 1) := by decide +kernel
theorem dX9_limit_13 : decode cX9_limit 13 = .ok (.bipush 10, 2) := by decide +kernel
theorem dX9_limit_15 : decode cX9_limit 15 = .ok (.invokestatic 90, 3) := by decide +kernel
theorem dX9_limit_18 : decode cX9_limit 18 = .ok (.ifCond .ne 5, 3) := by decide +kernel
theorem dX9_limit_21 : decode cX9_limit 21 = .ok (.iconst (-1), 1) := by decide +kernel
theorem dX9_limit_22 : decode cX9_limit 22 = .ok (.ireturn, 1) := by decide +kernel
theorem dX9_limit_23 : decode cX9_limit 23 = .ok (.aload_n 0, 1) := by decide +kernel
theorem dX9_limit_24 : decode cX9_limit 24 = .ok (.iload_n 1, 1) := by decide +kernel
theorem dX9_limit_25 : decode cX9_limit 25 = .ok (.iload_n 2, 1) := by decide +kernel
theorem dX9_limit_26 : decode cX9_limit 26 = .ok (.invokevirtual 173, 3) := by decide +kernel
theorem dX9_limit_29 : decode cX9_limit 29 = .ok (.ireturn, 1) := by decide +kernel
theorem dX9_calls_0 : decode cX9_calls 0 = .ok (.iload_n 1, 1) := by decide +kernel
theorem dX9_calls_1 : decode cX9_calls 1 = .ok (.iconst 0, 1) := by decide +kernel
theorem dX9_calls_2 : decode cX9_calls 2 = .ok (.iconst 2, 1) := by decide +kernel
theorem dX9_calls_3 : decode cX9_calls 3 = .ok (.invokestatic 90, 3) := by decide +kernel
theorem dX9_calls_6 : decode cX9_calls 6 = .ok (.ifCond .ne 5, 3) := by decide +kernel
theorem dX9_calls_9 : decode cX9_calls 9 = .ok (.iconst (-1), 1) := by decide +kernel
theorem dX9_calls_10 : decode cX9_calls 10 = .ok (.ireturn, 1) := by decide +kernel
theorem dX9_calls_11 : decode cX9_calls 11 = .ok (.aload_n 0, 1) := by decide +kernel
theorem dX9_calls_12 : decode cX9_calls 12 = .ok (.iconst 5, 1) := by decide +kernel
theorem dX9_calls_13 : decode cX9_calls 13 = .ok (.iload_n 1, 1) := by decide +kernel
theorem dX9_calls_14 : decode cX9_calls 14 = .ok (.invokevirtual 173, 3) := by decide +kernel
theorem dX9_calls_17 : decode cX9_calls 17 = .ok (.ireturn, 1) := by decide +kernel
theorem dX9_step_0 : decode cX9_step 0 = .ok (.iload_n 1, 1) := by decide +kernel
theorem dX9_step_1 : decode cX9_step 1 = .ok (.iconst 1, 1) := by decide +kernel
theorem dX9_step_2 : decode cX9_step 2 = .ok (.iconst 3, 1) := by decide +kernel
theorem dX9_step_3 : decode cX9_step 3 = .ok (.invokestatic 90, 3) := by decide +kernel
theorem dX9_step_6 : decode cX9_step 6 = .ok (.ifCond .ne 5, 3) := by decide +kernel
theorem dX9_step_9 : decode cX9_step 9 = .ok (.iconst (-1), 1) := by decide +kernel
theorem dX9_step_10 : decode cX9_step 10 = .ok (.ireturn, 1) := by decide +kernel
theorem dX9_step_11 : decode cX9_step 11 = .ok (.aload_n 0, 1) := by decide +kernel
theorem dX9_step_12 : decode cX9_step 12 = .ok (.bipush 6, 2) := by decide +kernel
theorem dX9_step_14 : decode cX9_step 14 = .ok (.iload_n 1, 1) := by decide +kernel
theorem dX9_step_15 : decode cX9_step 15 = .ok (.invokevirtual 173, 3) := by decide +kernel
theorem dX9_step_18 : decode cX9_step 18 = .ok (.ireturn, 1) := by decide +kernel
theorem dX9_undo_0 : decode cX9_undo 0 = .ok (.aload_n 0, 1) := by decide +kernel
theorem dX9_undo_1 : decode cX9_undo 1 = .ok (.getfield 64, 3) := by decide +kernel
theorem dX9_undo_4 : decode cX9_undo 4 = .ok (.getfield 118, 3) := by decide +kernel
theorem dX9_undo_7 : decode cX9_undo 7 = .ok (.ifCond .ne 6, 3) := by decide +kernel
theorem dX9_undo_10 : decode cX9_undo 10 = .ok (.bipush (-2), 2) := by decide +kernel
theorem dX9_undo_12 : decode cX9_undo 12 = .ok (.ireturn, 1) := by decide +kernel
theorem dX9_undo_13 : decode cX9_undo 13 = .ok (.aload_n 0, 1) := by decide +kernel
theorem dX9_undo_14 : decode cX9_undo 14 = .ok (.getfield 64, 3) := by decide +kernel
theorem dX9_undo_17 : decode cX9_undo 17 = .ok (.aload_n 0, 1) := by decide +kernel
theorem dX9_undo_18 : decode cX9_undo 18 = .ok (.getfield 19, 3) := by decide +kernel
theorem dX9_undo_21 : decode cX9_undo 21 = .ok (.invokevirtual 176, 3) := by decide +kernel
theorem dX9_undo_24 : decode cX9_undo 24 = .ok (.aload_n 0, 1) := by decide +kernel
theorem dX9_undo_25 : decode cX9_undo 25 = .ok (.getfield 64, 3) := by decide +kernel
theorem dX9_undo_28 : decode cX9_undo 28 = .ok (.getfield 118, 3) := by decide +kernel
theorem dX9_undo_31 : decode cX9_undo 31 = .ok (.ireturn, 1) := by decide +kernel
theorem dX9_lie_0 : decode cX9_lie 0 = .ok (.aload_n 0, 1) := by decide +kernel
theorem dX9_lie_1 : decode cX9_lie 1 = .ok (.getfield 19, 3) := by decide +kernel
theorem dX9_lie_4 : decode cX9_lie 4 = .ok (.iload_n 1, 1) := by decide +kernel
theorem dX9_lie_5 : decode cX9_lie 5 = .ok (.invokevirtual 120, 3) := by decide +kernel
theorem dX9_lie_8 : decode cX9_lie 8 = .ok (.ifCond .eq 12, 3) := by decide +kernel
theorem dX9_lie_11 : decode cX9_lie 11 = .ok (.iload_n 2, 1) := by decide +kernel
theorem dX9_lie_12 : decode cX9_lie 12 = .ok (.iconst 0, 1) := by decide +kernel
theorem dX9_lie_13 : decode cX9_lie 13 = .ok (.iconst 1, 1) := by decide +kernel
theorem dX9_lie_14 : decode cX9_lie 14 = .ok (.invokestatic 90, 3) := by decide +kernel
theorem dX9_lie_17 : decode cX9_lie 17 = .ok (.ifCond .ne 5, 3) := by decide +kernel
theorem dX9_lie_20 : decode cX9_lie 20 = .ok (.iconst (-1), 1) := by decide +kernel
theorem dX9_lie_21 : decode cX9_lie 21 = .ok (.ireturn, 1) := by decide +kernel
theorem dX9_lie_22 : decode cX9_lie 22 = .ok (.aload_n 0, 1) := by decide +kernel
theorem dX9_lie_23 : decode cX9_lie 23 = .ok (.getfield 23, 3) := by decide +kernel
theorem dX9_lie_26 : decode cX9_lie 26 = .ok (.aload_n 0, 1) := by decide +kernel
theorem dX9_lie_27 : decode cX9_lie 27 = .ok (.getfield 19, 3) := by decide +kernel
theorem dX9_lie_30 : decode cX9_lie 30 = .ok (.invokevirtual 111, 3) := by decide +kernel
theorem dX9_lie_33 : decode cX9_lie 33 = .ok (.iconst 1, 1) := by decide +kernel
theorem dX9_lie_34 : decode cX9_lie 34 = .ok (.istore_n 3, 1) := by decide +kernel
theorem dX9_lie_35 : decode cX9_lie 35 = .ok (.aload_n 0, 1) := by decide +kernel
theorem dX9_lie_36 : decode cX9_lie 36 = .ok (.iload_n 1, 1) := by decide +kernel
theorem dX9_lie_37 : decode cX9_lie 37 = .ok (.iload_n 3, 1) := by decide +kernel
theorem dX9_lie_38 : decode cX9_lie 38 = .ok (.invokevirtual 179, 3) := by decide +kernel
theorem dX9_lie_41 : decode cX9_lie 41 = .ok (.istore 4, 2) := by decide +kernel
theorem dX9_lie_43 : decode cX9_lie 43 = .ok (.iconst 2, 1) := by decide +kernel
theorem dX9_lie_44 : decode cX9_lie 44 = .ok (.istore 5, 2) := by decide +kernel
theorem dX9_lie_46 : decode cX9_lie 46 = .ok (.iload 5, 2) := by decide +kernel
theorem dX9_lie_48 : decode cX9_lie 48 = .ok (.bipush 10, 2) := by decide +kernel
theorem dX9_lie_50 : decode cX9_lie 50 = .ok (.if_icmp .gt 32, 3) := by decide +kernel
theorem dX9_lie_53 : decode cX9_lie 53 = .ok (.aload_n 0, 1) := by decide +kernel
theorem dX9_lie_54 : decode cX9_lie 54 = .ok (.iload_n 1, 1) := by decide +kernel
theorem dX9_lie_55 : decode cX9_lie 55 = .ok (.iload 5, 2) := by decide +kernel
theorem dX9_lie_57 : decode cX9_lie 57 = .ok (.invokevirtual 179, 3) := by decide +kernel
theorem dX9_lie_60 : decode cX9_lie 60 = .ok (.istore 6, 2) := by decide +kernel
theorem dX9_lie_62 : decode cX9_lie 62 = .ok (.iload 6, 2) := by decide +kernel
theorem dX9_lie_64 : decode cX9_lie 64 = .ok (.iload 4, 2) := by decide +kernel
theorem dX9_lie_66 : decode cX9_lie 66 = .ok (.if_icmp .le 10, 3) := by decide +kernel
theorem dX9_lie_69 : decode cX9_lie 69 = .ok (.iload 6, 2) := by decide +kernel
theorem dX9_lie_71 : decode cX9_lie 71 = .ok (.istore 4, 2) := by decide +kernel
theorem dX9_lie_73 : decode cX9_lie 73 = .ok (.iload 5, 2) := by decide +kernel
theorem dX9_lie_75 : decode cX9_lie 75 = .ok (.istore_n 3, 1) := by decide +kernel
theorem dX9_lie_76 : decode cX9_lie 76 = .ok (.iinc 5 1, 3) := by decide +kernel
theorem dX9_lie_79 : decode cX9_lie 79 = .ok (.goto (-33), 3) := by decide +kernel
theorem dX9_lie_82 : decode cX9_lie 82 = .ok (.iload_n 2, 1) := by decide +kernel
theorem dX9_lie_83 : decode cX9_lie 83 = .ok (.ifCond .ne 7, 3) := by decide +kernel
theorem dX9_lie_86 : decode cX9_lie 86 = .ok (.iload_n 3, 1) := by decide +kernel
theorem dX9_lie_87 : decode cX9_lie 87 = .ok (.goto 20, 3) := by decide +kernel
theorem dX9_lie_90 : decode cX9_lie 90 = .ok (.iload 4, 2) := by decide +kernel
theorem dX9_lie_92 : decode cX9_lie 92 = .ok (.aload_n 0, 1) := by decide +kernel
theorem dX9_lie_93 : decode cX9_lie 93 = .ok (.iload_n 1, 1) := by decide +kernel
theorem dX9_lie_94 : decode cX9_lie 94 = .ok (.aload_n 0, 1) := by decide +kernel
theorem dX9_lie_95 : decode cX9_lie 95 = .ok (.getfield 19, 3) := by decide +kernel
theorem dX9_lie_98 : decode cX9_lie 98 = .ok (.getfield 123, 3) := by decide +kernel
theorem dX9_lie_101 : decode cX9_lie 101 = .ok (.iload_n 1, 1) := by decide +kernel
theorem dX9_lie_102 : decode cX9_lie 102 = .ok (.iaload, 1) := by decide +kernel
theorem dX9_lie_103 : decode cX9_lie 103 = .ok (.invokevirtual 179, 3) := by decide +kernel
theorem dX9_lie_106 : decode cX9_lie 106 = .ok (.isub, 1) := by decide +kernel
theorem dX9_lie_107 : decode cX9_lie 107 = .ok (.ireturn, 1) := by decide +kernel
theorem dX9_game_0 : decode cX9_game 0 = .ok (.aload_n 0, 1) := by decide +kernel
theorem dX9_game_1 : decode cX9_game 1 = .ok (.getfield 19, 3) := by decide +kernel
theorem dX9_game_4 : decode cX9_game 4 = .ok (.iload_n 1, 1) := by decide +kernel
theorem dX9_game_5 : decode cX9_game 5 = .ok (.invokevirtual 120, 3) := by decide +kernel
theorem dX9_game_8 : decode cX9_game 8 = .ok (.ifCond .eq 28, 3) := by decide +kernel
theorem dX9_game_11 : decode cX9_game 11 = .ok (.aload_n 0, 1) := by decide +kernel
theorem dX9_game_12 : decode cX9_game 12 = .ok (.getfield 19, 3) := by decide +kernel
theorem dX9_game_15 : decode cX9_game 15 = .ok (.iload_n 2, 1) := by decide +kernel
theorem dX9_game_16 : decode cX9_game 16 = .ok (.invokevirtual 120, 3) := by decide +kernel
theorem dX9_game_19 : decode cX9_game 19 = .ok (.ifCond .eq 17, 3) := by decide +kernel
theorem dX9_game_22 : decode cX9_game 22 = .ok (.iload_n 1, 1) := by decide +kernel
theorem dX9_game_23 : decode cX9_game 23 = .ok (.iload_n 2, 1) := by decide +kernel
theorem dX9_game_24 : decode cX9_game 24 = .ok (.if_icmp .eq 12, 3) := by decide +kernel
theorem dX9_game_27 : decode cX9_game 27 = .ok (.iload_n 3, 1) := by decide +kernel
theorem dX9_game_28 : decode cX9_game 28 = .ok (.iconst 0, 1) := by decide +kernel
theorem dX9_game_29 : decode cX9_game 29 = .ok (.iconst 2, 1) := by decide +kernel
theorem dX9_game_30 : decode cX9_game 30 = .ok (.invokestatic 90, 3) := by decide +kernel
theorem dX9_game_33 : decode cX9_game 33 = .ok (.ifCond .ne 5, 3) := by decide +kernel
theorem dX9_game_36 : decode cX9_game 36 = .ok (.iconst (-1), 1) := by decide +kernel
theorem dX9_game_37 : decode cX9_game 37 = .ok (.ireturn, 1) := by decide +kernel
theorem dX9_game_38 : decode cX9_game 38 = .ok (.aload_n 0, 1) := by decide +kernel
theorem dX9_game_39 : decode cX9_game 39 = .ok (.getfield 23, 3) := by decide +kernel
theorem dX9_game_42 : decode cX9_game 42 = .ok (.aload_n 0, 1) := by decide +kernel
theorem dX9_game_43 : decode cX9_game 43 = .ok (.getfield 19, 3) := by decide +kernel
theorem dX9_game_46 : decode cX9_game 46 = .ok (.invokevirtual 111, 3) := by decide +kernel
theorem dX9_game_49 : decode cX9_game 49 = .ok (.aload_n 0, 1) := by decide +kernel
theorem dX9_game_50 : decode cX9_game 50 = .ok (.getfield 36, 3) := by decide +kernel
theorem dX9_game_53 : decode cX9_game 53 = .ok (.aload_n 0, 1) := by decide +kernel
theorem dX9_game_54 : decode cX9_game 54 = .ok (.getfield 23, 3) := by decide +kernel
theorem dX9_game_57 : decode cX9_game 57 = .ok (.aload_n 0, 1) := by decide +kernel
theorem dX9_game_58 : decode cX9_game 58 = .ok (.getfield 29, 3) := by decide +kernel
theorem dX9_game_61 : decode cX9_game 61 = .ok (.iload_n 1, 1) := by decide +kernel
theorem dX9_game_62 : decode cX9_game 62 = .ok (.iload_n 2, 1) := by decide +kernel
theorem dX9_game_63 : decode cX9_game 63 = .ok (.invokevirtual 182, 3) := by decide +kernel
theorem dX9_game_66 : decode cX9_game 66 = .ok (.aload_n 0, 1) := by decide +kernel
theorem dX9_game_67 : decode cX9_game 67 = .ok (.getfield 36, 3) := by decide +kernel
theorem dX9_game_70 : decode cX9_game 70 = .ok (.invokevirtual 186, 3) := by decide +kernel
theorem dX9_game_73 : decode cX9_game 73 = .ok (.iload_n 3, 1) := by decide +kernel
theorem dX9_game_74 : decode cX9_game 74 = .ok (.ifCond .ne 11, 3) := by decide +kernel
theorem dX9_game_77 : decode cX9_game 77 = .ok (.aload_n 0, 1) := by decide +kernel
theorem dX9_game_78 : decode cX9_game 78 = .ok (.getfield 36, 3) := by decide +kernel
theorem dX9_game_81 : decode cX9_game 81 = .ok (.getfield 189, 3) := by decide +kernel
theorem dX9_game_84 : decode cX9_game 84 = .ok (.ireturn, 1) := by decide +kernel
theorem dX9_game_85 : decode cX9_game 85 = .ok (.aload_n 0, 1) := by decide +kernel
theorem dX9_game_86 : decode cX9_game 86 = .ok (.getfield 36, 3) := by decide +kernel
theorem dX9_game_89 : decode cX9_game 89 = .ok (.getfield 189, 3) := by decide +kernel
theorem dX9_game_92 : decode cX9_game 92 = .ok (.ifCond .ne 6, 3) := by decide +kernel
theorem dX9_game_95 : decode cX9_game 95 = .ok (.bipush (-4), 2) := by decide +kernel
theorem dX9_game_97 : decode cX9_game 97 = .ok (.ireturn, 1) := by decide +kernel
theorem dX9_game_98 : decode cX9_game 98 = .ok (.iload_n 3, 1) := by decide +kernel
theorem dX9_game_99 : decode cX9_game 99 = .ok (.iconst 1, 1) := by decide +kernel
theorem dX9_game_100 : decode cX9_game 100 = .ok (.if_icmp .ne 13, 3) := by decide +kernel
theorem dX9_game_103 : decode cX9_game 103 = .ok (.aload_n 0, 1) := by decide +kernel
theorem dX9_game_104 : decode cX9_game 104 = .ok (.getfield 36, 3) := by decide +kernel
theorem dX9_game_107 : decode cX9_game 107 = .ok (.getfield 192, 3) := by decide +kernel
theorem dX9_game_110 : decode cX9_game 110 = .ok (.goto 10, 3) := by decide +kernel
theorem dX9_game_113 : decode cX9_game 113 = .ok (.aload_n 0, 1) := by decide +kernel
theorem dX9_game_114 : decode cX9_game 114 = .ok (.getfield 36, 3) := by decide +kernel
theorem dX9_game_117 : decode cX9_game 117 = .ok (.getfield 195, 3) := by decide +kernel
theorem dX9_game_120 : decode cX9_game 120 = .ok (.ireturn, 1) := by decide +kernel
theorem dX9_rest_0 : decode cX9_rest 0 = .ok (.iload_n 1, 1) := by decide +kernel
theorem dX9_rest_1 : decode cX9_rest 1 = .ok (.iconst (-1), 1) := by decide +kernel
theorem dX9_rest_2 : decode cX9_rest 2 = .ok (.if_icmp .eq 16, 3) := by decide +kernel
theorem dX9_rest_5 : decode cX9_rest 5 = .ok (.aload_n 0, 1) := by decide +kernel
theorem dX9_rest_6 : decode cX9_rest 6 = .ok (.getfield 19, 3) := by decide +kernel
theorem dX9_rest_9 : decode cX9_rest 9 = .ok (.iload_n 1, 1) := by decide +kernel
theorem dX9_rest_10 : decode cX9_rest 10 = .ok (.invokevirtual 144, 3) := by decide +kernel
theorem dX9_rest_13 : decode cX9_rest 13 = .ok (.ifCond .ne 5, 3) := by decide +kernel
theorem dX9_rest_16 : decode cX9_rest 16 = .ok (.iconst (-1), 1) := by decide +kernel
theorem dX9_rest_17 : decode cX9_rest 17 = .ok (.ireturn, 1) := by decide +kernel
theorem dX9_rest_18 : decode cX9_rest 18 = .ok (.aload_n 0, 1) := by decide +kernel
theorem dX9_rest_19 : decode cX9_rest 19 = .ok (.getfield 43, 3) := by decide +kernel
theorem dX9_rest_22 : decode cX9_rest 22 = .ok (.aload_n 0, 1) := by decide +kernel
theorem dX9_rest_23 : decode cX9_rest 23 = .ok (.getfield 19, 3) := by decide +kernel
theorem dX9_rest_26 : decode cX9_rest 26 = .ok (.iconst (-1), 1) := by decide +kernel
theorem dX9_rest_27 : decode cX9_rest 27 = .ok (.invokevirtual 198, 3) := by decide +kernel
theorem dX9_rest_30 : decode cX9_rest 30 = .ok (.aload_n 0, 1) := by decide +kernel
theorem dX9_rest_31 : decode cX9_rest 31 = .ok (.getfield 50, 3) := by decide +kernel
theorem dX9_rest_34 : decode cX9_rest 34 = .ok (.aload_n 0, 1) := by decide +kernel
theorem dX9_rest_35 : decode cX9_rest 35 = .ok (.getfield 19, 3) := by decide +kernel
theorem dX9_rest_38 : decode cX9_rest 38 = .ok (.aload_n 0, 1) := by decide +kernel
theorem dX9_rest_39 : decode cX9_rest 39 = .ok (.getfield 43, 3) := by decide +kernel
theorem dX9_rest_42 : decode cX9_rest 42 = .ok (.getfield 201, 3) := by decide +kernel
theorem dX9_rest_45 : decode cX9_rest 45 = .ok (.iload_n 2, 1) := by decide +kernel
theorem dX9_rest_46 : decode cX9_rest 46 = .ok (.invokevirtual 204, 3) := by decide +kernel
theorem dX9_rest_49 : decode cX9_rest 49 = .ok (.aload_n 0, 1) := by decide +kernel
theorem dX9_rest_50 : decode cX9_rest 50 = .ok (.getfield 50, 3) := by decide +kernel
theorem dX9_rest_53 : decode cX9_rest 53 = .ok (.getfield 207, 3) := by decide +kernel
theorem dX9_rest_56 : decode cX9_rest 56 = .ok (.ifCond .ne 6, 3) := by decide +kernel
theorem dX9_rest_59 : decode cX9_rest 59 = .ok (.bipush (-4), 2) := by decide +kernel
theorem dX9_rest_61 : decode cX9_rest 61 = .ok (.ireturn, 1) := by decide +kernel
theorem dX9_rest_62 : decode cX9_rest 62 = .ok (.iload_n 1, 1) := by decide +kernel
theorem dX9_rest_63 : decode cX9_rest 63 = .ok (.iconst (-1), 1) := by decide +kernel
theorem dX9_rest_64 : decode cX9_rest 64 = .ok (.if_icmp .ne 13, 3) := by decide +kernel
theorem dX9_rest_67 : decode cX9_rest 67 = .ok (.aload_n 0, 1) := by decide +kernel
theorem dX9_rest_68 : decode cX9_rest 68 = .ok (.getfield 50, 3) := by decide +kernel
theorem dX9_rest_71 : decode cX9_rest 71 = .ok (.getfield 211, 3) := by decide +kernel
theorem dX9_rest_74 : decode cX9_rest 74 = .ok (.goto 12, 3) := by decide +kernel
theorem dX9_rest_77 : decode cX9_rest 77 = .ok (.aload_n 0, 1) := by decide +kernel
theorem dX9_rest_78 : decode cX9_rest 78 = .ok (.getfield 50, 3) := by decide +kernel
theorem dX9_rest_81 : decode cX9_rest 81 = .ok (.getfield 214, 3) := by decide +kernel
theorem dX9_rest_84 : decode cX9_rest 84 = .ok (.iload_n 1, 1) := by decide +kernel
theorem dX9_rest_85 : decode cX9_rest 85 = .ok (.iaload, 1) := by decide +kernel
theorem dX9_rest_86 : decode cX9_rest 86 = .ok (.ireturn, 1) := by decide +kernel
theorem dX9_joint_0 : decode cX9_joint 0 = .ok (.iload_n 1, 1) := by decide +kernel
theorem dX9_joint_1 : decode cX9_joint 1 = .ok (.iconst (-1), 1) := by decide +kernel
theorem dX9_joint_2 : decode cX9_joint 2 = .ok (.if_icmp .eq 16, 3) := by decide +kernel
theorem dX9_joint_5 : decode cX9_joint 5 = .ok (.aload_n 0, 1) := by decide +kernel
theorem dX9_joint_6 : decode cX9_joint 6 = .ok (.getfield 19, 3) := by decide +kernel
theorem dX9_joint_9 : decode cX9_joint 9 = .ok (.iload_n 1, 1) := by decide +kernel
theorem dX9_joint_10 : decode cX9_joint 10 = .ok (.invokevirtual 120, 3) := by decide +kernel
theorem dX9_joint_13 : decode cX9_joint 13 = .ok (.ifCond .ne 5, 3) := by decide +kernel
theorem dX9_joint_16 : decode cX9_joint 16 = .ok (.iconst (-1), 1) := by decide +kernel
theorem dX9_joint_17 : decode cX9_joint 17 = .ok (.ireturn, 1) := by decide +kernel
theorem dX9_joint_18 : decode cX9_joint 18 = .ok (.aload_n 0, 1) := by decide +kernel
theorem dX9_joint_19 : decode cX9_joint 19 = .ok (.getfield 43, 3) := by decide +kernel
theorem dX9_joint_22 : decode cX9_joint 22 = .ok (.aload_n 0, 1) := by decide +kernel
theorem dX9_joint_23 : decode cX9_joint 23 = .ok (.getfield 19, 3) := by decide +kernel
theorem dX9_joint_26 : decode cX9_joint 26 = .ok (.iconst (-1), 1) := by decide +kernel
theorem dX9_joint_27 : decode cX9_joint 27 = .ok (.invokevirtual 198, 3) := by decide +kernel
theorem dX9_joint_30 : decode cX9_joint 30 = .ok (.iload_n 1, 1) := by decide +kernel
theorem dX9_joint_31 : decode cX9_joint 31 = .ok (.iconst (-1), 1) := by decide +kernel
theorem dX9_joint_32 : decode cX9_joint 32 = .ok (.if_icmp .ne 13, 3) := by decide +kernel
theorem dX9_joint_35 : decode cX9_joint 35 = .ok (.aload_n 0, 1) := by decide +kernel
theorem dX9_joint_36 : decode cX9_joint 36 = .ok (.getfield 43, 3) := by decide +kernel
theorem dX9_joint_39 : decode cX9_joint 39 = .ok (.getfield 215, 3) := by decide +kernel
theorem dX9_joint_42 : decode cX9_joint 42 = .ok (.goto 12, 3) := by decide +kernel
theorem dX9_joint_45 : decode cX9_joint 45 = .ok (.aload_n 0, 1) := by decide +kernel
theorem dX9_joint_46 : decode cX9_joint 46 = .ok (.getfield 43, 3) := by decide +kernel
theorem dX9_joint_49 : decode cX9_joint 49 = .ok (.getfield 201, 3) := by decide +kernel
theorem dX9_joint_52 : decode cX9_joint 52 = .ok (.iload_n 1, 1) := by decide +kernel
theorem dX9_joint_53 : decode cX9_joint 53 = .ok (.iaload, 1) := by decide +kernel
theorem dX9_joint_54 : decode cX9_joint 54 = .ok (.ireturn, 1) := by decide +kernel
theorem dX9_pay_0 : decode cX9_pay 0 = .ok (.aload_n 0, 1) := by decide +kernel
theorem dX9_pay_1 : decode cX9_pay 1 = .ok (.getfield 19, 3) := by decide +kernel
theorem dX9_pay_4 : decode cX9_pay 4 = .ok (.iload_n 1, 1) := by decide +kernel
theorem dX9_pay_5 : decode cX9_pay 5 = .ok (.invokevirtual 120, 3) := by decide +kernel
theorem dX9_pay_8 : decode cX9_pay 8 = .ok (.ifCond .ne 5, 3) := by decide +kernel
theorem dX9_pay_11 : decode cX9_pay 11 = .ok (.iconst (-1), 1) := by decide +kernel
theorem dX9_pay_12 : decode cX9_pay 12 = .ok (.ireturn, 1) := by decide +kernel
theorem dX9_pay_13 : decode cX9_pay 13 = .ok (.aload_n 0, 1) := by decide +kernel
theorem dX9_pay_14 : decode cX9_pay 14 = .ok (.getfield 43, 3) := by decide +kernel
theorem dX9_pay_17 : decode cX9_pay 17 = .ok (.aload_n 0, 1) := by decide +kernel
theorem dX9_pay_18 : decode cX9_pay 18 = .ok (.getfield 19, 3) := by decide +kernel
theorem dX9_pay_21 : decode cX9_pay 21 = .ok (.iconst (-1), 1) := by decide +kernel
theorem dX9_pay_22 : decode cX9_pay 22 = .ok (.invokevirtual 198, 3) := by decide +kernel
theorem dX9_pay_25 : decode cX9_pay 25 = .ok (.aload_n 0, 1) := by decide +kernel
theorem dX9_pay_26 : decode cX9_pay 26 = .ok (.getfield 43, 3) := by decide +kernel
theorem dX9_pay_29 : decode cX9_pay 29 = .ok (.getfield 215, 3) := by decide +kernel
theorem dX9_pay_32 : decode cX9_pay 32 = .ok (.istore_n 2, 1) := by decide +kernel
theorem dX9_pay_33 : decode cX9_pay 33 = .ok (.aload_n 0, 1) := by decide +kernel
theorem dX9_pay_34 : decode cX9_pay 34 = .ok (.getfield 43, 3) := by decide +kernel
theorem dX9_pay_37 : decode cX9_pay 37 = .ok (.getfield 201, 3) := by decide +kernel
theorem dX9_pay_40 : decode cX9_pay 40 = .ok (.iload_n 1, 1) := by decide +kernel
theorem dX9_pay_41 : decode cX9_pay 41 = .ok (.iaload, 1) := by decide +kernel
theorem dX9_pay_42 : decode cX9_pay 42 = .ok (.bipush (-4), 2) := by decide +kernel
theorem dX9_pay_44 : decode cX9_pay 44 = .ok (.if_icmp .eq 25, 3) := by decide +kernel
theorem dX9_pay_47 : decode cX9_pay 47 = .ok (.iload_n 2, 1) := by decide +kernel
theorem dX9_pay_48 : decode cX9_pay 48 = .ok (.aload_n 0, 1) := by decide +kernel
theorem dX9_pay_49 : decode cX9_pay 49 = .ok (.getfield 19, 3) := by decide +kernel
theorem dX9_pay_52 : decode cX9_pay 52 = .ok (.getfield 156, 3) := by decide +kernel
theorem dX9_pay_55 : decode cX9_pay 55 = .ok (.iload_n 1, 1) := by decide +kernel
theorem dX9_pay_56 : decode cX9_pay 56 = .ok (.aaload, 1) := by decide +kernel
theorem dX9_pay_57 : decode cX9_pay 57 = .ok (.aload_n 0, 1) := by decide +kernel
theorem dX9_pay_58 : decode cX9_pay 58 = .ok (.getfield 43, 3) := by decide +kernel
theorem dX9_pay_61 : decode cX9_pay 61 = .ok (.getfield 201, 3) := by decide +kernel
theorem dX9_pay_64 : decode cX9_pay 64 = .ok (.iload_n 1, 1) := by decide +kernel
theorem dX9_pay_65 : decode cX9_pay 65 = .ok (.iaload, 1) := by decide +kernel
theorem dX9_pay_66 : decode cX9_pay 66 = .ok (.iaload, 1) := by decide +kernel
theorem dX9_pay_67 : decode cX9_pay 67 = .ok (.isub, 1) := by decide +kernel
theorem dX9_pay_68 : decode cX9_pay 68 = .ok (.istore_n 2, 1) := by decide +kernel
theorem dX9_pay_69 : decode cX9_pay 69 = .ok (.aload_n 0, 1) := by decide +kernel
theorem dX9_pay_70 : decode cX9_pay 70 = .ok (.getfield 43, 3) := by decide +kernel
theorem dX9_pay_73 : decode cX9_pay 73 = .ok (.aload_n 0, 1) := by decide +kernel
theorem dX9_pay_74 : decode cX9_pay 74 = .ok (.getfield 19, 3) := by decide +kernel
theorem dX9_pay_77 : decode cX9_pay 77 = .ok (.iload_n 1, 1) := by decide +kernel
theorem dX9_pay_78 : decode cX9_pay 78 = .ok (.invokevirtual 198, 3) := by decide +kernel
theorem dX9_pay_81 : decode cX9_pay 81 = .ok (.aload_n 0, 1) := by decide +kernel
theorem dX9_pay_82 : decode cX9_pay 82 = .ok (.getfield 43, 3) := by decide +kernel
theorem dX9_pay_85 : decode cX9_pay 85 = .ok (.getfield 215, 3) := by decide +kernel
theorem dX9_pay_88 : decode cX9_pay 88 = .ok (.iload_n 2, 1) := by decide +kernel
theorem dX9_pay_89 : decode cX9_pay 89 = .ok (.isub, 1) := by decide +kernel
theorem dX9_pay_90 : decode cX9_pay 90 = .ok (.ireturn, 1) := by decide +kernel
theorem dX9_seen_0 : decode cX9_seen 0 = .ok (.aload_n 0, 1) := by decide +kernel
theorem dX9_seen_1 : decode cX9_seen 1 = .ok (.getfield 19, 3) := by decide +kernel
theorem dX9_seen_4 : decode cX9_seen 4 = .ok (.iload_n 1, 1) := by decide +kernel
theorem dX9_seen_5 : decode cX9_seen 5 = .ok (.invokevirtual 144, 3) := by decide +kernel
theorem dX9_seen_8 : decode cX9_seen 8 = .ok (.ifCond .eq 13, 3) := by decide +kernel
theorem dX9_seen_11 : decode cX9_seen 11 = .ok (.iload_n 2, 1) := by decide +kernel
theorem dX9_seen_12 : decode cX9_seen 12 = .ok (.iconst 0, 1) := by decide +kernel
theorem dX9_seen_13 : decode cX9_seen 13 = .ok (.bipush 10, 2) := by decide +kernel
theorem dX9_seen_15 : decode cX9_seen 15 = .ok (.invokestatic 90, 3) := by decide +kernel
theorem dX9_seen_18 : decode cX9_seen 18 = .ok (.ifCond .ne 5, 3) := by decide +kernel
theorem dX9_seen_21 : decode cX9_seen 21 = .ok (.iconst (-1), 1) := by decide +kernel
theorem dX9_seen_22 : decode cX9_seen 22 = .ok (.ireturn, 1) := by decide +kernel
theorem dX9_seen_23 : decode cX9_seen 23 = .ok (.aload_n 0, 1) := by decide +kernel
theorem dX9_seen_24 : decode cX9_seen 24 = .ok (.getfield 57, 3) := by decide +kernel
theorem dX9_seen_27 : decode cX9_seen 27 = .ok (.getfield 115, 3) := by decide +kernel
theorem dX9_seen_30 : decode cX9_seen 30 = .ok (.bipush 6, 2) := by decide +kernel
theorem dX9_seen_32 : decode cX9_seen 32 = .ok (.if_icmp .lt 6, 3) := by decide +kernel
theorem dX9_seen_35 : decode cX9_seen 35 = .ok (.bipush (-3), 2) := by decide +kernel
theorem dX9_seen_37 : decode cX9_seen 37 = .ok (.ireturn, 1) := by decide +kernel
theorem dX9_seen_38 : decode cX9_seen 38 = .ok (.aload_n 0, 1) := by decide +kernel
theorem dX9_seen_39 : decode cX9_seen 39 = .ok (.getfield 57, 3) := by decide +kernel
theorem dX9_seen_42 : decode cX9_seen 42 = .ok (.iload_n 1, 1) := by decide +kernel
theorem dX9_seen_43 : decode cX9_seen 43 = .ok (.iload_n 2, 1) := by decide +kernel
theorem dX9_seen_44 : decode cX9_seen 44 = .ok (.invokevirtual 218, 3) := by decide +kernel
theorem dX9_seen_47 : decode cX9_seen 47 = .ok (.aload_n 0, 1) := by decide +kernel
theorem dX9_seen_48 : decode cX9_seen 48 = .ok (.getfield 57, 3) := by decide +kernel
theorem dX9_seen_51 : decode cX9_seen 51 = .ok (.getfield 115, 3) := by decide +kernel
theorem dX9_seen_54 : decode cX9_seen 54 = .ok (.ireturn, 1) := by decide +kernel
theorem dX9_forget_0 : decode cX9_forget 0 = .ok (.aload_n 0, 1) := by decide +kernel
theorem dX9_forget_1 : decode cX9_forget 1 = .ok (.getfield 57, 3) := by decide +kernel
theorem dX9_forget_4 : decode cX9_forget 4 = .ok (.getfield 115, 3) := by decide +kernel
theorem dX9_forget_7 : decode cX9_forget 7 = .ok (.istore_n 1, 1) := by decide +kernel
theorem dX9_forget_8 : decode cX9_forget 8 = .ok (.aload_n 0, 1) := by decide +kernel
theorem dX9_forget_9 : decode cX9_forget 9 = .ok (.getfield 57, 3) := by decide +kernel
theorem dX9_forget_12 : decode cX9_forget 12 = .ok (.iconst 0, 1) := by decide +kernel
theorem dX9_forget_13 : decode cX9_forget 13 = .ok (.putfield 115, 3) := by decide +kernel
theorem dX9_forget_16 : decode cX9_forget 16 = .ok (.iload_n 1, 1) := by decide +kernel
theorem dX9_forget_17 : decode cX9_forget 17 = .ok (.ireturn, 1) := by decide +kernel
theorem dX9_cousins_0 : decode cX9_cousins 0 = .ok (.iconst 0, 1) := by decide +kernel
theorem dX9_cousins_1 : decode cX9_cousins 1 = .ok (.istore_n 1, 1) := by decide +kernel
theorem dX9_cousins_2 : decode cX9_cousins 2 = .ok (.iconst 0, 1) := by decide +kernel
theorem dX9_cousins_3 : decode cX9_cousins 3 = .ok (.istore_n 2, 1) := by decide +kernel
theorem dX9_cousins_4 : decode cX9_cousins 4 = .ok (.iload_n 2, 1) := by decide +kernel
theorem dX9_cousins_5 : decode cX9_cousins 5 = .ok (.aload_n 0, 1) := by decide +kernel
theorem dX9_cousins_6 : decode cX9_cousins 6 = .ok (.getfield 19, 3) := by decide +kernel
theorem dX9_cousins_9 : decode cX9_cousins 9 = .ok (.getfield 108, 3) := by decide +kernel
theorem dX9_cousins_12 : decode cX9_cousins 12 = .ok (.if_icmp .ge 23, 3) := by decide +kernel
theorem dX9_cousins_15 : decode cX9_cousins 15 = .ok (.aload_n 0, 1) := by decide +kernel
theorem dX9_cousins_16 : decode cX9_cousins 16 = .ok (.iload_n 2, 1) := by decide +kernel
theorem dX9_cousins_17 : decode cX9_cousins 17 = .ok (.invokevirtual 222, 3) := by decide +kernel
theorem dX9_cousins_20 : decode cX9_cousins 20 = .ok (.ifCond .eq 9, 3) := by decide +kernel
theorem dX9_cousins_23 : decode cX9_cousins 23 = .ok (.iload_n 1, 1) := by decide +kernel
theorem dX9_cousins_24 : decode cX9_cousins 24 = .ok (.iconst 1, 1) := by decide +kernel
theorem dX9_cousins_25 : decode cX9_cousins 25 = .ok (.iload_n 2, 1) := by decide +kernel
theorem dX9_cousins_26 : decode cX9_cousins 26 = .ok (.ishl, 1) := by decide +kernel
theorem dX9_cousins_27 : decode cX9_cousins 27 = .ok (.ior, 1) := by decide +kernel
theorem dX9_cousins_28 : decode cX9_cousins 28 = .ok (.istore_n 1, 1) := by decide +kernel
theorem dX9_cousins_29 : decode cX9_cousins 29 = .ok (.iinc 2 1, 3) := by decide +kernel
theorem dX9_cousins_32 : decode cX9_cousins 32 = .ok (.goto (-28), 3) := by decide +kernel
theorem dX9_cousins_35 : decode cX9_cousins 35 = .ok (.aload_n 0, 1) := by decide +kernel
theorem dX9_cousins_36 : decode cX9_cousins 36 = .ok (.iconst (-1), 1) := by decide +kernel
theorem dX9_cousins_37 : decode cX9_cousins 37 = .ok (.invokevirtual 222, 3) := by decide +kernel
theorem dX9_cousins_40 : decode cX9_cousins 40 = .ok (.ifCond .eq 10, 3) := by decide +kernel
theorem dX9_cousins_43 : decode cX9_cousins 43 = .ok (.iload_n 1, 1) := by decide +kernel
theorem dX9_cousins_44 : decode cX9_cousins 44 = .ok (.bipush 32, 2) := by decide +kernel
theorem dX9_cousins_46 : decode cX9_cousins 46 = .ok (.ior, 1) := by decide +kernel
theorem dX9_cousins_47 : decode cX9_cousins 47 = .ok (.goto 4, 3) := by decide +kernel
theorem dX9_cousins_50 : decode cX9_cousins 50 = .ok (.iload_n 1, 1) := by decide +kernel
theorem dX9_cousins_51 : decode cX9_cousins 51 = .ok (.ireturn, 1) := by decide +kernel
theorem dX9_span_0 : decode cX9_span 0 = .ok (.aload_n 0, 1) := by decide +kernel
theorem dX9_span_1 : decode cX9_span 1 = .ok (.getfield 19, 3) := by decide +kernel
theorem dX9_span_4 : decode cX9_span 4 = .ok (.iload_n 1, 1) := by decide +kernel
theorem dX9_span_5 : decode cX9_span 5 = .ok (.invokevirtual 120, 3) := by decide +kernel
theorem dX9_span_8 : decode cX9_span 8 = .ok (.ifCond .eq 23, 3) := by decide +kernel
theorem dX9_span_11 : decode cX9_span 11 = .ok (.aload_n 0, 1) := by decide +kernel
theorem dX9_span_12 : decode cX9_span 12 = .ok (.getfield 19, 3) := by decide +kernel
theorem dX9_span_15 : decode cX9_span 15 = .ok (.iload_n 2, 1) := by decide +kernel
theorem dX9_span_16 : decode cX9_span 16 = .ok (.invokevirtual 144, 3) := by decide +kernel
theorem dX9_span_19 : decode cX9_span 19 = .ok (.ifCond .eq 12, 3) := by decide +kernel
theorem dX9_span_22 : decode cX9_span 22 = .ok (.iload_n 3, 1) := by decide +kernel
theorem dX9_span_23 : decode cX9_span 23 = .ok (.iconst 0, 1) := by decide +kernel
theorem dX9_span_24 : decode cX9_span 24 = .ok (.iconst 1, 1) := by decide +kernel
theorem dX9_span_25 : decode cX9_span 25 = .ok (.invokestatic 90, 3) := by decide +kernel
theorem dX9_span_28 : decode cX9_span 28 = .ok (.ifCond .ne 5, 3) := by decide +kernel
theorem dX9_span_31 : decode cX9_span 31 = .ok (.iconst (-1), 1) := by decide +kernel
theorem dX9_span_32 : decode cX9_span 32 = .ok (.ireturn, 1) := by decide +kernel
theorem dX9_span_33 : decode cX9_span 33 = .ok (.aload_n 0, 1) := by decide +kernel
theorem dX9_span_34 : decode cX9_span 34 = .ok (.getfield 23, 3) := by decide +kernel
theorem dX9_span_37 : decode cX9_span 37 = .ok (.aload_n 0, 1) := by decide +kernel
theorem dX9_span_38 : decode cX9_span 38 = .ok (.getfield 19, 3) := by decide +kernel
theorem dX9_span_41 : decode cX9_span 41 = .ok (.invokevirtual 111, 3) := by decide +kernel
theorem dX9_span_44 : decode cX9_span 44 = .ok (.aload_n 0, 1) := by decide +kernel
theorem dX9_span_45 : decode cX9_span 45 = .ok (.getfield 23, 3) := by decide +kernel
theorem dX9_span_48 : decode cX9_span 48 = .ok (.getfield 123, 3) := by decide +kernel
theorem dX9_span_51 : decode cX9_span 51 = .ok (.iconst 5, 1) := by decide +kernel
theorem dX9_span_52 : decode cX9_span 52 = .ok (.iconst 0, 1) := by decide +kernel
theorem dX9_span_53 : decode cX9_span 53 = .ok (.iastore, 1) := by decide +kernel
theorem dX9_span_54 : decode cX9_span 54 = .ok (.aload_n 0, 1) := by decide +kernel
theorem dX9_span_55 : decode cX9_span 55 = .ok (.getfield 29, 3) := by decide +kernel
theorem dX9_span_58 : decode cX9_span 58 = .ok (.aload_n 0, 1) := by decide +kernel
theorem dX9_span_59 : decode cX9_span 59 = .ok (.getfield 23, 3) := by decide +kernel
theorem dX9_span_62 : decode cX9_span 62 = .ok (.iconst (-1), 1) := by decide +kernel
theorem dX9_span_63 : decode cX9_span 63 = .ok (.invokevirtual 130, 3) := by decide +kernel
theorem dX9_span_66 : decode cX9_span 66 = .ok (.iload_n 3, 1) := by decide +kernel
theorem dX9_span_67 : decode cX9_span 67 = .ok (.ifCond .ne 19, 3) := by decide +kernel
theorem dX9_span_70 : decode cX9_span 70 = .ok (.aload_n 0, 1) := by decide +kernel
theorem dX9_span_71 : decode cX9_span 71 = .ok (.getfield 29, 3) := by decide +kernel
theorem dX9_span_74 : decode cX9_span 74 = .ok (.aload_n 0, 1) := by decide +kernel
theorem dX9_span_75 : decode cX9_span 75 = .ok (.getfield 23, 3) := by decide +kernel
theorem dX9_span_78 : decode cX9_span 78 = .ok (.iload_n 1, 1) := by decide +kernel
theorem dX9_span_79 : decode cX9_span 79 = .ok (.iload_n 2, 1) := by decide +kernel
theorem dX9_span_80 : decode cX9_span 80 = .ok (.invokevirtual 225, 3) := by decide +kernel
theorem dX9_span_83 : decode cX9_span 83 = .ok (.goto 16, 3) := by decide +kernel
theorem dX9_span_86 : decode cX9_span 86 = .ok (.aload_n 0, 1) := by decide +kernel
theorem dX9_span_87 : decode cX9_span 87 = .ok (.getfield 29, 3) := by decide +kernel
theorem dX9_span_90 : decode cX9_span 90 = .ok (.aload_n 0, 1) := by decide +kernel
theorem dX9_span_91 : decode cX9_span 91 = .ok (.getfield 23, 3) := by decide +kernel
theorem dX9_span_94 : decode cX9_span 94 = .ok (.iload_n 1, 1) := by decide +kernel
theorem dX9_span_95 : decode cX9_span 95 = .ok (.iload_n 2, 1) := by decide +kernel
theorem dX9_span_96 : decode cX9_span 96 = .ok (.invokevirtual 229, 3) := by decide +kernel
theorem dX9_span_99 : decode cX9_span 99 = .ok (.ireturn, 1) := by decide +kernel
theorem dX9_year_0 : decode cX9_year 0 = .ok (.iload_n 1, 1) := by decide +kernel
theorem dX9_year_1 : decode cX9_year 1 = .ok (.iconst 0, 1) := by decide +kernel
theorem dX9_year_2 : decode cX9_year 2 = .ok (.sipush 9999, 3) := by decide +kernel
theorem dX9_year_5 : decode cX9_year 5 = .ok (.invokestatic 90, 3) := by decide +kernel
theorem dX9_year_8 : decode cX9_year 8 = .ok (.ifCond .eq 12, 3) := by decide +kernel
theorem dX9_year_11 : decode cX9_year 11 = .ok (.iload_n 2, 1) := by decide +kernel
theorem dX9_year_12 : decode cX9_year 12 = .ok (.iconst 0, 1) := by decide +kernel
theorem dX9_year_13 : decode cX9_year 13 = .ok (.iconst 1, 1) := by decide +kernel
theorem dX9_year_14 : decode cX9_year 14 = .ok (.invokestatic 90, 3) := by decide +kernel
theorem dX9_year_17 : decode cX9_year 17 = .ok (.ifCond .ne 5, 3) := by decide +kernel
theorem dX9_year_20 : decode cX9_year 20 = .ok (.iconst (-1), 1) := by decide +kernel
theorem dX9_year_21 : decode cX9_year 21 = .ok (.ireturn, 1) := by decide +kernel
theorem dX9_year_22 : decode cX9_year 22 = .ok (.aload_n 0, 1) := by decide +kernel
theorem dX9_year_23 : decode cX9_year 23 = .ok (.getfield 23, 3) := by decide +kernel
theorem dX9_year_26 : decode cX9_year 26 = .ok (.aload_n 0, 1) := by decide +kernel
theorem dX9_year_27 : decode cX9_year 27 = .ok (.getfield 19, 3) := by decide +kernel
theorem dX9_year_30 : decode cX9_year 30 = .ok (.invokevirtual 111, 3) := by decide +kernel
theorem dX9_year_33 : decode cX9_year 33 = .ok (.aload_n 0, 1) := by decide +kernel
theorem dX9_year_34 : decode cX9_year 34 = .ok (.getfield 23, 3) := by decide +kernel
theorem dX9_year_37 : decode cX9_year 37 = .ok (.iload_n 1, 1) := by decide +kernel
theorem dX9_year_38 : decode cX9_year 38 = .ok (.invokevirtual 232, 3) := by decide +kernel
theorem dX9_year_41 : decode cX9_year 41 = .ok (.aload_n 0, 1) := by decide +kernel
theorem dX9_year_42 : decode cX9_year 42 = .ok (.getfield 29, 3) := by decide +kernel
theorem dX9_year_45 : decode cX9_year 45 = .ok (.aload_n 0, 1) := by decide +kernel
theorem dX9_year_46 : decode cX9_year 46 = .ok (.getfield 23, 3) := by decide +kernel
theorem dX9_year_49 : decode cX9_year 49 = .ok (.iconst (-1), 1) := by decide +kernel
theorem dX9_year_50 : decode cX9_year 50 = .ok (.invokevirtual 130, 3) := by decide +kernel
theorem dX9_year_53 : decode cX9_year 53 = .ok (.iload_n 2, 1) := by decide +kernel
theorem dX9_year_54 : decode cX9_year 54 = .ok (.ifCond .ne 17, 3) := by decide +kernel
theorem dX9_year_57 : decode cX9_year 57 = .ok (.aload_n 0, 1) := by decide +kernel
theorem dX9_year_58 : decode cX9_year 58 = .ok (.getfield 29, 3) := by decide +kernel
theorem dX9_year_61 : decode cX9_year 61 = .ok (.aload_n 0, 1) := by decide +kernel
theorem dX9_year_62 : decode cX9_year 62 = .ok (.getfield 23, 3) := by decide +kernel
theorem dX9_year_65 : decode cX9_year 65 = .ok (.invokevirtual 164, 3) := by decide +kernel
theorem dX9_year_68 : decode cX9_year 68 = .ok (.goto 14, 3) := by decide +kernel
theorem dX9_year_71 : decode cX9_year 71 = .ok (.aload_n 0, 1) := by decide +kernel
theorem dX9_year_72 : decode cX9_year 72 = .ok (.getfield 29, 3) := by decide +kernel
theorem dX9_year_75 : decode cX9_year 75 = .ok (.aload_n 0, 1) := by decide +kernel
theorem dX9_year_76 : decode cX9_year 76 = .ok (.getfield 23, 3) := by decide +kernel
theorem dX9_year_79 : decode cX9_year 79 = .ok (.invokevirtual 236, 3) := by decide +kernel
theorem dX9_year_82 : decode cX9_year 82 = .ok (.ireturn, 1) := by decide +kernel
theorem dX9_keep_0 : decode cX9_keep 0 = .ok (.aload_n 0, 1) := by decide +kernel
theorem dX9_keep_1 : decode cX9_keep 1 = .ok (.getfield 71, 3) := by decide +kernel
theorem dX9_keep_4 : decode cX9_keep 4 = .ok (.getfield 119, 3) := by decide +kernel
theorem dX9_keep_7 : decode cX9_keep 7 = .ok (.iconst 2, 1) := by decide +kernel
theorem dX9_keep_8 : decode cX9_keep 8 = .ok (.if_icmp .lt 6, 3) := by decide +kernel
theorem dX9_keep_11 : decode cX9_keep 11 = .ok (.bipush (-3), 2) := by decide +kernel
theorem dX9_keep_13 : decode cX9_keep 13 = .ok (.ireturn, 1) := by decide +kernel
theorem dX9_keep_14 : decode cX9_keep 14 = .ok (.aload_n 0, 1) := by decide +kernel
theorem dX9_keep_15 : decode cX9_keep 15 = .ok (.getfield 71, 3) := by decide +kernel
theorem dX9_keep_18 : decode cX9_keep 18 = .ok (.aload_n 0, 1) := by decide +kernel
theorem dX9_keep_19 : decode cX9_keep 19 = .ok (.getfield 19, 3) := by decide +kernel
theorem dX9_keep_22 : decode cX9_keep 22 = .ok (.invokevirtual 239, 3) := by decide +kernel
theorem dX9_keep_25 : decode cX9_keep 25 = .ok (.aload_n 0, 1) := by decide +kernel
theorem dX9_keep_26 : decode cX9_keep 26 = .ok (.getfield 71, 3) := by decide +kernel
theorem dX9_keep_29 : decode cX9_keep 29 = .ok (.getfield 119, 3) := by decide +kernel
theorem dX9_keep_32 : decode cX9_keep 32 = .ok (.ireturn, 1) := by decide +kernel
theorem dX9_back_0 : decode cX9_back 0 = .ok (.aload_n 0, 1) := by decide +kernel
theorem dX9_back_1 : decode cX9_back 1 = .ok (.getfield 71, 3) := by decide +kernel
theorem dX9_back_4 : decode cX9_back 4 = .ok (.getfield 119, 3) := by decide +kernel
theorem dX9_back_7 : decode cX9_back 7 = .ok (.ifCond .ne 6, 3) := by decide +kernel
theorem dX9_back_10 : decode cX9_back 10 = .ok (.bipush (-2), 2) := by decide +kernel
theorem dX9_back_12 : decode cX9_back 12 = .ok (.ireturn, 1) := by decide +kernel
theorem dX9_back_13 : decode cX9_back 13 = .ok (.aload_n 0, 1) := by decide +kernel
theorem dX9_back_14 : decode cX9_back 14 = .ok (.getfield 71, 3) := by decide +kernel
theorem dX9_back_17 : decode cX9_back 17 = .ok (.aload_n 0, 1) := by decide +kernel
theorem dX9_back_18 : decode cX9_back 18 = .ok (.getfield 19, 3) := by decide +kernel
theorem dX9_back_21 : decode cX9_back 21 = .ok (.invokevirtual 242, 3) := by decide +kernel
theorem dX9_back_24 : decode cX9_back 24 = .ok (.aload_n 0, 1) := by decide +kernel
theorem dX9_back_25 : decode cX9_back 25 = .ok (.getfield 64, 3) := by decide +kernel
theorem dX9_back_28 : decode cX9_back 28 = .ok (.iconst 0, 1) := by decide +kernel
theorem dX9_back_29 : decode cX9_back 29 = .ok (.putfield 118, 3) := by decide +kernel
theorem dX9_back_32 : decode cX9_back 32 = .ok (.aload_n 0, 1) := by decide +kernel
theorem dX9_back_33 : decode cX9_back 33 = .ok (.getfield 71, 3) := by decide +kernel
theorem dX9_back_36 : decode cX9_back 36 = .ok (.getfield 119, 3) := by decide +kernel
theorem dX9_back_39 : decode cX9_back 39 = .ok (.ireturn, 1) := by decide +kernel
theorem dX9_count_0 : decode cX9_count 0 = .ok (.iload_n 1, 1) := by decide +kernel
theorem dX9_count_1 : decode cX9_count 1 = .ok (.tableswitch 116 0 7 #[47, 55, 63, 73, 84, 92, 100, 108], 47) := by decide +kernel
theorem dX9_count_48 : decode cX9_count 48 = .ok (.aload_n 0, 1) := by decide +kernel
theorem dX9_count_49 : decode cX9_count 49 = .ok (.getfield 19, 3) := by decide +kernel
theorem dX9_count_52 : decode cX9_count 52 = .ok (.getfield 105, 3) := by decide +kernel
theorem dX9_count_55 : decode cX9_count 55 = .ok (.ireturn, 1) := by decide +kernel
theorem dX9_count_56 : decode cX9_count 56 = .ok (.aload_n 0, 1) := by decide +kernel
theorem dX9_count_57 : decode cX9_count 57 = .ok (.getfield 19, 3) := by decide +kernel
theorem dX9_count_60 : decode cX9_count 60 = .ok (.getfield 108, 3) := by decide +kernel
theorem dX9_count_63 : decode cX9_count 63 = .ok (.ireturn, 1) := by decide +kernel
theorem dX9_count_64 : decode cX9_count 64 = .ok (.aload_n 0, 1) := by decide +kernel
theorem dX9_count_65 : decode cX9_count 65 = .ok (.getfield 19, 3) := by decide +kernel
theorem dX9_count_68 : decode cX9_count 68 = .ok (.getfield 123, 3) := by decide +kernel
theorem dX9_count_71 : decode cX9_count 71 = .ok (.iconst 5, 1) := by decide +kernel
theorem dX9_count_72 : decode cX9_count 72 = .ok (.iaload, 1) := by decide +kernel
theorem dX9_count_73 : decode cX9_count 73 = .ok (.ireturn, 1) := by decide +kernel
theorem dX9_count_74 : decode cX9_count 74 = .ok (.aload_n 0, 1) := by decide +kernel
theorem dX9_count_75 : decode cX9_count 75 = .ok (.getfield 19, 3) := by decide +kernel
theorem dX9_count_78 : decode cX9_count 78 = .ok (.getfield 123, 3) := by decide +kernel
theorem dX9_count_81 : decode cX9_count 81 = .ok (.bipush 6, 2) := by decide +kernel
theorem dX9_count_83 : decode cX9_count 83 = .ok (.iaload, 1) := by decide +kernel
theorem dX9_count_84 : decode cX9_count 84 = .ok (.ireturn, 1) := by decide +kernel
theorem dX9_count_85 : decode cX9_count 85 = .ok (.aload_n 0, 1) := by decide +kernel
theorem dX9_count_86 : decode cX9_count 86 = .ok (.getfield 57, 3) := by decide +kernel
theorem dX9_count_89 : decode cX9_count 89 = .ok (.getfield 115, 3) := by decide +kernel
theorem dX9_count_92 : decode cX9_count 92 = .ok (.ireturn, 1) := by decide +kernel
theorem dX9_count_93 : decode cX9_count 93 = .ok (.aload_n 0, 1) := by decide +kernel
theorem dX9_count_94 : decode cX9_count 94 = .ok (.getfield 64, 3) := by decide +kernel
theorem dX9_count_97 : decode cX9_count 97 = .ok (.getfield 118, 3) := by decide +kernel
theorem dX9_count_100 : decode cX9_count 100 = .ok (.ireturn, 1) := by decide +kernel
theorem dX9_count_101 : decode cX9_count 101 = .ok (.aload_n 0, 1) := by decide +kernel
theorem dX9_count_102 : decode cX9_count 102 = .ok (.getfield 71, 3) := by decide +kernel
theorem dX9_count_105 : decode cX9_count 105 = .ok (.getfield 119, 3) := by decide +kernel
theorem dX9_count_108 : decode cX9_count 108 = .ok (.ireturn, 1) := by decide +kernel
theorem dX9_count_109 : decode cX9_count 109 = .ok (.aload_n 0, 1) := by decide +kernel
theorem dX9_count_110 : decode cX9_count 110 = .ok (.getfield 12, 3) := by decide +kernel
theorem dX9_count_113 : decode cX9_count 113 = .ok (.getfield 93, 3) := by decide +kernel
theorem dX9_count_116 : decode cX9_count 116 = .ok (.ireturn, 1) := by decide +kernel
theorem dX9_count_117 : decode cX9_count 117 = .ok (.iconst (-1), 1) := by decide +kernel
theorem dX9_count_118 : decode cX9_count 118 = .ok (.ireturn, 1) := by decide +kernel
theorem dX9_isWithin_0 : decode cX9_isWithin 0 = .ok (.iload_n 0, 1) := by decide +kernel
theorem dX9_isWithin_1 : decode cX9_isWithin 1 = .ok (.iload_n 1, 1) := by decide +kernel
theorem dX9_isWithin_2 : decode cX9_isWithin 2 = .ok (.if_icmp .lt 12, 3) := by decide +kernel
theorem dX9_isWithin_5 : decode cX9_isWithin 5 = .ok (.iload_n 0, 1) := by decide +kernel
theorem dX9_isWithin_6 : decode cX9_isWithin 6 = .ok (.iload_n 2, 1) := by decide +kernel
theorem dX9_isWithin_7 : decode cX9_isWithin 7 = .ok (.if_icmp .gt 7, 3) := by decide +kernel
theorem dX9_isWithin_10 : decode cX9_isWithin 10 = .ok (.iconst 1, 1) := by decide +kernel
theorem dX9_isWithin_11 : decode cX9_isWithin 11 = .ok (.goto 4, 3) := by decide +kernel
theorem dX9_isWithin_14 : decode cX9_isWithin 14 = .ok (.iconst 0, 1) := by decide +kernel
theorem dX9_isWithin_15 : decode cX9_isWithin 15 = .ok (.ireturn, 1) := by decide +kernel
theorem dX9_change_0 : decode cX9_change 0 = .ok (.aload_n 0, 1) := by decide +kernel
theorem dX9_change_1 : decode cX9_change 1 = .ok (.getfield 19, 3) := by decide +kernel
theorem dX9_change_4 : decode cX9_change 4 = .ok (.getfield 123, 3) := by decide +kernel
theorem dX9_change_7 : decode cX9_change 7 = .ok (.iload_n 1, 1) := by decide +kernel
theorem dX9_change_8 : decode cX9_change 8 = .ok (.iaload, 1) := by decide +kernel
theorem dX9_change_9 : decode cX9_change 9 = .ok (.istore_n 3, 1) := by decide +kernel
theorem dX9_change_10 : decode cX9_change 10 = .ok (.aload_n 0, 1) := by decide +kernel
theorem dX9_change_11 : decode cX9_change 11 = .ok (.getfield 64, 3) := by decide +kernel
theorem dX9_change_14 : decode cX9_change 14 = .ok (.iload_n 1, 1) := by decide +kernel
theorem dX9_change_15 : decode cX9_change 15 = .ok (.iload_n 3, 1) := by decide +kernel
theorem dX9_change_16 : decode cX9_change 16 = .ok (.invokevirtual 245, 3) := by decide +kernel
theorem dX9_change_19 : decode cX9_change 19 = .ok (.aload_n 0, 1) := by decide +kernel
theorem dX9_change_20 : decode cX9_change 20 = .ok (.getfield 19, 3) := by decide +kernel
theorem dX9_change_23 : decode cX9_change 23 = .ok (.getfield 123, 3) := by decide +kernel
theorem dX9_change_26 : decode cX9_change 26 = .ok (.iload_n 1, 1) := by decide +kernel
theorem dX9_change_27 : decode cX9_change 27 = .ok (.iload_n 2, 1) := by decide +kernel
theorem dX9_change_28 : decode cX9_change 28 = .ok (.iastore, 1) := by decide +kernel
theorem dX9_change_29 : decode cX9_change 29 = .ok (.iload_n 3, 1) := by decide +kernel
theorem dX9_change_30 : decode cX9_change 30 = .ok (.ireturn, 1) := by decide +kernel
theorem dX9_gainBySaying_0 : decode cX9_gainBySaying 0 = .ok (.aload_n 0, 1) := by decide +kernel
theorem dX9_gainBySaying_1 : decode cX9_gainBySaying 1 = .ok (.getfield 23, 3) := by decide +kernel
theorem dX9_gainBySaying_4 : decode cX9_gainBySaying 4 = .ok (.getfield 123, 3) := by decide +kernel
theorem dX9_gainBySaying_7 : decode cX9_gainBySaying 7 = .ok (.iload_n 1, 1) := by decide +kernel
theorem dX9_gainBySaying_8 : decode cX9_gainBySaying 8 = .ok (.iload_n 2, 1) := by decide +kernel
theorem dX9_gainBySaying_9 : decode cX9_gainBySaying 9 = .ok (.iastore, 1) := by decide +kernel
theorem dX9_gainBySaying_10 : decode cX9_gainBySaying 10 = .ok (.aload_n 0, 1) := by decide +kernel
theorem dX9_gainBySaying_11 : decode cX9_gainBySaying 11 = .ok (.getfield 29, 3) := by decide +kernel
theorem dX9_gainBySaying_14 : decode cX9_gainBySaying 14 = .ok (.aload_n 0, 1) := by decide +kernel
theorem dX9_gainBySaying_15 : decode cX9_gainBySaying 15 = .ok (.getfield 23, 3) := by decide +kernel
theorem dX9_gainBySaying_18 : decode cX9_gainBySaying 18 = .ok (.iconst (-1), 1) := by decide +kernel
theorem dX9_gainBySaying_19 : decode cX9_gainBySaying 19 = .ok (.invokevirtual 130, 3) := by decide +kernel
theorem dX9_gainBySaying_22 : decode cX9_gainBySaying 22 = .ok (.aload_n 0, 1) := by decide +kernel
theorem dX9_gainBySaying_23 : decode cX9_gainBySaying 23 = .ok (.getfield 29, 3) := by decide +kernel
theorem dX9_gainBySaying_26 : decode cX9_gainBySaying 26 = .ok (.aload_n 0, 1) := by decide +kernel
theorem dX9_gainBySaying_27 : decode cX9_gainBySaying 27 = .ok (.getfield 23, 3) := by decide +kernel
theorem dX9_gainBySaying_30 : decode cX9_gainBySaying 30 = .ok (.iload_n 1, 1) := by decide +kernel
theorem dX9_gainBySaying_31 : decode cX9_gainBySaying 31 = .ok (.invokevirtual 140, 3) := by decide +kernel
theorem dX9_gainBySaying_34 : decode cX9_gainBySaying 34 = .ok (.ireturn, 1) := by decide +kernel
theorem dX9_isAsSeenWithout_0 : decode cX9_isAsSeenWithout 0 = .ok (.aload_n 0, 1) := by decide +kernel
theorem dX9_isAsSeenWithout_1 : decode cX9_isAsSeenWithout 1 = .ok (.getfield 29, 3) := by decide +kernel
theorem dX9_isAsSeenWithout_4 : decode cX9_isAsSeenWithout 4 = .ok (.aload_n 0, 1) := by decide +kernel
theorem dX9_isAsSeenWithout_5 : decode cX9_isAsSeenWithout 5 = .ok (.getfield 19, 3) := by decide +kernel
theorem dX9_isAsSeenWithout_8 : decode cX9_isAsSeenWithout 8 = .ok (.iload_n 1, 1) := by decide +kernel
theorem dX9_isAsSeenWithout_9 : decode cX9_isAsSeenWithout 9 = .ok (.invokevirtual 130, 3) := by decide +kernel
theorem dX9_isAsSeenWithout_12 : decode cX9_isAsSeenWithout 12 = .ok (.aload_n 0, 1) := by decide +kernel
theorem dX9_isAsSeenWithout_13 : decode cX9_isAsSeenWithout 13 = .ok (.getfield 57, 3) := by decide +kernel
theorem dX9_isAsSeenWithout_16 : decode cX9_isAsSeenWithout 16 = .ok (.aload_n 0, 1) := by decide +kernel
theorem dX9_isAsSeenWithout_17 : decode cX9_isAsSeenWithout 17 = .ok (.getfield 19, 3) := by decide +kernel
theorem dX9_isAsSeenWithout_20 : decode cX9_isAsSeenWithout 20 = .ok (.aload_n 0, 1) := by decide +kernel
theorem dX9_isAsSeenWithout_21 : decode cX9_isAsSeenWithout 21 = .ok (.getfield 29, 3) := by decide +kernel
theorem dX9_isAsSeenWithout_24 : decode cX9_isAsSeenWithout 24 = .ok (.invokevirtual 248, 3) := by decide +kernel
theorem dX9_isAsSeenWithout_27 : decode cX9_isAsSeenWithout 27 = .ok (.ireturn, 1) := by decide +kernel
theorem dJ9_max_7cf53_0 : decode cJ9_max_7cf53 0 = .ok (.iload_n 0, 1) := by decide +kernel
theorem dJ9_max_7cf53_1 : decode cJ9_max_7cf53 1 = .ok (.iload_n 1, 1) := by decide +kernel
theorem dJ9_max_7cf53_2 : decode cJ9_max_7cf53 2 = .ok (.if_icmp .lt 7, 3) := by decide +kernel
theorem dJ9_max_7cf53_5 : decode cJ9_max_7cf53 5 = .ok (.iload_n 0, 1) := by decide +kernel
theorem dJ9_max_7cf53_6 : decode cJ9_max_7cf53 6 = .ok (.goto 4, 3) := by decide +kernel
theorem dJ9_max_7cf53_9 : decode cJ9_max_7cf53 9 = .ok (.iload_n 1, 1) := by decide +kernel
theorem dJ9_max_7cf53_10 : decode cJ9_max_7cf53 10 = .ok (.ireturn, 1) := by decide +kernel
theorem dJ9_min_7cf53_0 : decode cJ9_min_7cf53 0 = .ok (.iload_n 0, 1) := by decide +kernel
theorem dJ9_min_7cf53_1 : decode cJ9_min_7cf53 1 = .ok (.iload_n 1, 1) := by decide +kernel
theorem dJ9_min_7cf53_2 : decode cJ9_min_7cf53 2 = .ok (.if_icmp .gt 7, 3) := by decide +kernel
theorem dJ9_min_7cf53_5 : decode cJ9_min_7cf53 5 = .ok (.iload_n 0, 1) := by decide +kernel
theorem dJ9_min_7cf53_6 : decode cJ9_min_7cf53 6 = .ok (.goto 4, 3) := by decide +kernel
theorem dJ9_min_7cf53_9 : decode cJ9_min_7cf53 9 = .ok (.iload_n 1, 1) := by decide +kernel
theorem dJ9_min_7cf53_10 : decode cJ9_min_7cf53 10 = .ok (.ireturn, 1) := by decide +kernel
theorem dJ7_fill_53178_0 : decode cJ7_fill_53178 0 = .ok (.iconst 0, 1) := by decide +kernel
theorem dJ7_fill_53178_1 : decode cJ7_fill_53178 1 = .ok (.istore_n 2, 1) := by decide +kernel
theorem dJ7_fill_53178_2 : decode cJ7_fill_53178 2 = .ok (.aload_n 0, 1) := by decide +kernel
theorem dJ7_fill_53178_3 : decode cJ7_fill_53178 3 = .ok (.arraylength, 1) := by decide +kernel
theorem dJ7_fill_53178_4 : decode cJ7_fill_53178 4 = .ok (.istore_n 3, 1) := by decide +kernel
theorem dJ7_fill_53178_5 : decode cJ7_fill_53178 5 = .ok (.iload_n 2, 1) := by decide +kernel
theorem dJ7_fill_53178_6 : decode cJ7_fill_53178 6 = .ok (.iload_n 3, 1) := by decide +kernel
theorem dJ7_fill_53178_7 : decode cJ7_fill_53178 7 = .ok (.if_icmp .ge 13, 3) := by decide +kernel
theorem dJ7_fill_53178_10 : decode cJ7_fill_53178 10 = .ok (.aload_n 0, 1) := by decide +kernel
theorem dJ7_fill_53178_11 : decode cJ7_fill_53178 11 = .ok (.iload_n 2, 1) := by decide +kernel
theorem dJ7_fill_53178_12 : decode cJ7_fill_53178 12 = .ok (.iload_n 1, 1) := by decide +kernel
theorem dJ7_fill_53178_13 : decode cJ7_fill_53178 13 = .ok (.iastore, 1) := by decide +kernel
theorem dJ7_fill_53178_14 : decode cJ7_fill_53178 14 = .ok (.iinc 2 1, 3) := by decide +kernel
theorem dJ7_fill_53178_17 : decode cJ7_fill_53178 17 = .ok (.goto (-12), 3) := by decide +kernel
theorem dJ7_fill_53178_20 : decode cJ7_fill_53178 20 = .ok (.return_, 1) := by decide +kernel
