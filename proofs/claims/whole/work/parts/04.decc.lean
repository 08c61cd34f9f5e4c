theorem dX0_init_0 : decode cX0_init 0 = .ok (.aload_n 0, 1) := by decide +kernel
theorem dX0_init_1 : decode cX0_init 1 = .ok (.invokespecial 3, 3) := by decide +kernel
theorem dX0_init_4 : decode cX0_init 4 = .ok (.aload_n 0, 1) := by decide +kernel
theorem dX0_init_5 : decode cX0_init 5 = .ok (.iconst (-1), 1) := by decide +kernel
theorem dX0_init_6 : decode cX0_init 6 = .ok (.putfield 9, 3) := by decide +kernel
theorem dX0_init_9 : decode cX0_init 9 = .ok (.aload_n 0, 1) := by decide +kernel
theorem dX0_init_10 : decode cX0_init 10 = .ok (.iconst 0, 1) := by decide +kernel
theorem dX0_init_11 : decode cX0_init 11 = .ok (.putfield 15, 3) := by decide +kernel
theorem dX0_init_14 : decode cX0_init 14 = .ok (.return_, 1) := by decide +kernel
theorem dX0_begin_0 : decode cX0_begin 0 = .ok (.aload_n 0, 1) := by decide +kernel
theorem dX0_begin_1 : decode cX0_begin 1 = .ok (.iconst (-1), 1) := by decide +kernel
theorem dX0_begin_2 : decode cX0_begin 2 = .ok (.putfield 9, 3) := by decide +kernel
theorem dX0_begin_5 : decode cX0_begin 5 = .ok (.aload_n 0, 1) := by decide +kernel
theorem dX0_begin_6 : decode cX0_begin 6 = .ok (.iload_n 1, 1) := by decide +kernel
theorem dX0_begin_7 : decode cX0_begin 7 = .ok (.putfield 15, 3) := by decide +kernel
theorem dX0_begin_10 : decode cX0_begin 10 = .ok (.return_, 1) := by decide +kernel
theorem dX0_offer_0 : decode cX0_offer 0 = .ok (.iload_n 2, 1) := by decide +kernel
theorem dX0_offer_1 : decode cX0_offer 1 = .ok (.aload_n 0, 1) := by decide +kernel
theorem dX0_offer_2 : decode cX0_offer 2 = .ok (.getfield 15, 3) := by decide +kernel
theorem dX0_offer_5 : decode cX0_offer 5 = .ok (.if_icmp .ge 13, 3) := by decide +kernel
theorem dX0_offer_8 : decode cX0_offer 8 = .ok (.aload_n 0, 1) := by decide +kernel
theorem dX0_offer_9 : decode cX0_offer 9 = .ok (.iload_n 1, 1) := by decide +kernel
theorem dX0_offer_10 : decode cX0_offer 10 = .ok (.putfield 9, 3) := by decide +kernel
theorem dX0_offer_13 : decode cX0_offer 13 = .ok (.aload_n 0, 1) := by decide +kernel
theorem dX0_offer_14 : decode cX0_offer 14 = .ok (.iload_n 2, 1) := by decide +kernel
theorem dX0_offer_15 : decode cX0_offer 15 = .ok (.putfield 15, 3) := by decide +kernel
theorem dX0_offer_18 : decode cX0_offer 18 = .ok (.return_, 1) := by decide +kernel
theorem dX0_answer_0 : decode cX0_answer 0 = .ok (.iload_n 1, 1) := by decide +kernel
theorem dX0_answer_1 : decode cX0_answer 1 = .ok (.ifCond .ne 10, 3) := by decide +kernel
theorem dX0_answer_4 : decode cX0_answer 4 = .ok (.aload_n 0, 1) := by decide +kernel
theorem dX0_answer_5 : decode cX0_answer 5 = .ok (.getfield 9, 3) := by decide +kernel
theorem dX0_answer_8 : decode cX0_answer 8 = .ok (.goto 7, 3) := by decide +kernel
theorem dX0_answer_11 : decode cX0_answer 11 = .ok (.aload_n 0, 1) := by decide +kernel
theorem dX0_answer_12 : decode cX0_answer 12 = .ok (.getfield 15, 3) := by decide +kernel
theorem dX0_answer_15 : decode cX0_answer 15 = .ok (.ireturn, 1) := by decide +kernel
theorem dX1_init_0 : decode cX1_init 0 = .ok (.aload_n 0, 1) := by decide +kernel
theorem dX1_init_1 : decode cX1_init 1 = .ok (.invokespecial 3, 3) := by decide +kernel
theorem dX1_init_4 : decode cX1_init 4 = .ok (.aload_n 0, 1) := by decide +kernel
theorem dX1_init_5 : decode cX1_init 5 = .ok (.bipush 8, 2) := by decide +kernel
theorem dX1_init_7 : decode cX1_init 7 = .ok (.anewarray 9, 3) := by decide +kernel
theorem dX1_init_10 : decode cX1_init 10 = .ok (.putfield 11, 3) := by decide +kernel
theorem dX1_init_13 : decode cX1_init 13 = .ok (.aload_n 0, 1) := by decide +kernel
theorem dX1_init_14 : decode cX1_init 14 = .ok (.iconst 0, 1) := by decide +kernel
theorem dX1_init_15 : decode cX1_init 15 = .ok (.putfield 17, 3) := by decide +kernel
theorem dX1_init_18 : decode cX1_init 18 = .ok (.aload_n 0, 1) := by decide +kernel
theorem dX1_init_19 : decode cX1_init 19 = .ok (.iconst 0, 1) := by decide +kernel
theorem dX1_init_20 : decode cX1_init 20 = .ok (.putfield 21, 3) := by decide +kernel
theorem dX1_init_23 : decode cX1_init 23 = .ok (.aload_n 0, 1) := by decide +kernel
theorem dX1_init_24 : decode cX1_init 24 = .ok (.iconst 0, 1) := by decide +kernel
theorem dX1_init_25 : decode cX1_init 25 = .ok (.putfield 24, 3) := by decide +kernel
theorem dX1_init_28 : decode cX1_init 28 = .ok (.aload_n 0, 1) := by decide +kernel
theorem dX1_init_29 : decode cX1_init 29 = .ok (.iconst 0, 1) := by decide +kernel
theorem dX1_init_30 : decode cX1_init 30 = .ok (.putfield 27, 3) := by decide +kernel
theorem dX1_init_33 : decode cX1_init 33 = .ok (.iconst 0, 1) := by decide +kernel
theorem dX1_init_34 : decode cX1_init 34 = .ok (.istore_n 1, 1) := by decide +kernel
theorem dX1_init_35 : decode cX1_init 35 = .ok (.iload_n 1, 1) := by decide +kernel
theorem dX1_init_36 : decode cX1_init 36 = .ok (.bipush 8, 2) := by decide +kernel
theorem dX1_init_38 : decode cX1_init 38 = .ok (.if_icmp .ge 22, 3) := by decide +kernel
theorem dX1_init_41 : decode cX1_init 41 = .ok (.aload_n 0, 1) := by decide +kernel
theorem dX1_init_42 : decode cX1_init 42 = .ok (.getfield 11, 3) := by decide +kernel
theorem dX1_init_45 : decode cX1_init 45 = .ok (.iload_n 1, 1) := by decide +kernel
theorem dX1_init_46 : decode cX1_init 46 = .ok (.new 9, 3) := by decide +kernel
theorem dX1_init_49 : decode cX1_init 49 = .ok (.dup, 1) := by decide +kernel
theorem dX1_init_50 : decode cX1_init 50 = .ok (.invokespecial 30, 3) := by decide +kernel
theorem dX1_init_53 : decode cX1_init 53 = .ok (.aastore, 1) := by decide +kernel
theorem dX1_init_54 : decode cX1_init 54 = .ok (.iinc 1 1, 3) := by decide +kernel
theorem dX1_init_57 : decode cX1_init 57 = .ok (.goto (-22), 3) := by decide +kernel
theorem dX1_init_60 : decode cX1_init 60 = .ok (.return_, 1) := by decide +kernel
theorem dX1_has_0 : decode cX1_has 0 = .ok (.iload_n 1, 1) := by decide +kernel
theorem dX1_has_1 : decode cX1_has 1 = .ok (.ifCond .lt 15, 3) := by decide +kernel
theorem dX1_has_4 : decode cX1_has 4 = .ok (.iload_n 1, 1) := by decide +kernel
theorem dX1_has_5 : decode cX1_has 5 = .ok (.aload_n 0, 1) := by decide +kernel
theorem dX1_has_6 : decode cX1_has 6 = .ok (.getfield 17, 3) := by decide +kernel
theorem dX1_has_9 : decode cX1_has 9 = .ok (.if_icmp .ge 7, 3) := by decide +kernel
theorem dX1_has_12 : decode cX1_has 12 = .ok (.iconst 1, 1) := by decide +kernel
theorem dX1_has_13 : decode cX1_has 13 = .ok (.goto 4, 3) := by decide +kernel
theorem dX1_has_16 : decode cX1_has 16 = .ok (.iconst 0, 1) := by decide +kernel
theorem dX1_has_17 : decode cX1_has 17 = .ok (.ireturn, 1) := by decide +kernel
theorem dX1_howManyFools_0 : decode cX1_howManyFools 0 = .ok (.iconst 0, 1) := by decide +kernel
theorem dX1_howManyFools_1 : decode cX1_howManyFools 1 = .ok (.istore_n 1, 1) := by decide +kernel
theorem dX1_howManyFools_2 : decode cX1_howManyFools 2 = .ok (.iconst 0, 1) := by decide +kernel
theorem dX1_howManyFools_3 : decode cX1_howManyFools 3 = .ok (.istore_n 2, 1) := by decide +kernel
theorem dX1_howManyFools_4 : decode cX1_howManyFools 4 = .ok (.iload_n 2, 1) := by decide +kernel
theorem dX1_howManyFools_5 : decode cX1_howManyFools 5 = .ok (.aload_n 0, 1) := by decide +kernel
theorem dX1_howManyFools_6 : decode cX1_howManyFools 6 = .ok (.getfield 17, 3) := by decide +kernel
theorem dX1_howManyFools_9 : decode cX1_howManyFools 9 = .ok (.if_icmp .ge 25, 3) := by decide +kernel
theorem dX1_howManyFools_12 : decode cX1_howManyFools 12 = .ok (.aload_n 0, 1) := by decide +kernel
theorem dX1_howManyFools_13 : decode cX1_howManyFools 13 = .ok (.getfield 11, 3) := by decide +kernel
theorem dX1_howManyFools_16 : decode cX1_howManyFools 16 = .ok (.iload_n 2, 1) := by decide +kernel
theorem dX1_howManyFools_17 : decode cX1_howManyFools 17 = .ok (.aaload, 1) := by decide +kernel
theorem dX1_howManyFools_18 : decode cX1_howManyFools 18 = .ok (.getfield 31, 3) := by decide +kernel
theorem dX1_howManyFools_21 : decode cX1_howManyFools 21 = .ok (.iconst 5, 1) := by decide +kernel
theorem dX1_howManyFools_22 : decode cX1_howManyFools 22 = .ok (.if_icmp .ne 6, 3) := by decide +kernel
theorem dX1_howManyFools_25 : decode cX1_howManyFools 25 = .ok (.iinc 1 1, 3) := by decide +kernel
theorem dX1_howManyFools_28 : decode cX1_howManyFools 28 = .ok (.iinc 2 1, 3) := by decide +kernel
theorem dX1_howManyFools_31 : decode cX1_howManyFools 31 = .ok (.goto (-27), 3) := by decide +kernel
theorem dX1_howManyFools_34 : decode cX1_howManyFools 34 = .ok (.iload_n 1, 1) := by decide +kernel
theorem dX1_howManyFools_35 : decode cX1_howManyFools 35 = .ok (.ireturn, 1) := by decide +kernel
theorem dX1_becomeLike_0 : decode cX1_becomeLike 0 = .ok (.aload_n 0, 1) := by decide +kernel
theorem dX1_becomeLike_1 : decode cX1_becomeLike 1 = .ok (.aload_n 1, 1) := by decide +kernel
theorem dX1_becomeLike_2 : decode cX1_becomeLike 2 = .ok (.getfield 17, 3) := by decide +kernel
theorem dX1_becomeLike_5 : decode cX1_becomeLike 5 = .ok (.putfield 17, 3) := by decide +kernel
theorem dX1_becomeLike_8 : decode cX1_becomeLike 8 = .ok (.aload_n 0, 1) := by decide +kernel
theorem dX1_becomeLike_9 : decode cX1_becomeLike 9 = .ok (.aload_n 1, 1) := by decide +kernel
theorem dX1_becomeLike_10 : decode cX1_becomeLike 10 = .ok (.getfield 21, 3) := by decide +kernel
theorem dX1_becomeLike_13 : decode cX1_becomeLike 13 = .ok (.putfield 21, 3) := by decide +kernel
theorem dX1_becomeLike_16 : decode cX1_becomeLike 16 = .ok (.aload_n 0, 1) := by decide +kernel
theorem dX1_becomeLike_17 : decode cX1_becomeLike 17 = .ok (.aload_n 1, 1) := by decide +kernel
theorem dX1_becomeLike_18 : decode cX1_becomeLike 18 = .ok (.getfield 24, 3) := by decide +kernel
theorem dX1_becomeLike_21 : decode cX1_becomeLike 21 = .ok (.putfield 24, 3) := by decide +kernel
theorem dX1_becomeLike_24 : decode cX1_becomeLike 24 = .ok (.aload_n 0, 1) := by decide +kernel
theorem dX1_becomeLike_25 : decode cX1_becomeLike 25 = .ok (.aload_n 1, 1) := by decide +kernel
theorem dX1_becomeLike_26 : decode cX1_becomeLike 26 = .ok (.getfield 27, 3) := by decide +kernel
theorem dX1_becomeLike_29 : decode cX1_becomeLike 29 = .ok (.putfield 27, 3) := by decide +kernel
theorem dX1_becomeLike_32 : decode cX1_becomeLike 32 = .ok (.iconst 0, 1) := by decide +kernel
theorem dX1_becomeLike_33 : decode cX1_becomeLike 33 = .ok (.istore_n 2, 1) := by decide +kernel
theorem dX1_becomeLike_34 : decode cX1_becomeLike 34 = .ok (.iload_n 2, 1) := by decide +kernel
theorem dX1_becomeLike_35 : decode cX1_becomeLike 35 = .ok (.aload_n 0, 1) := by decide +kernel
theorem dX1_becomeLike_36 : decode cX1_becomeLike 36 = .ok (.getfield 17, 3) := by decide +kernel
theorem dX1_becomeLike_39 : decode cX1_becomeLike 39 = .ok (.if_icmp .ge 24, 3) := by decide +kernel
theorem dX1_becomeLike_42 : decode cX1_becomeLike 42 = .ok (.aload_n 0, 1) := by decide +kernel
theorem dX1_becomeLike_43 : decode cX1_becomeLike 43 = .ok (.getfield 11, 3) := by decide +kernel
theorem dX1_becomeLike_46 : decode cX1_becomeLike 46 = .ok (.iload_n 2, 1) := by decide +kernel
theorem dX1_becomeLike_47 : decode cX1_becomeLike 47 = .ok (.aaload, 1) := by decide +kernel
theorem dX1_becomeLike_48 : decode cX1_becomeLike 48 = .ok (.aload_n 1, 1) := by decide +kernel
theorem dX1_becomeLike_49 : decode cX1_becomeLike 49 = .ok (.getfield 11, 3) := by decide +kernel
theorem dX1_becomeLike_52 : decode cX1_becomeLike 52 = .ok (.iload_n 2, 1) := by decide +kernel
theorem dX1_becomeLike_53 : decode cX1_becomeLike 53 = .ok (.aaload, 1) := by decide +kernel
theorem dX1_becomeLike_54 : decode cX1_becomeLike 54 = .ok (.invokevirtual 34, 3) := by decide +kernel
theorem dX1_becomeLike_57 : decode cX1_becomeLike 57 = .ok (.iinc 2 1, 3) := by decide +kernel
theorem dX1_becomeLike_60 : decode cX1_becomeLike 60 = .ok (.goto (-26), 3) := by decide +kernel
theorem dX1_becomeLike_63 : decode cX1_becomeLike 63 = .ok (.return_, 1) := by decide +kernel
theorem dX2_init_0 : decode cX2_init 0 = .ok (.aload_n 0, 1) := by decide +kernel
theorem dX2_init_1 : decode cX2_init 1 = .ok (.invokespecial 3, 3) := by decide +kernel
theorem dX2_init_4 : decode cX2_init 4 = .ok (.aload_n 0, 1) := by decide +kernel
theorem dX2_init_5 : decode cX2_init 5 = .ok (.new 9, 3) := by decide +kernel
theorem dX2_init_8 : decode cX2_init 8 = .ok (.dup, 1) := by decide +kernel
theorem dX2_init_9 : decode cX2_init 9 = .ok (.invokespecial 11, 3) := by decide +kernel
theorem dX2_init_12 : decode cX2_init 12 = .ok (.putfield 12, 3) := by decide +kernel
theorem dX2_init_15 : decode cX2_init 15 = .ok (.aload_n 0, 1) := by decide +kernel
theorem dX2_init_16 : decode cX2_init 16 = .ok (.new 18, 3) := by decide +kernel
theorem dX2_init_19 : decode cX2_init 19 = .ok (.dup, 1) := by decide +kernel
theorem dX2_init_20 : decode cX2_init 20 = .ok (.invokespecial 20, 3) := by decide +kernel
theorem dX2_init_23 : decode cX2_init 23 = .ok (.putfield 21, 3) := by decide +kernel
theorem dX2_init_26 : decode cX2_init 26 = .ok (.aload_n 0, 1) := by decide +kernel
theorem dX2_init_27 : decode cX2_init 27 = .ok (.bipush 7, 2) := by decide +kernel
theorem dX2_init_29 : decode cX2_init 29 = .ok (.bipush 8, 2) := by decide +kernel
theorem dX2_init_31 : decode cX2_init 31 = .ok (.multianewarray 25 2, 4) := by decide +kernel
theorem dX2_init_35 : decode cX2_init 35 = .ok (.putfield 27, 3) := by decide +kernel
theorem dX2_init_38 : decode cX2_init 38 = .ok (.aload_n 0, 1) := by decide +kernel
theorem dX2_init_39 : decode cX2_init 39 = .ok (.bipush 6, 2) := by decide +kernel
theorem dX2_init_41 : decode cX2_init 41 = .ok (.bipush 8, 2) := by decide +kernel
theorem dX2_init_43 : decode cX2_init 43 = .ok (.multianewarray 25 2, 4) := by decide +kernel
theorem dX2_init_47 : decode cX2_init 47 = .ok (.putfield 30, 3) := by decide +kernel
theorem dX2_init_50 : decode cX2_init 50 = .ok (.aload_n 0, 1) := by decide +kernel
theorem dX2_init_51 : decode cX2_init 51 = .ok (.bipush 6, 2) := by decide +kernel
theorem dX2_init_53 : decode cX2_init 53 = .ok (.newarray .int, 2) := by decide +kernel
theorem dX2_init_55 : decode cX2_init 55 = .ok (.putfield 33, 3) := by decide +kernel
theorem dX2_init_58 : decode cX2_init 58 = .ok (.aload_n 0, 1) := by decide +kernel
theorem dX2_init_59 : decode cX2_init 59 = .ok (.iconst 0, 1) := by decide +kernel
theorem dX2_init_60 : decode cX2_init 60 = .ok (.putfield 37, 3) := by decide +kernel
theorem dX2_init_63 : decode cX2_init 63 = .ok (.aload_n 0, 1) := by decide +kernel
theorem dX2_init_64 : decode cX2_init 64 = .ok (.iconst 0, 1) := by decide +kernel
theorem dX2_init_65 : decode cX2_init 65 = .ok (.putfield 41, 3) := by decide +kernel
theorem dX2_init_68 : decode cX2_init 68 = .ok (.aload_n 0, 1) := by decide +kernel
theorem dX2_init_69 : decode cX2_init 69 = .ok (.iconst 0, 1) := by decide +kernel
theorem dX2_init_70 : decode cX2_init 70 = .ok (.putfield 44, 3) := by decide +kernel
theorem dX2_init_73 : decode cX2_init 73 = .ok (.return_, 1) := by decide +kernel
theorem dX2_playAll_0 : decode cX2_playAll 0 = .ok (.iconst 0, 1) := by decide +kernel
theorem dX2_playAll_1 : decode cX2_playAll 1 = .ok (.istore_n 1, 1) := by decide +kernel
theorem dX2_playAll_2 : decode cX2_playAll 2 = .ok (.iconst 0, 1) := by decide +kernel
theorem dX2_playAll_3 : decode cX2_playAll 3 = .ok (.istore_n 2, 1) := by decide +kernel
theorem dX2_playAll_4 : decode cX2_playAll 4 = .ok (.iload_n 2, 1) := by decide +kernel
theorem dX2_playAll_5 : decode cX2_playAll 5 = .ok (.iconst 5, 1) := by decide +kernel
theorem dX2_playAll_6 : decode cX2_playAll 6 = .ok (.if_icmp .ge 17, 3) := by decide +kernel
theorem dX2_playAll_9 : decode cX2_playAll 9 = .ok (.iload_n 1, 1) := by decide +kernel
theorem dX2_playAll_10 : decode cX2_playAll 10 = .ok (.aload_n 0, 1) := by decide +kernel
theorem dX2_playAll_11 : decode cX2_playAll 11 = .ok (.iload_n 2, 1) := by decide +kernel
theorem dX2_playAll_12 : decode cX2_playAll 12 = .ok (.invokevirtual 47, 3) := by decide +kernel
theorem dX2_playAll_15 : decode cX2_playAll 15 = .ok (.iadd, 1) := by decide +kernel
theorem dX2_playAll_16 : decode cX2_playAll 16 = .ok (.istore_n 1, 1) := by decide +kernel
theorem dX2_playAll_17 : decode cX2_playAll 17 = .ok (.iinc 2 1, 3) := by decide +kernel
theorem dX2_playAll_20 : decode cX2_playAll 20 = .ok (.goto (-16), 3) := by decide +kernel
theorem dX2_playAll_23 : decode cX2_playAll 23 = .ok (.iload_n 1, 1) := by decide +kernel
theorem dX2_playAll_24 : decode cX2_playAll 24 = .ok (.ireturn, 1) := by decide +kernel
theorem dX2_play_0 : decode cX2_play 0 = .ok (.iconst 0, 1) := by decide +kernel
theorem dX2_play_1 : decode cX2_play 1 = .ok (.istore_n 2, 1) := by decide +kernel
theorem dX2_play_2 : decode cX2_play 2 = .ok (.iconst 0, 1) := by decide +kernel
theorem dX2_play_3 : decode cX2_play 3 = .ok (.istore_n 3, 1) := by decide +kernel
theorem dX2_play_4 : decode cX2_play 4 = .ok (.iload_n 3, 1) := by decide +kernel
theorem dX2_play_5 : decode cX2_play 5 = .ok (.aload_n 0, 1) := by decide +kernel
theorem dX2_play_6 : decode cX2_play 6 = .ok (.getfield 12, 3) := by decide +kernel
theorem dX2_play_9 : decode cX2_play 9 = .ok (.getfield 51, 3) := by decide +kernel
theorem dX2_play_12 : decode cX2_play 12 = .ok (.if_icmp .ge 48, 3) := by decide +kernel
theorem dX2_play_15 : decode cX2_play 15 = .ok (.aload_n 0, 1) := by decide +kernel
theorem dX2_play_16 : decode cX2_play 16 = .ok (.getfield 27, 3) := by decide +kernel
theorem dX2_play_19 : decode cX2_play 19 = .ok (.iconst 0, 1) := by decide +kernel
theorem dX2_play_20 : decode cX2_play 20 = .ok (.aaload, 1) := by decide +kernel
theorem dX2_play_21 : decode cX2_play 21 = .ok (.iload_n 3, 1) := by decide +kernel
theorem dX2_play_22 : decode cX2_play 22 = .ok (.aload_n 0, 1) := by decide +kernel
theorem dX2_play_23 : decode cX2_play 23 = .ok (.getfield 12, 3) := by decide +kernel
theorem dX2_play_26 : decode cX2_play 26 = .ok (.getfield 54, 3) := by decide +kernel
theorem dX2_play_29 : decode cX2_play 29 = .ok (.iload_n 3, 1) := by decide +kernel
theorem dX2_play_30 : decode cX2_play 30 = .ok (.aaload, 1) := by decide +kernel
theorem dX2_play_31 : decode cX2_play 31 = .ok (.getfield 58, 3) := by decide +kernel
theorem dX2_play_34 : decode cX2_play 34 = .ok (.iastore, 1) := by decide +kernel
theorem dX2_play_35 : decode cX2_play 35 = .ok (.aload_n 0, 1) := by decide +kernel
theorem dX2_play_36 : decode cX2_play 36 = .ok (.getfield 12, 3) := by decide +kernel
theorem dX2_play_39 : decode cX2_play 39 = .ok (.getfield 54, 3) := by decide +kernel
theorem dX2_play_42 : decode cX2_play 42 = .ok (.iload_n 3, 1) := by decide +kernel
theorem dX2_play_43 : decode cX2_play 43 = .ok (.aaload, 1) := by decide +kernel
theorem dX2_play_44 : decode cX2_play 44 = .ok (.getfield 63, 3) := by decide +kernel
theorem dX2_play_47 : decode cX2_play 47 = .ok (.iload_n 1, 1) := by decide +kernel
theorem dX2_play_48 : decode cX2_play 48 = .ok (.if_icmp .ne 6, 3) := by decide +kernel
theorem dX2_play_51 : decode cX2_play 51 = .ok (.iinc 2 1, 3) := by decide +kernel
theorem dX2_play_54 : decode cX2_play 54 = .ok (.iinc 3 1, 3) := by decide +kernel
theorem dX2_play_57 : decode cX2_play 57 = .ok (.goto (-53), 3) := by decide +kernel
theorem dX2_play_60 : decode cX2_play 60 = .ok (.aload_n 0, 1) := by decide +kernel
theorem dX2_play_61 : decode cX2_play 61 = .ok (.iconst 0, 1) := by decide +kernel
theorem dX2_play_62 : decode cX2_play 62 = .ok (.putfield 37, 3) := by decide +kernel
theorem dX2_play_65 : decode cX2_play 65 = .ok (.iconst 0, 1) := by decide +kernel
theorem dX2_play_66 : decode cX2_play 66 = .ok (.istore_n 3, 1) := by decide +kernel
theorem dX2_play_67 : decode cX2_play 67 = .ok (.iload_n 3, 1) := by decide +kernel
theorem dX2_play_68 : decode cX2_play 68 = .ok (.bipush 6, 2) := by decide +kernel
theorem dX2_play_70 : decode cX2_play 70 = .ok (.if_icmp .ge 21, 3) := by decide +kernel
theorem dX2_play_73 : decode cX2_play 73 = .ok (.aload_n 0, 1) := by decide +kernel
theorem dX2_play_74 : decode cX2_play 74 = .ok (.iload_n 1, 1) := by decide +kernel
theorem dX2_play_75 : decode cX2_play 75 = .ok (.iload_n 3, 1) := by decide +kernel
theorem dX2_play_76 : decode cX2_play 76 = .ok (.invokevirtual 66, 3) := by decide +kernel
theorem dX2_play_79 : decode cX2_play 79 = .ok (.aload_n 0, 1) := by decide +kernel
theorem dX2_play_80 : decode cX2_play 80 = .ok (.iload_n 1, 1) := by decide +kernel
theorem dX2_play_81 : decode cX2_play 81 = .ok (.iload_n 3, 1) := by decide +kernel
theorem dX2_play_82 : decode cX2_play 82 = .ok (.invokevirtual 70, 3) := by decide +kernel
theorem dX2_play_85 : decode cX2_play 85 = .ok (.iinc 3 1, 3) := by decide +kernel
theorem dX2_play_88 : decode cX2_play 88 = .ok (.goto (-21), 3) := by decide +kernel
theorem dX2_play_91 : decode cX2_play 91 = .ok (.aload_n 0, 1) := by decide +kernel
theorem dX2_play_92 : decode cX2_play 92 = .ok (.getfield 21, 3) := by decide +kernel
theorem dX2_play_95 : decode cX2_play 95 = .ok (.aload_n 0, 1) := by decide +kernel
theorem dX2_play_96 : decode cX2_play 96 = .ok (.getfield 37, 3) := by decide +kernel
theorem dX2_play_99 : decode cX2_play 99 = .ok (.bipush 6, 2) := by decide +kernel
theorem dX2_play_101 : decode cX2_play 101 = .ok (.iconst 0, 1) := by decide +kernel
theorem dX2_play_102 : decode cX2_play 102 = .ok (.iload_n 2, 1) := by decide +kernel
theorem dX2_play_103 : decode cX2_play 103 = .ok (.iload_n 1, 1) := by decide +kernel
theorem dX2_play_104 : decode cX2_play 104 = .ok (.iconst 0, 1) := by decide +kernel
theorem dX2_play_105 : decode cX2_play 105 = .ok (.invokevirtual 73, 3) := by decide +kernel
theorem dX2_play_108 : decode cX2_play 108 = .ok (.aload_n 0, 1) := by decide +kernel
theorem dX2_play_109 : decode cX2_play 109 = .ok (.getfield 21, 3) := by decide +kernel
theorem dX2_play_112 : decode cX2_play 112 = .ok (.aload_n 0, 1) := by decide +kernel
theorem dX2_play_113 : decode cX2_play 113 = .ok (.getfield 12, 3) := by decide +kernel
theorem dX2_play_116 : decode cX2_play 116 = .ok (.getfield 77, 3) := by decide +kernel
theorem dX2_play_119 : decode cX2_play 119 = .ok (.iconst 2, 1) := by decide +kernel
theorem dX2_play_120 : decode cX2_play 120 = .ok (.invokevirtual 80, 3) := by decide +kernel
theorem dX2_play_123 : decode cX2_play 123 = .ok (.iconst 0, 1) := by decide +kernel
theorem dX2_play_124 : decode cX2_play 124 = .ok (.sipush 9999, 3) := by decide +kernel
theorem dX2_play_127 : decode cX2_play 127 = .ok (.invokestatic 84, 3) := by decide +kernel
theorem dX2_play_130 : decode cX2_play 130 = .ok (.ireturn, 1) := by decide +kernel
theorem dX2_seeWhoIsPresent_0 : decode cX2_seeWhoIsPresent 0 = .ok (.aload_n 0, 1) := by decide +kernel
theorem dX2_seeWhoIsPresent_1 : decode cX2_seeWhoIsPresent 1 = .ok (.iconst 0, 1) := by decide +kernel
theorem dX2_seeWhoIsPresent_2 : decode cX2_seeWhoIsPresent 2 = .ok (.putfield 41, 3) := by decide +kernel
theorem dX2_seeWhoIsPresent_5 : decode cX2_seeWhoIsPresent 5 = .ok (.aload_n 0, 1) := by decide +kernel
theorem dX2_seeWhoIsPresent_6 : decode cX2_seeWhoIsPresent 6 = .ok (.iconst 0, 1) := by decide +kernel
theorem dX2_seeWhoIsPresent_7 : decode cX2_seeWhoIsPresent 7 = .ok (.putfield 44, 3) := by decide +kernel
theorem dX2_seeWhoIsPresent_10 : decode cX2_seeWhoIsPresent 10 = .ok (.iconst 0, 1) := by decide +kernel
theorem dX2_seeWhoIsPresent_11 : decode cX2_seeWhoIsPresent 11 = .ok (.istore_n 3, 1) := by decide +kernel
theorem dX2_seeWhoIsPresent_12 : decode cX2_seeWhoIsPresent 12 = .ok (.iload_n 3, 1) := by decide +kernel
theorem dX2_seeWhoIsPresent_13 : decode cX2_seeWhoIsPresent 13 = .ok (.aload_n 0, 1) := by decide +kernel
theorem dX2_seeWhoIsPresent_14 : decode cX2_seeWhoIsPresent 14 = .ok (.getfield 12, 3) := by decide +kernel
theorem dX2_seeWhoIsPresent_17 : decode cX2_seeWhoIsPresent 17 = .ok (.getfield 51, 3) := by decide +kernel
theorem dX2_seeWhoIsPresent_20 : decode cX2_seeWhoIsPresent 20 = .ok (.if_icmp .ge 71, 3) := by decide +kernel
theorem dX2_seeWhoIsPresent_23 : decode cX2_seeWhoIsPresent 23 = .ok (.aload_n 0, 1) := by decide +kernel
theorem dX2_seeWhoIsPresent_24 : decode cX2_seeWhoIsPresent 24 = .ok (.getfield 12, 3) := by decide +kernel
theorem dX2_seeWhoIsPresent_27 : decode cX2_seeWhoIsPresent 27 = .ok (.getfield 54, 3) := by decide +kernel
theorem dX2_seeWhoIsPresent_30 : decode cX2_seeWhoIsPresent 30 = .ok (.iload_n 3, 1) := by decide +kernel
theorem dX2_seeWhoIsPresent_31 : decode cX2_seeWhoIsPresent 31 = .ok (.aaload, 1) := by decide +kernel
theorem dX2_seeWhoIsPresent_32 : decode cX2_seeWhoIsPresent 32 = .ok (.astore 4, 2) := by decide +kernel
theorem dX2_seeWhoIsPresent_34 : decode cX2_seeWhoIsPresent 34 = .ok (.aload 4, 2) := by decide +kernel
theorem dX2_seeWhoIsPresent_36 : decode cX2_seeWhoIsPresent 36 = .ok (.getfield 63, 3) := by decide +kernel
theorem dX2_seeWhoIsPresent_39 : decode cX2_seeWhoIsPresent 39 = .ok (.iload_n 1, 1) := by decide +kernel
theorem dX2_seeWhoIsPresent_40 : decode cX2_seeWhoIsPresent 40 = .ok (.if_icmp .ne 45, 3) := by decide +kernel
theorem dX2_seeWhoIsPresent_43 : decode cX2_seeWhoIsPresent 43 = .ok (.aload 4, 2) := by decide +kernel
theorem dX2_seeWhoIsPresent_45 : decode cX2_seeWhoIsPresent 45 = .ok (.iload_n 2, 1) := by decide +kernel
theorem dX2_seeWhoIsPresent_46 : decode cX2_seeWhoIsPresent 46 = .ok (.invokevirtual 88, 3) := by decide +kernel
theorem dX2_seeWhoIsPresent_49 : decode cX2_seeWhoIsPresent 49 = .ok (.ifCond .ne 36, 3) := by decide +kernel
theorem dX2_seeWhoIsPresent_52 : decode cX2_seeWhoIsPresent 52 = .ok (.aload_n 0, 1) := by decide +kernel
theorem dX2_seeWhoIsPresent_53 : decode cX2_seeWhoIsPresent 53 = .ok (.dup, 1) := by decide +kernel
theorem dX2_seeWhoIsPresent_54 : decode cX2_seeWhoIsPresent 54 = .ok (.getfield 41, 3) := by decide +kernel
theorem dX2_seeWhoIsPresent_57 : decode cX2_seeWhoIsPresent 57 = .ok (.iconst 1, 1) := by decide +kernel
theorem dX2_seeWhoIsPresent_58 : decode cX2_seeWhoIsPresent 58 = .ok (.iadd, 1) := by decide +kernel
theorem dX2_seeWhoIsPresent_59 : decode cX2_seeWhoIsPresent 59 = .ok (.putfield 41, 3) := by decide +kernel
theorem dX2_seeWhoIsPresent_62 : decode cX2_seeWhoIsPresent 62 = .ok (.aload_n 0, 1) := by decide +kernel
theorem dX2_seeWhoIsPresent_63 : decode cX2_seeWhoIsPresent 63 = .ok (.dup, 1) := by decide +kernel
theorem dX2_seeWhoIsPresent_64 : decode cX2_seeWhoIsPresent 64 = .ok (.getfield 44, 3) := by decide +kernel
theorem dX2_seeWhoIsPresent_67 : decode cX2_seeWhoIsPresent 67 = .ok (.aload 4, 2) := by decide +kernel
theorem dX2_seeWhoIsPresent_69 : decode cX2_seeWhoIsPresent 69 = .ok (.getfield 92, 3) := by decide +kernel
theorem dX2_seeWhoIsPresent_72 : decode cX2_seeWhoIsPresent 72 = .ok (.iconst 5, 1) := by decide +kernel
theorem dX2_seeWhoIsPresent_73 : decode cX2_seeWhoIsPresent 73 = .ok (.if_icmp .ne 7, 3) := by decide +kernel
theorem dX2_seeWhoIsPresent_76 : decode cX2_seeWhoIsPresent 76 = .ok (.iconst 1, 1) := by decide +kernel
theorem dX2_seeWhoIsPresent_77 : decode cX2_seeWhoIsPresent 77 = .ok (.goto 4, 3) := by decide +kernel
theorem dX2_seeWhoIsPresent_80 : decode cX2_seeWhoIsPresent 80 = .ok (.iconst 0, 1) := by decide +kernel
theorem dX2_seeWhoIsPresent_81 : decode cX2_seeWhoIsPresent 81 = .ok (.iadd, 1) := by decide +kernel
theorem dX2_seeWhoIsPresent_82 : decode cX2_seeWhoIsPresent 82 = .ok (.putfield 44, 3) := by decide +kernel
theorem dX2_seeWhoIsPresent_85 : decode cX2_seeWhoIsPresent 85 = .ok (.iinc 3 1, 3) := by decide +kernel
theorem dX2_seeWhoIsPresent_88 : decode cX2_seeWhoIsPresent 88 = .ok (.goto (-76), 3) := by decide +kernel
theorem dX2_seeWhoIsPresent_91 : decode cX2_seeWhoIsPresent 91 = .ok (.return_, 1) := by decide +kernel
theorem dX2_passHour_0 : decode cX2_passHour 0 = .ok (.aload_n 0, 1) := by decide +kernel
theorem dX2_passHour_1 : decode cX2_passHour 1 = .ok (.getfield 33, 3) := by decide +kernel
theorem dX2_passHour_4 : decode cX2_passHour 4 = .ok (.iload_n 2, 1) := by decide +kernel
theorem dX2_passHour_5 : decode cX2_passHour 5 = .ok (.iconst 0, 1) := by decide +kernel
theorem dX2_passHour_6 : decode cX2_passHour 6 = .ok (.iastore, 1) := by decide +kernel
theorem dX2_passHour_7 : decode cX2_passHour 7 = .ok (.iconst 0, 1) := by decide +kernel
theorem dX2_passHour_8 : decode cX2_passHour 8 = .ok (.istore_n 3, 1) := by decide +kernel
theorem dX2_passHour_9 : decode cX2_passHour 9 = .ok (.iload_n 3, 1) := by decide +kernel
theorem dX2_passHour_10 : decode cX2_passHour 10 = .ok (.aload_n 0, 1) := by decide +kernel
theorem dX2_passHour_11 : decode cX2_passHour 11 = .ok (.getfield 12, 3) := by decide +kernel
theorem dX2_passHour_14 : decode cX2_passHour 14 = .ok (.getfield 51, 3) := by decide +kernel
theorem dX2_passHour_17 : decode cX2_passHour 17 = .ok (.if_icmp .ge 276, 3) := by decide +kernel
theorem dX2_passHour_20 : decode cX2_passHour 20 = .ok (.aload_n 0, 1) := by decide +kernel
theorem dX2_passHour_21 : decode cX2_passHour 21 = .ok (.getfield 12, 3) := by decide +kernel
theorem dX2_passHour_24 : decode cX2_passHour 24 = .ok (.getfield 54, 3) := by decide +kernel
theorem dX2_passHour_27 : decode cX2_passHour 27 = .ok (.iload_n 3, 1) := by decide +kernel
theorem dX2_passHour_28 : decode cX2_passHour 28 = .ok (.aaload, 1) := by decide +kernel
theorem dX2_passHour_29 : decode cX2_passHour 29 = .ok (.astore 4, 2) := by decide +kernel
theorem dX2_passHour_31 : decode cX2_passHour 31 = .ok (.aload 4, 2) := by decide +kernel
theorem dX2_passHour_33 : decode cX2_passHour 33 = .ok (.getfield 63, 3) := by decide +kernel
theorem dX2_passHour_36 : decode cX2_passHour 36 = .ok (.iload_n 1, 1) := by decide +kernel
theorem dX2_passHour_37 : decode cX2_passHour 37 = .ok (.if_icmp .eq 6, 3) := by decide +kernel
theorem dX2_passHour_40 : decode cX2_passHour 40 = .ok (.goto 247, 3) := by decide +kernel
theorem dX2_passHour_43 : decode cX2_passHour 43 = .ok (.iconst 1, 1) := by decide +kernel
theorem dX2_passHour_44 : decode cX2_passHour 44 = .ok (.istore 5, 2) := by decide +kernel
theorem dX2_passHour_46 : decode cX2_passHour 46 = .ok (.aload_n 0, 1) := by decide +kernel
theorem dX2_passHour_47 : decode cX2_passHour 47 = .ok (.getfield 30, 3) := by decide +kernel
theorem dX2_passHour_50 : decode cX2_passHour 50 = .ok (.iload_n 2, 1) := by decide +kernel
theorem dX2_passHour_51 : decode cX2_passHour 51 = .ok (.aaload, 1) := by decide +kernel
theorem dX2_passHour_52 : decode cX2_passHour 52 = .ok (.iload_n 3, 1) := by decide +kernel
theorem dX2_passHour_53 : decode cX2_passHour 53 = .ok (.iconst 0, 1) := by decide +kernel
theorem dX2_passHour_54 : decode cX2_passHour 54 = .ok (.iastore, 1) := by decide +kernel
theorem dX2_passHour_55 : decode cX2_passHour 55 = .ok (.aload 4, 2) := by decide +kernel
theorem dX2_passHour_57 : decode cX2_passHour 57 = .ok (.iload_n 2, 1) := by decide +kernel
theorem dX2_passHour_58 : decode cX2_passHour 58 = .ok (.invokevirtual 88, 3) := by decide +kernel
theorem dX2_passHour_61 : decode cX2_passHour 61 = .ok (.ifCond .ne 145, 3) := by decide +kernel
theorem dX2_passHour_64 : decode cX2_passHour 64 = .ok (.aload_n 0, 1) := by decide +kernel
theorem dX2_passHour_65 : decode cX2_passHour 65 = .ok (.getfield 44, 3) := by decide +kernel
theorem dX2_passHour_68 : decode cX2_passHour 68 = .ok (.aload 4, 2) := by decide +kernel
theorem dX2_passHour_70 : decode cX2_passHour 70 = .ok (.getfield 92, 3) := by decide +kernel
theorem dX2_passHour_73 : decode cX2_passHour 73 = .ok (.iconst 5, 1) := by decide +kernel
theorem dX2_passHour_74 : decode cX2_passHour 74 = .ok (.if_icmp .ne 7, 3) := by decide +kernel
theorem dX2_passHour_77 : decode cX2_passHour 77 = .ok (.iconst 1, 1) := by decide +kernel
theorem dX2_passHour_78 : decode cX2_passHour 78 = .ok (.goto 4, 3) := by decide +kernel
theorem dX2_passHour_81 : decode cX2_passHour 81 = .ok (.iconst 0, 1) := by decide +kernel
theorem dX2_passHour_82 : decode cX2_passHour 82 = .ok (.isub, 1) := by decide +kernel
theorem dX2_passHour_83 : decode cX2_passHour 83 = .ok (.istore 6, 2) := by decide +kernel
theorem dX2_passHour_85 : decode cX2_passHour 85 = .ok (.aload_n 0, 1) := by decide +kernel
theorem dX2_passHour_86 : decode cX2_passHour 86 = .ok (.getfield 21, 3) := by decide +kernel
theorem dX2_passHour_89 : decode cX2_passHour 89 = .ok (.aload_n 0, 1) := by decide +kernel
theorem dX2_passHour_90 : decode cX2_passHour 90 = .ok (.getfield 27, 3) := by decide +kernel
theorem dX2_passHour_93 : decode cX2_passHour 93 = .ok (.iload_n 2, 1) := by decide +kernel
theorem dX2_passHour_94 : decode cX2_passHour 94 = .ok (.aaload, 1) := by decide +kernel
theorem dX2_passHour_95 : decode cX2_passHour 95 = .ok (.iload_n 3, 1) := by decide +kernel
theorem dX2_passHour_96 : decode cX2_passHour 96 = .ok (.iaload, 1) := by decide +kernel
theorem dX2_passHour_97 : decode cX2_passHour 97 = .ok (.iload_n 2, 1) := by decide +kernel
theorem dX2_passHour_98 : decode cX2_passHour 98 = .ok (.aload 4, 2) := by decide +kernel
theorem dX2_passHour_100 : decode cX2_passHour 100 = .ok (.getfield 95, 3) := by decide +kernel
theorem dX2_passHour_103 : decode cX2_passHour 103 = .ok (.aload_n 0, 1) := by decide +kernel
theorem dX2_passHour_104 : decode cX2_passHour 104 = .ok (.getfield 41, 3) := by decide +kernel
theorem dX2_passHour_107 : decode cX2_passHour 107 = .ok (.iconst 1, 1) := by decide +kernel
theorem dX2_passHour_108 : decode cX2_passHour 108 = .ok (.isub, 1) := by decide +kernel
theorem dX2_passHour_109 : decode cX2_passHour 109 = .ok (.iload_n 1, 1) := by decide +kernel
theorem dX2_passHour_110 : decode cX2_passHour 110 = .ok (.iload 6, 2) := by decide +kernel
theorem dX2_passHour_112 : decode cX2_passHour 112 = .ok (.invokevirtual 73, 3) := by decide +kernel
theorem dX2_passHour_115 : decode cX2_passHour 115 = .ok (.aload_n 0, 1) := by decide +kernel
theorem dX2_passHour_116 : decode cX2_passHour 116 = .ok (.getfield 21, 3) := by decide +kernel
theorem dX2_passHour_119 : decode cX2_passHour 119 = .ok (.aload_n 0, 1) := by decide +kernel
theorem dX2_passHour_120 : decode cX2_passHour 120 = .ok (.getfield 12, 3) := by decide +kernel
theorem dX2_passHour_123 : decode cX2_passHour 123 = .ok (.getfield 77, 3) := by decide +kernel
theorem dX2_passHour_126 : decode cX2_passHour 126 = .ok (.iconst 0, 1) := by decide +kernel
theorem dX2_passHour_127 : decode cX2_passHour 127 = .ok (.invokevirtual 80, 3) := by decide +kernel
theorem dX2_passHour_130 : decode cX2_passHour 130 = .ok (.iconst 0, 1) := by decide +kernel
theorem dX2_passHour_131 : decode cX2_passHour 131 = .ok (.bipush 99, 2) := by decide +kernel
theorem dX2_passHour_133 : decode cX2_passHour 133 = .ok (.invokestatic 84, 3) := by decide +kernel
theorem dX2_passHour_136 : decode cX2_passHour 136 = .ok (.istore 7, 2) := by decide +kernel
theorem dX2_passHour_138 : decode cX2_passHour 138 = .ok (.aload_n 0, 1) := by decide +kernel
theorem dX2_passHour_139 : decode cX2_passHour 139 = .ok (.getfield 30, 3) := by decide +kernel
theorem dX2_passHour_142 : decode cX2_passHour 142 = .ok (.iload_n 2, 1) := by decide +kernel
theorem dX2_passHour_143 : decode cX2_passHour 143 = .ok (.aaload, 1) := by decide +kernel
theorem dX2_passHour_144 : decode cX2_passHour 144 = .ok (.iload_n 3, 1) := by decide +kernel
theorem dX2_passHour_145 : decode cX2_passHour 145 = .ok (.aload 4, 2) := by decide +kernel
theorem dX2_passHour_147 : decode cX2_passHour 147 = .ok (.iload 7, 2) := by decide +kernel
theorem dX2_passHour_149 : decode cX2_passHour 149 = .ok (.aload_n 0, 1) := by decide +kernel
theorem dX2_passHour_150 : decode cX2_passHour 150 = .ok (.getfield 27, 3) := by decide +kernel
theorem dX2_passHour_153 : decode cX2_passHour 153 = .ok (.iload_n 2, 1) := by decide +kernel
theorem dX2_passHour_154 : decode cX2_passHour 154 = .ok (.aaload, 1) := by decide +kernel
theorem dX2_passHour_155 : decode cX2_passHour 155 = .ok (.iload_n 3, 1) := by decide +kernel
theorem dX2_passHour_156 : decode cX2_passHour 156 = .ok (.iaload, 1) := by decide +kernel
theorem dX2_passHour_157 : decode cX2_passHour 157 = .ok (.aload_n 0, 1) := by decide +kernel
theorem dX2_passHour_158 : decode cX2_passHour 158 = .ok (.getfield 12, 3) := by decide +kernel
theorem dX2_passHour_161 : decode cX2_passHour 161 = .ok (.getfield 98, 3) := by decide +kernel
theorem dX2_passHour_164 : decode cX2_passHour 164 = .ok (.invokevirtual 101, 3) := by decide +kernel
theorem dX2_passHour_167 : decode cX2_passHour 167 = .ok (.iconst 0, 1) := by decide +kernel
theorem dX2_passHour_168 : decode cX2_passHour 168 = .ok (.sipush 999, 3) := by decide +kernel
theorem dX2_passHour_171 : decode cX2_passHour 171 = .ok (.invokestatic 84, 3) := by decide +kernel
theorem dX2_passHour_174 : decode cX2_passHour 174 = .ok (.iastore, 1) := by decide +kernel
theorem dX2_passHour_175 : decode cX2_passHour 175 = .ok (.aload 4, 2) := by decide +kernel
theorem dX2_passHour_177 : decode cX2_passHour 177 = .ok (.aload_n 0, 1) := by decide +kernel
theorem dX2_passHour_178 : decode cX2_passHour 178 = .ok (.getfield 21, 3) := by decide +kernel
theorem dX2_passHour_181 : decode cX2_passHour 181 = .ok (.aload_n 0, 1) := by decide +kernel
theorem dX2_passHour_182 : decode cX2_passHour 182 = .ok (.getfield 12, 3) := by decide +kernel
theorem dX2_passHour_185 : decode cX2_passHour 185 = .ok (.getfield 77, 3) := by decide +kernel
theorem dX2_passHour_188 : decode cX2_passHour 188 = .ok (.iconst 1, 1) := by decide +kernel
theorem dX2_passHour_189 : decode cX2_passHour 189 = .ok (.invokevirtual 80, 3) := by decide +kernel
theorem dX2_passHour_192 : decode cX2_passHour 192 = .ok (.bipush (-9), 2) := by decide +kernel
theorem dX2_passHour_194 : decode cX2_passHour 194 = .ok (.bipush 9, 2) := by decide +kernel
theorem dX2_passHour_196 : decode cX2_passHour 196 = .ok (.invokestatic 84, 3) := by decide +kernel
theorem dX2_passHour_199 : decode cX2_passHour 199 = .ok (.iload 6, 2) := by decide +kernel
theorem dX2_passHour_201 : decode cX2_passHour 201 = .ok (.invokevirtual 104, 3) := by decide +kernel
theorem dX2_passHour_204 : decode cX2_passHour 204 = .ok (.istore 5, 2) := by decide +kernel
theorem dX2_passHour_206 : decode cX2_passHour 206 = .ok (.aload_n 0, 1) := by decide +kernel
theorem dX2_passHour_207 : decode cX2_passHour 207 = .ok (.getfield 27, 3) := by decide +kernel
theorem dX2_passHour_210 : decode cX2_passHour 210 = .ok (.iload_n 2, 1) := by decide +kernel
theorem dX2_passHour_211 : decode cX2_passHour 211 = .ok (.iconst 1, 1) := by decide +kernel
theorem dX2_passHour_212 : decode cX2_passHour 212 = .ok (.iadd, 1) := by decide +kernel
theorem dX2_passHour_213 : decode cX2_passHour 213 = .ok (.aaload, 1) := by decide +kernel
theorem dX2_passHour_214 : decode cX2_passHour 214 = .ok (.iload_n 3, 1) := by decide +kernel
theorem dX2_passHour_215 : decode cX2_passHour 215 = .ok (.aload_n 0, 1) := by decide +kernel
theorem dX2_passHour_216 : decode cX2_passHour 216 = .ok (.getfield 27, 3) := by decide +kernel
theorem dX2_passHour_219 : decode cX2_passHour 219 = .ok (.iload_n 2, 1) := by decide +kernel
theorem dX2_passHour_220 : decode cX2_passHour 220 = .ok (.aaload, 1) := by decide +kernel
theorem dX2_passHour_221 : decode cX2_passHour 221 = .ok (.iload_n 3, 1) := by decide +kernel
theorem dX2_passHour_222 : decode cX2_passHour 222 = .ok (.iaload, 1) := by decide +kernel
theorem dX2_passHour_223 : decode cX2_passHour 223 = .ok (.iload 5, 2) := by decide +kernel
theorem dX2_passHour_225 : decode cX2_passHour 225 = .ok (.iadd, 1) := by decide +kernel
theorem dX2_passHour_226 : decode cX2_passHour 226 = .ok (.bipush (-20), 2) := by decide +kernel
theorem dX2_passHour_228 : decode cX2_passHour 228 = .ok (.bipush 20, 2) := by decide +kernel
theorem dX2_passHour_230 : decode cX2_passHour 230 = .ok (.invokestatic 84, 3) := by decide +kernel
theorem dX2_passHour_233 : decode cX2_passHour 233 = .ok (.iastore, 1) := by decide +kernel
theorem dX2_passHour_234 : decode cX2_passHour 234 = .ok (.aload_n 0, 1) := by decide +kernel
theorem dX2_passHour_235 : decode cX2_passHour 235 = .ok (.getfield 33, 3) := by decide +kernel
theorem dX2_passHour_238 : decode cX2_passHour 238 = .ok (.iload_n 2, 1) := by decide +kernel
theorem dX2_passHour_239 : decode cX2_passHour 239 = .ok (.dup2, 1) := by decide +kernel
theorem dX2_passHour_240 : decode cX2_passHour 240 = .ok (.iaload, 1) := by decide +kernel
theorem dX2_passHour_241 : decode cX2_passHour 241 = .ok (.aload_n 0, 1) := by decide +kernel
theorem dX2_passHour_242 : decode cX2_passHour 242 = .ok (.getfield 30, 3) := by decide +kernel
theorem dX2_passHour_245 : decode cX2_passHour 245 = .ok (.iload_n 2, 1) := by decide +kernel
theorem dX2_passHour_246 : decode cX2_passHour 246 = .ok (.aaload, 1) := by decide +kernel
theorem dX2_passHour_247 : decode cX2_passHour 247 = .ok (.iload_n 3, 1) := by decide +kernel
theorem dX2_passHour_248 : decode cX2_passHour 248 = .ok (.iaload, 1) := by decide +kernel
theorem dX2_passHour_249 : decode cX2_passHour 249 = .ok (.iadd, 1) := by decide +kernel
theorem dX2_passHour_250 : decode cX2_passHour 250 = .ok (.iastore, 1) := by decide +kernel
theorem dX2_passHour_251 : decode cX2_passHour 251 = .ok (.aload_n 0, 1) := by decide +kernel
theorem dX2_passHour_252 : decode cX2_passHour 252 = .ok (.dup, 1) := by decide +kernel
theorem dX2_passHour_253 : decode cX2_passHour 253 = .ok (.getfield 37, 3) := by decide +kernel
theorem dX2_passHour_256 : decode cX2_passHour 256 = .ok (.aload 4, 2) := by decide +kernel
theorem dX2_passHour_258 : decode cX2_passHour 258 = .ok (.aload_n 0, 1) := by decide +kernel
theorem dX2_passHour_259 : decode cX2_passHour 259 = .ok (.getfield 12, 3) := by decide +kernel
theorem dX2_passHour_262 : decode cX2_passHour 262 = .ok (.getfield 98, 3) := by decide +kernel
theorem dX2_passHour_265 : decode cX2_passHour 265 = .ok (.invokevirtual 107, 3) := by decide +kernel
theorem dX2_passHour_268 : decode cX2_passHour 268 = .ok (.ifCond .eq 7, 3) := by decide +kernel
theorem dX2_passHour_271 : decode cX2_passHour 271 = .ok (.iconst 0, 1) := by decide +kernel
theorem dX2_passHour_272 : decode cX2_passHour 272 = .ok (.goto 11, 3) := by decide +kernel
theorem dX2_passHour_275 : decode cX2_passHour 275 = .ok (.aload_n 0, 1) := by decide +kernel
theorem dX2_passHour_276 : decode cX2_passHour 276 = .ok (.getfield 30, 3) := by decide +kernel
theorem dX2_passHour_279 : decode cX2_passHour 279 = .ok (.iload_n 2, 1) := by decide +kernel
theorem dX2_passHour_280 : decode cX2_passHour 280 = .ok (.aaload, 1) := by decide +kernel
theorem dX2_passHour_281 : decode cX2_passHour 281 = .ok (.iload_n 3, 1) := by decide +kernel
theorem dX2_passHour_282 : decode cX2_passHour 282 = .ok (.iaload, 1) := by decide +kernel
theorem dX2_passHour_283 : decode cX2_passHour 283 = .ok (.iadd, 1) := by decide +kernel
theorem dX2_passHour_284 : decode cX2_passHour 284 = .ok (.putfield 37, 3) := by decide +kernel
theorem dX2_passHour_287 : decode cX2_passHour 287 = .ok (.iinc 3 1, 3) := by decide +kernel
theorem dX2_passHour_290 : decode cX2_passHour 290 = .ok (.goto (-281), 3) := by decide +kernel
theorem dX2_passHour_293 : decode cX2_passHour 293 = .ok (.return_, 1) := by decide +kernel
theorem dX3_init_0 : decode cX3_init 0 = .ok (.aload_n 0, 1) := by decide +kernel
theorem dX3_init_1 : decode cX3_init 1 = .ok (.invokespecial 3, 3) := by decide +kernel
theorem dX3_init_4 : decode cX3_init 4 = .ok (.aload_n 0, 1) := by decide +kernel
theorem dX3_init_5 : decode cX3_init 5 = .ok (.iconst 0, 1) := by decide +kernel
theorem dX3_init_6 : decode cX3_init 6 = .ok (.putfield 9, 3) := by decide +kernel
theorem dX3_init_9 : decode cX3_init 9 = .ok (.aload_n 0, 1) := by decide +kernel
theorem dX3_init_10 : decode cX3_init 10 = .ok (.iconst 0, 1) := by decide +kernel
theorem dX3_init_11 : decode cX3_init 11 = .ok (.putfield 15, 3) := by decide +kernel
theorem dX3_init_14 : decode cX3_init 14 = .ok (.aload_n 0, 1) := by decide +kernel
theorem dX3_init_15 : decode cX3_init 15 = .ok (.iconst 0, 1) := by decide +kernel
theorem dX3_init_16 : decode cX3_init 16 = .ok (.putfield 18, 3) := by decide +kernel
theorem dX3_init_19 : decode cX3_init 19 = .ok (.aload_n 0, 1) := by decide +kernel
theorem dX3_init_20 : decode cX3_init 20 = .ok (.iconst 0, 1) := by decide +kernel
theorem dX3_init_21 : decode cX3_init 21 = .ok (.putfield 21, 3) := by decide +kernel
theorem dX3_init_24 : decode cX3_init 24 = .ok (.aload_n 0, 1) := by decide +kernel
theorem dX3_init_25 : decode cX3_init 25 = .ok (.iconst 0, 1) := by decide +kernel
theorem dX3_init_26 : decode cX3_init 26 = .ok (.putfield 24, 3) := by decide +kernel
theorem dX3_init_29 : decode cX3_init 29 = .ok (.return_, 1) := by decide +kernel
theorem dX3_come_0 : decode cX3_come 0 = .ok (.aload_n 0, 1) := by decide +kernel
theorem dX3_come_1 : decode cX3_come 1 = .ok (.iload_n 1, 1) := by decide +kernel
theorem dX3_come_2 : decode cX3_come 2 = .ok (.putfield 9, 3) := by decide +kernel
theorem dX3_come_5 : decode cX3_come 5 = .ok (.aload_n 0, 1) := by decide +kernel
theorem dX3_come_6 : decode cX3_come 6 = .ok (.iload_n 2, 1) := by decide +kernel
theorem dX3_come_7 : decode cX3_come 7 = .ok (.putfield 15, 3) := by decide +kernel
theorem dX3_come_10 : decode cX3_come 10 = .ok (.aload_n 0, 1) := by decide +kernel
theorem dX3_come_11 : decode cX3_come 11 = .ok (.iload_n 3, 1) := by decide +kernel
theorem dX3_come_12 : decode cX3_come 12 = .ok (.putfield 18, 3) := by decide +kernel
theorem dX3_come_15 : decode cX3_come 15 = .ok (.aload_n 0, 1) := by decide +kernel
theorem dX3_come_16 : decode cX3_come 16 = .ok (.iconst 0, 1) := by decide +kernel
theorem dX3_come_17 : decode cX3_come 17 = .ok (.putfield 21, 3) := by decide +kernel
theorem dX3_come_20 : decode cX3_come 20 = .ok (.aload_n 0, 1) := by decide +kernel
theorem dX3_come_21 : decode cX3_come 21 = .ok (.iconst 0, 1) := by decide +kernel
theorem dX3_come_22 : decode cX3_come 22 = .ok (.putfield 24, 3) := by decide +kernel
theorem dX3_come_25 : decode cX3_come 25 = .ok (.return_, 1) := by decide +kernel
theorem dX3_becomeLike_0 : decode cX3_becomeLike 0 = .ok (.aload_n 0, 1) := by decide +kernel
theorem dX3_becomeLike_1 : decode cX3_becomeLike 1 = .ok (.aload_n 1, 1) := by decide +kernel
theorem dX3_becomeLike_2 : decode cX3_becomeLike 2 = .ok (.getfield 9, 3) := by decide +kernel
theorem dX3_becomeLike_5 : decode cX3_becomeLike 5 = .ok (.putfield 9, 3) := by decide +kernel
theorem dX3_becomeLike_8 : decode cX3_becomeLike 8 = .ok (.aload_n 0, 1) := by decide +kernel
theorem dX3_becomeLike_9 : decode cX3_becomeLike 9 = .ok (.aload_n 1, 1) := by decide +kernel
theorem dX3_becomeLike_10 : decode cX3_becomeLike 10 = .ok (.getfield 15, 3) := by decide +kernel
theorem dX3_becomeLike_13 : decode cX3_becomeLike 13 = .ok (.putfield 15, 3) := by decide +kernel
theorem dX3_becomeLike_16 : decode cX3_becomeLike 16 = .ok (.aload_n 0, 1) := by decide +kernel
theorem dX3_becomeLike_17 : decode cX3_becomeLike 17 = .ok (.aload_n 1, 1) := by decide +kernel
theorem dX3_becomeLike_18 : decode cX3_becomeLike 18 = .ok (.getfield 18, 3) := by decide +kernel
theorem dX3_becomeLike_21 : decode cX3_becomeLike 21 = .ok (.putfield 18, 3) := by decide +kernel
theorem dX3_becomeLike_24 : decode cX3_becomeLike 24 = .ok (.aload_n 0, 1) := by decide +kernel
theorem dX3_becomeLike_25 : decode cX3_becomeLike 25 = .ok (.aload_n 1, 1) := by decide +kernel
theorem dX3_becomeLike_26 : decode cX3_becomeLike 26 = .ok (.getfield 21, 3) := by decide +kernel
theorem dX3_becomeLike_29 : decode cX3_becomeLike 29 = .ok (.putfield 21, 3) := by decide +kernel
theorem dX3_becomeLike_32 : decode cX3_becomeLike 32 = .ok (.aload_n 0, 1) := by decide +kernel
theorem dX3_becomeLike_33 : decode cX3_becomeLike 33 = .ok (.aload_n 1, 1) := by decide +kernel
theorem dX3_becomeLike_34 : decode cX3_becomeLike 34 = .ok (.getfield 24, 3) := by decide +kernel
theorem dX3_becomeLike_37 : decode cX3_becomeLike 37 = .ok (.putfield 24, 3) := by decide +kernel
theorem dX3_becomeLike_40 : decode cX3_becomeLike 40 = .ok (.return_, 1) := by decide +kernel
theorem dX3_part_0 : decode cX3_part 0 = .ok (.iload_n 1, 1) := by decide +kernel
theorem dX3_part_1 : decode cX3_part 1 = .ok (.tableswitch 51 1 4 #[31, 36, 41, 46], 31) := by decide +kernel
theorem dX3_part_32 : decode cX3_part 32 = .ok (.aload_n 0, 1) := by decide +kernel
theorem dX3_part_33 : decode cX3_part 33 = .ok (.getfield 15, 3) := by decide +kernel
theorem dX3_part_36 : decode cX3_part 36 = .ok (.ireturn, 1) := by decide +kernel
theorem dX3_part_37 : decode cX3_part 37 = .ok (.aload_n 0, 1) := by decide +kernel
theorem dX3_part_38 : decode cX3_part 38 = .ok (.getfield 18, 3) := by decide +kernel
theorem dX3_part_41 : decode cX3_part 41 = .ok (.ireturn, 1) := by decide +kernel
theorem dX3_part_42 : decode cX3_part 42 = .ok (.aload_n 0, 1) := by decide +kernel
theorem dX3_part_43 : decode cX3_part 43 = .ok (.getfield 21, 3) := by decide +kernel
theorem dX3_part_46 : decode cX3_part 46 = .ok (.ireturn, 1) := by decide +kernel
theorem dX3_part_47 : decode cX3_part 47 = .ok (.aload_n 0, 1) := by decide +kernel
theorem dX3_part_48 : decode cX3_part 48 = .ok (.getfield 24, 3) := by decide +kernel
theorem dX3_part_51 : decode cX3_part 51 = .ok (.ireturn, 1) := by decide +kernel
theorem dX3_part_52 : decode cX3_part 52 = .ok (.aload_n 0, 1) := by decide +kernel
theorem dX3_part_53 : decode cX3_part 53 = .ok (.getfield 9, 3) := by decide +kernel
theorem dX3_part_56 : decode cX3_part 56 = .ok (.ireturn, 1) := by decide +kernel
theorem dX3_become_0 : decode cX3_become 0 = .ok (.iload_n 1, 1) := by decide +kernel
theorem dX3_become_1 : decode cX3_become 1 = .ok (.tableswitch 63 1 4 #[31, 39, 47, 55], 31) := by decide +kernel
theorem dX3_become_32 : decode cX3_become 32 = .ok (.aload_n 0, 1) := by decide +kernel
theorem dX3_become_33 : decode cX3_become 33 = .ok (.iload_n 2, 1) := by decide +kernel
theorem dX3_become_34 : decode cX3_become 34 = .ok (.putfield 15, 3) := by decide +kernel
theorem dX3_become_37 : decode cX3_become 37 = .ok (.goto 32, 3) := by decide +kernel
theorem dX3_become_40 : decode cX3_become 40 = .ok (.aload_n 0, 1) := by decide +kernel
theorem dX3_become_41 : decode cX3_become 41 = .ok (.iload_n 2, 1) := by decide +kernel
theorem dX3_become_42 : decode cX3_become 42 = .ok (.putfield 18, 3) := by decide +kernel
theorem dX3_become_45 : decode cX3_become 45 = .ok (.goto 24, 3) := by decide +kernel
theorem dX3_become_48 : decode cX3_become 48 = .ok (.aload_n 0, 1) := by decide +kernel
theorem dX3_become_49 : decode cX3_become 49 = .ok (.iload_n 2, 1) := by decide +kernel
theorem dX3_become_50 : decode cX3_become 50 = .ok (.putfield 21, 3) := by decide +kernel
theorem dX3_become_53 : decode cX3_become 53 = .ok (.goto 16, 3) := by decide +kernel
theorem dX3_become_56 : decode cX3_become 56 = .ok (.aload_n 0, 1) := by decide +kernel
theorem dX3_become_57 : decode cX3_become 57 = .ok (.iload_n 2, 1) := by decide +kernel
theorem dX3_become_58 : decode cX3_become 58 = .ok (.putfield 24, 3) := by decide +kernel
theorem dX3_become_61 : decode cX3_become 61 = .ok (.goto 8, 3) := by decide +kernel
theorem dX3_become_64 : decode cX3_become 64 = .ok (.aload_n 0, 1) := by decide +kernel
theorem dX3_become_65 : decode cX3_become 65 = .ok (.iload_n 2, 1) := by decide +kernel
theorem dX3_become_66 : decode cX3_become 66 = .ok (.putfield 9, 3) := by decide +kernel
theorem dX3_become_69 : decode cX3_become 69 = .ok (.return_, 1) := by decide +kernel
theorem dX3_isOut_0 : decode cX3_isOut 0 = .ok (.aload_n 0, 1) := by decide +kernel
theorem dX3_isOut_1 : decode cX3_isOut 1 = .ok (.getfield 24, 3) := by decide +kernel
theorem dX3_isOut_4 : decode cX3_isOut 4 = .ok (.iload_n 1, 1) := by decide +kernel
theorem dX3_isOut_5 : decode cX3_isOut 5 = .ok (.ishr, 1) := by decide +kernel
theorem dX3_isOut_6 : decode cX3_isOut 6 = .ok (.iconst 1, 1) := by decide +kernel
theorem dX3_isOut_7 : decode cX3_isOut 7 = .ok (.iand, 1) := by decide +kernel
theorem dX3_isOut_8 : decode cX3_isOut 8 = .ok (.iconst 1, 1) := by decide +kernel
theorem dX3_isOut_9 : decode cX3_isOut 9 = .ok (.if_icmp .ne 7, 3) := by decide +kernel
theorem dX3_isOut_12 : decode cX3_isOut 12 = .ok (.iconst 1, 1) := by decide +kernel
theorem dX3_isOut_13 : decode cX3_isOut 13 = .ok (.goto 4, 3) := by decide +kernel
theorem dX3_isOut_16 : decode cX3_isOut 16 = .ok (.iconst 0, 1) := by decide +kernel
theorem dX3_isOut_17 : decode cX3_isOut 17 = .ok (.ireturn, 1) := by decide +kernel
theorem dX3_sighsBy_0 : decode cX3_sighsBy 0 = .ok (.aload_n 0, 1) := by decide +kernel
theorem dX3_sighsBy_1 : decode cX3_sighsBy 1 = .ok (.getfield 9, 3) := by decide +kernel
theorem dX3_sighsBy_4 : decode cX3_sighsBy 4 = .ok (.tableswitch 71 1 5 #[36, 43, 47, 56, 69], 36) := by decide +kernel
theorem dX3_sighsBy_40 : decode cX3_sighsBy 40 = .ok (.aload_n 0, 1) := by decide +kernel
theorem dX3_sighsBy_41 : decode cX3_sighsBy 41 = .ok (.iload_n 1, 1) := by decide +kernel
theorem dX3_sighsBy_42 : decode cX3_sighsBy 42 = .ok (.iload_n 3, 1) := by decide +kernel
theorem dX3_sighsBy_43 : decode cX3_sighsBy 43 = .ok (.invokevirtual 27, 3) := by decide +kernel
theorem dX3_sighsBy_46 : decode cX3_sighsBy 46 = .ok (.ireturn, 1) := by decide +kernel
theorem dX3_sighsBy_47 : decode cX3_sighsBy 47 = .ok (.iconst 3, 1) := by decide +kernel
theorem dX3_sighsBy_48 : decode cX3_sighsBy 48 = .ok (.iload_n 1, 1) := by decide +kernel
theorem dX3_sighsBy_49 : decode cX3_sighsBy 49 = .ok (.imul, 1) := by decide +kernel
theorem dX3_sighsBy_50 : decode cX3_sighsBy 50 = .ok (.ireturn, 1) := by decide +kernel
theorem dX3_sighsBy_51 : decode cX3_sighsBy 51 = .ok (.aload_n 0, 1) := by decide +kernel
theorem dX3_sighsBy_52 : decode cX3_sighsBy 52 = .ok (.iload_n 1, 1) := by decide +kernel
theorem dX3_sighsBy_53 : decode cX3_sighsBy 53 = .ok (.iload_n 3, 1) := by decide +kernel
theorem dX3_sighsBy_54 : decode cX3_sighsBy 54 = .ok (.invokevirtual 27, 3) := by decide +kernel
theorem dX3_sighsBy_57 : decode cX3_sighsBy 57 = .ok (.iconst 2, 1) := by decide +kernel
theorem dX3_sighsBy_58 : decode cX3_sighsBy 58 = .ok (.idiv, 1) := by decide +kernel
theorem dX3_sighsBy_59 : decode cX3_sighsBy 59 = .ok (.ireturn, 1) := by decide +kernel
theorem dX3_sighsBy_60 : decode cX3_sighsBy 60 = .ok (.iload_n 2, 1) := by decide +kernel
theorem dX3_sighsBy_61 : decode cX3_sighsBy 61 = .ok (.iconst 5, 1) := by decide +kernel
theorem dX3_sighsBy_62 : decode cX3_sighsBy 62 = .ok (.if_icmp .le 7, 3) := by decide +kernel
theorem dX3_sighsBy_65 : decode cX3_sighsBy 65 = .ok (.iconst 0, 1) := by decide +kernel
theorem dX3_sighsBy_66 : decode cX3_sighsBy 66 = .ok (.goto 6, 3) := by decide +kernel
theorem dX3_sighsBy_69 : decode cX3_sighsBy 69 = .ok (.iconst 3, 1) := by decide +kernel
theorem dX3_sighsBy_70 : decode cX3_sighsBy 70 = .ok (.iload_n 1, 1) := by decide +kernel
theorem dX3_sighsBy_71 : decode cX3_sighsBy 71 = .ok (.imul, 1) := by decide +kernel
theorem dX3_sighsBy_72 : decode cX3_sighsBy 72 = .ok (.ireturn, 1) := by decide +kernel
theorem dX3_sighsBy_73 : decode cX3_sighsBy 73 = .ok (.iconst 0, 1) := by decide +kernel
theorem dX3_sighsBy_74 : decode cX3_sighsBy 74 = .ok (.ireturn, 1) := by decide +kernel
theorem dX3_sighsBy_75 : decode cX3_sighsBy 75 = .ok (.iload_n 1, 1) := by decide +kernel
theorem dX3_sighsBy_76 : decode cX3_sighsBy 76 = .ok (.ireturn, 1) := by decide +kernel
theorem dX3_widowSighs_0 : decode cX3_widowSighs 0 = .ok (.iload_n 2, 1) := by decide +kernel
theorem dX3_widowSighs_1 : decode cX3_widowSighs 1 = .ok (.bipush 10, 2) := by decide +kernel
theorem dX3_widowSighs_3 : decode cX3_widowSighs 3 = .ok (.aload_n 0, 1) := by decide +kernel
theorem dX3_widowSighs_4 : decode cX3_widowSighs 4 = .ok (.getfield 15, 3) := by decide +kernel
theorem dX3_widowSighs_7 : decode cX3_widowSighs 7 = .ok (.imul, 1) := by decide +kernel
theorem dX3_widowSighs_8 : decode cX3_widowSighs 8 = .ok (.if_icmp .ge 7, 3) := by decide +kernel
theorem dX3_widowSighs_11 : decode cX3_widowSighs 11 = .ok (.iconst 0, 1) := by decide +kernel
theorem dX3_widowSighs_12 : decode cX3_widowSighs 12 = .ok (.goto 4, 3) := by decide +kernel
theorem dX3_widowSighs_15 : decode cX3_widowSighs 15 = .ok (.iload_n 1, 1) := by decide +kernel
theorem dX3_widowSighs_16 : decode cX3_widowSighs 16 = .ok (.ireturn, 1) := by decide +kernel
theorem dX3_swaysBy_0 : decode cX3_swaysBy 0 = .ok (.aload_n 0, 1) := by decide +kernel
theorem dX3_swaysBy_1 : decode cX3_swaysBy 1 = .ok (.getfield 9, 3) := by decide +kernel
theorem dX3_swaysBy_4 : decode cX3_swaysBy 4 = .ok (.tableswitch 61 1 5 #[36, 38, 44, 48, 59], 36) := by decide +kernel
theorem dX3_swaysBy_40 : decode cX3_swaysBy 40 = .ok (.iload_n 1, 1) := by decide +kernel
theorem dX3_swaysBy_41 : decode cX3_swaysBy 41 = .ok (.ireturn, 1) := by decide +kernel
theorem dX3_swaysBy_42 : decode cX3_swaysBy 42 = .ok (.iconst 2, 1) := by decide +kernel
theorem dX3_swaysBy_43 : decode cX3_swaysBy 43 = .ok (.iload_n 1, 1) := by decide +kernel
theorem dX3_swaysBy_44 : decode cX3_swaysBy 44 = .ok (.iload_n 2, 1) := by decide +kernel
theorem dX3_swaysBy_45 : decode cX3_swaysBy 45 = .ok (.iadd, 1) := by decide +kernel
theorem dX3_swaysBy_46 : decode cX3_swaysBy 46 = .ok (.imul, 1) := by decide +kernel
theorem dX3_swaysBy_47 : decode cX3_swaysBy 47 = .ok (.ireturn, 1) := by decide +kernel
theorem dX3_swaysBy_48 : decode cX3_swaysBy 48 = .ok (.iload_n 1, 1) := by decide +kernel
theorem dX3_swaysBy_49 : decode cX3_swaysBy 49 = .ok (.iconst 1, 1) := by decide +kernel
theorem dX3_swaysBy_50 : decode cX3_swaysBy 50 = .ok (.isub, 1) := by decide +kernel
theorem dX3_swaysBy_51 : decode cX3_swaysBy 51 = .ok (.ireturn, 1) := by decide +kernel
theorem dX3_swaysBy_52 : decode cX3_swaysBy 52 = .ok (.iconst 2, 1) := by decide +kernel
theorem dX3_swaysBy_53 : decode cX3_swaysBy 53 = .ok (.iload_n 1, 1) := by decide +kernel
theorem dX3_swaysBy_54 : decode cX3_swaysBy 54 = .ok (.iload_n 2, 1) := by decide +kernel
theorem dX3_swaysBy_55 : decode cX3_swaysBy 55 = .ok (.iadd, 1) := by decide +kernel
theorem dX3_swaysBy_56 : decode cX3_swaysBy 56 = .ok (.imul, 1) := by decide +kernel
theorem dX3_swaysBy_57 : decode cX3_swaysBy 57 = .ok (.aload_n 0, 1) := by decide +kernel
theorem dX3_swaysBy_58 : decode cX3_swaysBy 58 = .ok (.getfield 15, 3) := by decide +kernel
theorem dX3_swaysBy_61 : decode cX3_swaysBy 61 = .ok (.iadd, 1) := by decide +kernel
theorem dX3_swaysBy_62 : decode cX3_swaysBy 62 = .ok (.ireturn, 1) := by decide +kernel
theorem dX3_swaysBy_63 : decode cX3_swaysBy 63 = .ok (.iconst 0, 1) := by decide +kernel
theorem dX3_swaysBy_64 : decode cX3_swaysBy 64 = .ok (.ireturn, 1) := by decide +kernel
theorem dX3_swaysBy_65 : decode cX3_swaysBy 65 = .ok (.iload_n 1, 1) := by decide +kernel
theorem dX3_swaysBy_66 : decode cX3_swaysBy 66 = .ok (.iload_n 2, 1) := by decide +kernel
theorem dX3_swaysBy_67 : decode cX3_swaysBy 67 = .ok (.iadd, 1) := by decide +kernel
theorem dX3_swaysBy_68 : decode cX3_swaysBy 68 = .ok (.ireturn, 1) := by decide +kernel
theorem dX3_isExempt_0 : decode cX3_isExempt 0 = .ok (.aload_n 0, 1) := by decide +kernel
theorem dX3_isExempt_1 : decode cX3_isExempt 1 = .ok (.getfield 9, 3) := by decide +kernel
theorem dX3_isExempt_4 : decode cX3_isExempt 4 = .ok (.tableswitch 73 1 5 #[36, 73, 50, 73, 71], 36) := by decide +kernel
theorem dX3_isExempt_40 : decode cX3_isExempt 40 = .ok (.aload_n 0, 1) := by decide +kernel
theorem dX3_isExempt_41 : decode cX3_isExempt 41 = .ok (.getfield 15, 3) := by decide +kernel
theorem dX3_isExempt_44 : decode cX3_isExempt 44 = .ok (.iconst 4, 1) := by decide +kernel
theorem dX3_isExempt_45 : decode cX3_isExempt 45 = .ok (.if_icmp .le 7, 3) := by decide +kernel
theorem dX3_isExempt_48 : decode cX3_isExempt 48 = .ok (.iconst 1, 1) := by decide +kernel
theorem dX3_isExempt_49 : decode cX3_isExempt 49 = .ok (.goto 4, 3) := by decide +kernel
theorem dX3_isExempt_52 : decode cX3_isExempt 52 = .ok (.iconst 0, 1) := by decide +kernel
theorem dX3_isExempt_53 : decode cX3_isExempt 53 = .ok (.ireturn, 1) := by decide +kernel
theorem dX3_isExempt_54 : decode cX3_isExempt 54 = .ok (.aload_n 0, 1) := by decide +kernel
theorem dX3_isExempt_55 : decode cX3_isExempt 55 = .ok (.getfield 15, 3) := by decide +kernel
theorem dX3_isExempt_58 : decode cX3_isExempt 58 = .ok (.iconst 4, 1) := by decide +kernel
theorem dX3_isExempt_59 : decode cX3_isExempt 59 = .ok (.if_icmp .gt 10, 3) := by decide +kernel
theorem dX3_isExempt_62 : decode cX3_isExempt 62 = .ok (.iload_n 1, 1) := by decide +kernel
theorem dX3_isExempt_63 : decode cX3_isExempt 63 = .ok (.iconst 2, 1) := by decide +kernel
theorem dX3_isExempt_64 : decode cX3_isExempt 64 = .ok (.irem, 1) := by decide +kernel
theorem dX3_isExempt_65 : decode cX3_isExempt 65 = .ok (.iconst 1, 1) := by decide +kernel
theorem dX3_isExempt_66 : decode cX3_isExempt 66 = .ok (.if_icmp .ne 7, 3) := by decide +kernel
theorem dX3_isExempt_69 : decode cX3_isExempt 69 = .ok (.iconst 1, 1) := by decide +kernel
theorem dX3_isExempt_70 : decode cX3_isExempt 70 = .ok (.goto 4, 3) := by decide +kernel
theorem dX3_isExempt_73 : decode cX3_isExempt 73 = .ok (.iconst 0, 1) := by decide +kernel
theorem dX3_isExempt_74 : decode cX3_isExempt 74 = .ok (.ireturn, 1) := by decide +kernel
theorem dX3_isExempt_75 : decode cX3_isExempt 75 = .ok (.iconst 1, 1) := by decide +kernel
theorem dX3_isExempt_76 : decode cX3_isExempt 76 = .ok (.ireturn, 1) := by decide +kernel
theorem dX3_isExempt_77 : decode cX3_isExempt 77 = .ok (.iconst 0, 1) := by decide +kernel
theorem dX3_isExempt_78 : decode cX3_isExempt 78 = .ok (.ireturn, 1) := by decide +kernel
theorem dX4_init_0 : decode cX4_init 0 = .ok (.aload_n 0, 1) := by decide +kernel
theorem dX4_init_1 : decode cX4_init 1 = .ok (.invokespecial 3, 3) := by decide +kernel
theorem dX4_init_4 : decode cX4_init 4 = .ok (.aload_n 0, 1) := by decide +kernel
theorem dX4_init_5 : decode cX4_init 5 = .ok (.sipush 160, 3) := by decide +kernel
theorem dX4_init_8 : decode cX4_init 8 = .ok (.newarray .int, 2) := by decide +kernel
theorem dX4_init_10 : decode cX4_init 10 = .ok (.putfield 9, 3) := by decide +kernel
theorem dX4_init_13 : decode cX4_init 13 = .ok (.aload_n 0, 1) := by decide +kernel
theorem dX4_init_14 : decode cX4_init 14 = .ok (.iconst 0, 1) := by decide +kernel
theorem dX4_init_15 : decode cX4_init 15 = .ok (.putfield 15, 3) := by decide +kernel
theorem dX4_init_18 : decode cX4_init 18 = .ok (.aload_n 0, 1) := by decide +kernel
theorem dX4_init_19 : decode cX4_init 19 = .ok (.iconst 0, 1) := by decide +kernel
theorem dX4_init_20 : decode cX4_init 20 = .ok (.putfield 19, 3) := by decide +kernel
theorem dX4_init_23 : decode cX4_init 23 = .ok (.aload_n 0, 1) := by decide +kernel
theorem dX4_init_24 : decode cX4_init 24 = .ok (.bipush 7, 2) := by decide +kernel
theorem dX4_init_26 : decode cX4_init 26 = .ok (.putfield 22, 3) := by decide +kernel
theorem dX4_init_29 : decode cX4_init 29 = .ok (.aload_n 0, 1) := by decide +kernel
theorem dX4_init_30 : decode cX4_init 30 = .ok (.iconst 0, 1) := by decide +kernel
theorem dX4_init_31 : decode cX4_init 31 = .ok (.putfield 25, 3) := by decide +kernel
theorem dX4_init_34 : decode cX4_init 34 = .ok (.aload_n 0, 1) := by decide +kernel
theorem dX4_init_35 : decode cX4_init 35 = .ok (.iconst 0, 1) := by decide +kernel
theorem dX4_init_36 : decode cX4_init 36 = .ok (.putfield 28, 3) := by decide +kernel
theorem dX4_init_39 : decode cX4_init 39 = .ok (.aload_n 0, 1) := by decide +kernel
theorem dX4_init_40 : decode cX4_init 40 = .ok (.sipush 160, 3) := by decide +kernel
theorem dX4_init_43 : decode cX4_init 43 = .ok (.newarray .int, 2) := by decide +kernel
theorem dX4_init_45 : decode cX4_init 45 = .ok (.putfield 31, 3) := by decide +kernel
theorem dX4_init_48 : decode cX4_init 48 = .ok (.aload_n 0, 1) := by decide +kernel
theorem dX4_init_49 : decode cX4_init 49 = .ok (.iconst 4, 1) := by decide +kernel
theorem dX4_init_50 : decode cX4_init 50 = .ok (.newarray .int, 2) := by decide +kernel
theorem dX4_init_52 : decode cX4_init 52 = .ok (.putfield 34, 3) := by decide +kernel
theorem dX4_init_55 : decode cX4_init 55 = .ok (.aload_n 0, 1) := by decide +kernel
theorem dX4_init_56 : decode cX4_init 56 = .ok (.iconst 0, 1) := by decide +kernel
theorem dX4_init_57 : decode cX4_init 57 = .ok (.putfield 37, 3) := by decide +kernel
theorem dX4_init_60 : decode cX4_init 60 = .ok (.return_, 1) := by decide +kernel
theorem dX4_append_0 : decode cX4_append 0 = .ok (.aload_n 0, 1) := by decide +kernel
theorem dX4_append_1 : decode cX4_append 1 = .ok (.getfield 15, 3) := by decide +kernel
theorem dX4_append_4 : decode cX4_append 4 = .ok (.sipush 160, 3) := by decide +kernel
theorem dX4_append_7 : decode cX4_append 7 = .ok (.if_icmp .lt 5, 3) := by decide +kernel
theorem dX4_append_10 : decode cX4_append 10 = .ok (.iconst 0, 1) := by decide +kernel
theorem dX4_append_11 : decode cX4_append 11 = .ok (.ireturn, 1) := by decide +kernel
theorem dX4_append_12 : decode cX4_append 12 = .ok (.aload_n 0, 1) := by decide +kernel
theorem dX4_append_13 : decode cX4_append 13 = .ok (.getfield 9, 3) := by decide +kernel
theorem dX4_append_16 : decode cX4_append 16 = .ok (.aload_n 0, 1) := by decide +kernel
theorem dX4_append_17 : decode cX4_append 17 = .ok (.getfield 15, 3) := by decide +kernel
theorem dX4_append_20 : decode cX4_append 20 = .ok (.iload_n 1, 1) := by decide +kernel
theorem dX4_append_21 : decode cX4_append 21 = .ok (.iastore, 1) := by decide +kernel
theorem dX4_append_22 : decode cX4_append 22 = .ok (.aload_n 0, 1) := by decide +kernel
theorem dX4_append_23 : decode cX4_append 23 = .ok (.dup, 1) := by decide +kernel
theorem dX4_append_24 : decode cX4_append 24 = .ok (.getfield 15, 3) := by decide +kernel
theorem dX4_append_27 : decode cX4_append 27 = .ok (.iconst 1, 1) := by decide +kernel
theorem dX4_append_28 : decode cX4_append 28 = .ok (.iadd, 1) := by decide +kernel
theorem dX4_append_29 : decode cX4_append 29 = .ok (.putfield 15, 3) := by decide +kernel
theorem dX4_append_32 : decode cX4_append 32 = .ok (.iconst 1, 1) := by decide +kernel
theorem dX4_append_33 : decode cX4_append 33 = .ok (.ireturn, 1) := by decide +kernel
theorem dX4_takesTape_0 : decode cX4_takesTape 0 = .ok (.aload_n 0, 1) := by decide +kernel
theorem dX4_takesTape_1 : decode cX4_takesTape 1 = .ok (.iconst 0, 1) := by decide +kernel
theorem dX4_takesTape_2 : decode cX4_takesTape 2 = .ok (.putfield 19, 3) := by decide +kernel
theorem dX4_takesTape_5 : decode cX4_takesTape 5 = .ok (.aload_n 0, 1) := by decide +kernel
theorem dX4_takesTape_6 : decode cX4_takesTape 6 = .ok (.iconst 0, 1) := by decide +kernel
theorem dX4_takesTape_7 : decode cX4_takesTape 7 = .ok (.putfield 37, 3) := by decide +kernel
theorem dX4_takesTape_10 : decode cX4_takesTape 10 = .ok (.aload_n 0, 1) := by decide +kernel
theorem dX4_takesTape_11 : decode cX4_takesTape 11 = .ok (.invokevirtual 40, 3) := by decide +kernel
theorem dX4_takesTape_14 : decode cX4_takesTape 14 = .ok (.iconst 1, 1) := by decide +kernel
theorem dX4_takesTape_15 : decode cX4_takesTape 15 = .ok (.istore_n 1, 1) := by decide +kernel
theorem dX4_takesTape_16 : decode cX4_takesTape 16 = .ok (.iconst 0, 1) := by decide +kernel
theorem dX4_takesTape_17 : decode cX4_takesTape 17 = .ok (.istore_n 2, 1) := by decide +kernel
theorem dX4_takesTape_18 : decode cX4_takesTape 18 = .ok (.iload_n 2, 1) := by decide +kernel
theorem dX4_takesTape_19 : decode cX4_takesTape 19 = .ok (.iconst 3, 1) := by decide +kernel
theorem dX4_takesTape_20 : decode cX4_takesTape 20 = .ok (.if_icmp .ge 56, 3) := by decide +kernel
theorem dX4_takesTape_23 : decode cX4_takesTape 23 = .ok (.iload_n 1, 1) := by decide +kernel
theorem dX4_takesTape_24 : decode cX4_takesTape 24 = .ok (.ifCond .eq 52, 3) := by decide +kernel
theorem dX4_takesTape_27 : decode cX4_takesTape 27 = .ok (.aload_n 0, 1) := by decide +kernel
theorem dX4_takesTape_28 : decode cX4_takesTape 28 = .ok (.getfield 34, 3) := by decide +kernel
theorem dX4_takesTape_31 : decode cX4_takesTape 31 = .ok (.iload_n 2, 1) := by decide +kernel
theorem dX4_takesTape_32 : decode cX4_takesTape 32 = .ok (.aload_n 0, 1) := by decide +kernel
theorem dX4_takesTape_33 : decode cX4_takesTape 33 = .ok (.getfield 37, 3) := by decide +kernel
theorem dX4_takesTape_36 : decode cX4_takesTape 36 = .ok (.iastore, 1) := by decide +kernel
theorem dX4_takesTape_37 : decode cX4_takesTape 37 = .ok (.aload_n 0, 1) := by decide +kernel
theorem dX4_takesTape_38 : decode cX4_takesTape 38 = .ok (.iconst 1, 1) := by decide +kernel
theorem dX4_takesTape_39 : decode cX4_takesTape 39 = .ok (.iload_n 2, 1) := by decide +kernel
theorem dX4_takesTape_40 : decode cX4_takesTape 40 = .ok (.iadd, 1) := by decide +kernel
theorem dX4_takesTape_41 : decode cX4_takesTape 41 = .ok (.invokevirtual 43, 3) := by decide +kernel
theorem dX4_takesTape_44 : decode cX4_takesTape 44 = .ok (.ifCond .eq 24, 3) := by decide +kernel
theorem dX4_takesTape_47 : decode cX4_takesTape 47 = .ok (.aload_n 0, 1) := by decide +kernel
theorem dX4_takesTape_48 : decode cX4_takesTape 48 = .ok (.iconst 0, 1) := by decide +kernel
theorem dX4_takesTape_49 : decode cX4_takesTape 49 = .ok (.invokevirtual 47, 3) := by decide +kernel
theorem dX4_takesTape_52 : decode cX4_takesTape 52 = .ok (.ifCond .eq 16, 3) := by decide +kernel
theorem dX4_takesTape_55 : decode cX4_takesTape 55 = .ok (.aload_n 0, 1) := by decide +kernel
theorem dX4_takesTape_56 : decode cX4_takesTape 56 = .ok (.bipush 6, 2) := by decide +kernel
theorem dX4_takesTape_58 : decode cX4_takesTape 58 = .ok (.invokevirtual 43, 3) := by decide +kernel
theorem dX4_takesTape_61 : decode cX4_takesTape 61 = .ok (.ifCond .eq 7, 3) := by decide +kernel
theorem dX4_takesTape_64 : decode cX4_takesTape 64 = .ok (.iconst 1, 1) := by decide +kernel
theorem dX4_takesTape_65 : decode cX4_takesTape 65 = .ok (.goto 4, 3) := by decide +kernel
theorem dX4_takesTape_68 : decode cX4_takesTape 68 = .ok (.iconst 0, 1) := by decide +kernel
theorem dX4_takesTape_69 : decode cX4_takesTape 69 = .ok (.istore_n 1, 1) := by decide +kernel
theorem dX4_takesTape_70 : decode cX4_takesTape 70 = .ok (.iinc 2 1, 3) := by decide +kernel
theorem dX4_takesTape_73 : decode cX4_takesTape 73 = .ok (.goto (-55), 3) := by decide +kernel
theorem dX4_takesTape_76 : decode cX4_takesTape 76 = .ok (.aload_n 0, 1) := by decide +kernel
theorem dX4_takesTape_77 : decode cX4_takesTape 77 = .ok (.getfield 34, 3) := by decide +kernel
theorem dX4_takesTape_80 : decode cX4_takesTape 80 = .ok (.iconst 3, 1) := by decide +kernel
theorem dX4_takesTape_81 : decode cX4_takesTape 81 = .ok (.aload_n 0, 1) := by decide +kernel
theorem dX4_takesTape_82 : decode cX4_takesTape 82 = .ok (.getfield 37, 3) := by decide +kernel
theorem dX4_takesTape_85 : decode cX4_takesTape 85 = .ok (.iastore, 1) := by decide +kernel
theorem dX4_takesTape_86 : decode cX4_takesTape 86 = .ok (.aload_n 0, 1) := by decide +kernel
theorem dX4_takesTape_87 : decode cX4_takesTape 87 = .ok (.iconst 0, 1) := by decide +kernel
theorem dX4_takesTape_88 : decode cX4_takesTape 88 = .ok (.putfield 15, 3) := by decide +kernel
theorem dX4_takesTape_91 : decode cX4_takesTape 91 = .ok (.iload_n 1, 1) := by decide +kernel
theorem dX4_takesTape_92 : decode cX4_takesTape 92 = .ok (.ifCond .eq 16, 3) := by decide +kernel
theorem dX4_takesTape_95 : decode cX4_takesTape 95 = .ok (.aload_n 0, 1) := by decide +kernel
theorem dX4_takesTape_96 : decode cX4_takesTape 96 = .ok (.getfield 22, 3) := by decide +kernel
theorem dX4_takesTape_99 : decode cX4_takesTape 99 = .ok (.bipush 7, 2) := by decide +kernel
theorem dX4_takesTape_101 : decode cX4_takesTape 101 = .ok (.if_icmp .ne 7, 3) := by decide +kernel
theorem dX4_takesTape_104 : decode cX4_takesTape 104 = .ok (.iconst 1, 1) := by decide +kernel
theorem dX4_takesTape_105 : decode cX4_takesTape 105 = .ok (.goto 4, 3) := by decide +kernel
theorem dX4_takesTape_108 : decode cX4_takesTape 108 = .ok (.iconst 0, 1) := by decide +kernel
theorem dX4_takesTape_109 : decode cX4_takesTape 109 = .ok (.ireturn, 1) := by decide +kernel
theorem dX4_passes_0 : decode cX4_passes 0 = .ok (.aload_n 0, 1) := by decide +kernel
theorem dX4_passes_1 : decode cX4_passes 1 = .ok (.getfield 22, 3) := by decide +kernel
theorem dX4_passes_4 : decode cX4_passes 4 = .ok (.iload_n 1, 1) := by decide +kernel
theorem dX4_passes_5 : decode cX4_passes 5 = .ok (.if_icmp .eq 5, 3) := by decide +kernel
theorem dX4_passes_8 : decode cX4_passes 8 = .ok (.iconst 0, 1) := by decide +kernel
theorem dX4_passes_9 : decode cX4_passes 9 = .ok (.ireturn, 1) := by decide +kernel
theorem dX4_passes_10 : decode cX4_passes 10 = .ok (.aload_n 0, 1) := by decide +kernel
theorem dX4_passes_11 : decode cX4_passes 11 = .ok (.invokevirtual 40, 3) := by decide +kernel
theorem dX4_passes_14 : decode cX4_passes 14 = .ok (.iconst 1, 1) := by decide +kernel
theorem dX4_passes_15 : decode cX4_passes 15 = .ok (.ireturn, 1) := by decide +kernel
theorem dX4_put_0 : decode cX4_put 0 = .ok (.aload_n 0, 1) := by decide +kernel
theorem dX4_put_1 : decode cX4_put 1 = .ok (.getfield 37, 3) := by decide +kernel
theorem dX4_put_4 : decode cX4_put 4 = .ok (.sipush 160, 3) := by decide +kernel
theorem dX4_put_7 : decode cX4_put 7 = .ok (.if_icmp .ge 23, 3) := by decide +kernel
theorem dX4_put_10 : decode cX4_put 10 = .ok (.aload_n 0, 1) := by decide +kernel
theorem dX4_put_11 : decode cX4_put 11 = .ok (.getfield 31, 3) := by decide +kernel
theorem dX4_put_14 : decode cX4_put 14 = .ok (.aload_n 0, 1) := by decide +kernel
theorem dX4_put_15 : decode cX4_put 15 = .ok (.getfield 37, 3) := by decide +kernel
theorem dX4_put_18 : decode cX4_put 18 = .ok (.iload_n 1, 1) := by decide +kernel
theorem dX4_put_19 : decode cX4_put 19 = .ok (.iastore, 1) := by decide +kernel
theorem dX4_put_20 : decode cX4_put 20 = .ok (.aload_n 0, 1) := by decide +kernel
theorem dX4_put_21 : decode cX4_put 21 = .ok (.dup, 1) := by decide +kernel
theorem dX4_put_22 : decode cX4_put 22 = .ok (.getfield 37, 3) := by decide +kernel
theorem dX4_put_25 : decode cX4_put 25 = .ok (.iconst 1, 1) := by decide +kernel
theorem dX4_put_26 : decode cX4_put 26 = .ok (.iadd, 1) := by decide +kernel
theorem dX4_put_27 : decode cX4_put 27 = .ok (.putfield 37, 3) := by decide +kernel
theorem dX4_put_30 : decode cX4_put 30 = .ok (.return_, 1) := by decide +kernel
theorem dX4_either_0 : decode cX4_either 0 = .ok (.aload_n 0, 1) := by decide +kernel
theorem dX4_either_1 : decode cX4_either 1 = .ok (.iload_n 1, 1) := by decide +kernel
theorem dX4_either_2 : decode cX4_either 2 = .ok (.invokevirtual 50, 3) := by decide +kernel
theorem dX4_either_5 : decode cX4_either 5 = .ok (.istore_n 2, 1) := by decide +kernel
theorem dX4_either_6 : decode cX4_either 6 = .ok (.iconst 0, 1) := by decide +kernel
theorem dX4_either_7 : decode cX4_either 7 = .ok (.istore_n 3, 1) := by decide +kernel
theorem dX4_either_8 : decode cX4_either 8 = .ok (.iload_n 3, 1) := by decide +kernel
theorem dX4_either_9 : decode cX4_either 9 = .ok (.sipush 160, 3) := by decide +kernel
theorem dX4_either_12 : decode cX4_either 12 = .ok (.if_icmp .ge 38, 3) := by decide +kernel
theorem dX4_either_15 : decode cX4_either 15 = .ok (.iload_n 2, 1) := by decide +kernel
theorem dX4_either_16 : decode cX4_either 16 = .ok (.ifCond .eq 34, 3) := by decide +kernel
theorem dX4_either_19 : decode cX4_either 19 = .ok (.aload_n 0, 1) := by decide +kernel
theorem dX4_either_20 : decode cX4_either 20 = .ok (.getfield 22, 3) := by decide +kernel
theorem dX4_either_23 : decode cX4_either 23 = .ok (.bipush (-9), 2) := by decide +kernel
theorem dX4_either_25 : decode cX4_either 25 = .ok (.if_icmp .ne 25, 3) := by decide +kernel
theorem dX4_either_28 : decode cX4_either 28 = .ok (.aload_n 0, 1) := by decide +kernel
theorem dX4_either_29 : decode cX4_either 29 = .ok (.invokevirtual 40, 3) := by decide +kernel
theorem dX4_either_32 : decode cX4_either 32 = .ok (.aload_n 0, 1) := by decide +kernel
theorem dX4_either_33 : decode cX4_either 33 = .ok (.iload_n 1, 1) := by decide +kernel
theorem dX4_either_34 : decode cX4_either 34 = .ok (.invokevirtual 50, 3) := by decide +kernel
theorem dX4_either_37 : decode cX4_either 37 = .ok (.istore_n 2, 1) := by decide +kernel
theorem dX4_either_38 : decode cX4_either 38 = .ok (.aload_n 0, 1) := by decide +kernel
theorem dX4_either_39 : decode cX4_either 39 = .ok (.bipush (-9), 2) := by decide +kernel
theorem dX4_either_41 : decode cX4_either 41 = .ok (.invokevirtual 53, 3) := by decide +kernel
theorem dX4_either_44 : decode cX4_either 44 = .ok (.iinc 3 1, 3) := by decide +kernel
theorem dX4_either_47 : decode cX4_either 47 = .ok (.goto (-39), 3) := by decide +kernel
theorem dX4_either_50 : decode cX4_either 50 = .ok (.iload_n 2, 1) := by decide +kernel
theorem dX4_either_51 : decode cX4_either 51 = .ok (.ireturn, 1) := by decide +kernel
theorem dX4_both_0 : decode cX4_both 0 = .ok (.aload_n 0, 1) := by decide +kernel
theorem dX4_both_1 : decode cX4_both 1 = .ok (.iload_n 1, 1) := by decide +kernel
theorem dX4_both_2 : decode cX4_both 2 = .ok (.invokevirtual 57, 3) := by decide +kernel
theorem dX4_both_5 : decode cX4_both 5 = .ok (.istore_n 2, 1) := by decide +kernel
theorem dX4_both_6 : decode cX4_both 6 = .ok (.iconst 0, 1) := by decide +kernel
theorem dX4_both_7 : decode cX4_both 7 = .ok (.istore_n 3, 1) := by decide +kernel
theorem dX4_both_8 : decode cX4_both 8 = .ok (.iload_n 3, 1) := by decide +kernel
theorem dX4_both_9 : decode cX4_both 9 = .ok (.sipush 160, 3) := by decide +kernel
theorem dX4_both_12 : decode cX4_both 12 = .ok (.if_icmp .ge 38, 3) := by decide +kernel
theorem dX4_both_15 : decode cX4_both 15 = .ok (.iload_n 2, 1) := by decide +kernel
theorem dX4_both_16 : decode cX4_both 16 = .ok (.ifCond .eq 34, 3) := by decide +kernel
theorem dX4_both_19 : decode cX4_both 19 = .ok (.aload_n 0, 1) := by decide +kernel
theorem dX4_both_20 : decode cX4_both 20 = .ok (.getfield 22, 3) := by decide +kernel
theorem dX4_both_23 : decode cX4_both 23 = .ok (.bipush (-10), 2) := by decide +kernel
theorem dX4_both_25 : decode cX4_both 25 = .ok (.if_icmp .ne 25, 3) := by decide +kernel
theorem dX4_both_28 : decode cX4_both 28 = .ok (.aload_n 0, 1) := by decide +kernel
theorem dX4_both_29 : decode cX4_both 29 = .ok (.invokevirtual 40, 3) := by decide +kernel
theorem dX4_both_32 : decode cX4_both 32 = .ok (.aload_n 0, 1) := by decide +kernel
theorem dX4_both_33 : decode cX4_both 33 = .ok (.iload_n 1, 1) := by decide +kernel
theorem dX4_both_34 : decode cX4_both 34 = .ok (.invokevirtual 57, 3) := by decide +kernel
theorem dX4_both_37 : decode cX4_both 37 = .ok (.istore_n 2, 1) := by decide +kernel
theorem dX4_both_38 : decode cX4_both 38 = .ok (.aload_n 0, 1) := by decide +kernel
theorem dX4_both_39 : decode cX4_both 39 = .ok (.bipush (-10), 2) := by decide +kernel
theorem dX4_both_41 : decode cX4_both 41 = .ok (.invokevirtual 53, 3) := by decide +kernel
theorem dX4_both_44 : decode cX4_both 44 = .ok (.iinc 3 1, 3) := by decide +kernel
theorem dX4_both_47 : decode cX4_both 47 = .ok (.goto (-39), 3) := by decide +kernel
theorem dX4_both_50 : decode cX4_both 50 = .ok (.iload_n 2, 1) := by decide +kernel
theorem dX4_both_51 : decode cX4_both 51 = .ok (.ireturn, 1) := by decide +kernel
theorem dX4_denied_0 : decode cX4_denied 0 = .ok (.aload_n 0, 1) := by decide +kernel
theorem dX4_denied_1 : decode cX4_denied 1 = .ok (.getfield 22, 3) := by decide +kernel
theorem dX4_denied_4 : decode cX4_denied 4 = .ok (.bipush (-8), 2) := by decide +kernel
theorem dX4_denied_6 : decode cX4_denied 6 = .ok (.if_icmp .ne 11, 3) := by decide +kernel
theorem dX4_denied_9 : decode cX4_denied 9 = .ok (.aload_n 0, 1) := by decide +kernel
theorem dX4_denied_10 : decode cX4_denied 10 = .ok (.bipush (-8), 2) := by decide +kernel
theorem dX4_denied_12 : decode cX4_denied 12 = .ok (.iload_n 1, 1) := by decide +kernel
theorem dX4_denied_13 : decode cX4_denied 13 = .ok (.invokevirtual 60, 3) := by decide +kernel
theorem dX4_denied_16 : decode cX4_denied 16 = .ok (.ireturn, 1) := by decide +kernel
theorem dX4_denied_17 : decode cX4_denied 17 = .ok (.aload_n 0, 1) := by decide +kernel
theorem dX4_denied_18 : decode cX4_denied 18 = .ok (.iload_n 1, 1) := by decide +kernel
theorem dX4_denied_19 : decode cX4_denied 19 = .ok (.invokevirtual 64, 3) := by decide +kernel
theorem dX4_denied_22 : decode cX4_denied 22 = .ok (.ifCond .ne 5, 3) := by decide +kernel
theorem dX4_denied_25 : decode cX4_denied 25 = .ok (.iconst 0, 1) := by decide +kernel
theorem dX4_denied_26 : decode cX4_denied 26 = .ok (.ireturn, 1) := by decide +kernel
theorem dX4_denied_27 : decode cX4_denied 27 = .ok (.aload_n 0, 1) := by decide +kernel
theorem dX4_denied_28 : decode cX4_denied 28 = .ok (.getfield 22, 3) := by decide +kernel
theorem dX4_denied_31 : decode cX4_denied 31 = .ok (.bipush (-11), 2) := by decide +kernel
theorem dX4_denied_33 : decode cX4_denied 33 = .ok (.if_icmp .eq 14, 3) := by decide +kernel
theorem dX4_denied_36 : decode cX4_denied 36 = .ok (.aload_n 0, 1) := by decide +kernel
theorem dX4_denied_37 : decode cX4_denied 37 = .ok (.getfield 22, 3) := by decide +kernel
theorem dX4_denied_40 : decode cX4_denied 40 = .ok (.bipush (-12), 2) := by decide +kernel
theorem dX4_denied_42 : decode cX4_denied 42 = .ok (.if_icmp .eq 5, 3) := by decide +kernel
theorem dX4_denied_45 : decode cX4_denied 45 = .ok (.iconst 1, 1) := by decide +kernel
theorem dX4_denied_46 : decode cX4_denied 46 = .ok (.ireturn, 1) := by decide +kernel
theorem dX4_denied_47 : decode cX4_denied 47 = .ok (.aload_n 0, 1) := by decide +kernel
theorem dX4_denied_48 : decode cX4_denied 48 = .ok (.getfield 22, 3) := by decide +kernel
theorem dX4_denied_51 : decode cX4_denied 51 = .ok (.istore_n 2, 1) := by decide +kernel
theorem dX4_denied_52 : decode cX4_denied 52 = .ok (.aload_n 0, 1) := by decide +kernel
theorem dX4_denied_53 : decode cX4_denied 53 = .ok (.invokevirtual 40, 3) := by decide +kernel
theorem dX4_denied_56 : decode cX4_denied 56 = .ok (.aload_n 0, 1) := by decide +kernel
theorem dX4_denied_57 : decode cX4_denied 57 = .ok (.iload_n 1, 1) := by decide +kernel
theorem dX4_denied_58 : decode cX4_denied 58 = .ok (.invokevirtual 64, 3) := by decide +kernel
theorem dX4_denied_61 : decode cX4_denied 61 = .ok (.istore_n 3, 1) := by decide +kernel
theorem dX4_denied_62 : decode cX4_denied 62 = .ok (.aload_n 0, 1) := by decide +kernel
theorem dX4_denied_63 : decode cX4_denied 63 = .ok (.iload_n 2, 1) := by decide +kernel
theorem dX4_denied_64 : decode cX4_denied 64 = .ok (.invokevirtual 53, 3) := by decide +kernel
theorem dX4_denied_67 : decode cX4_denied 67 = .ok (.iload_n 3, 1) := by decide +kernel
theorem dX4_denied_68 : decode cX4_denied 68 = .ok (.ireturn, 1) := by decide +kernel
theorem dX4_sum_0 : decode cX4_sum 0 = .ok (.aload_n 0, 1) := by decide +kernel
theorem dX4_sum_1 : decode cX4_sum 1 = .ok (.iload_n 1, 1) := by decide +kernel
theorem dX4_sum_2 : decode cX4_sum 2 = .ok (.invokevirtual 67, 3) := by decide +kernel
theorem dX4_sum_5 : decode cX4_sum 5 = .ok (.istore_n 2, 1) := by decide +kernel
theorem dX4_sum_6 : decode cX4_sum 6 = .ok (.iconst 0, 1) := by decide +kernel
theorem dX4_sum_7 : decode cX4_sum 7 = .ok (.istore_n 3, 1) := by decide +kernel
theorem dX4_sum_8 : decode cX4_sum 8 = .ok (.iload_n 3, 1) := by decide +kernel
theorem dX4_sum_9 : decode cX4_sum 9 = .ok (.sipush 160, 3) := by decide +kernel
theorem dX4_sum_12 : decode cX4_sum 12 = .ok (.if_icmp .ge 53, 3) := by decide +kernel
theorem dX4_sum_15 : decode cX4_sum 15 = .ok (.iload_n 2, 1) := by decide +kernel
theorem dX4_sum_16 : decode cX4_sum 16 = .ok (.ifCond .eq 49, 3) := by decide +kernel
theorem dX4_sum_19 : decode cX4_sum 19 = .ok (.aload_n 0, 1) := by decide +kernel
theorem dX4_sum_20 : decode cX4_sum 20 = .ok (.getfield 22, 3) := by decide +kernel
theorem dX4_sum_23 : decode cX4_sum 23 = .ok (.bipush (-13), 2) := by decide +kernel
theorem dX4_sum_25 : decode cX4_sum 25 = .ok (.if_icmp .eq 12, 3) := by decide +kernel
theorem dX4_sum_28 : decode cX4_sum 28 = .ok (.aload_n 0, 1) := by decide +kernel
theorem dX4_sum_29 : decode cX4_sum 29 = .ok (.getfield 22, 3) := by decide +kernel
theorem dX4_sum_32 : decode cX4_sum 32 = .ok (.bipush (-14), 2) := by decide +kernel
theorem dX4_sum_34 : decode cX4_sum 34 = .ok (.if_icmp .ne 31, 3) := by decide +kernel
theorem dX4_sum_37 : decode cX4_sum 37 = .ok (.aload_n 0, 1) := by decide +kernel
theorem dX4_sum_38 : decode cX4_sum 38 = .ok (.getfield 22, 3) := by decide +kernel
theorem dX4_sum_41 : decode cX4_sum 41 = .ok (.istore 4, 2) := by decide +kernel
theorem dX4_sum_43 : decode cX4_sum 43 = .ok (.aload_n 0, 1) := by decide +kernel
theorem dX4_sum_44 : decode cX4_sum 44 = .ok (.invokevirtual 40, 3) := by decide +kernel
theorem dX4_sum_47 : decode cX4_sum 47 = .ok (.aload_n 0, 1) := by decide +kernel
theorem dX4_sum_48 : decode cX4_sum 48 = .ok (.iload_n 1, 1) := by decide +kernel
theorem dX4_sum_49 : decode cX4_sum 49 = .ok (.invokevirtual 67, 3) := by decide +kernel
theorem dX4_sum_52 : decode cX4_sum 52 = .ok (.istore_n 2, 1) := by decide +kernel
theorem dX4_sum_53 : decode cX4_sum 53 = .ok (.aload_n 0, 1) := by decide +kernel
theorem dX4_sum_54 : decode cX4_sum 54 = .ok (.iload 4, 2) := by decide +kernel
theorem dX4_sum_56 : decode cX4_sum 56 = .ok (.invokevirtual 53, 3) := by decide +kernel
theorem dX4_sum_59 : decode cX4_sum 59 = .ok (.iinc 3 1, 3) := by decide +kernel
theorem dX4_sum_62 : decode cX4_sum 62 = .ok (.goto (-54), 3) := by decide +kernel
theorem dX4_sum_65 : decode cX4_sum 65 = .ok (.iload_n 2, 1) := by decide +kernel
theorem dX4_sum_66 : decode cX4_sum 66 = .ok (.ireturn, 1) := by decide +kernel
theorem dX4_term_0 : decode cX4_term 0 = .ok (.aload_n 0, 1) := by decide +kernel
theorem dX4_term_1 : decode cX4_term 1 = .ok (.iload_n 1, 1) := by decide +kernel
theorem dX4_term_2 : decode cX4_term 2 = .ok (.invokevirtual 70, 3) := by decide +kernel
theorem dX4_term_5 : decode cX4_term 5 = .ok (.istore_n 2, 1) := by decide +kernel
theorem dX4_term_6 : decode cX4_term 6 = .ok (.iconst 0, 1) := by decide +kernel
theorem dX4_term_7 : decode cX4_term 7 = .ok (.istore_n 3, 1) := by decide +kernel
theorem dX4_term_8 : decode cX4_term 8 = .ok (.iload_n 3, 1) := by decide +kernel
theorem dX4_term_9 : decode cX4_term 9 = .ok (.sipush 160, 3) := by decide +kernel
theorem dX4_term_12 : decode cX4_term 12 = .ok (.if_icmp .ge 38, 3) := by decide +kernel
theorem dX4_term_15 : decode cX4_term 15 = .ok (.iload_n 2, 1) := by decide +kernel
theorem dX4_term_16 : decode cX4_term 16 = .ok (.ifCond .eq 34, 3) := by decide +kernel
theorem dX4_term_19 : decode cX4_term 19 = .ok (.aload_n 0, 1) := by decide +kernel
theorem dX4_term_20 : decode cX4_term 20 = .ok (.getfield 22, 3) := by decide +kernel
theorem dX4_term_23 : decode cX4_term 23 = .ok (.bipush (-15), 2) := by decide +kernel
theorem dX4_term_25 : decode cX4_term 25 = .ok (.if_icmp .ne 25, 3) := by decide +kernel
theorem dX4_term_28 : decode cX4_term 28 = .ok (.aload_n 0, 1) := by decide +kernel
theorem dX4_term_29 : decode cX4_term 29 = .ok (.invokevirtual 40, 3) := by decide +kernel
theorem dX4_term_32 : decode cX4_term 32 = .ok (.aload_n 0, 1) := by decide +kernel
theorem dX4_term_33 : decode cX4_term 33 = .ok (.iload_n 1, 1) := by decide +kernel
theorem dX4_term_34 : decode cX4_term 34 = .ok (.invokevirtual 70, 3) := by decide +kernel
theorem dX4_term_37 : decode cX4_term 37 = .ok (.istore_n 2, 1) := by decide +kernel
theorem dX4_term_38 : decode cX4_term 38 = .ok (.aload_n 0, 1) := by decide +kernel
theorem dX4_term_39 : decode cX4_term 39 = .ok (.bipush (-15), 2) := by decide +kernel
theorem dX4_term_41 : decode cX4_term 41 = .ok (.invokevirtual 53, 3) := by decide +kernel
theorem dX4_term_44 : decode cX4_term 44 = .ok (.iinc 3 1, 3) := by decide +kernel
theorem dX4_term_47 : decode cX4_term 47 = .ok (.goto (-39), 3) := by decide +kernel
theorem dX4_term_50 : decode cX4_term 50 = .ok (.iload_n 2, 1) := by decide +kernel
theorem dX4_term_51 : decode cX4_term 51 = .ok (.ireturn, 1) := by decide +kernel
theorem dX4_single_0 : decode cX4_single 0 = .ok (.aload_n 0, 1) := by decide +kernel
theorem dX4_single_1 : decode cX4_single 1 = .ok (.getfield 22, 3) := by decide +kernel
theorem dX4_single_4 : decode cX4_single 4 = .ok (.ifCond .eq 19, 3) := by decide +kernel
theorem dX4_single_7 : decode cX4_single 7 = .ok (.aload_n 0, 1) := by decide +kernel
theorem dX4_single_8 : decode cX4_single 8 = .ok (.getfield 22, 3) := by decide +kernel
theorem dX4_single_11 : decode cX4_single 11 = .ok (.ifCond .ge 40, 3) := by decide +kernel
theorem dX4_single_14 : decode cX4_single 14 = .ok (.aload_n 0, 1) := by decide +kernel
theorem dX4_single_15 : decode cX4_single 15 = .ok (.getfield 22, 3) := by decide +kernel
theorem dX4_single_18 : decode cX4_single 18 = .ok (.bipush (-6), 2) := by decide +kernel
theorem dX4_single_20 : decode cX4_single 20 = .ok (.if_icmp .lt 31, 3) := by decide +kernel
theorem dX4_single_23 : decode cX4_single 23 = .ok (.aload_n 0, 1) := by decide +kernel
theorem dX4_single_24 : decode cX4_single 24 = .ok (.aload_n 0, 1) := by decide +kernel
theorem dX4_single_25 : decode cX4_single 25 = .ok (.getfield 22, 3) := by decide +kernel
theorem dX4_single_28 : decode cX4_single 28 = .ok (.ifCond .ne 10, 3) := by decide +kernel
theorem dX4_single_31 : decode cX4_single 31 = .ok (.aload_n 0, 1) := by decide +kernel
theorem dX4_single_32 : decode cX4_single 32 = .ok (.getfield 28, 3) := by decide +kernel
theorem dX4_single_35 : decode cX4_single 35 = .ok (.goto 7, 3) := by decide +kernel
theorem dX4_single_38 : decode cX4_single 38 = .ok (.aload_n 0, 1) := by decide +kernel
theorem dX4_single_39 : decode cX4_single 39 = .ok (.getfield 22, 3) := by decide +kernel
theorem dX4_single_42 : decode cX4_single 42 = .ok (.invokevirtual 53, 3) := by decide +kernel
theorem dX4_single_45 : decode cX4_single 45 = .ok (.aload_n 0, 1) := by decide +kernel
theorem dX4_single_46 : decode cX4_single 46 = .ok (.invokevirtual 40, 3) := by decide +kernel
theorem dX4_single_49 : decode cX4_single 49 = .ok (.iconst 1, 1) := by decide +kernel
theorem dX4_single_50 : decode cX4_single 50 = .ok (.ireturn, 1) := by decide +kernel
theorem dX4_single_51 : decode cX4_single 51 = .ok (.aload_n 0, 1) := by decide +kernel
theorem dX4_single_52 : decode cX4_single 52 = .ok (.getfield 22, 3) := by decide +kernel
theorem dX4_single_55 : decode cX4_single 55 = .ok (.bipush (-14), 2) := by decide +kernel
theorem dX4_single_57 : decode cX4_single 57 = .ok (.if_icmp .ne 11, 3) := by decide +kernel
theorem dX4_single_60 : decode cX4_single 60 = .ok (.aload_n 0, 1) := by decide +kernel
theorem dX4_single_61 : decode cX4_single 61 = .ok (.bipush (-7), 2) := by decide +kernel
theorem dX4_single_63 : decode cX4_single 63 = .ok (.iload_n 1, 1) := by decide +kernel
theorem dX4_single_64 : decode cX4_single 64 = .ok (.invokevirtual 60, 3) := by decide +kernel
theorem dX4_single_67 : decode cX4_single 67 = .ok (.ireturn, 1) := by decide +kernel
theorem dX4_single_68 : decode cX4_single 68 = .ok (.aload_n 0, 1) := by decide +kernel
theorem dX4_single_69 : decode cX4_single 69 = .ok (.getfield 22, 3) := by decide +kernel
theorem dX4_single_72 : decode cX4_single 72 = .ok (.iconst 4, 1) := by decide +kernel
theorem dX4_single_73 : decode cX4_single 73 = .ok (.if_icmp .ne 8, 3) := by decide +kernel
theorem dX4_single_76 : decode cX4_single 76 = .ok (.iload_n 1, 1) := by decide +kernel
theorem dX4_single_77 : decode cX4_single 77 = .ok (.iconst 5, 1) := by decide +kernel
theorem dX4_single_78 : decode cX4_single 78 = .ok (.if_icmp .lt 5, 3) := by decide +kernel
theorem dX4_single_81 : decode cX4_single 81 = .ok (.iconst 0, 1) := by decide +kernel
theorem dX4_single_82 : decode cX4_single 82 = .ok (.ireturn, 1) := by decide +kernel
theorem dX4_single_83 : decode cX4_single 83 = .ok (.aload_n 0, 1) := by decide +kernel
theorem dX4_single_84 : decode cX4_single 84 = .ok (.invokevirtual 40, 3) := by decide +kernel
theorem dX4_single_87 : decode cX4_single 87 = .ok (.aload_n 0, 1) := by decide +kernel
theorem dX4_single_88 : decode cX4_single 88 = .ok (.iload_n 1, 1) := by decide +kernel
theorem dX4_single_89 : decode cX4_single 89 = .ok (.iconst 1, 1) := by decide +kernel
theorem dX4_single_90 : decode cX4_single 90 = .ok (.iadd, 1) := by decide +kernel
theorem dX4_single_91 : decode cX4_single 91 = .ok (.invokevirtual 47, 3) := by decide +kernel
theorem dX4_single_94 : decode cX4_single 94 = .ok (.ifCond .eq 15, 3) := by decide +kernel
theorem dX4_single_97 : decode cX4_single 97 = .ok (.aload_n 0, 1) := by decide +kernel
theorem dX4_single_98 : decode cX4_single 98 = .ok (.iconst 5, 1) := by decide +kernel
theorem dX4_single_99 : decode cX4_single 99 = .ok (.invokevirtual 43, 3) := by decide +kernel
theorem dX4_single_102 : decode cX4_single 102 = .ok (.ifCond .eq 7, 3) := by decide +kernel
theorem dX4_single_105 : decode cX4_single 105 = .ok (.iconst 1, 1) := by decide +kernel
theorem dX4_single_106 : decode cX4_single 106 = .ok (.goto 4, 3) := by decide +kernel
theorem dX4_single_109 : decode cX4_single 109 = .ok (.iconst 0, 1) := by decide +kernel
theorem dX4_single_110 : decode cX4_single 110 = .ok (.ireturn, 1) := by decide +kernel
theorem dX4_prefixed_0 : decode cX4_prefixed 0 = .ok (.iload_n 2, 1) := by decide +kernel
theorem dX4_prefixed_1 : decode cX4_prefixed 1 = .ok (.iconst 5, 1) := by decide +kernel
theorem dX4_prefixed_2 : decode cX4_prefixed 2 = .ok (.if_icmp .lt 5, 3) := by decide +kernel
theorem dX4_prefixed_5 : decode cX4_prefixed 5 = .ok (.iconst 0, 1) := by decide +kernel
theorem dX4_prefixed_6 : decode cX4_prefixed 6 = .ok (.ireturn, 1) := by decide +kernel
theorem dX4_prefixed_7 : decode cX4_prefixed 7 = .ok (.aload_n 0, 1) := by decide +kernel
theorem dX4_prefixed_8 : decode cX4_prefixed 8 = .ok (.invokevirtual 40, 3) := by decide +kernel
theorem dX4_prefixed_11 : decode cX4_prefixed 11 = .ok (.iload_n 1, 1) := by decide +kernel
theorem dX4_prefixed_12 : decode cX4_prefixed 12 = .ok (.bipush (-8), 2) := by decide +kernel
theorem dX4_prefixed_14 : decode cX4_prefixed 14 = .ok (.if_icmp .ne 13, 3) := by decide +kernel
theorem dX4_prefixed_17 : decode cX4_prefixed 17 = .ok (.aload_n 0, 1) := by decide +kernel
theorem dX4_prefixed_18 : decode cX4_prefixed 18 = .ok (.iload_n 2, 1) := by decide +kernel
theorem dX4_prefixed_19 : decode cX4_prefixed 19 = .ok (.iconst 1, 1) := by decide +kernel
theorem dX4_prefixed_20 : decode cX4_prefixed 20 = .ok (.iadd, 1) := by decide +kernel
theorem dX4_prefixed_21 : decode cX4_prefixed 21 = .ok (.invokevirtual 57, 3) := by decide +kernel
theorem dX4_prefixed_24 : decode cX4_prefixed 24 = .ok (.goto 10, 3) := by decide +kernel
theorem dX4_prefixed_27 : decode cX4_prefixed 27 = .ok (.aload_n 0, 1) := by decide +kernel
theorem dX4_prefixed_28 : decode cX4_prefixed 28 = .ok (.iload_n 2, 1) := by decide +kernel
theorem dX4_prefixed_29 : decode cX4_prefixed 29 = .ok (.iconst 1, 1) := by decide +kernel
theorem dX4_prefixed_30 : decode cX4_prefixed 30 = .ok (.iadd, 1) := by decide +kernel
theorem dX4_prefixed_31 : decode cX4_prefixed 31 = .ok (.invokevirtual 70, 3) := by decide +kernel
theorem dX4_prefixed_34 : decode cX4_prefixed 34 = .ok (.istore_n 3, 1) := by decide +kernel
theorem dX4_prefixed_35 : decode cX4_prefixed 35 = .ok (.aload_n 0, 1) := by decide +kernel
theorem dX4_prefixed_36 : decode cX4_prefixed 36 = .ok (.iload_n 1, 1) := by decide +kernel
theorem dX4_prefixed_37 : decode cX4_prefixed 37 = .ok (.invokevirtual 53, 3) := by decide +kernel
theorem dX4_prefixed_40 : decode cX4_prefixed 40 = .ok (.iload_n 3, 1) := by decide +kernel
theorem dX4_prefixed_41 : decode cX4_prefixed 41 = .ok (.ireturn, 1) := by decide +kernel
theorem dX4_next_0 : decode cX4_next 0 = .ok (.aload_n 0, 1) := by decide +kernel
theorem dX4_next_1 : decode cX4_next 1 = .ok (.getfield 19, 3) := by decide +kernel
theorem dX4_next_4 : decode cX4_next 4 = .ok (.aload_n 0, 1) := by decide +kernel
theorem dX4_next_5 : decode cX4_next 5 = .ok (.getfield 15, 3) := by decide +kernel
theorem dX4_next_8 : decode cX4_next 8 = .ok (.if_icmp .ge 44, 3) := by decide +kernel
theorem dX4_next_11 : decode cX4_next 11 = .ok (.aload_n 0, 1) := by decide +kernel
theorem dX4_next_12 : decode cX4_next 12 = .ok (.getfield 9, 3) := by decide +kernel
theorem dX4_next_15 : decode cX4_next 15 = .ok (.aload_n 0, 1) := by decide +kernel
theorem dX4_next_16 : decode cX4_next 16 = .ok (.getfield 19, 3) := by decide +kernel
theorem dX4_next_19 : decode cX4_next 19 = .ok (.iaload, 1) := by decide +kernel
theorem dX4_next_20 : decode cX4_next 20 = .ok (.bipush 32, 2) := by decide +kernel
theorem dX4_next_22 : decode cX4_next 22 = .ok (.if_icmp .eq 17, 3) := by decide +kernel
theorem dX4_next_25 : decode cX4_next 25 = .ok (.aload_n 0, 1) := by decide +kernel
theorem dX4_next_26 : decode cX4_next 26 = .ok (.getfield 9, 3) := by decide +kernel
theorem dX4_next_29 : decode cX4_next 29 = .ok (.aload_n 0, 1) := by decide +kernel
theorem dX4_next_30 : decode cX4_next 30 = .ok (.getfield 19, 3) := by decide +kernel
theorem dX4_next_33 : decode cX4_next 33 = .ok (.iaload, 1) := by decide +kernel
theorem dX4_next_34 : decode cX4_next 34 = .ok (.bipush 10, 2) := by decide +kernel
theorem dX4_next_36 : decode cX4_next 36 = .ok (.if_icmp .ne 16, 3) := by decide +kernel
theorem dX4_next_39 : decode cX4_next 39 = .ok (.aload_n 0, 1) := by decide +kernel
theorem dX4_next_40 : decode cX4_next 40 = .ok (.dup, 1) := by decide +kernel
theorem dX4_next_41 : decode cX4_next 41 = .ok (.getfield 19, 3) := by decide +kernel
theorem dX4_next_44 : decode cX4_next 44 = .ok (.iconst 1, 1) := by decide +kernel
theorem dX4_next_45 : decode cX4_next 45 = .ok (.iadd, 1) := by decide +kernel
theorem dX4_next_46 : decode cX4_next 46 = .ok (.putfield 19, 3) := by decide +kernel
theorem dX4_next_49 : decode cX4_next 49 = .ok (.goto (-49), 3) := by decide +kernel
theorem dX4_next_52 : decode cX4_next 52 = .ok (.aload_n 0, 1) := by decide +kernel
theorem dX4_next_53 : decode cX4_next 53 = .ok (.aload_n 0, 1) := by decide +kernel
theorem dX4_next_54 : decode cX4_next 54 = .ok (.getfield 19, 3) := by decide +kernel
theorem dX4_next_57 : decode cX4_next 57 = .ok (.putfield 25, 3) := by decide +kernel
theorem dX4_next_60 : decode cX4_next 60 = .ok (.aload_n 0, 1) := by decide +kernel
theorem dX4_next_61 : decode cX4_next 61 = .ok (.getfield 19, 3) := by decide +kernel
theorem dX4_next_64 : decode cX4_next 64 = .ok (.aload_n 0, 1) := by decide +kernel
theorem dX4_next_65 : decode cX4_next 65 = .ok (.getfield 15, 3) := by decide +kernel
theorem dX4_next_68 : decode cX4_next 68 = .ok (.if_icmp .lt 12, 3) := by decide +kernel
theorem dX4_next_71 : decode cX4_next 71 = .ok (.aload_n 0, 1) := by decide +kernel
theorem dX4_next_72 : decode cX4_next 72 = .ok (.bipush 7, 2) := by decide +kernel
theorem dX4_next_74 : decode cX4_next 74 = .ok (.putfield 22, 3) := by decide +kernel
theorem dX4_next_77 : decode cX4_next 77 = .ok (.goto 81, 3) := by decide +kernel
theorem dX4_next_80 : decode cX4_next 80 = .ok (.aload_n 0, 1) := by decide +kernel
theorem dX4_next_81 : decode cX4_next 81 = .ok (.getfield 9, 3) := by decide +kernel
theorem dX4_next_84 : decode cX4_next 84 = .ok (.aload_n 0, 1) := by decide +kernel
theorem dX4_next_85 : decode cX4_next 85 = .ok (.getfield 19, 3) := by decide +kernel
theorem dX4_next_88 : decode cX4_next 88 = .ok (.iaload, 1) := by decide +kernel
theorem dX4_next_89 : decode cX4_next 89 = .ok (.invokestatic 73, 3) := by decide +kernel
theorem dX4_next_92 : decode cX4_next 92 = .ok (.ifCond .eq 14, 3) := by decide +kernel
theorem dX4_next_95 : decode cX4_next 95 = .ok (.aload_n 0, 1) := by decide +kernel
theorem dX4_next_96 : decode cX4_next 96 = .ok (.aload_n 0, 1) := by decide +kernel
theorem dX4_next_97 : decode cX4_next 97 = .ok (.invokevirtual 76, 3) := by decide +kernel
theorem dX4_next_100 : decode cX4_next 100 = .ok (.putfield 22, 3) := by decide +kernel
theorem dX4_next_103 : decode cX4_next 103 = .ok (.goto 55, 3) := by decide +kernel
theorem dX4_next_106 : decode cX4_next 106 = .ok (.aload_n 0, 1) := by decide +kernel
theorem dX4_next_107 : decode cX4_next 107 = .ok (.getfield 9, 3) := by decide +kernel
theorem dX4_next_110 : decode cX4_next 110 = .ok (.aload_n 0, 1) := by decide +kernel
theorem dX4_next_111 : decode cX4_next 111 = .ok (.getfield 19, 3) := by decide +kernel
theorem dX4_next_114 : decode cX4_next 114 = .ok (.iaload, 1) := by decide +kernel
theorem dX4_next_115 : decode cX4_next 115 = .ok (.invokestatic 80, 3) := by decide +kernel
theorem dX4_next_118 : decode cX4_next 118 = .ok (.ifCond .eq 14, 3) := by decide +kernel
theorem dX4_next_121 : decode cX4_next 121 = .ok (.aload_n 0, 1) := by decide +kernel
theorem dX4_next_122 : decode cX4_next 122 = .ok (.aload_n 0, 1) := by decide +kernel
theorem dX4_next_123 : decode cX4_next 123 = .ok (.invokevirtual 83, 3) := by decide +kernel
theorem dX4_next_126 : decode cX4_next 126 = .ok (.putfield 22, 3) := by decide +kernel
theorem dX4_next_129 : decode cX4_next 129 = .ok (.goto 29, 3) := by decide +kernel
theorem dX4_next_132 : decode cX4_next 132 = .ok (.aload_n 0, 1) := by decide +kernel
theorem dX4_next_133 : decode cX4_next 133 = .ok (.aload_n 0, 1) := by decide +kernel
theorem dX4_next_134 : decode cX4_next 134 = .ok (.getfield 9, 3) := by decide +kernel
theorem dX4_next_137 : decode cX4_next 137 = .ok (.aload_n 0, 1) := by decide +kernel
theorem dX4_next_138 : decode cX4_next 138 = .ok (.getfield 19, 3) := by decide +kernel
theorem dX4_next_141 : decode cX4_next 141 = .ok (.iaload, 1) := by decide +kernel
theorem dX4_next_142 : decode cX4_next 142 = .ok (.invokestatic 86, 3) := by decide +kernel
theorem dX4_next_145 : decode cX4_next 145 = .ok (.putfield 22, 3) := by decide +kernel
theorem dX4_next_148 : decode cX4_next 148 = .ok (.aload_n 0, 1) := by decide +kernel
theorem dX4_next_149 : decode cX4_next 149 = .ok (.dup, 1) := by decide +kernel
theorem dX4_next_150 : decode cX4_next 150 = .ok (.getfield 19, 3) := by decide +kernel
theorem dX4_next_153 : decode cX4_next 153 = .ok (.iconst 1, 1) := by decide +kernel
theorem dX4_next_154 : decode cX4_next 154 = .ok (.iadd, 1) := by decide +kernel
theorem dX4_next_155 : decode cX4_next 155 = .ok (.putfield 19, 3) := by decide +kernel
theorem dX4_next_158 : decode cX4_next 158 = .ok (.return_, 1) := by decide +kernel
theorem dX4_wordToken_0 : decode cX4_wordToken 0 = .ok (.aload_n 0, 1) := by decide +kernel
theorem dX4_wordToken_1 : decode cX4_wordToken 1 = .ok (.getfield 19, 3) := by decide +kernel
theorem dX4_wordToken_4 : decode cX4_wordToken 4 = .ok (.aload_n 0, 1) := by decide +kernel
theorem dX4_wordToken_5 : decode cX4_wordToken 5 = .ok (.getfield 15, 3) := by decide +kernel
theorem dX4_wordToken_8 : decode cX4_wordToken 8 = .ok (.if_icmp .ge 31, 3) := by decide +kernel
theorem dX4_wordToken_11 : decode cX4_wordToken 11 = .ok (.aload_n 0, 1) := by decide +kernel
theorem dX4_wordToken_12 : decode cX4_wordToken 12 = .ok (.getfield 9, 3) := by decide +kernel
theorem dX4_wordToken_15 : decode cX4_wordToken 15 = .ok (.aload_n 0, 1) := by decide +kernel
theorem dX4_wordToken_16 : decode cX4_wordToken 16 = .ok (.getfield 19, 3) := by decide +kernel
theorem dX4_wordToken_19 : decode cX4_wordToken 19 = .ok (.iaload, 1) := by decide +kernel
theorem dX4_wordToken_20 : decode cX4_wordToken 20 = .ok (.invokestatic 73, 3) := by decide +kernel
theorem dX4_wordToken_23 : decode cX4_wordToken 23 = .ok (.ifCond .eq 16, 3) := by decide +kernel
theorem dX4_wordToken_26 : decode cX4_wordToken 26 = .ok (.aload_n 0, 1) := by decide +kernel
theorem dX4_wordToken_27 : decode cX4_wordToken 27 = .ok (.dup, 1) := by decide +kernel
theorem dX4_wordToken_28 : decode cX4_wordToken 28 = .ok (.getfield 19, 3) := by decide +kernel
theorem dX4_wordToken_31 : decode cX4_wordToken 31 = .ok (.iconst 1, 1) := by decide +kernel
theorem dX4_wordToken_32 : decode cX4_wordToken 32 = .ok (.iadd, 1) := by decide +kernel
theorem dX4_wordToken_33 : decode cX4_wordToken 33 = .ok (.putfield 19, 3) := by decide +kernel
theorem dX4_wordToken_36 : decode cX4_wordToken 36 = .ok (.goto (-36), 3) := by decide +kernel
theorem dX4_wordToken_39 : decode cX4_wordToken 39 = .ok (.aload_n 0, 1) := by decide +kernel
theorem dX4_wordToken_40 : decode cX4_wordToken 40 = .ok (.ldc 90, 2) := by decide +kernel
theorem dX4_wordToken_42 : decode cX4_wordToken 42 = .ok (.invokevirtual 92, 3) := by decide +kernel
theorem dX4_wordToken_45 : decode cX4_wordToken 45 = .ok (.ifCond .eq 5, 3) := by decide +kernel
theorem dX4_wordToken_48 : decode cX4_wordToken 48 = .ok (.iconst 1, 1) := by decide +kernel
theorem dX4_wordToken_49 : decode cX4_wordToken 49 = .ok (.ireturn, 1) := by decide +kernel
theorem dX4_wordToken_50 : decode cX4_wordToken 50 = .ok (.aload_n 0, 1) := by decide +kernel
theorem dX4_wordToken_51 : decode cX4_wordToken 51 = .ok (.ldc 96, 2) := by decide +kernel
theorem dX4_wordToken_53 : decode cX4_wordToken 53 = .ok (.invokevirtual 92, 3) := by decide +kernel
theorem dX4_wordToken_56 : decode cX4_wordToken 56 = .ok (.ifCond .eq 5, 3) := by decide +kernel
theorem dX4_wordToken_59 : decode cX4_wordToken 59 = .ok (.iconst 2, 1) := by decide +kernel
theorem dX4_wordToken_60 : decode cX4_wordToken 60 = .ok (.ireturn, 1) := by decide +kernel
theorem dX4_wordToken_61 : decode cX4_wordToken 61 = .ok (.aload_n 0, 1) := by decide +kernel
theorem dX4_wordToken_62 : decode cX4_wordToken 62 = .ok (.ldc 98, 2) := by decide +kernel
theorem dX4_wordToken_64 : decode cX4_wordToken 64 = .ok (.invokevirtual 92, 3) := by decide +kernel
theorem dX4_wordToken_67 : decode cX4_wordToken 67 = .ok (.ifCond .eq 5, 3) := by decide +kernel
theorem dX4_wordToken_70 : decode cX4_wordToken 70 = .ok (.iconst 3, 1) := by decide +kernel
theorem dX4_wordToken_71 : decode cX4_wordToken 71 = .ok (.ireturn, 1) := by decide +kernel
theorem dX4_wordToken_72 : decode cX4_wordToken 72 = .ok (.aload_n 0, 1) := by decide +kernel
theorem dX4_wordToken_73 : decode cX4_wordToken 73 = .ok (.ldc 100, 2) := by decide +kernel
theorem dX4_wordToken_75 : decode cX4_wordToken 75 = .ok (.invokevirtual 92, 3) := by decide +kernel
theorem dX4_wordToken_78 : decode cX4_wordToken 78 = .ok (.ifCond .eq 6, 3) := by decide +kernel
theorem dX4_wordToken_81 : decode cX4_wordToken 81 = .ok (.bipush (-9), 2) := by decide +kernel
theorem dX4_wordToken_83 : decode cX4_wordToken 83 = .ok (.ireturn, 1) := by decide +kernel
theorem dX4_wordToken_84 : decode cX4_wordToken 84 = .ok (.aload_n 0, 1) := by decide +kernel
theorem dX4_wordToken_85 : decode cX4_wordToken 85 = .ok (.ldc 102, 2) := by decide +kernel
theorem dX4_wordToken_87 : decode cX4_wordToken 87 = .ok (.invokevirtual 92, 3) := by decide +kernel
theorem dX4_wordToken_90 : decode cX4_wordToken 90 = .ok (.ifCond .eq 6, 3) := by decide +kernel
theorem dX4_wordToken_93 : decode cX4_wordToken 93 = .ok (.bipush (-10), 2) := by decide +kernel
theorem dX4_wordToken_95 : decode cX4_wordToken 95 = .ok (.ireturn, 1) := by decide +kernel
theorem dX4_wordToken_96 : decode cX4_wordToken 96 = .ok (.aload_n 0, 1) := by decide +kernel
theorem dX4_wordToken_97 : decode cX4_wordToken 97 = .ok (.ldc 104, 2) := by decide +kernel
theorem dX4_wordToken_99 : decode cX4_wordToken 99 = .ok (.invokevirtual 92, 3) := by decide +kernel
theorem dX4_wordToken_102 : decode cX4_wordToken 102 = .ok (.ifCond .eq 6, 3) := by decide +kernel
theorem dX4_wordToken_105 : decode cX4_wordToken 105 = .ok (.bipush (-8), 2) := by decide +kernel
theorem dX4_wordToken_107 : decode cX4_wordToken 107 = .ok (.ireturn, 1) := by decide +kernel
theorem dX4_wordToken_108 : decode cX4_wordToken 108 = .ok (.aload_n 0, 1) := by decide +kernel
theorem dX4_wordToken_109 : decode cX4_wordToken 109 = .ok (.ldc 106, 2) := by decide +kernel
theorem dX4_wordToken_111 : decode cX4_wordToken 111 = .ok (.invokevirtual 92, 3) := by decide +kernel
theorem dX4_wordToken_114 : decode cX4_wordToken 114 = .ok (.ifCond .eq 5, 3) := by decide +kernel
theorem dX4_wordToken_117 : decode cX4_wordToken 117 = .ok (.iconst (-1), 1) := by decide +kernel
theorem dX4_wordToken_118 : decode cX4_wordToken 118 = .ok (.ireturn, 1) := by decide +kernel
theorem dX4_wordToken_119 : decode cX4_wordToken 119 = .ok (.aload_n 0, 1) := by decide +kernel
theorem dX4_wordToken_120 : decode cX4_wordToken 120 = .ok (.ldc 108, 2) := by decide +kernel
theorem dX4_wordToken_122 : decode cX4_wordToken 122 = .ok (.invokevirtual 92, 3) := by decide +kernel
theorem dX4_wordToken_125 : decode cX4_wordToken 125 = .ok (.ifCond .eq 6, 3) := by decide +kernel
theorem dX4_wordToken_128 : decode cX4_wordToken 128 = .ok (.bipush (-2), 2) := by decide +kernel
theorem dX4_wordToken_130 : decode cX4_wordToken 130 = .ok (.ireturn, 1) := by decide +kernel
theorem dX4_wordToken_131 : decode cX4_wordToken 131 = .ok (.aload_n 0, 1) := by decide +kernel
theorem dX4_wordToken_132 : decode cX4_wordToken 132 = .ok (.ldc 110, 2) := by decide +kernel
theorem dX4_wordToken_134 : decode cX4_wordToken 134 = .ok (.invokevirtual 92, 3) := by decide +kernel
theorem dX4_wordToken_137 : decode cX4_wordToken 137 = .ok (.ifCond .eq 6, 3) := by decide +kernel
theorem dX4_wordToken_140 : decode cX4_wordToken 140 = .ok (.bipush (-3), 2) := by decide +kernel
theorem dX4_wordToken_142 : decode cX4_wordToken 142 = .ok (.ireturn, 1) := by decide +kernel
theorem dX4_wordToken_143 : decode cX4_wordToken 143 = .ok (.aload_n 0, 1) := by decide +kernel
theorem dX4_wordToken_144 : decode cX4_wordToken 144 = .ok (.ldc 112, 2) := by decide +kernel
theorem dX4_wordToken_146 : decode cX4_wordToken 146 = .ok (.invokevirtual 92, 3) := by decide +kernel
theorem dX4_wordToken_149 : decode cX4_wordToken 149 = .ok (.ifCond .eq 6, 3) := by decide +kernel
theorem dX4_wordToken_152 : decode cX4_wordToken 152 = .ok (.bipush (-4), 2) := by decide +kernel
theorem dX4_wordToken_154 : decode cX4_wordToken 154 = .ok (.ireturn, 1) := by decide +kernel
theorem dX4_wordToken_155 : decode cX4_wordToken 155 = .ok (.aload_n 0, 1) := by decide +kernel
theorem dX4_wordToken_156 : decode cX4_wordToken 156 = .ok (.ldc 114, 2) := by decide +kernel
theorem dX4_wordToken_158 : decode cX4_wordToken 158 = .ok (.invokevirtual 92, 3) := by decide +kernel
theorem dX4_wordToken_161 : decode cX4_wordToken 161 = .ok (.ifCond .eq 6, 3) := by decide +kernel
theorem dX4_wordToken_164 : decode cX4_wordToken 164 = .ok (.bipush (-5), 2) := by decide +kernel
theorem dX4_wordToken_166 : decode cX4_wordToken 166 = .ok (.ireturn, 1) := by decide +kernel
theorem dX4_wordToken_167 : decode cX4_wordToken 167 = .ok (.aload_n 0, 1) := by decide +kernel
theorem dX4_wordToken_168 : decode cX4_wordToken 168 = .ok (.ldc 116, 2) := by decide +kernel
theorem dX4_wordToken_170 : decode cX4_wordToken 170 = .ok (.invokevirtual 92, 3) := by decide +kernel
theorem dX4_wordToken_173 : decode cX4_wordToken 173 = .ok (.ifCond .eq 6, 3) := by decide +kernel
theorem dX4_wordToken_176 : decode cX4_wordToken 176 = .ok (.bipush (-6), 2) := by decide +kernel
theorem dX4_wordToken_178 : decode cX4_wordToken 178 = .ok (.ireturn, 1) := by decide +kernel
theorem dX4_wordToken_179 : decode cX4_wordToken 179 = .ok (.bipush 8, 2) := by decide +kernel
theorem dX4_wordToken_181 : decode cX4_wordToken 181 = .ok (.ireturn, 1) := by decide +kernel
theorem dX4_spells_0 : decode cX4_spells 0 = .ok (.aload_n 1, 1) := by decide +kernel
theorem dX4_spells_1 : decode cX4_spells 1 = .ok (.invokevirtual 118, 3) := by decide +kernel
theorem dX4_spells_4 : decode cX4_spells 4 = .ok (.aload_n 0, 1) := by decide +kernel
theorem dX4_spells_5 : decode cX4_spells 5 = .ok (.getfield 19, 3) := by decide +kernel
theorem dX4_spells_8 : decode cX4_spells 8 = .ok (.aload_n 0, 1) := by decide +kernel
theorem dX4_spells_9 : decode cX4_spells 9 = .ok (.getfield 25, 3) := by decide +kernel
theorem dX4_spells_12 : decode cX4_spells 12 = .ok (.isub, 1) := by decide +kernel
theorem dX4_spells_13 : decode cX4_spells 13 = .ok (.if_icmp .eq 5, 3) := by decide +kernel
theorem dX4_spells_16 : decode cX4_spells 16 = .ok (.iconst 0, 1) := by decide +kernel
theorem dX4_spells_17 : decode cX4_spells 17 = .ok (.ireturn, 1) := by decide +kernel
theorem dX4_spells_18 : decode cX4_spells 18 = .ok (.iconst 0, 1) := by decide +kernel
theorem dX4_spells_19 : decode cX4_spells 19 = .ok (.istore_n 2, 1) := by decide +kernel
theorem dX4_spells_20 : decode cX4_spells 20 = .ok (.iload_n 2, 1) := by decide +kernel
theorem dX4_spells_21 : decode cX4_spells 21 = .ok (.aload_n 1, 1) := by decide +kernel
theorem dX4_spells_22 : decode cX4_spells 22 = .ok (.invokevirtual 118, 3) := by decide +kernel
theorem dX4_spells_25 : decode cX4_spells 25 = .ok (.if_icmp .ge 30, 3) := by decide +kernel
theorem dX4_spells_28 : decode cX4_spells 28 = .ok (.aload_n 1, 1) := by decide +kernel
theorem dX4_spells_29 : decode cX4_spells 29 = .ok (.iload_n 2, 1) := by decide +kernel
theorem dX4_spells_30 : decode cX4_spells 30 = .ok (.invokevirtual 122, 3) := by decide +kernel
theorem dX4_spells_33 : decode cX4_spells 33 = .ok (.aload_n 0, 1) := by decide +kernel
theorem dX4_spells_34 : decode cX4_spells 34 = .ok (.getfield 9, 3) := by decide +kernel
theorem dX4_spells_37 : decode cX4_spells 37 = .ok (.aload_n 0, 1) := by decide +kernel
theorem dX4_spells_38 : decode cX4_spells 38 = .ok (.getfield 25, 3) := by decide +kernel
theorem dX4_spells_41 : decode cX4_spells 41 = .ok (.iload_n 2, 1) := by decide +kernel
theorem dX4_spells_42 : decode cX4_spells 42 = .ok (.iadd, 1) := by decide +kernel
theorem dX4_spells_43 : decode cX4_spells 43 = .ok (.iaload, 1) := by decide +kernel
theorem dX4_spells_44 : decode cX4_spells 44 = .ok (.if_icmp .eq 5, 3) := by decide +kernel
theorem dX4_spells_47 : decode cX4_spells 47 = .ok (.iconst 0, 1) := by decide +kernel
theorem dX4_spells_48 : decode cX4_spells 48 = .ok (.ireturn, 1) := by decide +kernel
theorem dX4_spells_49 : decode cX4_spells 49 = .ok (.iinc 2 1, 3) := by decide +kernel
theorem dX4_spells_52 : decode cX4_spells 52 = .ok (.goto (-32), 3) := by decide +kernel
theorem dX4_spells_55 : decode cX4_spells 55 = .ok (.iconst 1, 1) := by decide +kernel
theorem dX4_spells_56 : decode cX4_spells 56 = .ok (.ireturn, 1) := by decide +kernel
theorem dX4_numberToken_0 : decode cX4_numberToken 0 = .ok (.aload_n 0, 1) := by decide +kernel
theorem dX4_numberToken_1 : decode cX4_numberToken 1 = .ok (.iconst 0, 1) := by decide +kernel
theorem dX4_numberToken_2 : decode cX4_numberToken 2 = .ok (.putfield 28, 3) := by decide +kernel
theorem dX4_numberToken_5 : decode cX4_numberToken 5 = .ok (.aload_n 0, 1) := by decide +kernel
theorem dX4_numberToken_6 : decode cX4_numberToken 6 = .ok (.getfield 19, 3) := by decide +kernel
theorem dX4_numberToken_9 : decode cX4_numberToken 9 = .ok (.aload_n 0, 1) := by decide +kernel
theorem dX4_numberToken_10 : decode cX4_numberToken 10 = .ok (.getfield 15, 3) := by decide +kernel
theorem dX4_numberToken_13 : decode cX4_numberToken 13 = .ok (.if_icmp .ge 55, 3) := by decide +kernel
theorem dX4_numberToken_16 : decode cX4_numberToken 16 = .ok (.aload_n 0, 1) := by decide +kernel
theorem dX4_numberToken_17 : decode cX4_numberToken 17 = .ok (.getfield 9, 3) := by decide +kernel
theorem dX4_numberToken_20 : decode cX4_numberToken 20 = .ok (.aload_n 0, 1) := by decide +kernel
theorem dX4_numberToken_21 : decode cX4_numberToken 21 = .ok (.getfield 19, 3) := by decide +kernel
theorem dX4_numberToken_24 : decode cX4_numberToken 24 = .ok (.iaload, 1) := by decide +kernel
theorem dX4_numberToken_25 : decode cX4_numberToken 25 = .ok (.invokestatic 80, 3) := by decide +kernel
theorem dX4_numberToken_28 : decode cX4_numberToken 28 = .ok (.ifCond .eq 40, 3) := by decide +kernel
theorem dX4_numberToken_31 : decode cX4_numberToken 31 = .ok (.aload_n 0, 1) := by decide +kernel
theorem dX4_numberToken_32 : decode cX4_numberToken 32 = .ok (.bipush 10, 2) := by decide +kernel
theorem dX4_numberToken_34 : decode cX4_numberToken 34 = .ok (.aload_n 0, 1) := by decide +kernel
theorem dX4_numberToken_35 : decode cX4_numberToken 35 = .ok (.getfield 28, 3) := by decide +kernel
theorem dX4_numberToken_38 : decode cX4_numberToken 38 = .ok (.imul, 1) := by decide +kernel
theorem dX4_numberToken_39 : decode cX4_numberToken 39 = .ok (.aload_n 0, 1) := by decide +kernel
theorem dX4_numberToken_40 : decode cX4_numberToken 40 = .ok (.getfield 9, 3) := by decide +kernel
theorem dX4_numberToken_43 : decode cX4_numberToken 43 = .ok (.aload_n 0, 1) := by decide +kernel
theorem dX4_numberToken_44 : decode cX4_numberToken 44 = .ok (.getfield 19, 3) := by decide +kernel
theorem dX4_numberToken_47 : decode cX4_numberToken 47 = .ok (.iaload, 1) := by decide +kernel
theorem dX4_numberToken_48 : decode cX4_numberToken 48 = .ok (.bipush 48, 2) := by decide +kernel
theorem dX4_numberToken_50 : decode cX4_numberToken 50 = .ok (.isub, 1) := by decide +kernel
theorem dX4_numberToken_51 : decode cX4_numberToken 51 = .ok (.iadd, 1) := by decide +kernel
theorem dX4_numberToken_52 : decode cX4_numberToken 52 = .ok (.putfield 28, 3) := by decide +kernel
theorem dX4_numberToken_55 : decode cX4_numberToken 55 = .ok (.aload_n 0, 1) := by decide +kernel
theorem dX4_numberToken_56 : decode cX4_numberToken 56 = .ok (.dup, 1) := by decide +kernel
theorem dX4_numberToken_57 : decode cX4_numberToken 57 = .ok (.getfield 19, 3) := by decide +kernel
theorem dX4_numberToken_60 : decode cX4_numberToken 60 = .ok (.iconst 1, 1) := by decide +kernel
theorem dX4_numberToken_61 : decode cX4_numberToken 61 = .ok (.iadd, 1) := by decide +kernel
theorem dX4_numberToken_62 : decode cX4_numberToken 62 = .ok (.putfield 19, 3) := by decide +kernel
theorem dX4_numberToken_65 : decode cX4_numberToken 65 = .ok (.goto (-60), 3) := by decide +kernel
theorem dX4_numberToken_68 : decode cX4_numberToken 68 = .ok (.aload_n 0, 1) := by decide +kernel
theorem dX4_numberToken_69 : decode cX4_numberToken 69 = .ok (.getfield 19, 3) := by decide +kernel
theorem dX4_numberToken_72 : decode cX4_numberToken 72 = .ok (.aload_n 0, 1) := by decide +kernel
theorem dX4_numberToken_73 : decode cX4_numberToken 73 = .ok (.getfield 25, 3) := by decide +kernel
theorem dX4_numberToken_76 : decode cX4_numberToken 76 = .ok (.isub, 1) := by decide +kernel
theorem dX4_numberToken_77 : decode cX4_numberToken 77 = .ok (.iconst 4, 1) := by decide +kernel
theorem dX4_numberToken_78 : decode cX4_numberToken 78 = .ok (.if_icmp .le 8, 3) := by decide +kernel
theorem dX4_numberToken_81 : decode cX4_numberToken 81 = .ok (.bipush 8, 2) := by decide +kernel
theorem dX4_numberToken_83 : decode cX4_numberToken 83 = .ok (.goto 4, 3) := by decide +kernel
theorem dX4_numberToken_86 : decode cX4_numberToken 86 = .ok (.iconst 0, 1) := by decide +kernel
theorem dX4_numberToken_87 : decode cX4_numberToken 87 = .ok (.ireturn, 1) := by decide +kernel
theorem dX4_signToken_0 : decode cX4_signToken 0 = .ok (.iload_n 0, 1) := by decide +kernel
theorem dX4_signToken_1 : decode cX4_signToken 1 = .ok (.tableswitch 125 40 61 #[103, 105, 116, 110, 125, 113, 125, 125, 125, 125, 125, 125, 125, 125, 125, 125, 125, 125, 125, 107, 119, 122], 103) := by decide +kernel
theorem dX4_signToken_104 : decode cX4_signToken 104 = .ok (.iconst 4, 1) := by decide +kernel
theorem dX4_signToken_105 : decode cX4_signToken 105 = .ok (.ireturn, 1) := by decide +kernel
theorem dX4_signToken_106 : decode cX4_signToken 106 = .ok (.iconst 5, 1) := by decide +kernel
theorem dX4_signToken_107 : decode cX4_signToken 107 = .ok (.ireturn, 1) := by decide +kernel
theorem dX4_signToken_108 : decode cX4_signToken 108 = .ok (.bipush 6, 2) := by decide +kernel
theorem dX4_signToken_110 : decode cX4_signToken 110 = .ok (.ireturn, 1) := by decide +kernel
theorem dX4_signToken_111 : decode cX4_signToken 111 = .ok (.bipush (-13), 2) := by decide +kernel
theorem dX4_signToken_113 : decode cX4_signToken 113 = .ok (.ireturn, 1) := by decide +kernel
theorem dX4_signToken_114 : decode cX4_signToken 114 = .ok (.bipush (-14), 2) := by decide +kernel
theorem dX4_signToken_116 : decode cX4_signToken 116 = .ok (.ireturn, 1) := by decide +kernel
theorem dX4_signToken_117 : decode cX4_signToken 117 = .ok (.bipush (-15), 2) := by decide +kernel
theorem dX4_signToken_119 : decode cX4_signToken 119 = .ok (.ireturn, 1) := by decide +kernel
theorem dX4_signToken_120 : decode cX4_signToken 120 = .ok (.bipush (-11), 2) := by decide +kernel
theorem dX4_signToken_122 : decode cX4_signToken 122 = .ok (.ireturn, 1) := by decide +kernel
theorem dX4_signToken_123 : decode cX4_signToken 123 = .ok (.bipush (-12), 2) := by decide +kernel
theorem dX4_signToken_125 : decode cX4_signToken 125 = .ok (.ireturn, 1) := by decide +kernel
theorem dX4_signToken_126 : decode cX4_signToken 126 = .ok (.bipush 8, 2) := by decide +kernel
theorem dX4_signToken_128 : decode cX4_signToken 128 = .ok (.ireturn, 1) := by decide +kernel
theorem dX4_isLetter_0 : decode cX4_isLetter 0 = .ok (.iload_n 0, 1) := by decide +kernel
theorem dX4_isLetter_1 : decode cX4_isLetter 1 = .ok (.bipush 97, 2) := by decide +kernel
theorem dX4_isLetter_3 : decode cX4_isLetter 3 = .ok (.if_icmp .lt 13, 3) := by decide +kernel
theorem dX4_isLetter_6 : decode cX4_isLetter 6 = .ok (.iload_n 0, 1) := by decide +kernel
theorem dX4_isLetter_7 : decode cX4_isLetter 7 = .ok (.bipush 122, 2) := by decide +kernel
theorem dX4_isLetter_9 : decode cX4_isLetter 9 = .ok (.if_icmp .gt 7, 3) := by decide +kernel
theorem dX4_isLetter_12 : decode cX4_isLetter 12 = .ok (.iconst 1, 1) := by decide +kernel
theorem dX4_isLetter_13 : decode cX4_isLetter 13 = .ok (.goto 4, 3) := by decide +kernel
theorem dX4_isLetter_16 : decode cX4_isLetter 16 = .ok (.iconst 0, 1) := by decide +kernel
theorem dX4_isLetter_17 : decode cX4_isLetter 17 = .ok (.ireturn, 1) := by decide +kernel
theorem dX4_isDigit_0 : decode cX4_isDigit 0 = .ok (.iload_n 0, 1) := by decide +kernel
theorem dX4_isDigit_1 : decode cX4_isDigit 1 = .ok (.bipush 48, 2) := by decide +kernel
theorem dX4_isDigit_3 : decode cX4_isDigit 3 = .ok (.if_icmp .lt 13, 3) := by decide +kernel
theorem dX4_isDigit_6 : decode cX4_isDigit 6 = .ok (.iload_n 0, 1) := by decide +kernel
theorem dX4_isDigit_7 : decode cX4_isDigit 7 = .ok (.bipush 57, 2) := by decide +kernel
theorem dX4_isDigit_9 : decode cX4_isDigit 9 = .ok (.if_icmp .gt 7, 3) := by decide +kernel
theorem dX4_isDigit_12 : decode cX4_isDigit 12 = .ok (.iconst 1, 1) := by decide +kernel
theorem dX4_isDigit_13 : decode cX4_isDigit 13 = .ok (.goto 4, 3) := by decide +kernel
theorem dX4_isDigit_16 : decode cX4_isDigit 16 = .ok (.iconst 0, 1) := by decide +kernel
theorem dX4_isDigit_17 : decode cX4_isDigit 17 = .ok (.ireturn, 1) := by decide +kernel
theorem dX5_init_0 : decode cX5_init 0 = .ok (.aload_n 0, 1) := by decide +kernel
theorem dX5_init_1 : decode cX5_init 1 = .ok (.invokespecial 3, 3) := by decide +kernel
theorem dX5_init_4 : decode cX5_init 4 = .ok (.aload_n 0, 1) := by decide +kernel
theorem dX5_init_5 : decode cX5_init 5 = .ok (.bipush 40, 2) := by decide +kernel
theorem dX5_init_7 : decode cX5_init 7 = .ok (.newarray .int, 2) := by decide +kernel
theorem dX5_init_9 : decode cX5_init 9 = .ok (.putfield 9, 3) := by decide +kernel
theorem dX5_init_12 : decode cX5_init 12 = .ok (.aload_n 0, 1) := by decide +kernel
theorem dX5_init_13 : decode cX5_init 13 = .ok (.iconst (-1), 1) := by decide +kernel
theorem dX5_init_14 : decode cX5_init 14 = .ok (.putfield 15, 3) := by decide +kernel
theorem dX5_init_17 : decode cX5_init 17 = .ok (.aload_n 0, 1) := by decide +kernel
theorem dX5_init_18 : decode cX5_init 18 = .ok (.iconst 0, 1) := by decide +kernel
theorem dX5_init_19 : decode cX5_init 19 = .ok (.putfield 19, 3) := by decide +kernel
theorem dX5_init_22 : decode cX5_init 22 = .ok (.return_, 1) := by decide +kernel
theorem dX5_isMissing_0 : decode cX5_isMissing 0 = .ok (.aload_n 0, 1) := by decide +kernel
theorem dX5_isMissing_1 : decode cX5_isMissing 1 = .ok (.getfield 15, 3) := by decide +kernel
theorem dX5_isMissing_4 : decode cX5_isMissing 4 = .ok (.iconst (-1), 1) := by decide +kernel
theorem dX5_isMissing_5 : decode cX5_isMissing 5 = .ok (.if_icmp .ne 7, 3) := by decide +kernel
theorem dX5_isMissing_8 : decode cX5_isMissing 8 = .ok (.iconst 1, 1) := by decide +kernel
theorem dX5_isMissing_9 : decode cX5_isMissing 9 = .ok (.goto 4, 3) := by decide +kernel
theorem dX5_isMissing_12 : decode cX5_isMissing 12 = .ok (.iconst 0, 1) := by decide +kernel
theorem dX5_isMissing_13 : decode cX5_isMissing 13 = .ok (.ireturn, 1) := by decide +kernel
theorem dX5_becomeRow_0 : decode cX5_becomeRow 0 = .ok (.aload_n 0, 1) := by decide +kernel
theorem dX5_becomeRow_1 : decode cX5_becomeRow 1 = .ok (.iload_n 1, 1) := by decide +kernel
theorem dX5_becomeRow_2 : decode cX5_becomeRow 2 = .ok (.putfield 15, 3) := by decide +kernel
theorem dX5_becomeRow_5 : decode cX5_becomeRow 5 = .ok (.aload_n 0, 1) := by decide +kernel
theorem dX5_becomeRow_6 : decode cX5_becomeRow 6 = .ok (.iload_n 2, 1) := by decide +kernel
theorem dX5_becomeRow_7 : decode cX5_becomeRow 7 = .ok (.putfield 19, 3) := by decide +kernel
theorem dX5_becomeRow_10 : decode cX5_becomeRow 10 = .ok (.iconst 0, 1) := by decide +kernel
theorem dX5_becomeRow_11 : decode cX5_becomeRow 11 = .ok (.istore_n 3, 1) := by decide +kernel
theorem dX5_becomeRow_12 : decode cX5_becomeRow 12 = .ok (.iload_n 3, 1) := by decide +kernel
theorem dX5_becomeRow_13 : decode cX5_becomeRow 13 = .ok (.bipush 40, 2) := by decide +kernel
theorem dX5_becomeRow_15 : decode cX5_becomeRow 15 = .ok (.if_icmp .ge 16, 3) := by decide +kernel
theorem dX5_becomeRow_18 : decode cX5_becomeRow 18 = .ok (.aload_n 0, 1) := by decide +kernel
theorem dX5_becomeRow_19 : decode cX5_becomeRow 19 = .ok (.getfield 9, 3) := by decide +kernel
theorem dX5_becomeRow_22 : decode cX5_becomeRow 22 = .ok (.iload_n 3, 1) := by decide +kernel
theorem dX5_becomeRow_23 : decode cX5_becomeRow 23 = .ok (.iconst 0, 1) := by decide +kernel
theorem dX5_becomeRow_24 : decode cX5_becomeRow 24 = .ok (.iastore, 1) := by decide +kernel
theorem dX5_becomeRow_25 : decode cX5_becomeRow 25 = .ok (.iinc 3 1, 3) := by decide +kernel
theorem dX5_becomeRow_28 : decode cX5_becomeRow 28 = .ok (.goto (-16), 3) := by decide +kernel
theorem dX5_becomeRow_31 : decode cX5_becomeRow 31 = .ok (.return_, 1) := by decide +kernel
theorem dX5_holds_0 : decode cX5_holds 0 = .ok (.iload_n 2, 1) := by decide +kernel
theorem dX5_holds_1 : decode cX5_holds 1 = .ok (.ifCond .lt 29, 3) := by decide +kernel
theorem dX5_holds_4 : decode cX5_holds 4 = .ok (.iload_n 1, 1) := by decide +kernel
theorem dX5_holds_5 : decode cX5_holds 5 = .ok (.ifCond .lt 25, 3) := by decide +kernel
theorem dX5_holds_8 : decode cX5_holds 8 = .ok (.iload_n 2, 1) := by decide +kernel
theorem dX5_holds_9 : decode cX5_holds 9 = .ok (.aload_n 0, 1) := by decide +kernel
theorem dX5_holds_10 : decode cX5_holds 10 = .ok (.getfield 19, 3) := by decide +kernel
theorem dX5_holds_13 : decode cX5_holds 13 = .ok (.if_icmp .gt 17, 3) := by decide +kernel
theorem dX5_holds_16 : decode cX5_holds 16 = .ok (.iload_n 1, 1) := by decide +kernel
theorem dX5_holds_17 : decode cX5_holds 17 = .ok (.aload_n 0, 1) := by decide +kernel
theorem dX5_holds_18 : decode cX5_holds 18 = .ok (.getfield 19, 3) := by decide +kernel
theorem dX5_holds_21 : decode cX5_holds 21 = .ok (.iload_n 2, 1) := by decide +kernel
theorem dX5_holds_22 : decode cX5_holds 22 = .ok (.isub, 1) := by decide +kernel
theorem dX5_holds_23 : decode cX5_holds 23 = .ok (.if_icmp .gt 7, 3) := by decide +kernel
theorem dX5_holds_26 : decode cX5_holds 26 = .ok (.iconst 1, 1) := by decide +kernel
theorem dX5_holds_27 : decode cX5_holds 27 = .ok (.goto 4, 3) := by decide +kernel
theorem dX5_holds_30 : decode cX5_holds 30 = .ok (.iconst 0, 1) := by decide +kernel
theorem dX5_holds_31 : decode cX5_holds 31 = .ok (.ireturn, 1) := by decide +kernel
theorem dX5_put_0 : decode cX5_put 0 = .ok (.aload_n 0, 1) := by decide +kernel
theorem dX5_put_1 : decode cX5_put 1 = .ok (.getfield 15, 3) := by decide +kernel
theorem dX5_put_4 : decode cX5_put 4 = .ok (.ifCond .ne 14, 3) := by decide +kernel
theorem dX5_put_7 : decode cX5_put 7 = .ok (.aload_n 0, 1) := by decide +kernel
theorem dX5_put_8 : decode cX5_put 8 = .ok (.getfield 9, 3) := by decide +kernel
theorem dX5_put_11 : decode cX5_put 11 = .ok (.iload_n 1, 1) := by decide +kernel
theorem dX5_put_12 : decode cX5_put 12 = .ok (.iload_n 2, 1) := by decide +kernel
theorem dX5_put_13 : decode cX5_put 13 = .ok (.i2b, 1) := by decide +kernel
theorem dX5_put_14 : decode cX5_put 14 = .ok (.iastore, 1) := by decide +kernel
theorem dX5_put_15 : decode cX5_put 15 = .ok (.goto 29, 3) := by decide +kernel
theorem dX5_put_18 : decode cX5_put 18 = .ok (.aload_n 0, 1) := by decide +kernel
theorem dX5_put_19 : decode cX5_put 19 = .ok (.getfield 15, 3) := by decide +kernel
theorem dX5_put_22 : decode cX5_put 22 = .ok (.iconst 1, 1) := by decide +kernel
theorem dX5_put_23 : decode cX5_put 23 = .ok (.if_icmp .ne 14, 3) := by decide +kernel
theorem dX5_put_26 : decode cX5_put 26 = .ok (.aload_n 0, 1) := by decide +kernel
theorem dX5_put_27 : decode cX5_put 27 = .ok (.getfield 9, 3) := by decide +kernel
theorem dX5_put_30 : decode cX5_put 30 = .ok (.iload_n 1, 1) := by decide +kernel
theorem dX5_put_31 : decode cX5_put 31 = .ok (.iload_n 2, 1) := by decide +kernel
theorem dX5_put_32 : decode cX5_put 32 = .ok (.i2s, 1) := by decide +kernel
theorem dX5_put_33 : decode cX5_put 33 = .ok (.iastore, 1) := by decide +kernel
theorem dX5_put_34 : decode cX5_put 34 = .ok (.goto 10, 3) := by decide +kernel
theorem dX5_put_37 : decode cX5_put 37 = .ok (.aload_n 0, 1) := by decide +kernel
theorem dX5_put_38 : decode cX5_put 38 = .ok (.getfield 9, 3) := by decide +kernel
theorem dX5_put_41 : decode cX5_put 41 = .ok (.iload_n 1, 1) := by decide +kernel
theorem dX5_put_42 : decode cX5_put 42 = .ok (.iload_n 2, 1) := by decide +kernel
theorem dX5_put_43 : decode cX5_put 43 = .ok (.iastore, 1) := by decide +kernel
theorem dX5_put_44 : decode cX5_put 44 = .ok (.return_, 1) := by decide +kernel
theorem dX6_init_0 : decode cX6_init 0 = .ok (.aload_n 0, 1) := by decide +kernel
theorem dX6_init_1 : decode cX6_init 1 = .ok (.invokespecial 3, 3) := by decide +kernel
theorem dX6_init_4 : decode cX6_init 4 = .ok (.aload_n 0, 1) := by decide +kernel
theorem dX6_init_5 : decode cX6_init 5 = .ok (.bipush 6, 2) := by decide +kernel
theorem dX6_init_7 : decode cX6_init 7 = .ok (.sipush 160, 3) := by decide +kernel
theorem dX6_init_10 : decode cX6_init 10 = .ok (.multianewarray 9 2, 4) := by decide +kernel
theorem dX6_init_14 : decode cX6_init 14 = .ok (.putfield 11, 3) := by decide +kernel
theorem dX6_init_17 : decode cX6_init 17 = .ok (.aload_n 0, 1) := by decide +kernel
theorem dX6_init_18 : decode cX6_init 18 = .ok (.bipush 6, 2) := by decide +kernel
theorem dX6_init_20 : decode cX6_init 20 = .ok (.iconst 4, 1) := by decide +kernel
theorem dX6_init_21 : decode cX6_init 21 = .ok (.multianewarray 9 2, 4) := by decide +kernel
theorem dX6_init_25 : decode cX6_init 25 = .ok (.putfield 16, 3) := by decide +kernel
theorem dX6_init_28 : decode cX6_init 28 = .ok (.aload_n 0, 1) := by decide +kernel
theorem dX6_init_29 : decode cX6_init 29 = .ok (.bipush 6, 2) := by decide +kernel
theorem dX6_init_31 : decode cX6_init 31 = .ok (.newarray .int, 2) := by decide +kernel
theorem dX6_init_33 : decode cX6_init 33 = .ok (.putfield 19, 3) := by decide +kernel
theorem dX6_init_36 : decode cX6_init 36 = .ok (.aload_n 0, 1) := by decide +kernel
theorem dX6_init_37 : decode cX6_init 37 = .ok (.sipush 160, 3) := by decide +kernel
theorem dX6_init_40 : decode cX6_init 40 = .ok (.newarray .int, 2) := by decide +kernel
theorem dX6_init_42 : decode cX6_init 42 = .ok (.putfield 23, 3) := by decide +kernel
theorem dX6_init_45 : decode cX6_init 45 = .ok (.aload_n 0, 1) := by decide +kernel
theorem dX6_init_46 : decode cX6_init 46 = .ok (.iconst 0, 1) := by decide +kernel
theorem dX6_init_47 : decode cX6_init 47 = .ok (.putfield 26, 3) := by decide +kernel
theorem dX6_init_50 : decode cX6_init 50 = .ok (.return_, 1) := by decide +kernel
theorem dX6_keep_0 : decode cX6_keep 0 = .ok (.aload_n 0, 1) := by decide +kernel
theorem dX6_keep_1 : decode cX6_keep 1 = .ok (.getfield 26, 3) := by decide +kernel
theorem dX6_keep_4 : decode cX6_keep 4 = .ok (.bipush 6, 2) := by decide +kernel
theorem dX6_keep_6 : decode cX6_keep 6 = .ok (.if_icmp .lt 6, 3) := by decide +kernel
theorem dX6_keep_9 : decode cX6_keep 9 = .ok (.bipush (-4), 2) := by decide +kernel
theorem dX6_keep_11 : decode cX6_keep 11 = .ok (.ireturn, 1) := by decide +kernel
theorem dX6_keep_12 : decode cX6_keep 12 = .ok (.aload_n 1, 1) := by decide +kernel
theorem dX6_keep_13 : decode cX6_keep 13 = .ok (.getfield 30, 3) := by decide +kernel
theorem dX6_keep_16 : decode cX6_keep 16 = .ok (.iconst 0, 1) := by decide +kernel
theorem dX6_keep_17 : decode cX6_keep 17 = .ok (.aload_n 0, 1) := by decide +kernel
theorem dX6_keep_18 : decode cX6_keep 18 = .ok (.getfield 11, 3) := by decide +kernel
theorem dX6_keep_21 : decode cX6_keep 21 = .ok (.aload_n 0, 1) := by decide +kernel
theorem dX6_keep_22 : decode cX6_keep 22 = .ok (.getfield 26, 3) := by decide +kernel
theorem dX6_keep_25 : decode cX6_keep 25 = .ok (.aaload, 1) := by decide +kernel
theorem dX6_keep_26 : decode cX6_keep 26 = .ok (.iconst 0, 1) := by decide +kernel
theorem dX6_keep_27 : decode cX6_keep 27 = .ok (.sipush 160, 3) := by decide +kernel
theorem dX6_keep_30 : decode cX6_keep 30 = .ok (.invokestatic 34, 3) := by decide +kernel
theorem dX6_keep_33 : decode cX6_keep 33 = .ok (.aload_n 1, 1) := by decide +kernel
theorem dX6_keep_34 : decode cX6_keep 34 = .ok (.getfield 40, 3) := by decide +kernel
theorem dX6_keep_37 : decode cX6_keep 37 = .ok (.iconst 0, 1) := by decide +kernel
theorem dX6_keep_38 : decode cX6_keep 38 = .ok (.aload_n 0, 1) := by decide +kernel
theorem dX6_keep_39 : decode cX6_keep 39 = .ok (.getfield 16, 3) := by decide +kernel
theorem dX6_keep_42 : decode cX6_keep 42 = .ok (.aload_n 0, 1) := by decide +kernel
theorem dX6_keep_43 : decode cX6_keep 43 = .ok (.getfield 26, 3) := by decide +kernel
theorem dX6_keep_46 : decode cX6_keep 46 = .ok (.aaload, 1) := by decide +kernel
theorem dX6_keep_47 : decode cX6_keep 47 = .ok (.iconst 0, 1) := by decide +kernel
theorem dX6_keep_48 : decode cX6_keep 48 = .ok (.iconst 4, 1) := by decide +kernel
theorem dX6_keep_49 : decode cX6_keep 49 = .ok (.invokestatic 34, 3) := by decide +kernel
theorem dX6_keep_52 : decode cX6_keep 52 = .ok (.aload_n 0, 1) := by decide +kernel
theorem dX6_keep_53 : decode cX6_keep 53 = .ok (.dup, 1) := by decide +kernel
theorem dX6_keep_54 : decode cX6_keep 54 = .ok (.getfield 26, 3) := by decide +kernel
theorem dX6_keep_57 : decode cX6_keep 57 = .ok (.iconst 1, 1) := by decide +kernel
theorem dX6_keep_58 : decode cX6_keep 58 = .ok (.iadd, 1) := by decide +kernel
theorem dX6_keep_59 : decode cX6_keep 59 = .ok (.putfield 26, 3) := by decide +kernel
theorem dX6_keep_62 : decode cX6_keep 62 = .ok (.aload_n 0, 1) := by decide +kernel
theorem dX6_keep_63 : decode cX6_keep 63 = .ok (.getfield 26, 3) := by decide +kernel
theorem dX6_keep_66 : decode cX6_keep 66 = .ok (.iconst 1, 1) := by decide +kernel
theorem dX6_keep_67 : decode cX6_keep 67 = .ok (.isub, 1) := by decide +kernel
theorem dX6_keep_68 : decode cX6_keep 68 = .ok (.ireturn, 1) := by decide +kernel
theorem dX6_mean_0 : decode cX6_mean 0 = .ok (.aload_n 0, 1) := by decide +kernel
theorem dX6_mean_1 : decode cX6_mean 1 = .ok (.getfield 19, 3) := by decide +kernel
theorem dX6_mean_4 : decode cX6_mean 4 = .ok (.iconst 0, 1) := by decide +kernel
theorem dX6_mean_5 : decode cX6_mean 5 = .ok (.iload_n 1, 1) := by decide +kernel
theorem dX6_mean_6 : decode cX6_mean 6 = .ok (.iastore, 1) := by decide +kernel
theorem dX6_mean_7 : decode cX6_mean 7 = .ok (.aload_n 0, 1) := by decide +kernel
theorem dX6_mean_8 : decode cX6_mean 8 = .ok (.getfield 19, 3) := by decide +kernel
theorem dX6_mean_11 : decode cX6_mean 11 = .ok (.iconst 1, 1) := by decide +kernel
theorem dX6_mean_12 : decode cX6_mean 12 = .ok (.iload_n 2, 1) := by decide +kernel
theorem dX6_mean_13 : decode cX6_mean 13 = .ok (.iastore, 1) := by decide +kernel
theorem dX6_mean_14 : decode cX6_mean 14 = .ok (.aload_n 0, 1) := by decide +kernel
theorem dX6_mean_15 : decode cX6_mean 15 = .ok (.getfield 19, 3) := by decide +kernel
theorem dX6_mean_18 : decode cX6_mean 18 = .ok (.iconst 2, 1) := by decide +kernel
theorem dX6_mean_19 : decode cX6_mean 19 = .ok (.iload_n 3, 1) := by decide +kernel
theorem dX6_mean_20 : decode cX6_mean 20 = .ok (.iastore, 1) := by decide +kernel
theorem dX6_mean_21 : decode cX6_mean 21 = .ok (.aload_n 0, 1) := by decide +kernel
theorem dX6_mean_22 : decode cX6_mean 22 = .ok (.getfield 19, 3) := by decide +kernel
theorem dX6_mean_25 : decode cX6_mean 25 = .ok (.iconst 3, 1) := by decide +kernel
theorem dX6_mean_26 : decode cX6_mean 26 = .ok (.iload 4, 2) := by decide +kernel
theorem dX6_mean_28 : decode cX6_mean 28 = .ok (.iastore, 1) := by decide +kernel
theorem dX6_mean_29 : decode cX6_mean 29 = .ok (.aload_n 0, 1) := by decide +kernel
theorem dX6_mean_30 : decode cX6_mean 30 = .ok (.getfield 19, 3) := by decide +kernel
theorem dX6_mean_33 : decode cX6_mean 33 = .ok (.iconst 4, 1) := by decide +kernel
theorem dX6_mean_34 : decode cX6_mean 34 = .ok (.iload 5, 2) := by decide +kernel
theorem dX6_mean_36 : decode cX6_mean 36 = .ok (.iastore, 1) := by decide +kernel
theorem dX6_mean_37 : decode cX6_mean 37 = .ok (.aload_n 0, 1) := by decide +kernel
theorem dX6_mean_38 : decode cX6_mean 38 = .ok (.getfield 19, 3) := by decide +kernel
theorem dX6_mean_41 : decode cX6_mean 41 = .ok (.iconst 5, 1) := by decide +kernel
theorem dX6_mean_42 : decode cX6_mean 42 = .ok (.iload 6, 2) := by decide +kernel
theorem dX6_mean_44 : decode cX6_mean 44 = .ok (.iastore, 1) := by decide +kernel
theorem dX6_mean_45 : decode cX6_mean 45 = .ok (.return_, 1) := by decide +kernel
theorem dX6_worth_0 : decode cX6_worth 0 = .ok (.aload_n 0, 1) := by decide +kernel
theorem dX6_worth_1 : decode cX6_worth 1 = .ok (.getfield 11, 3) := by decide +kernel
theorem dX6_worth_4 : decode cX6_worth 4 = .ok (.iload_n 1, 1) := by decide +kernel
theorem dX6_worth_5 : decode cX6_worth 5 = .ok (.aaload, 1) := by decide +kernel
theorem dX6_worth_6 : decode cX6_worth 6 = .ok (.astore_n 3, 1) := by decide +kernel
theorem dX6_worth_7 : decode cX6_worth 7 = .ok (.iconst (-1), 1) := by decide +kernel
theorem dX6_worth_8 : decode cX6_worth 8 = .ok (.istore 4, 2) := by decide +kernel
theorem dX6_worth_10 : decode cX6_worth 10 = .ok (.aload_n 0, 1) := by decide +kernel
theorem dX6_worth_11 : decode cX6_worth 11 = .ok (.getfield 16, 3) := by decide +kernel
theorem dX6_worth_14 : decode cX6_worth 14 = .ok (.iload_n 1, 1) := by decide +kernel
theorem dX6_worth_15 : decode cX6_worth 15 = .ok (.aaload, 1) := by decide +kernel
theorem dX6_worth_16 : decode cX6_worth 16 = .ok (.iload_n 2, 1) := by decide +kernel
theorem dX6_worth_17 : decode cX6_worth 17 = .ok (.iconst 1, 1) := by decide +kernel
theorem dX6_worth_18 : decode cX6_worth 18 = .ok (.iadd, 1) := by decide +kernel
theorem dX6_worth_19 : decode cX6_worth 19 = .ok (.iaload, 1) := by decide +kernel
theorem dX6_worth_20 : decode cX6_worth 20 = .ok (.istore 5, 2) := by decide +kernel
theorem dX6_worth_22 : decode cX6_worth 22 = .ok (.aload_n 0, 1) := by decide +kernel
theorem dX6_worth_23 : decode cX6_worth 23 = .ok (.getfield 16, 3) := by decide +kernel
theorem dX6_worth_26 : decode cX6_worth 26 = .ok (.iload_n 1, 1) := by decide +kernel
theorem dX6_worth_27 : decode cX6_worth 27 = .ok (.aaload, 1) := by decide +kernel
theorem dX6_worth_28 : decode cX6_worth 28 = .ok (.iload_n 2, 1) := by decide +kernel
theorem dX6_worth_29 : decode cX6_worth 29 = .ok (.iaload, 1) := by decide +kernel
theorem dX6_worth_30 : decode cX6_worth 30 = .ok (.istore 6, 2) := by decide +kernel
theorem dX6_worth_32 : decode cX6_worth 32 = .ok (.iload 6, 2) := by decide +kernel
theorem dX6_worth_34 : decode cX6_worth 34 = .ok (.iload 5, 2) := by decide +kernel
theorem dX6_worth_36 : decode cX6_worth 36 = .ok (.if_icmp .ge 168, 3) := by decide +kernel
theorem dX6_worth_39 : decode cX6_worth 39 = .ok (.aload_n 3, 1) := by decide +kernel
theorem dX6_worth_40 : decode cX6_worth 40 = .ok (.iload 6, 2) := by decide +kernel
theorem dX6_worth_42 : decode cX6_worth 42 = .ok (.iaload, 1) := by decide +kernel
theorem dX6_worth_43 : decode cX6_worth 43 = .ok (.istore 7, 2) := by decide +kernel
theorem dX6_worth_45 : decode cX6_worth 45 = .ok (.iload 7, 2) := by decide +kernel
theorem dX6_worth_47 : decode cX6_worth 47 = .ok (.bipush (-6), 2) := by decide +kernel
theorem dX6_worth_49 : decode cX6_worth 49 = .ok (.if_icmp .lt 45, 3) := by decide +kernel
theorem dX6_worth_52 : decode cX6_worth 52 = .ok (.iload 4, 2) := by decide +kernel
theorem dX6_worth_54 : decode cX6_worth 54 = .ok (.iconst 1, 1) := by decide +kernel
theorem dX6_worth_55 : decode cX6_worth 55 = .ok (.iadd, 1) := by decide +kernel
theorem dX6_worth_56 : decode cX6_worth 56 = .ok (.sipush 160, 3) := by decide +kernel
theorem dX6_worth_59 : decode cX6_worth 59 = .ok (.if_icmp .ge 35, 3) := by decide +kernel
theorem dX6_worth_62 : decode cX6_worth 62 = .ok (.iinc 4 1, 3) := by decide +kernel
theorem dX6_worth_65 : decode cX6_worth 65 = .ok (.aload_n 0, 1) := by decide +kernel
theorem dX6_worth_66 : decode cX6_worth 66 = .ok (.getfield 23, 3) := by decide +kernel
theorem dX6_worth_69 : decode cX6_worth 69 = .ok (.iload 4, 2) := by decide +kernel
theorem dX6_worth_71 : decode cX6_worth 71 = .ok (.iload 7, 2) := by decide +kernel
theorem dX6_worth_73 : decode cX6_worth 73 = .ok (.ifCond .lt 8, 3) := by decide +kernel
theorem dX6_worth_76 : decode cX6_worth 76 = .ok (.iload 7, 2) := by decide +kernel
theorem dX6_worth_78 : decode cX6_worth 78 = .ok (.goto 12, 3) := by decide +kernel
theorem dX6_worth_81 : decode cX6_worth 81 = .ok (.aload_n 0, 1) := by decide +kernel
theorem dX6_worth_82 : decode cX6_worth 82 = .ok (.getfield 19, 3) := by decide +kernel
theorem dX6_worth_85 : decode cX6_worth 85 = .ok (.iconst (-1), 1) := by decide +kernel
theorem dX6_worth_86 : decode cX6_worth 86 = .ok (.iload 7, 2) := by decide +kernel
theorem dX6_worth_88 : decode cX6_worth 88 = .ok (.isub, 1) := by decide +kernel
theorem dX6_worth_89 : decode cX6_worth 89 = .ok (.iaload, 1) := by decide +kernel
theorem dX6_worth_90 : decode cX6_worth 90 = .ok (.iastore, 1) := by decide +kernel
theorem dX6_worth_91 : decode cX6_worth 91 = .ok (.goto 107, 3) := by decide +kernel
theorem dX6_worth_94 : decode cX6_worth 94 = .ok (.iload 7, 2) := by decide +kernel
theorem dX6_worth_96 : decode cX6_worth 96 = .ok (.bipush (-7), 2) := by decide +kernel
theorem dX6_worth_98 : decode cX6_worth 98 = .ok (.if_icmp .ne 26, 3) := by decide +kernel
theorem dX6_worth_101 : decode cX6_worth 101 = .ok (.iload 4, 2) := by decide +kernel
theorem dX6_worth_103 : decode cX6_worth 103 = .ok (.ifCond .lt 21, 3) := by decide +kernel
theorem dX6_worth_106 : decode cX6_worth 106 = .ok (.aload_n 0, 1) := by decide +kernel
theorem dX6_worth_107 : decode cX6_worth 107 = .ok (.getfield 23, 3) := by decide +kernel
theorem dX6_worth_110 : decode cX6_worth 110 = .ok (.iload 4, 2) := by decide +kernel
theorem dX6_worth_112 : decode cX6_worth 112 = .ok (.aload_n 0, 1) := by decide +kernel
theorem dX6_worth_113 : decode cX6_worth 113 = .ok (.getfield 23, 3) := by decide +kernel
theorem dX6_worth_116 : decode cX6_worth 116 = .ok (.iload 4, 2) := by decide +kernel
theorem dX6_worth_118 : decode cX6_worth 118 = .ok (.iaload, 1) := by decide +kernel
theorem dX6_worth_119 : decode cX6_worth 119 = .ok (.ineg, 1) := by decide +kernel
theorem dX6_worth_120 : decode cX6_worth 120 = .ok (.iastore, 1) := by decide +kernel
theorem dX6_worth_121 : decode cX6_worth 121 = .ok (.goto 77, 3) := by decide +kernel
theorem dX6_worth_124 : decode cX6_worth 124 = .ok (.iload 7, 2) := by decide +kernel
theorem dX6_worth_126 : decode cX6_worth 126 = .ok (.bipush (-8), 2) := by decide +kernel
theorem dX6_worth_128 : decode cX6_worth 128 = .ok (.if_icmp .ne 33, 3) := by decide +kernel
theorem dX6_worth_131 : decode cX6_worth 131 = .ok (.iload 4, 2) := by decide +kernel
theorem dX6_worth_133 : decode cX6_worth 133 = .ok (.ifCond .lt 28, 3) := by decide +kernel
theorem dX6_worth_136 : decode cX6_worth 136 = .ok (.aload_n 0, 1) := by decide +kernel
theorem dX6_worth_137 : decode cX6_worth 137 = .ok (.getfield 23, 3) := by decide +kernel
theorem dX6_worth_140 : decode cX6_worth 140 = .ok (.iload 4, 2) := by decide +kernel
theorem dX6_worth_142 : decode cX6_worth 142 = .ok (.aload_n 0, 1) := by decide +kernel
theorem dX6_worth_143 : decode cX6_worth 143 = .ok (.getfield 23, 3) := by decide +kernel
theorem dX6_worth_146 : decode cX6_worth 146 = .ok (.iload 4, 2) := by decide +kernel
theorem dX6_worth_148 : decode cX6_worth 148 = .ok (.iaload, 1) := by decide +kernel
theorem dX6_worth_149 : decode cX6_worth 149 = .ok (.ifCond .ne 7, 3) := by decide +kernel
theorem dX6_worth_152 : decode cX6_worth 152 = .ok (.iconst 1, 1) := by decide +kernel
theorem dX6_worth_153 : decode cX6_worth 153 = .ok (.goto 4, 3) := by decide +kernel
theorem dX6_worth_156 : decode cX6_worth 156 = .ok (.iconst 0, 1) := by decide +kernel
theorem dX6_worth_157 : decode cX6_worth 157 = .ok (.iastore, 1) := by decide +kernel
theorem dX6_worth_158 : decode cX6_worth 158 = .ok (.goto 40, 3) := by decide +kernel
theorem dX6_worth_161 : decode cX6_worth 161 = .ok (.iload 4, 2) := by decide +kernel
theorem dX6_worth_163 : decode cX6_worth 163 = .ok (.iconst 1, 1) := by decide +kernel
theorem dX6_worth_164 : decode cX6_worth 164 = .ok (.if_icmp .lt 34, 3) := by decide +kernel
theorem dX6_worth_167 : decode cX6_worth 167 = .ok (.iinc 4 (-1), 3) := by decide +kernel
theorem dX6_worth_170 : decode cX6_worth 170 = .ok (.aload_n 0, 1) := by decide +kernel
theorem dX6_worth_171 : decode cX6_worth 171 = .ok (.getfield 23, 3) := by decide +kernel
theorem dX6_worth_174 : decode cX6_worth 174 = .ok (.iload 4, 2) := by decide +kernel
theorem dX6_worth_176 : decode cX6_worth 176 = .ok (.iload 7, 2) := by decide +kernel
theorem dX6_worth_178 : decode cX6_worth 178 = .ok (.aload_n 0, 1) := by decide +kernel
theorem dX6_worth_179 : decode cX6_worth 179 = .ok (.getfield 23, 3) := by decide +kernel
theorem dX6_worth_182 : decode cX6_worth 182 = .ok (.iload 4, 2) := by decide +kernel
theorem dX6_worth_184 : decode cX6_worth 184 = .ok (.iaload, 1) := by decide +kernel
theorem dX6_worth_185 : decode cX6_worth 185 = .ok (.aload_n 0, 1) := by decide +kernel
theorem dX6_worth_186 : decode cX6_worth 186 = .ok (.getfield 23, 3) := by decide +kernel
theorem dX6_worth_189 : decode cX6_worth 189 = .ok (.iload 4, 2) := by decide +kernel
theorem dX6_worth_191 : decode cX6_worth 191 = .ok (.iconst 1, 1) := by decide +kernel
theorem dX6_worth_192 : decode cX6_worth 192 = .ok (.iadd, 1) := by decide +kernel
theorem dX6_worth_193 : decode cX6_worth 193 = .ok (.iaload, 1) := by decide +kernel
theorem dX6_worth_194 : decode cX6_worth 194 = .ok (.invokestatic 42, 3) := by decide +kernel
theorem dX6_worth_197 : decode cX6_worth 197 = .ok (.iastore, 1) := by decide +kernel
theorem dX6_worth_198 : decode cX6_worth 198 = .ok (.iinc 6 1, 3) := by decide +kernel
theorem dX6_worth_201 : decode cX6_worth 201 = .ok (.goto (-169), 3) := by decide +kernel
theorem dX6_worth_204 : decode cX6_worth 204 = .ok (.aload_n 0, 1) := by decide +kernel
theorem dX6_worth_205 : decode cX6_worth 205 = .ok (.getfield 23, 3) := by decide +kernel
theorem dX6_worth_208 : decode cX6_worth 208 = .ok (.iconst 0, 1) := by decide +kernel
theorem dX6_worth_209 : decode cX6_worth 209 = .ok (.iaload, 1) := by decide +kernel
theorem dX6_worth_210 : decode cX6_worth 210 = .ok (.ireturn, 1) := by decide +kernel
theorem dX6_joined_0 : decode cX6_joined 0 = .ok (.iload_n 0, 1) := by decide +kernel
theorem dX6_joined_1 : decode cX6_joined 1 = .ok (.tableswitch 97 (-14) (-9) #[93, 89, 78, 67, 53, 39], 39) := by decide +kernel
theorem dX6_joined_40 : decode cX6_joined 40 = .ok (.iload_n 1, 1) := by decide +kernel
theorem dX6_joined_41 : decode cX6_joined 41 = .ok (.ifCond .ne 7, 3) := by decide +kernel
theorem dX6_joined_44 : decode cX6_joined 44 = .ok (.iload_n 2, 1) := by decide +kernel
theorem dX6_joined_45 : decode cX6_joined 45 = .ok (.ifCond .eq 7, 3) := by decide +kernel
theorem dX6_joined_48 : decode cX6_joined 48 = .ok (.iconst 1, 1) := by decide +kernel
theorem dX6_joined_49 : decode cX6_joined 49 = .ok (.goto 4, 3) := by decide +kernel
theorem dX6_joined_52 : decode cX6_joined 52 = .ok (.iconst 0, 1) := by decide +kernel
theorem dX6_joined_53 : decode cX6_joined 53 = .ok (.ireturn, 1) := by decide +kernel
theorem dX6_joined_54 : decode cX6_joined 54 = .ok (.iload_n 1, 1) := by decide +kernel
theorem dX6_joined_55 : decode cX6_joined 55 = .ok (.ifCond .eq 11, 3) := by decide +kernel
theorem dX6_joined_58 : decode cX6_joined 58 = .ok (.iload_n 2, 1) := by decide +kernel
theorem dX6_joined_59 : decode cX6_joined 59 = .ok (.ifCond .eq 7, 3) := by decide +kernel
theorem dX6_joined_62 : decode cX6_joined 62 = .ok (.iconst 1, 1) := by decide +kernel
theorem dX6_joined_63 : decode cX6_joined 63 = .ok (.goto 4, 3) := by decide +kernel
theorem dX6_joined_66 : decode cX6_joined 66 = .ok (.iconst 0, 1) := by decide +kernel
theorem dX6_joined_67 : decode cX6_joined 67 = .ok (.ireturn, 1) := by decide +kernel
theorem dX6_joined_68 : decode cX6_joined 68 = .ok (.iload_n 1, 1) := by decide +kernel
theorem dX6_joined_69 : decode cX6_joined 69 = .ok (.iload_n 2, 1) := by decide +kernel
theorem dX6_joined_70 : decode cX6_joined 70 = .ok (.if_icmp .ge 7, 3) := by decide +kernel
theorem dX6_joined_73 : decode cX6_joined 73 = .ok (.iconst 1, 1) := by decide +kernel
theorem dX6_joined_74 : decode cX6_joined 74 = .ok (.goto 4, 3) := by decide +kernel
theorem dX6_joined_77 : decode cX6_joined 77 = .ok (.iconst 0, 1) := by decide +kernel
theorem dX6_joined_78 : decode cX6_joined 78 = .ok (.ireturn, 1) := by decide +kernel
theorem dX6_joined_79 : decode cX6_joined 79 = .ok (.iload_n 1, 1) := by decide +kernel
theorem dX6_joined_80 : decode cX6_joined 80 = .ok (.iload_n 2, 1) := by decide +kernel
theorem dX6_joined_81 : decode cX6_joined 81 = .ok (.if_icmp .ne 7, 3) := by decide +kernel
theorem dX6_joined_84 : decode cX6_joined 84 = .ok (.iconst 1, 1) := by decide +kernel
theorem dX6_joined_85 : decode cX6_joined 85 = .ok (.goto 4, 3) := by decide +kernel
theorem dX6_joined_88 : decode cX6_joined 88 = .ok (.iconst 0, 1) := by decide +kernel
theorem dX6_joined_89 : decode cX6_joined 89 = .ok (.ireturn, 1) := by decide +kernel
theorem dX6_joined_90 : decode cX6_joined 90 = .ok (.iload_n 1, 1) := by decide +kernel
theorem dX6_joined_91 : decode cX6_joined 91 = .ok (.iload_n 2, 1) := by decide +kernel
theorem dX6_joined_92 : decode cX6_joined 92 = .ok (.iadd, 1) := by decide +kernel
theorem dX6_joined_93 : decode cX6_joined 93 = .ok (.ireturn, 1) := by decide +kernel
theorem dX6_joined_94 : decode cX6_joined 94 = .ok (.iload_n 1, 1) := by decide +kernel
theorem dX6_joined_95 : decode cX6_joined 95 = .ok (.iload_n 2, 1) := by decide +kernel
theorem dX6_joined_96 : decode cX6_joined 96 = .ok (.isub, 1) := by decide +kernel
theorem dX6_joined_97 : decode cX6_joined 97 = .ok (.ireturn, 1) := by decide +kernel
theorem dX6_joined_98 : decode cX6_joined 98 = .ok (.iload_n 1, 1) := by decide +kernel
theorem dX6_joined_99 : decode cX6_joined 99 = .ok (.iload_n 2, 1) := by decide +kernel
theorem dX6_joined_100 : decode cX6_joined 100 = .ok (.imul, 1) := by decide +kernel
theorem dX6_joined_101 : decode cX6_joined 101 = .ok (.ireturn, 1) := by decide +kernel
theorem dX7_init_0 : decode cX7_init 0 = .ok (.aload_n 0, 1) := by decide +kernel
theorem dX7_init_1 : decode cX7_init 1 = .ok (.invokespecial 1, 3) := by decide +kernel
theorem dX7_init_4 : decode cX7_init 4 = .ok (.aload_n 0, 1) := by decide +kernel
theorem dX7_init_5 : decode cX7_init 5 = .ok (.new 7, 3) := by decide +kernel
theorem dX7_init_8 : decode cX7_init 8 = .ok (.dup, 1) := by decide +kernel
theorem dX7_init_9 : decode cX7_init 9 = .ok (.invokespecial 9, 3) := by decide +kernel
theorem dX7_init_12 : decode cX7_init 12 = .ok (.putfield 10, 3) := by decide +kernel
theorem dX7_init_15 : decode cX7_init 15 = .ok (.aload_n 0, 1) := by decide +kernel
theorem dX7_init_16 : decode cX7_init 16 = .ok (.aload_n 0, 1) := by decide +kernel
theorem dX7_init_17 : decode cX7_init 17 = .ok (.getfield 10, 3) := by decide +kernel
theorem dX7_init_20 : decode cX7_init 20 = .ok (.getfield 16, 3) := by decide +kernel
theorem dX7_init_23 : decode cX7_init 23 = .ok (.putfield 20, 3) := by decide +kernel
theorem dX7_init_26 : decode cX7_init 26 = .ok (.aload_n 0, 1) := by decide +kernel
theorem dX7_init_27 : decode cX7_init 27 = .ok (.aload_n 0, 1) := by decide +kernel
theorem dX7_init_28 : decode cX7_init 28 = .ok (.getfield 10, 3) := by decide +kernel
theorem dX7_init_31 : decode cX7_init 31 = .ok (.getfield 21, 3) := by decide +kernel
theorem dX7_init_34 : decode cX7_init 34 = .ok (.putfield 25, 3) := by decide +kernel
theorem dX7_init_37 : decode cX7_init 37 = .ok (.aload_n 0, 1) := by decide +kernel
theorem dX7_init_38 : decode cX7_init 38 = .ok (.new 26, 3) := by decide +kernel
theorem dX7_init_41 : decode cX7_init 41 = .ok (.dup, 1) := by decide +kernel
theorem dX7_init_42 : decode cX7_init 42 = .ok (.invokespecial 28, 3) := by decide +kernel
theorem dX7_init_45 : decode cX7_init 45 = .ok (.putfield 29, 3) := by decide +kernel
theorem dX7_init_48 : decode cX7_init 48 = .ok (.aload_n 0, 1) := by decide +kernel
theorem dX7_init_49 : decode cX7_init 49 = .ok (.new 33, 3) := by decide +kernel
theorem dX7_init_52 : decode cX7_init 52 = .ok (.dup, 1) := by decide +kernel
theorem dX7_init_53 : decode cX7_init 53 = .ok (.invokespecial 35, 3) := by decide +kernel
theorem dX7_init_56 : decode cX7_init 56 = .ok (.putfield 36, 3) := by decide +kernel
theorem dX7_init_59 : decode cX7_init 59 = .ok (.aload_n 0, 1) := by decide +kernel
theorem dX7_init_60 : decode cX7_init 60 = .ok (.iconst 0, 1) := by decide +kernel
theorem dX7_init_61 : decode cX7_init 61 = .ok (.putfield 39, 3) := by decide +kernel
theorem dX7_init_64 : decode cX7_init 64 = .ok (.aload_n 0, 1) := by decide +kernel
theorem dX7_init_65 : decode cX7_init 65 = .ok (.new 43, 3) := by decide +kernel
theorem dX7_init_68 : decode cX7_init 68 = .ok (.dup, 1) := by decide +kernel
theorem dX7_init_69 : decode cX7_init 69 = .ok (.invokespecial 45, 3) := by decide +kernel
theorem dX7_init_72 : decode cX7_init 72 = .ok (.putfield 46, 3) := by decide +kernel
theorem dX7_init_75 : decode cX7_init 75 = .ok (.aload_n 0, 1) := by decide +kernel
theorem dX7_init_76 : decode cX7_init 76 = .ok (.iconst 4, 1) := by decide +kernel
theorem dX7_init_77 : decode cX7_init 77 = .ok (.anewarray 50, 3) := by decide +kernel
theorem dX7_init_80 : decode cX7_init 80 = .ok (.putfield 52, 3) := by decide +kernel
theorem dX7_init_83 : decode cX7_init 83 = .ok (.aload_n 0, 1) := by decide +kernel
theorem dX7_init_84 : decode cX7_init 84 = .ok (.bipush 8, 2) := by decide +kernel
theorem dX7_init_86 : decode cX7_init 86 = .ok (.newarray .int, 2) := by decide +kernel
theorem dX7_init_88 : decode cX7_init 88 = .ok (.putfield 56, 3) := by decide +kernel
theorem dX7_init_91 : decode cX7_init 91 = .ok (.iconst 0, 1) := by decide +kernel
theorem dX7_init_92 : decode cX7_init 92 = .ok (.istore_n 1, 1) := by decide +kernel
theorem dX7_init_93 : decode cX7_init 93 = .ok (.iload_n 1, 1) := by decide +kernel
theorem dX7_init_94 : decode cX7_init 94 = .ok (.iconst 4, 1) := by decide +kernel
theorem dX7_init_95 : decode cX7_init 95 = .ok (.if_icmp .ge 22, 3) := by decide +kernel
theorem dX7_init_98 : decode cX7_init 98 = .ok (.aload_n 0, 1) := by decide +kernel
theorem dX7_init_99 : decode cX7_init 99 = .ok (.getfield 52, 3) := by decide +kernel
theorem dX7_init_102 : decode cX7_init 102 = .ok (.iload_n 1, 1) := by decide +kernel
theorem dX7_init_103 : decode cX7_init 103 = .ok (.new 50, 3) := by decide +kernel
theorem dX7_init_106 : decode cX7_init 106 = .ok (.dup, 1) := by decide +kernel
theorem dX7_init_107 : decode cX7_init 107 = .ok (.invokespecial 60, 3) := by decide +kernel
theorem dX7_init_110 : decode cX7_init 110 = .ok (.aastore, 1) := by decide +kernel
theorem dX7_init_111 : decode cX7_init 111 = .ok (.iinc 1 1, 3) := by decide +kernel
theorem dX7_init_114 : decode cX7_init 114 = .ok (.goto (-21), 3) := by decide +kernel
theorem dX7_init_117 : decode cX7_init 117 = .ok (.iconst 0, 1) := by decide +kernel
theorem dX7_init_118 : decode cX7_init 118 = .ok (.istore_n 1, 1) := by decide +kernel
theorem dX7_init_119 : decode cX7_init 119 = .ok (.iload_n 1, 1) := by decide +kernel
theorem dX7_init_120 : decode cX7_init 120 = .ok (.ldc 61, 2) := by decide +kernel
theorem dX7_init_122 : decode cX7_init 122 = .ok (.invokevirtual 63, 3) := by decide +kernel
theorem dX7_init_125 : decode cX7_init 125 = .ok (.if_icmp .ge 23, 3) := by decide +kernel
theorem dX7_init_128 : decode cX7_init 128 = .ok (.aload_n 0, 1) := by decide +kernel
theorem dX7_init_129 : decode cX7_init 129 = .ok (.getfield 29, 3) := by decide +kernel
theorem dX7_init_132 : decode cX7_init 132 = .ok (.ldc 61, 2) := by decide +kernel
theorem dX7_init_134 : decode cX7_init 134 = .ok (.iload_n 1, 1) := by decide +kernel
theorem dX7_init_135 : decode cX7_init 135 = .ok (.invokevirtual 69, 3) := by decide +kernel
theorem dX7_init_138 : decode cX7_init 138 = .ok (.invokevirtual 73, 3) := by decide +kernel
theorem dX7_init_141 : decode cX7_init 141 = .ok (.pop, 1) := by decide +kernel
theorem dX7_init_142 : decode cX7_init 142 = .ok (.iinc 1 1, 3) := by decide +kernel
theorem dX7_init_145 : decode cX7_init 145 = .ok (.goto (-26), 3) := by decide +kernel
theorem dX7_init_148 : decode cX7_init 148 = .ok (.aload_n 0, 1) := by decide +kernel
theorem dX7_init_149 : decode cX7_init 149 = .ok (.getfield 29, 3) := by decide +kernel
theorem dX7_init_152 : decode cX7_init 152 = .ok (.invokevirtual 77, 3) := by decide +kernel
theorem dX7_init_155 : decode cX7_init 155 = .ok (.pop, 1) := by decide +kernel
theorem dX7_init_156 : decode cX7_init 156 = .ok (.aload_n 0, 1) := by decide +kernel
theorem dX7_init_157 : decode cX7_init 157 = .ok (.getfield 25, 3) := by decide +kernel
theorem dX7_init_160 : decode cX7_init 160 = .ok (.aload_n 0, 1) := by decide +kernel
theorem dX7_init_161 : decode cX7_init 161 = .ok (.getfield 29, 3) := by decide +kernel
theorem dX7_init_164 : decode cX7_init 164 = .ok (.invokevirtual 81, 3) := by decide +kernel
theorem dX7_init_167 : decode cX7_init 167 = .ok (.pop, 1) := by decide +kernel
theorem dX7_init_168 : decode cX7_init 168 = .ok (.return_, 1) := by decide +kernel
theorem dX7_set_0 : decode cX7_set 0 = .ok (.iload_n 1, 1) := by decide +kernel
theorem dX7_set_1 : decode cX7_set 1 = .ok (.iconst 4, 1) := by decide +kernel
theorem dX7_set_2 : decode cX7_set 2 = .ok (.if_icmp .gt 11, 3) := by decide +kernel
theorem dX7_set_5 : decode cX7_set 5 = .ok (.iload_n 1, 1) := by decide +kernel
theorem dX7_set_6 : decode cX7_set 6 = .ok (.iload_n 3, 1) := by decide +kernel
theorem dX7_set_7 : decode cX7_set 7 = .ok (.invokestatic 87, 3) := by decide +kernel
theorem dX7_set_10 : decode cX7_set 10 = .ok (.ifCond .ne 6, 3) := by decide +kernel
theorem dX7_set_13 : decode cX7_set 13 = .ok (.bipush (-100), 2) := by decide +kernel
theorem dX7_set_15 : decode cX7_set 15 = .ok (.ireturn, 1) := by decide +kernel
theorem dX7_set_16 : decode cX7_set 16 = .ok (.iload_n 1, 1) := by decide +kernel
theorem dX7_set_17 : decode cX7_set 17 = .ok (.ifCond .ne 23, 3) := by decide +kernel
theorem dX7_set_20 : decode cX7_set 20 = .ok (.aload_n 0, 1) := by decide +kernel
theorem dX7_set_21 : decode cX7_set 21 = .ok (.getfield 20, 3) := by decide +kernel
theorem dX7_set_24 : decode cX7_set 24 = .ok (.getfield 91, 3) := by decide +kernel
theorem dX7_set_27 : decode cX7_set 27 = .ok (.istore 4, 2) := by decide +kernel
theorem dX7_set_29 : decode cX7_set 29 = .ok (.aload_n 0, 1) := by decide +kernel
theorem dX7_set_30 : decode cX7_set 30 = .ok (.getfield 20, 3) := by decide +kernel
theorem dX7_set_33 : decode cX7_set 33 = .ok (.iload_n 3, 1) := by decide +kernel
theorem dX7_set_34 : decode cX7_set 34 = .ok (.putfield 91, 3) := by decide +kernel
theorem dX7_set_37 : decode cX7_set 37 = .ok (.iload 4, 2) := by decide +kernel
theorem dX7_set_39 : decode cX7_set 39 = .ok (.ireturn, 1) := by decide +kernel
theorem dX7_set_40 : decode cX7_set 40 = .ok (.aload_n 0, 1) := by decide +kernel
theorem dX7_set_41 : decode cX7_set 41 = .ok (.getfield 20, 3) := by decide +kernel
theorem dX7_set_44 : decode cX7_set 44 = .ok (.iload_n 2, 1) := by decide +kernel
theorem dX7_set_45 : decode cX7_set 45 = .ok (.invokevirtual 95, 3) := by decide +kernel
theorem dX7_set_48 : decode cX7_set 48 = .ok (.ifCond .ne 6, 3) := by decide +kernel
theorem dX7_set_51 : decode cX7_set 51 = .ok (.bipush (-100), 2) := by decide +kernel
theorem dX7_set_53 : decode cX7_set 53 = .ok (.ireturn, 1) := by decide +kernel
theorem dX7_set_54 : decode cX7_set 54 = .ok (.aload_n 0, 1) := by decide +kernel
theorem dX7_set_55 : decode cX7_set 55 = .ok (.getfield 20, 3) := by decide +kernel
theorem dX7_set_58 : decode cX7_set 58 = .ok (.getfield 98, 3) := by decide +kernel
theorem dX7_set_61 : decode cX7_set 61 = .ok (.iload_n 2, 1) := by decide +kernel
theorem dX7_set_62 : decode cX7_set 62 = .ok (.aaload, 1) := by decide +kernel
theorem dX7_set_63 : decode cX7_set 63 = .ok (.astore 4, 2) := by decide +kernel
theorem dX7_set_65 : decode cX7_set 65 = .ok (.aload 4, 2) := by decide +kernel
theorem dX7_set_67 : decode cX7_set 67 = .ok (.iload_n 1, 1) := by decide +kernel
theorem dX7_set_68 : decode cX7_set 68 = .ok (.invokevirtual 102, 3) := by decide +kernel
theorem dX7_set_71 : decode cX7_set 71 = .ok (.istore 5, 2) := by decide +kernel
theorem dX7_set_73 : decode cX7_set 73 = .ok (.aload 4, 2) := by decide +kernel
theorem dX7_set_75 : decode cX7_set 75 = .ok (.iload_n 1, 1) := by decide +kernel
theorem dX7_set_76 : decode cX7_set 76 = .ok (.iload_n 3, 1) := by decide +kernel
theorem dX7_set_77 : decode cX7_set 77 = .ok (.invokevirtual 108, 3) := by decide +kernel
theorem dX7_set_80 : decode cX7_set 80 = .ok (.iload 5, 2) := by decide +kernel
theorem dX7_set_82 : decode cX7_set 82 = .ok (.ireturn, 1) := by decide +kernel
theorem dX7_tenant_0 : decode cX7_tenant 0 = .ok (.iconst 5, 1) := by decide +kernel
theorem dX7_tenant_1 : decode cX7_tenant 1 = .ok (.iload_n 1, 1) := by decide +kernel
theorem dX7_tenant_2 : decode cX7_tenant 2 = .ok (.invokestatic 87, 3) := by decide +kernel
theorem dX7_tenant_5 : decode cX7_tenant 5 = .ok (.ifCond .eq 19, 3) := by decide +kernel
theorem dX7_tenant_8 : decode cX7_tenant 8 = .ok (.iconst 1, 1) := by decide +kernel
theorem dX7_tenant_9 : decode cX7_tenant 9 = .ok (.iload_n 2, 1) := by decide +kernel
theorem dX7_tenant_10 : decode cX7_tenant 10 = .ok (.invokestatic 87, 3) := by decide +kernel
theorem dX7_tenant_13 : decode cX7_tenant 13 = .ok (.ifCond .eq 11, 3) := by decide +kernel
theorem dX7_tenant_16 : decode cX7_tenant 16 = .ok (.iconst 2, 1) := by decide +kernel
theorem dX7_tenant_17 : decode cX7_tenant 17 = .ok (.iload_n 3, 1) := by decide +kernel
theorem dX7_tenant_18 : decode cX7_tenant 18 = .ok (.invokestatic 87, 3) := by decide +kernel
theorem dX7_tenant_21 : decode cX7_tenant 21 = .ok (.ifCond .ne 6, 3) := by decide +kernel
theorem dX7_tenant_24 : decode cX7_tenant 24 = .ok (.bipush (-2), 2) := by decide +kernel
theorem dX7_tenant_26 : decode cX7_tenant 26 = .ok (.ireturn, 1) := by decide +kernel
theorem dX7_tenant_27 : decode cX7_tenant 27 = .ok (.aload_n 0, 1) := by decide +kernel
theorem dX7_tenant_28 : decode cX7_tenant 28 = .ok (.getfield 20, 3) := by decide +kernel
theorem dX7_tenant_31 : decode cX7_tenant 31 = .ok (.getfield 112, 3) := by decide +kernel
theorem dX7_tenant_34 : decode cX7_tenant 34 = .ok (.bipush 8, 2) := by decide +kernel
theorem dX7_tenant_36 : decode cX7_tenant 36 = .ok (.if_icmp .lt 6, 3) := by decide +kernel
theorem dX7_tenant_39 : decode cX7_tenant 39 = .ok (.bipush (-4), 2) := by decide +kernel
theorem dX7_tenant_41 : decode cX7_tenant 41 = .ok (.ireturn, 1) := by decide +kernel
theorem dX7_tenant_42 : decode cX7_tenant 42 = .ok (.aload_n 0, 1) := by decide +kernel
theorem dX7_tenant_43 : decode cX7_tenant 43 = .ok (.getfield 20, 3) := by decide +kernel
theorem dX7_tenant_46 : decode cX7_tenant 46 = .ok (.getfield 112, 3) := by decide +kernel
theorem dX7_tenant_49 : decode cX7_tenant 49 = .ok (.istore 4, 2) := by decide +kernel
theorem dX7_tenant_51 : decode cX7_tenant 51 = .ok (.aload_n 0, 1) := by decide +kernel
theorem dX7_tenant_52 : decode cX7_tenant 52 = .ok (.getfield 20, 3) := by decide +kernel
theorem dX7_tenant_55 : decode cX7_tenant 55 = .ok (.getfield 98, 3) := by decide +kernel
theorem dX7_tenant_58 : decode cX7_tenant 58 = .ok (.iload 4, 2) := by decide +kernel
theorem dX7_tenant_60 : decode cX7_tenant 60 = .ok (.aaload, 1) := by decide +kernel
theorem dX7_tenant_61 : decode cX7_tenant 61 = .ok (.iload_n 1, 1) := by decide +kernel
theorem dX7_tenant_62 : decode cX7_tenant 62 = .ok (.iload_n 2, 1) := by decide +kernel
theorem dX7_tenant_63 : decode cX7_tenant 63 = .ok (.iload_n 3, 1) := by decide +kernel
theorem dX7_tenant_64 : decode cX7_tenant 64 = .ok (.invokevirtual 115, 3) := by decide +kernel
theorem dX7_tenant_67 : decode cX7_tenant 67 = .ok (.aload_n 0, 1) := by decide +kernel
theorem dX7_tenant_68 : decode cX7_tenant 68 = .ok (.getfield 20, 3) := by decide +kernel
theorem dX7_tenant_71 : decode cX7_tenant 71 = .ok (.dup, 1) := by decide +kernel
theorem dX7_tenant_72 : decode cX7_tenant 72 = .ok (.getfield 112, 3) := by decide +kernel
theorem dX7_tenant_75 : decode cX7_tenant 75 = .ok (.iconst 1, 1) := by decide +kernel
theorem dX7_tenant_76 : decode cX7_tenant 76 = .ok (.iadd, 1) := by decide +kernel
theorem dX7_tenant_77 : decode cX7_tenant 77 = .ok (.putfield 112, 3) := by decide +kernel
theorem dX7_tenant_80 : decode cX7_tenant 80 = .ok (.iload 4, 2) := by decide +kernel
theorem dX7_tenant_82 : decode cX7_tenant 82 = .ok (.ireturn, 1) := by decide +kernel
theorem dX7_told_0 : decode cX7_told 0 = .ok (.iload_n 2, 1) := by decide +kernel
theorem dX7_told_1 : decode cX7_told 1 = .ok (.ifCond .ne 11, 3) := by decide +kernel
theorem dX7_told_4 : decode cX7_told 4 = .ok (.aload_n 0, 1) := by decide +kernel
theorem dX7_told_5 : decode cX7_told 5 = .ok (.getfield 20, 3) := by decide +kernel
theorem dX7_told_8 : decode cX7_told 8 = .ok (.getfield 91, 3) := by decide +kernel
theorem dX7_told_11 : decode cX7_told 11 = .ok (.ireturn, 1) := by decide +kernel
theorem dX7_told_12 : decode cX7_told 12 = .ok (.aload_n 0, 1) := by decide +kernel
theorem dX7_told_13 : decode cX7_told 13 = .ok (.getfield 20, 3) := by decide +kernel
theorem dX7_told_16 : decode cX7_told 16 = .ok (.iload_n 1, 1) := by decide +kernel
theorem dX7_told_17 : decode cX7_told 17 = .ok (.invokevirtual 95, 3) := by decide +kernel
theorem dX7_told_20 : decode cX7_told 20 = .ok (.ifCond .ne 6, 3) := by decide +kernel
theorem dX7_told_23 : decode cX7_told 23 = .ok (.bipush (-100), 2) := by decide +kernel
theorem dX7_told_25 : decode cX7_told 25 = .ok (.ireturn, 1) := by decide +kernel
theorem dX7_told_26 : decode cX7_told 26 = .ok (.aload_n 0, 1) := by decide +kernel
theorem dX7_told_27 : decode cX7_told 27 = .ok (.getfield 20, 3) := by decide +kernel
theorem dX7_told_30 : decode cX7_told 30 = .ok (.getfield 98, 3) := by decide +kernel
theorem dX7_told_33 : decode cX7_told 33 = .ok (.iload_n 1, 1) := by decide +kernel
theorem dX7_told_34 : decode cX7_told 34 = .ok (.aaload, 1) := by decide +kernel
theorem dX7_told_35 : decode cX7_told 35 = .ok (.astore_n 3, 1) := by decide +kernel
theorem dX7_told_36 : decode cX7_told 36 = .ok (.iload_n 2, 1) := by decide +kernel
theorem dX7_told_37 : decode cX7_told 37 = .ok (.iconst 1, 1) := by decide +kernel
theorem dX7_told_38 : decode cX7_told 38 = .ok (.if_icmp .lt 14, 3) := by decide +kernel
theorem dX7_told_41 : decode cX7_told 41 = .ok (.iload_n 2, 1) := by decide +kernel
theorem dX7_told_42 : decode cX7_told 42 = .ok (.iconst 5, 1) := by decide +kernel
theorem dX7_told_43 : decode cX7_told 43 = .ok (.if_icmp .gt 9, 3) := by decide +kernel
theorem dX7_told_46 : decode cX7_told 46 = .ok (.aload_n 3, 1) := by decide +kernel
theorem dX7_told_47 : decode cX7_told 47 = .ok (.iload_n 2, 1) := by decide +kernel
theorem dX7_told_48 : decode cX7_told 48 = .ok (.invokevirtual 102, 3) := by decide +kernel
theorem dX7_told_51 : decode cX7_told 51 = .ok (.ireturn, 1) := by decide +kernel
theorem dX7_told_52 : decode cX7_told 52 = .ok (.iload_n 2, 1) := by decide +kernel
theorem dX7_told_53 : decode cX7_told 53 = .ok (.bipush 6, 2) := by decide +kernel
theorem dX7_told_55 : decode cX7_told 55 = .ok (.if_icmp .ne 23, 3) := by decide +kernel
theorem dX7_told_58 : decode cX7_told 58 = .ok (.aload_n 3, 1) := by decide +kernel
theorem dX7_told_59 : decode cX7_told 59 = .ok (.aload_n 0, 1) := by decide +kernel
theorem dX7_told_60 : decode cX7_told 60 = .ok (.getfield 20, 3) := by decide +kernel
theorem dX7_told_63 : decode cX7_told 63 = .ok (.getfield 91, 3) := by decide +kernel
theorem dX7_told_66 : decode cX7_told 66 = .ok (.invokevirtual 119, 3) := by decide +kernel
theorem dX7_told_69 : decode cX7_told 69 = .ok (.ifCond .eq 7, 3) := by decide +kernel
theorem dX7_told_72 : decode cX7_told 72 = .ok (.iconst 1, 1) := by decide +kernel
theorem dX7_told_73 : decode cX7_told 73 = .ok (.goto 4, 3) := by decide +kernel
theorem dX7_told_76 : decode cX7_told 76 = .ok (.iconst 0, 1) := by decide +kernel
theorem dX7_told_77 : decode cX7_told 77 = .ok (.ireturn, 1) := by decide +kernel
theorem dX7_told_78 : decode cX7_told 78 = .ok (.iload_n 2, 1) := by decide +kernel
theorem dX7_told_79 : decode cX7_told 79 = .ok (.bipush 10, 2) := by decide +kernel
theorem dX7_told_81 : decode cX7_told 81 = .ok (.if_icmp .lt 36, 3) := by decide +kernel
theorem dX7_told_84 : decode cX7_told 84 = .ok (.iload_n 2, 1) := by decide +kernel
theorem dX7_told_85 : decode cX7_told 85 = .ok (.bipush 16, 2) := by decide +kernel
theorem dX7_told_87 : decode cX7_told 87 = .ok (.if_icmp .ge 30, 3) := by decide +kernel
theorem dX7_told_90 : decode cX7_told 90 = .ok (.aload_n 0, 1) := by decide +kernel
theorem dX7_told_91 : decode cX7_told 91 = .ok (.getfield 10, 3) := by decide +kernel
theorem dX7_told_94 : decode cX7_told 94 = .ok (.aload_n 3, 1) := by decide +kernel
theorem dX7_told_95 : decode cX7_told 95 = .ok (.getfield 122, 3) := by decide +kernel
theorem dX7_told_98 : decode cX7_told 98 = .ok (.invokevirtual 125, 3) := by decide +kernel
theorem dX7_told_101 : decode cX7_told 101 = .ok (.pop, 1) := by decide +kernel
theorem dX7_told_102 : decode cX7_told 102 = .ok (.aload_n 0, 1) := by decide +kernel
theorem dX7_told_103 : decode cX7_told 103 = .ok (.getfield 10, 3) := by decide +kernel
theorem dX7_told_106 : decode cX7_told 106 = .ok (.getfield 128, 3) := by decide +kernel
theorem dX7_told_109 : decode cX7_told 109 = .ok (.iload_n 2, 1) := by decide +kernel
theorem dX7_told_110 : decode cX7_told 110 = .ok (.bipush 10, 2) := by decide +kernel
theorem dX7_told_112 : decode cX7_told 112 = .ok (.isub, 1) := by decide +kernel
theorem dX7_told_113 : decode cX7_told 113 = .ok (.aaload, 1) := by decide +kernel
theorem dX7_told_114 : decode cX7_told 114 = .ok (.iload_n 1, 1) := by decide +kernel
theorem dX7_told_115 : decode cX7_told 115 = .ok (.iaload, 1) := by decide +kernel
theorem dX7_told_116 : decode cX7_told 116 = .ok (.ireturn, 1) := by decide +kernel
theorem dX7_told_117 : decode cX7_told 117 = .ok (.iload_n 2, 1) := by decide +kernel
theorem dX7_told_118 : decode cX7_told 118 = .ok (.bipush 20, 2) := by decide +kernel
theorem dX7_told_120 : decode cX7_told 120 = .ok (.if_icmp .lt 36, 3) := by decide +kernel
theorem dX7_told_123 : decode cX7_told 123 = .ok (.iload_n 2, 1) := by decide +kernel
theorem dX7_told_124 : decode cX7_told 124 = .ok (.bipush 26, 2) := by decide +kernel
theorem dX7_told_126 : decode cX7_told 126 = .ok (.if_icmp .ge 30, 3) := by decide +kernel
theorem dX7_told_129 : decode cX7_told 129 = .ok (.aload_n 0, 1) := by decide +kernel
theorem dX7_told_130 : decode cX7_told 130 = .ok (.getfield 10, 3) := by decide +kernel
theorem dX7_told_133 : decode cX7_told 133 = .ok (.aload_n 3, 1) := by decide +kernel
theorem dX7_told_134 : decode cX7_told 134 = .ok (.getfield 122, 3) := by decide +kernel
theorem dX7_told_137 : decode cX7_told 137 = .ok (.invokevirtual 125, 3) := by decide +kernel
theorem dX7_told_140 : decode cX7_told 140 = .ok (.pop, 1) := by decide +kernel
theorem dX7_told_141 : decode cX7_told 141 = .ok (.aload_n 0, 1) := by decide +kernel
theorem dX7_told_142 : decode cX7_told 142 = .ok (.getfield 10, 3) := by decide +kernel
theorem dX7_told_145 : decode cX7_told 145 = .ok (.getfield 132, 3) := by decide +kernel
theorem dX7_told_148 : decode cX7_told 148 = .ok (.iload_n 2, 1) := by decide +kernel
theorem dX7_told_149 : decode cX7_told 149 = .ok (.bipush 20, 2) := by decide +kernel
theorem dX7_told_151 : decode cX7_told 151 = .ok (.isub, 1) := by decide +kernel
theorem dX7_told_152 : decode cX7_told 152 = .ok (.aaload, 1) := by decide +kernel
theorem dX7_told_153 : decode cX7_told 153 = .ok (.iload_n 1, 1) := by decide +kernel
theorem dX7_told_154 : decode cX7_told 154 = .ok (.iaload, 1) := by decide +kernel
theorem dX7_told_155 : decode cX7_told 155 = .ok (.ireturn, 1) := by decide +kernel
theorem dX7_told_156 : decode cX7_told 156 = .ok (.bipush (-100), 2) := by decide +kernel
theorem dX7_told_158 : decode cX7_told 158 = .ok (.ireturn, 1) := by decide +kernel
theorem dX7_feed_0 : decode cX7_feed 0 = .ok (.iload_n 1, 1) := by decide +kernel
theorem dX7_feed_1 : decode cX7_feed 1 = .ok (.ifCond .lt 10, 3) := by decide +kernel
theorem dX7_feed_4 : decode cX7_feed 4 = .ok (.iload_n 1, 1) := by decide +kernel
theorem dX7_feed_5 : decode cX7_feed 5 = .ok (.sipush 255, 3) := by decide +kernel
theorem dX7_feed_8 : decode cX7_feed 8 = .ok (.if_icmp .le 6, 3) := by decide +kernel
theorem dX7_feed_11 : decode cX7_feed 11 = .ok (.bipush (-2), 2) := by decide +kernel
theorem dX7_feed_13 : decode cX7_feed 13 = .ok (.ireturn, 1) := by decide +kernel
theorem dX7_feed_14 : decode cX7_feed 14 = .ok (.aload_n 0, 1) := by decide +kernel
theorem dX7_feed_15 : decode cX7_feed 15 = .ok (.getfield 29, 3) := by decide +kernel
theorem dX7_feed_18 : decode cX7_feed 18 = .ok (.iload_n 1, 1) := by decide +kernel
theorem dX7_feed_19 : decode cX7_feed 19 = .ok (.invokevirtual 73, 3) := by decide +kernel
theorem dX7_feed_22 : decode cX7_feed 22 = .ok (.ifCond .eq 13, 3) := by decide +kernel
theorem dX7_feed_25 : decode cX7_feed 25 = .ok (.aload_n 0, 1) := by decide +kernel
theorem dX7_feed_26 : decode cX7_feed 26 = .ok (.getfield 29, 3) := by decide +kernel
theorem dX7_feed_29 : decode cX7_feed 29 = .ok (.getfield 135, 3) := by decide +kernel
theorem dX7_feed_32 : decode cX7_feed 32 = .ok (.goto 5, 3) := by decide +kernel
theorem dX7_feed_35 : decode cX7_feed 35 = .ok (.bipush (-4), 2) := by decide +kernel
theorem dX7_feed_37 : decode cX7_feed 37 = .ok (.ireturn, 1) := by decide +kernel
theorem dX7_text_0 : decode cX7_text 0 = .ok (.aload_n 0, 1) := by decide +kernel
theorem dX7_text_1 : decode cX7_text 1 = .ok (.getfield 25, 3) := by decide +kernel
theorem dX7_text_4 : decode cX7_text 4 = .ok (.getfield 136, 3) := by decide +kernel
theorem dX7_text_7 : decode cX7_text 7 = .ok (.bipush 6, 2) := by decide +kernel
theorem dX7_text_9 : decode cX7_text 9 = .ok (.if_icmp .lt 6, 3) := by decide +kernel
theorem dX7_text_12 : decode cX7_text 12 = .ok (.bipush (-4), 2) := by decide +kernel
theorem dX7_text_14 : decode cX7_text 14 = .ok (.ireturn, 1) := by decide +kernel
theorem dX7_text_15 : decode cX7_text 15 = .ok (.aload_n 0, 1) := by decide +kernel
theorem dX7_text_16 : decode cX7_text 16 = .ok (.getfield 29, 3) := by decide +kernel
theorem dX7_text_19 : decode cX7_text 19 = .ok (.invokevirtual 77, 3) := by decide +kernel
theorem dX7_text_22 : decode cX7_text 22 = .ok (.ifCond .eq 17, 3) := by decide +kernel
theorem dX7_text_25 : decode cX7_text 25 = .ok (.aload_n 0, 1) := by decide +kernel
theorem dX7_text_26 : decode cX7_text 26 = .ok (.getfield 25, 3) := by decide +kernel
theorem dX7_text_29 : decode cX7_text 29 = .ok (.aload_n 0, 1) := by decide +kernel
theorem dX7_text_30 : decode cX7_text 30 = .ok (.getfield 29, 3) := by decide +kernel
theorem dX7_text_33 : decode cX7_text 33 = .ok (.invokevirtual 81, 3) := by decide +kernel
theorem dX7_text_36 : decode cX7_text 36 = .ok (.goto 13, 3) := by decide +kernel
theorem dX7_text_39 : decode cX7_text 39 = .ok (.bipush (-100), 2) := by decide +kernel
theorem dX7_text_41 : decode cX7_text 41 = .ok (.aload_n 0, 1) := by decide +kernel
theorem dX7_text_42 : decode cX7_text 42 = .ok (.getfield 29, 3) := by decide +kernel
theorem dX7_text_45 : decode cX7_text 45 = .ok (.getfield 137, 3) := by decide +kernel
theorem dX7_text_48 : decode cX7_text 48 = .ok (.isub, 1) := by decide +kernel
theorem dX7_text_49 : decode cX7_text 49 = .ok (.ireturn, 1) := by decide +kernel
theorem dX7_force_0 : decode cX7_force 0 = .ok (.iload_n 1, 1) := by decide +kernel
theorem dX7_force_1 : decode cX7_force 1 = .ok (.ifCond .lt 14, 3) := by decide +kernel
theorem dX7_force_4 : decode cX7_force 4 = .ok (.iload_n 1, 1) := by decide +kernel
theorem dX7_force_5 : decode cX7_force 5 = .ok (.aload_n 0, 1) := by decide +kernel
theorem dX7_force_6 : decode cX7_force 6 = .ok (.getfield 25, 3) := by decide +kernel
theorem dX7_force_9 : decode cX7_force 9 = .ok (.getfield 136, 3) := by decide +kernel
theorem dX7_force_12 : decode cX7_force 12 = .ok (.if_icmp .lt 6, 3) := by decide +kernel
theorem dX7_force_15 : decode cX7_force 15 = .ok (.bipush (-2), 2) := by decide +kernel
theorem dX7_force_17 : decode cX7_force 17 = .ok (.ireturn, 1) := by decide +kernel
theorem dX7_force_18 : decode cX7_force 18 = .ok (.aload_n 0, 1) := by decide +kernel
theorem dX7_force_19 : decode cX7_force 19 = .ok (.getfield 20, 3) := by decide +kernel
theorem dX7_force_22 : decode cX7_force 22 = .ok (.getfield 140, 3) := by decide +kernel
theorem dX7_force_25 : decode cX7_force 25 = .ok (.istore_n 2, 1) := by decide +kernel
theorem dX7_force_26 : decode cX7_force 26 = .ok (.aload_n 0, 1) := by decide +kernel
theorem dX7_force_27 : decode cX7_force 27 = .ok (.getfield 20, 3) := by decide +kernel
theorem dX7_force_30 : decode cX7_force 30 = .ok (.iload_n 1, 1) := by decide +kernel
theorem dX7_force_31 : decode cX7_force 31 = .ok (.putfield 140, 3) := by decide +kernel
theorem dX7_force_34 : decode cX7_force 34 = .ok (.iload_n 2, 1) := by decide +kernel
theorem dX7_force_35 : decode cX7_force 35 = .ok (.ireturn, 1) := by decide +kernel
theorem dX7_reed_0 : decode cX7_reed 0 = .ok (.iconst 2, 1) := by decide +kernel
theorem dX7_reed_1 : decode cX7_reed 1 = .ok (.iload_n 1, 1) := by decide +kernel
theorem dX7_reed_2 : decode cX7_reed 2 = .ok (.invokestatic 87, 3) := by decide +kernel
theorem dX7_reed_5 : decode cX7_reed 5 = .ok (.ifCond .eq 13, 3) := by decide +kernel
theorem dX7_reed_8 : decode cX7_reed 8 = .ok (.iload_n 2, 1) := by decide +kernel
theorem dX7_reed_9 : decode cX7_reed 9 = .ok (.ifCond .lt 9, 3) := by decide +kernel
theorem dX7_reed_12 : decode cX7_reed 12 = .ok (.iload_n 2, 1) := by decide +kernel
theorem dX7_reed_13 : decode cX7_reed 13 = .ok (.bipush 6, 2) := by decide +kernel
theorem dX7_reed_15 : decode cX7_reed 15 = .ok (.if_icmp .lt 6, 3) := by decide +kernel
theorem dX7_reed_18 : decode cX7_reed 18 = .ok (.bipush (-2), 2) := by decide +kernel
theorem dX7_reed_20 : decode cX7_reed 20 = .ok (.ireturn, 1) := by decide +kernel
theorem dX7_reed_21 : decode cX7_reed 21 = .ok (.aload_n 0, 1) := by decide +kernel
theorem dX7_reed_22 : decode cX7_reed 22 = .ok (.getfield 10, 3) := by decide +kernel
theorem dX7_reed_25 : decode cX7_reed 25 = .ok (.iload_n 1, 1) := by decide +kernel
theorem dX7_reed_26 : decode cX7_reed 26 = .ok (.invokevirtual 125, 3) := by decide +kernel
theorem dX7_reed_29 : decode cX7_reed 29 = .ok (.pop, 1) := by decide +kernel
theorem dX7_reed_30 : decode cX7_reed 30 = .ok (.aload_n 0, 1) := by decide +kernel
theorem dX7_reed_31 : decode cX7_reed 31 = .ok (.getfield 10, 3) := by decide +kernel
theorem dX7_reed_34 : decode cX7_reed 34 = .ok (.getfield 143, 3) := by decide +kernel
theorem dX7_reed_37 : decode cX7_reed 37 = .ok (.iload_n 2, 1) := by decide +kernel
theorem dX7_reed_38 : decode cX7_reed 38 = .ok (.iaload, 1) := by decide +kernel
theorem dX7_reed_39 : decode cX7_reed 39 = .ok (.ireturn, 1) := by decide +kernel
theorem dX7_due_0 : decode cX7_due 0 = .ok (.iload_n 1, 1) := by decide +kernel
theorem dX7_due_1 : decode cX7_due 1 = .ok (.iconst (-1), 1) := by decide +kernel
theorem dX7_due_2 : decode cX7_due 2 = .ok (.if_icmp .ne 11, 3) := by decide +kernel
theorem dX7_due_5 : decode cX7_due 5 = .ok (.aload_n 0, 1) := by decide +kernel
theorem dX7_due_6 : decode cX7_due 6 = .ok (.getfield 10, 3) := by decide +kernel
theorem dX7_due_9 : decode cX7_due 9 = .ok (.invokevirtual 146, 3) := by decide +kernel
theorem dX7_due_12 : decode cX7_due 12 = .ok (.ireturn, 1) := by decide +kernel
theorem dX7_due_13 : decode cX7_due 13 = .ok (.iconst 2, 1) := by decide +kernel
theorem dX7_due_14 : decode cX7_due 14 = .ok (.iload_n 1, 1) := by decide +kernel
theorem dX7_due_15 : decode cX7_due 15 = .ok (.invokestatic 87, 3) := by decide +kernel
theorem dX7_due_18 : decode cX7_due 18 = .ok (.ifCond .eq 14, 3) := by decide +kernel
theorem dX7_due_21 : decode cX7_due 21 = .ok (.aload_n 0, 1) := by decide +kernel
theorem dX7_due_22 : decode cX7_due 22 = .ok (.getfield 10, 3) := by decide +kernel
theorem dX7_due_25 : decode cX7_due 25 = .ok (.iload_n 1, 1) := by decide +kernel
theorem dX7_due_26 : decode cX7_due 26 = .ok (.invokevirtual 125, 3) := by decide +kernel
theorem dX7_due_29 : decode cX7_due 29 = .ok (.goto 5, 3) := by decide +kernel
theorem dX7_due_32 : decode cX7_due 32 = .ok (.bipush (-2), 2) := by decide +kernel
theorem dX7_due_34 : decode cX7_due 34 = .ok (.ireturn, 1) := by decide +kernel
theorem dX7_night_0 : decode cX7_night 0 = .ok (.aload_n 0, 1) := by decide +kernel
theorem dX7_night_1 : decode cX7_night 1 = .ok (.getfield 20, 3) := by decide +kernel
theorem dX7_night_4 : decode cX7_night 4 = .ok (.getfield 91, 3) := by decide +kernel
theorem dX7_night_7 : decode cX7_night 7 = .ok (.sipush 999, 3) := by decide +kernel
theorem dX7_night_10 : decode cX7_night 10 = .ok (.if_icmp .lt 6, 3) := by decide +kernel
theorem dX7_night_13 : decode cX7_night 13 = .ok (.bipush (-3), 2) := by decide +kernel
theorem dX7_night_15 : decode cX7_night 15 = .ok (.ireturn, 1) := by decide +kernel
theorem dX7_night_16 : decode cX7_night 16 = .ok (.aload_n 0, 1) := by decide +kernel
theorem dX7_night_17 : decode cX7_night 17 = .ok (.getfield 10, 3) := by decide +kernel
theorem dX7_night_20 : decode cX7_night 20 = .ok (.invokevirtual 146, 3) := by decide +kernel
theorem dX7_night_23 : decode cX7_night 23 = .ok (.istore_n 1, 1) := by decide +kernel
theorem dX7_night_24 : decode cX7_night 24 = .ok (.aload_n 0, 1) := by decide +kernel
theorem dX7_night_25 : decode cX7_night 25 = .ok (.getfield 20, 3) := by decide +kernel
theorem dX7_night_28 : decode cX7_night 28 = .ok (.ldc 149, 2) := by decide +kernel
theorem dX7_night_30 : decode cX7_night 30 = .ok (.aload_n 0, 1) := by decide +kernel
theorem dX7_night_31 : decode cX7_night 31 = .ok (.getfield 20, 3) := by decide +kernel
theorem dX7_night_34 : decode cX7_night 34 = .ok (.getfield 150, 3) := by decide +kernel
theorem dX7_night_37 : decode cX7_night 37 = .ok (.iload_n 1, 1) := by decide +kernel
theorem dX7_night_38 : decode cX7_night 38 = .ok (.iadd, 1) := by decide +kernel
theorem dX7_night_39 : decode cX7_night 39 = .ok (.invokestatic 153, 3) := by decide +kernel
theorem dX7_night_42 : decode cX7_night 42 = .ok (.putfield 150, 3) := by decide +kernel
theorem dX7_night_45 : decode cX7_night 45 = .ok (.aload_n 0, 1) := by decide +kernel
theorem dX7_night_46 : decode cX7_night 46 = .ok (.getfield 20, 3) := by decide +kernel
theorem dX7_night_49 : decode cX7_night 49 = .ok (.dup, 1) := by decide +kernel
theorem dX7_night_50 : decode cX7_night 50 = .ok (.getfield 91, 3) := by decide +kernel
theorem dX7_night_53 : decode cX7_night 53 = .ok (.iconst 1, 1) := by decide +kernel
theorem dX7_night_54 : decode cX7_night 54 = .ok (.iadd, 1) := by decide +kernel
theorem dX7_night_55 : decode cX7_night 55 = .ok (.putfield 91, 3) := by decide +kernel
theorem dX7_night_58 : decode cX7_night 58 = .ok (.iload_n 1, 1) := by decide +kernel
theorem dX7_night_59 : decode cX7_night 59 = .ok (.ireturn, 1) := by decide +kernel
theorem dX7_loudest_0 : decode cX7_loudest 0 = .ok (.iload_n 1, 1) := by decide +kernel
theorem dX7_loudest_1 : decode cX7_loudest 1 = .ok (.invokestatic 159, 3) := by decide +kernel
theorem dX7_loudest_4 : decode cX7_loudest 4 = .ok (.ifCond .ne 6, 3) := by decide +kernel
theorem dX7_loudest_7 : decode cX7_loudest 7 = .ok (.bipush (-2), 2) := by decide +kernel
theorem dX7_loudest_9 : decode cX7_loudest 9 = .ok (.ireturn, 1) := by decide +kernel
theorem dX7_loudest_10 : decode cX7_loudest 10 = .ok (.iconst 0, 1) := by decide +kernel
theorem dX7_loudest_11 : decode cX7_loudest 11 = .ok (.istore_n 2, 1) := by decide +kernel
theorem dX7_loudest_12 : decode cX7_loudest 12 = .ok (.iconst (-1), 1) := by decide +kernel
theorem dX7_loudest_13 : decode cX7_loudest 13 = .ok (.istore_n 3, 1) := by decide +kernel
theorem dX7_loudest_14 : decode cX7_loudest 14 = .ok (.iconst 0, 1) := by decide +kernel
theorem dX7_loudest_15 : decode cX7_loudest 15 = .ok (.istore 4, 2) := by decide +kernel
theorem dX7_loudest_17 : decode cX7_loudest 17 = .ok (.iload 4, 2) := by decide +kernel
theorem dX7_loudest_19 : decode cX7_loudest 19 = .ok (.iconst 5, 1) := by decide +kernel
theorem dX7_loudest_20 : decode cX7_loudest 20 = .ok (.if_icmp .ge 69, 3) := by decide +kernel
theorem dX7_loudest_23 : decode cX7_loudest 23 = .ok (.aload_n 0, 1) := by decide +kernel
theorem dX7_loudest_24 : decode cX7_loudest 24 = .ok (.getfield 10, 3) := by decide +kernel
theorem dX7_loudest_27 : decode cX7_loudest 27 = .ok (.iload 4, 2) := by decide +kernel
theorem dX7_loudest_29 : decode cX7_loudest 29 = .ok (.invokevirtual 125, 3) := by decide +kernel
theorem dX7_loudest_32 : decode cX7_loudest 32 = .ok (.pop, 1) := by decide +kernel
theorem dX7_loudest_33 : decode cX7_loudest 33 = .ok (.iconst 0, 1) := by decide +kernel
theorem dX7_loudest_34 : decode cX7_loudest 34 = .ok (.istore 5, 2) := by decide +kernel
theorem dX7_loudest_36 : decode cX7_loudest 36 = .ok (.iload 5, 2) := by decide +kernel
theorem dX7_loudest_38 : decode cX7_loudest 38 = .ok (.bipush 6, 2) := by decide +kernel
theorem dX7_loudest_40 : decode cX7_loudest 40 = .ok (.if_icmp .ge 43, 3) := by decide +kernel
theorem dX7_loudest_43 : decode cX7_loudest 43 = .ok (.aload_n 0, 1) := by decide +kernel
theorem dX7_loudest_44 : decode cX7_loudest 44 = .ok (.getfield 10, 3) := by decide +kernel
theorem dX7_loudest_47 : decode cX7_loudest 47 = .ok (.getfield 143, 3) := by decide +kernel
theorem dX7_loudest_50 : decode cX7_loudest 50 = .ok (.iload 5, 2) := by decide +kernel
theorem dX7_loudest_52 : decode cX7_loudest 52 = .ok (.iaload, 1) := by decide +kernel
theorem dX7_loudest_53 : decode cX7_loudest 53 = .ok (.iload_n 3, 1) := by decide +kernel
theorem dX7_loudest_54 : decode cX7_loudest 54 = .ok (.if_icmp .le 23, 3) := by decide +kernel
theorem dX7_loudest_57 : decode cX7_loudest 57 = .ok (.aload_n 0, 1) := by decide +kernel
theorem dX7_loudest_58 : decode cX7_loudest 58 = .ok (.getfield 10, 3) := by decide +kernel
theorem dX7_loudest_61 : decode cX7_loudest 61 = .ok (.getfield 143, 3) := by decide +kernel
theorem dX7_loudest_64 : decode cX7_loudest 64 = .ok (.iload 5, 2) := by decide +kernel
theorem dX7_loudest_66 : decode cX7_loudest 66 = .ok (.iaload, 1) := by decide +kernel
theorem dX7_loudest_67 : decode cX7_loudest 67 = .ok (.istore_n 3, 1) := by decide +kernel
theorem dX7_loudest_68 : decode cX7_loudest 68 = .ok (.bipush 10, 2) := by decide +kernel
theorem dX7_loudest_70 : decode cX7_loudest 70 = .ok (.iload 4, 2) := by decide +kernel
theorem dX7_loudest_72 : decode cX7_loudest 72 = .ok (.imul, 1) := by decide +kernel
theorem dX7_loudest_73 : decode cX7_loudest 73 = .ok (.iload 5, 2) := by decide +kernel
theorem dX7_loudest_75 : decode cX7_loudest 75 = .ok (.iadd, 1) := by decide +kernel
theorem dX7_loudest_76 : decode cX7_loudest 76 = .ok (.istore_n 2, 1) := by decide +kernel
theorem dX7_loudest_77 : decode cX7_loudest 77 = .ok (.iinc 5 1, 3) := by decide +kernel
theorem dX7_loudest_80 : decode cX7_loudest 80 = .ok (.goto (-44), 3) := by decide +kernel
theorem dX7_loudest_83 : decode cX7_loudest 83 = .ok (.iinc 4 1, 3) := by decide +kernel
theorem dX7_loudest_86 : decode cX7_loudest 86 = .ok (.goto (-69), 3) := by decide +kernel
theorem dX7_loudest_89 : decode cX7_loudest 89 = .ok (.iload_n 1, 1) := by decide +kernel
theorem dX7_loudest_90 : decode cX7_loudest 90 = .ok (.ifCond .ne 7, 3) := by decide +kernel
theorem dX7_loudest_93 : decode cX7_loudest 93 = .ok (.iload_n 2, 1) := by decide +kernel
theorem dX7_loudest_94 : decode cX7_loudest 94 = .ok (.goto 4, 3) := by decide +kernel
theorem dX7_loudest_97 : decode cX7_loudest 97 = .ok (.iload_n 3, 1) := by decide +kernel
theorem dX7_loudest_98 : decode cX7_loudest 98 = .ok (.ireturn, 1) := by decide +kernel
theorem dX7_cost_0 : decode cX7_cost 0 = .ok (.aload_n 0, 1) := by decide +kernel
theorem dX7_cost_1 : decode cX7_cost 1 = .ok (.getfield 20, 3) := by decide +kernel
theorem dX7_cost_4 : decode cX7_cost 4 = .ok (.iload_n 1, 1) := by decide +kernel
theorem dX7_cost_5 : decode cX7_cost 5 = .ok (.invokevirtual 95, 3) := by decide +kernel
theorem dX7_cost_8 : decode cX7_cost 8 = .ok (.ifCond .ne 6, 3) := by decide +kernel
theorem dX7_cost_11 : decode cX7_cost 11 = .ok (.ldc 162, 2) := by decide +kernel
theorem dX7_cost_13 : decode cX7_cost 13 = .ok (.ireturn, 1) := by decide +kernel
theorem dX7_cost_14 : decode cX7_cost 14 = .ok (.aload_n 0, 1) := by decide +kernel
theorem dX7_cost_15 : decode cX7_cost 15 = .ok (.getfield 10, 3) := by decide +kernel
theorem dX7_cost_18 : decode cX7_cost 18 = .ok (.invokevirtual 146, 3) := by decide +kernel
theorem dX7_cost_21 : decode cX7_cost 21 = .ok (.aload_n 0, 1) := by decide +kernel
theorem dX7_cost_22 : decode cX7_cost 22 = .ok (.iload_n 1, 1) := by decide +kernel
theorem dX7_cost_23 : decode cX7_cost 23 = .ok (.iconst 2, 1) := by decide +kernel
theorem dX7_cost_24 : decode cX7_cost 24 = .ok (.iconst (-1), 1) := by decide +kernel
theorem dX7_cost_25 : decode cX7_cost 25 = .ok (.invokevirtual 163, 3) := by decide +kernel
theorem dX7_cost_28 : decode cX7_cost 28 = .ok (.isub, 1) := by decide +kernel
theorem dX7_cost_29 : decode cX7_cost 29 = .ok (.ireturn, 1) := by decide +kernel
theorem dX7_cheer_0 : decode cX7_cheer 0 = .ok (.iload_n 1, 1) := by decide +kernel
theorem dX7_cheer_1 : decode cX7_cheer 1 = .ok (.invokestatic 159, 3) := by decide +kernel
theorem dX7_cheer_4 : decode cX7_cheer 4 = .ok (.ifCond .eq 12, 3) := by decide +kernel
theorem dX7_cheer_7 : decode cX7_cheer 7 = .ok (.aload_n 0, 1) := by decide +kernel
theorem dX7_cheer_8 : decode cX7_cheer 8 = .ok (.iload_n 1, 1) := by decide +kernel
theorem dX7_cheer_9 : decode cX7_cheer 9 = .ok (.iconst 1, 1) := by decide +kernel
theorem dX7_cheer_10 : decode cX7_cheer 10 = .ok (.invokevirtual 167, 3) := by decide +kernel
theorem dX7_cheer_13 : decode cX7_cheer 13 = .ok (.goto 5, 3) := by decide +kernel
theorem dX7_cheer_16 : decode cX7_cheer 16 = .ok (.bipush (-2), 2) := by decide +kernel
theorem dX7_cheer_18 : decode cX7_cheer 18 = .ok (.ireturn, 1) := by decide +kernel
theorem dX7_cart_0 : decode cX7_cart 0 = .ok (.iload_n 1, 1) := by decide +kernel
theorem dX7_cart_1 : decode cX7_cart 1 = .ok (.invokestatic 159, 3) := by decide +kernel
theorem dX7_cart_4 : decode cX7_cart 4 = .ok (.ifCond .ne 6, 3) := by decide +kernel
theorem dX7_cart_7 : decode cX7_cart 7 = .ok (.bipush (-2), 2) := by decide +kernel
theorem dX7_cart_9 : decode cX7_cart 9 = .ok (.ireturn, 1) := by decide +kernel
theorem dX7_cart_10 : decode cX7_cart 10 = .ok (.aload_n 0, 1) := by decide +kernel
theorem dX7_cart_11 : decode cX7_cart 11 = .ok (.getfield 46, 3) := by decide +kernel
theorem dX7_cart_14 : decode cX7_cart 14 = .ok (.aload_n 0, 1) := by decide +kernel
theorem dX7_cart_15 : decode cX7_cart 15 = .ok (.getfield 10, 3) := by decide +kernel
theorem dX7_cart_18 : decode cX7_cart 18 = .ok (.invokevirtual 146, 3) := by decide +kernel
theorem dX7_cart_21 : decode cX7_cart 21 = .ok (.invokevirtual 171, 3) := by decide +kernel
theorem dX7_cart_24 : decode cX7_cart 24 = .ok (.iconst 0, 1) := by decide +kernel
theorem dX7_cart_25 : decode cX7_cart 25 = .ok (.istore_n 2, 1) := by decide +kernel
theorem dX7_cart_26 : decode cX7_cart 26 = .ok (.iload_n 2, 1) := by decide +kernel
theorem dX7_cart_27 : decode cX7_cart 27 = .ok (.aload_n 0, 1) := by decide +kernel
theorem dX7_cart_28 : decode cX7_cart 28 = .ok (.getfield 20, 3) := by decide +kernel
theorem dX7_cart_31 : decode cX7_cart 31 = .ok (.getfield 112, 3) := by decide +kernel
theorem dX7_cart_34 : decode cX7_cart 34 = .ok (.if_icmp .ge 64, 3) := by decide +kernel
theorem dX7_cart_37 : decode cX7_cart 37 = .ok (.aload_n 0, 1) := by decide +kernel
theorem dX7_cart_38 : decode cX7_cart 38 = .ok (.getfield 20, 3) := by decide +kernel
theorem dX7_cart_41 : decode cX7_cart 41 = .ok (.getfield 98, 3) := by decide +kernel
theorem dX7_cart_44 : decode cX7_cart 44 = .ok (.iload_n 2, 1) := by decide +kernel
theorem dX7_cart_45 : decode cX7_cart 45 = .ok (.aaload, 1) := by decide +kernel
theorem dX7_cart_46 : decode cX7_cart 46 = .ok (.getfield 175, 3) := by decide +kernel
theorem dX7_cart_49 : decode cX7_cart 49 = .ok (.istore_n 3, 1) := by decide +kernel
theorem dX7_cart_50 : decode cX7_cart 50 = .ok (.iconst 0, 1) := by decide +kernel
theorem dX7_cart_51 : decode cX7_cart 51 = .ok (.istore 4, 2) := by decide +kernel
theorem dX7_cart_53 : decode cX7_cart 53 = .ok (.iload 4, 2) := by decide +kernel
theorem dX7_cart_55 : decode cX7_cart 55 = .ok (.bipush 6, 2) := by decide +kernel
theorem dX7_cart_57 : decode cX7_cart 57 = .ok (.if_icmp .ge 35, 3) := by decide +kernel
theorem dX7_cart_60 : decode cX7_cart 60 = .ok (.aload_n 0, 1) := by decide +kernel
theorem dX7_cart_61 : decode cX7_cart 61 = .ok (.getfield 46, 3) := by decide +kernel
theorem dX7_cart_64 : decode cX7_cart 64 = .ok (.bipush 10, 2) := by decide +kernel
theorem dX7_cart_66 : decode cX7_cart 66 = .ok (.iload_n 2, 1) := by decide +kernel
theorem dX7_cart_67 : decode cX7_cart 67 = .ok (.imul, 1) := by decide +kernel
theorem dX7_cart_68 : decode cX7_cart 68 = .ok (.iload 4, 2) := by decide +kernel
theorem dX7_cart_70 : decode cX7_cart 70 = .ok (.iadd, 1) := by decide +kernel
theorem dX7_cart_71 : decode cX7_cart 71 = .ok (.aload_n 0, 1) := by decide +kernel
theorem dX7_cart_72 : decode cX7_cart 72 = .ok (.iload_n 2, 1) := by decide +kernel
theorem dX7_cart_73 : decode cX7_cart 73 = .ok (.iconst 4, 1) := by decide +kernel
theorem dX7_cart_74 : decode cX7_cart 74 = .ok (.iload_n 3, 1) := by decide +kernel
theorem dX7_cart_75 : decode cX7_cart 75 = .ok (.iconst 1, 1) := by decide +kernel
theorem dX7_cart_76 : decode cX7_cart 76 = .ok (.iload 4, 2) := by decide +kernel
theorem dX7_cart_78 : decode cX7_cart 78 = .ok (.ishl, 1) := by decide +kernel
theorem dX7_cart_79 : decode cX7_cart 79 = .ok (.ior, 1) := by decide +kernel
theorem dX7_cart_80 : decode cX7_cart 80 = .ok (.invokevirtual 163, 3) := by decide +kernel
theorem dX7_cart_83 : decode cX7_cart 83 = .ok (.invokevirtual 178, 3) := by decide +kernel
theorem dX7_cart_86 : decode cX7_cart 86 = .ok (.iinc 4 1, 3) := by decide +kernel
theorem dX7_cart_89 : decode cX7_cart 89 = .ok (.goto (-36), 3) := by decide +kernel
theorem dX7_cart_92 : decode cX7_cart 92 = .ok (.iinc 2 1, 3) := by decide +kernel
theorem dX7_cart_95 : decode cX7_cart 95 = .ok (.goto (-69), 3) := by decide +kernel
theorem dX7_cart_98 : decode cX7_cart 98 = .ok (.aload_n 0, 1) := by decide +kernel
theorem dX7_cart_99 : decode cX7_cart 99 = .ok (.getfield 46, 3) := by decide +kernel
theorem dX7_cart_102 : decode cX7_cart 102 = .ok (.iload_n 1, 1) := by decide +kernel
theorem dX7_cart_103 : decode cX7_cart 103 = .ok (.invokevirtual 181, 3) := by decide +kernel
theorem dX7_cart_106 : decode cX7_cart 106 = .ok (.ireturn, 1) := by decide +kernel
theorem dX7_few_0 : decode cX7_few 0 = .ok (.aload_n 0, 1) := by decide +kernel
theorem dX7_few_1 : decode cX7_few 1 = .ok (.getfield 20, 3) := by decide +kernel
theorem dX7_few_4 : decode cX7_few 4 = .ok (.iload_n 1, 1) := by decide +kernel
theorem dX7_few_5 : decode cX7_few 5 = .ok (.invokevirtual 95, 3) := by decide +kernel
theorem dX7_few_8 : decode cX7_few 8 = .ok (.ifCond .eq 14, 3) := by decide +kernel
theorem dX7_few_11 : decode cX7_few 11 = .ok (.iload_n 2, 1) := by decide +kernel
theorem dX7_few_12 : decode cX7_few 12 = .ok (.ifCond .lt 10, 3) := by decide +kernel
theorem dX7_few_15 : decode cX7_few 15 = .ok (.iload_n 2, 1) := by decide +kernel
theorem dX7_few_16 : decode cX7_few 16 = .ok (.sipush 9999, 3) := by decide +kernel
theorem dX7_few_19 : decode cX7_few 19 = .ok (.if_icmp .le 6, 3) := by decide +kernel
theorem dX7_few_22 : decode cX7_few 22 = .ok (.bipush (-2), 2) := by decide +kernel
theorem dX7_few_24 : decode cX7_few 24 = .ok (.ireturn, 1) := by decide +kernel
theorem dX7_few_25 : decode cX7_few 25 = .ok (.iconst 0, 1) := by decide +kernel
theorem dX7_few_26 : decode cX7_few 26 = .ok (.istore_n 3, 1) := by decide +kernel
theorem dX7_few_27 : decode cX7_few 27 = .ok (.iload_n 3, 1) := by decide +kernel
theorem dX7_few_28 : decode cX7_few 28 = .ok (.bipush 6, 2) := by decide +kernel
theorem dX7_few_30 : decode cX7_few 30 = .ok (.if_icmp .gt 48, 3) := by decide +kernel
theorem dX7_few_33 : decode cX7_few 33 = .ok (.iconst 0, 1) := by decide +kernel
theorem dX7_few_34 : decode cX7_few 34 = .ok (.istore 4, 2) := by decide +kernel
theorem dX7_few_36 : decode cX7_few 36 = .ok (.iload 4, 2) := by decide +kernel
theorem dX7_few_38 : decode cX7_few 38 = .ok (.bipush 64, 2) := by decide +kernel
theorem dX7_few_40 : decode cX7_few 40 = .ok (.if_icmp .ge 32, 3) := by decide +kernel
theorem dX7_few_43 : decode cX7_few 43 = .ok (.iload 4, 2) := by decide +kernel
theorem dX7_few_45 : decode cX7_few 45 = .ok (.invokestatic 184, 3) := by decide +kernel
theorem dX7_few_48 : decode cX7_few 48 = .ok (.iload_n 3, 1) := by decide +kernel
theorem dX7_few_49 : decode cX7_few 49 = .ok (.if_icmp .ne 17, 3) := by decide +kernel
theorem dX7_few_52 : decode cX7_few 52 = .ok (.aload_n 0, 1) := by decide +kernel
theorem dX7_few_53 : decode cX7_few 53 = .ok (.iload_n 1, 1) := by decide +kernel
theorem dX7_few_54 : decode cX7_few 54 = .ok (.iload 4, 2) := by decide +kernel
theorem dX7_few_56 : decode cX7_few 56 = .ok (.invokevirtual 189, 3) := by decide +kernel
theorem dX7_few_59 : decode cX7_few 59 = .ok (.iload_n 2, 1) := by decide +kernel
theorem dX7_few_60 : decode cX7_few 60 = .ok (.if_icmp .gt 6, 3) := by decide +kernel
theorem dX7_few_63 : decode cX7_few 63 = .ok (.iload 4, 2) := by decide +kernel
theorem dX7_few_65 : decode cX7_few 65 = .ok (.ireturn, 1) := by decide +kernel
theorem dX7_few_66 : decode cX7_few 66 = .ok (.iinc 4 1, 3) := by decide +kernel
theorem dX7_few_69 : decode cX7_few 69 = .ok (.goto (-33), 3) := by decide +kernel
theorem dX7_few_72 : decode cX7_few 72 = .ok (.iinc 3 1, 3) := by decide +kernel
theorem dX7_few_75 : decode cX7_few 75 = .ok (.goto (-48), 3) := by decide +kernel
theorem dX7_few_78 : decode cX7_few 78 = .ok (.iconst (-1), 1) := by decide +kernel
theorem dX7_few_79 : decode cX7_few 79 = .ok (.ireturn, 1) := by decide +kernel
theorem dX7_move_0 : decode cX7_move 0 = .ok (.iload_n 1, 1) := by decide +kernel
theorem dX7_move_1 : decode cX7_move 1 = .ok (.invokestatic 159, 3) := by decide +kernel
theorem dX7_move_4 : decode cX7_move 4 = .ok (.ifCond .eq 12, 3) := by decide +kernel
theorem dX7_move_7 : decode cX7_move 7 = .ok (.aload_n 0, 1) := by decide +kernel
theorem dX7_move_8 : decode cX7_move 8 = .ok (.iload_n 1, 1) := by decide +kernel
theorem dX7_move_9 : decode cX7_move 9 = .ok (.iconst 0, 1) := by decide +kernel
theorem dX7_move_10 : decode cX7_move 10 = .ok (.invokevirtual 167, 3) := by decide +kernel
theorem dX7_move_13 : decode cX7_move 13 = .ok (.goto 5, 3) := by decide +kernel
theorem dX7_move_16 : decode cX7_move 16 = .ok (.bipush (-2), 2) := by decide +kernel
theorem dX7_move_18 : decode cX7_move 18 = .ok (.ireturn, 1) := by decide +kernel
theorem dX7_change_0 : decode cX7_change 0 = .ok (.iload_n 1, 1) := by decide +kernel
theorem dX7_change_1 : decode cX7_change 1 = .ok (.invokestatic 159, 3) := by decide +kernel
theorem dX7_change_4 : decode cX7_change 4 = .ok (.ifCond .ne 6, 3) := by decide +kernel
theorem dX7_change_7 : decode cX7_change 7 = .ok (.bipush (-2), 2) := by decide +kernel
theorem dX7_change_9 : decode cX7_change 9 = .ok (.ireturn, 1) := by decide +kernel
theorem dX7_change_10 : decode cX7_change 10 = .ok (.aload_n 0, 1) := by decide +kernel
theorem dX7_change_11 : decode cX7_change 11 = .ok (.getfield 46, 3) := by decide +kernel
theorem dX7_change_14 : decode cX7_change 14 = .ok (.aload_n 0, 1) := by decide +kernel
theorem dX7_change_15 : decode cX7_change 15 = .ok (.getfield 10, 3) := by decide +kernel
theorem dX7_change_18 : decode cX7_change 18 = .ok (.invokevirtual 146, 3) := by decide +kernel
theorem dX7_change_21 : decode cX7_change 21 = .ok (.invokevirtual 171, 3) := by decide +kernel
theorem dX7_change_24 : decode cX7_change 24 = .ok (.iconst 0, 1) := by decide +kernel
theorem dX7_change_25 : decode cX7_change 25 = .ok (.istore_n 2, 1) := by decide +kernel
theorem dX7_change_26 : decode cX7_change 26 = .ok (.iload_n 2, 1) := by decide +kernel
theorem dX7_change_27 : decode cX7_change 27 = .ok (.aload_n 0, 1) := by decide +kernel
theorem dX7_change_28 : decode cX7_change 28 = .ok (.getfield 20, 3) := by decide +kernel
theorem dX7_change_31 : decode cX7_change 31 = .ok (.getfield 112, 3) := by decide +kernel
theorem dX7_change_34 : decode cX7_change 34 = .ok (.if_icmp .ge 62, 3) := by decide +kernel
theorem dX7_change_37 : decode cX7_change 37 = .ok (.iload_n 2, 1) := by decide +kernel
theorem dX7_change_38 : decode cX7_change 38 = .ok (.iconst 1, 1) := by decide +kernel
theorem dX7_change_39 : decode cX7_change 39 = .ok (.iadd, 1) := by decide +kernel
theorem dX7_change_40 : decode cX7_change 40 = .ok (.istore_n 3, 1) := by decide +kernel
theorem dX7_change_41 : decode cX7_change 41 = .ok (.iload_n 3, 1) := by decide +kernel
theorem dX7_change_42 : decode cX7_change 42 = .ok (.aload_n 0, 1) := by decide +kernel
theorem dX7_change_43 : decode cX7_change 43 = .ok (.getfield 20, 3) := by decide +kernel
theorem dX7_change_46 : decode cX7_change 46 = .ok (.getfield 112, 3) := by decide +kernel
theorem dX7_change_49 : decode cX7_change 49 = .ok (.if_icmp .ge 41, 3) := by decide +kernel
theorem dX7_change_52 : decode cX7_change 52 = .ok (.aload_n 0, 1) := by decide +kernel
theorem dX7_change_53 : decode cX7_change 53 = .ok (.iload_n 2, 1) := by decide +kernel
theorem dX7_change_54 : decode cX7_change 54 = .ok (.iload_n 3, 1) := by decide +kernel
theorem dX7_change_55 : decode cX7_change 55 = .ok (.invokevirtual 192, 3) := by decide +kernel
theorem dX7_change_58 : decode cX7_change 58 = .ok (.aload_n 0, 1) := by decide +kernel
theorem dX7_change_59 : decode cX7_change 59 = .ok (.getfield 46, 3) := by decide +kernel
theorem dX7_change_62 : decode cX7_change 62 = .ok (.bipush 10, 2) := by decide +kernel
theorem dX7_change_64 : decode cX7_change 64 = .ok (.iload_n 2, 1) := by decide +kernel
theorem dX7_change_65 : decode cX7_change 65 = .ok (.imul, 1) := by decide +kernel
theorem dX7_change_66 : decode cX7_change 66 = .ok (.iload_n 3, 1) := by decide +kernel
theorem dX7_change_67 : decode cX7_change 67 = .ok (.iadd, 1) := by decide +kernel
theorem dX7_change_68 : decode cX7_change 68 = .ok (.aload_n 0, 1) := by decide +kernel
theorem dX7_change_69 : decode cX7_change 69 = .ok (.getfield 10, 3) := by decide +kernel
theorem dX7_change_72 : decode cX7_change 72 = .ok (.invokevirtual 146, 3) := by decide +kernel
theorem dX7_change_75 : decode cX7_change 75 = .ok (.invokevirtual 178, 3) := by decide +kernel
theorem dX7_change_78 : decode cX7_change 78 = .ok (.aload_n 0, 1) := by decide +kernel
theorem dX7_change_79 : decode cX7_change 79 = .ok (.iload_n 2, 1) := by decide +kernel
theorem dX7_change_80 : decode cX7_change 80 = .ok (.iload_n 3, 1) := by decide +kernel
theorem dX7_change_81 : decode cX7_change 81 = .ok (.invokevirtual 192, 3) := by decide +kernel
theorem dX7_change_84 : decode cX7_change 84 = .ok (.iinc 3 1, 3) := by decide +kernel
theorem dX7_change_87 : decode cX7_change 87 = .ok (.goto (-46), 3) := by decide +kernel
theorem dX7_change_90 : decode cX7_change 90 = .ok (.iinc 2 1, 3) := by decide +kernel
theorem dX7_change_93 : decode cX7_change 93 = .ok (.goto (-67), 3) := by decide +kernel
theorem dX7_change_96 : decode cX7_change 96 = .ok (.aload_n 0, 1) := by decide +kernel
theorem dX7_change_97 : decode cX7_change 97 = .ok (.getfield 46, 3) := by decide +kernel
theorem dX7_change_100 : decode cX7_change 100 = .ok (.iload_n 1, 1) := by decide +kernel
theorem dX7_change_101 : decode cX7_change 101 = .ok (.invokevirtual 181, 3) := by decide +kernel
theorem dX7_change_104 : decode cX7_change 104 = .ok (.ireturn, 1) := by decide +kernel
theorem dX7_tells_0 : decode cX7_tells 0 = .ok (.iload_n 1, 1) := by decide +kernel
theorem dX7_tells_1 : decode cX7_tells 1 = .ok (.invokestatic 195, 3) := by decide +kernel
theorem dX7_tells_4 : decode cX7_tells 4 = .ok (.ifCond .eq 40, 3) := by decide +kernel
theorem dX7_tells_7 : decode cX7_tells 7 = .ok (.iconst 2, 1) := by decide +kernel
theorem dX7_tells_8 : decode cX7_tells 8 = .ok (.iload_n 2, 1) := by decide +kernel
theorem dX7_tells_9 : decode cX7_tells 9 = .ok (.invokestatic 87, 3) := by decide +kernel
theorem dX7_tells_12 : decode cX7_tells 12 = .ok (.ifCond .eq 32, 3) := by decide +kernel
theorem dX7_tells_15 : decode cX7_tells 15 = .ok (.iload 4, 2) := by decide +kernel
theorem dX7_tells_17 : decode cX7_tells 17 = .ok (.ifCond .lt 27, 3) := by decide +kernel
theorem dX7_tells_20 : decode cX7_tells 20 = .ok (.iload 4, 2) := by decide +kernel
theorem dX7_tells_22 : decode cX7_tells 22 = .ok (.bipush 8, 2) := by decide +kernel
theorem dX7_tells_24 : decode cX7_tells 24 = .ok (.if_icmp .gt 20, 3) := by decide +kernel
theorem dX7_tells_27 : decode cX7_tells 27 = .ok (.iload 4, 2) := by decide +kernel
theorem dX7_tells_29 : decode cX7_tells 29 = .ok (.iconst 1, 1) := by decide +kernel
theorem dX7_tells_30 : decode cX7_tells 30 = .ok (.if_icmp .le 17, 3) := by decide +kernel
theorem dX7_tells_33 : decode cX7_tells 33 = .ok (.aload_n 0, 1) := by decide +kernel
theorem dX7_tells_34 : decode cX7_tells 34 = .ok (.getfield 20, 3) := by decide +kernel
theorem dX7_tells_37 : decode cX7_tells 37 = .ok (.iload_n 3, 1) := by decide +kernel
theorem dX7_tells_38 : decode cX7_tells 38 = .ok (.invokevirtual 95, 3) := by decide +kernel
theorem dX7_tells_41 : decode cX7_tells 41 = .ok (.ifCond .ne 6, 3) := by decide +kernel
theorem dX7_tells_44 : decode cX7_tells 44 = .ok (.bipush (-2), 2) := by decide +kernel
theorem dX7_tells_46 : decode cX7_tells 46 = .ok (.ireturn, 1) := by decide +kernel
theorem dX7_tells_47 : decode cX7_tells 47 = .ok (.aload_n 0, 1) := by decide +kernel
theorem dX7_tells_48 : decode cX7_tells 48 = .ok (.getfield 52, 3) := by decide +kernel
theorem dX7_tells_51 : decode cX7_tells 51 = .ok (.iload_n 1, 1) := by decide +kernel
theorem dX7_tells_52 : decode cX7_tells 52 = .ok (.aaload, 1) := by decide +kernel
theorem dX7_tells_53 : decode cX7_tells 53 = .ok (.astore 5, 2) := by decide +kernel
theorem dX7_tells_55 : decode cX7_tells 55 = .ok (.aload 5, 2) := by decide +kernel
theorem dX7_tells_57 : decode cX7_tells 57 = .ok (.invokevirtual 198, 3) := by decide +kernel
theorem dX7_tells_60 : decode cX7_tells 60 = .ok (.ifCond .eq 6, 3) := by decide +kernel
theorem dX7_tells_63 : decode cX7_tells 63 = .ok (.bipush (-11), 2) := by decide +kernel
theorem dX7_tells_65 : decode cX7_tells 65 = .ok (.ireturn, 1) := by decide +kernel
theorem dX7_tells_66 : decode cX7_tells 66 = .ok (.aload 5, 2) := by decide +kernel
theorem dX7_tells_68 : decode cX7_tells 68 = .ok (.getfield 201, 3) := by decide +kernel
theorem dX7_tells_71 : decode cX7_tells 71 = .ok (.bipush 6, 2) := by decide +kernel
theorem dX7_tells_73 : decode cX7_tells 73 = .ok (.if_icmp .eq 6, 3) := by decide +kernel
theorem dX7_tells_76 : decode cX7_tells 76 = .ok (.bipush (-2), 2) := by decide +kernel
theorem dX7_tells_78 : decode cX7_tells 78 = .ok (.ireturn, 1) := by decide +kernel
theorem dX7_tells_79 : decode cX7_tells 79 = .ok (.iload 4, 2) := by decide +kernel
theorem dX7_tells_81 : decode cX7_tells 81 = .ok (.tableswitch 125 0 7 #[47, 55, 63, 73, 83, 93, 103, 115], 47) := by decide +kernel
theorem dX7_tells_128 : decode cX7_tells 128 = .ok (.aload_n 0, 1) := by decide +kernel
theorem dX7_tells_129 : decode cX7_tells 129 = .ok (.aload 5, 2) := by decide +kernel
theorem dX7_tells_131 : decode cX7_tells 131 = .ok (.iload_n 2, 1) := by decide +kernel
theorem dX7_tells_132 : decode cX7_tells 132 = .ok (.invokevirtual 202, 3) := by decide +kernel
theorem dX7_tells_135 : decode cX7_tells 135 = .ok (.ireturn, 1) := by decide +kernel
theorem dX7_tells_136 : decode cX7_tells 136 = .ok (.aload_n 0, 1) := by decide +kernel
theorem dX7_tells_137 : decode cX7_tells 137 = .ok (.aload 5, 2) := by decide +kernel
theorem dX7_tells_139 : decode cX7_tells 139 = .ok (.iload_n 2, 1) := by decide +kernel
theorem dX7_tells_140 : decode cX7_tells 140 = .ok (.invokevirtual 206, 3) := by decide +kernel
theorem dX7_tells_143 : decode cX7_tells 143 = .ok (.ireturn, 1) := by decide +kernel
theorem dX7_tells_144 : decode cX7_tells 144 = .ok (.aload_n 0, 1) := by decide +kernel
theorem dX7_tells_145 : decode cX7_tells 145 = .ok (.aload 5, 2) := by decide +kernel
theorem dX7_tells_147 : decode cX7_tells 147 = .ok (.iload_n 2, 1) := by decide +kernel
theorem dX7_tells_148 : decode cX7_tells 148 = .ok (.iload_n 3, 1) := by decide +kernel
theorem dX7_tells_149 : decode cX7_tells 149 = .ok (.iconst 5, 1) := by decide +kernel
theorem dX7_tells_150 : decode cX7_tells 150 = .ok (.invokevirtual 209, 3) := by decide +kernel
theorem dX7_tells_153 : decode cX7_tells 153 = .ok (.ireturn, 1) := by decide +kernel
theorem dX7_tells_154 : decode cX7_tells 154 = .ok (.aload_n 0, 1) := by decide +kernel
theorem dX7_tells_155 : decode cX7_tells 155 = .ok (.aload 5, 2) := by decide +kernel
theorem dX7_tells_157 : decode cX7_tells 157 = .ok (.iload_n 2, 1) := by decide +kernel
theorem dX7_tells_158 : decode cX7_tells 158 = .ok (.iload_n 3, 1) := by decide +kernel
theorem dX7_tells_159 : decode cX7_tells 159 = .ok (.iconst 1, 1) := by decide +kernel
theorem dX7_tells_160 : decode cX7_tells 160 = .ok (.invokevirtual 209, 3) := by decide +kernel
theorem dX7_tells_163 : decode cX7_tells 163 = .ok (.ireturn, 1) := by decide +kernel
theorem dX7_tells_164 : decode cX7_tells 164 = .ok (.aload_n 0, 1) := by decide +kernel
theorem dX7_tells_165 : decode cX7_tells 165 = .ok (.aload 5, 2) := by decide +kernel
theorem dX7_tells_167 : decode cX7_tells 167 = .ok (.iload_n 2, 1) := by decide +kernel
theorem dX7_tells_168 : decode cX7_tells 168 = .ok (.iload_n 3, 1) := by decide +kernel
theorem dX7_tells_169 : decode cX7_tells 169 = .ok (.iconst 2, 1) := by decide +kernel
theorem dX7_tells_170 : decode cX7_tells 170 = .ok (.invokevirtual 209, 3) := by decide +kernel
theorem dX7_tells_173 : decode cX7_tells 173 = .ok (.ireturn, 1) := by decide +kernel
theorem dX7_tells_174 : decode cX7_tells 174 = .ok (.aload_n 0, 1) := by decide +kernel
theorem dX7_tells_175 : decode cX7_tells 175 = .ok (.aload 5, 2) := by decide +kernel
theorem dX7_tells_177 : decode cX7_tells 177 = .ok (.iload_n 2, 1) := by decide +kernel
theorem dX7_tells_178 : decode cX7_tells 178 = .ok (.iload_n 3, 1) := by decide +kernel
theorem dX7_tells_179 : decode cX7_tells 179 = .ok (.iconst 3, 1) := by decide +kernel
theorem dX7_tells_180 : decode cX7_tells 180 = .ok (.invokevirtual 213, 3) := by decide +kernel
theorem dX7_tells_183 : decode cX7_tells 183 = .ok (.ireturn, 1) := by decide +kernel
theorem dX7_tells_184 : decode cX7_tells 184 = .ok (.aload_n 0, 1) := by decide +kernel
theorem dX7_tells_185 : decode cX7_tells 185 = .ok (.aload 5, 2) := by decide +kernel
theorem dX7_tells_187 : decode cX7_tells 187 = .ok (.iload_n 2, 1) := by decide +kernel
theorem dX7_tells_188 : decode cX7_tells 188 = .ok (.iload_n 3, 1) := by decide +kernel
theorem dX7_tells_189 : decode cX7_tells 189 = .ok (.iconst 3, 1) := by decide +kernel
theorem dX7_tells_190 : decode cX7_tells 190 = .ok (.bipush (-100), 2) := by decide +kernel
theorem dX7_tells_192 : decode cX7_tells 192 = .ok (.invokevirtual 216, 3) := by decide +kernel
theorem dX7_tells_195 : decode cX7_tells 195 = .ok (.ireturn, 1) := by decide +kernel
theorem dX7_tells_196 : decode cX7_tells 196 = .ok (.aload_n 0, 1) := by decide +kernel
theorem dX7_tells_197 : decode cX7_tells 197 = .ok (.aload 5, 2) := by decide +kernel
theorem dX7_tells_199 : decode cX7_tells 199 = .ok (.iload_n 2, 1) := by decide +kernel
theorem dX7_tells_200 : decode cX7_tells 200 = .ok (.iload_n 3, 1) := by decide +kernel
theorem dX7_tells_201 : decode cX7_tells 201 = .ok (.iconst 4, 1) := by decide +kernel
theorem dX7_tells_202 : decode cX7_tells 202 = .ok (.invokevirtual 213, 3) := by decide +kernel
theorem dX7_tells_205 : decode cX7_tells 205 = .ok (.ireturn, 1) := by decide +kernel
theorem dX7_tells_206 : decode cX7_tells 206 = .ok (.aload_n 0, 1) := by decide +kernel
theorem dX7_tells_207 : decode cX7_tells 207 = .ok (.aload 5, 2) := by decide +kernel
theorem dX7_tells_209 : decode cX7_tells 209 = .ok (.iload_n 2, 1) := by decide +kernel
theorem dX7_tells_210 : decode cX7_tells 210 = .ok (.iload_n 3, 1) := by decide +kernel
theorem dX7_tells_211 : decode cX7_tells 211 = .ok (.iconst 4, 1) := by decide +kernel
theorem dX7_tells_212 : decode cX7_tells 212 = .ok (.iconst (-1), 1) := by decide +kernel
theorem dX7_tells_213 : decode cX7_tells 213 = .ok (.invokevirtual 216, 3) := by decide +kernel
theorem dX7_tells_216 : decode cX7_tells 216 = .ok (.ireturn, 1) := by decide +kernel
theorem dX7_film_0 : decode cX7_film 0 = .ok (.iload_n 1, 1) := by decide +kernel
theorem dX7_film_1 : decode cX7_film 1 = .ok (.invokestatic 195, 3) := by decide +kernel
theorem dX7_film_4 : decode cX7_film 4 = .ok (.ifCond .eq 11, 3) := by decide +kernel
theorem dX7_film_7 : decode cX7_film 7 = .ok (.iconst 2, 1) := by decide +kernel
theorem dX7_film_8 : decode cX7_film 8 = .ok (.iload_n 2, 1) := by decide +kernel
theorem dX7_film_9 : decode cX7_film 9 = .ok (.invokestatic 87, 3) := by decide +kernel
theorem dX7_film_12 : decode cX7_film 12 = .ok (.ifCond .ne 6, 3) := by decide +kernel
theorem dX7_film_15 : decode cX7_film 15 = .ok (.bipush (-2), 2) := by decide +kernel
theorem dX7_film_17 : decode cX7_film 17 = .ok (.ireturn, 1) := by decide +kernel
theorem dX7_film_18 : decode cX7_film 18 = .ok (.aload_n 0, 1) := by decide +kernel
theorem dX7_film_19 : decode cX7_film 19 = .ok (.getfield 10, 3) := by decide +kernel
theorem dX7_film_22 : decode cX7_film 22 = .ok (.iload_n 2, 1) := by decide +kernel
theorem dX7_film_23 : decode cX7_film 23 = .ok (.invokevirtual 125, 3) := by decide +kernel
theorem dX7_film_26 : decode cX7_film 26 = .ok (.pop, 1) := by decide +kernel
theorem dX7_film_27 : decode cX7_film 27 = .ok (.aload_n 0, 1) := by decide +kernel
theorem dX7_film_28 : decode cX7_film 28 = .ok (.getfield 52, 3) := by decide +kernel
theorem dX7_film_31 : decode cX7_film 31 = .ok (.iload_n 1, 1) := by decide +kernel
theorem dX7_film_32 : decode cX7_film 32 = .ok (.aaload, 1) := by decide +kernel
theorem dX7_film_33 : decode cX7_film 33 = .ok (.iconst 2, 1) := by decide +kernel
theorem dX7_film_34 : decode cX7_film 34 = .ok (.bipush 6, 2) := by decide +kernel
theorem dX7_film_36 : decode cX7_film 36 = .ok (.invokevirtual 220, 3) := by decide +kernel
theorem dX7_film_39 : decode cX7_film 39 = .ok (.iconst 0, 1) := by decide +kernel
theorem dX7_film_40 : decode cX7_film 40 = .ok (.istore_n 3, 1) := by decide +kernel
theorem dX7_film_41 : decode cX7_film 41 = .ok (.iload_n 3, 1) := by decide +kernel
theorem dX7_film_42 : decode cX7_film 42 = .ok (.bipush 6, 2) := by decide +kernel
theorem dX7_film_44 : decode cX7_film 44 = .ok (.if_icmp .ge 28, 3) := by decide +kernel
theorem dX7_film_47 : decode cX7_film 47 = .ok (.aload_n 0, 1) := by decide +kernel
theorem dX7_film_48 : decode cX7_film 48 = .ok (.getfield 52, 3) := by decide +kernel
theorem dX7_film_51 : decode cX7_film 51 = .ok (.iload_n 1, 1) := by decide +kernel
theorem dX7_film_52 : decode cX7_film 52 = .ok (.aaload, 1) := by decide +kernel
theorem dX7_film_53 : decode cX7_film 53 = .ok (.iload_n 3, 1) := by decide +kernel
theorem dX7_film_54 : decode cX7_film 54 = .ok (.aload_n 0, 1) := by decide +kernel
theorem dX7_film_55 : decode cX7_film 55 = .ok (.getfield 10, 3) := by decide +kernel
theorem dX7_film_58 : decode cX7_film 58 = .ok (.getfield 143, 3) := by decide +kernel
theorem dX7_film_61 : decode cX7_film 61 = .ok (.iload_n 3, 1) := by decide +kernel
theorem dX7_film_62 : decode cX7_film 62 = .ok (.iaload, 1) := by decide +kernel
theorem dX7_film_63 : decode cX7_film 63 = .ok (.invokevirtual 223, 3) := by decide +kernel
theorem dX7_film_66 : decode cX7_film 66 = .ok (.iinc 3 1, 3) := by decide +kernel
theorem dX7_film_69 : decode cX7_film 69 = .ok (.goto (-28), 3) := by decide +kernel
theorem dX7_film_72 : decode cX7_film 72 = .ok (.bipush 6, 2) := by decide +kernel
theorem dX7_film_74 : decode cX7_film 74 = .ok (.ireturn, 1) := by decide +kernel
theorem dX7_drawn_0 : decode cX7_drawn 0 = .ok (.aload_n 0, 1) := by decide +kernel
theorem dX7_drawn_1 : decode cX7_drawn 1 = .ok (.iload_n 1, 1) := by decide +kernel
theorem dX7_drawn_2 : decode cX7_drawn 2 = .ok (.invokevirtual 226, 3) := by decide +kernel
theorem dX7_drawn_5 : decode cX7_drawn 5 = .ok (.ireturn, 1) := by decide +kernel
theorem dX7_chance_0 : decode cX7_chance 0 = .ok (.iload_n 2, 1) := by decide +kernel
theorem dX7_chance_1 : decode cX7_chance 1 = .ok (.iconst 1, 1) := by decide +kernel
theorem dX7_chance_2 : decode cX7_chance 2 = .ok (.if_icmp .lt 16, 3) := by decide +kernel
theorem dX7_chance_5 : decode cX7_chance 5 = .ok (.iload_n 2, 1) := by decide +kernel
theorem dX7_chance_6 : decode cX7_chance 6 = .ok (.bipush 20, 2) := by decide +kernel
theorem dX7_chance_8 : decode cX7_chance 8 = .ok (.if_icmp .gt 10, 3) := by decide +kernel
theorem dX7_chance_11 : decode cX7_chance 11 = .ok (.iload_n 3, 1) := by decide +kernel
theorem dX7_chance_12 : decode cX7_chance 12 = .ok (.invokestatic 159, 3) := by decide +kernel
theorem dX7_chance_15 : decode cX7_chance 15 = .ok (.ifCond .ne 7, 3) := by decide +kernel
theorem dX7_chance_18 : decode cX7_chance 18 = .ok (.ldc2_w 229, 3) := by decide +kernel
theorem dX7_chance_21 : decode cX7_chance 21 = .ok (.lreturn, 1) := by decide +kernel
theorem dX7_chance_22 : decode cX7_chance 22 = .ok (.aload_n 0, 1) := by decide +kernel
theorem dX7_chance_23 : decode cX7_chance 23 = .ok (.getfield 10, 3) := by decide +kernel
theorem dX7_chance_26 : decode cX7_chance 26 = .ok (.invokevirtual 146, 3) := by decide +kernel
theorem dX7_chance_29 : decode cX7_chance 29 = .ok (.istore 4, 2) := by decide +kernel
theorem dX7_chance_31 : decode cX7_chance 31 = .ok (.iconst 0, 1) := by decide +kernel
theorem dX7_chance_32 : decode cX7_chance 32 = .ok (.istore 5, 2) := by decide +kernel
theorem dX7_chance_34 : decode cX7_chance 34 = .ok (.iconst 0, 1) := by decide +kernel
theorem dX7_chance_35 : decode cX7_chance 35 = .ok (.istore 6, 2) := by decide +kernel
theorem dX7_chance_37 : decode cX7_chance 37 = .ok (.iload 6, 2) := by decide +kernel
theorem dX7_chance_39 : decode cX7_chance 39 = .ok (.iload_n 2, 1) := by decide +kernel
theorem dX7_chance_40 : decode cX7_chance 40 = .ok (.if_icmp .ge 25, 3) := by decide +kernel
theorem dX7_chance_43 : decode cX7_chance 43 = .ok (.aload_n 0, 1) := by decide +kernel
theorem dX7_chance_44 : decode cX7_chance 44 = .ok (.iload_n 1, 1) := by decide +kernel
theorem dX7_chance_45 : decode cX7_chance 45 = .ok (.iload 6, 2) := by decide +kernel
theorem dX7_chance_47 : decode cX7_chance 47 = .ok (.iadd, 1) := by decide +kernel
theorem dX7_chance_48 : decode cX7_chance 48 = .ok (.invokevirtual 226, 3) := by decide +kernel
theorem dX7_chance_51 : decode cX7_chance 51 = .ok (.iload 4, 2) := by decide +kernel
theorem dX7_chance_53 : decode cX7_chance 53 = .ok (.if_icmp .le 6, 3) := by decide +kernel
theorem dX7_chance_56 : decode cX7_chance 56 = .ok (.iinc 5 1, 3) := by decide +kernel
theorem dX7_chance_59 : decode cX7_chance 59 = .ok (.iinc 6 1, 3) := by decide +kernel
theorem dX7_chance_62 : decode cX7_chance 62 = .ok (.goto (-25), 3) := by decide +kernel
theorem dX7_chance_65 : decode cX7_chance 65 = .ok (.iload 5, 2) := by decide +kernel
theorem dX7_chance_67 : decode cX7_chance 67 = .ok (.iload_n 2, 1) := by decide +kernel
theorem dX7_chance_68 : decode cX7_chance 68 = .ok (.invokestatic 231, 3) := by decide +kernel
theorem dX7_chance_71 : decode cX7_chance 71 = .ok (.istore 6, 2) := by decide +kernel
theorem dX7_chance_73 : decode cX7_chance 73 = .ok (.iload_n 3, 1) := by decide +kernel
theorem dX7_chance_74 : decode cX7_chance 74 = .ok (.ifCond .ne 12, 3) := by decide +kernel
theorem dX7_chance_77 : decode cX7_chance 77 = .ok (.iload 5, 2) := by decide +kernel
theorem dX7_chance_79 : decode cX7_chance 79 = .ok (.iload 6, 2) := by decide +kernel
theorem dX7_chance_81 : decode cX7_chance 81 = .ok (.idiv, 1) := by decide +kernel
theorem dX7_chance_82 : decode cX7_chance 82 = .ok (.i2l, 1) := by decide +kernel
theorem dX7_chance_83 : decode cX7_chance 83 = .ok (.goto 8, 3) := by decide +kernel
theorem dX7_chance_86 : decode cX7_chance 86 = .ok (.iload_n 2, 1) := by decide +kernel
theorem dX7_chance_87 : decode cX7_chance 87 = .ok (.iload 6, 2) := by decide +kernel
theorem dX7_chance_89 : decode cX7_chance 89 = .ok (.idiv, 1) := by decide +kernel
theorem dX7_chance_90 : decode cX7_chance 90 = .ok (.i2l, 1) := by decide +kernel
theorem dX7_chance_91 : decode cX7_chance 91 = .ok (.lreturn, 1) := by decide +kernel
theorem dX7_image_0 : decode cX7_image 0 = .ok (.aload_n 0, 1) := by decide +kernel
theorem dX7_image_1 : decode cX7_image 1 = .ok (.getfield 36, 3) := by decide +kernel
theorem dX7_image_4 : decode cX7_image 4 = .ok (.aload_n 0, 1) := by decide +kernel
theorem dX7_image_5 : decode cX7_image 5 = .ok (.getfield 20, 3) := by decide +kernel
theorem dX7_image_8 : decode cX7_image 8 = .ok (.invokevirtual 234, 3) := by decide +kernel
theorem dX7_image_11 : decode cX7_image 11 = .ok (.aload_n 0, 1) := by decide +kernel
theorem dX7_image_12 : decode cX7_image 12 = .ok (.iconst 1, 1) := by decide +kernel
theorem dX7_image_13 : decode cX7_image 13 = .ok (.putfield 39, 3) := by decide +kernel
theorem dX7_image_16 : decode cX7_image 16 = .ok (.aload_n 0, 1) := by decide +kernel
theorem dX7_image_17 : decode cX7_image 17 = .ok (.getfield 20, 3) := by decide +kernel
theorem dX7_image_20 : decode cX7_image 20 = .ok (.getfield 112, 3) := by decide +kernel
theorem dX7_image_23 : decode cX7_image 23 = .ok (.ireturn, 1) := by decide +kernel
theorem dX7_back_0 : decode cX7_back 0 = .ok (.aload_n 0, 1) := by decide +kernel
theorem dX7_back_1 : decode cX7_back 1 = .ok (.getfield 39, 3) := by decide +kernel
theorem dX7_back_4 : decode cX7_back 4 = .ok (.ifCond .ne 6, 3) := by decide +kernel
theorem dX7_back_7 : decode cX7_back 7 = .ok (.bipush (-3), 2) := by decide +kernel
theorem dX7_back_9 : decode cX7_back 9 = .ok (.ireturn, 1) := by decide +kernel
theorem dX7_back_10 : decode cX7_back 10 = .ok (.aload_n 0, 1) := by decide +kernel
theorem dX7_back_11 : decode cX7_back 11 = .ok (.getfield 20, 3) := by decide +kernel
theorem dX7_back_14 : decode cX7_back 14 = .ok (.aload_n 0, 1) := by decide +kernel
theorem dX7_back_15 : decode cX7_back 15 = .ok (.getfield 36, 3) := by decide +kernel
theorem dX7_back_18 : decode cX7_back 18 = .ok (.invokevirtual 234, 3) := by decide +kernel
theorem dX7_back_21 : decode cX7_back 21 = .ok (.aload_n 0, 1) := by decide +kernel
theorem dX7_back_22 : decode cX7_back 22 = .ok (.getfield 20, 3) := by decide +kernel
theorem dX7_back_25 : decode cX7_back 25 = .ok (.getfield 112, 3) := by decide +kernel
theorem dX7_back_28 : decode cX7_back 28 = .ok (.ireturn, 1) := by decide +kernel
theorem dX7_count_0 : decode cX7_count 0 = .ok (.iload_n 1, 1) := by decide +kernel
theorem dX7_count_1 : decode cX7_count 1 = .ok (.tableswitch 99 0 6 #[43, 51, 59, 67, 75, 83, 91], 43) := by decide +kernel
theorem dX7_count_44 : decode cX7_count 44 = .ok (.aload_n 0, 1) := by decide +kernel
theorem dX7_count_45 : decode cX7_count 45 = .ok (.getfield 20, 3) := by decide +kernel
theorem dX7_count_48 : decode cX7_count 48 = .ok (.getfield 112, 3) := by decide +kernel
theorem dX7_count_51 : decode cX7_count 51 = .ok (.ireturn, 1) := by decide +kernel
theorem dX7_count_52 : decode cX7_count 52 = .ok (.aload_n 0, 1) := by decide +kernel
theorem dX7_count_53 : decode cX7_count 53 = .ok (.getfield 20, 3) := by decide +kernel
theorem dX7_count_56 : decode cX7_count 56 = .ok (.invokevirtual 238, 3) := by decide +kernel
theorem dX7_count_59 : decode cX7_count 59 = .ok (.ireturn, 1) := by decide +kernel
theorem dX7_count_60 : decode cX7_count 60 = .ok (.aload_n 0, 1) := by decide +kernel
theorem dX7_count_61 : decode cX7_count 61 = .ok (.getfield 20, 3) := by decide +kernel
theorem dX7_count_64 : decode cX7_count 64 = .ok (.getfield 91, 3) := by decide +kernel
theorem dX7_count_67 : decode cX7_count 67 = .ok (.ireturn, 1) := by decide +kernel
theorem dX7_count_68 : decode cX7_count 68 = .ok (.aload_n 0, 1) := by decide +kernel
theorem dX7_count_69 : decode cX7_count 69 = .ok (.getfield 20, 3) := by decide +kernel
theorem dX7_count_72 : decode cX7_count 72 = .ok (.getfield 150, 3) := by decide +kernel
theorem dX7_count_75 : decode cX7_count 75 = .ok (.ireturn, 1) := by decide +kernel
theorem dX7_count_76 : decode cX7_count 76 = .ok (.aload_n 0, 1) := by decide +kernel
theorem dX7_count_77 : decode cX7_count 77 = .ok (.getfield 25, 3) := by decide +kernel
theorem dX7_count_80 : decode cX7_count 80 = .ok (.getfield 136, 3) := by decide +kernel
theorem dX7_count_83 : decode cX7_count 83 = .ok (.ireturn, 1) := by decide +kernel
theorem dX7_count_84 : decode cX7_count 84 = .ok (.aload_n 0, 1) := by decide +kernel
theorem dX7_count_85 : decode cX7_count 85 = .ok (.getfield 29, 3) := by decide +kernel
theorem dX7_count_88 : decode cX7_count 88 = .ok (.getfield 135, 3) := by decide +kernel
theorem dX7_count_91 : decode cX7_count 91 = .ok (.ireturn, 1) := by decide +kernel
theorem dX7_count_92 : decode cX7_count 92 = .ok (.aload_n 0, 1) := by decide +kernel
theorem dX7_count_93 : decode cX7_count 93 = .ok (.getfield 20, 3) := by decide +kernel
theorem dX7_count_96 : decode cX7_count 96 = .ok (.getfield 140, 3) := by decide +kernel
theorem dX7_count_99 : decode cX7_count 99 = .ok (.ireturn, 1) := by decide +kernel
theorem dX7_count_100 : decode cX7_count 100 = .ok (.bipush (-2), 2) := by decide +kernel
theorem dX7_count_102 : decode cX7_count 102 = .ok (.ireturn, 1) := by decide +kernel
theorem dX7_sheet_0 : decode cX7_sheet 0 = .ok (.iload_n 1, 1) := by decide +kernel
theorem dX7_sheet_1 : decode cX7_sheet 1 = .ok (.invokestatic 195, 3) := by decide +kernel
theorem dX7_sheet_4 : decode cX7_sheet 4 = .ok (.ifCond .eq 15, 3) := by decide +kernel
theorem dX7_sheet_7 : decode cX7_sheet 7 = .ok (.iload_n 2, 1) := by decide +kernel
theorem dX7_sheet_8 : decode cX7_sheet 8 = .ok (.iconst (-1), 1) := by decide +kernel
theorem dX7_sheet_9 : decode cX7_sheet 9 = .ok (.if_icmp .eq 13, 3) := by decide +kernel
theorem dX7_sheet_12 : decode cX7_sheet 12 = .ok (.iload_n 2, 1) := by decide +kernel
theorem dX7_sheet_13 : decode cX7_sheet 13 = .ok (.invokestatic 241, 3) := by decide +kernel
theorem dX7_sheet_16 : decode cX7_sheet 16 = .ok (.ifCond .ne 6, 3) := by decide +kernel
theorem dX7_sheet_19 : decode cX7_sheet 19 = .ok (.bipush (-2), 2) := by decide +kernel
theorem dX7_sheet_21 : decode cX7_sheet 21 = .ok (.ireturn, 1) := by decide +kernel
theorem dX7_sheet_22 : decode cX7_sheet 22 = .ok (.iload_n 2, 1) := by decide +kernel
theorem dX7_sheet_23 : decode cX7_sheet 23 = .ok (.iconst (-1), 1) := by decide +kernel
theorem dX7_sheet_24 : decode cX7_sheet 24 = .ok (.if_icmp .ne 16, 3) := by decide +kernel
theorem dX7_sheet_27 : decode cX7_sheet 27 = .ok (.aload_n 0, 1) := by decide +kernel
theorem dX7_sheet_28 : decode cX7_sheet 28 = .ok (.getfield 52, 3) := by decide +kernel
theorem dX7_sheet_31 : decode cX7_sheet 31 = .ok (.iload_n 1, 1) := by decide +kernel
theorem dX7_sheet_32 : decode cX7_sheet 32 = .ok (.aaload, 1) := by decide +kernel
theorem dX7_sheet_33 : decode cX7_sheet 33 = .ok (.iconst (-1), 1) := by decide +kernel
theorem dX7_sheet_34 : decode cX7_sheet 34 = .ok (.iconst 0, 1) := by decide +kernel
theorem dX7_sheet_35 : decode cX7_sheet 35 = .ok (.invokevirtual 220, 3) := by decide +kernel
theorem dX7_sheet_38 : decode cX7_sheet 38 = .ok (.iconst 1, 1) := by decide +kernel
theorem dX7_sheet_39 : decode cX7_sheet 39 = .ok (.ireturn, 1) := by decide +kernel
theorem dX7_sheet_40 : decode cX7_sheet 40 = .ok (.iload_n 3, 1) := by decide +kernel
theorem dX7_sheet_41 : decode cX7_sheet 41 = .ok (.bipush 40, 2) := by decide +kernel
theorem dX7_sheet_43 : decode cX7_sheet 43 = .ok (.if_icmp .le 6, 3) := by decide +kernel
theorem dX7_sheet_46 : decode cX7_sheet 46 = .ok (.bipush (-2), 2) := by decide +kernel
theorem dX7_sheet_48 : decode cX7_sheet 48 = .ok (.ireturn, 1) := by decide +kernel
theorem dX7_sheet_49 : decode cX7_sheet 49 = .ok (.iload_n 3, 1) := by decide +kernel
theorem dX7_sheet_50 : decode cX7_sheet 50 = .ok (.ifCond .ge 6, 3) := by decide +kernel
theorem dX7_sheet_53 : decode cX7_sheet 53 = .ok (.bipush (-14), 2) := by decide +kernel
theorem dX7_sheet_55 : decode cX7_sheet 55 = .ok (.ireturn, 1) := by decide +kernel
theorem dX7_sheet_56 : decode cX7_sheet 56 = .ok (.aload_n 0, 1) := by decide +kernel
theorem dX7_sheet_57 : decode cX7_sheet 57 = .ok (.getfield 52, 3) := by decide +kernel
theorem dX7_sheet_60 : decode cX7_sheet 60 = .ok (.iload_n 1, 1) := by decide +kernel
theorem dX7_sheet_61 : decode cX7_sheet 61 = .ok (.aaload, 1) := by decide +kernel
theorem dX7_sheet_62 : decode cX7_sheet 62 = .ok (.iload_n 2, 1) := by decide +kernel
theorem dX7_sheet_63 : decode cX7_sheet 63 = .ok (.iload_n 3, 1) := by decide +kernel
theorem dX7_sheet_64 : decode cX7_sheet 64 = .ok (.invokevirtual 220, 3) := by decide +kernel
theorem dX7_sheet_67 : decode cX7_sheet 67 = .ok (.iconst 1, 1) := by decide +kernel
theorem dX7_sheet_68 : decode cX7_sheet 68 = .ok (.ireturn, 1) := by decide +kernel
theorem dX7_cell_0 : decode cX7_cell 0 = .ok (.iload_n 1, 1) := by decide +kernel
theorem dX7_cell_1 : decode cX7_cell 1 = .ok (.invokestatic 195, 3) := by decide +kernel
theorem dX7_cell_4 : decode cX7_cell 4 = .ok (.ifCond .ne 6, 3) := by decide +kernel
theorem dX7_cell_7 : decode cX7_cell 7 = .ok (.bipush (-2), 2) := by decide +kernel
theorem dX7_cell_9 : decode cX7_cell 9 = .ok (.ireturn, 1) := by decide +kernel
theorem dX7_cell_10 : decode cX7_cell 10 = .ok (.aload_n 0, 1) := by decide +kernel
theorem dX7_cell_11 : decode cX7_cell 11 = .ok (.getfield 52, 3) := by decide +kernel
theorem dX7_cell_14 : decode cX7_cell 14 = .ok (.iload_n 1, 1) := by decide +kernel
theorem dX7_cell_15 : decode cX7_cell 15 = .ok (.aaload, 1) := by decide +kernel
theorem dX7_cell_16 : decode cX7_cell 16 = .ok (.invokevirtual 198, 3) := by decide +kernel
theorem dX7_cell_19 : decode cX7_cell 19 = .ok (.ifCond .eq 6, 3) := by decide +kernel
theorem dX7_cell_22 : decode cX7_cell 22 = .ok (.bipush (-11), 2) := by decide +kernel
theorem dX7_cell_24 : decode cX7_cell 24 = .ok (.ireturn, 1) := by decide +kernel
theorem dX7_cell_25 : decode cX7_cell 25 = .ok (.aload_n 0, 1) := by decide +kernel
theorem dX7_cell_26 : decode cX7_cell 26 = .ok (.getfield 52, 3) := by decide +kernel
theorem dX7_cell_29 : decode cX7_cell 29 = .ok (.iload_n 1, 1) := by decide +kernel
theorem dX7_cell_30 : decode cX7_cell 30 = .ok (.aaload, 1) := by decide +kernel
theorem dX7_cell_31 : decode cX7_cell 31 = .ok (.iload_n 2, 1) := by decide +kernel
theorem dX7_cell_32 : decode cX7_cell 32 = .ok (.iconst 1, 1) := by decide +kernel
theorem dX7_cell_33 : decode cX7_cell 33 = .ok (.invokevirtual 244, 3) := by decide +kernel
theorem dX7_cell_36 : decode cX7_cell 36 = .ok (.ifCond .ne 6, 3) := by decide +kernel
theorem dX7_cell_39 : decode cX7_cell 39 = .ok (.bipush (-12), 2) := by decide +kernel
theorem dX7_cell_41 : decode cX7_cell 41 = .ok (.ireturn, 1) := by decide +kernel
theorem dX7_cell_42 : decode cX7_cell 42 = .ok (.aload_n 0, 1) := by decide +kernel
theorem dX7_cell_43 : decode cX7_cell 43 = .ok (.getfield 52, 3) := by decide +kernel
theorem dX7_cell_46 : decode cX7_cell 46 = .ok (.iload_n 1, 1) := by decide +kernel
theorem dX7_cell_47 : decode cX7_cell 47 = .ok (.aaload, 1) := by decide +kernel
theorem dX7_cell_48 : decode cX7_cell 48 = .ok (.iload_n 2, 1) := by decide +kernel
theorem dX7_cell_49 : decode cX7_cell 49 = .ok (.iload_n 3, 1) := by decide +kernel
theorem dX7_cell_50 : decode cX7_cell 50 = .ok (.invokevirtual 223, 3) := by decide +kernel
theorem dX7_cell_53 : decode cX7_cell 53 = .ok (.iconst 1, 1) := by decide +kernel
theorem dX7_cell_54 : decode cX7_cell 54 = .ok (.ireturn, 1) := by decide +kernel
theorem dX7_copy_0 : decode cX7_copy 0 = .ok (.iload_n 1, 1) := by decide +kernel
theorem dX7_copy_1 : decode cX7_copy 1 = .ok (.invokestatic 195, 3) := by decide +kernel
theorem dX7_copy_4 : decode cX7_copy 4 = .ok (.ifCond .eq 10, 3) := by decide +kernel
theorem dX7_copy_7 : decode cX7_copy 7 = .ok (.iload_n 3, 1) := by decide +kernel
theorem dX7_copy_8 : decode cX7_copy 8 = .ok (.invokestatic 195, 3) := by decide +kernel
theorem dX7_copy_11 : decode cX7_copy 11 = .ok (.ifCond .ne 6, 3) := by decide +kernel
theorem dX7_copy_14 : decode cX7_copy 14 = .ok (.bipush (-2), 2) := by decide +kernel
theorem dX7_copy_16 : decode cX7_copy 16 = .ok (.ireturn, 1) := by decide +kernel
theorem dX7_copy_17 : decode cX7_copy 17 = .ok (.aload_n 0, 1) := by decide +kernel
theorem dX7_copy_18 : decode cX7_copy 18 = .ok (.getfield 52, 3) := by decide +kernel
theorem dX7_copy_21 : decode cX7_copy 21 = .ok (.iload_n 1, 1) := by decide +kernel
theorem dX7_copy_22 : decode cX7_copy 22 = .ok (.aaload, 1) := by decide +kernel
theorem dX7_copy_23 : decode cX7_copy 23 = .ok (.astore 6, 2) := by decide +kernel
theorem dX7_copy_25 : decode cX7_copy 25 = .ok (.aload_n 0, 1) := by decide +kernel
theorem dX7_copy_26 : decode cX7_copy 26 = .ok (.getfield 52, 3) := by decide +kernel
theorem dX7_copy_29 : decode cX7_copy 29 = .ok (.iload_n 3, 1) := by decide +kernel
theorem dX7_copy_30 : decode cX7_copy 30 = .ok (.aaload, 1) := by decide +kernel
theorem dX7_copy_31 : decode cX7_copy 31 = .ok (.astore 7, 2) := by decide +kernel
theorem dX7_copy_33 : decode cX7_copy 33 = .ok (.aload 6, 2) := by decide +kernel
theorem dX7_copy_35 : decode cX7_copy 35 = .ok (.invokevirtual 198, 3) := by decide +kernel
theorem dX7_copy_38 : decode cX7_copy 38 = .ok (.ifCond .ne 11, 3) := by decide +kernel
theorem dX7_copy_41 : decode cX7_copy 41 = .ok (.aload 7, 2) := by decide +kernel
theorem dX7_copy_43 : decode cX7_copy 43 = .ok (.invokevirtual 198, 3) := by decide +kernel
theorem dX7_copy_46 : decode cX7_copy 46 = .ok (.ifCond .eq 6, 3) := by decide +kernel
theorem dX7_copy_49 : decode cX7_copy 49 = .ok (.bipush (-11), 2) := by decide +kernel
theorem dX7_copy_51 : decode cX7_copy 51 = .ok (.ireturn, 1) := by decide +kernel
theorem dX7_copy_52 : decode cX7_copy 52 = .ok (.aload 6, 2) := by decide +kernel
theorem dX7_copy_54 : decode cX7_copy 54 = .ok (.getfield 247, 3) := by decide +kernel
theorem dX7_copy_57 : decode cX7_copy 57 = .ok (.aload 7, 2) := by decide +kernel
theorem dX7_copy_59 : decode cX7_copy 59 = .ok (.getfield 247, 3) := by decide +kernel
theorem dX7_copy_62 : decode cX7_copy 62 = .ok (.if_icmp .eq 6, 3) := by decide +kernel
theorem dX7_copy_65 : decode cX7_copy 65 = .ok (.bipush (-13), 2) := by decide +kernel
theorem dX7_copy_67 : decode cX7_copy 67 = .ok (.ireturn, 1) := by decide +kernel
theorem dX7_copy_68 : decode cX7_copy 68 = .ok (.aload 6, 2) := by decide +kernel
theorem dX7_copy_70 : decode cX7_copy 70 = .ok (.iload_n 2, 1) := by decide +kernel
theorem dX7_copy_71 : decode cX7_copy 71 = .ok (.iload 5, 2) := by decide +kernel
theorem dX7_copy_73 : decode cX7_copy 73 = .ok (.invokevirtual 244, 3) := by decide +kernel
theorem dX7_copy_76 : decode cX7_copy 76 = .ok (.ifCond .eq 15, 3) := by decide +kernel
theorem dX7_copy_79 : decode cX7_copy 79 = .ok (.aload 7, 2) := by decide +kernel
theorem dX7_copy_81 : decode cX7_copy 81 = .ok (.iload 4, 2) := by decide +kernel
theorem dX7_copy_83 : decode cX7_copy 83 = .ok (.iload 5, 2) := by decide +kernel
theorem dX7_copy_85 : decode cX7_copy 85 = .ok (.invokevirtual 244, 3) := by decide +kernel
theorem dX7_copy_88 : decode cX7_copy 88 = .ok (.ifCond .ne 6, 3) := by decide +kernel
theorem dX7_copy_91 : decode cX7_copy 91 = .ok (.bipush (-12), 2) := by decide +kernel
theorem dX7_copy_93 : decode cX7_copy 93 = .ok (.ireturn, 1) := by decide +kernel
theorem dX7_copy_94 : decode cX7_copy 94 = .ok (.aload 6, 2) := by decide +kernel
theorem dX7_copy_96 : decode cX7_copy 96 = .ok (.getfield 250, 3) := by decide +kernel
theorem dX7_copy_99 : decode cX7_copy 99 = .ok (.iload_n 2, 1) := by decide +kernel
theorem dX7_copy_100 : decode cX7_copy 100 = .ok (.aload 7, 2) := by decide +kernel
theorem dX7_copy_102 : decode cX7_copy 102 = .ok (.getfield 250, 3) := by decide +kernel
theorem dX7_copy_105 : decode cX7_copy 105 = .ok (.iload 4, 2) := by decide +kernel
theorem dX7_copy_107 : decode cX7_copy 107 = .ok (.iload 5, 2) := by decide +kernel
theorem dX7_copy_109 : decode cX7_copy 109 = .ok (.invokestatic 253, 3) := by decide +kernel
theorem dX7_copy_112 : decode cX7_copy 112 = .ok (.iload 5, 2) := by decide +kernel
theorem dX7_copy_114 : decode cX7_copy 114 = .ok (.ireturn, 1) := by decide +kernel
theorem dX7_tenants_0 : decode cX7_tenants 0 = .ok (.iload_n 1, 1) := by decide +kernel
theorem dX7_tenants_1 : decode cX7_tenants 1 = .ok (.invokestatic 195, 3) := by decide +kernel
theorem dX7_tenants_4 : decode cX7_tenants 4 = .ok (.ifCond .eq 22, 3) := by decide +kernel
theorem dX7_tenants_7 : decode cX7_tenants 7 = .ok (.iload_n 2, 1) := by decide +kernel
theorem dX7_tenants_8 : decode cX7_tenants 8 = .ok (.invokestatic 241, 3) := by decide +kernel
theorem dX7_tenants_11 : decode cX7_tenants 11 = .ok (.ifCond .eq 15, 3) := by decide +kernel
theorem dX7_tenants_14 : decode cX7_tenants 14 = .ok (.iload 4, 2) := by decide +kernel
theorem dX7_tenants_16 : decode cX7_tenants 16 = .ok (.ifCond .lt 10, 3) := by decide +kernel
theorem dX7_tenants_19 : decode cX7_tenants 19 = .ok (.iload 4, 2) := by decide +kernel
theorem dX7_tenants_21 : decode cX7_tenants 21 = .ok (.bipush 8, 2) := by decide +kernel
theorem dX7_tenants_23 : decode cX7_tenants 23 = .ok (.if_icmp .le 6, 3) := by decide +kernel
theorem dX7_tenants_26 : decode cX7_tenants 26 = .ok (.bipush (-2), 2) := by decide +kernel
theorem dX7_tenants_28 : decode cX7_tenants 28 = .ok (.ireturn, 1) := by decide +kernel
theorem dX7_tenants_29 : decode cX7_tenants 29 = .ok (.aload_n 0, 1) := by decide +kernel
theorem dX7_tenants_30 : decode cX7_tenants 30 = .ok (.getfield 52, 3) := by decide +kernel
theorem dX7_tenants_33 : decode cX7_tenants 33 = .ok (.iload_n 1, 1) := by decide +kernel
theorem dX7_tenants_34 : decode cX7_tenants 34 = .ok (.aaload, 1) := by decide +kernel
theorem dX7_tenants_35 : decode cX7_tenants 35 = .ok (.astore 5, 2) := by decide +kernel
theorem dX7_tenants_37 : decode cX7_tenants 37 = .ok (.aload 5, 2) := by decide +kernel
theorem dX7_tenants_39 : decode cX7_tenants 39 = .ok (.invokevirtual 198, 3) := by decide +kernel
theorem dX7_tenants_42 : decode cX7_tenants 42 = .ok (.ifCond .ne 15, 3) := by decide +kernel
theorem dX7_tenants_45 : decode cX7_tenants 45 = .ok (.aload 5, 2) := by decide +kernel
theorem dX7_tenants_47 : decode cX7_tenants 47 = .ok (.getfield 247, 3) := by decide +kernel
theorem dX7_tenants_50 : decode cX7_tenants 50 = .ok (.iload_n 2, 1) := by decide +kernel
theorem dX7_tenants_51 : decode cX7_tenants 51 = .ok (.if_icmp .eq 6, 3) := by decide +kernel
theorem dX7_tenants_54 : decode cX7_tenants 54 = .ok (.bipush (-13), 2) := by decide +kernel
theorem dX7_tenants_56 : decode cX7_tenants 56 = .ok (.ireturn, 1) := by decide +kernel
theorem dX7_tenants_57 : decode cX7_tenants 57 = .ok (.aload 5, 2) := by decide +kernel
theorem dX7_tenants_59 : decode cX7_tenants 59 = .ok (.invokevirtual 198, 3) := by decide +kernel
theorem dX7_tenants_62 : decode cX7_tenants 62 = .ok (.ifCond .eq 6, 3) := by decide +kernel
theorem dX7_tenants_65 : decode cX7_tenants 65 = .ok (.bipush (-11), 2) := by decide +kernel
theorem dX7_tenants_67 : decode cX7_tenants 67 = .ok (.ireturn, 1) := by decide +kernel
theorem dX7_tenants_68 : decode cX7_tenants 68 = .ok (.iconst 0, 1) := by decide +kernel
theorem dX7_tenants_69 : decode cX7_tenants 69 = .ok (.istore 6, 2) := by decide +kernel
theorem dX7_tenants_71 : decode cX7_tenants 71 = .ok (.iconst 0, 1) := by decide +kernel
theorem dX7_tenants_72 : decode cX7_tenants 72 = .ok (.istore 7, 2) := by decide +kernel
theorem dX7_tenants_74 : decode cX7_tenants 74 = .ok (.iload 7, 2) := by decide +kernel
theorem dX7_tenants_76 : decode cX7_tenants 76 = .ok (.iload 4, 2) := by decide +kernel
theorem dX7_tenants_78 : decode cX7_tenants 78 = .ok (.if_icmp .ge 69, 3) := by decide +kernel
theorem dX7_tenants_81 : decode cX7_tenants 81 = .ok (.iload_n 3, 1) := by decide +kernel
theorem dX7_tenants_82 : decode cX7_tenants 82 = .ok (.iconst 3, 1) := by decide +kernel
theorem dX7_tenants_83 : decode cX7_tenants 83 = .ok (.iload 7, 2) := by decide +kernel
theorem dX7_tenants_85 : decode cX7_tenants 85 = .ok (.imul, 1) := by decide +kernel
theorem dX7_tenants_86 : decode cX7_tenants 86 = .ok (.iadd, 1) := by decide +kernel
theorem dX7_tenants_87 : decode cX7_tenants 87 = .ok (.istore 8, 2) := by decide +kernel
theorem dX7_tenants_89 : decode cX7_tenants 89 = .ok (.aload 5, 2) := by decide +kernel
theorem dX7_tenants_91 : decode cX7_tenants 91 = .ok (.iload 8, 2) := by decide +kernel
theorem dX7_tenants_93 : decode cX7_tenants 93 = .ok (.iconst 3, 1) := by decide +kernel
theorem dX7_tenants_94 : decode cX7_tenants 94 = .ok (.invokevirtual 244, 3) := by decide +kernel
theorem dX7_tenants_97 : decode cX7_tenants 97 = .ok (.ifCond .ne 6, 3) := by decide +kernel
theorem dX7_tenants_100 : decode cX7_tenants 100 = .ok (.bipush (-12), 2) := by decide +kernel
theorem dX7_tenants_102 : decode cX7_tenants 102 = .ok (.ireturn, 1) := by decide +kernel
theorem dX7_tenants_103 : decode cX7_tenants 103 = .ok (.aload_n 0, 1) := by decide +kernel
theorem dX7_tenants_104 : decode cX7_tenants 104 = .ok (.aload 5, 2) := by decide +kernel
theorem dX7_tenants_106 : decode cX7_tenants 106 = .ok (.getfield 250, 3) := by decide +kernel
theorem dX7_tenants_109 : decode cX7_tenants 109 = .ok (.iload 8, 2) := by decide +kernel
theorem dX7_tenants_111 : decode cX7_tenants 111 = .ok (.iaload, 1) := by decide +kernel
theorem dX7_tenants_112 : decode cX7_tenants 112 = .ok (.aload 5, 2) := by decide +kernel
theorem dX7_tenants_114 : decode cX7_tenants 114 = .ok (.getfield 250, 3) := by decide +kernel
theorem dX7_tenants_117 : decode cX7_tenants 117 = .ok (.iload 8, 2) := by decide +kernel
theorem dX7_tenants_119 : decode cX7_tenants 119 = .ok (.iconst 1, 1) := by decide +kernel
theorem dX7_tenants_120 : decode cX7_tenants 120 = .ok (.iadd, 1) := by decide +kernel
theorem dX7_tenants_121 : decode cX7_tenants 121 = .ok (.iaload, 1) := by decide +kernel
theorem dX7_tenants_122 : decode cX7_tenants 122 = .ok (.aload 5, 2) := by decide +kernel
theorem dX7_tenants_124 : decode cX7_tenants 124 = .ok (.getfield 250, 3) := by decide +kernel
theorem dX7_tenants_127 : decode cX7_tenants 127 = .ok (.iload 8, 2) := by decide +kernel
theorem dX7_tenants_129 : decode cX7_tenants 129 = .ok (.iconst 2, 1) := by decide +kernel
theorem dX7_tenants_130 : decode cX7_tenants 130 = .ok (.iadd, 1) := by decide +kernel
theorem dX7_tenants_131 : decode cX7_tenants 131 = .ok (.iaload, 1) := by decide +kernel
theorem dX7_tenants_132 : decode cX7_tenants 132 = .ok (.invokevirtual 259, 3) := by decide +kernel
theorem dX7_tenants_135 : decode cX7_tenants 135 = .ok (.ifCond .lt 6, 3) := by decide +kernel
theorem dX7_tenants_138 : decode cX7_tenants 138 = .ok (.iinc 6 1, 3) := by decide +kernel
theorem dX7_tenants_141 : decode cX7_tenants 141 = .ok (.iinc 7 1, 3) := by decide +kernel
theorem dX7_tenants_144 : decode cX7_tenants 144 = .ok (.goto (-70), 3) := by decide +kernel
theorem dX7_tenants_147 : decode cX7_tenants 147 = .ok (.iload 6, 2) := by decide +kernel
theorem dX7_tenants_149 : decode cX7_tenants 149 = .ok (.ireturn, 1) := by decide +kernel
theorem dX7_taken_0 : decode cX7_taken 0 = .ok (.iconst 5, 1) := by decide +kernel
theorem dX7_taken_1 : decode cX7_taken 1 = .ok (.iload_n 2, 1) := by decide +kernel
theorem dX7_taken_2 : decode cX7_taken 2 = .ok (.invokestatic 87, 3) := by decide +kernel
theorem dX7_taken_5 : decode cX7_taken 5 = .ok (.ifCond .ne 6, 3) := by decide +kernel
theorem dX7_taken_8 : decode cX7_taken 8 = .ok (.bipush (-2), 2) := by decide +kernel
theorem dX7_taken_10 : decode cX7_taken 10 = .ok (.ireturn, 1) := by decide +kernel
theorem dX7_taken_11 : decode cX7_taken 11 = .ok (.aload_n 0, 1) := by decide +kernel
theorem dX7_taken_12 : decode cX7_taken 12 = .ok (.getfield 20, 3) := by decide +kernel
theorem dX7_taken_15 : decode cX7_taken 15 = .ok (.iload_n 1, 1) := by decide +kernel
theorem dX7_taken_16 : decode cX7_taken 16 = .ok (.invokevirtual 95, 3) := by decide +kernel
theorem dX7_taken_19 : decode cX7_taken 19 = .ok (.ifCond .ne 6, 3) := by decide +kernel
theorem dX7_taken_22 : decode cX7_taken 22 = .ok (.bipush (-11), 2) := by decide +kernel
theorem dX7_taken_24 : decode cX7_taken 24 = .ok (.ireturn, 1) := by decide +kernel
theorem dX7_taken_25 : decode cX7_taken 25 = .ok (.aload_n 0, 1) := by decide +kernel
theorem dX7_taken_26 : decode cX7_taken 26 = .ok (.getfield 20, 3) := by decide +kernel
theorem dX7_taken_29 : decode cX7_taken 29 = .ok (.getfield 98, 3) := by decide +kernel
theorem dX7_taken_32 : decode cX7_taken 32 = .ok (.iload_n 1, 1) := by decide +kernel
theorem dX7_taken_33 : decode cX7_taken 33 = .ok (.aaload, 1) := by decide +kernel
theorem dX7_taken_34 : decode cX7_taken 34 = .ok (.getfield 262, 3) := by decide +kernel
theorem dX7_taken_37 : decode cX7_taken 37 = .ok (.iload_n 2, 1) := by decide +kernel
theorem dX7_taken_38 : decode cX7_taken 38 = .ok (.invokestatic 265, 3) := by decide +kernel
theorem dX7_taken_41 : decode cX7_taken 41 = .ok (.ifCond .eq 18, 3) := by decide +kernel
theorem dX7_taken_44 : decode cX7_taken 44 = .ok (.aload_n 0, 1) := by decide +kernel
theorem dX7_taken_45 : decode cX7_taken 45 = .ok (.getfield 20, 3) := by decide +kernel
theorem dX7_taken_48 : decode cX7_taken 48 = .ok (.getfield 98, 3) := by decide +kernel
theorem dX7_taken_51 : decode cX7_taken 51 = .ok (.iload_n 1, 1) := by decide +kernel
theorem dX7_taken_52 : decode cX7_taken 52 = .ok (.aaload, 1) := by decide +kernel
theorem dX7_taken_53 : decode cX7_taken 53 = .ok (.getfield 268, 3) := by decide +kernel
theorem dX7_taken_56 : decode cX7_taken 56 = .ok (.goto 5, 3) := by decide +kernel
theorem dX7_taken_59 : decode cX7_taken 59 = .ok (.bipush (-13), 2) := by decide +kernel
theorem dX7_taken_61 : decode cX7_taken 61 = .ok (.ireturn, 1) := by decide +kernel
theorem dX7_mayBe_0 : decode cX7_mayBe 0 = .ok (.iload_n 0, 1) := by decide +kernel
theorem dX7_mayBe_1 : decode cX7_mayBe 1 = .ok (.ifCond .lt 30, 3) := by decide +kernel
theorem dX7_mayBe_4 : decode cX7_mayBe 4 = .ok (.iload_n 0, 1) := by decide +kernel
theorem dX7_mayBe_5 : decode cX7_mayBe 5 = .ok (.iconst 5, 1) := by decide +kernel
theorem dX7_mayBe_6 : decode cX7_mayBe 6 = .ok (.if_icmp .gt 25, 3) := by decide +kernel
theorem dX7_mayBe_9 : decode cX7_mayBe 9 = .ok (.iload_n 1, 1) := by decide +kernel
theorem dX7_mayBe_10 : decode cX7_mayBe 10 = .ok (.getstatic 271, 3) := by decide +kernel
theorem dX7_mayBe_13 : decode cX7_mayBe 13 = .ok (.iload_n 0, 1) := by decide +kernel
theorem dX7_mayBe_14 : decode cX7_mayBe 14 = .ok (.iaload, 1) := by decide +kernel
theorem dX7_mayBe_15 : decode cX7_mayBe 15 = .ok (.if_icmp .lt 16, 3) := by decide +kernel
theorem dX7_mayBe_18 : decode cX7_mayBe 18 = .ok (.iload_n 1, 1) := by decide +kernel
theorem dX7_mayBe_19 : decode cX7_mayBe 19 = .ok (.getstatic 274, 3) := by decide +kernel
theorem dX7_mayBe_22 : decode cX7_mayBe 22 = .ok (.iload_n 0, 1) := by decide +kernel
theorem dX7_mayBe_23 : decode cX7_mayBe 23 = .ok (.iaload, 1) := by decide +kernel
theorem dX7_mayBe_24 : decode cX7_mayBe 24 = .ok (.if_icmp .gt 7, 3) := by decide +kernel
theorem dX7_mayBe_27 : decode cX7_mayBe 27 = .ok (.iconst 1, 1) := by decide +kernel
theorem dX7_mayBe_28 : decode cX7_mayBe 28 = .ok (.goto 4, 3) := by decide +kernel
theorem dX7_mayBe_31 : decode cX7_mayBe 31 = .ok (.iconst 0, 1) := by decide +kernel
theorem dX7_mayBe_32 : decode cX7_mayBe 32 = .ok (.ireturn, 1) := by decide +kernel
theorem dX7_isZeroOrOne_0 : decode cX7_isZeroOrOne 0 = .ok (.iload_n 0, 1) := by decide +kernel
theorem dX7_isZeroOrOne_1 : decode cX7_isZeroOrOne 1 = .ok (.ifCond .eq 8, 3) := by decide +kernel
theorem dX7_isZeroOrOne_4 : decode cX7_isZeroOrOne 4 = .ok (.iload_n 0, 1) := by decide +kernel
theorem dX7_isZeroOrOne_5 : decode cX7_isZeroOrOne 5 = .ok (.iconst 1, 1) := by decide +kernel
theorem dX7_isZeroOrOne_6 : decode cX7_isZeroOrOne 6 = .ok (.if_icmp .ne 7, 3) := by decide +kernel
theorem dX7_isZeroOrOne_9 : decode cX7_isZeroOrOne 9 = .ok (.iconst 1, 1) := by decide +kernel
theorem dX7_isZeroOrOne_10 : decode cX7_isZeroOrOne 10 = .ok (.goto 4, 3) := by decide +kernel
theorem dX7_isZeroOrOne_13 : decode cX7_isZeroOrOne 13 = .ok (.iconst 0, 1) := by decide +kernel
theorem dX7_isZeroOrOne_14 : decode cX7_isZeroOrOne 14 = .ok (.ireturn, 1) := by decide +kernel
theorem dX7_isSheet_0 : decode cX7_isSheet 0 = .ok (.iload_n 0, 1) := by decide +kernel
theorem dX7_isSheet_1 : decode cX7_isSheet 1 = .ok (.ifCond .lt 12, 3) := by decide +kernel
theorem dX7_isSheet_4 : decode cX7_isSheet 4 = .ok (.iload_n 0, 1) := by decide +kernel
theorem dX7_isSheet_5 : decode cX7_isSheet 5 = .ok (.iconst 4, 1) := by decide +kernel
theorem dX7_isSheet_6 : decode cX7_isSheet 6 = .ok (.if_icmp .ge 7, 3) := by decide +kernel
theorem dX7_isSheet_9 : decode cX7_isSheet 9 = .ok (.iconst 1, 1) := by decide +kernel
theorem dX7_isSheet_10 : decode cX7_isSheet 10 = .ok (.goto 4, 3) := by decide +kernel
theorem dX7_isSheet_13 : decode cX7_isSheet 13 = .ok (.iconst 0, 1) := by decide +kernel
theorem dX7_isSheet_14 : decode cX7_isSheet 14 = .ok (.ireturn, 1) := by decide +kernel
theorem dX7_isSort_0 : decode cX7_isSort 0 = .ok (.iload_n 0, 1) := by decide +kernel
theorem dX7_isSort_1 : decode cX7_isSort 1 = .ok (.ifCond .lt 12, 3) := by decide +kernel
theorem dX7_isSort_4 : decode cX7_isSort 4 = .ok (.iload_n 0, 1) := by decide +kernel
theorem dX7_isSort_5 : decode cX7_isSort 5 = .ok (.iconst 2, 1) := by decide +kernel
theorem dX7_isSort_6 : decode cX7_isSort 6 = .ok (.if_icmp .gt 7, 3) := by decide +kernel
theorem dX7_isSort_9 : decode cX7_isSort 9 = .ok (.iconst 1, 1) := by decide +kernel
theorem dX7_isSort_10 : decode cX7_isSort 10 = .ok (.goto 4, 3) := by decide +kernel
theorem dX7_isSort_13 : decode cX7_isSort 13 = .ok (.iconst 0, 1) := by decide +kernel
theorem dX7_isSort_14 : decode cX7_isSort 14 = .ok (.ireturn, 1) := by decide +kernel
theorem dX7_isUnder_0 : decode cX7_isUnder 0 = .ok (.iload_n 0, 1) := by decide +kernel
theorem dX7_isUnder_1 : decode cX7_isUnder 1 = .ok (.istore_n 2, 1) := by decide +kernel
theorem dX7_isUnder_2 : decode cX7_isUnder 2 = .ok (.iconst 0, 1) := by decide +kernel
theorem dX7_isUnder_3 : decode cX7_isUnder 3 = .ok (.istore_n 3, 1) := by decide +kernel
theorem dX7_isUnder_4 : decode cX7_isUnder 4 = .ok (.iload_n 3, 1) := by decide +kernel
theorem dX7_isUnder_5 : decode cX7_isUnder 5 = .ok (.bipush 6, 2) := by decide +kernel
theorem dX7_isUnder_7 : decode cX7_isUnder 7 = .ok (.if_icmp .ge 27, 3) := by decide +kernel
theorem dX7_isUnder_10 : decode cX7_isUnder 10 = .ok (.iload_n 2, 1) := by decide +kernel
theorem dX7_isUnder_11 : decode cX7_isUnder 11 = .ok (.iconst (-1), 1) := by decide +kernel
theorem dX7_isUnder_12 : decode cX7_isUnder 12 = .ok (.if_icmp .eq 22, 3) := by decide +kernel
theorem dX7_isUnder_15 : decode cX7_isUnder 15 = .ok (.iload_n 2, 1) := by decide +kernel
theorem dX7_isUnder_16 : decode cX7_isUnder 16 = .ok (.iload_n 1, 1) := by decide +kernel
theorem dX7_isUnder_17 : decode cX7_isUnder 17 = .ok (.if_icmp .ne 5, 3) := by decide +kernel
theorem dX7_isUnder_20 : decode cX7_isUnder 20 = .ok (.iconst 1, 1) := by decide +kernel
theorem dX7_isUnder_21 : decode cX7_isUnder 21 = .ok (.ireturn, 1) := by decide +kernel
theorem dX7_isUnder_22 : decode cX7_isUnder 22 = .ok (.getstatic 277, 3) := by decide +kernel
theorem dX7_isUnder_25 : decode cX7_isUnder 25 = .ok (.iload_n 2, 1) := by decide +kernel
theorem dX7_isUnder_26 : decode cX7_isUnder 26 = .ok (.iaload, 1) := by decide +kernel
theorem dX7_isUnder_27 : decode cX7_isUnder 27 = .ok (.istore_n 2, 1) := by decide +kernel
theorem dX7_isUnder_28 : decode cX7_isUnder 28 = .ok (.iinc 3 1, 3) := by decide +kernel
theorem dX7_isUnder_31 : decode cX7_isUnder 31 = .ok (.goto (-27), 3) := by decide +kernel
theorem dX7_isUnder_34 : decode cX7_isUnder 34 = .ok (.iconst 0, 1) := by decide +kernel
theorem dX7_isUnder_35 : decode cX7_isUnder 35 = .ok (.ireturn, 1) := by decide +kernel
theorem dX7_bounded_0 : decode cX7_bounded 0 = .ok (.iload_n 1, 1) := by decide +kernel
theorem dX7_bounded_1 : decode cX7_bounded 1 = .ok (.iload_n 2, 1) := by decide +kernel
theorem dX7_bounded_2 : decode cX7_bounded 2 = .ok (.iload_n 0, 1) := by decide +kernel
theorem dX7_bounded_3 : decode cX7_bounded 3 = .ok (.invokestatic 153, 3) := by decide +kernel
theorem dX7_bounded_6 : decode cX7_bounded 6 = .ok (.invokestatic 280, 3) := by decide +kernel
theorem dX7_bounded_9 : decode cX7_bounded 9 = .ok (.ireturn, 1) := by decide +kernel
theorem dX7_commonDivisor_0 : decode cX7_commonDivisor 0 = .ok (.iload_n 0, 1) := by decide +kernel
theorem dX7_commonDivisor_1 : decode cX7_commonDivisor 1 = .ok (.istore_n 2, 1) := by decide +kernel
theorem dX7_commonDivisor_2 : decode cX7_commonDivisor 2 = .ok (.iload_n 1, 1) := by decide +kernel
theorem dX7_commonDivisor_3 : decode cX7_commonDivisor 3 = .ok (.istore_n 3, 1) := by decide +kernel
theorem dX7_commonDivisor_4 : decode cX7_commonDivisor 4 = .ok (.iconst 0, 1) := by decide +kernel
theorem dX7_commonDivisor_5 : decode cX7_commonDivisor 5 = .ok (.istore 4, 2) := by decide +kernel
theorem dX7_commonDivisor_7 : decode cX7_commonDivisor 7 = .ok (.iload 4, 2) := by decide +kernel
theorem dX7_commonDivisor_9 : decode cX7_commonDivisor 9 = .ok (.bipush 20, 2) := by decide +kernel
theorem dX7_commonDivisor_11 : decode cX7_commonDivisor 11 = .ok (.if_icmp .ge 23, 3) := by decide +kernel
theorem dX7_commonDivisor_14 : decode cX7_commonDivisor 14 = .ok (.iload_n 3, 1) := by decide +kernel
theorem dX7_commonDivisor_15 : decode cX7_commonDivisor 15 = .ok (.ifCond .eq 19, 3) := by decide +kernel
theorem dX7_commonDivisor_18 : decode cX7_commonDivisor 18 = .ok (.iload_n 2, 1) := by decide +kernel
theorem dX7_commonDivisor_19 : decode cX7_commonDivisor 19 = .ok (.iload_n 3, 1) := by decide +kernel
theorem dX7_commonDivisor_20 : decode cX7_commonDivisor 20 = .ok (.irem, 1) := by decide +kernel
theorem dX7_commonDivisor_21 : decode cX7_commonDivisor 21 = .ok (.istore 5, 2) := by decide +kernel
theorem dX7_commonDivisor_23 : decode cX7_commonDivisor 23 = .ok (.iload_n 3, 1) := by decide +kernel
theorem dX7_commonDivisor_24 : decode cX7_commonDivisor 24 = .ok (.istore_n 2, 1) := by decide +kernel
theorem dX7_commonDivisor_25 : decode cX7_commonDivisor 25 = .ok (.iload 5, 2) := by decide +kernel
theorem dX7_commonDivisor_27 : decode cX7_commonDivisor 27 = .ok (.istore_n 3, 1) := by decide +kernel
theorem dX7_commonDivisor_28 : decode cX7_commonDivisor 28 = .ok (.iinc 4 1, 3) := by decide +kernel
theorem dX7_commonDivisor_31 : decode cX7_commonDivisor 31 = .ok (.goto (-24), 3) := by decide +kernel
theorem dX7_commonDivisor_34 : decode cX7_commonDivisor 34 = .ok (.iconst 1, 1) := by decide +kernel
theorem dX7_commonDivisor_35 : decode cX7_commonDivisor 35 = .ok (.iload_n 2, 1) := by decide +kernel
theorem dX7_commonDivisor_36 : decode cX7_commonDivisor 36 = .ok (.invokestatic 280, 3) := by decide +kernel
theorem dX7_commonDivisor_39 : decode cX7_commonDivisor 39 = .ok (.ireturn, 1) := by decide +kernel
theorem dX7_allIf_0 : decode cX7_allIf 0 = .ok (.aload_n 0, 1) := by decide +kernel
theorem dX7_allIf_1 : decode cX7_allIf 1 = .ok (.getfield 20, 3) := by decide +kernel
theorem dX7_allIf_4 : decode cX7_allIf 4 = .ok (.getfield 98, 3) := by decide +kernel
theorem dX7_allIf_7 : decode cX7_allIf 7 = .ok (.iload_n 1, 1) := by decide +kernel
theorem dX7_allIf_8 : decode cX7_allIf 8 = .ok (.aaload, 1) := by decide +kernel
theorem dX7_allIf_9 : decode cX7_allIf 9 = .ok (.astore 4, 2) := by decide +kernel
theorem dX7_allIf_11 : decode cX7_allIf 11 = .ok (.aload 4, 2) := by decide +kernel
theorem dX7_allIf_13 : decode cX7_allIf 13 = .ok (.iload_n 2, 1) := by decide +kernel
theorem dX7_allIf_14 : decode cX7_allIf 14 = .ok (.invokevirtual 102, 3) := by decide +kernel
theorem dX7_allIf_17 : decode cX7_allIf 17 = .ok (.istore 5, 2) := by decide +kernel
theorem dX7_allIf_19 : decode cX7_allIf 19 = .ok (.aload 4, 2) := by decide +kernel
theorem dX7_allIf_21 : decode cX7_allIf 21 = .ok (.iload_n 2, 1) := by decide +kernel
theorem dX7_allIf_22 : decode cX7_allIf 22 = .ok (.iload_n 3, 1) := by decide +kernel
theorem dX7_allIf_23 : decode cX7_allIf 23 = .ok (.invokevirtual 108, 3) := by decide +kernel
theorem dX7_allIf_26 : decode cX7_allIf 26 = .ok (.aload_n 0, 1) := by decide +kernel
theorem dX7_allIf_27 : decode cX7_allIf 27 = .ok (.getfield 10, 3) := by decide +kernel
theorem dX7_allIf_30 : decode cX7_allIf 30 = .ok (.invokevirtual 146, 3) := by decide +kernel
theorem dX7_allIf_33 : decode cX7_allIf 33 = .ok (.istore 6, 2) := by decide +kernel
theorem dX7_allIf_35 : decode cX7_allIf 35 = .ok (.aload 4, 2) := by decide +kernel
theorem dX7_allIf_37 : decode cX7_allIf 37 = .ok (.iload_n 2, 1) := by decide +kernel
theorem dX7_allIf_38 : decode cX7_allIf 38 = .ok (.iload 5, 2) := by decide +kernel
theorem dX7_allIf_40 : decode cX7_allIf 40 = .ok (.invokevirtual 108, 3) := by decide +kernel
theorem dX7_allIf_43 : decode cX7_allIf 43 = .ok (.iload 6, 2) := by decide +kernel
theorem dX7_allIf_45 : decode cX7_allIf 45 = .ok (.ireturn, 1) := by decide +kernel
theorem dX7_dueIfOut_0 : decode cX7_dueIfOut 0 = .ok (.aload_n 0, 1) := by decide +kernel
theorem dX7_dueIfOut_1 : decode cX7_dueIfOut 1 = .ok (.getfield 20, 3) := by decide +kernel
theorem dX7_dueIfOut_4 : decode cX7_dueIfOut 4 = .ok (.getfield 98, 3) := by decide +kernel
theorem dX7_dueIfOut_7 : decode cX7_dueIfOut 7 = .ok (.iload_n 1, 1) := by decide +kernel
theorem dX7_dueIfOut_8 : decode cX7_dueIfOut 8 = .ok (.aaload, 1) := by decide +kernel
theorem dX7_dueIfOut_9 : decode cX7_dueIfOut 9 = .ok (.astore_n 3, 1) := by decide +kernel
theorem dX7_dueIfOut_10 : decode cX7_dueIfOut 10 = .ok (.aload_n 3, 1) := by decide +kernel
theorem dX7_dueIfOut_11 : decode cX7_dueIfOut 11 = .ok (.getfield 175, 3) := by decide +kernel
theorem dX7_dueIfOut_14 : decode cX7_dueIfOut 14 = .ok (.istore 4, 2) := by decide +kernel
theorem dX7_dueIfOut_16 : decode cX7_dueIfOut 16 = .ok (.aload_n 3, 1) := by decide +kernel
theorem dX7_dueIfOut_17 : decode cX7_dueIfOut 17 = .ok (.iload_n 2, 1) := by decide +kernel
theorem dX7_dueIfOut_18 : decode cX7_dueIfOut 18 = .ok (.putfield 175, 3) := by decide +kernel
theorem dX7_dueIfOut_21 : decode cX7_dueIfOut 21 = .ok (.aload_n 0, 1) := by decide +kernel
theorem dX7_dueIfOut_22 : decode cX7_dueIfOut 22 = .ok (.getfield 10, 3) := by decide +kernel
theorem dX7_dueIfOut_25 : decode cX7_dueIfOut 25 = .ok (.aload_n 3, 1) := by decide +kernel
theorem dX7_dueIfOut_26 : decode cX7_dueIfOut 26 = .ok (.getfield 122, 3) := by decide +kernel
theorem dX7_dueIfOut_29 : decode cX7_dueIfOut 29 = .ok (.invokevirtual 125, 3) := by decide +kernel
theorem dX7_dueIfOut_32 : decode cX7_dueIfOut 32 = .ok (.istore 5, 2) := by decide +kernel
theorem dX7_dueIfOut_34 : decode cX7_dueIfOut 34 = .ok (.aload_n 3, 1) := by decide +kernel
theorem dX7_dueIfOut_35 : decode cX7_dueIfOut 35 = .ok (.iload 4, 2) := by decide +kernel
theorem dX7_dueIfOut_37 : decode cX7_dueIfOut 37 = .ok (.putfield 175, 3) := by decide +kernel
theorem dX7_dueIfOut_40 : decode cX7_dueIfOut 40 = .ok (.iload 5, 2) := by decide +kernel
theorem dX7_dueIfOut_42 : decode cX7_dueIfOut 42 = .ok (.ireturn, 1) := by decide +kernel
theorem dX7_bestMove_0 : decode cX7_bestMove 0 = .ok (.aload_n 0, 1) := by decide +kernel
theorem dX7_bestMove_1 : decode cX7_bestMove 1 = .ok (.getfield 46, 3) := by decide +kernel
theorem dX7_bestMove_4 : decode cX7_bestMove 4 = .ok (.aload_n 0, 1) := by decide +kernel
theorem dX7_bestMove_5 : decode cX7_bestMove 5 = .ok (.getfield 10, 3) := by decide +kernel
theorem dX7_bestMove_8 : decode cX7_bestMove 8 = .ok (.invokevirtual 146, 3) := by decide +kernel
theorem dX7_bestMove_11 : decode cX7_bestMove 11 = .ok (.invokevirtual 171, 3) := by decide +kernel
theorem dX7_bestMove_14 : decode cX7_bestMove 14 = .ok (.iconst 0, 1) := by decide +kernel
theorem dX7_bestMove_15 : decode cX7_bestMove 15 = .ok (.istore_n 3, 1) := by decide +kernel
theorem dX7_bestMove_16 : decode cX7_bestMove 16 = .ok (.iload_n 3, 1) := by decide +kernel
theorem dX7_bestMove_17 : decode cX7_bestMove 17 = .ok (.aload_n 0, 1) := by decide +kernel
theorem dX7_bestMove_18 : decode cX7_bestMove 18 = .ok (.getfield 20, 3) := by decide +kernel
theorem dX7_bestMove_21 : decode cX7_bestMove 21 = .ok (.getfield 112, 3) := by decide +kernel
theorem dX7_bestMove_24 : decode cX7_bestMove 24 = .ok (.if_icmp .ge 69, 3) := by decide +kernel
theorem dX7_bestMove_27 : decode cX7_bestMove 27 = .ok (.iload_n 2, 1) := by decide +kernel
theorem dX7_bestMove_28 : decode cX7_bestMove 28 = .ok (.ifCond .eq 22, 3) := by decide +kernel
theorem dX7_bestMove_31 : decode cX7_bestMove 31 = .ok (.aload_n 0, 1) := by decide +kernel
theorem dX7_bestMove_32 : decode cX7_bestMove 32 = .ok (.getfield 20, 3) := by decide +kernel
theorem dX7_bestMove_35 : decode cX7_bestMove 35 = .ok (.getfield 98, 3) := by decide +kernel
theorem dX7_bestMove_38 : decode cX7_bestMove 38 = .ok (.iload_n 3, 1) := by decide +kernel
theorem dX7_bestMove_39 : decode cX7_bestMove 39 = .ok (.aaload, 1) := by decide +kernel
theorem dX7_bestMove_40 : decode cX7_bestMove 40 = .ok (.getfield 262, 3) := by decide +kernel
theorem dX7_bestMove_43 : decode cX7_bestMove 43 = .ok (.iconst 5, 1) := by decide +kernel
theorem dX7_bestMove_44 : decode cX7_bestMove 44 = .ok (.if_icmp .eq 6, 3) := by decide +kernel
theorem dX7_bestMove_47 : decode cX7_bestMove 47 = .ok (.goto 40, 3) := by decide +kernel
theorem dX7_bestMove_50 : decode cX7_bestMove 50 = .ok (.iconst 0, 1) := by decide +kernel
theorem dX7_bestMove_51 : decode cX7_bestMove 51 = .ok (.istore 4, 2) := by decide +kernel
theorem dX7_bestMove_53 : decode cX7_bestMove 53 = .ok (.iload 4, 2) := by decide +kernel
theorem dX7_bestMove_55 : decode cX7_bestMove 55 = .ok (.iconst 5, 1) := by decide +kernel
theorem dX7_bestMove_56 : decode cX7_bestMove 56 = .ok (.if_icmp .ge 31, 3) := by decide +kernel
theorem dX7_bestMove_59 : decode cX7_bestMove 59 = .ok (.aload_n 0, 1) := by decide +kernel
theorem dX7_bestMove_60 : decode cX7_bestMove 60 = .ok (.getfield 46, 3) := by decide +kernel
theorem dX7_bestMove_63 : decode cX7_bestMove 63 = .ok (.bipush 10, 2) := by decide +kernel
theorem dX7_bestMove_65 : decode cX7_bestMove 65 = .ok (.iload_n 3, 1) := by decide +kernel
theorem dX7_bestMove_66 : decode cX7_bestMove 66 = .ok (.imul, 1) := by decide +kernel
theorem dX7_bestMove_67 : decode cX7_bestMove 67 = .ok (.iload 4, 2) := by decide +kernel
theorem dX7_bestMove_69 : decode cX7_bestMove 69 = .ok (.iadd, 1) := by decide +kernel
theorem dX7_bestMove_70 : decode cX7_bestMove 70 = .ok (.aload_n 0, 1) := by decide +kernel
theorem dX7_bestMove_71 : decode cX7_bestMove 71 = .ok (.iload_n 3, 1) := by decide +kernel
theorem dX7_bestMove_72 : decode cX7_bestMove 72 = .ok (.iconst 2, 1) := by decide +kernel
theorem dX7_bestMove_73 : decode cX7_bestMove 73 = .ok (.iload 4, 2) := by decide +kernel
theorem dX7_bestMove_75 : decode cX7_bestMove 75 = .ok (.invokevirtual 163, 3) := by decide +kernel
theorem dX7_bestMove_78 : decode cX7_bestMove 78 = .ok (.invokevirtual 178, 3) := by decide +kernel
theorem dX7_bestMove_81 : decode cX7_bestMove 81 = .ok (.iinc 4 1, 3) := by decide +kernel
theorem dX7_bestMove_84 : decode cX7_bestMove 84 = .ok (.goto (-31), 3) := by decide +kernel
theorem dX7_bestMove_87 : decode cX7_bestMove 87 = .ok (.iinc 3 1, 3) := by decide +kernel
theorem dX7_bestMove_90 : decode cX7_bestMove 90 = .ok (.goto (-74), 3) := by decide +kernel
theorem dX7_bestMove_93 : decode cX7_bestMove 93 = .ok (.aload_n 0, 1) := by decide +kernel
theorem dX7_bestMove_94 : decode cX7_bestMove 94 = .ok (.getfield 46, 3) := by decide +kernel
theorem dX7_bestMove_97 : decode cX7_bestMove 97 = .ok (.iload_n 1, 1) := by decide +kernel
theorem dX7_bestMove_98 : decode cX7_bestMove 98 = .ok (.invokevirtual 181, 3) := by decide +kernel
theorem dX7_bestMove_101 : decode cX7_bestMove 101 = .ok (.ireturn, 1) := by decide +kernel
theorem dX7_changeHouses_0 : decode cX7_changeHouses 0 = .ok (.aload_n 0, 1) := by decide +kernel
theorem dX7_changeHouses_1 : decode cX7_changeHouses 1 = .ok (.getfield 20, 3) := by decide +kernel
theorem dX7_changeHouses_4 : decode cX7_changeHouses 4 = .ok (.getfield 98, 3) := by decide +kernel
theorem dX7_changeHouses_7 : decode cX7_changeHouses 7 = .ok (.iload_n 1, 1) := by decide +kernel
theorem dX7_changeHouses_8 : decode cX7_changeHouses 8 = .ok (.aaload, 1) := by decide +kernel
theorem dX7_changeHouses_9 : decode cX7_changeHouses 9 = .ok (.getfield 122, 3) := by decide +kernel
theorem dX7_changeHouses_12 : decode cX7_changeHouses 12 = .ok (.istore_n 3, 1) := by decide +kernel
theorem dX7_changeHouses_13 : decode cX7_changeHouses 13 = .ok (.aload_n 0, 1) := by decide +kernel
theorem dX7_changeHouses_14 : decode cX7_changeHouses 14 = .ok (.getfield 20, 3) := by decide +kernel
theorem dX7_changeHouses_17 : decode cX7_changeHouses 17 = .ok (.getfield 98, 3) := by decide +kernel
theorem dX7_changeHouses_20 : decode cX7_changeHouses 20 = .ok (.iload_n 1, 1) := by decide +kernel
theorem dX7_changeHouses_21 : decode cX7_changeHouses 21 = .ok (.aaload, 1) := by decide +kernel
theorem dX7_changeHouses_22 : decode cX7_changeHouses 22 = .ok (.aload_n 0, 1) := by decide +kernel
theorem dX7_changeHouses_23 : decode cX7_changeHouses 23 = .ok (.getfield 20, 3) := by decide +kernel
theorem dX7_changeHouses_26 : decode cX7_changeHouses 26 = .ok (.getfield 98, 3) := by decide +kernel
theorem dX7_changeHouses_29 : decode cX7_changeHouses 29 = .ok (.iload_n 2, 1) := by decide +kernel
theorem dX7_changeHouses_30 : decode cX7_changeHouses 30 = .ok (.aaload, 1) := by decide +kernel
theorem dX7_changeHouses_31 : decode cX7_changeHouses 31 = .ok (.getfield 122, 3) := by decide +kernel
theorem dX7_changeHouses_34 : decode cX7_changeHouses 34 = .ok (.putfield 122, 3) := by decide +kernel
theorem dX7_changeHouses_37 : decode cX7_changeHouses 37 = .ok (.aload_n 0, 1) := by decide +kernel
theorem dX7_changeHouses_38 : decode cX7_changeHouses 38 = .ok (.getfield 20, 3) := by decide +kernel
theorem dX7_changeHouses_41 : decode cX7_changeHouses 41 = .ok (.getfield 98, 3) := by decide +kernel
theorem dX7_changeHouses_44 : decode cX7_changeHouses 44 = .ok (.iload_n 2, 1) := by decide +kernel
theorem dX7_changeHouses_45 : decode cX7_changeHouses 45 = .ok (.aaload, 1) := by decide +kernel
theorem dX7_changeHouses_46 : decode cX7_changeHouses 46 = .ok (.iload_n 3, 1) := by decide +kernel
theorem dX7_changeHouses_47 : decode cX7_changeHouses 47 = .ok (.putfield 122, 3) := by decide +kernel
theorem dX7_changeHouses_50 : decode cX7_changeHouses 50 = .ok (.return_, 1) := by decide +kernel
theorem dX7_allDrawn_0 : decode cX7_allDrawn 0 = .ok (.iload_n 1, 1) := by decide +kernel
theorem dX7_allDrawn_1 : decode cX7_allDrawn 1 = .ok (.istore_n 2, 1) := by decide +kernel
theorem dX7_allDrawn_2 : decode cX7_allDrawn 2 = .ok (.iconst 0, 1) := by decide +kernel
theorem dX7_allDrawn_3 : decode cX7_allDrawn 3 = .ok (.istore_n 3, 1) := by decide +kernel
theorem dX7_allDrawn_4 : decode cX7_allDrawn 4 = .ok (.iload_n 3, 1) := by decide +kernel
theorem dX7_allDrawn_5 : decode cX7_allDrawn 5 = .ok (.aload_n 0, 1) := by decide +kernel
theorem dX7_allDrawn_6 : decode cX7_allDrawn 6 = .ok (.getfield 20, 3) := by decide +kernel
theorem dX7_allDrawn_9 : decode cX7_allDrawn 9 = .ok (.getfield 112, 3) := by decide +kernel
theorem dX7_allDrawn_12 : decode cX7_allDrawn 12 = .ok (.if_icmp .ge 59, 3) := by decide +kernel
theorem dX7_allDrawn_15 : decode cX7_allDrawn 15 = .ok (.aload_n 0, 1) := by decide +kernel
theorem dX7_allDrawn_16 : decode cX7_allDrawn 16 = .ok (.getfield 56, 3) := by decide +kernel
theorem dX7_allDrawn_19 : decode cX7_allDrawn 19 = .ok (.iload_n 3, 1) := by decide +kernel
theorem dX7_allDrawn_20 : decode cX7_allDrawn 20 = .ok (.aload_n 0, 1) := by decide +kernel
theorem dX7_allDrawn_21 : decode cX7_allDrawn 21 = .ok (.getfield 20, 3) := by decide +kernel
theorem dX7_allDrawn_24 : decode cX7_allDrawn 24 = .ok (.getfield 98, 3) := by decide +kernel
theorem dX7_allDrawn_27 : decode cX7_allDrawn 27 = .ok (.iload_n 3, 1) := by decide +kernel
theorem dX7_allDrawn_28 : decode cX7_allDrawn 28 = .ok (.aaload, 1) := by decide +kernel
theorem dX7_allDrawn_29 : decode cX7_allDrawn 29 = .ok (.getfield 283, 3) := by decide +kernel
theorem dX7_allDrawn_32 : decode cX7_allDrawn 32 = .ok (.iastore, 1) := by decide +kernel
theorem dX7_allDrawn_33 : decode cX7_allDrawn 33 = .ok (.iload_n 2, 1) := by decide +kernel
theorem dX7_allDrawn_34 : decode cX7_allDrawn 34 = .ok (.ldc_w 286, 3) := by decide +kernel
theorem dX7_allDrawn_37 : decode cX7_allDrawn 37 = .ok (.imul, 1) := by decide +kernel
theorem dX7_allDrawn_38 : decode cX7_allDrawn 38 = .ok (.sipush 12345, 3) := by decide +kernel
theorem dX7_allDrawn_41 : decode cX7_allDrawn 41 = .ok (.iadd, 1) := by decide +kernel
theorem dX7_allDrawn_42 : decode cX7_allDrawn 42 = .ok (.istore_n 2, 1) := by decide +kernel
theorem dX7_allDrawn_43 : decode cX7_allDrawn 43 = .ok (.aload_n 0, 1) := by decide +kernel
theorem dX7_allDrawn_44 : decode cX7_allDrawn 44 = .ok (.getfield 20, 3) := by decide +kernel
theorem dX7_allDrawn_47 : decode cX7_allDrawn 47 = .ok (.getfield 98, 3) := by decide +kernel
theorem dX7_allDrawn_50 : decode cX7_allDrawn 50 = .ok (.iload_n 3, 1) := by decide +kernel
theorem dX7_allDrawn_51 : decode cX7_allDrawn 51 = .ok (.aaload, 1) := by decide +kernel
theorem dX7_allDrawn_52 : decode cX7_allDrawn 52 = .ok (.iload_n 2, 1) := by decide +kernel
theorem dX7_allDrawn_53 : decode cX7_allDrawn 53 = .ok (.bipush 9, 2) := by decide +kernel
theorem dX7_allDrawn_55 : decode cX7_allDrawn 55 = .ok (.iushr, 1) := by decide +kernel
theorem dX7_allDrawn_56 : decode cX7_allDrawn 56 = .ok (.bipush 41, 2) := by decide +kernel
theorem dX7_allDrawn_58 : decode cX7_allDrawn 58 = .ok (.irem, 1) := by decide +kernel
theorem dX7_allDrawn_59 : decode cX7_allDrawn 59 = .ok (.bipush (-20), 2) := by decide +kernel
theorem dX7_allDrawn_61 : decode cX7_allDrawn 61 = .ok (.iadd, 1) := by decide +kernel
theorem dX7_allDrawn_62 : decode cX7_allDrawn 62 = .ok (.putfield 283, 3) := by decide +kernel
theorem dX7_allDrawn_65 : decode cX7_allDrawn 65 = .ok (.iinc 3 1, 3) := by decide +kernel
theorem dX7_allDrawn_68 : decode cX7_allDrawn 68 = .ok (.goto (-64), 3) := by decide +kernel
theorem dX7_allDrawn_71 : decode cX7_allDrawn 71 = .ok (.aload_n 0, 1) := by decide +kernel
theorem dX7_allDrawn_72 : decode cX7_allDrawn 72 = .ok (.getfield 10, 3) := by decide +kernel
theorem dX7_allDrawn_75 : decode cX7_allDrawn 75 = .ok (.invokevirtual 146, 3) := by decide +kernel
theorem dX7_allDrawn_78 : decode cX7_allDrawn 78 = .ok (.istore_n 3, 1) := by decide +kernel
theorem dX7_allDrawn_79 : decode cX7_allDrawn 79 = .ok (.iconst 0, 1) := by decide +kernel
theorem dX7_allDrawn_80 : decode cX7_allDrawn 80 = .ok (.istore 4, 2) := by decide +kernel
theorem dX7_allDrawn_82 : decode cX7_allDrawn 82 = .ok (.iload 4, 2) := by decide +kernel
theorem dX7_allDrawn_84 : decode cX7_allDrawn 84 = .ok (.aload_n 0, 1) := by decide +kernel
theorem dX7_allDrawn_85 : decode cX7_allDrawn 85 = .ok (.getfield 20, 3) := by decide +kernel
theorem dX7_allDrawn_88 : decode cX7_allDrawn 88 = .ok (.getfield 112, 3) := by decide +kernel
theorem dX7_allDrawn_91 : decode cX7_allDrawn 91 = .ok (.if_icmp .ge 29, 3) := by decide +kernel
theorem dX7_allDrawn_94 : decode cX7_allDrawn 94 = .ok (.aload_n 0, 1) := by decide +kernel
theorem dX7_allDrawn_95 : decode cX7_allDrawn 95 = .ok (.getfield 20, 3) := by decide +kernel
theorem dX7_allDrawn_98 : decode cX7_allDrawn 98 = .ok (.getfield 98, 3) := by decide +kernel
theorem dX7_allDrawn_101 : decode cX7_allDrawn 101 = .ok (.iload 4, 2) := by decide +kernel
theorem dX7_allDrawn_103 : decode cX7_allDrawn 103 = .ok (.aaload, 1) := by decide +kernel
theorem dX7_allDrawn_104 : decode cX7_allDrawn 104 = .ok (.aload_n 0, 1) := by decide +kernel
theorem dX7_allDrawn_105 : decode cX7_allDrawn 105 = .ok (.getfield 56, 3) := by decide +kernel
theorem dX7_allDrawn_108 : decode cX7_allDrawn 108 = .ok (.iload 4, 2) := by decide +kernel
theorem dX7_allDrawn_110 : decode cX7_allDrawn 110 = .ok (.iaload, 1) := by decide +kernel
theorem dX7_allDrawn_111 : decode cX7_allDrawn 111 = .ok (.putfield 283, 3) := by decide +kernel
theorem dX7_allDrawn_114 : decode cX7_allDrawn 114 = .ok (.iinc 4 1, 3) := by decide +kernel
theorem dX7_allDrawn_117 : decode cX7_allDrawn 117 = .ok (.goto (-35), 3) := by decide +kernel
theorem dX7_allDrawn_120 : decode cX7_allDrawn 120 = .ok (.iload_n 3, 1) := by decide +kernel
theorem dX7_allDrawn_121 : decode cX7_allDrawn 121 = .ok (.ireturn, 1) := by decide +kernel
theorem dX7_firstOther_0 : decode cX7_firstOther 0 = .ok (.aload_n 0, 1) := by decide +kernel
theorem dX7_firstOther_1 : decode cX7_firstOther 1 = .ok (.getfield 10, 3) := by decide +kernel
theorem dX7_firstOther_4 : decode cX7_firstOther 4 = .ok (.iload_n 2, 1) := by decide +kernel
theorem dX7_firstOther_5 : decode cX7_firstOther 5 = .ok (.invokevirtual 125, 3) := by decide +kernel
theorem dX7_firstOther_8 : decode cX7_firstOther 8 = .ok (.pop, 1) := by decide +kernel
theorem dX7_firstOther_9 : decode cX7_firstOther 9 = .ok (.iconst 0, 1) := by decide +kernel
theorem dX7_firstOther_10 : decode cX7_firstOther 10 = .ok (.istore_n 3, 1) := by decide +kernel
theorem dX7_firstOther_11 : decode cX7_firstOther 11 = .ok (.iload_n 3, 1) := by decide +kernel
theorem dX7_firstOther_12 : decode cX7_firstOther 12 = .ok (.bipush 6, 2) := by decide +kernel
theorem dX7_firstOther_14 : decode cX7_firstOther 14 = .ok (.if_icmp .ge 29, 3) := by decide +kernel
theorem dX7_firstOther_17 : decode cX7_firstOther 17 = .ok (.aload_n 0, 1) := by decide +kernel
theorem dX7_firstOther_18 : decode cX7_firstOther 18 = .ok (.getfield 10, 3) := by decide +kernel
theorem dX7_firstOther_21 : decode cX7_firstOther 21 = .ok (.getfield 143, 3) := by decide +kernel
theorem dX7_firstOther_24 : decode cX7_firstOther 24 = .ok (.iload_n 3, 1) := by decide +kernel
theorem dX7_firstOther_25 : decode cX7_firstOther 25 = .ok (.iaload, 1) := by decide +kernel
theorem dX7_firstOther_26 : decode cX7_firstOther 26 = .ok (.aload_n 1, 1) := by decide +kernel
theorem dX7_firstOther_27 : decode cX7_firstOther 27 = .ok (.getfield 250, 3) := by decide +kernel
theorem dX7_firstOther_30 : decode cX7_firstOther 30 = .ok (.iload_n 3, 1) := by decide +kernel
theorem dX7_firstOther_31 : decode cX7_firstOther 31 = .ok (.iaload, 1) := by decide +kernel
theorem dX7_firstOther_32 : decode cX7_firstOther 32 = .ok (.if_icmp .eq 5, 3) := by decide +kernel
theorem dX7_firstOther_35 : decode cX7_firstOther 35 = .ok (.iload_n 3, 1) := by decide +kernel
theorem dX7_firstOther_36 : decode cX7_firstOther 36 = .ok (.ireturn, 1) := by decide +kernel
theorem dX7_firstOther_37 : decode cX7_firstOther 37 = .ok (.iinc 3 1, 3) := by decide +kernel
theorem dX7_firstOther_40 : decode cX7_firstOther 40 = .ok (.goto (-29), 3) := by decide +kernel
theorem dX7_firstOther_43 : decode cX7_firstOther 43 = .ok (.iconst (-1), 1) := by decide +kernel
theorem dX7_firstOther_44 : decode cX7_firstOther 44 = .ok (.ireturn, 1) := by decide +kernel
theorem dX7_wouldFit_0 : decode cX7_wouldFit 0 = .ok (.aload_n 0, 1) := by decide +kernel
theorem dX7_wouldFit_1 : decode cX7_wouldFit 1 = .ok (.getfield 20, 3) := by decide +kernel
theorem dX7_wouldFit_4 : decode cX7_wouldFit 4 = .ok (.getfield 98, 3) := by decide +kernel
theorem dX7_wouldFit_7 : decode cX7_wouldFit 7 = .ok (.iload_n 3, 1) := by decide +kernel
theorem dX7_wouldFit_8 : decode cX7_wouldFit 8 = .ok (.aaload, 1) := by decide +kernel
theorem dX7_wouldFit_9 : decode cX7_wouldFit 9 = .ok (.astore 6, 2) := by decide +kernel
theorem dX7_wouldFit_11 : decode cX7_wouldFit 11 = .ok (.aload 6, 2) := by decide +kernel
theorem dX7_wouldFit_13 : decode cX7_wouldFit 13 = .ok (.iload 4, 2) := by decide +kernel
theorem dX7_wouldFit_15 : decode cX7_wouldFit 15 = .ok (.invokevirtual 102, 3) := by decide +kernel
theorem dX7_wouldFit_18 : decode cX7_wouldFit 18 = .ok (.istore 7, 2) := by decide +kernel
theorem dX7_wouldFit_20 : decode cX7_wouldFit 20 = .ok (.aload 6, 2) := by decide +kernel
theorem dX7_wouldFit_22 : decode cX7_wouldFit 22 = .ok (.iload 4, 2) := by decide +kernel
theorem dX7_wouldFit_24 : decode cX7_wouldFit 24 = .ok (.iload 5, 2) := by decide +kernel
theorem dX7_wouldFit_26 : decode cX7_wouldFit 26 = .ok (.invokevirtual 108, 3) := by decide +kernel
theorem dX7_wouldFit_29 : decode cX7_wouldFit 29 = .ok (.aload_n 0, 1) := by decide +kernel
theorem dX7_wouldFit_30 : decode cX7_wouldFit 30 = .ok (.aload_n 1, 1) := by decide +kernel
theorem dX7_wouldFit_31 : decode cX7_wouldFit 31 = .ok (.iload_n 2, 1) := by decide +kernel
theorem dX7_wouldFit_32 : decode cX7_wouldFit 32 = .ok (.invokevirtual 202, 3) := by decide +kernel
theorem dX7_wouldFit_35 : decode cX7_wouldFit 35 = .ok (.iconst (-1), 1) := by decide +kernel
theorem dX7_wouldFit_36 : decode cX7_wouldFit 36 = .ok (.if_icmp .ne 7, 3) := by decide +kernel
theorem dX7_wouldFit_39 : decode cX7_wouldFit 39 = .ok (.iconst 1, 1) := by decide +kernel
theorem dX7_wouldFit_40 : decode cX7_wouldFit 40 = .ok (.goto 4, 3) := by decide +kernel
theorem dX7_wouldFit_43 : decode cX7_wouldFit 43 = .ok (.iconst 0, 1) := by decide +kernel
theorem dX7_wouldFit_44 : decode cX7_wouldFit 44 = .ok (.istore 8, 2) := by decide +kernel
theorem dX7_wouldFit_46 : decode cX7_wouldFit 46 = .ok (.aload 6, 2) := by decide +kernel
theorem dX7_wouldFit_48 : decode cX7_wouldFit 48 = .ok (.iload 4, 2) := by decide +kernel
theorem dX7_wouldFit_50 : decode cX7_wouldFit 50 = .ok (.iload 7, 2) := by decide +kernel
theorem dX7_wouldFit_52 : decode cX7_wouldFit 52 = .ok (.invokevirtual 108, 3) := by decide +kernel
theorem dX7_wouldFit_55 : decode cX7_wouldFit 55 = .ok (.iload 8, 2) := by decide +kernel
theorem dX7_wouldFit_57 : decode cX7_wouldFit 57 = .ok (.ireturn, 1) := by decide +kernel
theorem dX7_textsThatFit_0 : decode cX7_textsThatFit 0 = .ok (.aload_n 0, 1) := by decide +kernel
theorem dX7_textsThatFit_1 : decode cX7_textsThatFit 1 = .ok (.getfield 20, 3) := by decide +kernel
theorem dX7_textsThatFit_4 : decode cX7_textsThatFit 4 = .ok (.getfield 140, 3) := by decide +kernel
theorem dX7_textsThatFit_7 : decode cX7_textsThatFit 7 = .ok (.istore_n 3, 1) := by decide +kernel
theorem dX7_textsThatFit_8 : decode cX7_textsThatFit 8 = .ok (.iconst 0, 1) := by decide +kernel
theorem dX7_textsThatFit_9 : decode cX7_textsThatFit 9 = .ok (.istore 4, 2) := by decide +kernel
theorem dX7_textsThatFit_11 : decode cX7_textsThatFit 11 = .ok (.iconst 0, 1) := by decide +kernel
theorem dX7_textsThatFit_12 : decode cX7_textsThatFit 12 = .ok (.istore 5, 2) := by decide +kernel
theorem dX7_textsThatFit_14 : decode cX7_textsThatFit 14 = .ok (.iload 5, 2) := by decide +kernel
theorem dX7_textsThatFit_16 : decode cX7_textsThatFit 16 = .ok (.aload_n 0, 1) := by decide +kernel
theorem dX7_textsThatFit_17 : decode cX7_textsThatFit 17 = .ok (.getfield 25, 3) := by decide +kernel
theorem dX7_textsThatFit_20 : decode cX7_textsThatFit 20 = .ok (.getfield 136, 3) := by decide +kernel
theorem dX7_textsThatFit_23 : decode cX7_textsThatFit 23 = .ok (.if_icmp .ge 37, 3) := by decide +kernel
theorem dX7_textsThatFit_26 : decode cX7_textsThatFit 26 = .ok (.aload_n 0, 1) := by decide +kernel
theorem dX7_textsThatFit_27 : decode cX7_textsThatFit 27 = .ok (.getfield 20, 3) := by decide +kernel
theorem dX7_textsThatFit_30 : decode cX7_textsThatFit 30 = .ok (.iload 5, 2) := by decide +kernel
theorem dX7_textsThatFit_32 : decode cX7_textsThatFit 32 = .ok (.putfield 140, 3) := by decide +kernel
theorem dX7_textsThatFit_35 : decode cX7_textsThatFit 35 = .ok (.aload_n 0, 1) := by decide +kernel
theorem dX7_textsThatFit_36 : decode cX7_textsThatFit 36 = .ok (.aload_n 1, 1) := by decide +kernel
theorem dX7_textsThatFit_37 : decode cX7_textsThatFit 37 = .ok (.iload_n 2, 1) := by decide +kernel
theorem dX7_textsThatFit_38 : decode cX7_textsThatFit 38 = .ok (.invokevirtual 202, 3) := by decide +kernel
theorem dX7_textsThatFit_41 : decode cX7_textsThatFit 41 = .ok (.iconst (-1), 1) := by decide +kernel
theorem dX7_textsThatFit_42 : decode cX7_textsThatFit 42 = .ok (.if_icmp .ne 12, 3) := by decide +kernel
theorem dX7_textsThatFit_45 : decode cX7_textsThatFit 45 = .ok (.iload 4, 2) := by decide +kernel
theorem dX7_textsThatFit_47 : decode cX7_textsThatFit 47 = .ok (.iconst 1, 1) := by decide +kernel
theorem dX7_textsThatFit_48 : decode cX7_textsThatFit 48 = .ok (.iload 5, 2) := by decide +kernel
theorem dX7_textsThatFit_50 : decode cX7_textsThatFit 50 = .ok (.ishl, 1) := by decide +kernel
theorem dX7_textsThatFit_51 : decode cX7_textsThatFit 51 = .ok (.ior, 1) := by decide +kernel
theorem dX7_textsThatFit_52 : decode cX7_textsThatFit 52 = .ok (.istore 4, 2) := by decide +kernel
theorem dX7_textsThatFit_54 : decode cX7_textsThatFit 54 = .ok (.iinc 5 1, 3) := by decide +kernel
theorem dX7_textsThatFit_57 : decode cX7_textsThatFit 57 = .ok (.goto (-43), 3) := by decide +kernel
theorem dX7_textsThatFit_60 : decode cX7_textsThatFit 60 = .ok (.aload_n 0, 1) := by decide +kernel
theorem dX7_textsThatFit_61 : decode cX7_textsThatFit 61 = .ok (.getfield 20, 3) := by decide +kernel
theorem dX7_textsThatFit_64 : decode cX7_textsThatFit 64 = .ok (.iload_n 3, 1) := by decide +kernel
theorem dX7_textsThatFit_65 : decode cX7_textsThatFit 65 = .ok (.putfield 140, 3) := by decide +kernel
theorem dX7_textsThatFit_68 : decode cX7_textsThatFit 68 = .ok (.iload 4, 2) := by decide +kernel
theorem dX7_textsThatFit_70 : decode cX7_textsThatFit 70 = .ok (.ireturn, 1) := by decide +kernel
theorem dX7_bitsThatFit_0 : decode cX7_bitsThatFit 0 = .ok (.iconst 0, 1) := by decide +kernel
theorem dX7_bitsThatFit_1 : decode cX7_bitsThatFit 1 = .ok (.istore 5, 2) := by decide +kernel
theorem dX7_bitsThatFit_3 : decode cX7_bitsThatFit 3 = .ok (.getstatic 271, 3) := by decide +kernel
theorem dX7_bitsThatFit_6 : decode cX7_bitsThatFit 6 = .ok (.iload 4, 2) := by decide +kernel
theorem dX7_bitsThatFit_8 : decode cX7_bitsThatFit 8 = .ok (.iaload, 1) := by decide +kernel
theorem dX7_bitsThatFit_9 : decode cX7_bitsThatFit 9 = .ok (.istore 6, 2) := by decide +kernel
theorem dX7_bitsThatFit_11 : decode cX7_bitsThatFit 11 = .ok (.iload 6, 2) := by decide +kernel
theorem dX7_bitsThatFit_13 : decode cX7_bitsThatFit 13 = .ok (.getstatic 274, 3) := by decide +kernel
theorem dX7_bitsThatFit_16 : decode cX7_bitsThatFit 16 = .ok (.iload 4, 2) := by decide +kernel
theorem dX7_bitsThatFit_18 : decode cX7_bitsThatFit 18 = .ok (.iaload, 1) := by decide +kernel
theorem dX7_bitsThatFit_19 : decode cX7_bitsThatFit 19 = .ok (.if_icmp .gt 32, 3) := by decide +kernel
theorem dX7_bitsThatFit_22 : decode cX7_bitsThatFit 22 = .ok (.aload_n 0, 1) := by decide +kernel
theorem dX7_bitsThatFit_23 : decode cX7_bitsThatFit 23 = .ok (.aload_n 1, 1) := by decide +kernel
theorem dX7_bitsThatFit_24 : decode cX7_bitsThatFit 24 = .ok (.iload_n 2, 1) := by decide +kernel
theorem dX7_bitsThatFit_25 : decode cX7_bitsThatFit 25 = .ok (.iload_n 3, 1) := by decide +kernel
theorem dX7_bitsThatFit_26 : decode cX7_bitsThatFit 26 = .ok (.iload 4, 2) := by decide +kernel
theorem dX7_bitsThatFit_28 : decode cX7_bitsThatFit 28 = .ok (.iload 6, 2) := by decide +kernel
theorem dX7_bitsThatFit_30 : decode cX7_bitsThatFit 30 = .ok (.invokevirtual 287, 3) := by decide +kernel
theorem dX7_bitsThatFit_33 : decode cX7_bitsThatFit 33 = .ok (.ifCond .eq 12, 3) := by decide +kernel
theorem dX7_bitsThatFit_36 : decode cX7_bitsThatFit 36 = .ok (.iload 5, 2) := by decide +kernel
theorem dX7_bitsThatFit_38 : decode cX7_bitsThatFit 38 = .ok (.iconst 1, 1) := by decide +kernel
theorem dX7_bitsThatFit_39 : decode cX7_bitsThatFit 39 = .ok (.iload 6, 2) := by decide +kernel
theorem dX7_bitsThatFit_41 : decode cX7_bitsThatFit 41 = .ok (.ishl, 1) := by decide +kernel
theorem dX7_bitsThatFit_42 : decode cX7_bitsThatFit 42 = .ok (.ior, 1) := by decide +kernel
theorem dX7_bitsThatFit_43 : decode cX7_bitsThatFit 43 = .ok (.istore 5, 2) := by decide +kernel
theorem dX7_bitsThatFit_45 : decode cX7_bitsThatFit 45 = .ok (.iinc 6 1, 3) := by decide +kernel
theorem dX7_bitsThatFit_48 : decode cX7_bitsThatFit 48 = .ok (.goto (-37), 3) := by decide +kernel
theorem dX7_bitsThatFit_51 : decode cX7_bitsThatFit 51 = .ok (.iload 5, 2) := by decide +kernel
theorem dX7_bitsThatFit_53 : decode cX7_bitsThatFit 53 = .ok (.ireturn, 1) := by decide +kernel
theorem dX7_howManyFit_0 : decode cX7_howManyFit 0 = .ok (.iconst 0, 1) := by decide +kernel
theorem dX7_howManyFit_1 : decode cX7_howManyFit 1 = .ok (.istore 5, 2) := by decide +kernel
theorem dX7_howManyFit_3 : decode cX7_howManyFit 3 = .ok (.getstatic 271, 3) := by decide +kernel
theorem dX7_howManyFit_6 : decode cX7_howManyFit 6 = .ok (.iload 4, 2) := by decide +kernel
theorem dX7_howManyFit_8 : decode cX7_howManyFit 8 = .ok (.iaload, 1) := by decide +kernel
theorem dX7_howManyFit_9 : decode cX7_howManyFit 9 = .ok (.istore 6, 2) := by decide +kernel
theorem dX7_howManyFit_11 : decode cX7_howManyFit 11 = .ok (.iload 6, 2) := by decide +kernel
theorem dX7_howManyFit_13 : decode cX7_howManyFit 13 = .ok (.getstatic 274, 3) := by decide +kernel
theorem dX7_howManyFit_16 : decode cX7_howManyFit 16 = .ok (.iload 4, 2) := by decide +kernel
theorem dX7_howManyFit_18 : decode cX7_howManyFit 18 = .ok (.iaload, 1) := by decide +kernel
theorem dX7_howManyFit_19 : decode cX7_howManyFit 19 = .ok (.if_icmp .gt 26, 3) := by decide +kernel
theorem dX7_howManyFit_22 : decode cX7_howManyFit 22 = .ok (.aload_n 0, 1) := by decide +kernel
theorem dX7_howManyFit_23 : decode cX7_howManyFit 23 = .ok (.aload_n 1, 1) := by decide +kernel
theorem dX7_howManyFit_24 : decode cX7_howManyFit 24 = .ok (.iload_n 2, 1) := by decide +kernel
theorem dX7_howManyFit_25 : decode cX7_howManyFit 25 = .ok (.iload_n 3, 1) := by decide +kernel
theorem dX7_howManyFit_26 : decode cX7_howManyFit 26 = .ok (.iload 4, 2) := by decide +kernel
theorem dX7_howManyFit_28 : decode cX7_howManyFit 28 = .ok (.iload 6, 2) := by decide +kernel
theorem dX7_howManyFit_30 : decode cX7_howManyFit 30 = .ok (.invokevirtual 287, 3) := by decide +kernel
theorem dX7_howManyFit_33 : decode cX7_howManyFit 33 = .ok (.ifCond .eq 6, 3) := by decide +kernel
theorem dX7_howManyFit_36 : decode cX7_howManyFit 36 = .ok (.iinc 5 1, 3) := by decide +kernel
theorem dX7_howManyFit_39 : decode cX7_howManyFit 39 = .ok (.iinc 6 1, 3) := by decide +kernel
theorem dX7_howManyFit_42 : decode cX7_howManyFit 42 = .ok (.goto (-31), 3) := by decide +kernel
theorem dX7_howManyFit_45 : decode cX7_howManyFit 45 = .ok (.iload 5, 2) := by decide +kernel
theorem dX7_howManyFit_47 : decode cX7_howManyFit 47 = .ok (.ireturn, 1) := by decide +kernel
theorem dX7_leastThatFits_0 : decode cX7_leastThatFits 0 = .ok (.getstatic 271, 3) := by decide +kernel
theorem dX7_leastThatFits_3 : decode cX7_leastThatFits 3 = .ok (.iload 4, 2) := by decide +kernel
theorem dX7_leastThatFits_5 : decode cX7_leastThatFits 5 = .ok (.iaload, 1) := by decide +kernel
theorem dX7_leastThatFits_6 : decode cX7_leastThatFits 6 = .ok (.istore 6, 2) := by decide +kernel
theorem dX7_leastThatFits_8 : decode cX7_leastThatFits 8 = .ok (.iload 6, 2) := by decide +kernel
theorem dX7_leastThatFits_10 : decode cX7_leastThatFits 10 = .ok (.getstatic 274, 3) := by decide +kernel
theorem dX7_leastThatFits_13 : decode cX7_leastThatFits 13 = .ok (.iload 4, 2) := by decide +kernel
theorem dX7_leastThatFits_15 : decode cX7_leastThatFits 15 = .ok (.iaload, 1) := by decide +kernel
theorem dX7_leastThatFits_16 : decode cX7_leastThatFits 16 = .ok (.if_icmp .gt 26, 3) := by decide +kernel
theorem dX7_leastThatFits_19 : decode cX7_leastThatFits 19 = .ok (.aload_n 0, 1) := by decide +kernel
theorem dX7_leastThatFits_20 : decode cX7_leastThatFits 20 = .ok (.aload_n 1, 1) := by decide +kernel
theorem dX7_leastThatFits_21 : decode cX7_leastThatFits 21 = .ok (.iload_n 2, 1) := by decide +kernel
theorem dX7_leastThatFits_22 : decode cX7_leastThatFits 22 = .ok (.iload_n 3, 1) := by decide +kernel
theorem dX7_leastThatFits_23 : decode cX7_leastThatFits 23 = .ok (.iload 4, 2) := by decide +kernel
theorem dX7_leastThatFits_25 : decode cX7_leastThatFits 25 = .ok (.iload 6, 2) := by decide +kernel
theorem dX7_leastThatFits_27 : decode cX7_leastThatFits 27 = .ok (.invokevirtual 287, 3) := by decide +kernel
theorem dX7_leastThatFits_30 : decode cX7_leastThatFits 30 = .ok (.ifCond .eq 6, 3) := by decide +kernel
theorem dX7_leastThatFits_33 : decode cX7_leastThatFits 33 = .ok (.iload 6, 2) := by decide +kernel
theorem dX7_leastThatFits_35 : decode cX7_leastThatFits 35 = .ok (.ireturn, 1) := by decide +kernel
theorem dX7_leastThatFits_36 : decode cX7_leastThatFits 36 = .ok (.iinc 6 1, 3) := by decide +kernel
theorem dX7_leastThatFits_39 : decode cX7_leastThatFits 39 = .ok (.goto (-31), 3) := by decide +kernel
theorem dX7_leastThatFits_42 : decode cX7_leastThatFits 42 = .ok (.iload 5, 2) := by decide +kernel
theorem dX7_leastThatFits_44 : decode cX7_leastThatFits 44 = .ok (.ireturn, 1) := by decide +kernel
theorem dJ6_bitCount_0f7a4_0 : decode cJ6_bitCount_0f7a4 0 = .ok (.iload_n 0, 1) := by decide +kernel
theorem dJ6_bitCount_0f7a4_1 : decode cJ6_bitCount_0f7a4 1 = .ok (.iload_n 0, 1) := by decide +kernel
theorem dJ6_bitCount_0f7a4_2 : decode cJ6_bitCount_0f7a4 2 = .ok (.iconst 1, 1) := by decide +kernel
theorem dJ6_bitCount_0f7a4_3 : decode cJ6_bitCount_0f7a4 3 = .ok (.iushr, 1) := by decide +kernel
theorem dJ6_bitCount_0f7a4_4 : decode cJ6_bitCount_0f7a4 4 = .ok (.ldc_w 265, 3) := by decide +kernel
theorem dJ6_bitCount_0f7a4_7 : decode cJ6_bitCount_0f7a4 7 = .ok (.iand, 1) := by decide +kernel
theorem dJ6_bitCount_0f7a4_8 : decode cJ6_bitCount_0f7a4 8 = .ok (.isub, 1) := by decide +kernel
theorem dJ6_bitCount_0f7a4_9 : decode cJ6_bitCount_0f7a4 9 = .ok (.istore_n 0, 1) := by decide +kernel
theorem dJ6_bitCount_0f7a4_10 : decode cJ6_bitCount_0f7a4 10 = .ok (.iload_n 0, 1) := by decide +kernel
theorem dJ6_bitCount_0f7a4_11 : decode cJ6_bitCount_0f7a4 11 = .ok (.ldc_w 266, 3) := by decide +kernel
theorem dJ6_bitCount_0f7a4_14 : decode cJ6_bitCount_0f7a4 14 = .ok (.iand, 1) := by decide +kernel
theorem dJ6_bitCount_0f7a4_15 : decode cJ6_bitCount_0f7a4 15 = .ok (.iload_n 0, 1) := by decide +kernel
theorem dJ6_bitCount_0f7a4_16 : decode cJ6_bitCount_0f7a4 16 = .ok (.iconst 2, 1) := by decide +kernel
theorem dJ6_bitCount_0f7a4_17 : decode cJ6_bitCount_0f7a4 17 = .ok (.iushr, 1) := by decide +kernel
theorem dJ6_bitCount_0f7a4_18 : decode cJ6_bitCount_0f7a4 18 = .ok (.ldc_w 266, 3) := by decide +kernel
theorem dJ6_bitCount_0f7a4_21 : decode cJ6_bitCount_0f7a4 21 = .ok (.iand, 1) := by decide +kernel
theorem dJ6_bitCount_0f7a4_22 : decode cJ6_bitCount_0f7a4 22 = .ok (.iadd, 1) := by decide +kernel
theorem dJ6_bitCount_0f7a4_23 : decode cJ6_bitCount_0f7a4 23 = .ok (.istore_n 0, 1) := by decide +kernel
theorem dJ6_bitCount_0f7a4_24 : decode cJ6_bitCount_0f7a4 24 = .ok (.iload_n 0, 1) := by decide +kernel
theorem dJ6_bitCount_0f7a4_25 : decode cJ6_bitCount_0f7a4 25 = .ok (.iload_n 0, 1) := by decide +kernel
theorem dJ6_bitCount_0f7a4_26 : decode cJ6_bitCount_0f7a4 26 = .ok (.iconst 4, 1) := by decide +kernel
theorem dJ6_bitCount_0f7a4_27 : decode cJ6_bitCount_0f7a4 27 = .ok (.iushr, 1) := by decide +kernel
theorem dJ6_bitCount_0f7a4_28 : decode cJ6_bitCount_0f7a4 28 = .ok (.iadd, 1) := by decide +kernel
theorem dJ6_bitCount_0f7a4_29 : decode cJ6_bitCount_0f7a4 29 = .ok (.ldc_w 267, 3) := by decide +kernel
theorem dJ6_bitCount_0f7a4_32 : decode cJ6_bitCount_0f7a4 32 = .ok (.iand, 1) := by decide +kernel
theorem dJ6_bitCount_0f7a4_33 : decode cJ6_bitCount_0f7a4 33 = .ok (.istore_n 0, 1) := by decide +kernel
theorem dJ6_bitCount_0f7a4_34 : decode cJ6_bitCount_0f7a4 34 = .ok (.iload_n 0, 1) := by decide +kernel
theorem dJ6_bitCount_0f7a4_35 : decode cJ6_bitCount_0f7a4 35 = .ok (.iload_n 0, 1) := by decide +kernel
theorem dJ6_bitCount_0f7a4_36 : decode cJ6_bitCount_0f7a4 36 = .ok (.bipush 8, 2) := by decide +kernel
theorem dJ6_bitCount_0f7a4_38 : decode cJ6_bitCount_0f7a4 38 = .ok (.iushr, 1) := by decide +kernel
theorem dJ6_bitCount_0f7a4_39 : decode cJ6_bitCount_0f7a4 39 = .ok (.iadd, 1) := by decide +kernel
theorem dJ6_bitCount_0f7a4_40 : decode cJ6_bitCount_0f7a4 40 = .ok (.istore_n 0, 1) := by decide +kernel
theorem dJ6_bitCount_0f7a4_41 : decode cJ6_bitCount_0f7a4 41 = .ok (.iload_n 0, 1) := by decide +kernel
theorem dJ6_bitCount_0f7a4_42 : decode cJ6_bitCount_0f7a4 42 = .ok (.iload_n 0, 1) := by decide +kernel
theorem dJ6_bitCount_0f7a4_43 : decode cJ6_bitCount_0f7a4 43 = .ok (.bipush 16, 2) := by decide +kernel
theorem dJ6_bitCount_0f7a4_45 : decode cJ6_bitCount_0f7a4 45 = .ok (.iushr, 1) := by decide +kernel
theorem dJ6_bitCount_0f7a4_46 : decode cJ6_bitCount_0f7a4 46 = .ok (.iadd, 1) := by decide +kernel
theorem dJ6_bitCount_0f7a4_47 : decode cJ6_bitCount_0f7a4 47 = .ok (.istore_n 0, 1) := by decide +kernel
theorem dJ6_bitCount_0f7a4_48 : decode cJ6_bitCount_0f7a4 48 = .ok (.iload_n 0, 1) := by decide +kernel
theorem dJ6_bitCount_0f7a4_49 : decode cJ6_bitCount_0f7a4 49 = .ok (.bipush 63, 2) := by decide +kernel
theorem dJ6_bitCount_0f7a4_51 : decode cJ6_bitCount_0f7a4 51 = .ok (.iand, 1) := by decide +kernel
theorem dJ6_bitCount_0f7a4_52 : decode cJ6_bitCount_0f7a4 52 = .ok (.ireturn, 1) := by decide +kernel
theorem dJ9_max_7cf53_0 : decode cJ9_max_7cf53 0 = .ok (.iload_n 0, 1) := by decide +kernel
theorem dJ9_max_7cf53_1 : decode cJ9_max_7cf53 1 = .ok (.iload_n 1, 1) := by decide +kernel
theorem dJ9_max_7cf53_2 : decode cJ9_max_7cf53 2 = .ok (.if_icmp .lt 7, 3) := by decide +kernel
theorem dJ9_max_7cf53_5 : decode cJ9_max_7cf53 5 = .ok (.iload_n 0, 1) := by decide +kernel
theorem dJ9_max_7cf53_6 : decode cJ9_max_7cf53 6 = .ok (.goto 4, 3) := by decide +kernel
theorem dJ9_max_7cf53_9 : decode cJ9_max_7cf53 9 = .ok (.iload_n 1, 1) := by decide +kernel
theorem dJ9_max_7cf53_10 : decode cJ9_max_7cf53 10 = .ok (.ireturn, 1) := by decide +kernel
theorem dJ9_min_7cf53_0 : decode cJ9_min_7cf53 0 = .ok (.iload_n 0, 1) := by decide +kernel
theorem dJ9_min_7cf53_1 : decode cJ9_min_7cf53 1 = .ok (.iload_n 1, 1) := by decide +kernel
theorem dJ9_min_7cf53_2 : decode cJ9_min_7cf53 2 = .ok (.if_icmp .gt 7, 3) := by decide +kernel
theorem dJ9_min_7cf53_5 : decode cJ9_min_7cf53 5 = .ok (.iload_n 0, 1) := by decide +kernel
theorem dJ9_min_7cf53_6 : decode cJ9_min_7cf53 6 = .ok (.goto 4, 3) := by decide +kernel
theorem dJ9_min_7cf53_9 : decode cJ9_min_7cf53 9 = .ok (.iload_n 1, 1) := by decide +kernel
theorem dJ9_min_7cf53_10 : decode cJ9_min_7cf53 10 = .ok (.ireturn, 1) := by decide +kernel
theorem dJ0_length_8abf5_0 : decode cJ0_length_8abf5 0 = .ok (.aload_n 0, 1) := by decide +kernel
theorem dJ0_length_8abf5_1 : decode cJ0_length_8abf5 1 = .ok (.getfield 9, 3) := by decide +kernel
theorem dJ0_length_8abf5_4 : decode cJ0_length_8abf5 4 = .ok (.arraylength, 1) := by decide +kernel
theorem dJ0_length_8abf5_5 : decode cJ0_length_8abf5 5 = .ok (.aload_n 0, 1) := by decide +kernel
theorem dJ0_length_8abf5_6 : decode cJ0_length_8abf5 6 = .ok (.invokevirtual 335, 3) := by decide +kernel
theorem dJ0_length_8abf5_9 : decode cJ0_length_8abf5 9 = .ok (.ishr, 1) := by decide +kernel
theorem dJ0_length_8abf5_10 : decode cJ0_length_8abf5 10 = .ok (.ireturn, 1) := by decide +kernel
theorem dJ0_charAt_5068e_0 : decode cJ0_charAt_5068e 0 = .ok (.aload_n 0, 1) := by decide +kernel
theorem dJ0_charAt_5068e_1 : decode cJ0_charAt_5068e 1 = .ok (.invokevirtual 492, 3) := by decide +kernel
theorem dJ0_charAt_5068e_4 : decode cJ0_charAt_5068e 4 = .ok (.ifCond .eq 12, 3) := by decide +kernel
theorem dJ0_charAt_5068e_7 : decode cJ0_charAt_5068e 7 = .ok (.aload_n 0, 1) := by decide +kernel
theorem dJ0_charAt_5068e_8 : decode cJ0_charAt_5068e 8 = .ok (.getfield 9, 3) := by decide +kernel
theorem dJ0_charAt_5068e_11 : decode cJ0_charAt_5068e 11 = .ok (.iload_n 1, 1) := by decide +kernel
theorem dJ0_charAt_5068e_12 : decode cJ0_charAt_5068e 12 = .ok (.invokestatic 495, 3) := by decide +kernel
theorem dJ0_charAt_5068e_15 : decode cJ0_charAt_5068e 15 = .ok (.ireturn, 1) := by decide +kernel
theorem dJ0_charAt_5068e_16 : decode cJ0_charAt_5068e 16 = .ok (.aload_n 0, 1) := by decide +kernel
theorem dJ0_charAt_5068e_17 : decode cJ0_charAt_5068e 17 = .ok (.getfield 9, 3) := by decide +kernel
theorem dJ0_charAt_5068e_20 : decode cJ0_charAt_5068e 20 = .ok (.iload_n 1, 1) := by decide +kernel
theorem dJ0_charAt_5068e_21 : decode cJ0_charAt_5068e 21 = .ok (.invokestatic 498, 3) := by decide +kernel
theorem dJ0_charAt_5068e_24 : decode cJ0_charAt_5068e 24 = .ok (.ireturn, 1) := by decide +kernel
theorem dJ0_coder_7d493_0 : decode cJ0_coder_7d493 0 = .ok (.getstatic 38, 3) := by decide +kernel
theorem dJ0_coder_7d493_3 : decode cJ0_coder_7d493 3 = .ok (.ifCond .eq 10, 3) := by decide +kernel
theorem dJ0_coder_7d493_6 : decode cJ0_coder_7d493 6 = .ok (.aload_n 0, 1) := by decide +kernel
theorem dJ0_coder_7d493_7 : decode cJ0_coder_7d493 7 = .ok (.getfield 15, 3) := by decide +kernel
theorem dJ0_coder_7d493_10 : decode cJ0_coder_7d493 10 = .ok (.goto 4, 3) := by decide +kernel
theorem dJ0_coder_7d493_13 : decode cJ0_coder_7d493 13 = .ok (.iconst 1, 1) := by decide +kernel
theorem dJ0_coder_7d493_14 : decode cJ0_coder_7d493 14 = .ok (.ireturn, 1) := by decide +kernel
theorem dJ0_isLatin1_aae02_0 : decode cJ0_isLatin1_aae02 0 = .ok (.getstatic 38, 3) := by decide +kernel
theorem dJ0_isLatin1_aae02_3 : decode cJ0_isLatin1_aae02 3 = .ok (.ifCond .eq 14, 3) := by decide +kernel
theorem dJ0_isLatin1_aae02_6 : decode cJ0_isLatin1_aae02 6 = .ok (.aload_n 0, 1) := by decide +kernel
theorem dJ0_isLatin1_aae02_7 : decode cJ0_isLatin1_aae02 7 = .ok (.getfield 15, 3) := by decide +kernel
theorem dJ0_isLatin1_aae02_10 : decode cJ0_isLatin1_aae02 10 = .ok (.ifCond .ne 7, 3) := by decide +kernel
theorem dJ0_isLatin1_aae02_13 : decode cJ0_isLatin1_aae02 13 = .ok (.iconst 1, 1) := by decide +kernel
theorem dJ0_isLatin1_aae02_14 : decode cJ0_isLatin1_aae02 14 = .ok (.goto 4, 3) := by decide +kernel
theorem dJ0_isLatin1_aae02_17 : decode cJ0_isLatin1_aae02 17 = .ok (.iconst 0, 1) := by decide +kernel
theorem dJ0_isLatin1_aae02_18 : decode cJ0_isLatin1_aae02 18 = .ok (.ireturn, 1) := by decide +kernel
theorem dJ0_checkIndex_df160_0 : decode cJ0_checkIndex_df160 0 = .ok (.iload_n 0, 1) := by decide +kernel
theorem dJ0_checkIndex_df160_1 : decode cJ0_checkIndex_df160 1 = .ok (.iload_n 1, 1) := by decide +kernel
theorem dJ0_checkIndex_df160_2 : decode cJ0_checkIndex_df160 2 = .ok (.getstatic 1053, 3) := by decide +kernel
theorem dJ0_checkIndex_df160_5 : decode cJ0_checkIndex_df160 5 = .ok (.invokestatic 1059, 3) := by decide +kernel
theorem dJ0_checkIndex_df160_8 : decode cJ0_checkIndex_df160 8 = .ok (.pop, 1) := by decide +kernel
theorem dJ0_checkIndex_df160_9 : decode cJ0_checkIndex_df160 9 = .ok (.return_, 1) := by decide +kernel
theorem dJ1_charAt_3b067_0 : decode cJ1_charAt_3b067 0 = .ok (.iload_n 1, 1) := by decide +kernel
theorem dJ1_charAt_3b067_1 : decode cJ1_charAt_3b067 1 = .ok (.aload_n 0, 1) := by decide +kernel
theorem dJ1_charAt_3b067_2 : decode cJ1_charAt_3b067 2 = .ok (.arraylength, 1) := by decide +kernel
theorem dJ1_charAt_3b067_3 : decode cJ1_charAt_3b067 3 = .ok (.invokestatic 9, 3) := by decide +kernel
theorem dJ1_charAt_3b067_6 : decode cJ1_charAt_3b067 6 = .ok (.aload_n 0, 1) := by decide +kernel
theorem dJ1_charAt_3b067_7 : decode cJ1_charAt_3b067 7 = .ok (.iload_n 1, 1) := by decide +kernel
theorem dJ1_charAt_3b067_8 : decode cJ1_charAt_3b067 8 = .ok (.baload, 1) := by decide +kernel
theorem dJ1_charAt_3b067_9 : decode cJ1_charAt_3b067 9 = .ok (.sipush 255, 3) := by decide +kernel
theorem dJ1_charAt_3b067_12 : decode cJ1_charAt_3b067 12 = .ok (.iand, 1) := by decide +kernel
theorem dJ1_charAt_3b067_13 : decode cJ1_charAt_3b067 13 = .ok (.i2c, 1) := by decide +kernel
theorem dJ1_charAt_3b067_14 : decode cJ1_charAt_3b067 14 = .ok (.ireturn, 1) := by decide +kernel
theorem dJ2_getChar_3b067_0 : decode cJ2_getChar_3b067 0 = .ok (.getstatic 44, 3) := by decide +kernel
theorem dJ2_getChar_3b067_3 : decode cJ2_getChar_3b067 3 = .ok (.ifCond .ne 25, 3) := by decide +kernel
theorem dJ2_getChar_3b067_6 : decode cJ2_getChar_3b067 6 = .ok (.iload_n 1, 1) := by decide +kernel
theorem dJ2_getChar_3b067_7 : decode cJ2_getChar_3b067 7 = .ok (.ifCond .lt 11, 3) := by decide +kernel
theorem dJ2_getChar_3b067_10 : decode cJ2_getChar_3b067 10 = .ok (.iload_n 1, 1) := by decide +kernel
theorem dJ2_getChar_3b067_11 : decode cJ2_getChar_3b067 11 = .ok (.aload_n 0, 1) := by decide +kernel
theorem dJ2_getChar_3b067_12 : decode cJ2_getChar_3b067 12 = .ok (.invokestatic 48, 3) := by decide +kernel
theorem dJ2_getChar_3b067_15 : decode cJ2_getChar_3b067 15 = .ok (.if_icmp .lt 13, 3) := by decide +kernel
theorem dJ2_getChar_3b067_18 : decode cJ2_getChar_3b067 18 = .ok (.new 52, 3) := by decide +kernel
theorem dJ2_getChar_3b067_21 : decode cJ2_getChar_3b067 21 = .ok (.dup, 1) := by decide +kernel
theorem dJ2_getChar_3b067_22 : decode cJ2_getChar_3b067 22 = .ok (.ldc 54, 2) := by decide +kernel
theorem dJ2_getChar_3b067_24 : decode cJ2_getChar_3b067 24 = .ok (.invokespecial 56, 3) := by decide +kernel
theorem dJ2_getChar_3b067_27 : decode cJ2_getChar_3b067 27 = .ok (.athrow, 1) := by decide +kernel
theorem dJ2_getChar_3b067_28 : decode cJ2_getChar_3b067 28 = .ok (.iload_n 1, 1) := by decide +kernel
theorem dJ2_getChar_3b067_29 : decode cJ2_getChar_3b067 29 = .ok (.iconst 1, 1) := by decide +kernel
theorem dJ2_getChar_3b067_30 : decode cJ2_getChar_3b067 30 = .ok (.ishl, 1) := by decide +kernel
theorem dJ2_getChar_3b067_31 : decode cJ2_getChar_3b067 31 = .ok (.istore_n 1, 1) := by decide +kernel
theorem dJ2_getChar_3b067_32 : decode cJ2_getChar_3b067 32 = .ok (.aload_n 0, 1) := by decide +kernel
theorem dJ2_getChar_3b067_33 : decode cJ2_getChar_3b067 33 = .ok (.iload_n 1, 1) := by decide +kernel
theorem dJ2_getChar_3b067_34 : decode cJ2_getChar_3b067 34 = .ok (.iinc 1 1, 3) := by decide +kernel
theorem dJ2_getChar_3b067_37 : decode cJ2_getChar_3b067 37 = .ok (.baload, 1) := by decide +kernel
theorem dJ2_getChar_3b067_38 : decode cJ2_getChar_3b067 38 = .ok (.sipush 255, 3) := by decide +kernel
theorem dJ2_getChar_3b067_41 : decode cJ2_getChar_3b067 41 = .ok (.iand, 1) := by decide +kernel
theorem dJ2_getChar_3b067_42 : decode cJ2_getChar_3b067 42 = .ok (.getstatic 59, 3) := by decide +kernel
theorem dJ2_getChar_3b067_45 : decode cJ2_getChar_3b067 45 = .ok (.ishl, 1) := by decide +kernel
theorem dJ2_getChar_3b067_46 : decode cJ2_getChar_3b067 46 = .ok (.aload_n 0, 1) := by decide +kernel
theorem dJ2_getChar_3b067_47 : decode cJ2_getChar_3b067 47 = .ok (.iload_n 1, 1) := by decide +kernel
theorem dJ2_getChar_3b067_48 : decode cJ2_getChar_3b067 48 = .ok (.baload, 1) := by decide +kernel
theorem dJ2_getChar_3b067_49 : decode cJ2_getChar_3b067 49 = .ok (.sipush 255, 3) := by decide +kernel
theorem dJ2_getChar_3b067_52 : decode cJ2_getChar_3b067 52 = .ok (.iand, 1) := by decide +kernel
theorem dJ2_getChar_3b067_53 : decode cJ2_getChar_3b067 53 = .ok (.getstatic 63, 3) := by decide +kernel
theorem dJ2_getChar_3b067_56 : decode cJ2_getChar_3b067 56 = .ok (.ishl, 1) := by decide +kernel
theorem dJ2_getChar_3b067_57 : decode cJ2_getChar_3b067 57 = .ok (.ior, 1) := by decide +kernel
theorem dJ2_getChar_3b067_58 : decode cJ2_getChar_3b067 58 = .ok (.i2c, 1) := by decide +kernel
theorem dJ2_getChar_3b067_59 : decode cJ2_getChar_3b067 59 = .ok (.ireturn, 1) := by decide +kernel
theorem dJ2_length_9d52b_0 : decode cJ2_length_9d52b 0 = .ok (.aload_n 0, 1) := by decide +kernel
theorem dJ2_length_9d52b_1 : decode cJ2_length_9d52b 1 = .ok (.arraylength, 1) := by decide +kernel
theorem dJ2_length_9d52b_2 : decode cJ2_length_9d52b 2 = .ok (.iconst 1, 1) := by decide +kernel
theorem dJ2_length_9d52b_3 : decode cJ2_length_9d52b 3 = .ok (.ishr, 1) := by decide +kernel
theorem dJ2_length_9d52b_4 : decode cJ2_length_9d52b 4 = .ok (.ireturn, 1) := by decide +kernel
theorem dJ2_charAt_3b067_0 : decode cJ2_charAt_3b067 0 = .ok (.iload_n 1, 1) := by decide +kernel
theorem dJ2_charAt_3b067_1 : decode cJ2_charAt_3b067 1 = .ok (.aload_n 0, 1) := by decide +kernel
theorem dJ2_charAt_3b067_2 : decode cJ2_charAt_3b067 2 = .ok (.invokestatic 67, 3) := by decide +kernel
theorem dJ2_charAt_3b067_5 : decode cJ2_charAt_3b067 5 = .ok (.aload_n 0, 1) := by decide +kernel
theorem dJ2_charAt_3b067_6 : decode cJ2_charAt_3b067 6 = .ok (.iload_n 1, 1) := by decide +kernel
theorem dJ2_charAt_3b067_7 : decode cJ2_charAt_3b067 7 = .ok (.invokestatic 71, 3) := by decide +kernel
theorem dJ2_charAt_3b067_10 : decode cJ2_charAt_3b067 10 = .ok (.ireturn, 1) := by decide +kernel
theorem dJ2_checkIndex_2214a_0 : decode cJ2_checkIndex_2214a 0 = .ok (.iload_n 0, 1) := by decide +kernel
theorem dJ2_checkIndex_2214a_1 : decode cJ2_checkIndex_2214a 1 = .ok (.aload_n 1, 1) := by decide +kernel
theorem dJ2_checkIndex_2214a_2 : decode cJ2_checkIndex_2214a 2 = .ok (.invokestatic 48, 3) := by decide +kernel
theorem dJ2_checkIndex_2214a_5 : decode cJ2_checkIndex_2214a 5 = .ok (.invokestatic 414, 3) := by decide +kernel
theorem dJ2_checkIndex_2214a_8 : decode cJ2_checkIndex_2214a 8 = .ok (.return_, 1) := by decide +kernel
theorem dJ3_checkIndex_8e157_0 : decode cJ3_checkIndex_8e157 0 = .ok (.iload_n 0, 1) := by decide +kernel
theorem dJ3_checkIndex_8e157_1 : decode cJ3_checkIndex_8e157 1 = .ok (.ifCond .lt 8, 3) := by decide +kernel
theorem dJ3_checkIndex_8e157_4 : decode cJ3_checkIndex_8e157 4 = .ok (.iload_n 0, 1) := by decide +kernel
theorem dJ3_checkIndex_8e157_5 : decode cJ3_checkIndex_8e157 5 = .ok (.iload_n 1, 1) := by decide +kernel
theorem dJ3_checkIndex_8e157_6 : decode cJ3_checkIndex_8e157 6 = .ok (.if_icmp .lt 10, 3) := by decide +kernel
theorem dJ3_checkIndex_8e157_9 : decode cJ3_checkIndex_8e157 9 = .ok (.aload_n 2, 1) := by decide +kernel
theorem dJ3_checkIndex_8e157_10 : decode cJ3_checkIndex_8e157 10 = .ok (.iload_n 0, 1) := by decide +kernel
theorem dJ3_checkIndex_8e157_11 : decode cJ3_checkIndex_8e157 11 = .ok (.iload_n 1, 1) := by decide +kernel
theorem dJ3_checkIndex_8e157_12 : decode cJ3_checkIndex_8e157 12 = .ok (.invokestatic 95, 3) := by decide +kernel
theorem dJ3_checkIndex_8e157_15 : decode cJ3_checkIndex_8e157 15 = .ok (.athrow, 1) := by decide +kernel
theorem dJ3_checkIndex_8e157_16 : decode cJ3_checkIndex_8e157 16 = .ok (.iload_n 0, 1) := by decide +kernel
theorem dJ3_checkIndex_8e157_17 : decode cJ3_checkIndex_8e157 17 = .ok (.ireturn, 1) := by decide +kernel
