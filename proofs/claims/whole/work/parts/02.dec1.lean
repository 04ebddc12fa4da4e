theorem dX0_init_0 : decode cX0_init 0 = .ok (.aload_n 0, 1) := by decide +kernel
theorem dX0_init_1 : decode cX0_init 1 = .ok (.invokespecial 3, 3) := by decide +kernel
theorem dX0_init_4 : decode cX0_init 4 = .ok (.aload_n 0, 1) := by decide +kernel
theorem dX0_init_5 : decode cX0_init 5 = .ok (.bipush 14, 2) := by decide +kernel
theorem dX0_init_7 : decode cX0_init 7 = .ok (.newarray .int, 2) := by decide +kernel
theorem dX0_init_9 : decode cX0_init 9 = .ok (.putfield 9, 3) := by decide +kernel
theorem dX0_init_12 : decode cX0_init 12 = .ok (.aload_n 0, 1) := by decide +kernel
theorem dX0_init_13 : decode cX0_init 13 = .ok (.bipush 14, 2) := by decide +kernel
theorem dX0_init_15 : decode cX0_init 15 = .ok (.newarray .int, 2) := by decide +kernel
theorem dX0_init_17 : decode cX0_init 17 = .ok (.putfield 15, 3) := by decide +kernel
theorem dX0_init_20 : decode cX0_init 20 = .ok (.aload_n 0, 1) := by decide +kernel
theorem dX0_init_21 : decode cX0_init 21 = .ok (.bipush 14, 2) := by decide +kernel
theorem dX0_init_23 : decode cX0_init 23 = .ok (.newarray .int, 2) := by decide +kernel
theorem dX0_init_25 : decode cX0_init 25 = .ok (.putfield 18, 3) := by decide +kernel
theorem dX0_init_28 : decode cX0_init 28 = .ok (.return_, 1) := by decide +kernel
theorem dX0_forget_0 : decode cX0_forget 0 = .ok (.aload_n 0, 1) := by decide +kernel
theorem dX0_forget_1 : decode cX0_forget 1 = .ok (.iconst 0, 1) := by decide +kernel
theorem dX0_forget_2 : decode cX0_forget 2 = .ok (.putfield 21, 3) := by decide +kernel
theorem dX0_forget_5 : decode cX0_forget 5 = .ok (.return_, 1) := by decide +kernel
theorem dX0_note_0 : decode cX0_note 0 = .ok (.aload_n 0, 1) := by decide +kernel
theorem dX0_note_1 : decode cX0_note 1 = .ok (.getfield 21, 3) := by decide +kernel
theorem dX0_note_4 : decode cX0_note 4 = .ok (.bipush 14, 2) := by decide +kernel
theorem dX0_note_6 : decode cX0_note 6 = .ok (.if_icmp .lt 7, 3) := by decide +kernel
theorem dX0_note_9 : decode cX0_note 9 = .ok (.aload_n 0, 1) := by decide +kernel
theorem dX0_note_10 : decode cX0_note 10 = .ok (.invokevirtual 25, 3) := by decide +kernel
theorem dX0_note_13 : decode cX0_note 13 = .ok (.aload_n 0, 1) := by decide +kernel
theorem dX0_note_14 : decode cX0_note 14 = .ok (.getfield 9, 3) := by decide +kernel
theorem dX0_note_17 : decode cX0_note 17 = .ok (.aload_n 0, 1) := by decide +kernel
theorem dX0_note_18 : decode cX0_note 18 = .ok (.getfield 21, 3) := by decide +kernel
theorem dX0_note_21 : decode cX0_note 21 = .ok (.iload_n 1, 1) := by decide +kernel
theorem dX0_note_22 : decode cX0_note 22 = .ok (.iastore, 1) := by decide +kernel
theorem dX0_note_23 : decode cX0_note 23 = .ok (.aload_n 0, 1) := by decide +kernel
theorem dX0_note_24 : decode cX0_note 24 = .ok (.getfield 15, 3) := by decide +kernel
theorem dX0_note_27 : decode cX0_note 27 = .ok (.aload_n 0, 1) := by decide +kernel
theorem dX0_note_28 : decode cX0_note 28 = .ok (.getfield 21, 3) := by decide +kernel
theorem dX0_note_31 : decode cX0_note 31 = .ok (.iload_n 2, 1) := by decide +kernel
theorem dX0_note_32 : decode cX0_note 32 = .ok (.iastore, 1) := by decide +kernel
theorem dX0_note_33 : decode cX0_note 33 = .ok (.aload_n 0, 1) := by decide +kernel
theorem dX0_note_34 : decode cX0_note 34 = .ok (.getfield 18, 3) := by decide +kernel
theorem dX0_note_37 : decode cX0_note 37 = .ok (.aload_n 0, 1) := by decide +kernel
theorem dX0_note_38 : decode cX0_note 38 = .ok (.getfield 21, 3) := by decide +kernel
theorem dX0_note_41 : decode cX0_note 41 = .ok (.iload_n 3, 1) := by decide +kernel
theorem dX0_note_42 : decode cX0_note 42 = .ok (.iastore, 1) := by decide +kernel
theorem dX0_note_43 : decode cX0_note 43 = .ok (.aload_n 0, 1) := by decide +kernel
theorem dX0_note_44 : decode cX0_note 44 = .ok (.dup, 1) := by decide +kernel
theorem dX0_note_45 : decode cX0_note 45 = .ok (.getfield 21, 3) := by decide +kernel
theorem dX0_note_48 : decode cX0_note 48 = .ok (.iconst 1, 1) := by decide +kernel
theorem dX0_note_49 : decode cX0_note 49 = .ok (.iadd, 1) := by decide +kernel
theorem dX0_note_50 : decode cX0_note 50 = .ok (.putfield 21, 3) := by decide +kernel
theorem dX0_note_53 : decode cX0_note 53 = .ok (.return_, 1) := by decide +kernel
theorem dX0_forgetFirst_0 : decode cX0_forgetFirst 0 = .ok (.aload_n 0, 1) := by decide +kernel
theorem dX0_forgetFirst_1 : decode cX0_forgetFirst 1 = .ok (.bipush 13, 2) := by decide +kernel
theorem dX0_forgetFirst_3 : decode cX0_forgetFirst 3 = .ok (.putfield 21, 3) := by decide +kernel
theorem dX0_forgetFirst_6 : decode cX0_forgetFirst 6 = .ok (.aload_n 0, 1) := by decide +kernel
theorem dX0_forgetFirst_7 : decode cX0_forgetFirst 7 = .ok (.getfield 9, 3) := by decide +kernel
theorem dX0_forgetFirst_10 : decode cX0_forgetFirst 10 = .ok (.iconst 1, 1) := by decide +kernel
theorem dX0_forgetFirst_11 : decode cX0_forgetFirst 11 = .ok (.aload_n 0, 1) := by decide +kernel
theorem dX0_forgetFirst_12 : decode cX0_forgetFirst 12 = .ok (.getfield 9, 3) := by decide +kernel
theorem dX0_forgetFirst_15 : decode cX0_forgetFirst 15 = .ok (.iconst 0, 1) := by decide +kernel
theorem dX0_forgetFirst_16 : decode cX0_forgetFirst 16 = .ok (.aload_n 0, 1) := by decide +kernel
theorem dX0_forgetFirst_17 : decode cX0_forgetFirst 17 = .ok (.getfield 21, 3) := by decide +kernel
theorem dX0_forgetFirst_20 : decode cX0_forgetFirst 20 = .ok (.invokestatic 28, 3) := by decide +kernel
theorem dX0_forgetFirst_23 : decode cX0_forgetFirst 23 = .ok (.aload_n 0, 1) := by decide +kernel
theorem dX0_forgetFirst_24 : decode cX0_forgetFirst 24 = .ok (.getfield 15, 3) := by decide +kernel
theorem dX0_forgetFirst_27 : decode cX0_forgetFirst 27 = .ok (.iconst 1, 1) := by decide +kernel
theorem dX0_forgetFirst_28 : decode cX0_forgetFirst 28 = .ok (.aload_n 0, 1) := by decide +kernel
theorem dX0_forgetFirst_29 : decode cX0_forgetFirst 29 = .ok (.getfield 15, 3) := by decide +kernel
theorem dX0_forgetFirst_32 : decode cX0_forgetFirst 32 = .ok (.iconst 0, 1) := by decide +kernel
theorem dX0_forgetFirst_33 : decode cX0_forgetFirst 33 = .ok (.aload_n 0, 1) := by decide +kernel
theorem dX0_forgetFirst_34 : decode cX0_forgetFirst 34 = .ok (.getfield 21, 3) := by decide +kernel
theorem dX0_forgetFirst_37 : decode cX0_forgetFirst 37 = .ok (.invokestatic 28, 3) := by decide +kernel
theorem dX0_forgetFirst_40 : decode cX0_forgetFirst 40 = .ok (.aload_n 0, 1) := by decide +kernel
theorem dX0_forgetFirst_41 : decode cX0_forgetFirst 41 = .ok (.getfield 18, 3) := by decide +kernel
theorem dX0_forgetFirst_44 : decode cX0_forgetFirst 44 = .ok (.iconst 1, 1) := by decide +kernel
theorem dX0_forgetFirst_45 : decode cX0_forgetFirst 45 = .ok (.aload_n 0, 1) := by decide +kernel
theorem dX0_forgetFirst_46 : decode cX0_forgetFirst 46 = .ok (.getfield 18, 3) := by decide +kernel
theorem dX0_forgetFirst_49 : decode cX0_forgetFirst 49 = .ok (.iconst 0, 1) := by decide +kernel
theorem dX0_forgetFirst_50 : decode cX0_forgetFirst 50 = .ok (.aload_n 0, 1) := by decide +kernel
theorem dX0_forgetFirst_51 : decode cX0_forgetFirst 51 = .ok (.getfield 21, 3) := by decide +kernel
theorem dX0_forgetFirst_54 : decode cX0_forgetFirst 54 = .ok (.invokestatic 28, 3) := by decide +kernel
theorem dX0_forgetFirst_57 : decode cX0_forgetFirst 57 = .ok (.return_, 1) := by decide +kernel
theorem dX0_takeBack_0 : decode cX0_takeBack 0 = .ok (.aload_n 0, 1) := by decide +kernel
theorem dX0_takeBack_1 : decode cX0_takeBack 1 = .ok (.getfield 21, 3) := by decide +kernel
theorem dX0_takeBack_4 : decode cX0_takeBack 4 = .ok (.ifCond .gt 4, 3) := by decide +kernel
theorem dX0_takeBack_7 : decode cX0_takeBack 7 = .ok (.return_, 1) := by decide +kernel
theorem dX0_takeBack_8 : decode cX0_takeBack 8 = .ok (.aload_n 0, 1) := by decide +kernel
theorem dX0_takeBack_9 : decode cX0_takeBack 9 = .ok (.dup, 1) := by decide +kernel
theorem dX0_takeBack_10 : decode cX0_takeBack 10 = .ok (.getfield 21, 3) := by decide +kernel
theorem dX0_takeBack_13 : decode cX0_takeBack 13 = .ok (.iconst 1, 1) := by decide +kernel
theorem dX0_takeBack_14 : decode cX0_takeBack 14 = .ok (.isub, 1) := by decide +kernel
theorem dX0_takeBack_15 : decode cX0_takeBack 15 = .ok (.putfield 21, 3) := by decide +kernel
theorem dX0_takeBack_18 : decode cX0_takeBack 18 = .ok (.aload_n 1, 1) := by decide +kernel
theorem dX0_takeBack_19 : decode cX0_takeBack 19 = .ok (.aload_n 0, 1) := by decide +kernel
theorem dX0_takeBack_20 : decode cX0_takeBack 20 = .ok (.getfield 15, 3) := by decide +kernel
theorem dX0_takeBack_23 : decode cX0_takeBack 23 = .ok (.aload_n 0, 1) := by decide +kernel
theorem dX0_takeBack_24 : decode cX0_takeBack 24 = .ok (.getfield 21, 3) := by decide +kernel
theorem dX0_takeBack_27 : decode cX0_takeBack 27 = .ok (.iaload, 1) := by decide +kernel
theorem dX0_takeBack_28 : decode cX0_takeBack 28 = .ok (.invokevirtual 34, 3) := by decide +kernel
theorem dX0_takeBack_31 : decode cX0_takeBack 31 = .ok (.aload_n 1, 1) := by decide +kernel
theorem dX0_takeBack_32 : decode cX0_takeBack 32 = .ok (.aload_n 0, 1) := by decide +kernel
theorem dX0_takeBack_33 : decode cX0_takeBack 33 = .ok (.getfield 18, 3) := by decide +kernel
theorem dX0_takeBack_36 : decode cX0_takeBack 36 = .ok (.aload_n 0, 1) := by decide +kernel
theorem dX0_takeBack_37 : decode cX0_takeBack 37 = .ok (.getfield 21, 3) := by decide +kernel
theorem dX0_takeBack_40 : decode cX0_takeBack 40 = .ok (.iaload, 1) := by decide +kernel
theorem dX0_takeBack_41 : decode cX0_takeBack 41 = .ok (.putfield 40, 3) := by decide +kernel
theorem dX0_takeBack_44 : decode cX0_takeBack 44 = .ok (.aload_n 1, 1) := by decide +kernel
theorem dX0_takeBack_45 : decode cX0_takeBack 45 = .ok (.aload_n 0, 1) := by decide +kernel
theorem dX0_takeBack_46 : decode cX0_takeBack 46 = .ok (.getfield 9, 3) := by decide +kernel
theorem dX0_takeBack_49 : decode cX0_takeBack 49 = .ok (.aload_n 0, 1) := by decide +kernel
theorem dX0_takeBack_50 : decode cX0_takeBack 50 = .ok (.getfield 21, 3) := by decide +kernel
theorem dX0_takeBack_53 : decode cX0_takeBack 53 = .ok (.iaload, 1) := by decide +kernel
theorem dX0_takeBack_54 : decode cX0_takeBack 54 = .ok (.invokevirtual 43, 3) := by decide +kernel
theorem dX0_takeBack_57 : decode cX0_takeBack 57 = .ok (.pop, 1) := by decide +kernel
theorem dX0_takeBack_58 : decode cX0_takeBack 58 = .ok (.return_, 1) := by decide +kernel
theorem dX1_init_0 : decode cX1_init 0 = .ok (.aload_n 0, 1) := by decide +kernel
theorem dX1_init_1 : decode cX1_init 1 = .ok (.invokespecial 3, 3) := by decide +kernel
theorem dX1_init_4 : decode cX1_init 4 = .ok (.aload_n 0, 1) := by decide +kernel
theorem dX1_init_5 : decode cX1_init 5 = .ok (.iconst 5, 1) := by decide +kernel
theorem dX1_init_6 : decode cX1_init 6 = .ok (.newarray .int, 2) := by decide +kernel
theorem dX1_init_8 : decode cX1_init 8 = .ok (.putfield 9, 3) := by decide +kernel
theorem dX1_init_11 : decode cX1_init 11 = .ok (.aload_n 0, 1) := by decide +kernel
theorem dX1_init_12 : decode cX1_init 12 = .ok (.bipush 25, 2) := by decide +kernel
theorem dX1_init_14 : decode cX1_init 14 = .ok (.newarray .int, 2) := by decide +kernel
theorem dX1_init_16 : decode cX1_init 16 = .ok (.putfield 15, 3) := by decide +kernel
theorem dX1_init_19 : decode cX1_init 19 = .ok (.aload_n 0, 1) := by decide +kernel
theorem dX1_init_20 : decode cX1_init 20 = .ok (.iconst 4, 1) := by decide +kernel
theorem dX1_init_21 : decode cX1_init 21 = .ok (.newarray .int, 2) := by decide +kernel
theorem dX1_init_23 : decode cX1_init 23 = .ok (.putfield 18, 3) := by decide +kernel
theorem dX1_init_26 : decode cX1_init 26 = .ok (.aload_n 0, 1) := by decide +kernel
theorem dX1_init_27 : decode cX1_init 27 = .ok (.iconst 4, 1) := by decide +kernel
theorem dX1_init_28 : decode cX1_init 28 = .ok (.newarray .int, 2) := by decide +kernel
theorem dX1_init_30 : decode cX1_init 30 = .ok (.putfield 21, 3) := by decide +kernel
theorem dX1_init_33 : decode cX1_init 33 = .ok (.return_, 1) := by decide +kernel
theorem dX1_begin_0 : decode cX1_begin 0 = .ok (.aload_n 0, 1) := by decide +kernel
theorem dX1_begin_1 : decode cX1_begin 1 = .ok (.iconst 0, 1) := by decide +kernel
theorem dX1_begin_2 : decode cX1_begin 2 = .ok (.putfield 24, 3) := by decide +kernel
theorem dX1_begin_5 : decode cX1_begin 5 = .ok (.aload_n 0, 1) := by decide +kernel
theorem dX1_begin_6 : decode cX1_begin 6 = .ok (.iconst 0, 1) := by decide +kernel
theorem dX1_begin_7 : decode cX1_begin 7 = .ok (.putfield 28, 3) := by decide +kernel
theorem dX1_begin_10 : decode cX1_begin 10 = .ok (.aload_n 0, 1) := by decide +kernel
theorem dX1_begin_11 : decode cX1_begin 11 = .ok (.iconst 0, 1) := by decide +kernel
theorem dX1_begin_12 : decode cX1_begin 12 = .ok (.putfield 31, 3) := by decide +kernel
theorem dX1_begin_15 : decode cX1_begin 15 = .ok (.aload_n 0, 1) := by decide +kernel
theorem dX1_begin_16 : decode cX1_begin 16 = .ok (.iconst 0, 1) := by decide +kernel
theorem dX1_begin_17 : decode cX1_begin 17 = .ok (.putfield 34, 3) := by decide +kernel
theorem dX1_begin_20 : decode cX1_begin 20 = .ok (.aload_n 0, 1) := by decide +kernel
theorem dX1_begin_21 : decode cX1_begin 21 = .ok (.iconst 0, 1) := by decide +kernel
theorem dX1_begin_22 : decode cX1_begin 22 = .ok (.putfield 37, 3) := by decide +kernel
theorem dX1_begin_25 : decode cX1_begin 25 = .ok (.return_, 1) := by decide +kernel
theorem dX1_isWhole_0 : decode cX1_isWhole 0 = .ok (.aload_n 0, 1) := by decide +kernel
theorem dX1_isWhole_1 : decode cX1_isWhole 1 = .ok (.getfield 37, 3) := by decide +kernel
theorem dX1_isWhole_4 : decode cX1_isWhole 4 = .ok (.iconst 1, 1) := by decide +kernel
theorem dX1_isWhole_5 : decode cX1_isWhole 5 = .ok (.if_icmp .ne 7, 3) := by decide +kernel
theorem dX1_isWhole_8 : decode cX1_isWhole 8 = .ok (.iconst 1, 1) := by decide +kernel
theorem dX1_isWhole_9 : decode cX1_isWhole 9 = .ok (.goto 4, 3) := by decide +kernel
theorem dX1_isWhole_12 : decode cX1_isWhole 12 = .ok (.iconst 0, 1) := by decide +kernel
theorem dX1_isWhole_13 : decode cX1_isWhole 13 = .ok (.ireturn, 1) := by decide +kernel
theorem dX1_take_0 : decode cX1_take 0 = .ok (.aload_n 0, 1) := by decide +kernel
theorem dX1_take_1 : decode cX1_take 1 = .ok (.getfield 37, 3) := by decide +kernel
theorem dX1_take_4 : decode cX1_take 4 = .ok (.tableswitch 75 0 4 #[36, 42, 48, 57, 66], 36) := by decide +kernel
theorem dX1_take_40 : decode cX1_take 40 = .ok (.aload_n 0, 1) := by decide +kernel
theorem dX1_take_41 : decode cX1_take 41 = .ok (.iload_n 1, 1) := by decide +kernel
theorem dX1_take_42 : decode cX1_take 42 = .ok (.invokevirtual 40, 3) := by decide +kernel
theorem dX1_take_45 : decode cX1_take 45 = .ok (.ireturn, 1) := by decide +kernel
theorem dX1_take_46 : decode cX1_take 46 = .ok (.aload_n 0, 1) := by decide +kernel
theorem dX1_take_47 : decode cX1_take 47 = .ok (.iload_n 1, 1) := by decide +kernel
theorem dX1_take_48 : decode cX1_take 48 = .ok (.invokevirtual 44, 3) := by decide +kernel
theorem dX1_take_51 : decode cX1_take 51 = .ok (.ireturn, 1) := by decide +kernel
theorem dX1_take_52 : decode cX1_take 52 = .ok (.aload_n 0, 1) := by decide +kernel
theorem dX1_take_53 : decode cX1_take 53 = .ok (.iload_n 1, 1) := by decide +kernel
theorem dX1_take_54 : decode cX1_take 54 = .ok (.bipush 48, 2) := by decide +kernel
theorem dX1_take_56 : decode cX1_take 56 = .ok (.isub, 1) := by decide +kernel
theorem dX1_take_57 : decode cX1_take 57 = .ok (.invokevirtual 47, 3) := by decide +kernel
theorem dX1_take_60 : decode cX1_take 60 = .ok (.ireturn, 1) := by decide +kernel
theorem dX1_take_61 : decode cX1_take 61 = .ok (.aload_n 0, 1) := by decide +kernel
theorem dX1_take_62 : decode cX1_take 62 = .ok (.iload_n 1, 1) := by decide +kernel
theorem dX1_take_63 : decode cX1_take 63 = .ok (.bipush 97, 2) := by decide +kernel
theorem dX1_take_65 : decode cX1_take 65 = .ok (.isub, 1) := by decide +kernel
theorem dX1_take_66 : decode cX1_take 66 = .ok (.invokevirtual 50, 3) := by decide +kernel
theorem dX1_take_69 : decode cX1_take 69 = .ok (.ireturn, 1) := by decide +kernel
theorem dX1_take_70 : decode cX1_take 70 = .ok (.aload_n 0, 1) := by decide +kernel
theorem dX1_take_71 : decode cX1_take 71 = .ok (.iload_n 1, 1) := by decide +kernel
theorem dX1_take_72 : decode cX1_take 72 = .ok (.bipush 48, 2) := by decide +kernel
theorem dX1_take_74 : decode cX1_take 74 = .ok (.isub, 1) := by decide +kernel
theorem dX1_take_75 : decode cX1_take 75 = .ok (.invokevirtual 53, 3) := by decide +kernel
theorem dX1_take_78 : decode cX1_take 78 = .ok (.ireturn, 1) := by decide +kernel
theorem dX1_take_79 : decode cX1_take 79 = .ok (.aload_n 0, 1) := by decide +kernel
theorem dX1_take_80 : decode cX1_take 80 = .ok (.iload_n 1, 1) := by decide +kernel
theorem dX1_take_81 : decode cX1_take 81 = .ok (.bipush 48, 2) := by decide +kernel
theorem dX1_take_83 : decode cX1_take 83 = .ok (.isub, 1) := by decide +kernel
theorem dX1_take_84 : decode cX1_take 84 = .ok (.invokevirtual 56, 3) := by decide +kernel
theorem dX1_take_87 : decode cX1_take 87 = .ok (.ireturn, 1) := by decide +kernel
theorem dX1_takeStart_0 : decode cX1_takeStart 0 = .ok (.iload_n 1, 1) := by decide +kernel
theorem dX1_takeStart_1 : decode cX1_takeStart 1 = .ok (.bipush 70, 2) := by decide +kernel
theorem dX1_takeStart_3 : decode cX1_takeStart 3 = .ok (.if_icmp .eq 5, 3) := by decide +kernel
theorem dX1_takeStart_6 : decode cX1_takeStart 6 = .ok (.iconst 0, 1) := by decide +kernel
theorem dX1_takeStart_7 : decode cX1_takeStart 7 = .ok (.ireturn, 1) := by decide +kernel
theorem dX1_takeStart_8 : decode cX1_takeStart 8 = .ok (.aload_n 0, 1) := by decide +kernel
theorem dX1_takeStart_9 : decode cX1_takeStart 9 = .ok (.iconst 1, 1) := by decide +kernel
theorem dX1_takeStart_10 : decode cX1_takeStart 10 = .ok (.putfield 37, 3) := by decide +kernel
theorem dX1_takeStart_13 : decode cX1_takeStart 13 = .ok (.iconst 1, 1) := by decide +kernel
theorem dX1_takeStart_14 : decode cX1_takeStart 14 = .ok (.ireturn, 1) := by decide +kernel
theorem dX1_takeThing_0 : decode cX1_takeThing 0 = .ok (.iload_n 1, 1) := by decide +kernel
theorem dX1_takeThing_1 : decode cX1_takeThing 1 = .ok (.bipush 75, 2) := by decide +kernel
theorem dX1_takeThing_3 : decode cX1_takeThing 3 = .ok (.if_icmp .ne 18, 3) := by decide +kernel
theorem dX1_takeThing_6 : decode cX1_takeThing 6 = .ok (.aload_n 0, 1) := by decide +kernel
theorem dX1_takeThing_7 : decode cX1_takeThing 7 = .ok (.getfield 24, 3) := by decide +kernel
theorem dX1_takeThing_10 : decode cX1_takeThing 10 = .ok (.iconst 5, 1) := by decide +kernel
theorem dX1_takeThing_11 : decode cX1_takeThing 11 = .ok (.if_icmp .ge 10, 3) := by decide +kernel
theorem dX1_takeThing_14 : decode cX1_takeThing 14 = .ok (.aload_n 0, 1) := by decide +kernel
theorem dX1_takeThing_15 : decode cX1_takeThing 15 = .ok (.iconst 2, 1) := by decide +kernel
theorem dX1_takeThing_16 : decode cX1_takeThing 16 = .ok (.putfield 37, 3) := by decide +kernel
theorem dX1_takeThing_19 : decode cX1_takeThing 19 = .ok (.iconst 1, 1) := by decide +kernel
theorem dX1_takeThing_20 : decode cX1_takeThing 20 = .ok (.ireturn, 1) := by decide +kernel
theorem dX1_takeThing_21 : decode cX1_takeThing 21 = .ok (.iload_n 1, 1) := by decide +kernel
theorem dX1_takeThing_22 : decode cX1_takeThing 22 = .ok (.bipush 82, 2) := by decide +kernel
theorem dX1_takeThing_24 : decode cX1_takeThing 24 = .ok (.if_icmp .ne 30, 3) := by decide +kernel
theorem dX1_takeThing_27 : decode cX1_takeThing 27 = .ok (.aload_n 0, 1) := by decide +kernel
theorem dX1_takeThing_28 : decode cX1_takeThing 28 = .ok (.getfield 28, 3) := by decide +kernel
theorem dX1_takeThing_31 : decode cX1_takeThing 31 = .ok (.iconst 5, 1) := by decide +kernel
theorem dX1_takeThing_32 : decode cX1_takeThing 32 = .ok (.if_icmp .ge 22, 3) := by decide +kernel
theorem dX1_takeThing_35 : decode cX1_takeThing 35 = .ok (.aload_n 0, 1) := by decide +kernel
theorem dX1_takeThing_36 : decode cX1_takeThing 36 = .ok (.getfield 24, 3) := by decide +kernel
theorem dX1_takeThing_39 : decode cX1_takeThing 39 = .ok (.ifCond .le 15, 3) := by decide +kernel
theorem dX1_takeThing_42 : decode cX1_takeThing 42 = .ok (.aload_n 0, 1) := by decide +kernel
theorem dX1_takeThing_43 : decode cX1_takeThing 43 = .ok (.iconst 3, 1) := by decide +kernel
theorem dX1_takeThing_44 : decode cX1_takeThing 44 = .ok (.putfield 37, 3) := by decide +kernel
theorem dX1_takeThing_47 : decode cX1_takeThing 47 = .ok (.aload_n 0, 1) := by decide +kernel
theorem dX1_takeThing_48 : decode cX1_takeThing 48 = .ok (.iconst 0, 1) := by decide +kernel
theorem dX1_takeThing_49 : decode cX1_takeThing 49 = .ok (.putfield 34, 3) := by decide +kernel
theorem dX1_takeThing_52 : decode cX1_takeThing 52 = .ok (.iconst 1, 1) := by decide +kernel
theorem dX1_takeThing_53 : decode cX1_takeThing 53 = .ok (.ireturn, 1) := by decide +kernel
theorem dX1_takeThing_54 : decode cX1_takeThing 54 = .ok (.iload_n 1, 1) := by decide +kernel
theorem dX1_takeThing_55 : decode cX1_takeThing 55 = .ok (.bipush 68, 2) := by decide +kernel
theorem dX1_takeThing_57 : decode cX1_takeThing 57 = .ok (.if_icmp .ne 18, 3) := by decide +kernel
theorem dX1_takeThing_60 : decode cX1_takeThing 60 = .ok (.aload_n 0, 1) := by decide +kernel
theorem dX1_takeThing_61 : decode cX1_takeThing 61 = .ok (.getfield 31, 3) := by decide +kernel
theorem dX1_takeThing_64 : decode cX1_takeThing 64 = .ok (.iconst 4, 1) := by decide +kernel
theorem dX1_takeThing_65 : decode cX1_takeThing 65 = .ok (.if_icmp .ge 10, 3) := by decide +kernel
theorem dX1_takeThing_68 : decode cX1_takeThing 68 = .ok (.aload_n 0, 1) := by decide +kernel
theorem dX1_takeThing_69 : decode cX1_takeThing 69 = .ok (.iconst 4, 1) := by decide +kernel
theorem dX1_takeThing_70 : decode cX1_takeThing 70 = .ok (.putfield 37, 3) := by decide +kernel
theorem dX1_takeThing_73 : decode cX1_takeThing 73 = .ok (.iconst 1, 1) := by decide +kernel
theorem dX1_takeThing_74 : decode cX1_takeThing 74 = .ok (.ireturn, 1) := by decide +kernel
theorem dX1_takeThing_75 : decode cX1_takeThing 75 = .ok (.iconst 0, 1) := by decide +kernel
theorem dX1_takeThing_76 : decode cX1_takeThing 76 = .ok (.ireturn, 1) := by decide +kernel
theorem dX1_takeKind_0 : decode cX1_takeKind 0 = .ok (.iload_n 1, 1) := by decide +kernel
theorem dX1_takeKind_1 : decode cX1_takeKind 1 = .ok (.ifCond .lt 16, 3) := by decide +kernel
theorem dX1_takeKind_4 : decode cX1_takeKind 4 = .ok (.iload_n 1, 1) := by decide +kernel
theorem dX1_takeKind_5 : decode cX1_takeKind 5 = .ok (.iconst 4, 1) := by decide +kernel
theorem dX1_takeKind_6 : decode cX1_takeKind 6 = .ok (.if_icmp .ge 11, 3) := by decide +kernel
theorem dX1_takeKind_9 : decode cX1_takeKind 9 = .ok (.aload_n 0, 1) := by decide +kernel
theorem dX1_takeKind_10 : decode cX1_takeKind 10 = .ok (.getfield 24, 3) := by decide +kernel
theorem dX1_takeKind_13 : decode cX1_takeKind 13 = .ok (.iconst 5, 1) := by decide +kernel
theorem dX1_takeKind_14 : decode cX1_takeKind 14 = .ok (.if_icmp .lt 5, 3) := by decide +kernel
theorem dX1_takeKind_17 : decode cX1_takeKind 17 = .ok (.iconst 0, 1) := by decide +kernel
theorem dX1_takeKind_18 : decode cX1_takeKind 18 = .ok (.ireturn, 1) := by decide +kernel
theorem dX1_takeKind_19 : decode cX1_takeKind 19 = .ok (.aload_n 0, 1) := by decide +kernel
theorem dX1_takeKind_20 : decode cX1_takeKind 20 = .ok (.getfield 9, 3) := by decide +kernel
theorem dX1_takeKind_23 : decode cX1_takeKind 23 = .ok (.aload_n 0, 1) := by decide +kernel
theorem dX1_takeKind_24 : decode cX1_takeKind 24 = .ok (.getfield 24, 3) := by decide +kernel
theorem dX1_takeKind_27 : decode cX1_takeKind 27 = .ok (.iload_n 1, 1) := by decide +kernel
theorem dX1_takeKind_28 : decode cX1_takeKind 28 = .ok (.iastore, 1) := by decide +kernel
theorem dX1_takeKind_29 : decode cX1_takeKind 29 = .ok (.aload_n 0, 1) := by decide +kernel
theorem dX1_takeKind_30 : decode cX1_takeKind 30 = .ok (.dup, 1) := by decide +kernel
theorem dX1_takeKind_31 : decode cX1_takeKind 31 = .ok (.getfield 24, 3) := by decide +kernel
theorem dX1_takeKind_34 : decode cX1_takeKind 34 = .ok (.iconst 1, 1) := by decide +kernel
theorem dX1_takeKind_35 : decode cX1_takeKind 35 = .ok (.iadd, 1) := by decide +kernel
theorem dX1_takeKind_36 : decode cX1_takeKind 36 = .ok (.putfield 24, 3) := by decide +kernel
theorem dX1_takeKind_39 : decode cX1_takeKind 39 = .ok (.aload_n 0, 1) := by decide +kernel
theorem dX1_takeKind_40 : decode cX1_takeKind 40 = .ok (.iconst 1, 1) := by decide +kernel
theorem dX1_takeKind_41 : decode cX1_takeKind 41 = .ok (.putfield 37, 3) := by decide +kernel
theorem dX1_takeKind_44 : decode cX1_takeKind 44 = .ok (.iconst 1, 1) := by decide +kernel
theorem dX1_takeKind_45 : decode cX1_takeKind 45 = .ok (.ireturn, 1) := by decide +kernel
theorem dX1_takeCell_0 : decode cX1_takeCell 0 = .ok (.iload_n 1, 1) := by decide +kernel
theorem dX1_takeCell_1 : decode cX1_takeCell 1 = .ok (.ifCond .lt 29, 3) := by decide +kernel
theorem dX1_takeCell_4 : decode cX1_takeCell 4 = .ok (.iload_n 1, 1) := by decide +kernel
theorem dX1_takeCell_5 : decode cX1_takeCell 5 = .ok (.aload_n 0, 1) := by decide +kernel
theorem dX1_takeCell_6 : decode cX1_takeCell 6 = .ok (.getfield 24, 3) := by decide +kernel
theorem dX1_takeCell_9 : decode cX1_takeCell 9 = .ok (.iconst 4, 1) := by decide +kernel
theorem dX1_takeCell_10 : decode cX1_takeCell 10 = .ok (.imul, 1) := by decide +kernel
theorem dX1_takeCell_11 : decode cX1_takeCell 11 = .ok (.if_icmp .ge 19, 3) := by decide +kernel
theorem dX1_takeCell_14 : decode cX1_takeCell 14 = .ok (.aload_n 0, 1) := by decide +kernel
theorem dX1_takeCell_15 : decode cX1_takeCell 15 = .ok (.getfield 28, 3) := by decide +kernel
theorem dX1_takeCell_18 : decode cX1_takeCell 18 = .ok (.iconst 5, 1) := by decide +kernel
theorem dX1_takeCell_19 : decode cX1_takeCell 19 = .ok (.if_icmp .ge 11, 3) := by decide +kernel
theorem dX1_takeCell_22 : decode cX1_takeCell 22 = .ok (.aload_n 0, 1) := by decide +kernel
theorem dX1_takeCell_23 : decode cX1_takeCell 23 = .ok (.getfield 34, 3) := by decide +kernel
theorem dX1_takeCell_26 : decode cX1_takeCell 26 = .ok (.iconst 5, 1) := by decide +kernel
theorem dX1_takeCell_27 : decode cX1_takeCell 27 = .ok (.if_icmp .lt 5, 3) := by decide +kernel
theorem dX1_takeCell_30 : decode cX1_takeCell 30 = .ok (.iconst 0, 1) := by decide +kernel
theorem dX1_takeCell_31 : decode cX1_takeCell 31 = .ok (.ireturn, 1) := by decide +kernel
theorem dX1_takeCell_32 : decode cX1_takeCell 32 = .ok (.aload_n 0, 1) := by decide +kernel
theorem dX1_takeCell_33 : decode cX1_takeCell 33 = .ok (.getfield 15, 3) := by decide +kernel
theorem dX1_takeCell_36 : decode cX1_takeCell 36 = .ok (.aload_n 0, 1) := by decide +kernel
theorem dX1_takeCell_37 : decode cX1_takeCell 37 = .ok (.getfield 28, 3) := by decide +kernel
theorem dX1_takeCell_40 : decode cX1_takeCell 40 = .ok (.iconst 5, 1) := by decide +kernel
theorem dX1_takeCell_41 : decode cX1_takeCell 41 = .ok (.imul, 1) := by decide +kernel
theorem dX1_takeCell_42 : decode cX1_takeCell 42 = .ok (.aload_n 0, 1) := by decide +kernel
theorem dX1_takeCell_43 : decode cX1_takeCell 43 = .ok (.getfield 34, 3) := by decide +kernel
theorem dX1_takeCell_46 : decode cX1_takeCell 46 = .ok (.iadd, 1) := by decide +kernel
theorem dX1_takeCell_47 : decode cX1_takeCell 47 = .ok (.iload_n 1, 1) := by decide +kernel
theorem dX1_takeCell_48 : decode cX1_takeCell 48 = .ok (.iastore, 1) := by decide +kernel
theorem dX1_takeCell_49 : decode cX1_takeCell 49 = .ok (.aload_n 0, 1) := by decide +kernel
theorem dX1_takeCell_50 : decode cX1_takeCell 50 = .ok (.dup, 1) := by decide +kernel
theorem dX1_takeCell_51 : decode cX1_takeCell 51 = .ok (.getfield 34, 3) := by decide +kernel
theorem dX1_takeCell_54 : decode cX1_takeCell 54 = .ok (.iconst 1, 1) := by decide +kernel
theorem dX1_takeCell_55 : decode cX1_takeCell 55 = .ok (.iadd, 1) := by decide +kernel
theorem dX1_takeCell_56 : decode cX1_takeCell 56 = .ok (.putfield 34, 3) := by decide +kernel
theorem dX1_takeCell_59 : decode cX1_takeCell 59 = .ok (.aload_n 0, 1) := by decide +kernel
theorem dX1_takeCell_60 : decode cX1_takeCell 60 = .ok (.getfield 34, 3) := by decide +kernel
theorem dX1_takeCell_63 : decode cX1_takeCell 63 = .ok (.iconst 5, 1) := by decide +kernel
theorem dX1_takeCell_64 : decode cX1_takeCell 64 = .ok (.if_icmp .ne 18, 3) := by decide +kernel
theorem dX1_takeCell_67 : decode cX1_takeCell 67 = .ok (.aload_n 0, 1) := by decide +kernel
theorem dX1_takeCell_68 : decode cX1_takeCell 68 = .ok (.dup, 1) := by decide +kernel
theorem dX1_takeCell_69 : decode cX1_takeCell 69 = .ok (.getfield 28, 3) := by decide +kernel
theorem dX1_takeCell_72 : decode cX1_takeCell 72 = .ok (.iconst 1, 1) := by decide +kernel
theorem dX1_takeCell_73 : decode cX1_takeCell 73 = .ok (.iadd, 1) := by decide +kernel
theorem dX1_takeCell_74 : decode cX1_takeCell 74 = .ok (.putfield 28, 3) := by decide +kernel
theorem dX1_takeCell_77 : decode cX1_takeCell 77 = .ok (.aload_n 0, 1) := by decide +kernel
theorem dX1_takeCell_78 : decode cX1_takeCell 78 = .ok (.iconst 1, 1) := by decide +kernel
theorem dX1_takeCell_79 : decode cX1_takeCell 79 = .ok (.putfield 37, 3) := by decide +kernel
theorem dX1_takeCell_82 : decode cX1_takeCell 82 = .ok (.iconst 1, 1) := by decide +kernel
theorem dX1_takeCell_83 : decode cX1_takeCell 83 = .ok (.ireturn, 1) := by decide +kernel
theorem dX1_takePart_0 : decode cX1_takePart 0 = .ok (.iload_n 1, 1) := by decide +kernel
theorem dX1_takePart_1 : decode cX1_takePart 1 = .ok (.ifCond .lt 16, 3) := by decide +kernel
theorem dX1_takePart_4 : decode cX1_takePart 4 = .ok (.iload_n 1, 1) := by decide +kernel
theorem dX1_takePart_5 : decode cX1_takePart 5 = .ok (.iconst 4, 1) := by decide +kernel
theorem dX1_takePart_6 : decode cX1_takePart 6 = .ok (.if_icmp .ge 11, 3) := by decide +kernel
theorem dX1_takePart_9 : decode cX1_takePart 9 = .ok (.aload_n 0, 1) := by decide +kernel
theorem dX1_takePart_10 : decode cX1_takePart 10 = .ok (.getfield 31, 3) := by decide +kernel
theorem dX1_takePart_13 : decode cX1_takePart 13 = .ok (.iconst 4, 1) := by decide +kernel
theorem dX1_takePart_14 : decode cX1_takePart 14 = .ok (.if_icmp .lt 5, 3) := by decide +kernel
theorem dX1_takePart_17 : decode cX1_takePart 17 = .ok (.iconst 0, 1) := by decide +kernel
theorem dX1_takePart_18 : decode cX1_takePart 18 = .ok (.ireturn, 1) := by decide +kernel
theorem dX1_takePart_19 : decode cX1_takePart 19 = .ok (.aload_n 0, 1) := by decide +kernel
theorem dX1_takePart_20 : decode cX1_takePart 20 = .ok (.getfield 18, 3) := by decide +kernel
theorem dX1_takePart_23 : decode cX1_takePart 23 = .ok (.aload_n 0, 1) := by decide +kernel
theorem dX1_takePart_24 : decode cX1_takePart 24 = .ok (.getfield 31, 3) := by decide +kernel
theorem dX1_takePart_27 : decode cX1_takePart 27 = .ok (.iload_n 1, 1) := by decide +kernel
theorem dX1_takePart_28 : decode cX1_takePart 28 = .ok (.iastore, 1) := by decide +kernel
theorem dX1_takePart_29 : decode cX1_takePart 29 = .ok (.aload_n 0, 1) := by decide +kernel
theorem dX1_takePart_30 : decode cX1_takePart 30 = .ok (.iconst 5, 1) := by decide +kernel
theorem dX1_takePart_31 : decode cX1_takePart 31 = .ok (.putfield 37, 3) := by decide +kernel
theorem dX1_takePart_34 : decode cX1_takePart 34 = .ok (.iconst 1, 1) := by decide +kernel
theorem dX1_takePart_35 : decode cX1_takePart 35 = .ok (.ireturn, 1) := by decide +kernel
theorem dX1_takeNeed_0 : decode cX1_takeNeed 0 = .ok (.iload_n 1, 1) := by decide +kernel
theorem dX1_takeNeed_1 : decode cX1_takeNeed 1 = .ok (.iconst 1, 1) := by decide +kernel
theorem dX1_takeNeed_2 : decode cX1_takeNeed 2 = .ok (.if_icmp .lt 17, 3) := by decide +kernel
theorem dX1_takeNeed_5 : decode cX1_takeNeed 5 = .ok (.iload_n 1, 1) := by decide +kernel
theorem dX1_takeNeed_6 : decode cX1_takeNeed 6 = .ok (.bipush 9, 2) := by decide +kernel
theorem dX1_takeNeed_8 : decode cX1_takeNeed 8 = .ok (.if_icmp .gt 11, 3) := by decide +kernel
theorem dX1_takeNeed_11 : decode cX1_takeNeed 11 = .ok (.aload_n 0, 1) := by decide +kernel
theorem dX1_takeNeed_12 : decode cX1_takeNeed 12 = .ok (.getfield 31, 3) := by decide +kernel
theorem dX1_takeNeed_15 : decode cX1_takeNeed 15 = .ok (.iconst 4, 1) := by decide +kernel
theorem dX1_takeNeed_16 : decode cX1_takeNeed 16 = .ok (.if_icmp .lt 5, 3) := by decide +kernel
theorem dX1_takeNeed_19 : decode cX1_takeNeed 19 = .ok (.iconst 0, 1) := by decide +kernel
theorem dX1_takeNeed_20 : decode cX1_takeNeed 20 = .ok (.ireturn, 1) := by decide +kernel
theorem dX1_takeNeed_21 : decode cX1_takeNeed 21 = .ok (.aload_n 0, 1) := by decide +kernel
theorem dX1_takeNeed_22 : decode cX1_takeNeed 22 = .ok (.getfield 21, 3) := by decide +kernel
theorem dX1_takeNeed_25 : decode cX1_takeNeed 25 = .ok (.aload_n 0, 1) := by decide +kernel
theorem dX1_takeNeed_26 : decode cX1_takeNeed 26 = .ok (.getfield 31, 3) := by decide +kernel
theorem dX1_takeNeed_29 : decode cX1_takeNeed 29 = .ok (.iload_n 1, 1) := by decide +kernel
theorem dX1_takeNeed_30 : decode cX1_takeNeed 30 = .ok (.iastore, 1) := by decide +kernel
theorem dX1_takeNeed_31 : decode cX1_takeNeed 31 = .ok (.aload_n 0, 1) := by decide +kernel
theorem dX1_takeNeed_32 : decode cX1_takeNeed 32 = .ok (.dup, 1) := by decide +kernel
theorem dX1_takeNeed_33 : decode cX1_takeNeed 33 = .ok (.getfield 31, 3) := by decide +kernel
theorem dX1_takeNeed_36 : decode cX1_takeNeed 36 = .ok (.iconst 1, 1) := by decide +kernel
theorem dX1_takeNeed_37 : decode cX1_takeNeed 37 = .ok (.iadd, 1) := by decide +kernel
theorem dX1_takeNeed_38 : decode cX1_takeNeed 38 = .ok (.putfield 31, 3) := by decide +kernel
theorem dX1_takeNeed_41 : decode cX1_takeNeed 41 = .ok (.aload_n 0, 1) := by decide +kernel
theorem dX1_takeNeed_42 : decode cX1_takeNeed 42 = .ok (.iconst 1, 1) := by decide +kernel
theorem dX1_takeNeed_43 : decode cX1_takeNeed 43 = .ok (.putfield 37, 3) := by decide +kernel
theorem dX1_takeNeed_46 : decode cX1_takeNeed 46 = .ok (.iconst 1, 1) := by decide +kernel
theorem dX1_takeNeed_47 : decode cX1_takeNeed 47 = .ok (.ireturn, 1) := by decide +kernel
theorem dX2_init_0 : decode cX2_init 0 = .ok (.aload_n 0, 1) := by decide +kernel
theorem dX2_init_1 : decode cX2_init 1 = .ok (.invokespecial 3, 3) := by decide +kernel
theorem dX2_init_4 : decode cX2_init 4 = .ok (.return_, 1) := by decide +kernel
theorem dX2_begin_0 : decode cX2_begin 0 = .ok (.aload_n 0, 1) := by decide +kernel
theorem dX2_begin_1 : decode cX2_begin 1 = .ok (.iconst 0, 1) := by decide +kernel
theorem dX2_begin_2 : decode cX2_begin 2 = .ok (.putfield 9, 3) := by decide +kernel
theorem dX2_begin_5 : decode cX2_begin 5 = .ok (.aload_n 0, 1) := by decide +kernel
theorem dX2_begin_6 : decode cX2_begin 6 = .ok (.bipush (-9), 2) := by decide +kernel
theorem dX2_begin_8 : decode cX2_begin 8 = .ok (.putfield 15, 3) := by decide +kernel
theorem dX2_begin_11 : decode cX2_begin 11 = .ok (.aload_n 0, 1) := by decide +kernel
theorem dX2_begin_12 : decode cX2_begin 12 = .ok (.bipush (-9), 2) := by decide +kernel
theorem dX2_begin_14 : decode cX2_begin 14 = .ok (.putfield 18, 3) := by decide +kernel
theorem dX2_begin_17 : decode cX2_begin 17 = .ok (.return_, 1) := by decide +kernel
theorem dX2_offer_0 : decode cX2_offer 0 = .ok (.aload_n 0, 1) := by decide +kernel
theorem dX2_offer_1 : decode cX2_offer 1 = .ok (.getfield 9, 3) := by decide +kernel
theorem dX2_offer_4 : decode cX2_offer 4 = .ok (.ifCond .eq 11, 3) := by decide +kernel
theorem dX2_offer_7 : decode cX2_offer 7 = .ok (.iload_n 1, 1) := by decide +kernel
theorem dX2_offer_8 : decode cX2_offer 8 = .ok (.aload_n 0, 1) := by decide +kernel
theorem dX2_offer_9 : decode cX2_offer 9 = .ok (.getfield 15, 3) := by decide +kernel
theorem dX2_offer_12 : decode cX2_offer 12 = .ok (.if_icmp .ge 13, 3) := by decide +kernel
theorem dX2_offer_15 : decode cX2_offer 15 = .ok (.aload_n 0, 1) := by decide +kernel
theorem dX2_offer_16 : decode cX2_offer 16 = .ok (.iload_n 1, 1) := by decide +kernel
theorem dX2_offer_17 : decode cX2_offer 17 = .ok (.putfield 15, 3) := by decide +kernel
theorem dX2_offer_20 : decode cX2_offer 20 = .ok (.aload_n 0, 1) := by decide +kernel
theorem dX2_offer_21 : decode cX2_offer 21 = .ok (.iload_n 2, 1) := by decide +kernel
theorem dX2_offer_22 : decode cX2_offer 22 = .ok (.putfield 18, 3) := by decide +kernel
theorem dX2_offer_25 : decode cX2_offer 25 = .ok (.aload_n 0, 1) := by decide +kernel
theorem dX2_offer_26 : decode cX2_offer 26 = .ok (.dup, 1) := by decide +kernel
theorem dX2_offer_27 : decode cX2_offer 27 = .ok (.getfield 9, 3) := by decide +kernel
theorem dX2_offer_30 : decode cX2_offer 30 = .ok (.iconst 1, 1) := by decide +kernel
theorem dX2_offer_31 : decode cX2_offer 31 = .ok (.iadd, 1) := by decide +kernel
theorem dX2_offer_32 : decode cX2_offer 32 = .ok (.putfield 9, 3) := by decide +kernel
theorem dX2_offer_35 : decode cX2_offer 35 = .ok (.return_, 1) := by decide +kernel
theorem dX3_init_0 : decode cX3_init 0 = .ok (.aload_n 0, 1) := by decide +kernel
theorem dX3_init_1 : decode cX3_init 1 = .ok (.invokespecial 3, 3) := by decide +kernel
theorem dX3_init_4 : decode cX3_init 4 = .ok (.aload_n 0, 1) := by decide +kernel
theorem dX3_init_5 : decode cX3_init 5 = .ok (.bipush 6, 2) := by decide +kernel
theorem dX3_init_7 : decode cX3_init 7 = .ok (.newarray .int, 2) := by decide +kernel
theorem dX3_init_9 : decode cX3_init 9 = .ok (.putfield 9, 3) := by decide +kernel
theorem dX3_init_12 : decode cX3_init 12 = .ok (.aload_n 0, 1) := by decide +kernel
theorem dX3_init_13 : decode cX3_init 13 = .ok (.bipush 6, 2) := by decide +kernel
theorem dX3_init_15 : decode cX3_init 15 = .ok (.newarray .int, 2) := by decide +kernel
theorem dX3_init_17 : decode cX3_init 17 = .ok (.putfield 15, 3) := by decide +kernel
theorem dX3_init_20 : decode cX3_init 20 = .ok (.return_, 1) := by decide +kernel
theorem dX3_append_0 : decode cX3_append 0 = .ok (.aload_n 0, 1) := by decide +kernel
theorem dX3_append_1 : decode cX3_append 1 = .ok (.getfield 18, 3) := by decide +kernel
theorem dX3_append_4 : decode cX3_append 4 = .ok (.bipush 6, 2) := by decide +kernel
theorem dX3_append_6 : decode cX3_append 6 = .ok (.if_icmp .lt 5, 3) := by decide +kernel
theorem dX3_append_9 : decode cX3_append 9 = .ok (.iconst 0, 1) := by decide +kernel
theorem dX3_append_10 : decode cX3_append 10 = .ok (.ireturn, 1) := by decide +kernel
theorem dX3_append_11 : decode cX3_append 11 = .ok (.aload_n 0, 1) := by decide +kernel
theorem dX3_append_12 : decode cX3_append 12 = .ok (.getfield 9, 3) := by decide +kernel
theorem dX3_append_15 : decode cX3_append 15 = .ok (.aload_n 0, 1) := by decide +kernel
theorem dX3_append_16 : decode cX3_append 16 = .ok (.getfield 18, 3) := by decide +kernel
theorem dX3_append_19 : decode cX3_append 19 = .ok (.iload_n 1, 1) := by decide +kernel
theorem dX3_append_20 : decode cX3_append 20 = .ok (.iastore, 1) := by decide +kernel
theorem dX3_append_21 : decode cX3_append 21 = .ok (.aload_n 0, 1) := by decide +kernel
theorem dX3_append_22 : decode cX3_append 22 = .ok (.getfield 15, 3) := by decide +kernel
theorem dX3_append_25 : decode cX3_append 25 = .ok (.aload_n 0, 1) := by decide +kernel
theorem dX3_append_26 : decode cX3_append 26 = .ok (.getfield 18, 3) := by decide +kernel
theorem dX3_append_29 : decode cX3_append 29 = .ok (.iload_n 2, 1) := by decide +kernel
theorem dX3_append_30 : decode cX3_append 30 = .ok (.iastore, 1) := by decide +kernel
theorem dX3_append_31 : decode cX3_append 31 = .ok (.aload_n 0, 1) := by decide +kernel
theorem dX3_append_32 : decode cX3_append 32 = .ok (.dup, 1) := by decide +kernel
theorem dX3_append_33 : decode cX3_append 33 = .ok (.getfield 18, 3) := by decide +kernel
theorem dX3_append_36 : decode cX3_append 36 = .ok (.iconst 1, 1) := by decide +kernel
theorem dX3_append_37 : decode cX3_append 37 = .ok (.iadd, 1) := by decide +kernel
theorem dX3_append_38 : decode cX3_append 38 = .ok (.putfield 18, 3) := by decide +kernel
theorem dX3_append_41 : decode cX3_append 41 = .ok (.iconst 1, 1) := by decide +kernel
theorem dX3_append_42 : decode cX3_append 42 = .ok (.ireturn, 1) := by decide +kernel
theorem dX3_agreesWith_0 : decode cX3_agreesWith 0 = .ok (.iconst 0, 1) := by decide +kernel
theorem dX3_agreesWith_1 : decode cX3_agreesWith 1 = .ok (.istore_n 3, 1) := by decide +kernel
theorem dX3_agreesWith_2 : decode cX3_agreesWith 2 = .ok (.iload_n 3, 1) := by decide +kernel
theorem dX3_agreesWith_3 : decode cX3_agreesWith 3 = .ok (.aload_n 0, 1) := by decide +kernel
theorem dX3_agreesWith_4 : decode cX3_agreesWith 4 = .ok (.getfield 18, 3) := by decide +kernel
theorem dX3_agreesWith_7 : decode cX3_agreesWith 7 = .ok (.if_icmp .ge 40, 3) := by decide +kernel
theorem dX3_agreesWith_10 : decode cX3_agreesWith 10 = .ok (.aload_n 0, 1) := by decide +kernel
theorem dX3_agreesWith_11 : decode cX3_agreesWith 11 = .ok (.getfield 9, 3) := by decide +kernel
theorem dX3_agreesWith_14 : decode cX3_agreesWith 14 = .ok (.iload_n 3, 1) := by decide +kernel
theorem dX3_agreesWith_15 : decode cX3_agreesWith 15 = .ok (.iaload, 1) := by decide +kernel
theorem dX3_agreesWith_16 : decode cX3_agreesWith 16 = .ok (.iload_n 2, 1) := by decide +kernel
theorem dX3_agreesWith_17 : decode cX3_agreesWith 17 = .ok (.if_icmp .ge 24, 3) := by decide +kernel
theorem dX3_agreesWith_20 : decode cX3_agreesWith 20 = .ok (.aload_n 1, 1) := by decide +kernel
theorem dX3_agreesWith_21 : decode cX3_agreesWith 21 = .ok (.aload_n 0, 1) := by decide +kernel
theorem dX3_agreesWith_22 : decode cX3_agreesWith 22 = .ok (.getfield 9, 3) := by decide +kernel
theorem dX3_agreesWith_25 : decode cX3_agreesWith 25 = .ok (.iload_n 3, 1) := by decide +kernel
theorem dX3_agreesWith_26 : decode cX3_agreesWith 26 = .ok (.iaload, 1) := by decide +kernel
theorem dX3_agreesWith_27 : decode cX3_agreesWith 27 = .ok (.aload_n 0, 1) := by decide +kernel
theorem dX3_agreesWith_28 : decode cX3_agreesWith 28 = .ok (.getfield 15, 3) := by decide +kernel
theorem dX3_agreesWith_31 : decode cX3_agreesWith 31 = .ok (.iload_n 3, 1) := by decide +kernel
theorem dX3_agreesWith_32 : decode cX3_agreesWith 32 = .ok (.iaload, 1) := by decide +kernel
theorem dX3_agreesWith_33 : decode cX3_agreesWith 33 = .ok (.invokestatic 22, 3) := by decide +kernel
theorem dX3_agreesWith_36 : decode cX3_agreesWith 36 = .ok (.ifCond .ne 5, 3) := by decide +kernel
theorem dX3_agreesWith_39 : decode cX3_agreesWith 39 = .ok (.iconst 0, 1) := by decide +kernel
theorem dX3_agreesWith_40 : decode cX3_agreesWith 40 = .ok (.ireturn, 1) := by decide +kernel
theorem dX3_agreesWith_41 : decode cX3_agreesWith 41 = .ok (.iinc 3 1, 3) := by decide +kernel
theorem dX3_agreesWith_44 : decode cX3_agreesWith 44 = .ok (.goto (-42), 3) := by decide +kernel
theorem dX3_agreesWith_47 : decode cX3_agreesWith 47 = .ok (.iconst 1, 1) := by decide +kernel
theorem dX3_agreesWith_48 : decode cX3_agreesWith 48 = .ok (.ireturn, 1) := by decide +kernel
theorem dX3_isSo_0 : decode cX3_isSo 0 = .ok (.aload_n 0, 1) := by decide +kernel
theorem dX3_isSo_1 : decode cX3_isSo 1 = .ok (.iconst 0, 1) := by decide +kernel
theorem dX3_isSo_2 : decode cX3_isSo 2 = .ok (.iload_n 1, 1) := by decide +kernel
theorem dX3_isSo_3 : decode cX3_isSo 3 = .ok (.invokevirtual 26, 3) := by decide +kernel
theorem dX3_isSo_6 : decode cX3_isSo 6 = .ok (.ifCond .le 7, 3) := by decide +kernel
theorem dX3_isSo_9 : decode cX3_isSo 9 = .ok (.iconst 1, 1) := by decide +kernel
theorem dX3_isSo_10 : decode cX3_isSo 10 = .ok (.goto 4, 3) := by decide +kernel
theorem dX3_isSo_13 : decode cX3_isSo 13 = .ok (.iconst 0, 1) := by decide +kernel
theorem dX3_isSo_14 : decode cX3_isSo 14 = .ok (.istore_n 3, 1) := by decide +kernel
theorem dX3_isSo_15 : decode cX3_isSo 15 = .ok (.aload_n 0, 1) := by decide +kernel
theorem dX3_isSo_16 : decode cX3_isSo 16 = .ok (.iconst 1, 1) := by decide +kernel
theorem dX3_isSo_17 : decode cX3_isSo 17 = .ok (.iload_n 1, 1) := by decide +kernel
theorem dX3_isSo_18 : decode cX3_isSo 18 = .ok (.invokevirtual 26, 3) := by decide +kernel
theorem dX3_isSo_21 : decode cX3_isSo 21 = .ok (.ifCond .le 7, 3) := by decide +kernel
theorem dX3_isSo_24 : decode cX3_isSo 24 = .ok (.iconst 1, 1) := by decide +kernel
theorem dX3_isSo_25 : decode cX3_isSo 25 = .ok (.goto 4, 3) := by decide +kernel
theorem dX3_isSo_28 : decode cX3_isSo 28 = .ok (.iconst 0, 1) := by decide +kernel
theorem dX3_isSo_29 : decode cX3_isSo 29 = .ok (.istore 4, 2) := by decide +kernel
theorem dX3_isSo_31 : decode cX3_isSo 31 = .ok (.iload_n 2, 1) := by decide +kernel
theorem dX3_isSo_32 : decode cX3_isSo 32 = .ok (.lookupswitch 58 #[(0, 28), (1, 43)], 28) := by decide +kernel
theorem dX3_isSo_60 : decode cX3_isSo 60 = .ok (.iload_n 3, 1) := by decide +kernel
theorem dX3_isSo_61 : decode cX3_isSo 61 = .ok (.ifCond .eq 12, 3) := by decide +kernel
theorem dX3_isSo_64 : decode cX3_isSo 64 = .ok (.iload 4, 2) := by decide +kernel
theorem dX3_isSo_66 : decode cX3_isSo 66 = .ok (.ifCond .ne 7, 3) := by decide +kernel
theorem dX3_isSo_69 : decode cX3_isSo 69 = .ok (.iconst 1, 1) := by decide +kernel
theorem dX3_isSo_70 : decode cX3_isSo 70 = .ok (.goto 4, 3) := by decide +kernel
theorem dX3_isSo_73 : decode cX3_isSo 73 = .ok (.iconst 0, 1) := by decide +kernel
theorem dX3_isSo_74 : decode cX3_isSo 74 = .ok (.ireturn, 1) := by decide +kernel
theorem dX3_isSo_75 : decode cX3_isSo 75 = .ok (.iload 4, 2) := by decide +kernel
theorem dX3_isSo_77 : decode cX3_isSo 77 = .ok (.ifCond .eq 11, 3) := by decide +kernel
theorem dX3_isSo_80 : decode cX3_isSo 80 = .ok (.iload_n 3, 1) := by decide +kernel
theorem dX3_isSo_81 : decode cX3_isSo 81 = .ok (.ifCond .ne 7, 3) := by decide +kernel
theorem dX3_isSo_84 : decode cX3_isSo 84 = .ok (.iconst 1, 1) := by decide +kernel
theorem dX3_isSo_85 : decode cX3_isSo 85 = .ok (.goto 4, 3) := by decide +kernel
theorem dX3_isSo_88 : decode cX3_isSo 88 = .ok (.iconst 0, 1) := by decide +kernel
theorem dX3_isSo_89 : decode cX3_isSo 89 = .ok (.ireturn, 1) := by decide +kernel
theorem dX3_isSo_90 : decode cX3_isSo 90 = .ok (.iload_n 3, 1) := by decide +kernel
theorem dX3_isSo_91 : decode cX3_isSo 91 = .ok (.ifCond .eq 12, 3) := by decide +kernel
theorem dX3_isSo_94 : decode cX3_isSo 94 = .ok (.iload 4, 2) := by decide +kernel
theorem dX3_isSo_96 : decode cX3_isSo 96 = .ok (.ifCond .eq 7, 3) := by decide +kernel
theorem dX3_isSo_99 : decode cX3_isSo 99 = .ok (.iconst 1, 1) := by decide +kernel
theorem dX3_isSo_100 : decode cX3_isSo 100 = .ok (.goto 4, 3) := by decide +kernel
theorem dX3_isSo_103 : decode cX3_isSo 103 = .ok (.iconst 0, 1) := by decide +kernel
theorem dX3_isSo_104 : decode cX3_isSo 104 = .ok (.ireturn, 1) := by decide +kernel
theorem dX4_init_0 : decode cX4_init 0 = .ok (.aload_n 0, 1) := by decide +kernel
theorem dX4_init_1 : decode cX4_init 1 = .ok (.invokespecial 3, 3) := by decide +kernel
theorem dX4_init_4 : decode cX4_init 4 = .ok (.aload_n 0, 1) := by decide +kernel
theorem dX4_init_5 : decode cX4_init 5 = .ok (.bipush 25, 2) := by decide +kernel
theorem dX4_init_7 : decode cX4_init 7 = .ok (.newarray .int, 2) := by decide +kernel
theorem dX4_init_9 : decode cX4_init 9 = .ok (.putfield 9, 3) := by decide +kernel
theorem dX4_init_12 : decode cX4_init 12 = .ok (.aload_n 0, 1) := by decide +kernel
theorem dX4_init_13 : decode cX4_init 13 = .ok (.iconst 5, 1) := by decide +kernel
theorem dX4_init_14 : decode cX4_init 14 = .ok (.newarray .int, 2) := by decide +kernel
theorem dX4_init_16 : decode cX4_init 16 = .ok (.putfield 15, 3) := by decide +kernel
theorem dX4_init_19 : decode cX4_init 19 = .ok (.aload_n 0, 1) := by decide +kernel
theorem dX4_init_20 : decode cX4_init 20 = .ok (.aload_n 1, 1) := by decide +kernel
theorem dX4_init_21 : decode cX4_init 21 = .ok (.putfield 18, 3) := by decide +kernel
theorem dX4_init_24 : decode cX4_init 24 = .ok (.return_, 1) := by decide +kernel
theorem dX4_begin_0 : decode cX4_begin 0 = .ok (.aload_n 0, 1) := by decide +kernel
theorem dX4_begin_1 : decode cX4_begin 1 = .ok (.getfield 18, 3) := by decide +kernel
theorem dX4_begin_4 : decode cX4_begin 4 = .ok (.getfield 22, 3) := by decide +kernel
theorem dX4_begin_7 : decode cX4_begin 7 = .ok (.iconst 0, 1) := by decide +kernel
theorem dX4_begin_8 : decode cX4_begin 8 = .ok (.aload_n 0, 1) := by decide +kernel
theorem dX4_begin_9 : decode cX4_begin 9 = .ok (.getfield 9, 3) := by decide +kernel
theorem dX4_begin_12 : decode cX4_begin 12 = .ok (.iconst 0, 1) := by decide +kernel
theorem dX4_begin_13 : decode cX4_begin 13 = .ok (.bipush 25, 2) := by decide +kernel
theorem dX4_begin_15 : decode cX4_begin 15 = .ok (.invokestatic 25, 3) := by decide +kernel
theorem dX4_begin_18 : decode cX4_begin 18 = .ok (.aload_n 0, 1) := by decide +kernel
theorem dX4_begin_19 : decode cX4_begin 19 = .ok (.getfield 15, 3) := by decide +kernel
theorem dX4_begin_22 : decode cX4_begin 22 = .ok (.iconst 2, 1) := by decide +kernel
theorem dX4_begin_23 : decode cX4_begin 23 = .ok (.invokestatic 31, 3) := by decide +kernel
theorem dX4_begin_26 : decode cX4_begin 26 = .ok (.aload_n 0, 1) := by decide +kernel
theorem dX4_begin_27 : decode cX4_begin 27 = .ok (.iconst 0, 1) := by decide +kernel
theorem dX4_begin_28 : decode cX4_begin 28 = .ok (.putfield 37, 3) := by decide +kernel
theorem dX4_begin_31 : decode cX4_begin 31 = .ok (.return_, 1) := by decide +kernel
theorem dX4_copyOf_0 : decode cX4_copyOf 0 = .ok (.aload_n 1, 1) := by decide +kernel
theorem dX4_copyOf_1 : decode cX4_copyOf 1 = .ok (.getfield 9, 3) := by decide +kernel
theorem dX4_copyOf_4 : decode cX4_copyOf 4 = .ok (.iconst 0, 1) := by decide +kernel
theorem dX4_copyOf_5 : decode cX4_copyOf 5 = .ok (.aload_n 0, 1) := by decide +kernel
theorem dX4_copyOf_6 : decode cX4_copyOf 6 = .ok (.getfield 9, 3) := by decide +kernel
theorem dX4_copyOf_9 : decode cX4_copyOf 9 = .ok (.iconst 0, 1) := by decide +kernel
theorem dX4_copyOf_10 : decode cX4_copyOf 10 = .ok (.bipush 25, 2) := by decide +kernel
theorem dX4_copyOf_12 : decode cX4_copyOf 12 = .ok (.invokestatic 25, 3) := by decide +kernel
theorem dX4_copyOf_15 : decode cX4_copyOf 15 = .ok (.aload_n 1, 1) := by decide +kernel
theorem dX4_copyOf_16 : decode cX4_copyOf 16 = .ok (.getfield 15, 3) := by decide +kernel
theorem dX4_copyOf_19 : decode cX4_copyOf 19 = .ok (.iconst 0, 1) := by decide +kernel
theorem dX4_copyOf_20 : decode cX4_copyOf 20 = .ok (.aload_n 0, 1) := by decide +kernel
theorem dX4_copyOf_21 : decode cX4_copyOf 21 = .ok (.getfield 15, 3) := by decide +kernel
theorem dX4_copyOf_24 : decode cX4_copyOf 24 = .ok (.iconst 0, 1) := by decide +kernel
theorem dX4_copyOf_25 : decode cX4_copyOf 25 = .ok (.iconst 5, 1) := by decide +kernel
theorem dX4_copyOf_26 : decode cX4_copyOf 26 = .ok (.invokestatic 25, 3) := by decide +kernel
theorem dX4_copyOf_29 : decode cX4_copyOf 29 = .ok (.aload_n 0, 1) := by decide +kernel
theorem dX4_copyOf_30 : decode cX4_copyOf 30 = .ok (.aload_n 1, 1) := by decide +kernel
theorem dX4_copyOf_31 : decode cX4_copyOf 31 = .ok (.getfield 37, 3) := by decide +kernel
theorem dX4_copyOf_34 : decode cX4_copyOf 34 = .ok (.putfield 37, 3) := by decide +kernel
theorem dX4_copyOf_37 : decode cX4_copyOf 37 = .ok (.return_, 1) := by decide +kernel
theorem dX4_wireNumber_0 : decode cX4_wireNumber 0 = .ok (.aload_n 0, 1) := by decide +kernel
theorem dX4_wireNumber_1 : decode cX4_wireNumber 1 = .ok (.getfield 15, 3) := by decide +kernel
theorem dX4_wireNumber_4 : decode cX4_wireNumber 4 = .ok (.aload_n 0, 1) := by decide +kernel
theorem dX4_wireNumber_5 : decode cX4_wireNumber 5 = .ok (.getfield 18, 3) := by decide +kernel
theorem dX4_wireNumber_8 : decode cX4_wireNumber 8 = .ok (.getfield 41, 3) := by decide +kernel
theorem dX4_wireNumber_11 : decode cX4_wireNumber 11 = .ok (.invokestatic 44, 3) := by decide +kernel
theorem dX4_wireNumber_14 : decode cX4_wireNumber 14 = .ok (.ireturn, 1) := by decide +kernel
theorem dX4_setWire_0 : decode cX4_setWire 0 = .ok (.iload_n 1, 1) := by decide +kernel
theorem dX4_setWire_1 : decode cX4_setWire 1 = .ok (.istore_n 2, 1) := by decide +kernel
theorem dX4_setWire_2 : decode cX4_setWire 2 = .ok (.aload_n 0, 1) := by decide +kernel
theorem dX4_setWire_3 : decode cX4_setWire 3 = .ok (.getfield 18, 3) := by decide +kernel
theorem dX4_setWire_6 : decode cX4_setWire 6 = .ok (.getfield 41, 3) := by decide +kernel
theorem dX4_setWire_9 : decode cX4_setWire 9 = .ok (.iconst 1, 1) := by decide +kernel
theorem dX4_setWire_10 : decode cX4_setWire 10 = .ok (.isub, 1) := by decide +kernel
theorem dX4_setWire_11 : decode cX4_setWire 11 = .ok (.istore_n 3, 1) := by decide +kernel
theorem dX4_setWire_12 : decode cX4_setWire 12 = .ok (.iload_n 3, 1) := by decide +kernel
theorem dX4_setWire_13 : decode cX4_setWire 13 = .ok (.ifCond .lt 24, 3) := by decide +kernel
theorem dX4_setWire_16 : decode cX4_setWire 16 = .ok (.aload_n 0, 1) := by decide +kernel
theorem dX4_setWire_17 : decode cX4_setWire 17 = .ok (.getfield 15, 3) := by decide +kernel
theorem dX4_setWire_20 : decode cX4_setWire 20 = .ok (.iload_n 3, 1) := by decide +kernel
theorem dX4_setWire_21 : decode cX4_setWire 21 = .ok (.iload_n 2, 1) := by decide +kernel
theorem dX4_setWire_22 : decode cX4_setWire 22 = .ok (.bipush 10, 2) := by decide +kernel
theorem dX4_setWire_24 : decode cX4_setWire 24 = .ok (.irem, 1) := by decide +kernel
theorem dX4_setWire_25 : decode cX4_setWire 25 = .ok (.iastore, 1) := by decide +kernel
theorem dX4_setWire_26 : decode cX4_setWire 26 = .ok (.iload_n 2, 1) := by decide +kernel
theorem dX4_setWire_27 : decode cX4_setWire 27 = .ok (.bipush 10, 2) := by decide +kernel
theorem dX4_setWire_29 : decode cX4_setWire 29 = .ok (.idiv, 1) := by decide +kernel
theorem dX4_setWire_30 : decode cX4_setWire 30 = .ok (.istore_n 2, 1) := by decide +kernel
theorem dX4_setWire_31 : decode cX4_setWire 31 = .ok (.iinc 3 (-1), 3) := by decide +kernel
theorem dX4_setWire_34 : decode cX4_setWire 34 = .ok (.goto (-22), 3) := by decide +kernel
theorem dX4_setWire_37 : decode cX4_setWire 37 = .ok (.return_, 1) := by decide +kernel
theorem dX4_slipCount_0 : decode cX4_slipCount 0 = .ok (.iconst 0, 1) := by decide +kernel
theorem dX4_slipCount_1 : decode cX4_slipCount 1 = .ok (.istore_n 1, 1) := by decide +kernel
theorem dX4_slipCount_2 : decode cX4_slipCount 2 = .ok (.iconst 1, 1) := by decide +kernel
theorem dX4_slipCount_3 : decode cX4_slipCount 3 = .ok (.istore_n 2, 1) := by decide +kernel
theorem dX4_slipCount_4 : decode cX4_slipCount 4 = .ok (.iload_n 2, 1) := by decide +kernel
theorem dX4_slipCount_5 : decode cX4_slipCount 5 = .ok (.aload_n 0, 1) := by decide +kernel
theorem dX4_slipCount_6 : decode cX4_slipCount 6 = .ok (.getfield 18, 3) := by decide +kernel
theorem dX4_slipCount_9 : decode cX4_slipCount 9 = .ok (.getfield 41, 3) := by decide +kernel
theorem dX4_slipCount_12 : decode cX4_slipCount 12 = .ok (.if_icmp .ge 29, 3) := by decide +kernel
theorem dX4_slipCount_15 : decode cX4_slipCount 15 = .ok (.aload_n 0, 1) := by decide +kernel
theorem dX4_slipCount_16 : decode cX4_slipCount 16 = .ok (.getfield 15, 3) := by decide +kernel
theorem dX4_slipCount_19 : decode cX4_slipCount 19 = .ok (.iload_n 2, 1) := by decide +kernel
theorem dX4_slipCount_20 : decode cX4_slipCount 20 = .ok (.iaload, 1) := by decide +kernel
theorem dX4_slipCount_21 : decode cX4_slipCount 21 = .ok (.aload_n 0, 1) := by decide +kernel
theorem dX4_slipCount_22 : decode cX4_slipCount 22 = .ok (.getfield 15, 3) := by decide +kernel
theorem dX4_slipCount_25 : decode cX4_slipCount 25 = .ok (.iload_n 2, 1) := by decide +kernel
theorem dX4_slipCount_26 : decode cX4_slipCount 26 = .ok (.iconst 1, 1) := by decide +kernel
theorem dX4_slipCount_27 : decode cX4_slipCount 27 = .ok (.isub, 1) := by decide +kernel
theorem dX4_slipCount_28 : decode cX4_slipCount 28 = .ok (.iaload, 1) := by decide +kernel
theorem dX4_slipCount_29 : decode cX4_slipCount 29 = .ok (.if_icmp .eq 6, 3) := by decide +kernel
theorem dX4_slipCount_32 : decode cX4_slipCount 32 = .ok (.iinc 1 1, 3) := by decide +kernel
theorem dX4_slipCount_35 : decode cX4_slipCount 35 = .ok (.iinc 2 1, 3) := by decide +kernel
theorem dX4_slipCount_38 : decode cX4_slipCount 38 = .ok (.goto (-34), 3) := by decide +kernel
theorem dX4_slipCount_41 : decode cX4_slipCount 41 = .ok (.iload_n 1, 1) := by decide +kernel
theorem dX4_slipCount_42 : decode cX4_slipCount 42 = .ok (.ireturn, 1) := by decide +kernel
theorem dX4_act_0 : decode cX4_act 0 = .ok (.iload_n 1, 1) := by decide +kernel
theorem dX4_act_1 : decode cX4_act 1 = .ok (.tableswitch 63 0 3 #[31, 38, 45, 51], 31) := by decide +kernel
theorem dX4_act_32 : decode cX4_act 32 = .ok (.aload_n 0, 1) := by decide +kernel
theorem dX4_act_33 : decode cX4_act 33 = .ok (.iload_n 2, 1) := by decide +kernel
theorem dX4_act_34 : decode cX4_act 34 = .ok (.iconst 0, 1) := by decide +kernel
theorem dX4_act_35 : decode cX4_act 35 = .ok (.invokevirtual 48, 3) := by decide +kernel
theorem dX4_act_38 : decode cX4_act 38 = .ok (.ireturn, 1) := by decide +kernel
theorem dX4_act_39 : decode cX4_act 39 = .ok (.aload_n 0, 1) := by decide +kernel
theorem dX4_act_40 : decode cX4_act 40 = .ok (.iload_n 2, 1) := by decide +kernel
theorem dX4_act_41 : decode cX4_act 41 = .ok (.iconst 1, 1) := by decide +kernel
theorem dX4_act_42 : decode cX4_act 42 = .ok (.invokevirtual 48, 3) := by decide +kernel
theorem dX4_act_45 : decode cX4_act 45 = .ok (.ireturn, 1) := by decide +kernel
theorem dX4_act_46 : decode cX4_act 46 = .ok (.aload_n 0, 1) := by decide +kernel
theorem dX4_act_47 : decode cX4_act 47 = .ok (.iload_n 2, 1) := by decide +kernel
theorem dX4_act_48 : decode cX4_act 48 = .ok (.invokevirtual 52, 3) := by decide +kernel
theorem dX4_act_51 : decode cX4_act 51 = .ok (.ireturn, 1) := by decide +kernel
theorem dX4_act_52 : decode cX4_act 52 = .ok (.iload_n 2, 1) := by decide +kernel
theorem dX4_act_53 : decode cX4_act 53 = .ok (.ifCond .eq 5, 3) := by decide +kernel
theorem dX4_act_56 : decode cX4_act 56 = .ok (.iconst 0, 1) := by decide +kernel
theorem dX4_act_57 : decode cX4_act 57 = .ok (.ireturn, 1) := by decide +kernel
theorem dX4_act_58 : decode cX4_act 58 = .ok (.aload_n 0, 1) := by decide +kernel
theorem dX4_act_59 : decode cX4_act 59 = .ok (.invokevirtual 56, 3) := by decide +kernel
theorem dX4_act_62 : decode cX4_act 62 = .ok (.iconst 1, 1) := by decide +kernel
theorem dX4_act_63 : decode cX4_act 63 = .ok (.ireturn, 1) := by decide +kernel
theorem dX4_act_64 : decode cX4_act 64 = .ok (.iconst 0, 1) := by decide +kernel
theorem dX4_act_65 : decode cX4_act 65 = .ok (.ireturn, 1) := by decide +kernel
theorem dX4_moveWire_0 : decode cX4_moveWire 0 = .ok (.iload_n 1, 1) := by decide +kernel
theorem dX4_moveWire_1 : decode cX4_moveWire 1 = .ok (.ifCond .lt 14, 3) := by decide +kernel
theorem dX4_moveWire_4 : decode cX4_moveWire 4 = .ok (.iload_n 1, 1) := by decide +kernel
theorem dX4_moveWire_5 : decode cX4_moveWire 5 = .ok (.aload_n 0, 1) := by decide +kernel
theorem dX4_moveWire_6 : decode cX4_moveWire 6 = .ok (.getfield 18, 3) := by decide +kernel
theorem dX4_moveWire_9 : decode cX4_moveWire 9 = .ok (.getfield 41, 3) := by decide +kernel
theorem dX4_moveWire_12 : decode cX4_moveWire 12 = .ok (.if_icmp .lt 5, 3) := by decide +kernel
theorem dX4_moveWire_15 : decode cX4_moveWire 15 = .ok (.iconst 0, 1) := by decide +kernel
theorem dX4_moveWire_16 : decode cX4_moveWire 16 = .ok (.ireturn, 1) := by decide +kernel
theorem dX4_moveWire_17 : decode cX4_moveWire 17 = .ok (.iload_n 2, 1) := by decide +kernel
theorem dX4_moveWire_18 : decode cX4_moveWire 18 = .ok (.iconst 1, 1) := by decide +kernel
theorem dX4_moveWire_19 : decode cX4_moveWire 19 = .ok (.if_icmp .ne 14, 3) := by decide +kernel
theorem dX4_moveWire_22 : decode cX4_moveWire 22 = .ok (.aload_n 0, 1) := by decide +kernel
theorem dX4_moveWire_23 : decode cX4_moveWire 23 = .ok (.getfield 15, 3) := by decide +kernel
theorem dX4_moveWire_26 : decode cX4_moveWire 26 = .ok (.iload_n 1, 1) := by decide +kernel
theorem dX4_moveWire_27 : decode cX4_moveWire 27 = .ok (.iaload, 1) := by decide +kernel
theorem dX4_moveWire_28 : decode cX4_moveWire 28 = .ok (.iconst 1, 1) := by decide +kernel
theorem dX4_moveWire_29 : decode cX4_moveWire 29 = .ok (.iadd, 1) := by decide +kernel
theorem dX4_moveWire_30 : decode cX4_moveWire 30 = .ok (.goto 11, 3) := by decide +kernel
theorem dX4_moveWire_33 : decode cX4_moveWire 33 = .ok (.aload_n 0, 1) := by decide +kernel
theorem dX4_moveWire_34 : decode cX4_moveWire 34 = .ok (.getfield 15, 3) := by decide +kernel
theorem dX4_moveWire_37 : decode cX4_moveWire 37 = .ok (.iload_n 1, 1) := by decide +kernel
theorem dX4_moveWire_38 : decode cX4_moveWire 38 = .ok (.iaload, 1) := by decide +kernel
theorem dX4_moveWire_39 : decode cX4_moveWire 39 = .ok (.iconst 1, 1) := by decide +kernel
theorem dX4_moveWire_40 : decode cX4_moveWire 40 = .ok (.isub, 1) := by decide +kernel
theorem dX4_moveWire_41 : decode cX4_moveWire 41 = .ok (.istore_n 3, 1) := by decide +kernel
theorem dX4_moveWire_42 : decode cX4_moveWire 42 = .ok (.iload_n 3, 1) := by decide +kernel
theorem dX4_moveWire_43 : decode cX4_moveWire 43 = .ok (.ifCond .lt 30, 3) := by decide +kernel
theorem dX4_moveWire_46 : decode cX4_moveWire 46 = .ok (.iload_n 3, 1) := by decide +kernel
theorem dX4_moveWire_47 : decode cX4_moveWire 47 = .ok (.iconst 5, 1) := by decide +kernel
theorem dX4_moveWire_48 : decode cX4_moveWire 48 = .ok (.if_icmp .gt 25, 3) := by decide +kernel
theorem dX4_moveWire_51 : decode cX4_moveWire 51 = .ok (.aload_n 0, 1) := by decide +kernel
theorem dX4_moveWire_52 : decode cX4_moveWire 52 = .ok (.iload_n 1, 1) := by decide +kernel
theorem dX4_moveWire_53 : decode cX4_moveWire 53 = .ok (.iconst 1, 1) := by decide +kernel
theorem dX4_moveWire_54 : decode cX4_moveWire 54 = .ok (.isub, 1) := by decide +kernel
theorem dX4_moveWire_55 : decode cX4_moveWire 55 = .ok (.iload_n 3, 1) := by decide +kernel
theorem dX4_moveWire_56 : decode cX4_moveWire 56 = .ok (.invokevirtual 59, 3) := by decide +kernel
theorem dX4_moveWire_59 : decode cX4_moveWire 59 = .ok (.ifCond .eq 14, 3) := by decide +kernel
theorem dX4_moveWire_62 : decode cX4_moveWire 62 = .ok (.aload_n 0, 1) := by decide +kernel
theorem dX4_moveWire_63 : decode cX4_moveWire 63 = .ok (.iload_n 1, 1) := by decide +kernel
theorem dX4_moveWire_64 : decode cX4_moveWire 64 = .ok (.iconst 1, 1) := by decide +kernel
theorem dX4_moveWire_65 : decode cX4_moveWire 65 = .ok (.iadd, 1) := by decide +kernel
theorem dX4_moveWire_66 : decode cX4_moveWire 66 = .ok (.iload_n 3, 1) := by decide +kernel
theorem dX4_moveWire_67 : decode cX4_moveWire 67 = .ok (.invokevirtual 59, 3) := by decide +kernel
theorem dX4_moveWire_70 : decode cX4_moveWire 70 = .ok (.ifCond .ne 5, 3) := by decide +kernel
theorem dX4_moveWire_73 : decode cX4_moveWire 73 = .ok (.iconst 0, 1) := by decide +kernel
theorem dX4_moveWire_74 : decode cX4_moveWire 74 = .ok (.ireturn, 1) := by decide +kernel
theorem dX4_moveWire_75 : decode cX4_moveWire 75 = .ok (.aload_n 0, 1) := by decide +kernel
theorem dX4_moveWire_76 : decode cX4_moveWire 76 = .ok (.getfield 15, 3) := by decide +kernel
theorem dX4_moveWire_79 : decode cX4_moveWire 79 = .ok (.iload_n 1, 1) := by decide +kernel
theorem dX4_moveWire_80 : decode cX4_moveWire 80 = .ok (.iload_n 3, 1) := by decide +kernel
theorem dX4_moveWire_81 : decode cX4_moveWire 81 = .ok (.iastore, 1) := by decide +kernel
theorem dX4_moveWire_82 : decode cX4_moveWire 82 = .ok (.iconst 1, 1) := by decide +kernel
theorem dX4_moveWire_83 : decode cX4_moveWire 83 = .ok (.ireturn, 1) := by decide +kernel
theorem dX4_isNear_0 : decode cX4_isNear 0 = .ok (.iload_n 1, 1) := by decide +kernel
theorem dX4_isNear_1 : decode cX4_isNear 1 = .ok (.ifCond .lt 29, 3) := by decide +kernel
theorem dX4_isNear_4 : decode cX4_isNear 4 = .ok (.iload_n 1, 1) := by decide +kernel
theorem dX4_isNear_5 : decode cX4_isNear 5 = .ok (.aload_n 0, 1) := by decide +kernel
theorem dX4_isNear_6 : decode cX4_isNear 6 = .ok (.getfield 18, 3) := by decide +kernel
theorem dX4_isNear_9 : decode cX4_isNear 9 = .ok (.getfield 41, 3) := by decide +kernel
theorem dX4_isNear_12 : decode cX4_isNear 12 = .ok (.if_icmp .ge 18, 3) := by decide +kernel
theorem dX4_isNear_15 : decode cX4_isNear 15 = .ok (.aload_n 0, 1) := by decide +kernel
theorem dX4_isNear_16 : decode cX4_isNear 16 = .ok (.getfield 15, 3) := by decide +kernel
theorem dX4_isNear_19 : decode cX4_isNear 19 = .ok (.iload_n 1, 1) := by decide +kernel
theorem dX4_isNear_20 : decode cX4_isNear 20 = .ok (.iaload, 1) := by decide +kernel
theorem dX4_isNear_21 : decode cX4_isNear 21 = .ok (.iload_n 2, 1) := by decide +kernel
theorem dX4_isNear_22 : decode cX4_isNear 22 = .ok (.isub, 1) := by decide +kernel
theorem dX4_isNear_23 : decode cX4_isNear 23 = .ok (.invokestatic 62, 3) := by decide +kernel
theorem dX4_isNear_26 : decode cX4_isNear 26 = .ok (.iconst 1, 1) := by decide +kernel
theorem dX4_isNear_27 : decode cX4_isNear 27 = .ok (.if_icmp .gt 7, 3) := by decide +kernel
theorem dX4_isNear_30 : decode cX4_isNear 30 = .ok (.iconst 1, 1) := by decide +kernel
theorem dX4_isNear_31 : decode cX4_isNear 31 = .ok (.goto 4, 3) := by decide +kernel
theorem dX4_isNear_34 : decode cX4_isNear 34 = .ok (.iconst 0, 1) := by decide +kernel
theorem dX4_isNear_35 : decode cX4_isNear 35 = .ok (.ireturn, 1) := by decide +kernel
theorem dX4_swapAtWire_0 : decode cX4_swapAtWire 0 = .ok (.iload_n 1, 1) := by decide +kernel
theorem dX4_swapAtWire_1 : decode cX4_swapAtWire 1 = .ok (.ifCond .lt 34, 3) := by decide +kernel
theorem dX4_swapAtWire_4 : decode cX4_swapAtWire 4 = .ok (.iload_n 1, 1) := by decide +kernel
theorem dX4_swapAtWire_5 : decode cX4_swapAtWire 5 = .ok (.aload_n 0, 1) := by decide +kernel
theorem dX4_swapAtWire_6 : decode cX4_swapAtWire 6 = .ok (.getfield 18, 3) := by decide +kernel
theorem dX4_swapAtWire_9 : decode cX4_swapAtWire 9 = .ok (.getfield 41, 3) := by decide +kernel
theorem dX4_swapAtWire_12 : decode cX4_swapAtWire 12 = .ok (.if_icmp .ge 23, 3) := by decide +kernel
theorem dX4_swapAtWire_15 : decode cX4_swapAtWire 15 = .ok (.aload_n 0, 1) := by decide +kernel
theorem dX4_swapAtWire_16 : decode cX4_swapAtWire 16 = .ok (.getfield 15, 3) := by decide +kernel
theorem dX4_swapAtWire_19 : decode cX4_swapAtWire 19 = .ok (.iload_n 1, 1) := by decide +kernel
theorem dX4_swapAtWire_20 : decode cX4_swapAtWire 20 = .ok (.iaload, 1) := by decide +kernel
theorem dX4_swapAtWire_21 : decode cX4_swapAtWire 21 = .ok (.iconst 1, 1) := by decide +kernel
theorem dX4_swapAtWire_22 : decode cX4_swapAtWire 22 = .ok (.if_icmp .lt 13, 3) := by decide +kernel
theorem dX4_swapAtWire_25 : decode cX4_swapAtWire 25 = .ok (.aload_n 0, 1) := by decide +kernel
theorem dX4_swapAtWire_26 : decode cX4_swapAtWire 26 = .ok (.getfield 15, 3) := by decide +kernel
theorem dX4_swapAtWire_29 : decode cX4_swapAtWire 29 = .ok (.iload_n 1, 1) := by decide +kernel
theorem dX4_swapAtWire_30 : decode cX4_swapAtWire 30 = .ok (.iaload, 1) := by decide +kernel
theorem dX4_swapAtWire_31 : decode cX4_swapAtWire 31 = .ok (.iconst 5, 1) := by decide +kernel
theorem dX4_swapAtWire_32 : decode cX4_swapAtWire 32 = .ok (.if_icmp .lt 5, 3) := by decide +kernel
theorem dX4_swapAtWire_35 : decode cX4_swapAtWire 35 = .ok (.iconst 0, 1) := by decide +kernel
theorem dX4_swapAtWire_36 : decode cX4_swapAtWire 36 = .ok (.ireturn, 1) := by decide +kernel
theorem dX4_swapAtWire_37 : decode cX4_swapAtWire 37 = .ok (.iload_n 1, 1) := by decide +kernel
theorem dX4_swapAtWire_38 : decode cX4_swapAtWire 38 = .ok (.iconst 5, 1) := by decide +kernel
theorem dX4_swapAtWire_39 : decode cX4_swapAtWire 39 = .ok (.imul, 1) := by decide +kernel
theorem dX4_swapAtWire_40 : decode cX4_swapAtWire 40 = .ok (.aload_n 0, 1) := by decide +kernel
theorem dX4_swapAtWire_41 : decode cX4_swapAtWire 41 = .ok (.getfield 15, 3) := by decide +kernel
theorem dX4_swapAtWire_44 : decode cX4_swapAtWire 44 = .ok (.iload_n 1, 1) := by decide +kernel
theorem dX4_swapAtWire_45 : decode cX4_swapAtWire 45 = .ok (.iaload, 1) := by decide +kernel
theorem dX4_swapAtWire_46 : decode cX4_swapAtWire 46 = .ok (.iadd, 1) := by decide +kernel
theorem dX4_swapAtWire_47 : decode cX4_swapAtWire 47 = .ok (.istore_n 2, 1) := by decide +kernel
theorem dX4_swapAtWire_48 : decode cX4_swapAtWire 48 = .ok (.aload_n 0, 1) := by decide +kernel
theorem dX4_swapAtWire_49 : decode cX4_swapAtWire 49 = .ok (.getfield 9, 3) := by decide +kernel
theorem dX4_swapAtWire_52 : decode cX4_swapAtWire 52 = .ok (.iload_n 2, 1) := by decide +kernel
theorem dX4_swapAtWire_53 : decode cX4_swapAtWire 53 = .ok (.iaload, 1) := by decide +kernel
theorem dX4_swapAtWire_54 : decode cX4_swapAtWire 54 = .ok (.istore_n 3, 1) := by decide +kernel
theorem dX4_swapAtWire_55 : decode cX4_swapAtWire 55 = .ok (.aload_n 0, 1) := by decide +kernel
theorem dX4_swapAtWire_56 : decode cX4_swapAtWire 56 = .ok (.getfield 9, 3) := by decide +kernel
theorem dX4_swapAtWire_59 : decode cX4_swapAtWire 59 = .ok (.iload_n 2, 1) := by decide +kernel
theorem dX4_swapAtWire_60 : decode cX4_swapAtWire 60 = .ok (.aload_n 0, 1) := by decide +kernel
theorem dX4_swapAtWire_61 : decode cX4_swapAtWire 61 = .ok (.getfield 9, 3) := by decide +kernel
theorem dX4_swapAtWire_64 : decode cX4_swapAtWire 64 = .ok (.iload_n 2, 1) := by decide +kernel
theorem dX4_swapAtWire_65 : decode cX4_swapAtWire 65 = .ok (.iconst 1, 1) := by decide +kernel
theorem dX4_swapAtWire_66 : decode cX4_swapAtWire 66 = .ok (.isub, 1) := by decide +kernel
theorem dX4_swapAtWire_67 : decode cX4_swapAtWire 67 = .ok (.iaload, 1) := by decide +kernel
theorem dX4_swapAtWire_68 : decode cX4_swapAtWire 68 = .ok (.iastore, 1) := by decide +kernel
theorem dX4_swapAtWire_69 : decode cX4_swapAtWire 69 = .ok (.aload_n 0, 1) := by decide +kernel
theorem dX4_swapAtWire_70 : decode cX4_swapAtWire 70 = .ok (.getfield 9, 3) := by decide +kernel
theorem dX4_swapAtWire_73 : decode cX4_swapAtWire 73 = .ok (.iload_n 2, 1) := by decide +kernel
theorem dX4_swapAtWire_74 : decode cX4_swapAtWire 74 = .ok (.iconst 1, 1) := by decide +kernel
theorem dX4_swapAtWire_75 : decode cX4_swapAtWire 75 = .ok (.isub, 1) := by decide +kernel
theorem dX4_swapAtWire_76 : decode cX4_swapAtWire 76 = .ok (.iload_n 3, 1) := by decide +kernel
theorem dX4_swapAtWire_77 : decode cX4_swapAtWire 77 = .ok (.iastore, 1) := by decide +kernel
theorem dX4_swapAtWire_78 : decode cX4_swapAtWire 78 = .ok (.iconst 1, 1) := by decide +kernel
theorem dX4_swapAtWire_79 : decode cX4_swapAtWire 79 = .ok (.ireturn, 1) := by decide +kernel
theorem dX4_joinFaces_0 : decode cX4_joinFaces 0 = .ok (.aload_n 0, 1) := by decide +kernel
theorem dX4_joinFaces_1 : decode cX4_joinFaces 1 = .ok (.dup, 1) := by decide +kernel
theorem dX4_joinFaces_2 : decode cX4_joinFaces 2 = .ok (.getfield 37, 3) := by decide +kernel
theorem dX4_joinFaces_5 : decode cX4_joinFaces 5 = .ok (.aload_n 0, 1) := by decide +kernel
theorem dX4_joinFaces_6 : decode cX4_joinFaces 6 = .ok (.invokevirtual 68, 3) := by decide +kernel
theorem dX4_joinFaces_9 : decode cX4_joinFaces 9 = .ok (.iadd, 1) := by decide +kernel
theorem dX4_joinFaces_10 : decode cX4_joinFaces 10 = .ok (.putfield 37, 3) := by decide +kernel
theorem dX4_joinFaces_13 : decode cX4_joinFaces 13 = .ok (.aload_n 0, 1) := by decide +kernel
theorem dX4_joinFaces_14 : decode cX4_joinFaces 14 = .ok (.getfield 15, 3) := by decide +kernel
theorem dX4_joinFaces_17 : decode cX4_joinFaces 17 = .ok (.iconst 2, 1) := by decide +kernel
theorem dX4_joinFaces_18 : decode cX4_joinFaces 18 = .ok (.invokestatic 31, 3) := by decide +kernel
theorem dX4_joinFaces_21 : decode cX4_joinFaces 21 = .ok (.return_, 1) := by decide +kernel
theorem dX5_init_0 : decode cX5_init 0 = .ok (.aload_n 0, 1) := by decide +kernel
theorem dX5_init_1 : decode cX5_init 1 = .ok (.invokespecial 3, 3) := by decide +kernel
theorem dX5_init_4 : decode cX5_init 4 = .ok (.aload_n 0, 1) := by decide +kernel
theorem dX5_init_5 : decode cX5_init 5 = .ok (.bipush 10, 2) := by decide +kernel
theorem dX5_init_7 : decode cX5_init 7 = .ok (.newarray .int, 2) := by decide +kernel
theorem dX5_init_9 : decode cX5_init 9 = .ok (.putfield 9, 3) := by decide +kernel
theorem dX5_init_12 : decode cX5_init 12 = .ok (.aload_n 0, 1) := by decide +kernel
theorem dX5_init_13 : decode cX5_init 13 = .ok (.bipush 40, 2) := by decide +kernel
theorem dX5_init_15 : decode cX5_init 15 = .ok (.newarray .int, 2) := by decide +kernel
theorem dX5_init_17 : decode cX5_init 17 = .ok (.putfield 15, 3) := by decide +kernel
theorem dX5_init_20 : decode cX5_init 20 = .ok (.aload_n 0, 1) := by decide +kernel
theorem dX5_init_21 : decode cX5_init 21 = .ok (.aload_n 1, 1) := by decide +kernel
theorem dX5_init_22 : decode cX5_init 22 = .ok (.putfield 18, 3) := by decide +kernel
theorem dX5_init_25 : decode cX5_init 25 = .ok (.return_, 1) := by decide +kernel
theorem dX5_take_0 : decode cX5_take 0 = .ok (.aload_n 0, 1) := by decide +kernel
theorem dX5_take_1 : decode cX5_take 1 = .ok (.aload_n 1, 1) := by decide +kernel
theorem dX5_take_2 : decode cX5_take 2 = .ok (.aload_n 2, 1) := by decide +kernel
theorem dX5_take_3 : decode cX5_take 3 = .ok (.invokevirtual 22, 3) := by decide +kernel
theorem dX5_take_6 : decode cX5_take 6 = .ok (.aload_n 0, 1) := by decide +kernel
theorem dX5_take_7 : decode cX5_take 7 = .ok (.getfield 15, 3) := by decide +kernel
theorem dX5_take_10 : decode cX5_take 10 = .ok (.iconst 0, 1) := by decide +kernel
theorem dX5_take_11 : decode cX5_take 11 = .ok (.invokestatic 26, 3) := by decide +kernel
theorem dX5_take_14 : decode cX5_take 14 = .ok (.iconst 0, 1) := by decide +kernel
theorem dX5_take_15 : decode cX5_take 15 = .ok (.istore_n 3, 1) := by decide +kernel
theorem dX5_take_16 : decode cX5_take 16 = .ok (.iload_n 3, 1) := by decide +kernel
theorem dX5_take_17 : decode cX5_take 17 = .ok (.aload_n 0, 1) := by decide +kernel
theorem dX5_take_18 : decode cX5_take 18 = .ok (.getfield 18, 3) := by decide +kernel
theorem dX5_take_21 : decode cX5_take 21 = .ok (.getfield 32, 3) := by decide +kernel
theorem dX5_take_24 : decode cX5_take 24 = .ok (.if_icmp .ge 81, 3) := by decide +kernel
theorem dX5_take_27 : decode cX5_take 27 = .ok (.iconst 0, 1) := by decide +kernel
theorem dX5_take_28 : decode cX5_take 28 = .ok (.istore 4, 2) := by decide +kernel
theorem dX5_take_30 : decode cX5_take 30 = .ok (.iload 4, 2) := by decide +kernel
theorem dX5_take_32 : decode cX5_take 32 = .ok (.iconst 5, 1) := by decide +kernel
theorem dX5_take_33 : decode cX5_take 33 = .ok (.if_icmp .ge 66, 3) := by decide +kernel
theorem dX5_take_36 : decode cX5_take 36 = .ok (.aload_n 1, 1) := by decide +kernel
theorem dX5_take_37 : decode cX5_take 37 = .ok (.iload_n 3, 1) := by decide +kernel
theorem dX5_take_38 : decode cX5_take 38 = .ok (.iconst 5, 1) := by decide +kernel
theorem dX5_take_39 : decode cX5_take 39 = .ok (.imul, 1) := by decide +kernel
theorem dX5_take_40 : decode cX5_take 40 = .ok (.iload 4, 2) := by decide +kernel
theorem dX5_take_42 : decode cX5_take 42 = .ok (.iadd, 1) := by decide +kernel
theorem dX5_take_43 : decode cX5_take 43 = .ok (.iaload, 1) := by decide +kernel
theorem dX5_take_44 : decode cX5_take 44 = .ok (.istore 5, 2) := by decide +kernel
theorem dX5_take_46 : decode cX5_take 46 = .ok (.aload_n 0, 1) := by decide +kernel
theorem dX5_take_47 : decode cX5_take 47 = .ok (.iload 5, 2) := by decide +kernel
theorem dX5_take_49 : decode cX5_take 49 = .ok (.iload 4, 2) := by decide +kernel
theorem dX5_take_51 : decode cX5_take 51 = .ok (.aload_n 2, 1) := by decide +kernel
theorem dX5_take_52 : decode cX5_take 52 = .ok (.iload_n 3, 1) := by decide +kernel
theorem dX5_take_53 : decode cX5_take 53 = .ok (.iaload, 1) := by decide +kernel
theorem dX5_take_54 : decode cX5_take 54 = .ok (.invokestatic 38, 3) := by decide +kernel
theorem dX5_take_57 : decode cX5_take 57 = .ok (.invokevirtual 42, 3) := by decide +kernel
theorem dX5_take_60 : decode cX5_take 60 = .ok (.istore 6, 2) := by decide +kernel
theorem dX5_take_62 : decode cX5_take 62 = .ok (.aload_n 0, 1) := by decide +kernel
theorem dX5_take_63 : decode cX5_take 63 = .ok (.getfield 15, 3) := by decide +kernel
theorem dX5_take_66 : decode cX5_take 66 = .ok (.iload 5, 2) := by decide +kernel
theorem dX5_take_68 : decode cX5_take 68 = .ok (.dup2, 1) := by decide +kernel
theorem dX5_take_69 : decode cX5_take 69 = .ok (.iaload, 1) := by decide +kernel
theorem dX5_take_70 : decode cX5_take 70 = .ok (.iload 6, 2) := by decide +kernel
theorem dX5_take_72 : decode cX5_take 72 = .ok (.iconst 1, 1) := by decide +kernel
theorem dX5_take_73 : decode cX5_take 73 = .ok (.iand, 1) := by decide +kernel
theorem dX5_take_74 : decode cX5_take 74 = .ok (.iadd, 1) := by decide +kernel
theorem dX5_take_75 : decode cX5_take 75 = .ok (.iastore, 1) := by decide +kernel
theorem dX5_take_76 : decode cX5_take 76 = .ok (.aload_n 0, 1) := by decide +kernel
theorem dX5_take_77 : decode cX5_take 77 = .ok (.getfield 15, 3) := by decide +kernel
theorem dX5_take_80 : decode cX5_take 80 = .ok (.bipush 20, 2) := by decide +kernel
theorem dX5_take_82 : decode cX5_take 82 = .ok (.iload 5, 2) := by decide +kernel
theorem dX5_take_84 : decode cX5_take 84 = .ok (.iadd, 1) := by decide +kernel
theorem dX5_take_85 : decode cX5_take 85 = .ok (.dup2, 1) := by decide +kernel
theorem dX5_take_86 : decode cX5_take 86 = .ok (.iaload, 1) := by decide +kernel
theorem dX5_take_87 : decode cX5_take 87 = .ok (.iload 6, 2) := by decide +kernel
theorem dX5_take_89 : decode cX5_take 89 = .ok (.iconst 1, 1) := by decide +kernel
theorem dX5_take_90 : decode cX5_take 90 = .ok (.ishr, 1) := by decide +kernel
theorem dX5_take_91 : decode cX5_take 91 = .ok (.iadd, 1) := by decide +kernel
theorem dX5_take_92 : decode cX5_take 92 = .ok (.iastore, 1) := by decide +kernel
theorem dX5_take_93 : decode cX5_take 93 = .ok (.iinc 4 1, 3) := by decide +kernel
theorem dX5_take_96 : decode cX5_take 96 = .ok (.goto (-66), 3) := by decide +kernel
theorem dX5_take_99 : decode cX5_take 99 = .ok (.iinc 3 1, 3) := by decide +kernel
theorem dX5_take_102 : decode cX5_take 102 = .ok (.goto (-86), 3) := by decide +kernel
theorem dX5_take_105 : decode cX5_take 105 = .ok (.return_, 1) := by decide +kernel
theorem dX5_countCells_0 : decode cX5_countCells 0 = .ok (.aload_n 0, 1) := by decide +kernel
theorem dX5_countCells_1 : decode cX5_countCells 1 = .ok (.getfield 9, 3) := by decide +kernel
theorem dX5_countCells_4 : decode cX5_countCells 4 = .ok (.iconst 0, 1) := by decide +kernel
theorem dX5_countCells_5 : decode cX5_countCells 5 = .ok (.invokestatic 26, 3) := by decide +kernel
theorem dX5_countCells_8 : decode cX5_countCells 8 = .ok (.iconst 0, 1) := by decide +kernel
theorem dX5_countCells_9 : decode cX5_countCells 9 = .ok (.istore_n 3, 1) := by decide +kernel
theorem dX5_countCells_10 : decode cX5_countCells 10 = .ok (.iload_n 3, 1) := by decide +kernel
theorem dX5_countCells_11 : decode cX5_countCells 11 = .ok (.aload_n 0, 1) := by decide +kernel
theorem dX5_countCells_12 : decode cX5_countCells 12 = .ok (.getfield 18, 3) := by decide +kernel
theorem dX5_countCells_15 : decode cX5_countCells 15 = .ok (.getfield 32, 3) := by decide +kernel
theorem dX5_countCells_18 : decode cX5_countCells 18 = .ok (.if_icmp .ge 59, 3) := by decide +kernel
theorem dX5_countCells_21 : decode cX5_countCells 21 = .ok (.iconst 0, 1) := by decide +kernel
theorem dX5_countCells_22 : decode cX5_countCells 22 = .ok (.istore 4, 2) := by decide +kernel
theorem dX5_countCells_24 : decode cX5_countCells 24 = .ok (.iload 4, 2) := by decide +kernel
theorem dX5_countCells_26 : decode cX5_countCells 26 = .ok (.iconst 5, 1) := by decide +kernel
theorem dX5_countCells_27 : decode cX5_countCells 27 = .ok (.if_icmp .ge 44, 3) := by decide +kernel
theorem dX5_countCells_30 : decode cX5_countCells 30 = .ok (.iload 4, 2) := by decide +kernel
theorem dX5_countCells_32 : decode cX5_countCells 32 = .ok (.aload_n 2, 1) := by decide +kernel
theorem dX5_countCells_33 : decode cX5_countCells 33 = .ok (.iload_n 3, 1) := by decide +kernel
theorem dX5_countCells_34 : decode cX5_countCells 34 = .ok (.iaload, 1) := by decide +kernel
theorem dX5_countCells_35 : decode cX5_countCells 35 = .ok (.invokestatic 38, 3) := by decide +kernel
theorem dX5_countCells_38 : decode cX5_countCells 38 = .ok (.istore 5, 2) := by decide +kernel
theorem dX5_countCells_40 : decode cX5_countCells 40 = .ok (.aload_n 0, 1) := by decide +kernel
theorem dX5_countCells_41 : decode cX5_countCells 41 = .ok (.getfield 9, 3) := by decide +kernel
theorem dX5_countCells_44 : decode cX5_countCells 44 = .ok (.iload 5, 2) := by decide +kernel
theorem dX5_countCells_46 : decode cX5_countCells 46 = .ok (.iconst 5, 1) := by decide +kernel
theorem dX5_countCells_47 : decode cX5_countCells 47 = .ok (.imul, 1) := by decide +kernel
theorem dX5_countCells_48 : decode cX5_countCells 48 = .ok (.aload_n 1, 1) := by decide +kernel
theorem dX5_countCells_49 : decode cX5_countCells 49 = .ok (.iload_n 3, 1) := by decide +kernel
theorem dX5_countCells_50 : decode cX5_countCells 50 = .ok (.iconst 5, 1) := by decide +kernel
theorem dX5_countCells_51 : decode cX5_countCells 51 = .ok (.imul, 1) := by decide +kernel
theorem dX5_countCells_52 : decode cX5_countCells 52 = .ok (.iload 4, 2) := by decide +kernel
theorem dX5_countCells_54 : decode cX5_countCells 54 = .ok (.iadd, 1) := by decide +kernel
theorem dX5_countCells_55 : decode cX5_countCells 55 = .ok (.iaload, 1) := by decide +kernel
theorem dX5_countCells_56 : decode cX5_countCells 56 = .ok (.invokestatic 45, 3) := by decide +kernel
theorem dX5_countCells_59 : decode cX5_countCells 59 = .ok (.iadd, 1) := by decide +kernel
theorem dX5_countCells_60 : decode cX5_countCells 60 = .ok (.dup2, 1) := by decide +kernel
theorem dX5_countCells_61 : decode cX5_countCells 61 = .ok (.iaload, 1) := by decide +kernel
theorem dX5_countCells_62 : decode cX5_countCells 62 = .ok (.iconst 1, 1) := by decide +kernel
theorem dX5_countCells_63 : decode cX5_countCells 63 = .ok (.iadd, 1) := by decide +kernel
theorem dX5_countCells_64 : decode cX5_countCells 64 = .ok (.iastore, 1) := by decide +kernel
theorem dX5_countCells_65 : decode cX5_countCells 65 = .ok (.iinc 4 1, 3) := by decide +kernel
theorem dX5_countCells_68 : decode cX5_countCells 68 = .ok (.goto (-44), 3) := by decide +kernel
theorem dX5_countCells_71 : decode cX5_countCells 71 = .ok (.iinc 3 1, 3) := by decide +kernel
theorem dX5_countCells_74 : decode cX5_countCells 74 = .ok (.goto (-64), 3) := by decide +kernel
theorem dX5_countCells_77 : decode cX5_countCells 77 = .ok (.return_, 1) := by decide +kernel
theorem dX5_halvesFor_0 : decode cX5_halvesFor 0 = .ok (.iload_n 1, 1) := by decide +kernel
theorem dX5_halvesFor_1 : decode cX5_halvesFor 1 = .ok (.invokestatic 45, 3) := by decide +kernel
theorem dX5_halvesFor_4 : decode cX5_halvesFor 4 = .ok (.istore_n 3, 1) := by decide +kernel
theorem dX5_halvesFor_5 : decode cX5_halvesFor 5 = .ok (.aload_n 0, 1) := by decide +kernel
theorem dX5_halvesFor_6 : decode cX5_halvesFor 6 = .ok (.getfield 18, 3) := by decide +kernel
theorem dX5_halvesFor_9 : decode cX5_halvesFor 9 = .ok (.getfield 49, 3) := by decide +kernel
theorem dX5_halvesFor_12 : decode cX5_halvesFor 12 = .ok (.iload_n 3, 1) := by decide +kernel
theorem dX5_halvesFor_13 : decode cX5_halvesFor 13 = .ok (.iaload, 1) := by decide +kernel
theorem dX5_halvesFor_14 : decode cX5_halvesFor 14 = .ok (.istore 4, 2) := by decide +kernel
theorem dX5_halvesFor_16 : decode cX5_halvesFor 16 = .ok (.iload 4, 2) := by decide +kernel
theorem dX5_halvesFor_18 : decode cX5_halvesFor 18 = .ok (.iconst 1, 1) := by decide +kernel
theorem dX5_halvesFor_19 : decode cX5_halvesFor 19 = .ok (.if_icmp .eq 16, 3) := by decide +kernel
theorem dX5_halvesFor_22 : decode cX5_halvesFor 22 = .ok (.iload 4, 2) := by decide +kernel
theorem dX5_halvesFor_24 : decode cX5_halvesFor 24 = .ok (.iconst 2, 1) := by decide +kernel
theorem dX5_halvesFor_25 : decode cX5_halvesFor 25 = .ok (.if_icmp .ne 12, 3) := by decide +kernel
theorem dX5_halvesFor_28 : decode cX5_halvesFor 28 = .ok (.iload_n 1, 1) := by decide +kernel
theorem dX5_halvesFor_29 : decode cX5_halvesFor 29 = .ok (.invokestatic 52, 3) := by decide +kernel
theorem dX5_halvesFor_32 : decode cX5_halvesFor 32 = .ok (.ifCond .ne 5, 3) := by decide +kernel
theorem dX5_halvesFor_35 : decode cX5_halvesFor 35 = .ok (.iconst 3, 1) := by decide +kernel
theorem dX5_halvesFor_36 : decode cX5_halvesFor 36 = .ok (.ireturn, 1) := by decide +kernel
theorem dX5_halvesFor_37 : decode cX5_halvesFor 37 = .ok (.iload 4, 2) := by decide +kernel
theorem dX5_halvesFor_39 : decode cX5_halvesFor 39 = .ok (.iconst 3, 1) := by decide +kernel
theorem dX5_halvesFor_40 : decode cX5_halvesFor 40 = .ok (.if_icmp .ne 13, 3) := by decide +kernel
theorem dX5_halvesFor_43 : decode cX5_halvesFor 43 = .ok (.aload_n 0, 1) := by decide +kernel
theorem dX5_halvesFor_44 : decode cX5_halvesFor 44 = .ok (.iload_n 3, 1) := by decide +kernel
theorem dX5_halvesFor_45 : decode cX5_halvesFor 45 = .ok (.invokevirtual 55, 3) := by decide +kernel
theorem dX5_halvesFor_48 : decode cX5_halvesFor 48 = .ok (.ifCond .eq 5, 3) := by decide +kernel
theorem dX5_halvesFor_51 : decode cX5_halvesFor 51 = .ok (.iconst 0, 1) := by decide +kernel
theorem dX5_halvesFor_52 : decode cX5_halvesFor 52 = .ok (.ireturn, 1) := by decide +kernel
theorem dX5_halvesFor_53 : decode cX5_halvesFor 53 = .ok (.iconst 1, 1) := by decide +kernel
theorem dX5_halvesFor_54 : decode cX5_halvesFor 54 = .ok (.iload_n 2, 1) := by decide +kernel
theorem dX5_halvesFor_55 : decode cX5_halvesFor 55 = .ok (.ishl, 1) := by decide +kernel
theorem dX5_halvesFor_56 : decode cX5_halvesFor 56 = .ok (.ireturn, 1) := by decide +kernel
theorem dX5_cellsIn_0 : decode cX5_cellsIn 0 = .ok (.aload_n 0, 1) := by decide +kernel
theorem dX5_cellsIn_1 : decode cX5_cellsIn 1 = .ok (.getfield 9, 3) := by decide +kernel
theorem dX5_cellsIn_4 : decode cX5_cellsIn 4 = .ok (.iload_n 1, 1) := by decide +kernel
theorem dX5_cellsIn_5 : decode cX5_cellsIn 5 = .ok (.iconst 5, 1) := by decide +kernel
theorem dX5_cellsIn_6 : decode cX5_cellsIn 6 = .ok (.imul, 1) := by decide +kernel
theorem dX5_cellsIn_7 : decode cX5_cellsIn 7 = .ok (.iload_n 2, 1) := by decide +kernel
theorem dX5_cellsIn_8 : decode cX5_cellsIn 8 = .ok (.iadd, 1) := by decide +kernel
theorem dX5_cellsIn_9 : decode cX5_cellsIn 9 = .ok (.iaload, 1) := by decide +kernel
theorem dX5_cellsIn_10 : decode cX5_cellsIn 10 = .ok (.ireturn, 1) := by decide +kernel
theorem dX5_isParted_0 : decode cX5_isParted 0 = .ok (.aload_n 0, 1) := by decide +kernel
theorem dX5_isParted_1 : decode cX5_isParted 1 = .ok (.iconst 0, 1) := by decide +kernel
theorem dX5_isParted_2 : decode cX5_isParted 2 = .ok (.iload_n 1, 1) := by decide +kernel
theorem dX5_isParted_3 : decode cX5_isParted 3 = .ok (.invokevirtual 59, 3) := by decide +kernel
theorem dX5_isParted_6 : decode cX5_isParted 6 = .ok (.ifCond .le 16, 3) := by decide +kernel
theorem dX5_isParted_9 : decode cX5_isParted 9 = .ok (.aload_n 0, 1) := by decide +kernel
theorem dX5_isParted_10 : decode cX5_isParted 10 = .ok (.iconst 1, 1) := by decide +kernel
theorem dX5_isParted_11 : decode cX5_isParted 11 = .ok (.iload_n 1, 1) := by decide +kernel
theorem dX5_isParted_12 : decode cX5_isParted 12 = .ok (.invokevirtual 59, 3) := by decide +kernel
theorem dX5_isParted_15 : decode cX5_isParted 15 = .ok (.ifCond .le 7, 3) := by decide +kernel
theorem dX5_isParted_18 : decode cX5_isParted 18 = .ok (.iconst 1, 1) := by decide +kernel
theorem dX5_isParted_19 : decode cX5_isParted 19 = .ok (.goto 4, 3) := by decide +kernel
theorem dX5_isParted_22 : decode cX5_isParted 22 = .ok (.iconst 0, 1) := by decide +kernel
theorem dX5_isParted_23 : decode cX5_isParted 23 = .ok (.ireturn, 1) := by decide +kernel
theorem dX5_partedBits_0 : decode cX5_partedBits 0 = .ok (.iconst 0, 1) := by decide +kernel
theorem dX5_partedBits_1 : decode cX5_partedBits 1 = .ok (.istore_n 1, 1) := by decide +kernel
theorem dX5_partedBits_2 : decode cX5_partedBits 2 = .ok (.iconst 0, 1) := by decide +kernel
theorem dX5_partedBits_3 : decode cX5_partedBits 3 = .ok (.istore_n 2, 1) := by decide +kernel
theorem dX5_partedBits_4 : decode cX5_partedBits 4 = .ok (.iload_n 2, 1) := by decide +kernel
theorem dX5_partedBits_5 : decode cX5_partedBits 5 = .ok (.aload_n 0, 1) := by decide +kernel
theorem dX5_partedBits_6 : decode cX5_partedBits 6 = .ok (.getfield 18, 3) := by decide +kernel
theorem dX5_partedBits_9 : decode cX5_partedBits 9 = .ok (.getfield 62, 3) := by decide +kernel
theorem dX5_partedBits_12 : decode cX5_partedBits 12 = .ok (.if_icmp .ge 23, 3) := by decide +kernel
theorem dX5_partedBits_15 : decode cX5_partedBits 15 = .ok (.aload_n 0, 1) := by decide +kernel
theorem dX5_partedBits_16 : decode cX5_partedBits 16 = .ok (.iload_n 2, 1) := by decide +kernel
theorem dX5_partedBits_17 : decode cX5_partedBits 17 = .ok (.invokevirtual 55, 3) := by decide +kernel
theorem dX5_partedBits_20 : decode cX5_partedBits 20 = .ok (.ifCond .eq 9, 3) := by decide +kernel
theorem dX5_partedBits_23 : decode cX5_partedBits 23 = .ok (.iload_n 1, 1) := by decide +kernel
theorem dX5_partedBits_24 : decode cX5_partedBits 24 = .ok (.iconst 1, 1) := by decide +kernel
theorem dX5_partedBits_25 : decode cX5_partedBits 25 = .ok (.iload_n 2, 1) := by decide +kernel
theorem dX5_partedBits_26 : decode cX5_partedBits 26 = .ok (.ishl, 1) := by decide +kernel
theorem dX5_partedBits_27 : decode cX5_partedBits 27 = .ok (.ior, 1) := by decide +kernel
theorem dX5_partedBits_28 : decode cX5_partedBits 28 = .ok (.istore_n 1, 1) := by decide +kernel
theorem dX5_partedBits_29 : decode cX5_partedBits 29 = .ok (.iinc 2 1, 3) := by decide +kernel
theorem dX5_partedBits_32 : decode cX5_partedBits 32 = .ok (.goto (-28), 3) := by decide +kernel
theorem dX5_partedBits_35 : decode cX5_partedBits 35 = .ok (.iload_n 1, 1) := by decide +kernel
theorem dX5_partedBits_36 : decode cX5_partedBits 36 = .ok (.ireturn, 1) := by decide +kernel
theorem dX5_partedCount_0 : decode cX5_partedCount 0 = .ok (.aload_n 0, 1) := by decide +kernel
theorem dX5_partedCount_1 : decode cX5_partedCount 1 = .ok (.invokevirtual 65, 3) := by decide +kernel
theorem dX5_partedCount_4 : decode cX5_partedCount 4 = .ok (.invokestatic 69, 3) := by decide +kernel
theorem dX5_partedCount_7 : decode cX5_partedCount 7 = .ok (.ireturn, 1) := by decide +kernel
theorem dX5_countedOf_0 : decode cX5_countedOf 0 = .ok (.iconst 0, 1) := by decide +kernel
theorem dX5_countedOf_1 : decode cX5_countedOf 1 = .ok (.istore_n 3, 1) := by decide +kernel
theorem dX5_countedOf_2 : decode cX5_countedOf 2 = .ok (.iconst 0, 1) := by decide +kernel
theorem dX5_countedOf_3 : decode cX5_countedOf 3 = .ok (.istore 4, 2) := by decide +kernel
theorem dX5_countedOf_5 : decode cX5_countedOf 5 = .ok (.iload 4, 2) := by decide +kernel
theorem dX5_countedOf_7 : decode cX5_countedOf 7 = .ok (.iconst 4, 1) := by decide +kernel
theorem dX5_countedOf_8 : decode cX5_countedOf 8 = .ok (.if_icmp .ge 27, 3) := by decide +kernel
theorem dX5_countedOf_11 : decode cX5_countedOf 11 = .ok (.iload_n 3, 1) := by decide +kernel
theorem dX5_countedOf_12 : decode cX5_countedOf 12 = .ok (.aload_n 0, 1) := by decide +kernel
theorem dX5_countedOf_13 : decode cX5_countedOf 13 = .ok (.getfield 15, 3) := by decide +kernel
theorem dX5_countedOf_16 : decode cX5_countedOf 16 = .ok (.iload_n 1, 1) := by decide +kernel
theorem dX5_countedOf_17 : decode cX5_countedOf 17 = .ok (.iconst 5, 1) := by decide +kernel
theorem dX5_countedOf_18 : decode cX5_countedOf 18 = .ok (.imul, 1) := by decide +kernel
theorem dX5_countedOf_19 : decode cX5_countedOf 19 = .ok (.iload_n 2, 1) := by decide +kernel
theorem dX5_countedOf_20 : decode cX5_countedOf 20 = .ok (.iadd, 1) := by decide +kernel
theorem dX5_countedOf_21 : decode cX5_countedOf 21 = .ok (.iconst 4, 1) := by decide +kernel
theorem dX5_countedOf_22 : decode cX5_countedOf 22 = .ok (.imul, 1) := by decide +kernel
theorem dX5_countedOf_23 : decode cX5_countedOf 23 = .ok (.iload 4, 2) := by decide +kernel
theorem dX5_countedOf_25 : decode cX5_countedOf 25 = .ok (.iadd, 1) := by decide +kernel
theorem dX5_countedOf_26 : decode cX5_countedOf 26 = .ok (.iaload, 1) := by decide +kernel
theorem dX5_countedOf_27 : decode cX5_countedOf 27 = .ok (.iadd, 1) := by decide +kernel
theorem dX5_countedOf_28 : decode cX5_countedOf 28 = .ok (.istore_n 3, 1) := by decide +kernel
theorem dX5_countedOf_29 : decode cX5_countedOf 29 = .ok (.iinc 4 1, 3) := by decide +kernel
theorem dX5_countedOf_32 : decode cX5_countedOf 32 = .ok (.goto (-27), 3) := by decide +kernel
theorem dX5_countedOf_35 : decode cX5_countedOf 35 = .ok (.iload_n 3, 1) := by decide +kernel
theorem dX5_countedOf_36 : decode cX5_countedOf 36 = .ok (.ireturn, 1) := by decide +kernel
theorem dX5_counted_0 : decode cX5_counted 0 = .ok (.iconst 0, 1) := by decide +kernel
theorem dX5_counted_1 : decode cX5_counted 1 = .ok (.istore 4, 2) := by decide +kernel
theorem dX5_counted_3 : decode cX5_counted 3 = .ok (.iconst 0, 1) := by decide +kernel
theorem dX5_counted_4 : decode cX5_counted 4 = .ok (.istore 5, 2) := by decide +kernel
theorem dX5_counted_6 : decode cX5_counted 6 = .ok (.iload 5, 2) := by decide +kernel
theorem dX5_counted_8 : decode cX5_counted 8 = .ok (.aload_n 0, 1) := by decide +kernel
theorem dX5_counted_9 : decode cX5_counted 9 = .ok (.getfield 18, 3) := by decide +kernel
theorem dX5_counted_12 : decode cX5_counted 12 = .ok (.getfield 62, 3) := by decide +kernel
theorem dX5_counted_15 : decode cX5_counted 15 = .ok (.if_icmp .ge 39, 3) := by decide +kernel
theorem dX5_counted_18 : decode cX5_counted 18 = .ok (.iload_n 3, 1) := by decide +kernel
theorem dX5_counted_19 : decode cX5_counted 19 = .ok (.iload 5, 2) := by decide +kernel
theorem dX5_counted_21 : decode cX5_counted 21 = .ok (.ishr, 1) := by decide +kernel
theorem dX5_counted_22 : decode cX5_counted 22 = .ok (.iconst 1, 1) := by decide +kernel
theorem dX5_counted_23 : decode cX5_counted 23 = .ok (.iand, 1) := by decide +kernel
theorem dX5_counted_24 : decode cX5_counted 24 = .ok (.iconst 1, 1) := by decide +kernel
theorem dX5_counted_25 : decode cX5_counted 25 = .ok (.if_icmp .ne 23, 3) := by decide +kernel
theorem dX5_counted_28 : decode cX5_counted 28 = .ok (.iload 4, 2) := by decide +kernel
theorem dX5_counted_30 : decode cX5_counted 30 = .ok (.aload_n 0, 1) := by decide +kernel
theorem dX5_counted_31 : decode cX5_counted 31 = .ok (.getfield 15, 3) := by decide +kernel
theorem dX5_counted_34 : decode cX5_counted 34 = .ok (.iload_n 1, 1) := by decide +kernel
theorem dX5_counted_35 : decode cX5_counted 35 = .ok (.iconst 5, 1) := by decide +kernel
theorem dX5_counted_36 : decode cX5_counted 36 = .ok (.imul, 1) := by decide +kernel
theorem dX5_counted_37 : decode cX5_counted 37 = .ok (.iload 5, 2) := by decide +kernel
theorem dX5_counted_39 : decode cX5_counted 39 = .ok (.iadd, 1) := by decide +kernel
theorem dX5_counted_40 : decode cX5_counted 40 = .ok (.iconst 4, 1) := by decide +kernel
theorem dX5_counted_41 : decode cX5_counted 41 = .ok (.imul, 1) := by decide +kernel
theorem dX5_counted_42 : decode cX5_counted 42 = .ok (.iload_n 2, 1) := by decide +kernel
theorem dX5_counted_43 : decode cX5_counted 43 = .ok (.iadd, 1) := by decide +kernel
theorem dX5_counted_44 : decode cX5_counted 44 = .ok (.iaload, 1) := by decide +kernel
theorem dX5_counted_45 : decode cX5_counted 45 = .ok (.iadd, 1) := by decide +kernel
theorem dX5_counted_46 : decode cX5_counted 46 = .ok (.istore 4, 2) := by decide +kernel
theorem dX5_counted_48 : decode cX5_counted 48 = .ok (.iinc 5 1, 3) := by decide +kernel
theorem dX5_counted_51 : decode cX5_counted 51 = .ok (.goto (-45), 3) := by decide +kernel
theorem dX5_counted_54 : decode cX5_counted 54 = .ok (.iload 4, 2) := by decide +kernel
theorem dX5_counted_56 : decode cX5_counted 56 = .ok (.ireturn, 1) := by decide +kernel
theorem dX5_isDone_0 : decode cX5_isDone 0 = .ok (.aload_n 0, 1) := by decide +kernel
theorem dX5_isDone_1 : decode cX5_isDone 1 = .ok (.iload_n 2, 1) := by decide +kernel
theorem dX5_isDone_2 : decode cX5_isDone 2 = .ok (.aload_n 0, 1) := by decide +kernel
theorem dX5_isDone_3 : decode cX5_isDone 3 = .ok (.getfield 18, 3) := by decide +kernel
theorem dX5_isDone_6 : decode cX5_isDone 6 = .ok (.getfield 74, 3) := by decide +kernel
theorem dX5_isDone_9 : decode cX5_isDone 9 = .ok (.iload_n 1, 1) := by decide +kernel
theorem dX5_isDone_10 : decode cX5_isDone 10 = .ok (.iaload, 1) := by decide +kernel
theorem dX5_isDone_11 : decode cX5_isDone 11 = .ok (.iload_n 3, 1) := by decide +kernel
theorem dX5_isDone_12 : decode cX5_isDone 12 = .ok (.invokevirtual 77, 3) := by decide +kernel
theorem dX5_isDone_15 : decode cX5_isDone 15 = .ok (.aload_n 0, 1) := by decide +kernel
theorem dX5_isDone_16 : decode cX5_isDone 16 = .ok (.getfield 18, 3) := by decide +kernel
theorem dX5_isDone_19 : decode cX5_isDone 19 = .ok (.getfield 81, 3) := by decide +kernel
theorem dX5_isDone_22 : decode cX5_isDone 22 = .ok (.iload_n 1, 1) := by decide +kernel
theorem dX5_isDone_23 : decode cX5_isDone 23 = .ok (.iaload, 1) := by decide +kernel
theorem dX5_isDone_24 : decode cX5_isDone 24 = .ok (.if_icmp .lt 7, 3) := by decide +kernel
theorem dX5_isDone_27 : decode cX5_isDone 27 = .ok (.iconst 1, 1) := by decide +kernel
theorem dX5_isDone_28 : decode cX5_isDone 28 = .ok (.goto 4, 3) := by decide +kernel
theorem dX5_isDone_31 : decode cX5_isDone 31 = .ok (.iconst 0, 1) := by decide +kernel
theorem dX5_isDone_32 : decode cX5_isDone 32 = .ok (.ireturn, 1) := by decide +kernel
theorem dX5_deedBits_0 : decode cX5_deedBits 0 = .ok (.iconst 0, 1) := by decide +kernel
theorem dX5_deedBits_1 : decode cX5_deedBits 1 = .ok (.istore_n 3, 1) := by decide +kernel
theorem dX5_deedBits_2 : decode cX5_deedBits 2 = .ok (.iconst 0, 1) := by decide +kernel
theorem dX5_deedBits_3 : decode cX5_deedBits 3 = .ok (.istore 4, 2) := by decide +kernel
theorem dX5_deedBits_5 : decode cX5_deedBits 5 = .ok (.iload 4, 2) := by decide +kernel
theorem dX5_deedBits_7 : decode cX5_deedBits 7 = .ok (.aload_n 0, 1) := by decide +kernel
theorem dX5_deedBits_8 : decode cX5_deedBits 8 = .ok (.getfield 18, 3) := by decide +kernel
theorem dX5_deedBits_11 : decode cX5_deedBits 11 = .ok (.getfield 84, 3) := by decide +kernel
theorem dX5_deedBits_14 : decode cX5_deedBits 14 = .ok (.if_icmp .ge 27, 3) := by decide +kernel
theorem dX5_deedBits_17 : decode cX5_deedBits 17 = .ok (.aload_n 0, 1) := by decide +kernel
theorem dX5_deedBits_18 : decode cX5_deedBits 18 = .ok (.iload 4, 2) := by decide +kernel
theorem dX5_deedBits_20 : decode cX5_deedBits 20 = .ok (.iload_n 1, 1) := by decide +kernel
theorem dX5_deedBits_21 : decode cX5_deedBits 21 = .ok (.iload_n 2, 1) := by decide +kernel
theorem dX5_deedBits_22 : decode cX5_deedBits 22 = .ok (.invokevirtual 87, 3) := by decide +kernel
theorem dX5_deedBits_25 : decode cX5_deedBits 25 = .ok (.ifCond .eq 10, 3) := by decide +kernel
theorem dX5_deedBits_28 : decode cX5_deedBits 28 = .ok (.iload_n 3, 1) := by decide +kernel
theorem dX5_deedBits_29 : decode cX5_deedBits 29 = .ok (.iconst 1, 1) := by decide +kernel
theorem dX5_deedBits_30 : decode cX5_deedBits 30 = .ok (.iload 4, 2) := by decide +kernel
theorem dX5_deedBits_32 : decode cX5_deedBits 32 = .ok (.ishl, 1) := by decide +kernel
theorem dX5_deedBits_33 : decode cX5_deedBits 33 = .ok (.ior, 1) := by decide +kernel
theorem dX5_deedBits_34 : decode cX5_deedBits 34 = .ok (.istore_n 3, 1) := by decide +kernel
theorem dX5_deedBits_35 : decode cX5_deedBits 35 = .ok (.iinc 4 1, 3) := by decide +kernel
theorem dX5_deedBits_38 : decode cX5_deedBits 38 = .ok (.goto (-33), 3) := by decide +kernel
theorem dX5_deedBits_41 : decode cX5_deedBits 41 = .ok (.iload_n 3, 1) := by decide +kernel
theorem dX5_deedBits_42 : decode cX5_deedBits 42 = .ok (.ireturn, 1) := by decide +kernel
theorem dX5_deedCount_0 : decode cX5_deedCount 0 = .ok (.aload_n 0, 1) := by decide +kernel
theorem dX5_deedCount_1 : decode cX5_deedCount 1 = .ok (.iload_n 1, 1) := by decide +kernel
theorem dX5_deedCount_2 : decode cX5_deedCount 2 = .ok (.bipush 31, 2) := by decide +kernel
theorem dX5_deedCount_4 : decode cX5_deedCount 4 = .ok (.invokevirtual 91, 3) := by decide +kernel
theorem dX5_deedCount_7 : decode cX5_deedCount 7 = .ok (.invokestatic 69, 3) := by decide +kernel
theorem dX5_deedCount_10 : decode cX5_deedCount 10 = .ok (.ireturn, 1) := by decide +kernel
theorem dX5_worth_0 : decode cX5_worth 0 = .ok (.iconst 0, 1) := by decide +kernel
theorem dX5_worth_1 : decode cX5_worth 1 = .ok (.istore_n 3, 1) := by decide +kernel
theorem dX5_worth_2 : decode cX5_worth 2 = .ok (.iload_n 2, 1) := by decide +kernel
theorem dX5_worth_3 : decode cX5_worth 3 = .ok (.istore 4, 2) := by decide +kernel
theorem dX5_worth_5 : decode cX5_worth 5 = .ok (.iconst 3, 1) := by decide +kernel
theorem dX5_worth_6 : decode cX5_worth 6 = .ok (.istore 5, 2) := by decide +kernel
theorem dX5_worth_8 : decode cX5_worth 8 = .ok (.iload 5, 2) := by decide +kernel
theorem dX5_worth_10 : decode cX5_worth 10 = .ok (.ifCond .lt 34, 3) := by decide +kernel
theorem dX5_worth_13 : decode cX5_worth 13 = .ok (.iload_n 3, 1) := by decide +kernel
theorem dX5_worth_14 : decode cX5_worth 14 = .ok (.iload 4, 2) := by decide +kernel
theorem dX5_worth_16 : decode cX5_worth 16 = .ok (.bipush 10, 2) := by decide +kernel
theorem dX5_worth_18 : decode cX5_worth 18 = .ok (.irem, 1) := by decide +kernel
theorem dX5_worth_19 : decode cX5_worth 19 = .ok (.aload_n 0, 1) := by decide +kernel
theorem dX5_worth_20 : decode cX5_worth 20 = .ok (.iload_n 1, 1) := by decide +kernel
theorem dX5_worth_21 : decode cX5_worth 21 = .ok (.iload 5, 2) := by decide +kernel
theorem dX5_worth_23 : decode cX5_worth 23 = .ok (.bipush 31, 2) := by decide +kernel
theorem dX5_worth_25 : decode cX5_worth 25 = .ok (.invokevirtual 77, 3) := by decide +kernel
theorem dX5_worth_28 : decode cX5_worth 28 = .ok (.imul, 1) := by decide +kernel
theorem dX5_worth_29 : decode cX5_worth 29 = .ok (.iadd, 1) := by decide +kernel
theorem dX5_worth_30 : decode cX5_worth 30 = .ok (.istore_n 3, 1) := by decide +kernel
theorem dX5_worth_31 : decode cX5_worth 31 = .ok (.iload 4, 2) := by decide +kernel
theorem dX5_worth_33 : decode cX5_worth 33 = .ok (.bipush 10, 2) := by decide +kernel
theorem dX5_worth_35 : decode cX5_worth 35 = .ok (.idiv, 1) := by decide +kernel
theorem dX5_worth_36 : decode cX5_worth 36 = .ok (.istore 4, 2) := by decide +kernel
theorem dX5_worth_38 : decode cX5_worth 38 = .ok (.iinc 5 (-1), 3) := by decide +kernel
theorem dX5_worth_41 : decode cX5_worth 41 = .ok (.goto (-33), 3) := by decide +kernel
theorem dX5_worth_44 : decode cX5_worth 44 = .ok (.iload_n 3, 1) := by decide +kernel
theorem dX5_worth_45 : decode cX5_worth 45 = .ok (.ireturn, 1) := by decide +kernel
theorem dX6_init_0 : decode cX6_init 0 = .ok (.aload_n 0, 1) := by decide +kernel
theorem dX6_init_1 : decode cX6_init 1 = .ok (.invokespecial 3, 3) := by decide +kernel
theorem dX6_init_4 : decode cX6_init 4 = .ok (.aload_n 0, 1) := by decide +kernel
theorem dX6_init_5 : decode cX6_init 5 = .ok (.bipush 56, 2) := by decide +kernel
theorem dX6_init_7 : decode cX6_init 7 = .ok (.newarray .int, 2) := by decide +kernel
theorem dX6_init_9 : decode cX6_init 9 = .ok (.putfield 9, 3) := by decide +kernel
theorem dX6_init_12 : decode cX6_init 12 = .ok (.return_, 1) := by decide +kernel
theorem dX6_append_0 : decode cX6_append 0 = .ok (.aload_n 0, 1) := by decide +kernel
theorem dX6_append_1 : decode cX6_append 1 = .ok (.getfield 15, 3) := by decide +kernel
theorem dX6_append_4 : decode cX6_append 4 = .ok (.bipush 56, 2) := by decide +kernel
theorem dX6_append_6 : decode cX6_append 6 = .ok (.if_icmp .lt 5, 3) := by decide +kernel
theorem dX6_append_9 : decode cX6_append 9 = .ok (.iconst 0, 1) := by decide +kernel
theorem dX6_append_10 : decode cX6_append 10 = .ok (.ireturn, 1) := by decide +kernel
theorem dX6_append_11 : decode cX6_append 11 = .ok (.aload_n 0, 1) := by decide +kernel
theorem dX6_append_12 : decode cX6_append 12 = .ok (.getfield 9, 3) := by decide +kernel
theorem dX6_append_15 : decode cX6_append 15 = .ok (.aload_n 0, 1) := by decide +kernel
theorem dX6_append_16 : decode cX6_append 16 = .ok (.getfield 15, 3) := by decide +kernel
theorem dX6_append_19 : decode cX6_append 19 = .ok (.iload_n 1, 1) := by decide +kernel
theorem dX6_append_20 : decode cX6_append 20 = .ok (.iastore, 1) := by decide +kernel
theorem dX6_append_21 : decode cX6_append 21 = .ok (.aload_n 0, 1) := by decide +kernel
theorem dX6_append_22 : decode cX6_append 22 = .ok (.dup, 1) := by decide +kernel
theorem dX6_append_23 : decode cX6_append 23 = .ok (.getfield 15, 3) := by decide +kernel
theorem dX6_append_26 : decode cX6_append 26 = .ok (.iconst 1, 1) := by decide +kernel
theorem dX6_append_27 : decode cX6_append 27 = .ok (.iadd, 1) := by decide +kernel
theorem dX6_append_28 : decode cX6_append 28 = .ok (.putfield 15, 3) := by decide +kernel
theorem dX6_append_31 : decode cX6_append 31 = .ok (.iconst 1, 1) := by decide +kernel
theorem dX6_append_32 : decode cX6_append 32 = .ok (.ireturn, 1) := by decide +kernel
theorem dX6_readInto_0 : decode cX6_readInto 0 = .ok (.aload_n 1, 1) := by decide +kernel
theorem dX6_readInto_1 : decode cX6_readInto 1 = .ok (.invokevirtual 19, 3) := by decide +kernel
theorem dX6_readInto_4 : decode cX6_readInto 4 = .ok (.iconst 0, 1) := by decide +kernel
theorem dX6_readInto_5 : decode cX6_readInto 5 = .ok (.istore_n 2, 1) := by decide +kernel
theorem dX6_readInto_6 : decode cX6_readInto 6 = .ok (.iload_n 2, 1) := by decide +kernel
theorem dX6_readInto_7 : decode cX6_readInto 7 = .ok (.aload_n 0, 1) := by decide +kernel
theorem dX6_readInto_8 : decode cX6_readInto 8 = .ok (.getfield 15, 3) := by decide +kernel
theorem dX6_readInto_11 : decode cX6_readInto 11 = .ok (.if_icmp .ge 24, 3) := by decide +kernel
theorem dX6_readInto_14 : decode cX6_readInto 14 = .ok (.aload_n 1, 1) := by decide +kernel
theorem dX6_readInto_15 : decode cX6_readInto 15 = .ok (.aload_n 0, 1) := by decide +kernel
theorem dX6_readInto_16 : decode cX6_readInto 16 = .ok (.getfield 9, 3) := by decide +kernel
theorem dX6_readInto_19 : decode cX6_readInto 19 = .ok (.iload_n 2, 1) := by decide +kernel
theorem dX6_readInto_20 : decode cX6_readInto 20 = .ok (.iaload, 1) := by decide +kernel
theorem dX6_readInto_21 : decode cX6_readInto 21 = .ok (.invokevirtual 24, 3) := by decide +kernel
theorem dX6_readInto_24 : decode cX6_readInto 24 = .ok (.ifCond .ne 5, 3) := by decide +kernel
theorem dX6_readInto_27 : decode cX6_readInto 27 = .ok (.iload_n 2, 1) := by decide +kernel
theorem dX6_readInto_28 : decode cX6_readInto 28 = .ok (.ireturn, 1) := by decide +kernel
theorem dX6_readInto_29 : decode cX6_readInto 29 = .ok (.iinc 2 1, 3) := by decide +kernel
theorem dX6_readInto_32 : decode cX6_readInto 32 = .ok (.goto (-26), 3) := by decide +kernel
theorem dX6_readInto_35 : decode cX6_readInto 35 = .ok (.aload_n 1, 1) := by decide +kernel
theorem dX6_readInto_36 : decode cX6_readInto 36 = .ok (.invokevirtual 28, 3) := by decide +kernel
theorem dX6_readInto_39 : decode cX6_readInto 39 = .ok (.ifCond .eq 8, 3) := by decide +kernel
theorem dX6_readInto_42 : decode cX6_readInto 42 = .ok (.bipush (-9), 2) := by decide +kernel
theorem dX6_readInto_44 : decode cX6_readInto 44 = .ok (.goto 7, 3) := by decide +kernel
theorem dX6_readInto_47 : decode cX6_readInto 47 = .ok (.aload_n 0, 1) := by decide +kernel
theorem dX6_readInto_48 : decode cX6_readInto 48 = .ok (.getfield 15, 3) := by decide +kernel
theorem dX6_readInto_51 : decode cX6_readInto 51 = .ok (.ireturn, 1) := by decide +kernel
theorem dX7_init_0 : decode cX7_init 0 = .ok (.aload_n 0, 1) := by decide +kernel
theorem dX7_init_1 : decode cX7_init 1 = .ok (.invokespecial 3, 3) := by decide +kernel
theorem dX7_init_4 : decode cX7_init 4 = .ok (.aload_n 0, 1) := by decide +kernel
theorem dX7_init_5 : decode cX7_init 5 = .ok (.iconst 5, 1) := by decide +kernel
theorem dX7_init_6 : decode cX7_init 6 = .ok (.newarray .int, 2) := by decide +kernel
theorem dX7_init_8 : decode cX7_init 8 = .ok (.putfield 9, 3) := by decide +kernel
theorem dX7_init_11 : decode cX7_init 11 = .ok (.return_, 1) := by decide +kernel
theorem dX7_begin_0 : decode cX7_begin 0 = .ok (.aload_n 0, 1) := by decide +kernel
theorem dX7_begin_1 : decode cX7_begin 1 = .ok (.iconst 5, 1) := by decide +kernel
theorem dX7_begin_2 : decode cX7_begin 2 = .ok (.iload_n 1, 1) := by decide +kernel
theorem dX7_begin_3 : decode cX7_begin 3 = .ok (.invokestatic 15, 3) := by decide +kernel
theorem dX7_begin_6 : decode cX7_begin 6 = .ok (.putfield 21, 3) := by decide +kernel
theorem dX7_begin_9 : decode cX7_begin 9 = .ok (.aload_n 0, 1) := by decide +kernel
theorem dX7_begin_10 : decode cX7_begin 10 = .ok (.getfield 9, 3) := by decide +kernel
theorem dX7_begin_13 : decode cX7_begin 13 = .ok (.iconst 0, 1) := by decide +kernel
theorem dX7_begin_14 : decode cX7_begin 14 = .ok (.invokestatic 25, 3) := by decide +kernel
theorem dX7_begin_17 : decode cX7_begin 17 = .ok (.aload_n 0, 1) := by decide +kernel
theorem dX7_begin_18 : decode cX7_begin 18 = .ok (.iconst 1, 1) := by decide +kernel
theorem dX7_begin_19 : decode cX7_begin 19 = .ok (.putfield 31, 3) := by decide +kernel
theorem dX7_begin_22 : decode cX7_begin 22 = .ok (.return_, 1) := by decide +kernel
theorem dX7_figures_0 : decode cX7_figures 0 = .ok (.aload_n 0, 1) := by decide +kernel
theorem dX7_figures_1 : decode cX7_figures 1 = .ok (.getfield 9, 3) := by decide +kernel
theorem dX7_figures_4 : decode cX7_figures 4 = .ok (.aload_n 0, 1) := by decide +kernel
theorem dX7_figures_5 : decode cX7_figures 5 = .ok (.getfield 21, 3) := by decide +kernel
theorem dX7_figures_8 : decode cX7_figures 8 = .ok (.invokestatic 35, 3) := by decide +kernel
theorem dX7_figures_11 : decode cX7_figures 11 = .ok (.ireturn, 1) := by decide +kernel
theorem dX7_advance_0 : decode cX7_advance 0 = .ok (.aload_n 0, 1) := by decide +kernel
theorem dX7_advance_1 : decode cX7_advance 1 = .ok (.getfield 21, 3) := by decide +kernel
theorem dX7_advance_4 : decode cX7_advance 4 = .ok (.iconst 1, 1) := by decide +kernel
theorem dX7_advance_5 : decode cX7_advance 5 = .ok (.isub, 1) := by decide +kernel
theorem dX7_advance_6 : decode cX7_advance 6 = .ok (.istore_n 1, 1) := by decide +kernel
theorem dX7_advance_7 : decode cX7_advance 7 = .ok (.iload_n 1, 1) := by decide +kernel
theorem dX7_advance_8 : decode cX7_advance 8 = .ok (.ifCond .lt 56, 3) := by decide +kernel
theorem dX7_advance_11 : decode cX7_advance 11 = .ok (.aload_n 0, 1) := by decide +kernel
theorem dX7_advance_12 : decode cX7_advance 12 = .ok (.getfield 9, 3) := by decide +kernel
theorem dX7_advance_15 : decode cX7_advance 15 = .ok (.iload_n 1, 1) := by decide +kernel
theorem dX7_advance_16 : decode cX7_advance 16 = .ok (.iaload, 1) := by decide +kernel
theorem dX7_advance_17 : decode cX7_advance 17 = .ok (.iconst 5, 1) := by decide +kernel
theorem dX7_advance_18 : decode cX7_advance 18 = .ok (.if_icmp .ge 40, 3) := by decide +kernel
theorem dX7_advance_21 : decode cX7_advance 21 = .ok (.iload_n 1, 1) := by decide +kernel
theorem dX7_advance_22 : decode cX7_advance 22 = .ok (.ifCond .eq 20, 3) := by decide +kernel
theorem dX7_advance_25 : decode cX7_advance 25 = .ok (.aload_n 0, 1) := by decide +kernel
theorem dX7_advance_26 : decode cX7_advance 26 = .ok (.getfield 9, 3) := by decide +kernel
theorem dX7_advance_29 : decode cX7_advance 29 = .ok (.iload_n 1, 1) := by decide +kernel
theorem dX7_advance_30 : decode cX7_advance 30 = .ok (.iaload, 1) := by decide +kernel
theorem dX7_advance_31 : decode cX7_advance 31 = .ok (.aload_n 0, 1) := by decide +kernel
theorem dX7_advance_32 : decode cX7_advance 32 = .ok (.getfield 9, 3) := by decide +kernel
theorem dX7_advance_35 : decode cX7_advance 35 = .ok (.iload_n 1, 1) := by decide +kernel
theorem dX7_advance_36 : decode cX7_advance 36 = .ok (.iconst 1, 1) := by decide +kernel
theorem dX7_advance_37 : decode cX7_advance 37 = .ok (.isub, 1) := by decide +kernel
theorem dX7_advance_38 : decode cX7_advance 38 = .ok (.iaload, 1) := by decide +kernel
theorem dX7_advance_39 : decode cX7_advance 39 = .ok (.if_icmp .gt 19, 3) := by decide +kernel
theorem dX7_advance_42 : decode cX7_advance 42 = .ok (.aload_n 0, 1) := by decide +kernel
theorem dX7_advance_43 : decode cX7_advance 43 = .ok (.getfield 9, 3) := by decide +kernel
theorem dX7_advance_46 : decode cX7_advance 46 = .ok (.iload_n 1, 1) := by decide +kernel
theorem dX7_advance_47 : decode cX7_advance 47 = .ok (.dup2, 1) := by decide +kernel
theorem dX7_advance_48 : decode cX7_advance 48 = .ok (.iaload, 1) := by decide +kernel
theorem dX7_advance_49 : decode cX7_advance 49 = .ok (.iconst 1, 1) := by decide +kernel
theorem dX7_advance_50 : decode cX7_advance 50 = .ok (.iadd, 1) := by decide +kernel
theorem dX7_advance_51 : decode cX7_advance 51 = .ok (.iastore, 1) := by decide +kernel
theorem dX7_advance_52 : decode cX7_advance 52 = .ok (.aload_n 0, 1) := by decide +kernel
theorem dX7_advance_53 : decode cX7_advance 53 = .ok (.iload_n 1, 1) := by decide +kernel
theorem dX7_advance_54 : decode cX7_advance 54 = .ok (.invokevirtual 39, 3) := by decide +kernel
theorem dX7_advance_57 : decode cX7_advance 57 = .ok (.return_, 1) := by decide +kernel
theorem dX7_advance_58 : decode cX7_advance 58 = .ok (.iinc 1 (-1), 3) := by decide +kernel
theorem dX7_advance_61 : decode cX7_advance 61 = .ok (.goto (-54), 3) := by decide +kernel
theorem dX7_advance_64 : decode cX7_advance 64 = .ok (.aload_n 0, 1) := by decide +kernel
theorem dX7_advance_65 : decode cX7_advance 65 = .ok (.iconst 0, 1) := by decide +kernel
theorem dX7_advance_66 : decode cX7_advance 66 = .ok (.putfield 31, 3) := by decide +kernel
theorem dX7_advance_69 : decode cX7_advance 69 = .ok (.return_, 1) := by decide +kernel
theorem dX7_putLeastBehind_0 : decode cX7_putLeastBehind 0 = .ok (.iload_n 1, 1) := by decide +kernel
theorem dX7_putLeastBehind_1 : decode cX7_putLeastBehind 1 = .ok (.iconst 1, 1) := by decide +kernel
theorem dX7_putLeastBehind_2 : decode cX7_putLeastBehind 2 = .ok (.iadd, 1) := by decide +kernel
theorem dX7_putLeastBehind_3 : decode cX7_putLeastBehind 3 = .ok (.istore_n 2, 1) := by decide +kernel
theorem dX7_putLeastBehind_4 : decode cX7_putLeastBehind 4 = .ok (.iload_n 2, 1) := by decide +kernel
theorem dX7_putLeastBehind_5 : decode cX7_putLeastBehind 5 = .ok (.aload_n 0, 1) := by decide +kernel
theorem dX7_putLeastBehind_6 : decode cX7_putLeastBehind 6 = .ok (.getfield 21, 3) := by decide +kernel
theorem dX7_putLeastBehind_9 : decode cX7_putLeastBehind 9 = .ok (.if_icmp .ge 29, 3) := by decide +kernel
theorem dX7_putLeastBehind_12 : decode cX7_putLeastBehind 12 = .ok (.aload_n 0, 1) := by decide +kernel
theorem dX7_putLeastBehind_13 : decode cX7_putLeastBehind 13 = .ok (.getfield 9, 3) := by decide +kernel
theorem dX7_putLeastBehind_16 : decode cX7_putLeastBehind 16 = .ok (.iload_n 2, 1) := by decide +kernel
theorem dX7_putLeastBehind_17 : decode cX7_putLeastBehind 17 = .ok (.iconst 0, 1) := by decide +kernel
theorem dX7_putLeastBehind_18 : decode cX7_putLeastBehind 18 = .ok (.aload_n 0, 1) := by decide +kernel
theorem dX7_putLeastBehind_19 : decode cX7_putLeastBehind 19 = .ok (.getfield 9, 3) := by decide +kernel
theorem dX7_putLeastBehind_22 : decode cX7_putLeastBehind 22 = .ok (.iload_n 2, 1) := by decide +kernel
theorem dX7_putLeastBehind_23 : decode cX7_putLeastBehind 23 = .ok (.iconst 1, 1) := by decide +kernel
theorem dX7_putLeastBehind_24 : decode cX7_putLeastBehind 24 = .ok (.isub, 1) := by decide +kernel
theorem dX7_putLeastBehind_25 : decode cX7_putLeastBehind 25 = .ok (.iaload, 1) := by decide +kernel
theorem dX7_putLeastBehind_26 : decode cX7_putLeastBehind 26 = .ok (.iconst 1, 1) := by decide +kernel
theorem dX7_putLeastBehind_27 : decode cX7_putLeastBehind 27 = .ok (.isub, 1) := by decide +kernel
theorem dX7_putLeastBehind_28 : decode cX7_putLeastBehind 28 = .ok (.invokestatic 43, 3) := by decide +kernel
theorem dX7_putLeastBehind_31 : decode cX7_putLeastBehind 31 = .ok (.iastore, 1) := by decide +kernel
theorem dX7_putLeastBehind_32 : decode cX7_putLeastBehind 32 = .ok (.iinc 2 1, 3) := by decide +kernel
theorem dX7_putLeastBehind_35 : decode cX7_putLeastBehind 35 = .ok (.goto (-31), 3) := by decide +kernel
theorem dX7_putLeastBehind_38 : decode cX7_putLeastBehind 38 = .ok (.return_, 1) := by decide +kernel
theorem dX8_init_0 : decode cX8_init 0 = .ok (.aload_n 0, 1) := by decide +kernel
theorem dX8_init_1 : decode cX8_init 1 = .ok (.invokespecial 3, 3) := by decide +kernel
theorem dX8_init_4 : decode cX8_init 4 = .ok (.aload_n 0, 1) := by decide +kernel
theorem dX8_init_5 : decode cX8_init 5 = .ok (.new 9, 3) := by decide +kernel
theorem dX8_init_8 : decode cX8_init 8 = .ok (.dup, 1) := by decide +kernel
theorem dX8_init_9 : decode cX8_init 9 = .ok (.invokespecial 11, 3) := by decide +kernel
theorem dX8_init_12 : decode cX8_init 12 = .ok (.putfield 12, 3) := by decide +kernel
theorem dX8_init_15 : decode cX8_init 15 = .ok (.aload_n 0, 1) := by decide +kernel
theorem dX8_init_16 : decode cX8_init 16 = .ok (.new 16, 3) := by decide +kernel
theorem dX8_init_19 : decode cX8_init 19 = .ok (.dup, 1) := by decide +kernel
theorem dX8_init_20 : decode cX8_init 20 = .ok (.invokespecial 18, 3) := by decide +kernel
theorem dX8_init_23 : decode cX8_init 23 = .ok (.putfield 19, 3) := by decide +kernel
theorem dX8_init_26 : decode cX8_init 26 = .ok (.aload_n 0, 1) := by decide +kernel
theorem dX8_init_27 : decode cX8_init 27 = .ok (.new 16, 3) := by decide +kernel
theorem dX8_init_30 : decode cX8_init 30 = .ok (.dup, 1) := by decide +kernel
theorem dX8_init_31 : decode cX8_init 31 = .ok (.invokespecial 18, 3) := by decide +kernel
theorem dX8_init_34 : decode cX8_init 34 = .ok (.putfield 23, 3) := by decide +kernel
theorem dX8_init_37 : decode cX8_init 37 = .ok (.aload_n 0, 1) := by decide +kernel
theorem dX8_init_38 : decode cX8_init 38 = .ok (.new 26, 3) := by decide +kernel
theorem dX8_init_41 : decode cX8_init 41 = .ok (.dup, 1) := by decide +kernel
theorem dX8_init_42 : decode cX8_init 42 = .ok (.aload_n 0, 1) := by decide +kernel
theorem dX8_init_43 : decode cX8_init 43 = .ok (.getfield 19, 3) := by decide +kernel
theorem dX8_init_46 : decode cX8_init 46 = .ok (.invokespecial 28, 3) := by decide +kernel
theorem dX8_init_49 : decode cX8_init 49 = .ok (.putfield 31, 3) := by decide +kernel
theorem dX8_init_52 : decode cX8_init 52 = .ok (.aload_n 0, 1) := by decide +kernel
theorem dX8_init_53 : decode cX8_init 53 = .ok (.new 26, 3) := by decide +kernel
theorem dX8_init_56 : decode cX8_init 56 = .ok (.dup, 1) := by decide +kernel
theorem dX8_init_57 : decode cX8_init 57 = .ok (.aload_n 0, 1) := by decide +kernel
theorem dX8_init_58 : decode cX8_init 58 = .ok (.getfield 19, 3) := by decide +kernel
theorem dX8_init_61 : decode cX8_init 61 = .ok (.invokespecial 28, 3) := by decide +kernel
theorem dX8_init_64 : decode cX8_init 64 = .ok (.putfield 35, 3) := by decide +kernel
theorem dX8_init_67 : decode cX8_init 67 = .ok (.aload_n 0, 1) := by decide +kernel
theorem dX8_init_68 : decode cX8_init 68 = .ok (.iconst 2, 1) := by decide +kernel
theorem dX8_init_69 : decode cX8_init 69 = .ok (.anewarray 26, 3) := by decide +kernel
theorem dX8_init_72 : decode cX8_init 72 = .ok (.putfield 38, 3) := by decide +kernel
theorem dX8_init_75 : decode cX8_init 75 = .ok (.iconst 0, 1) := by decide +kernel
theorem dX8_init_76 : decode cX8_init 76 = .ok (.istore_n 1, 1) := by decide +kernel
theorem dX8_init_77 : decode cX8_init 77 = .ok (.iload_n 1, 1) := by decide +kernel
theorem dX8_init_78 : decode cX8_init 78 = .ok (.iconst 2, 1) := by decide +kernel
theorem dX8_init_79 : decode cX8_init 79 = .ok (.if_icmp .ge 26, 3) := by decide +kernel
theorem dX8_init_82 : decode cX8_init 82 = .ok (.aload_n 0, 1) := by decide +kernel
theorem dX8_init_83 : decode cX8_init 83 = .ok (.getfield 38, 3) := by decide +kernel
theorem dX8_init_86 : decode cX8_init 86 = .ok (.iload_n 1, 1) := by decide +kernel
theorem dX8_init_87 : decode cX8_init 87 = .ok (.new 26, 3) := by decide +kernel
theorem dX8_init_90 : decode cX8_init 90 = .ok (.dup, 1) := by decide +kernel
theorem dX8_init_91 : decode cX8_init 91 = .ok (.aload_n 0, 1) := by decide +kernel
theorem dX8_init_92 : decode cX8_init 92 = .ok (.getfield 19, 3) := by decide +kernel
theorem dX8_init_95 : decode cX8_init 95 = .ok (.invokespecial 28, 3) := by decide +kernel
theorem dX8_init_98 : decode cX8_init 98 = .ok (.aastore, 1) := by decide +kernel
theorem dX8_init_99 : decode cX8_init 99 = .ok (.iinc 1 1, 3) := by decide +kernel
theorem dX8_init_102 : decode cX8_init 102 = .ok (.goto (-25), 3) := by decide +kernel
theorem dX8_init_105 : decode cX8_init 105 = .ok (.aload_n 0, 1) := by decide +kernel
theorem dX8_init_106 : decode cX8_init 106 = .ok (.iconst 2, 1) := by decide +kernel
theorem dX8_init_107 : decode cX8_init 107 = .ok (.newarray .boolean, 2) := by decide +kernel
theorem dX8_init_109 : decode cX8_init 109 = .ok (.putfield 42, 3) := by decide +kernel
theorem dX8_init_112 : decode cX8_init 112 = .ok (.aload_n 0, 1) := by decide +kernel
theorem dX8_init_113 : decode cX8_init 113 = .ok (.new 46, 3) := by decide +kernel
theorem dX8_init_116 : decode cX8_init 116 = .ok (.dup, 1) := by decide +kernel
theorem dX8_init_117 : decode cX8_init 117 = .ok (.invokespecial 48, 3) := by decide +kernel
theorem dX8_init_120 : decode cX8_init 120 = .ok (.putfield 49, 3) := by decide +kernel
theorem dX8_init_123 : decode cX8_init 123 = .ok (.aload_n 0, 1) := by decide +kernel
theorem dX8_init_124 : decode cX8_init 124 = .ok (.new 53, 3) := by decide +kernel
theorem dX8_init_127 : decode cX8_init 127 = .ok (.dup, 1) := by decide +kernel
theorem dX8_init_128 : decode cX8_init 128 = .ok (.aload_n 0, 1) := by decide +kernel
theorem dX8_init_129 : decode cX8_init 129 = .ok (.getfield 19, 3) := by decide +kernel
theorem dX8_init_132 : decode cX8_init 132 = .ok (.invokespecial 55, 3) := by decide +kernel
theorem dX8_init_135 : decode cX8_init 135 = .ok (.putfield 56, 3) := by decide +kernel
theorem dX8_init_138 : decode cX8_init 138 = .ok (.aload_n 0, 1) := by decide +kernel
theorem dX8_init_139 : decode cX8_init 139 = .ok (.new 60, 3) := by decide +kernel
theorem dX8_init_142 : decode cX8_init 142 = .ok (.dup, 1) := by decide +kernel
theorem dX8_init_143 : decode cX8_init 143 = .ok (.invokespecial 62, 3) := by decide +kernel
theorem dX8_init_146 : decode cX8_init 146 = .ok (.putfield 63, 3) := by decide +kernel
theorem dX8_init_149 : decode cX8_init 149 = .ok (.aload_n 0, 1) := by decide +kernel
theorem dX8_init_150 : decode cX8_init 150 = .ok (.new 67, 3) := by decide +kernel
theorem dX8_init_153 : decode cX8_init 153 = .ok (.dup, 1) := by decide +kernel
theorem dX8_init_154 : decode cX8_init 154 = .ok (.invokespecial 69, 3) := by decide +kernel
theorem dX8_init_157 : decode cX8_init 157 = .ok (.putfield 70, 3) := by decide +kernel
theorem dX8_init_160 : decode cX8_init 160 = .ok (.aload_n 0, 1) := by decide +kernel
theorem dX8_init_161 : decode cX8_init 161 = .ok (.new 74, 3) := by decide +kernel
theorem dX8_init_164 : decode cX8_init 164 = .ok (.dup, 1) := by decide +kernel
theorem dX8_init_165 : decode cX8_init 165 = .ok (.invokespecial 76, 3) := by decide +kernel
theorem dX8_init_168 : decode cX8_init 168 = .ok (.putfield 77, 3) := by decide +kernel
theorem dX8_init_171 : decode cX8_init 171 = .ok (.aload_n 0, 1) := by decide +kernel
theorem dX8_init_172 : decode cX8_init 172 = .ok (.lconst 0, 1) := by decide +kernel
theorem dX8_init_173 : decode cX8_init 173 = .ok (.putfield 81, 3) := by decide +kernel
theorem dX8_init_176 : decode cX8_init 176 = .ok (.return_, 1) := by decide +kernel
theorem dX8_write_0 : decode cX8_write 0 = .ok (.iload_n 1, 1) := by decide +kernel
theorem dX8_write_1 : decode cX8_write 1 = .ok (.ifCond .lt 10, 3) := by decide +kernel
theorem dX8_write_4 : decode cX8_write 4 = .ok (.iload_n 1, 1) := by decide +kernel
theorem dX8_write_5 : decode cX8_write 5 = .ok (.sipush 255, 3) := by decide +kernel
theorem dX8_write_8 : decode cX8_write 8 = .ok (.if_icmp .le 6, 3) := by decide +kernel
theorem dX8_write_11 : decode cX8_write 11 = .ok (.bipush (-2), 2) := by decide +kernel
theorem dX8_write_13 : decode cX8_write 13 = .ok (.ireturn, 1) := by decide +kernel
theorem dX8_write_14 : decode cX8_write 14 = .ok (.aload_n 0, 1) := by decide +kernel
theorem dX8_write_15 : decode cX8_write 15 = .ok (.getfield 12, 3) := by decide +kernel
theorem dX8_write_18 : decode cX8_write 18 = .ok (.iload_n 1, 1) := by decide +kernel
theorem dX8_write_19 : decode cX8_write 19 = .ok (.invokevirtual 85, 3) := by decide +kernel
theorem dX8_write_22 : decode cX8_write 22 = .ok (.ifCond .eq 13, 3) := by decide +kernel
theorem dX8_write_25 : decode cX8_write 25 = .ok (.aload_n 0, 1) := by decide +kernel
theorem dX8_write_26 : decode cX8_write 26 = .ok (.getfield 12, 3) := by decide +kernel
theorem dX8_write_29 : decode cX8_write 29 = .ok (.getfield 89, 3) := by decide +kernel
theorem dX8_write_32 : decode cX8_write 32 = .ok (.goto 5, 3) := by decide +kernel
theorem dX8_write_35 : decode cX8_write 35 = .ok (.bipush (-4), 2) := by decide +kernel
theorem dX8_write_37 : decode cX8_write 37 = .ok (.ireturn, 1) := by decide +kernel
theorem dX8_wipe_0 : decode cX8_wipe 0 = .ok (.aload_n 0, 1) := by decide +kernel
theorem dX8_wipe_1 : decode cX8_wipe 1 = .ok (.getfield 12, 3) := by decide +kernel
theorem dX8_wipe_4 : decode cX8_wipe 4 = .ok (.getfield 89, 3) := by decide +kernel
theorem dX8_wipe_7 : decode cX8_wipe 7 = .ok (.istore_n 1, 1) := by decide +kernel
theorem dX8_wipe_8 : decode cX8_wipe 8 = .ok (.aload_n 0, 1) := by decide +kernel
theorem dX8_wipe_9 : decode cX8_wipe 9 = .ok (.getfield 12, 3) := by decide +kernel
theorem dX8_wipe_12 : decode cX8_wipe 12 = .ok (.iconst 0, 1) := by decide +kernel
theorem dX8_wipe_13 : decode cX8_wipe 13 = .ok (.putfield 89, 3) := by decide +kernel
theorem dX8_wipe_16 : decode cX8_wipe 16 = .ok (.iload_n 1, 1) := by decide +kernel
theorem dX8_wipe_17 : decode cX8_wipe 17 = .ok (.ireturn, 1) := by decide +kernel
theorem dX8_fault_0 : decode cX8_fault 0 = .ok (.aload_n 0, 1) := by decide +kernel
theorem dX8_fault_1 : decode cX8_fault 1 = .ok (.getfield 12, 3) := by decide +kernel
theorem dX8_fault_4 : decode cX8_fault 4 = .ok (.aload_n 0, 1) := by decide +kernel
theorem dX8_fault_5 : decode cX8_fault 5 = .ok (.getfield 23, 3) := by decide +kernel
theorem dX8_fault_8 : decode cX8_fault 8 = .ok (.invokevirtual 93, 3) := by decide +kernel
theorem dX8_fault_11 : decode cX8_fault 11 = .ok (.ireturn, 1) := by decide +kernel
theorem dX8_family_0 : decode cX8_family 0 = .ok (.aload_n 0, 1) := by decide +kernel
theorem dX8_family_1 : decode cX8_family 1 = .ok (.getfield 12, 3) := by decide +kernel
theorem dX8_family_4 : decode cX8_family 4 = .ok (.aload_n 0, 1) := by decide +kernel
theorem dX8_family_5 : decode cX8_family 5 = .ok (.getfield 23, 3) := by decide +kernel
theorem dX8_family_8 : decode cX8_family 8 = .ok (.invokevirtual 93, 3) := by decide +kernel
theorem dX8_family_11 : decode cX8_family 11 = .ok (.bipush (-9), 2) := by decide +kernel
theorem dX8_family_13 : decode cX8_family 13 = .ok (.if_icmp .eq 6, 3) := by decide +kernel
theorem dX8_family_16 : decode cX8_family 16 = .ok (.bipush (-3), 2) := by decide +kernel
theorem dX8_family_18 : decode cX8_family 18 = .ok (.ireturn, 1) := by decide +kernel
theorem dX8_family_19 : decode cX8_family 19 = .ok (.aload_n 0, 1) := by decide +kernel
theorem dX8_family_20 : decode cX8_family 20 = .ok (.getfield 12, 3) := by decide +kernel
theorem dX8_family_23 : decode cX8_family 23 = .ok (.aload_n 0, 1) := by decide +kernel
theorem dX8_family_24 : decode cX8_family 24 = .ok (.getfield 19, 3) := by decide +kernel
theorem dX8_family_27 : decode cX8_family 27 = .ok (.invokevirtual 93, 3) := by decide +kernel
theorem dX8_family_30 : decode cX8_family 30 = .ok (.pop, 1) := by decide +kernel
theorem dX8_family_31 : decode cX8_family 31 = .ok (.aload_n 0, 1) := by decide +kernel
theorem dX8_family_32 : decode cX8_family 32 = .ok (.getfield 31, 3) := by decide +kernel
theorem dX8_family_35 : decode cX8_family 35 = .ok (.invokevirtual 97, 3) := by decide +kernel
theorem dX8_family_38 : decode cX8_family 38 = .ok (.aload_n 0, 1) := by decide +kernel
theorem dX8_family_39 : decode cX8_family 39 = .ok (.getfield 49, 3) := by decide +kernel
theorem dX8_family_42 : decode cX8_family 42 = .ok (.invokevirtual 100, 3) := by decide +kernel
theorem dX8_family_45 : decode cX8_family 45 = .ok (.iconst 0, 1) := by decide +kernel
theorem dX8_family_46 : decode cX8_family 46 = .ok (.istore_n 1, 1) := by decide +kernel
theorem dX8_family_47 : decode cX8_family 47 = .ok (.iload_n 1, 1) := by decide +kernel
theorem dX8_family_48 : decode cX8_family 48 = .ok (.iconst 2, 1) := by decide +kernel
theorem dX8_family_49 : decode cX8_family 49 = .ok (.if_icmp .ge 16, 3) := by decide +kernel
theorem dX8_family_52 : decode cX8_family 52 = .ok (.aload_n 0, 1) := by decide +kernel
theorem dX8_family_53 : decode cX8_family 53 = .ok (.getfield 42, 3) := by decide +kernel
theorem dX8_family_56 : decode cX8_family 56 = .ok (.iload_n 1, 1) := by decide +kernel
theorem dX8_family_57 : decode cX8_family 57 = .ok (.iconst 0, 1) := by decide +kernel
theorem dX8_family_58 : decode cX8_family 58 = .ok (.bastore, 1) := by decide +kernel
theorem dX8_family_59 : decode cX8_family 59 = .ok (.iinc 1 1, 3) := by decide +kernel
theorem dX8_family_62 : decode cX8_family 62 = .ok (.goto (-15), 3) := by decide +kernel
theorem dX8_family_65 : decode cX8_family 65 = .ok (.bipush 100, 2) := by decide +kernel
theorem dX8_family_67 : decode cX8_family 67 = .ok (.aload_n 0, 1) := by decide +kernel
theorem dX8_family_68 : decode cX8_family 68 = .ok (.getfield 19, 3) := by decide +kernel
theorem dX8_family_71 : decode cX8_family 71 = .ok (.getfield 103, 3) := by decide +kernel
theorem dX8_family_74 : decode cX8_family 74 = .ok (.imul, 1) := by decide +kernel
theorem dX8_family_75 : decode cX8_family 75 = .ok (.bipush 10, 2) := by decide +kernel
theorem dX8_family_77 : decode cX8_family 77 = .ok (.aload_n 0, 1) := by decide +kernel
theorem dX8_family_78 : decode cX8_family 78 = .ok (.getfield 19, 3) := by decide +kernel
theorem dX8_family_81 : decode cX8_family 81 = .ok (.getfield 106, 3) := by decide +kernel
theorem dX8_family_84 : decode cX8_family 84 = .ok (.imul, 1) := by decide +kernel
theorem dX8_family_85 : decode cX8_family 85 = .ok (.iadd, 1) := by decide +kernel
theorem dX8_family_86 : decode cX8_family 86 = .ok (.aload_n 0, 1) := by decide +kernel
theorem dX8_family_87 : decode cX8_family 87 = .ok (.getfield 19, 3) := by decide +kernel
theorem dX8_family_90 : decode cX8_family 90 = .ok (.getfield 109, 3) := by decide +kernel
theorem dX8_family_93 : decode cX8_family 93 = .ok (.iadd, 1) := by decide +kernel
theorem dX8_family_94 : decode cX8_family 94 = .ok (.ireturn, 1) := by decide +kernel
theorem dX8_about_0 : decode cX8_about 0 = .ok (.iload_n 1, 1) := by decide +kernel
theorem dX8_about_1 : decode cX8_about 1 = .ok (.tableswitch 144 0 10 #[59, 67, 75, 83, 91, 99, 107, 115, 120, 128, 136], 59) := by decide +kernel
theorem dX8_about_60 : decode cX8_about 60 = .ok (.aload_n 0, 1) := by decide +kernel
theorem dX8_about_61 : decode cX8_about 61 = .ok (.getfield 19, 3) := by decide +kernel
theorem dX8_about_64 : decode cX8_about 64 = .ok (.getfield 103, 3) := by decide +kernel
theorem dX8_about_67 : decode cX8_about 67 = .ok (.ireturn, 1) := by decide +kernel
theorem dX8_about_68 : decode cX8_about 68 = .ok (.aload_n 0, 1) := by decide +kernel
theorem dX8_about_69 : decode cX8_about 69 = .ok (.getfield 19, 3) := by decide +kernel
theorem dX8_about_72 : decode cX8_about 72 = .ok (.getfield 106, 3) := by decide +kernel
theorem dX8_about_75 : decode cX8_about 75 = .ok (.ireturn, 1) := by decide +kernel
theorem dX8_about_76 : decode cX8_about 76 = .ok (.aload_n 0, 1) := by decide +kernel
theorem dX8_about_77 : decode cX8_about 77 = .ok (.getfield 19, 3) := by decide +kernel
theorem dX8_about_80 : decode cX8_about 80 = .ok (.getfield 109, 3) := by decide +kernel
theorem dX8_about_83 : decode cX8_about 83 = .ok (.ireturn, 1) := by decide +kernel
theorem dX8_about_84 : decode cX8_about 84 = .ok (.aload_n 0, 1) := by decide +kernel
theorem dX8_about_85 : decode cX8_about 85 = .ok (.getfield 31, 3) := by decide +kernel
theorem dX8_about_88 : decode cX8_about 88 = .ok (.getfield 112, 3) := by decide +kernel
theorem dX8_about_91 : decode cX8_about 91 = .ok (.ireturn, 1) := by decide +kernel
theorem dX8_about_92 : decode cX8_about 92 = .ok (.aload_n 0, 1) := by decide +kernel
theorem dX8_about_93 : decode cX8_about 93 = .ok (.getfield 31, 3) := by decide +kernel
theorem dX8_about_96 : decode cX8_about 96 = .ok (.invokevirtual 115, 3) := by decide +kernel
theorem dX8_about_99 : decode cX8_about 99 = .ok (.ireturn, 1) := by decide +kernel
theorem dX8_about_100 : decode cX8_about 100 = .ok (.aload_n 0, 1) := by decide +kernel
theorem dX8_about_101 : decode cX8_about 101 = .ok (.getfield 31, 3) := by decide +kernel
theorem dX8_about_104 : decode cX8_about 104 = .ok (.invokevirtual 119, 3) := by decide +kernel
theorem dX8_about_107 : decode cX8_about 107 = .ok (.ireturn, 1) := by decide +kernel
theorem dX8_about_108 : decode cX8_about 108 = .ok (.aload_n 0, 1) := by decide +kernel
theorem dX8_about_109 : decode cX8_about 109 = .ok (.invokevirtual 122, 3) := by decide +kernel
theorem dX8_about_112 : decode cX8_about 112 = .ok (.invokevirtual 126, 3) := by decide +kernel
theorem dX8_about_115 : decode cX8_about 115 = .ok (.ireturn, 1) := by decide +kernel
theorem dX8_about_116 : decode cX8_about 116 = .ok (.aload_n 0, 1) := by decide +kernel
theorem dX8_about_117 : decode cX8_about 117 = .ok (.invokevirtual 129, 3) := by decide +kernel
theorem dX8_about_120 : decode cX8_about 120 = .ok (.ireturn, 1) := by decide +kernel
theorem dX8_about_121 : decode cX8_about 121 = .ok (.aload_n 0, 1) := by decide +kernel
theorem dX8_about_122 : decode cX8_about 122 = .ok (.getfield 49, 3) := by decide +kernel
theorem dX8_about_125 : decode cX8_about 125 = .ok (.getfield 132, 3) := by decide +kernel
theorem dX8_about_128 : decode cX8_about 128 = .ok (.ireturn, 1) := by decide +kernel
theorem dX8_about_129 : decode cX8_about 129 = .ok (.aload_n 0, 1) := by decide +kernel
theorem dX8_about_130 : decode cX8_about 130 = .ok (.getfield 63, 3) := by decide +kernel
theorem dX8_about_133 : decode cX8_about 133 = .ok (.getfield 135, 3) := by decide +kernel
theorem dX8_about_136 : decode cX8_about 136 = .ok (.ireturn, 1) := by decide +kernel
theorem dX8_about_137 : decode cX8_about 137 = .ok (.aload_n 0, 1) := by decide +kernel
theorem dX8_about_138 : decode cX8_about 138 = .ok (.getfield 12, 3) := by decide +kernel
theorem dX8_about_141 : decode cX8_about 141 = .ok (.getfield 89, 3) := by decide +kernel
theorem dX8_about_144 : decode cX8_about 144 = .ok (.ireturn, 1) := by decide +kernel
theorem dX8_about_145 : decode cX8_about 145 = .ok (.bipush (-2), 2) := by decide +kernel
theorem dX8_about_147 : decode cX8_about 147 = .ok (.ireturn, 1) := by decide +kernel
theorem dX8_cell_0 : decode cX8_cell 0 = .ok (.aload_n 0, 1) := by decide +kernel
theorem dX8_cell_1 : decode cX8_cell 1 = .ok (.iload_n 1, 1) := by decide +kernel
theorem dX8_cell_2 : decode cX8_cell 2 = .ok (.invokevirtual 136, 3) := by decide +kernel
theorem dX8_cell_5 : decode cX8_cell 5 = .ok (.ifCond .ne 5, 3) := by decide +kernel
theorem dX8_cell_8 : decode cX8_cell 8 = .ok (.iconst (-1), 1) := by decide +kernel
theorem dX8_cell_9 : decode cX8_cell 9 = .ok (.ireturn, 1) := by decide +kernel
theorem dX8_cell_10 : decode cX8_cell 10 = .ok (.iload_n 2, 1) := by decide +kernel
theorem dX8_cell_11 : decode cX8_cell 11 = .ok (.ifCond .lt 8, 3) := by decide +kernel
theorem dX8_cell_14 : decode cX8_cell 14 = .ok (.iload_n 2, 1) := by decide +kernel
theorem dX8_cell_15 : decode cX8_cell 15 = .ok (.iconst 5, 1) := by decide +kernel
theorem dX8_cell_16 : decode cX8_cell 16 = .ok (.if_icmp .lt 6, 3) := by decide +kernel
theorem dX8_cell_19 : decode cX8_cell 19 = .ok (.bipush (-2), 2) := by decide +kernel
theorem dX8_cell_21 : decode cX8_cell 21 = .ok (.ireturn, 1) := by decide +kernel
theorem dX8_cell_22 : decode cX8_cell 22 = .ok (.aload_n 0, 1) := by decide +kernel
theorem dX8_cell_23 : decode cX8_cell 23 = .ok (.getfield 31, 3) := by decide +kernel
theorem dX8_cell_26 : decode cX8_cell 26 = .ok (.getfield 139, 3) := by decide +kernel
theorem dX8_cell_29 : decode cX8_cell 29 = .ok (.iload_n 1, 1) := by decide +kernel
theorem dX8_cell_30 : decode cX8_cell 30 = .ok (.iconst 5, 1) := by decide +kernel
theorem dX8_cell_31 : decode cX8_cell 31 = .ok (.imul, 1) := by decide +kernel
theorem dX8_cell_32 : decode cX8_cell 32 = .ok (.iload_n 2, 1) := by decide +kernel
theorem dX8_cell_33 : decode cX8_cell 33 = .ok (.iadd, 1) := by decide +kernel
theorem dX8_cell_34 : decode cX8_cell 34 = .ok (.iaload, 1) := by decide +kernel
theorem dX8_cell_35 : decode cX8_cell 35 = .ok (.istore 4, 2) := by decide +kernel
theorem dX8_cell_37 : decode cX8_cell 37 = .ok (.iload_n 2, 1) := by decide +kernel
theorem dX8_cell_38 : decode cX8_cell 38 = .ok (.aload_n 0, 1) := by decide +kernel
theorem dX8_cell_39 : decode cX8_cell 39 = .ok (.getfield 31, 3) := by decide +kernel
theorem dX8_cell_42 : decode cX8_cell 42 = .ok (.getfield 143, 3) := by decide +kernel
theorem dX8_cell_45 : decode cX8_cell 45 = .ok (.iload_n 1, 1) := by decide +kernel
theorem dX8_cell_46 : decode cX8_cell 46 = .ok (.iaload, 1) := by decide +kernel
theorem dX8_cell_47 : decode cX8_cell 47 = .ok (.invokestatic 146, 3) := by decide +kernel
theorem dX8_cell_50 : decode cX8_cell 50 = .ok (.istore 5, 2) := by decide +kernel
theorem dX8_cell_52 : decode cX8_cell 52 = .ok (.iload_n 3, 1) := by decide +kernel
theorem dX8_cell_53 : decode cX8_cell 53 = .ok (.tableswitch 58 0 3 #[31, 37, 43, 46], 31) := by decide +kernel
theorem dX8_cell_84 : decode cX8_cell 84 = .ok (.iload 4, 2) := by decide +kernel
theorem dX8_cell_86 : decode cX8_cell 86 = .ok (.invokestatic 150, 3) := by decide +kernel
theorem dX8_cell_89 : decode cX8_cell 89 = .ok (.ireturn, 1) := by decide +kernel
theorem dX8_cell_90 : decode cX8_cell 90 = .ok (.iload 4, 2) := by decide +kernel
theorem dX8_cell_92 : decode cX8_cell 92 = .ok (.invokestatic 154, 3) := by decide +kernel
theorem dX8_cell_95 : decode cX8_cell 95 = .ok (.ireturn, 1) := by decide +kernel
theorem dX8_cell_96 : decode cX8_cell 96 = .ok (.iload 5, 2) := by decide +kernel
theorem dX8_cell_98 : decode cX8_cell 98 = .ok (.ireturn, 1) := by decide +kernel
theorem dX8_cell_99 : decode cX8_cell 99 = .ok (.aload_n 0, 1) := by decide +kernel
theorem dX8_cell_100 : decode cX8_cell 100 = .ok (.invokevirtual 122, 3) := by decide +kernel
theorem dX8_cell_103 : decode cX8_cell 103 = .ok (.iload 4, 2) := by decide +kernel
theorem dX8_cell_105 : decode cX8_cell 105 = .ok (.iload 5, 2) := by decide +kernel
theorem dX8_cell_107 : decode cX8_cell 107 = .ok (.invokevirtual 157, 3) := by decide +kernel
theorem dX8_cell_110 : decode cX8_cell 110 = .ok (.ireturn, 1) := by decide +kernel
theorem dX8_cell_111 : decode cX8_cell 111 = .ok (.bipush (-2), 2) := by decide +kernel
theorem dX8_cell_113 : decode cX8_cell 113 = .ok (.ireturn, 1) := by decide +kernel
theorem dX8_kin_0 : decode cX8_kin 0 = .ok (.aload_n 0, 1) := by decide +kernel
theorem dX8_kin_1 : decode cX8_kin 1 = .ok (.iload_n 1, 1) := by decide +kernel
theorem dX8_kin_2 : decode cX8_kin 2 = .ok (.invokevirtual 160, 3) := by decide +kernel
theorem dX8_kin_5 : decode cX8_kin 5 = .ok (.ifCond .ne 5, 3) := by decide +kernel
theorem dX8_kin_8 : decode cX8_kin 8 = .ok (.iconst (-1), 1) := by decide +kernel
theorem dX8_kin_9 : decode cX8_kin 9 = .ok (.ireturn, 1) := by decide +kernel
theorem dX8_kin_10 : decode cX8_kin 10 = .ok (.iload_n 2, 1) := by decide +kernel
theorem dX8_kin_11 : decode cX8_kin 11 = .ok (.tableswitch 83 0 4 #[33, 43, 53, 63, 73], 33) := by decide +kernel
theorem dX8_kin_44 : decode cX8_kin 44 = .ok (.aload_n 0, 1) := by decide +kernel
theorem dX8_kin_45 : decode cX8_kin 45 = .ok (.getfield 19, 3) := by decide +kernel
theorem dX8_kin_48 : decode cX8_kin 48 = .ok (.getfield 163, 3) := by decide +kernel
theorem dX8_kin_51 : decode cX8_kin 51 = .ok (.iload_n 1, 1) := by decide +kernel
theorem dX8_kin_52 : decode cX8_kin 52 = .ok (.iaload, 1) := by decide +kernel
theorem dX8_kin_53 : decode cX8_kin 53 = .ok (.ireturn, 1) := by decide +kernel
theorem dX8_kin_54 : decode cX8_kin 54 = .ok (.aload_n 0, 1) := by decide +kernel
theorem dX8_kin_55 : decode cX8_kin 55 = .ok (.invokevirtual 122, 3) := by decide +kernel
theorem dX8_kin_58 : decode cX8_kin 58 = .ok (.iconst 0, 1) := by decide +kernel
theorem dX8_kin_59 : decode cX8_kin 59 = .ok (.iload_n 1, 1) := by decide +kernel
theorem dX8_kin_60 : decode cX8_kin 60 = .ok (.invokevirtual 166, 3) := by decide +kernel
theorem dX8_kin_63 : decode cX8_kin 63 = .ok (.ireturn, 1) := by decide +kernel
theorem dX8_kin_64 : decode cX8_kin 64 = .ok (.aload_n 0, 1) := by decide +kernel
theorem dX8_kin_65 : decode cX8_kin 65 = .ok (.invokevirtual 122, 3) := by decide +kernel
theorem dX8_kin_68 : decode cX8_kin 68 = .ok (.iconst 1, 1) := by decide +kernel
theorem dX8_kin_69 : decode cX8_kin 69 = .ok (.iload_n 1, 1) := by decide +kernel
theorem dX8_kin_70 : decode cX8_kin 70 = .ok (.invokevirtual 166, 3) := by decide +kernel
theorem dX8_kin_73 : decode cX8_kin 73 = .ok (.ireturn, 1) := by decide +kernel
theorem dX8_kin_74 : decode cX8_kin 74 = .ok (.aload_n 0, 1) := by decide +kernel
theorem dX8_kin_75 : decode cX8_kin 75 = .ok (.invokevirtual 122, 3) := by decide +kernel
theorem dX8_kin_78 : decode cX8_kin 78 = .ok (.iconst 0, 1) := by decide +kernel
theorem dX8_kin_79 : decode cX8_kin 79 = .ok (.iload_n 1, 1) := by decide +kernel
theorem dX8_kin_80 : decode cX8_kin 80 = .ok (.invokevirtual 169, 3) := by decide +kernel
theorem dX8_kin_83 : decode cX8_kin 83 = .ok (.ireturn, 1) := by decide +kernel
theorem dX8_kin_84 : decode cX8_kin 84 = .ok (.aload_n 0, 1) := by decide +kernel
theorem dX8_kin_85 : decode cX8_kin 85 = .ok (.invokevirtual 122, 3) := by decide +kernel
theorem dX8_kin_88 : decode cX8_kin 88 = .ok (.iconst 1, 1) := by decide +kernel
theorem dX8_kin_89 : decode cX8_kin 89 = .ok (.iload_n 1, 1) := by decide +kernel
theorem dX8_kin_90 : decode cX8_kin 90 = .ok (.invokevirtual 169, 3) := by decide +kernel
theorem dX8_kin_93 : decode cX8_kin 93 = .ok (.ireturn, 1) := by decide +kernel
theorem dX8_kin_94 : decode cX8_kin 94 = .ok (.bipush (-2), 2) := by decide +kernel
theorem dX8_kin_96 : decode cX8_kin 96 = .ok (.ireturn, 1) := by decide +kernel
theorem dX8_has_0 : decode cX8_has 0 = .ok (.iload_n 1, 1) := by decide +kernel
theorem dX8_has_1 : decode cX8_has 1 = .ok (.invokestatic 172, 3) := by decide +kernel
theorem dX8_has_4 : decode cX8_has 4 = .ok (.ifCond .eq 12, 3) := by decide +kernel
theorem dX8_has_7 : decode cX8_has 7 = .ok (.iload_n 2, 1) := by decide +kernel
theorem dX8_has_8 : decode cX8_has 8 = .ok (.ifCond .lt 8, 3) := by decide +kernel
theorem dX8_has_11 : decode cX8_has 11 = .ok (.iload_n 2, 1) := by decide +kernel
theorem dX8_has_12 : decode cX8_has 12 = .ok (.iconst 4, 1) := by decide +kernel
theorem dX8_has_13 : decode cX8_has 13 = .ok (.if_icmp .lt 6, 3) := by decide +kernel
theorem dX8_has_16 : decode cX8_has 16 = .ok (.bipush (-2), 2) := by decide +kernel
theorem dX8_has_18 : decode cX8_has 18 = .ok (.ireturn, 1) := by decide +kernel
theorem dX8_has_19 : decode cX8_has 19 = .ok (.aload_n 0, 1) := by decide +kernel
theorem dX8_has_20 : decode cX8_has 20 = .ok (.invokevirtual 122, 3) := by decide +kernel
theorem dX8_has_23 : decode cX8_has 23 = .ok (.iload_n 1, 1) := by decide +kernel
theorem dX8_has_24 : decode cX8_has 24 = .ok (.iload_n 2, 1) := by decide +kernel
theorem dX8_has_25 : decode cX8_has 25 = .ok (.bipush 31, 2) := by decide +kernel
theorem dX8_has_27 : decode cX8_has 27 = .ok (.invokevirtual 175, 3) := by decide +kernel
theorem dX8_has_30 : decode cX8_has 30 = .ok (.ireturn, 1) := by decide +kernel
theorem dX8_can_0 : decode cX8_can 0 = .ok (.iload_n 1, 1) := by decide +kernel
theorem dX8_can_1 : decode cX8_can 1 = .ok (.invokestatic 172, 3) := by decide +kernel
theorem dX8_can_4 : decode cX8_can 4 = .ok (.ifCond .ne 6, 3) := by decide +kernel
theorem dX8_can_7 : decode cX8_can 7 = .ok (.bipush (-2), 2) := by decide +kernel
theorem dX8_can_9 : decode cX8_can 9 = .ok (.ireturn, 1) := by decide +kernel
theorem dX8_can_10 : decode cX8_can 10 = .ok (.aload_n 0, 1) := by decide +kernel
theorem dX8_can_11 : decode cX8_can 11 = .ok (.invokevirtual 122, 3) := by decide +kernel
theorem dX8_can_14 : decode cX8_can 14 = .ok (.iload_n 1, 1) := by decide +kernel
theorem dX8_can_15 : decode cX8_can 15 = .ok (.bipush 31, 2) := by decide +kernel
theorem dX8_can_17 : decode cX8_can 17 = .ok (.invokevirtual 179, 3) := by decide +kernel
theorem dX8_can_20 : decode cX8_can 20 = .ok (.ireturn, 1) := by decide +kernel
theorem dX8_draw_0 : decode cX8_draw 0 = .ok (.aload_n 0, 1) := by decide +kernel
theorem dX8_draw_1 : decode cX8_draw 1 = .ok (.iload_n 1, 1) := by decide +kernel
theorem dX8_draw_2 : decode cX8_draw 2 = .ok (.invokevirtual 136, 3) := by decide +kernel
theorem dX8_draw_5 : decode cX8_draw 5 = .ok (.ifCond .ne 5, 3) := by decide +kernel
theorem dX8_draw_8 : decode cX8_draw 8 = .ok (.iconst (-1), 1) := by decide +kernel
theorem dX8_draw_9 : decode cX8_draw 9 = .ok (.ireturn, 1) := by decide +kernel
theorem dX8_draw_10 : decode cX8_draw 10 = .ok (.iload_n 2, 1) := by decide +kernel
theorem dX8_draw_11 : decode cX8_draw 11 = .ok (.ifCond .eq 11, 3) := by decide +kernel
theorem dX8_draw_14 : decode cX8_draw 14 = .ok (.iload_n 2, 1) := by decide +kernel
theorem dX8_draw_15 : decode cX8_draw 15 = .ok (.iconst 1, 1) := by decide +kernel
theorem dX8_draw_16 : decode cX8_draw 16 = .ok (.if_icmp .eq 6, 3) := by decide +kernel
theorem dX8_draw_19 : decode cX8_draw 19 = .ok (.bipush (-2), 2) := by decide +kernel
theorem dX8_draw_21 : decode cX8_draw 21 = .ok (.ireturn, 1) := by decide +kernel
theorem dX8_draw_22 : decode cX8_draw 22 = .ok (.aload_n 0, 1) := by decide +kernel
theorem dX8_draw_23 : decode cX8_draw 23 = .ok (.getfield 31, 3) := by decide +kernel
theorem dX8_draw_26 : decode cX8_draw 26 = .ok (.invokevirtual 115, 3) := by decide +kernel
theorem dX8_draw_29 : decode cX8_draw 29 = .ok (.istore_n 3, 1) := by decide +kernel
theorem dX8_draw_30 : decode cX8_draw 30 = .ok (.aload_n 0, 1) := by decide +kernel
theorem dX8_draw_31 : decode cX8_draw 31 = .ok (.getfield 31, 3) := by decide +kernel
theorem dX8_draw_34 : decode cX8_draw 34 = .ok (.iload_n 1, 1) := by decide +kernel
theorem dX8_draw_35 : decode cX8_draw 35 = .ok (.iload_n 2, 1) := by decide +kernel
theorem dX8_draw_36 : decode cX8_draw 36 = .ok (.invokevirtual 182, 3) := by decide +kernel
theorem dX8_draw_39 : decode cX8_draw 39 = .ok (.ifCond .ne 6, 3) := by decide +kernel
theorem dX8_draw_42 : decode cX8_draw 42 = .ok (.bipush (-3), 2) := by decide +kernel
theorem dX8_draw_44 : decode cX8_draw 44 = .ok (.ireturn, 1) := by decide +kernel
theorem dX8_draw_45 : decode cX8_draw 45 = .ok (.aload_n 0, 1) := by decide +kernel
theorem dX8_draw_46 : decode cX8_draw 46 = .ok (.getfield 49, 3) := by decide +kernel
theorem dX8_draw_49 : decode cX8_draw 49 = .ok (.bipush (-9), 2) := by decide +kernel
theorem dX8_draw_51 : decode cX8_draw 51 = .ok (.iload_n 3, 1) := by decide +kernel
theorem dX8_draw_52 : decode cX8_draw 52 = .ok (.aload_n 0, 1) := by decide +kernel
theorem dX8_draw_53 : decode cX8_draw 53 = .ok (.getfield 31, 3) := by decide +kernel
theorem dX8_draw_56 : decode cX8_draw 56 = .ok (.getfield 112, 3) := by decide +kernel
theorem dX8_draw_59 : decode cX8_draw 59 = .ok (.invokevirtual 186, 3) := by decide +kernel
theorem dX8_draw_62 : decode cX8_draw 62 = .ok (.aload_n 0, 1) := by decide +kernel
theorem dX8_draw_63 : decode cX8_draw 63 = .ok (.getfield 31, 3) := by decide +kernel
theorem dX8_draw_66 : decode cX8_draw 66 = .ok (.getfield 143, 3) := by decide +kernel
theorem dX8_draw_69 : decode cX8_draw 69 = .ok (.iload_n 1, 1) := by decide +kernel
theorem dX8_draw_70 : decode cX8_draw 70 = .ok (.iaload, 1) := by decide +kernel
theorem dX8_draw_71 : decode cX8_draw 71 = .ok (.ireturn, 1) := by decide +kernel
theorem dX8_change_0 : decode cX8_change 0 = .ok (.aload_n 0, 1) := by decide +kernel
theorem dX8_change_1 : decode cX8_change 1 = .ok (.iload_n 1, 1) := by decide +kernel
theorem dX8_change_2 : decode cX8_change 2 = .ok (.invokevirtual 136, 3) := by decide +kernel
theorem dX8_change_5 : decode cX8_change 5 = .ok (.ifCond .ne 5, 3) := by decide +kernel
theorem dX8_change_8 : decode cX8_change 8 = .ok (.iconst (-1), 1) := by decide +kernel
theorem dX8_change_9 : decode cX8_change 9 = .ok (.ireturn, 1) := by decide +kernel
theorem dX8_change_10 : decode cX8_change 10 = .ok (.aload_n 0, 1) := by decide +kernel
theorem dX8_change_11 : decode cX8_change 11 = .ok (.getfield 31, 3) := by decide +kernel
theorem dX8_change_14 : decode cX8_change 14 = .ok (.iload_n 1, 1) := by decide +kernel
theorem dX8_change_15 : decode cX8_change 15 = .ok (.invokevirtual 190, 3) := by decide +kernel
theorem dX8_change_18 : decode cX8_change 18 = .ok (.ifCond .ne 6, 3) := by decide +kernel
theorem dX8_change_21 : decode cX8_change 21 = .ok (.bipush (-3), 2) := by decide +kernel
theorem dX8_change_23 : decode cX8_change 23 = .ok (.ireturn, 1) := by decide +kernel
theorem dX8_change_24 : decode cX8_change 24 = .ok (.aload_n 0, 1) := by decide +kernel
theorem dX8_change_25 : decode cX8_change 25 = .ok (.getfield 49, 3) := by decide +kernel
theorem dX8_change_28 : decode cX8_change 28 = .ok (.iload_n 1, 1) := by decide +kernel
theorem dX8_change_29 : decode cX8_change 29 = .ok (.aload_n 0, 1) := by decide +kernel
theorem dX8_change_30 : decode cX8_change 30 = .ok (.getfield 31, 3) := by decide +kernel
theorem dX8_change_33 : decode cX8_change 33 = .ok (.invokevirtual 115, 3) := by decide +kernel
theorem dX8_change_36 : decode cX8_change 36 = .ok (.aload_n 0, 1) := by decide +kernel
theorem dX8_change_37 : decode cX8_change 37 = .ok (.getfield 31, 3) := by decide +kernel
theorem dX8_change_40 : decode cX8_change 40 = .ok (.getfield 112, 3) := by decide +kernel
theorem dX8_change_43 : decode cX8_change 43 = .ok (.invokevirtual 186, 3) := by decide +kernel
theorem dX8_change_46 : decode cX8_change 46 = .ok (.aload_n 0, 1) := by decide +kernel
theorem dX8_change_47 : decode cX8_change 47 = .ok (.getfield 31, 3) := by decide +kernel
theorem dX8_change_50 : decode cX8_change 50 = .ok (.getfield 139, 3) := by decide +kernel
theorem dX8_change_53 : decode cX8_change 53 = .ok (.iload_n 1, 1) := by decide +kernel
theorem dX8_change_54 : decode cX8_change 54 = .ok (.iconst 5, 1) := by decide +kernel
theorem dX8_change_55 : decode cX8_change 55 = .ok (.imul, 1) := by decide +kernel
theorem dX8_change_56 : decode cX8_change 56 = .ok (.aload_n 0, 1) := by decide +kernel
theorem dX8_change_57 : decode cX8_change 57 = .ok (.getfield 31, 3) := by decide +kernel
theorem dX8_change_60 : decode cX8_change 60 = .ok (.getfield 143, 3) := by decide +kernel
theorem dX8_change_63 : decode cX8_change 63 = .ok (.iload_n 1, 1) := by decide +kernel
theorem dX8_change_64 : decode cX8_change 64 = .ok (.iaload, 1) := by decide +kernel
theorem dX8_change_65 : decode cX8_change 65 = .ok (.iadd, 1) := by decide +kernel
theorem dX8_change_66 : decode cX8_change 66 = .ok (.iconst 1, 1) := by decide +kernel
theorem dX8_change_67 : decode cX8_change 67 = .ok (.isub, 1) := by decide +kernel
theorem dX8_change_68 : decode cX8_change 68 = .ok (.iaload, 1) := by decide +kernel
theorem dX8_change_69 : decode cX8_change 69 = .ok (.invokestatic 150, 3) := by decide +kernel
theorem dX8_change_72 : decode cX8_change 72 = .ok (.ireturn, 1) := by decide +kernel
theorem dX8_join_0 : decode cX8_join 0 = .ok (.aload_n 0, 1) := by decide +kernel
theorem dX8_join_1 : decode cX8_join 1 = .ok (.getfield 49, 3) := by decide +kernel
theorem dX8_join_4 : decode cX8_join 4 = .ok (.bipush (-9), 2) := by decide +kernel
theorem dX8_join_6 : decode cX8_join 6 = .ok (.aload_n 0, 1) := by decide +kernel
theorem dX8_join_7 : decode cX8_join 7 = .ok (.getfield 31, 3) := by decide +kernel
theorem dX8_join_10 : decode cX8_join 10 = .ok (.invokevirtual 115, 3) := by decide +kernel
theorem dX8_join_13 : decode cX8_join 13 = .ok (.aload_n 0, 1) := by decide +kernel
theorem dX8_join_14 : decode cX8_join 14 = .ok (.getfield 31, 3) := by decide +kernel
theorem dX8_join_17 : decode cX8_join 17 = .ok (.getfield 112, 3) := by decide +kernel
theorem dX8_join_20 : decode cX8_join 20 = .ok (.invokevirtual 186, 3) := by decide +kernel
theorem dX8_join_23 : decode cX8_join 23 = .ok (.aload_n 0, 1) := by decide +kernel
theorem dX8_join_24 : decode cX8_join 24 = .ok (.getfield 31, 3) := by decide +kernel
theorem dX8_join_27 : decode cX8_join 27 = .ok (.invokevirtual 193, 3) := by decide +kernel
theorem dX8_join_30 : decode cX8_join 30 = .ok (.aload_n 0, 1) := by decide +kernel
theorem dX8_join_31 : decode cX8_join 31 = .ok (.getfield 31, 3) := by decide +kernel
theorem dX8_join_34 : decode cX8_join 34 = .ok (.getfield 112, 3) := by decide +kernel
theorem dX8_join_37 : decode cX8_join 37 = .ok (.ireturn, 1) := by decide +kernel
theorem dX8_undo_0 : decode cX8_undo 0 = .ok (.aload_n 0, 1) := by decide +kernel
theorem dX8_undo_1 : decode cX8_undo 1 = .ok (.getfield 49, 3) := by decide +kernel
theorem dX8_undo_4 : decode cX8_undo 4 = .ok (.getfield 132, 3) := by decide +kernel
theorem dX8_undo_7 : decode cX8_undo 7 = .ok (.ifCond .ne 6, 3) := by decide +kernel
theorem dX8_undo_10 : decode cX8_undo 10 = .ok (.bipush (-3), 2) := by decide +kernel
theorem dX8_undo_12 : decode cX8_undo 12 = .ok (.ireturn, 1) := by decide +kernel
theorem dX8_undo_13 : decode cX8_undo 13 = .ok (.aload_n 0, 1) := by decide +kernel
theorem dX8_undo_14 : decode cX8_undo 14 = .ok (.getfield 49, 3) := by decide +kernel
theorem dX8_undo_17 : decode cX8_undo 17 = .ok (.aload_n 0, 1) := by decide +kernel
theorem dX8_undo_18 : decode cX8_undo 18 = .ok (.getfield 31, 3) := by decide +kernel
theorem dX8_undo_21 : decode cX8_undo 21 = .ok (.invokevirtual 196, 3) := by decide +kernel
theorem dX8_undo_24 : decode cX8_undo 24 = .ok (.aload_n 0, 1) := by decide +kernel
theorem dX8_undo_25 : decode cX8_undo 25 = .ok (.getfield 49, 3) := by decide +kernel
theorem dX8_undo_28 : decode cX8_undo 28 = .ok (.getfield 132, 3) := by decide +kernel
theorem dX8_undo_31 : decode cX8_undo 31 = .ok (.ireturn, 1) := by decide +kernel
theorem dX8_best_0 : decode cX8_best 0 = .ok (.iload_n 1, 1) := by decide +kernel
theorem dX8_best_1 : decode cX8_best 1 = .ok (.ifCond .eq 11, 3) := by decide +kernel
theorem dX8_best_4 : decode cX8_best 4 = .ok (.iload_n 1, 1) := by decide +kernel
theorem dX8_best_5 : decode cX8_best 5 = .ok (.iconst 1, 1) := by decide +kernel
theorem dX8_best_6 : decode cX8_best 6 = .ok (.if_icmp .eq 6, 3) := by decide +kernel
theorem dX8_best_9 : decode cX8_best 9 = .ok (.bipush (-2), 2) := by decide +kernel
theorem dX8_best_11 : decode cX8_best 11 = .ok (.ireturn, 1) := by decide +kernel
theorem dX8_best_12 : decode cX8_best 12 = .ok (.iconst 2, 1) := by decide +kernel
theorem dX8_best_13 : decode cX8_best 13 = .ok (.aload_n 0, 1) := by decide +kernel
theorem dX8_best_14 : decode cX8_best 14 = .ok (.getfield 19, 3) := by decide +kernel
theorem dX8_best_17 : decode cX8_best 17 = .ok (.getfield 109, 3) := by decide +kernel
theorem dX8_best_20 : decode cX8_best 20 = .ok (.imul, 1) := by decide +kernel
theorem dX8_best_21 : decode cX8_best 21 = .ok (.istore_n 2, 1) := by decide +kernel
theorem dX8_best_22 : decode cX8_best 22 = .ok (.aload_n 0, 1) := by decide +kernel
theorem dX8_best_23 : decode cX8_best 23 = .ok (.getfield 77, 3) := by decide +kernel
theorem dX8_best_26 : decode cX8_best 26 = .ok (.invokevirtual 200, 3) := by decide +kernel
theorem dX8_best_29 : decode cX8_best 29 = .ok (.aload_n 0, 1) := by decide +kernel
theorem dX8_best_30 : decode cX8_best 30 = .ok (.getfield 70, 3) := by decide +kernel
theorem dX8_best_33 : decode cX8_best 33 = .ok (.aload_n 0, 1) := by decide +kernel
theorem dX8_best_34 : decode cX8_best 34 = .ok (.getfield 19, 3) := by decide +kernel
theorem dX8_best_37 : decode cX8_best 37 = .ok (.getfield 103, 3) := by decide +kernel
theorem dX8_best_40 : decode cX8_best 40 = .ok (.invokevirtual 201, 3) := by decide +kernel
theorem dX8_best_43 : decode cX8_best 43 = .ok (.iconst 0, 1) := by decide +kernel
theorem dX8_best_44 : decode cX8_best 44 = .ok (.istore_n 3, 1) := by decide +kernel
theorem dX8_best_45 : decode cX8_best 45 = .ok (.iload_n 3, 1) := by decide +kernel
theorem dX8_best_46 : decode cX8_best 46 = .ok (.sipush 7776, 3) := by decide +kernel
theorem dX8_best_49 : decode cX8_best 49 = .ok (.if_icmp .ge 95, 3) := by decide +kernel
theorem dX8_best_52 : decode cX8_best 52 = .ok (.aload_n 0, 1) := by decide +kernel
theorem dX8_best_53 : decode cX8_best 53 = .ok (.getfield 70, 3) := by decide +kernel
theorem dX8_best_56 : decode cX8_best 56 = .ok (.getfield 204, 3) := by decide +kernel
theorem dX8_best_59 : decode cX8_best 59 = .ok (.ifCond .eq 85, 3) := by decide +kernel
theorem dX8_best_62 : decode cX8_best 62 = .ok (.aload_n 0, 1) := by decide +kernel
theorem dX8_best_63 : decode cX8_best 63 = .ok (.getfield 56, 3) := by decide +kernel
theorem dX8_best_66 : decode cX8_best 66 = .ok (.aload_n 0, 1) := by decide +kernel
theorem dX8_best_67 : decode cX8_best 67 = .ok (.getfield 31, 3) := by decide +kernel
theorem dX8_best_70 : decode cX8_best 70 = .ok (.getfield 139, 3) := by decide +kernel
theorem dX8_best_73 : decode cX8_best 73 = .ok (.aload_n 0, 1) := by decide +kernel
theorem dX8_best_74 : decode cX8_best 74 = .ok (.getfield 70, 3) := by decide +kernel
theorem dX8_best_77 : decode cX8_best 77 = .ok (.getfield 208, 3) := by decide +kernel
theorem dX8_best_80 : decode cX8_best 80 = .ok (.invokevirtual 209, 3) := by decide +kernel
theorem dX8_best_83 : decode cX8_best 83 = .ok (.iload_n 2, 1) := by decide +kernel
theorem dX8_best_84 : decode cX8_best 84 = .ok (.aload_n 0, 1) := by decide +kernel
theorem dX8_best_85 : decode cX8_best 85 = .ok (.getfield 56, 3) := by decide +kernel
theorem dX8_best_88 : decode cX8_best 88 = .ok (.iconst 0, 1) := by decide +kernel
theorem dX8_best_89 : decode cX8_best 89 = .ok (.invokevirtual 213, 3) := by decide +kernel
theorem dX8_best_92 : decode cX8_best 92 = .ok (.isub, 1) := by decide +kernel
theorem dX8_best_93 : decode cX8_best 93 = .ok (.aload_n 0, 1) := by decide +kernel
theorem dX8_best_94 : decode cX8_best 94 = .ok (.getfield 56, 3) := by decide +kernel
theorem dX8_best_97 : decode cX8_best 97 = .ok (.iconst 1, 1) := by decide +kernel
theorem dX8_best_98 : decode cX8_best 98 = .ok (.invokevirtual 213, 3) := by decide +kernel
theorem dX8_best_101 : decode cX8_best 101 = .ok (.isub, 1) := by decide +kernel
theorem dX8_best_102 : decode cX8_best 102 = .ok (.istore 4, 2) := by decide +kernel
theorem dX8_best_104 : decode cX8_best 104 = .ok (.aload_n 0, 1) := by decide +kernel
theorem dX8_best_105 : decode cX8_best 105 = .ok (.getfield 77, 3) := by decide +kernel
theorem dX8_best_108 : decode cX8_best 108 = .ok (.iload 4, 2) := by decide +kernel
theorem dX8_best_110 : decode cX8_best 110 = .ok (.bipush 6, 2) := by decide +kernel
theorem dX8_best_112 : decode cX8_best 112 = .ok (.imul, 1) := by decide +kernel
theorem dX8_best_113 : decode cX8_best 113 = .ok (.aload_n 0, 1) := by decide +kernel
theorem dX8_best_114 : decode cX8_best 114 = .ok (.getfield 56, 3) := by decide +kernel
theorem dX8_best_117 : decode cX8_best 117 = .ok (.invokevirtual 216, 3) := by decide +kernel
theorem dX8_best_120 : decode cX8_best 120 = .ok (.iadd, 1) := by decide +kernel
theorem dX8_best_121 : decode cX8_best 121 = .ok (.aload_n 0, 1) := by decide +kernel
theorem dX8_best_122 : decode cX8_best 122 = .ok (.getfield 70, 3) := by decide +kernel
theorem dX8_best_125 : decode cX8_best 125 = .ok (.invokevirtual 219, 3) := by decide +kernel
theorem dX8_best_128 : decode cX8_best 128 = .ok (.invokevirtual 222, 3) := by decide +kernel
theorem dX8_best_131 : decode cX8_best 131 = .ok (.aload_n 0, 1) := by decide +kernel
theorem dX8_best_132 : decode cX8_best 132 = .ok (.getfield 70, 3) := by decide +kernel
theorem dX8_best_135 : decode cX8_best 135 = .ok (.invokevirtual 226, 3) := by decide +kernel
theorem dX8_best_138 : decode cX8_best 138 = .ok (.iinc 3 1, 3) := by decide +kernel
theorem dX8_best_141 : decode cX8_best 141 = .ok (.goto (-96), 3) := by decide +kernel
theorem dX8_best_144 : decode cX8_best 144 = .ok (.iload_n 1, 1) := by decide +kernel
theorem dX8_best_145 : decode cX8_best 145 = .ok (.ifCond .ne 13, 3) := by decide +kernel
theorem dX8_best_148 : decode cX8_best 148 = .ok (.aload_n 0, 1) := by decide +kernel
theorem dX8_best_149 : decode cX8_best 149 = .ok (.getfield 77, 3) := by decide +kernel
theorem dX8_best_152 : decode cX8_best 152 = .ok (.getfield 229, 3) := by decide +kernel
theorem dX8_best_155 : decode cX8_best 155 = .ok (.goto 15, 3) := by decide +kernel
theorem dX8_best_158 : decode cX8_best 158 = .ok (.iload_n 2, 1) := by decide +kernel
theorem dX8_best_159 : decode cX8_best 159 = .ok (.aload_n 0, 1) := by decide +kernel
theorem dX8_best_160 : decode cX8_best 160 = .ok (.getfield 77, 3) := by decide +kernel
theorem dX8_best_163 : decode cX8_best 163 = .ok (.getfield 232, 3) := by decide +kernel
theorem dX8_best_166 : decode cX8_best 166 = .ok (.bipush 6, 2) := by decide +kernel
theorem dX8_best_168 : decode cX8_best 168 = .ok (.idiv, 1) := by decide +kernel
theorem dX8_best_169 : decode cX8_best 169 = .ok (.isub, 1) := by decide +kernel
theorem dX8_best_170 : decode cX8_best 170 = .ok (.ireturn, 1) := by decide +kernel
theorem dX8_fewest_0 : decode cX8_fewest 0 = .ok (.aload_n 0, 1) := by decide +kernel
theorem dX8_fewest_1 : decode cX8_fewest 1 = .ok (.iload_n 1, 1) := by decide +kernel
theorem dX8_fewest_2 : decode cX8_fewest 2 = .ok (.invokevirtual 235, 3) := by decide +kernel
theorem dX8_fewest_5 : decode cX8_fewest 5 = .ok (.ifCond .ne 5, 3) := by decide +kernel
theorem dX8_fewest_8 : decode cX8_fewest 8 = .ok (.iconst (-1), 1) := by decide +kernel
theorem dX8_fewest_9 : decode cX8_fewest 9 = .ok (.ireturn, 1) := by decide +kernel
theorem dX8_fewest_10 : decode cX8_fewest 10 = .ok (.iload_n 2, 1) := by decide +kernel
theorem dX8_fewest_11 : decode cX8_fewest 11 = .ok (.ifCond .eq 11, 3) := by decide +kernel
theorem dX8_fewest_14 : decode cX8_fewest 14 = .ok (.iload_n 2, 1) := by decide +kernel
theorem dX8_fewest_15 : decode cX8_fewest 15 = .ok (.iconst 1, 1) := by decide +kernel
theorem dX8_fewest_16 : decode cX8_fewest 16 = .ok (.if_icmp .eq 6, 3) := by decide +kernel
theorem dX8_fewest_19 : decode cX8_fewest 19 = .ok (.bipush (-2), 2) := by decide +kernel
theorem dX8_fewest_21 : decode cX8_fewest 21 = .ok (.ireturn, 1) := by decide +kernel
theorem dX8_fewest_22 : decode cX8_fewest 22 = .ok (.aload_n 0, 1) := by decide +kernel
theorem dX8_fewest_23 : decode cX8_fewest 23 = .ok (.getfield 77, 3) := by decide +kernel
theorem dX8_fewest_26 : decode cX8_fewest 26 = .ok (.invokevirtual 200, 3) := by decide +kernel
theorem dX8_fewest_29 : decode cX8_fewest 29 = .ok (.aload_n 0, 1) := by decide +kernel
theorem dX8_fewest_30 : decode cX8_fewest 30 = .ok (.getfield 70, 3) := by decide +kernel
theorem dX8_fewest_33 : decode cX8_fewest 33 = .ok (.aload_n 0, 1) := by decide +kernel
theorem dX8_fewest_34 : decode cX8_fewest 34 = .ok (.getfield 19, 3) := by decide +kernel
theorem dX8_fewest_37 : decode cX8_fewest 37 = .ok (.getfield 103, 3) := by decide +kernel
theorem dX8_fewest_40 : decode cX8_fewest 40 = .ok (.invokevirtual 201, 3) := by decide +kernel
theorem dX8_fewest_43 : decode cX8_fewest 43 = .ok (.iconst 0, 1) := by decide +kernel
theorem dX8_fewest_44 : decode cX8_fewest 44 = .ok (.istore_n 3, 1) := by decide +kernel
theorem dX8_fewest_45 : decode cX8_fewest 45 = .ok (.iload_n 3, 1) := by decide +kernel
theorem dX8_fewest_46 : decode cX8_fewest 46 = .ok (.sipush 7776, 3) := by decide +kernel
theorem dX8_fewest_49 : decode cX8_fewest 49 = .ok (.if_icmp .ge 96, 3) := by decide +kernel
theorem dX8_fewest_52 : decode cX8_fewest 52 = .ok (.aload_n 0, 1) := by decide +kernel
theorem dX8_fewest_53 : decode cX8_fewest 53 = .ok (.getfield 70, 3) := by decide +kernel
theorem dX8_fewest_56 : decode cX8_fewest 56 = .ok (.getfield 204, 3) := by decide +kernel
theorem dX8_fewest_59 : decode cX8_fewest 59 = .ok (.ifCond .eq 86, 3) := by decide +kernel
theorem dX8_fewest_62 : decode cX8_fewest 62 = .ok (.aload_n 0, 1) := by decide +kernel
theorem dX8_fewest_63 : decode cX8_fewest 63 = .ok (.getfield 56, 3) := by decide +kernel
theorem dX8_fewest_66 : decode cX8_fewest 66 = .ok (.aload_n 0, 1) := by decide +kernel
theorem dX8_fewest_67 : decode cX8_fewest 67 = .ok (.getfield 31, 3) := by decide +kernel
theorem dX8_fewest_70 : decode cX8_fewest 70 = .ok (.getfield 139, 3) := by decide +kernel
theorem dX8_fewest_73 : decode cX8_fewest 73 = .ok (.aload_n 0, 1) := by decide +kernel
theorem dX8_fewest_74 : decode cX8_fewest 74 = .ok (.getfield 70, 3) := by decide +kernel
theorem dX8_fewest_77 : decode cX8_fewest 77 = .ok (.getfield 208, 3) := by decide +kernel
theorem dX8_fewest_80 : decode cX8_fewest 80 = .ok (.invokevirtual 209, 3) := by decide +kernel
theorem dX8_fewest_83 : decode cX8_fewest 83 = .ok (.aload_n 0, 1) := by decide +kernel
theorem dX8_fewest_84 : decode cX8_fewest 84 = .ok (.getfield 56, 3) := by decide +kernel
theorem dX8_fewest_87 : decode cX8_fewest 87 = .ok (.iload_n 1, 1) := by decide +kernel
theorem dX8_fewest_88 : decode cX8_fewest 88 = .ok (.iconst 0, 1) := by decide +kernel
theorem dX8_fewest_89 : decode cX8_fewest 89 = .ok (.bipush 31, 2) := by decide +kernel
theorem dX8_fewest_91 : decode cX8_fewest 91 = .ok (.invokevirtual 238, 3) := by decide +kernel
theorem dX8_fewest_94 : decode cX8_fewest 94 = .ok (.ifCond .eq 38, 3) := by decide +kernel
theorem dX8_fewest_97 : decode cX8_fewest 97 = .ok (.aload_n 0, 1) := by decide +kernel
theorem dX8_fewest_98 : decode cX8_fewest 98 = .ok (.getfield 56, 3) := by decide +kernel
theorem dX8_fewest_101 : decode cX8_fewest 101 = .ok (.iload_n 1, 1) := by decide +kernel
theorem dX8_fewest_102 : decode cX8_fewest 102 = .ok (.iconst 1, 1) := by decide +kernel
theorem dX8_fewest_103 : decode cX8_fewest 103 = .ok (.bipush 31, 2) := by decide +kernel
theorem dX8_fewest_105 : decode cX8_fewest 105 = .ok (.invokevirtual 238, 3) := by decide +kernel
theorem dX8_fewest_108 : decode cX8_fewest 108 = .ok (.ifCond .eq 24, 3) := by decide +kernel
theorem dX8_fewest_111 : decode cX8_fewest 111 = .ok (.aload_n 0, 1) := by decide +kernel
theorem dX8_fewest_112 : decode cX8_fewest 112 = .ok (.getfield 77, 3) := by decide +kernel
theorem dX8_fewest_115 : decode cX8_fewest 115 = .ok (.aload_n 0, 1) := by decide +kernel
theorem dX8_fewest_116 : decode cX8_fewest 116 = .ok (.getfield 56, 3) := by decide +kernel
theorem dX8_fewest_119 : decode cX8_fewest 119 = .ok (.invokevirtual 216, 3) := by decide +kernel
theorem dX8_fewest_122 : decode cX8_fewest 122 = .ok (.aload_n 0, 1) := by decide +kernel
theorem dX8_fewest_123 : decode cX8_fewest 123 = .ok (.getfield 70, 3) := by decide +kernel
theorem dX8_fewest_126 : decode cX8_fewest 126 = .ok (.invokevirtual 219, 3) := by decide +kernel
theorem dX8_fewest_129 : decode cX8_fewest 129 = .ok (.invokevirtual 222, 3) := by decide +kernel
theorem dX8_fewest_132 : decode cX8_fewest 132 = .ok (.aload_n 0, 1) := by decide +kernel
theorem dX8_fewest_133 : decode cX8_fewest 133 = .ok (.getfield 70, 3) := by decide +kernel
theorem dX8_fewest_136 : decode cX8_fewest 136 = .ok (.invokevirtual 226, 3) := by decide +kernel
theorem dX8_fewest_139 : decode cX8_fewest 139 = .ok (.iinc 3 1, 3) := by decide +kernel
theorem dX8_fewest_142 : decode cX8_fewest 142 = .ok (.goto (-97), 3) := by decide +kernel
theorem dX8_fewest_145 : decode cX8_fewest 145 = .ok (.iload_n 2, 1) := by decide +kernel
theorem dX8_fewest_146 : decode cX8_fewest 146 = .ok (.ifCond .ne 13, 3) := by decide +kernel
theorem dX8_fewest_149 : decode cX8_fewest 149 = .ok (.aload_n 0, 1) := by decide +kernel
theorem dX8_fewest_150 : decode cX8_fewest 150 = .ok (.getfield 77, 3) := by decide +kernel
theorem dX8_fewest_153 : decode cX8_fewest 153 = .ok (.getfield 229, 3) := by decide +kernel
theorem dX8_fewest_156 : decode cX8_fewest 156 = .ok (.goto 10, 3) := by decide +kernel
theorem dX8_fewest_159 : decode cX8_fewest 159 = .ok (.aload_n 0, 1) := by decide +kernel
theorem dX8_fewest_160 : decode cX8_fewest 160 = .ok (.getfield 77, 3) := by decide +kernel
theorem dX8_fewest_163 : decode cX8_fewest 163 = .ok (.getfield 232, 3) := by decide +kernel
theorem dX8_fewest_166 : decode cX8_fewest 166 = .ok (.ireturn, 1) := by decide +kernel
theorem dX8_fair_0 : decode cX8_fair 0 = .ok (.iload_n 1, 1) := by decide +kernel
theorem dX8_fair_1 : decode cX8_fair 1 = .ok (.invokestatic 242, 3) := by decide +kernel
theorem dX8_fair_4 : decode cX8_fair 4 = .ok (.ifCond .eq 19, 3) := by decide +kernel
theorem dX8_fair_7 : decode cX8_fair 7 = .ok (.iload_n 2, 1) := by decide +kernel
theorem dX8_fair_8 : decode cX8_fair 8 = .ok (.invokestatic 242, 3) := by decide +kernel
theorem dX8_fair_11 : decode cX8_fair 11 = .ok (.ifCond .eq 12, 3) := by decide +kernel
theorem dX8_fair_14 : decode cX8_fair 14 = .ok (.iload_n 3, 1) := by decide +kernel
theorem dX8_fair_15 : decode cX8_fair 15 = .ok (.ifCond .eq 11, 3) := by decide +kernel
theorem dX8_fair_18 : decode cX8_fair 18 = .ok (.iload_n 3, 1) := by decide +kernel
theorem dX8_fair_19 : decode cX8_fair 19 = .ok (.iconst 1, 1) := by decide +kernel
theorem dX8_fair_20 : decode cX8_fair 20 = .ok (.if_icmp .eq 6, 3) := by decide +kernel
theorem dX8_fair_23 : decode cX8_fair 23 = .ok (.bipush (-2), 2) := by decide +kernel
theorem dX8_fair_25 : decode cX8_fair 25 = .ok (.ireturn, 1) := by decide +kernel
theorem dX8_fair_26 : decode cX8_fair 26 = .ok (.aload_n 0, 1) := by decide +kernel
theorem dX8_fair_27 : decode cX8_fair 27 = .ok (.getfield 77, 3) := by decide +kernel
theorem dX8_fair_30 : decode cX8_fair 30 = .ok (.invokevirtual 200, 3) := by decide +kernel
theorem dX8_fair_33 : decode cX8_fair 33 = .ok (.aload_n 0, 1) := by decide +kernel
theorem dX8_fair_34 : decode cX8_fair 34 = .ok (.getfield 70, 3) := by decide +kernel
theorem dX8_fair_37 : decode cX8_fair 37 = .ok (.aload_n 0, 1) := by decide +kernel
theorem dX8_fair_38 : decode cX8_fair 38 = .ok (.getfield 19, 3) := by decide +kernel
theorem dX8_fair_41 : decode cX8_fair 41 = .ok (.getfield 103, 3) := by decide +kernel
theorem dX8_fair_44 : decode cX8_fair 44 = .ok (.invokevirtual 201, 3) := by decide +kernel
theorem dX8_fair_47 : decode cX8_fair 47 = .ok (.iconst 0, 1) := by decide +kernel
theorem dX8_fair_48 : decode cX8_fair 48 = .ok (.istore 4, 2) := by decide +kernel
theorem dX8_fair_50 : decode cX8_fair 50 = .ok (.iload 4, 2) := by decide +kernel
theorem dX8_fair_52 : decode cX8_fair 52 = .ok (.sipush 7776, 3) := by decide +kernel
theorem dX8_fair_55 : decode cX8_fair 55 = .ok (.if_icmp .ge 104, 3) := by decide +kernel
theorem dX8_fair_58 : decode cX8_fair 58 = .ok (.aload_n 0, 1) := by decide +kernel
theorem dX8_fair_59 : decode cX8_fair 59 = .ok (.getfield 70, 3) := by decide +kernel
theorem dX8_fair_62 : decode cX8_fair 62 = .ok (.getfield 204, 3) := by decide +kernel
theorem dX8_fair_65 : decode cX8_fair 65 = .ok (.ifCond .eq 94, 3) := by decide +kernel
theorem dX8_fair_68 : decode cX8_fair 68 = .ok (.aload_n 0, 1) := by decide +kernel
theorem dX8_fair_69 : decode cX8_fair 69 = .ok (.getfield 56, 3) := by decide +kernel
theorem dX8_fair_72 : decode cX8_fair 72 = .ok (.aload_n 0, 1) := by decide +kernel
theorem dX8_fair_73 : decode cX8_fair 73 = .ok (.getfield 31, 3) := by decide +kernel
theorem dX8_fair_76 : decode cX8_fair 76 = .ok (.getfield 139, 3) := by decide +kernel
theorem dX8_fair_79 : decode cX8_fair 79 = .ok (.aload_n 0, 1) := by decide +kernel
theorem dX8_fair_80 : decode cX8_fair 80 = .ok (.getfield 70, 3) := by decide +kernel
theorem dX8_fair_83 : decode cX8_fair 83 = .ok (.getfield 208, 3) := by decide +kernel
theorem dX8_fair_86 : decode cX8_fair 86 = .ok (.invokevirtual 209, 3) := by decide +kernel
theorem dX8_fair_89 : decode cX8_fair 89 = .ok (.aload_n 0, 1) := by decide +kernel
theorem dX8_fair_90 : decode cX8_fair 90 = .ok (.getfield 56, 3) := by decide +kernel
theorem dX8_fair_93 : decode cX8_fair 93 = .ok (.iconst 0, 1) := by decide +kernel
theorem dX8_fair_94 : decode cX8_fair 94 = .ok (.iload_n 1, 1) := by decide +kernel
theorem dX8_fair_95 : decode cX8_fair 95 = .ok (.invokevirtual 245, 3) := by decide +kernel
theorem dX8_fair_98 : decode cX8_fair 98 = .ok (.aload_n 0, 1) := by decide +kernel
theorem dX8_fair_99 : decode cX8_fair 99 = .ok (.getfield 56, 3) := by decide +kernel
theorem dX8_fair_102 : decode cX8_fair 102 = .ok (.iconst 1, 1) := by decide +kernel
theorem dX8_fair_103 : decode cX8_fair 103 = .ok (.iload_n 1, 1) := by decide +kernel
theorem dX8_fair_104 : decode cX8_fair 104 = .ok (.invokevirtual 245, 3) := by decide +kernel
theorem dX8_fair_107 : decode cX8_fair 107 = .ok (.if_icmp .lt 39, 3) := by decide +kernel
theorem dX8_fair_110 : decode cX8_fair 110 = .ok (.aload_n 0, 1) := by decide +kernel
theorem dX8_fair_111 : decode cX8_fair 111 = .ok (.getfield 56, 3) := by decide +kernel
theorem dX8_fair_114 : decode cX8_fair 114 = .ok (.iconst 1, 1) := by decide +kernel
theorem dX8_fair_115 : decode cX8_fair 115 = .ok (.iload_n 2, 1) := by decide +kernel
theorem dX8_fair_116 : decode cX8_fair 116 = .ok (.invokevirtual 245, 3) := by decide +kernel
theorem dX8_fair_119 : decode cX8_fair 119 = .ok (.aload_n 0, 1) := by decide +kernel
theorem dX8_fair_120 : decode cX8_fair 120 = .ok (.getfield 56, 3) := by decide +kernel
theorem dX8_fair_123 : decode cX8_fair 123 = .ok (.iconst 0, 1) := by decide +kernel
theorem dX8_fair_124 : decode cX8_fair 124 = .ok (.iload_n 2, 1) := by decide +kernel
theorem dX8_fair_125 : decode cX8_fair 125 = .ok (.invokevirtual 245, 3) := by decide +kernel
theorem dX8_fair_128 : decode cX8_fair 128 = .ok (.if_icmp .lt 18, 3) := by decide +kernel
theorem dX8_fair_131 : decode cX8_fair 131 = .ok (.aload_n 0, 1) := by decide +kernel
theorem dX8_fair_132 : decode cX8_fair 132 = .ok (.getfield 77, 3) := by decide +kernel
theorem dX8_fair_135 : decode cX8_fair 135 = .ok (.iconst 0, 1) := by decide +kernel
theorem dX8_fair_136 : decode cX8_fair 136 = .ok (.aload_n 0, 1) := by decide +kernel
theorem dX8_fair_137 : decode cX8_fair 137 = .ok (.getfield 70, 3) := by decide +kernel
theorem dX8_fair_140 : decode cX8_fair 140 = .ok (.invokevirtual 219, 3) := by decide +kernel
theorem dX8_fair_143 : decode cX8_fair 143 = .ok (.invokevirtual 222, 3) := by decide +kernel
theorem dX8_fair_146 : decode cX8_fair 146 = .ok (.aload_n 0, 1) := by decide +kernel
theorem dX8_fair_147 : decode cX8_fair 147 = .ok (.getfield 70, 3) := by decide +kernel
theorem dX8_fair_150 : decode cX8_fair 150 = .ok (.invokevirtual 226, 3) := by decide +kernel
theorem dX8_fair_153 : decode cX8_fair 153 = .ok (.iinc 4 1, 3) := by decide +kernel
theorem dX8_fair_156 : decode cX8_fair 156 = .ok (.goto (-106), 3) := by decide +kernel
theorem dX8_fair_159 : decode cX8_fair 159 = .ok (.iload_n 3, 1) := by decide +kernel
theorem dX8_fair_160 : decode cX8_fair 160 = .ok (.ifCond .ne 13, 3) := by decide +kernel
theorem dX8_fair_163 : decode cX8_fair 163 = .ok (.aload_n 0, 1) := by decide +kernel
theorem dX8_fair_164 : decode cX8_fair 164 = .ok (.getfield 77, 3) := by decide +kernel
theorem dX8_fair_167 : decode cX8_fair 167 = .ok (.getfield 248, 3) := by decide +kernel
theorem dX8_fair_170 : decode cX8_fair 170 = .ok (.goto 10, 3) := by decide +kernel
theorem dX8_fair_173 : decode cX8_fair 173 = .ok (.aload_n 0, 1) := by decide +kernel
theorem dX8_fair_174 : decode cX8_fair 174 = .ok (.getfield 77, 3) := by decide +kernel
theorem dX8_fair_177 : decode cX8_fair 177 = .ok (.getfield 229, 3) := by decide +kernel
theorem dX8_fair_180 : decode cX8_fair 180 = .ok (.ireturn, 1) := by decide +kernel
theorem dX8_judge_0 : decode cX8_judge 0 = .ok (.iload_n 1, 1) := by decide +kernel
theorem dX8_judge_1 : decode cX8_judge 1 = .ok (.iconst 1, 1) := by decide +kernel
theorem dX8_judge_2 : decode cX8_judge 2 = .ok (.if_icmp .lt 8, 3) := by decide +kernel
theorem dX8_judge_5 : decode cX8_judge 5 = .ok (.iload_n 1, 1) := by decide +kernel
theorem dX8_judge_6 : decode cX8_judge 6 = .ok (.iconst 4, 1) := by decide +kernel
theorem dX8_judge_7 : decode cX8_judge 7 = .ok (.if_icmp .le 6, 3) := by decide +kernel
theorem dX8_judge_10 : decode cX8_judge 10 = .ok (.bipush (-2), 2) := by decide +kernel
theorem dX8_judge_12 : decode cX8_judge 12 = .ok (.ireturn, 1) := by decide +kernel
theorem dX8_judge_13 : decode cX8_judge 13 = .ok (.iconst 1, 1) := by decide +kernel
theorem dX8_judge_14 : decode cX8_judge 14 = .ok (.istore_n 3, 1) := by decide +kernel
theorem dX8_judge_15 : decode cX8_judge 15 = .ok (.iconst 0, 1) := by decide +kernel
theorem dX8_judge_16 : decode cX8_judge 16 = .ok (.istore 4, 2) := by decide +kernel
theorem dX8_judge_18 : decode cX8_judge 18 = .ok (.iload 4, 2) := by decide +kernel
theorem dX8_judge_20 : decode cX8_judge 20 = .ok (.iload_n 1, 1) := by decide +kernel
theorem dX8_judge_21 : decode cX8_judge 21 = .ok (.if_icmp .ge 14, 3) := by decide +kernel
theorem dX8_judge_24 : decode cX8_judge 24 = .ok (.iload_n 3, 1) := by decide +kernel
theorem dX8_judge_25 : decode cX8_judge 25 = .ok (.bipush 100, 2) := by decide +kernel
theorem dX8_judge_27 : decode cX8_judge 27 = .ok (.imul, 1) := by decide +kernel
theorem dX8_judge_28 : decode cX8_judge 28 = .ok (.istore_n 3, 1) := by decide +kernel
theorem dX8_judge_29 : decode cX8_judge 29 = .ok (.iinc 4 1, 3) := by decide +kernel
theorem dX8_judge_32 : decode cX8_judge 32 = .ok (.goto (-14), 3) := by decide +kernel
theorem dX8_judge_35 : decode cX8_judge 35 = .ok (.iload_n 2, 1) := by decide +kernel
theorem dX8_judge_36 : decode cX8_judge 36 = .ok (.ifCond .lt 8, 3) := by decide +kernel
theorem dX8_judge_39 : decode cX8_judge 39 = .ok (.iload_n 2, 1) := by decide +kernel
theorem dX8_judge_40 : decode cX8_judge 40 = .ok (.iload_n 3, 1) := by decide +kernel
theorem dX8_judge_41 : decode cX8_judge 41 = .ok (.if_icmp .lt 6, 3) := by decide +kernel
theorem dX8_judge_44 : decode cX8_judge 44 = .ok (.bipush (-2), 2) := by decide +kernel
theorem dX8_judge_46 : decode cX8_judge 46 = .ok (.ireturn, 1) := by decide +kernel
theorem dX8_judge_47 : decode cX8_judge 47 = .ok (.aload_n 0, 1) := by decide +kernel
theorem dX8_judge_48 : decode cX8_judge 48 = .ok (.getfield 35, 3) := by decide +kernel
theorem dX8_judge_51 : decode cX8_judge 51 = .ok (.aload_n 0, 1) := by decide +kernel
theorem dX8_judge_52 : decode cX8_judge 52 = .ok (.getfield 31, 3) := by decide +kernel
theorem dX8_judge_55 : decode cX8_judge 55 = .ok (.invokevirtual 249, 3) := by decide +kernel
theorem dX8_judge_58 : decode cX8_judge 58 = .ok (.iload_n 3, 1) := by decide +kernel
theorem dX8_judge_59 : decode cX8_judge 59 = .ok (.bipush 100, 2) := by decide +kernel
theorem dX8_judge_61 : decode cX8_judge 61 = .ok (.idiv, 1) := by decide +kernel
theorem dX8_judge_62 : decode cX8_judge 62 = .ok (.istore 4, 2) := by decide +kernel
theorem dX8_judge_64 : decode cX8_judge 64 = .ok (.iconst 0, 1) := by decide +kernel
theorem dX8_judge_65 : decode cX8_judge 65 = .ok (.istore 5, 2) := by decide +kernel
theorem dX8_judge_67 : decode cX8_judge 67 = .ok (.iload 5, 2) := by decide +kernel
theorem dX8_judge_69 : decode cX8_judge 69 = .ok (.iload_n 1, 1) := by decide +kernel
theorem dX8_judge_70 : decode cX8_judge 70 = .ok (.if_icmp .ge 53, 3) := by decide +kernel
theorem dX8_judge_73 : decode cX8_judge 73 = .ok (.iload 4, 2) := by decide +kernel
theorem dX8_judge_75 : decode cX8_judge 75 = .ok (.ifCond .le 48, 3) := by decide +kernel
theorem dX8_judge_78 : decode cX8_judge 78 = .ok (.iload_n 2, 1) := by decide +kernel
theorem dX8_judge_79 : decode cX8_judge 79 = .ok (.iload 4, 2) := by decide +kernel
theorem dX8_judge_81 : decode cX8_judge 81 = .ok (.idiv, 1) := by decide +kernel
theorem dX8_judge_82 : decode cX8_judge 82 = .ok (.bipush 100, 2) := by decide +kernel
theorem dX8_judge_84 : decode cX8_judge 84 = .ok (.irem, 1) := by decide +kernel
theorem dX8_judge_85 : decode cX8_judge 85 = .ok (.istore 6, 2) := by decide +kernel
theorem dX8_judge_87 : decode cX8_judge 87 = .ok (.aload_n 0, 1) := by decide +kernel
theorem dX8_judge_88 : decode cX8_judge 88 = .ok (.getfield 35, 3) := by decide +kernel
theorem dX8_judge_91 : decode cX8_judge 91 = .ok (.iload 6, 2) := by decide +kernel
theorem dX8_judge_93 : decode cX8_judge 93 = .ok (.bipush 10, 2) := by decide +kernel
theorem dX8_judge_95 : decode cX8_judge 95 = .ok (.idiv, 1) := by decide +kernel
theorem dX8_judge_96 : decode cX8_judge 96 = .ok (.iload 6, 2) := by decide +kernel
theorem dX8_judge_98 : decode cX8_judge 98 = .ok (.bipush 10, 2) := by decide +kernel
theorem dX8_judge_100 : decode cX8_judge 100 = .ok (.irem, 1) := by decide +kernel
theorem dX8_judge_101 : decode cX8_judge 101 = .ok (.invokevirtual 252, 3) := by decide +kernel
theorem dX8_judge_104 : decode cX8_judge 104 = .ok (.ifCond .ne 6, 3) := by decide +kernel
theorem dX8_judge_107 : decode cX8_judge 107 = .ok (.iload 5, 2) := by decide +kernel
theorem dX8_judge_109 : decode cX8_judge 109 = .ok (.ireturn, 1) := by decide +kernel
theorem dX8_judge_110 : decode cX8_judge 110 = .ok (.iload 4, 2) := by decide +kernel
theorem dX8_judge_112 : decode cX8_judge 112 = .ok (.bipush 100, 2) := by decide +kernel
theorem dX8_judge_114 : decode cX8_judge 114 = .ok (.idiv, 1) := by decide +kernel
theorem dX8_judge_115 : decode cX8_judge 115 = .ok (.istore 4, 2) := by decide +kernel
theorem dX8_judge_117 : decode cX8_judge 117 = .ok (.iinc 5 1, 3) := by decide +kernel
theorem dX8_judge_120 : decode cX8_judge 120 = .ok (.goto (-53), 3) := by decide +kernel
theorem dX8_judge_123 : decode cX8_judge 123 = .ok (.bipush (-9), 2) := by decide +kernel
theorem dX8_judge_125 : decode cX8_judge 125 = .ok (.ireturn, 1) := by decide +kernel
theorem dX8_share_0 : decode cX8_share 0 = .ok (.aload_n 0, 1) := by decide +kernel
theorem dX8_share_1 : decode cX8_share 1 = .ok (.iload_n 1, 1) := by decide +kernel
theorem dX8_share_2 : decode cX8_share 2 = .ok (.invokevirtual 160, 3) := by decide +kernel
theorem dX8_share_5 : decode cX8_share 5 = .ok (.ifCond .ne 5, 3) := by decide +kernel
theorem dX8_share_8 : decode cX8_share 8 = .ok (.iconst (-1), 1) := by decide +kernel
theorem dX8_share_9 : decode cX8_share 9 = .ok (.ireturn, 1) := by decide +kernel
theorem dX8_share_10 : decode cX8_share 10 = .ok (.iload_n 2, 1) := by decide +kernel
theorem dX8_share_11 : decode cX8_share 11 = .ok (.invokestatic 172, 3) := by decide +kernel
theorem dX8_share_14 : decode cX8_share 14 = .ok (.ifCond .ne 6, 3) := by decide +kernel
theorem dX8_share_17 : decode cX8_share 17 = .ok (.bipush (-2), 2) := by decide +kernel
theorem dX8_share_19 : decode cX8_share 19 = .ok (.ireturn, 1) := by decide +kernel
theorem dX8_share_20 : decode cX8_share 20 = .ok (.aload_n 0, 1) := by decide +kernel
theorem dX8_share_21 : decode cX8_share 21 = .ok (.invokevirtual 122, 3) := by decide +kernel
theorem dX8_share_24 : decode cX8_share 24 = .ok (.pop, 1) := by decide +kernel
theorem dX8_share_25 : decode cX8_share 25 = .ok (.iconst 0, 1) := by decide +kernel
theorem dX8_share_26 : decode cX8_share 26 = .ok (.istore 4, 2) := by decide +kernel
theorem dX8_share_28 : decode cX8_share 28 = .ok (.iconst 0, 1) := by decide +kernel
theorem dX8_share_29 : decode cX8_share 29 = .ok (.istore 5, 2) := by decide +kernel
theorem dX8_share_31 : decode cX8_share 31 = .ok (.iload 5, 2) := by decide +kernel
theorem dX8_share_33 : decode cX8_share 33 = .ok (.iconst 1, 1) := by decide +kernel
theorem dX8_share_34 : decode cX8_share 34 = .ok (.aload_n 0, 1) := by decide +kernel
theorem dX8_share_35 : decode cX8_share 35 = .ok (.getfield 19, 3) := by decide +kernel
theorem dX8_share_38 : decode cX8_share 38 = .ok (.getfield 106, 3) := by decide +kernel
theorem dX8_share_41 : decode cX8_share 41 = .ok (.ishl, 1) := by decide +kernel
theorem dX8_share_42 : decode cX8_share 42 = .ok (.if_icmp .ge 68, 3) := by decide +kernel
theorem dX8_share_45 : decode cX8_share 45 = .ok (.iload 5, 2) := by decide +kernel
theorem dX8_share_47 : decode cX8_share 47 = .ok (.iload_n 1, 1) := by decide +kernel
theorem dX8_share_48 : decode cX8_share 48 = .ok (.ishr, 1) := by decide +kernel
theorem dX8_share_49 : decode cX8_share 49 = .ok (.iconst 1, 1) := by decide +kernel
theorem dX8_share_50 : decode cX8_share 50 = .ok (.iand, 1) := by decide +kernel
theorem dX8_share_51 : decode cX8_share 51 = .ok (.ifCond .ne 53, 3) := by decide +kernel
theorem dX8_share_54 : decode cX8_share 54 = .ok (.aload_n 0, 1) := by decide +kernel
theorem dX8_share_55 : decode cX8_share 55 = .ok (.getfield 56, 3) := by decide +kernel
theorem dX8_share_58 : decode cX8_share 58 = .ok (.iload_n 2, 1) := by decide +kernel
theorem dX8_share_59 : decode cX8_share 59 = .ok (.iload 5, 2) := by decide +kernel
theorem dX8_share_61 : decode cX8_share 61 = .ok (.iconst 1, 1) := by decide +kernel
theorem dX8_share_62 : decode cX8_share 62 = .ok (.iload_n 1, 1) := by decide +kernel
theorem dX8_share_63 : decode cX8_share 63 = .ok (.ishl, 1) := by decide +kernel
theorem dX8_share_64 : decode cX8_share 64 = .ok (.ior, 1) := by decide +kernel
theorem dX8_share_65 : decode cX8_share 65 = .ok (.invokevirtual 179, 3) := by decide +kernel
theorem dX8_share_68 : decode cX8_share 68 = .ok (.invokestatic 255, 3) := by decide +kernel
theorem dX8_share_71 : decode cX8_share 71 = .ok (.aload_n 0, 1) := by decide +kernel
theorem dX8_share_72 : decode cX8_share 72 = .ok (.getfield 56, 3) := by decide +kernel
theorem dX8_share_75 : decode cX8_share 75 = .ok (.iload_n 2, 1) := by decide +kernel
theorem dX8_share_76 : decode cX8_share 76 = .ok (.iload 5, 2) := by decide +kernel
theorem dX8_share_78 : decode cX8_share 78 = .ok (.invokevirtual 179, 3) := by decide +kernel
theorem dX8_share_81 : decode cX8_share 81 = .ok (.invokestatic 255, 3) := by decide +kernel
theorem dX8_share_84 : decode cX8_share 84 = .ok (.isub, 1) := by decide +kernel
theorem dX8_share_85 : decode cX8_share 85 = .ok (.istore 6, 2) := by decide +kernel
theorem dX8_share_87 : decode cX8_share 87 = .ok (.iload 4, 2) := by decide +kernel
theorem dX8_share_89 : decode cX8_share 89 = .ok (.iload 6, 2) := by decide +kernel
theorem dX8_share_91 : decode cX8_share 91 = .ok (.aload_n 0, 1) := by decide +kernel
theorem dX8_share_92 : decode cX8_share 92 = .ok (.iload 5, 2) := by decide +kernel
theorem dX8_share_94 : decode cX8_share 94 = .ok (.invokestatic 255, 3) := by decide +kernel
theorem dX8_share_97 : decode cX8_share 97 = .ok (.invokevirtual 260, 3) := by decide +kernel
theorem dX8_share_100 : decode cX8_share 100 = .ok (.imul, 1) := by decide +kernel
theorem dX8_share_101 : decode cX8_share 101 = .ok (.iadd, 1) := by decide +kernel
theorem dX8_share_102 : decode cX8_share 102 = .ok (.istore 4, 2) := by decide +kernel
theorem dX8_share_104 : decode cX8_share 104 = .ok (.iinc 5 1, 3) := by decide +kernel
theorem dX8_share_107 : decode cX8_share 107 = .ok (.goto (-76), 3) := by decide +kernel
theorem dX8_share_110 : decode cX8_share 110 = .ok (.iload 4, 2) := by decide +kernel
theorem dX8_share_112 : decode cX8_share 112 = .ok (.getstatic 263, 3) := by decide +kernel
theorem dX8_share_115 : decode cX8_share 115 = .ok (.aload_n 0, 1) := by decide +kernel
theorem dX8_share_116 : decode cX8_share 116 = .ok (.getfield 19, 3) := by decide +kernel
theorem dX8_share_119 : decode cX8_share 119 = .ok (.getfield 106, 3) := by decide +kernel
theorem dX8_share_122 : decode cX8_share 122 = .ok (.iaload, 1) := by decide +kernel
theorem dX8_share_123 : decode cX8_share 123 = .ok (.iload_n 3, 1) := by decide +kernel
theorem dX8_share_124 : decode cX8_share 124 = .ok (.invokestatic 266, 3) := by decide +kernel
theorem dX8_share_127 : decode cX8_share 127 = .ok (.ireturn, 1) := by decide +kernel
theorem dX8_see_0 : decode cX8_see 0 = .ok (.aload_n 0, 1) := by decide +kernel
theorem dX8_see_1 : decode cX8_see 1 = .ok (.iload_n 1, 1) := by decide +kernel
theorem dX8_see_2 : decode cX8_see 2 = .ok (.invokevirtual 160, 3) := by decide +kernel
theorem dX8_see_5 : decode cX8_see 5 = .ok (.ifCond .ne 5, 3) := by decide +kernel
theorem dX8_see_8 : decode cX8_see 8 = .ok (.iconst (-1), 1) := by decide +kernel
theorem dX8_see_9 : decode cX8_see 9 = .ok (.ireturn, 1) := by decide +kernel
theorem dX8_see_10 : decode cX8_see 10 = .ok (.iload_n 2, 1) := by decide +kernel
theorem dX8_see_11 : decode cX8_see 11 = .ok (.ifCond .lt 8, 3) := by decide +kernel
theorem dX8_see_14 : decode cX8_see 14 = .ok (.iload_n 2, 1) := by decide +kernel
theorem dX8_see_15 : decode cX8_see 15 = .ok (.iconst 2, 1) := by decide +kernel
theorem dX8_see_16 : decode cX8_see 16 = .ok (.if_icmp .le 6, 3) := by decide +kernel
theorem dX8_see_19 : decode cX8_see 19 = .ok (.bipush (-2), 2) := by decide +kernel
theorem dX8_see_21 : decode cX8_see 21 = .ok (.ireturn, 1) := by decide +kernel
theorem dX8_see_22 : decode cX8_see 22 = .ok (.aload_n 0, 1) := by decide +kernel
theorem dX8_see_23 : decode cX8_see 23 = .ok (.getfield 63, 3) := by decide +kernel
theorem dX8_see_26 : decode cX8_see 26 = .ok (.iload_n 1, 1) := by decide +kernel
theorem dX8_see_27 : decode cX8_see 27 = .ok (.iload_n 2, 1) := by decide +kernel
theorem dX8_see_28 : decode cX8_see 28 = .ok (.invokevirtual 270, 3) := by decide +kernel
theorem dX8_see_31 : decode cX8_see 31 = .ok (.ifCond .eq 13, 3) := by decide +kernel
theorem dX8_see_34 : decode cX8_see 34 = .ok (.aload_n 0, 1) := by decide +kernel
theorem dX8_see_35 : decode cX8_see 35 = .ok (.getfield 63, 3) := by decide +kernel
theorem dX8_see_38 : decode cX8_see 38 = .ok (.getfield 135, 3) := by decide +kernel
theorem dX8_see_41 : decode cX8_see 41 = .ok (.goto 5, 3) := by decide +kernel
theorem dX8_see_44 : decode cX8_see 44 = .ok (.bipush (-4), 2) := by decide +kernel
theorem dX8_see_46 : decode cX8_see 46 = .ok (.ireturn, 1) := by decide +kernel
theorem dX8_unsee_0 : decode cX8_unsee 0 = .ok (.aload_n 0, 1) := by decide +kernel
theorem dX8_unsee_1 : decode cX8_unsee 1 = .ok (.getfield 63, 3) := by decide +kernel
theorem dX8_unsee_4 : decode cX8_unsee 4 = .ok (.getfield 135, 3) := by decide +kernel
theorem dX8_unsee_7 : decode cX8_unsee 7 = .ok (.istore_n 1, 1) := by decide +kernel
theorem dX8_unsee_8 : decode cX8_unsee 8 = .ok (.aload_n 0, 1) := by decide +kernel
theorem dX8_unsee_9 : decode cX8_unsee 9 = .ok (.getfield 63, 3) := by decide +kernel
theorem dX8_unsee_12 : decode cX8_unsee 12 = .ok (.iconst 0, 1) := by decide +kernel
theorem dX8_unsee_13 : decode cX8_unsee 13 = .ok (.putfield 135, 3) := by decide +kernel
theorem dX8_unsee_16 : decode cX8_unsee 16 = .ok (.iload_n 1, 1) := by decide +kernel
theorem dX8_unsee_17 : decode cX8_unsee 17 = .ok (.ireturn, 1) := by decide +kernel
theorem dX8_traces_0 : decode cX8_traces 0 = .ok (.iload_n 1, 1) := by decide +kernel
theorem dX8_traces_1 : decode cX8_traces 1 = .ok (.ifCond .eq 11, 3) := by decide +kernel
theorem dX8_traces_4 : decode cX8_traces 4 = .ok (.iload_n 1, 1) := by decide +kernel
theorem dX8_traces_5 : decode cX8_traces 5 = .ok (.iconst 1, 1) := by decide +kernel
theorem dX8_traces_6 : decode cX8_traces 6 = .ok (.if_icmp .eq 6, 3) := by decide +kernel
theorem dX8_traces_9 : decode cX8_traces 9 = .ok (.bipush (-2), 2) := by decide +kernel
theorem dX8_traces_11 : decode cX8_traces 11 = .ok (.ireturn, 1) := by decide +kernel
theorem dX8_traces_12 : decode cX8_traces 12 = .ok (.aload_n 0, 1) := by decide +kernel
theorem dX8_traces_13 : decode cX8_traces 13 = .ok (.getfield 77, 3) := by decide +kernel
theorem dX8_traces_16 : decode cX8_traces 16 = .ok (.invokevirtual 200, 3) := by decide +kernel
theorem dX8_traces_19 : decode cX8_traces 19 = .ok (.aload_n 0, 1) := by decide +kernel
theorem dX8_traces_20 : decode cX8_traces 20 = .ok (.getfield 70, 3) := by decide +kernel
theorem dX8_traces_23 : decode cX8_traces 23 = .ok (.aload_n 0, 1) := by decide +kernel
theorem dX8_traces_24 : decode cX8_traces 24 = .ok (.getfield 19, 3) := by decide +kernel
theorem dX8_traces_27 : decode cX8_traces 27 = .ok (.getfield 103, 3) := by decide +kernel
theorem dX8_traces_30 : decode cX8_traces 30 = .ok (.invokevirtual 201, 3) := by decide +kernel
theorem dX8_traces_33 : decode cX8_traces 33 = .ok (.iconst 0, 1) := by decide +kernel
theorem dX8_traces_34 : decode cX8_traces 34 = .ok (.istore_n 2, 1) := by decide +kernel
theorem dX8_traces_35 : decode cX8_traces 35 = .ok (.iload_n 2, 1) := by decide +kernel
theorem dX8_traces_36 : decode cX8_traces 36 = .ok (.sipush 7776, 3) := by decide +kernel
theorem dX8_traces_39 : decode cX8_traces 39 = .ok (.if_icmp .ge 83, 3) := by decide +kernel
theorem dX8_traces_42 : decode cX8_traces 42 = .ok (.aload_n 0, 1) := by decide +kernel
theorem dX8_traces_43 : decode cX8_traces 43 = .ok (.getfield 70, 3) := by decide +kernel
theorem dX8_traces_46 : decode cX8_traces 46 = .ok (.getfield 204, 3) := by decide +kernel
theorem dX8_traces_49 : decode cX8_traces 49 = .ok (.ifCond .eq 73, 3) := by decide +kernel
theorem dX8_traces_52 : decode cX8_traces 52 = .ok (.aload_n 0, 1) := by decide +kernel
theorem dX8_traces_53 : decode cX8_traces 53 = .ok (.getfield 56, 3) := by decide +kernel
theorem dX8_traces_56 : decode cX8_traces 56 = .ok (.aload_n 0, 1) := by decide +kernel
theorem dX8_traces_57 : decode cX8_traces 57 = .ok (.getfield 31, 3) := by decide +kernel
theorem dX8_traces_60 : decode cX8_traces 60 = .ok (.getfield 139, 3) := by decide +kernel
theorem dX8_traces_63 : decode cX8_traces 63 = .ok (.aload_n 0, 1) := by decide +kernel
theorem dX8_traces_64 : decode cX8_traces 64 = .ok (.getfield 70, 3) := by decide +kernel
theorem dX8_traces_67 : decode cX8_traces 67 = .ok (.getfield 208, 3) := by decide +kernel
theorem dX8_traces_70 : decode cX8_traces 70 = .ok (.invokevirtual 209, 3) := by decide +kernel
theorem dX8_traces_73 : decode cX8_traces 73 = .ok (.aload_n 0, 1) := by decide +kernel
theorem dX8_traces_74 : decode cX8_traces 74 = .ok (.getfield 63, 3) := by decide +kernel
theorem dX8_traces_77 : decode cX8_traces 77 = .ok (.aload_n 0, 1) := by decide +kernel
theorem dX8_traces_78 : decode cX8_traces 78 = .ok (.getfield 56, 3) := by decide +kernel
theorem dX8_traces_81 : decode cX8_traces 81 = .ok (.aload_n 0, 1) := by decide +kernel
theorem dX8_traces_82 : decode cX8_traces 82 = .ok (.getfield 19, 3) := by decide +kernel
theorem dX8_traces_85 : decode cX8_traces 85 = .ok (.getfield 106, 3) := by decide +kernel
theorem dX8_traces_88 : decode cX8_traces 88 = .ok (.invokevirtual 272, 3) := by decide +kernel
theorem dX8_traces_91 : decode cX8_traces 91 = .ok (.ifCond .eq 18, 3) := by decide +kernel
theorem dX8_traces_94 : decode cX8_traces 94 = .ok (.aload_n 0, 1) := by decide +kernel
theorem dX8_traces_95 : decode cX8_traces 95 = .ok (.getfield 77, 3) := by decide +kernel
theorem dX8_traces_98 : decode cX8_traces 98 = .ok (.iconst 0, 1) := by decide +kernel
theorem dX8_traces_99 : decode cX8_traces 99 = .ok (.aload_n 0, 1) := by decide +kernel
theorem dX8_traces_100 : decode cX8_traces 100 = .ok (.getfield 70, 3) := by decide +kernel
theorem dX8_traces_103 : decode cX8_traces 103 = .ok (.invokevirtual 219, 3) := by decide +kernel
theorem dX8_traces_106 : decode cX8_traces 106 = .ok (.invokevirtual 222, 3) := by decide +kernel
theorem dX8_traces_109 : decode cX8_traces 109 = .ok (.aload_n 0, 1) := by decide +kernel
theorem dX8_traces_110 : decode cX8_traces 110 = .ok (.getfield 70, 3) := by decide +kernel
theorem dX8_traces_113 : decode cX8_traces 113 = .ok (.invokevirtual 226, 3) := by decide +kernel
theorem dX8_traces_116 : decode cX8_traces 116 = .ok (.iinc 2 1, 3) := by decide +kernel
theorem dX8_traces_119 : decode cX8_traces 119 = .ok (.goto (-84), 3) := by decide +kernel
theorem dX8_traces_122 : decode cX8_traces 122 = .ok (.iload_n 1, 1) := by decide +kernel
theorem dX8_traces_123 : decode cX8_traces 123 = .ok (.ifCond .ne 13, 3) := by decide +kernel
theorem dX8_traces_126 : decode cX8_traces 126 = .ok (.aload_n 0, 1) := by decide +kernel
theorem dX8_traces_127 : decode cX8_traces 127 = .ok (.getfield 77, 3) := by decide +kernel
theorem dX8_traces_130 : decode cX8_traces 130 = .ok (.getfield 248, 3) := by decide +kernel
theorem dX8_traces_133 : decode cX8_traces 133 = .ok (.goto 10, 3) := by decide +kernel
theorem dX8_traces_136 : decode cX8_traces 136 = .ok (.aload_n 0, 1) := by decide +kernel
theorem dX8_traces_137 : decode cX8_traces 137 = .ok (.getfield 77, 3) := by decide +kernel
theorem dX8_traces_140 : decode cX8_traces 140 = .ok (.getfield 229, 3) := by decide +kernel
theorem dX8_traces_143 : decode cX8_traces 143 = .ok (.ireturn, 1) := by decide +kernel
theorem dX8_rests_0 : decode cX8_rests 0 = .ok (.iload_n 1, 1) := by decide +kernel
theorem dX8_rests_1 : decode cX8_rests 1 = .ok (.ifCond .eq 11, 3) := by decide +kernel
theorem dX8_rests_4 : decode cX8_rests 4 = .ok (.iload_n 1, 1) := by decide +kernel
theorem dX8_rests_5 : decode cX8_rests 5 = .ok (.iconst 1, 1) := by decide +kernel
theorem dX8_rests_6 : decode cX8_rests 6 = .ok (.if_icmp .eq 6, 3) := by decide +kernel
theorem dX8_rests_9 : decode cX8_rests 9 = .ok (.bipush (-2), 2) := by decide +kernel
theorem dX8_rests_11 : decode cX8_rests 11 = .ok (.ireturn, 1) := by decide +kernel
theorem dX8_rests_12 : decode cX8_rests 12 = .ok (.aload_n 0, 1) := by decide +kernel
theorem dX8_rests_13 : decode cX8_rests 13 = .ok (.getfield 77, 3) := by decide +kernel
theorem dX8_rests_16 : decode cX8_rests 16 = .ok (.invokevirtual 200, 3) := by decide +kernel
theorem dX8_rests_19 : decode cX8_rests 19 = .ok (.iconst 0, 1) := by decide +kernel
theorem dX8_rests_20 : decode cX8_rests 20 = .ok (.istore_n 2, 1) := by decide +kernel
theorem dX8_rests_21 : decode cX8_rests 21 = .ok (.iload_n 2, 1) := by decide +kernel
theorem dX8_rests_22 : decode cX8_rests 22 = .ok (.iconst 1, 1) := by decide +kernel
theorem dX8_rests_23 : decode cX8_rests 23 = .ok (.if_icmp .gt 45, 3) := by decide +kernel
theorem dX8_rests_26 : decode cX8_rests 26 = .ok (.iconst 0, 1) := by decide +kernel
theorem dX8_rests_27 : decode cX8_rests 27 = .ok (.istore_n 3, 1) := by decide +kernel
theorem dX8_rests_28 : decode cX8_rests 28 = .ok (.iload_n 3, 1) := by decide +kernel
theorem dX8_rests_29 : decode cX8_rests 29 = .ok (.iconst 1, 1) := by decide +kernel
theorem dX8_rests_30 : decode cX8_rests 30 = .ok (.if_icmp .gt 32, 3) := by decide +kernel
theorem dX8_rests_33 : decode cX8_rests 33 = .ok (.aload_n 0, 1) := by decide +kernel
theorem dX8_rests_34 : decode cX8_rests 34 = .ok (.iload_n 2, 1) := by decide +kernel
theorem dX8_rests_35 : decode cX8_rests 35 = .ok (.iload_n 3, 1) := by decide +kernel
theorem dX8_rests_36 : decode cX8_rests 36 = .ok (.invokevirtual 276, 3) := by decide +kernel
theorem dX8_rests_39 : decode cX8_rests 39 = .ok (.ifCond .eq 17, 3) := by decide +kernel
theorem dX8_rests_42 : decode cX8_rests 42 = .ok (.aload_n 0, 1) := by decide +kernel
theorem dX8_rests_43 : decode cX8_rests 43 = .ok (.getfield 77, 3) := by decide +kernel
theorem dX8_rests_46 : decode cX8_rests 46 = .ok (.iconst 0, 1) := by decide +kernel
theorem dX8_rests_47 : decode cX8_rests 47 = .ok (.bipush 10, 2) := by decide +kernel
theorem dX8_rests_49 : decode cX8_rests 49 = .ok (.iload_n 2, 1) := by decide +kernel
theorem dX8_rests_50 : decode cX8_rests 50 = .ok (.imul, 1) := by decide +kernel
theorem dX8_rests_51 : decode cX8_rests 51 = .ok (.iload_n 3, 1) := by decide +kernel
theorem dX8_rests_52 : decode cX8_rests 52 = .ok (.iadd, 1) := by decide +kernel
theorem dX8_rests_53 : decode cX8_rests 53 = .ok (.invokevirtual 222, 3) := by decide +kernel
theorem dX8_rests_56 : decode cX8_rests 56 = .ok (.iinc 3 1, 3) := by decide +kernel
theorem dX8_rests_59 : decode cX8_rests 59 = .ok (.goto (-31), 3) := by decide +kernel
theorem dX8_rests_62 : decode cX8_rests 62 = .ok (.iinc 2 1, 3) := by decide +kernel
theorem dX8_rests_65 : decode cX8_rests 65 = .ok (.goto (-44), 3) := by decide +kernel
theorem dX8_rests_68 : decode cX8_rests 68 = .ok (.iload_n 1, 1) := by decide +kernel
theorem dX8_rests_69 : decode cX8_rests 69 = .ok (.ifCond .ne 13, 3) := by decide +kernel
theorem dX8_rests_72 : decode cX8_rests 72 = .ok (.aload_n 0, 1) := by decide +kernel
theorem dX8_rests_73 : decode cX8_rests 73 = .ok (.getfield 77, 3) := by decide +kernel
theorem dX8_rests_76 : decode cX8_rests 76 = .ok (.getfield 248, 3) := by decide +kernel
theorem dX8_rests_79 : decode cX8_rests 79 = .ok (.goto 10, 3) := by decide +kernel
theorem dX8_rests_82 : decode cX8_rests 82 = .ok (.aload_n 0, 1) := by decide +kernel
theorem dX8_rests_83 : decode cX8_rests 83 = .ok (.getfield 77, 3) := by decide +kernel
theorem dX8_rests_86 : decode cX8_rests 86 = .ok (.getfield 229, 3) := by decide +kernel
theorem dX8_rests_89 : decode cX8_rests 89 = .ok (.ireturn, 1) := by decide +kernel
theorem dX8_slips_0 : decode cX8_slips 0 = .ok (.aload_n 0, 1) := by decide +kernel
theorem dX8_slips_1 : decode cX8_slips 1 = .ok (.iload_n 1, 1) := by decide +kernel
theorem dX8_slips_2 : decode cX8_slips 2 = .ok (.invokevirtual 235, 3) := by decide +kernel
theorem dX8_slips_5 : decode cX8_slips 5 = .ok (.ifCond .ne 5, 3) := by decide +kernel
theorem dX8_slips_8 : decode cX8_slips 8 = .ok (.iconst (-1), 1) := by decide +kernel
theorem dX8_slips_9 : decode cX8_slips 9 = .ok (.ireturn, 1) := by decide +kernel
theorem dX8_slips_10 : decode cX8_slips 10 = .ok (.iload_n 2, 1) := by decide +kernel
theorem dX8_slips_11 : decode cX8_slips 11 = .ok (.invokestatic 172, 3) := by decide +kernel
theorem dX8_slips_14 : decode cX8_slips 14 = .ok (.ifCond .eq 13, 3) := by decide +kernel
theorem dX8_slips_17 : decode cX8_slips 17 = .ok (.iload_n 3, 1) := by decide +kernel
theorem dX8_slips_18 : decode cX8_slips 18 = .ok (.ifCond .lt 9, 3) := by decide +kernel
theorem dX8_slips_21 : decode cX8_slips 21 = .ok (.iload_n 3, 1) := by decide +kernel
theorem dX8_slips_22 : decode cX8_slips 22 = .ok (.bipush 10, 2) := by decide +kernel
theorem dX8_slips_24 : decode cX8_slips 24 = .ok (.if_icmp .le 6, 3) := by decide +kernel
theorem dX8_slips_27 : decode cX8_slips 27 = .ok (.bipush (-2), 2) := by decide +kernel
theorem dX8_slips_29 : decode cX8_slips 29 = .ok (.ireturn, 1) := by decide +kernel
theorem dX8_slips_30 : decode cX8_slips 30 = .ok (.aload_n 0, 1) := by decide +kernel
theorem dX8_slips_31 : decode cX8_slips 31 = .ok (.getfield 35, 3) := by decide +kernel
theorem dX8_slips_34 : decode cX8_slips 34 = .ok (.aload_n 0, 1) := by decide +kernel
theorem dX8_slips_35 : decode cX8_slips 35 = .ok (.getfield 31, 3) := by decide +kernel
theorem dX8_slips_38 : decode cX8_slips 38 = .ok (.invokevirtual 249, 3) := by decide +kernel
theorem dX8_slips_41 : decode cX8_slips 41 = .ok (.iconst 0, 1) := by decide +kernel
theorem dX8_slips_42 : decode cX8_slips 42 = .ok (.istore 5, 2) := by decide +kernel
theorem dX8_slips_44 : decode cX8_slips 44 = .ok (.iconst 1, 1) := by decide +kernel
theorem dX8_slips_45 : decode cX8_slips 45 = .ok (.istore 6, 2) := by decide +kernel
theorem dX8_slips_47 : decode cX8_slips 47 = .ok (.iconst 0, 1) := by decide +kernel
theorem dX8_slips_48 : decode cX8_slips 48 = .ok (.istore 7, 2) := by decide +kernel
theorem dX8_slips_50 : decode cX8_slips 50 = .ok (.iload 7, 2) := by decide +kernel
theorem dX8_slips_52 : decode cX8_slips 52 = .ok (.aload_n 0, 1) := by decide +kernel
theorem dX8_slips_53 : decode cX8_slips 53 = .ok (.getfield 19, 3) := by decide +kernel
theorem dX8_slips_56 : decode cX8_slips 56 = .ok (.getfield 103, 3) := by decide +kernel
theorem dX8_slips_59 : decode cX8_slips 59 = .ok (.if_icmp .ge 16, 3) := by decide +kernel
theorem dX8_slips_62 : decode cX8_slips 62 = .ok (.iload 6, 2) := by decide +kernel
theorem dX8_slips_64 : decode cX8_slips 64 = .ok (.bipush 10, 2) := by decide +kernel
theorem dX8_slips_66 : decode cX8_slips 66 = .ok (.imul, 1) := by decide +kernel
theorem dX8_slips_67 : decode cX8_slips 67 = .ok (.istore 6, 2) := by decide +kernel
theorem dX8_slips_69 : decode cX8_slips 69 = .ok (.iinc 7 1, 3) := by decide +kernel
theorem dX8_slips_72 : decode cX8_slips 72 = .ok (.goto (-22), 3) := by decide +kernel
theorem dX8_slips_75 : decode cX8_slips 75 = .ok (.iconst 0, 1) := by decide +kernel
theorem dX8_slips_76 : decode cX8_slips 76 = .ok (.istore 7, 2) := by decide +kernel
theorem dX8_slips_78 : decode cX8_slips 78 = .ok (.iload 7, 2) := by decide +kernel
theorem dX8_slips_80 : decode cX8_slips 80 = .ok (.iconst 1, 1) := by decide +kernel
theorem dX8_slips_81 : decode cX8_slips 81 = .ok (.aload_n 0, 1) := by decide +kernel
theorem dX8_slips_82 : decode cX8_slips 82 = .ok (.getfield 19, 3) := by decide +kernel
theorem dX8_slips_85 : decode cX8_slips 85 = .ok (.getfield 103, 3) := by decide +kernel
theorem dX8_slips_88 : decode cX8_slips 88 = .ok (.ishl, 1) := by decide +kernel
theorem dX8_slips_89 : decode cX8_slips 89 = .ok (.if_icmp .ge 130, 3) := by decide +kernel
theorem dX8_slips_92 : decode cX8_slips 92 = .ok (.iconst 1, 1) := by decide +kernel
theorem dX8_slips_93 : decode cX8_slips 93 = .ok (.istore 8, 2) := by decide +kernel
theorem dX8_slips_95 : decode cX8_slips 95 = .ok (.iconst 0, 1) := by decide +kernel
theorem dX8_slips_96 : decode cX8_slips 96 = .ok (.istore 9, 2) := by decide +kernel
theorem dX8_slips_98 : decode cX8_slips 98 = .ok (.iload 9, 2) := by decide +kernel
theorem dX8_slips_100 : decode cX8_slips 100 = .ok (.aload_n 0, 1) := by decide +kernel
theorem dX8_slips_101 : decode cX8_slips 101 = .ok (.getfield 19, 3) := by decide +kernel
theorem dX8_slips_104 : decode cX8_slips 104 = .ok (.getfield 103, 3) := by decide +kernel
theorem dX8_slips_107 : decode cX8_slips 107 = .ok (.if_icmp .ge 64, 3) := by decide +kernel
theorem dX8_slips_110 : decode cX8_slips 110 = .ok (.iload 7, 2) := by decide +kernel
theorem dX8_slips_112 : decode cX8_slips 112 = .ok (.iload 9, 2) := by decide +kernel
theorem dX8_slips_114 : decode cX8_slips 114 = .ok (.ishr, 1) := by decide +kernel
theorem dX8_slips_115 : decode cX8_slips 115 = .ok (.iconst 1, 1) := by decide +kernel
theorem dX8_slips_116 : decode cX8_slips 116 = .ok (.iand, 1) := by decide +kernel
theorem dX8_slips_117 : decode cX8_slips 117 = .ok (.istore 10, 2) := by decide +kernel
theorem dX8_slips_119 : decode cX8_slips 119 = .ok (.aload_n 0, 1) := by decide +kernel
theorem dX8_slips_120 : decode cX8_slips 120 = .ok (.getfield 35, 3) := by decide +kernel
theorem dX8_slips_123 : decode cX8_slips 123 = .ok (.getfield 143, 3) := by decide +kernel
theorem dX8_slips_126 : decode cX8_slips 126 = .ok (.iload 9, 2) := by decide +kernel
theorem dX8_slips_128 : decode cX8_slips 128 = .ok (.iconst 5, 1) := by decide +kernel
theorem dX8_slips_129 : decode cX8_slips 129 = .ok (.aload_n 0, 1) := by decide +kernel
theorem dX8_slips_130 : decode cX8_slips 130 = .ok (.getfield 31, 3) := by decide +kernel
theorem dX8_slips_133 : decode cX8_slips 133 = .ok (.getfield 143, 3) := by decide +kernel
theorem dX8_slips_136 : decode cX8_slips 136 = .ok (.iload 9, 2) := by decide +kernel
theorem dX8_slips_138 : decode cX8_slips 138 = .ok (.iaload, 1) := by decide +kernel
theorem dX8_slips_139 : decode cX8_slips 139 = .ok (.iload 10, 2) := by decide +kernel
theorem dX8_slips_141 : decode cX8_slips 141 = .ok (.iadd, 1) := by decide +kernel
theorem dX8_slips_142 : decode cX8_slips 142 = .ok (.invokestatic 279, 3) := by decide +kernel
theorem dX8_slips_145 : decode cX8_slips 145 = .ok (.iastore, 1) := by decide +kernel
theorem dX8_slips_146 : decode cX8_slips 146 = .ok (.iload 8, 2) := by decide +kernel
theorem dX8_slips_148 : decode cX8_slips 148 = .ok (.iload 10, 2) := by decide +kernel
theorem dX8_slips_150 : decode cX8_slips 150 = .ok (.iconst 1, 1) := by decide +kernel
theorem dX8_slips_151 : decode cX8_slips 151 = .ok (.if_icmp .ne 7, 3) := by decide +kernel
theorem dX8_slips_154 : decode cX8_slips 154 = .ok (.iload_n 3, 1) := by decide +kernel
theorem dX8_slips_155 : decode cX8_slips 155 = .ok (.goto 7, 3) := by decide +kernel
theorem dX8_slips_158 : decode cX8_slips 158 = .ok (.bipush 10, 2) := by decide +kernel
theorem dX8_slips_160 : decode cX8_slips 160 = .ok (.iload_n 3, 1) := by decide +kernel
theorem dX8_slips_161 : decode cX8_slips 161 = .ok (.isub, 1) := by decide +kernel
theorem dX8_slips_162 : decode cX8_slips 162 = .ok (.imul, 1) := by decide +kernel
theorem dX8_slips_163 : decode cX8_slips 163 = .ok (.istore 8, 2) := by decide +kernel
theorem dX8_slips_165 : decode cX8_slips 165 = .ok (.iinc 9 1, 3) := by decide +kernel
theorem dX8_slips_168 : decode cX8_slips 168 = .ok (.goto (-70), 3) := by decide +kernel
theorem dX8_slips_171 : decode cX8_slips 171 = .ok (.aload_n 0, 1) := by decide +kernel
theorem dX8_slips_172 : decode cX8_slips 172 = .ok (.getfield 56, 3) := by decide +kernel
theorem dX8_slips_175 : decode cX8_slips 175 = .ok (.aload_n 0, 1) := by decide +kernel
theorem dX8_slips_176 : decode cX8_slips 176 = .ok (.getfield 35, 3) := by decide +kernel
theorem dX8_slips_179 : decode cX8_slips 179 = .ok (.getfield 139, 3) := by decide +kernel
theorem dX8_slips_182 : decode cX8_slips 182 = .ok (.aload_n 0, 1) := by decide +kernel
theorem dX8_slips_183 : decode cX8_slips 183 = .ok (.getfield 35, 3) := by decide +kernel
theorem dX8_slips_186 : decode cX8_slips 186 = .ok (.getfield 143, 3) := by decide +kernel
theorem dX8_slips_189 : decode cX8_slips 189 = .ok (.invokevirtual 209, 3) := by decide +kernel
theorem dX8_slips_192 : decode cX8_slips 192 = .ok (.aload_n 0, 1) := by decide +kernel
theorem dX8_slips_193 : decode cX8_slips 193 = .ok (.getfield 56, 3) := by decide +kernel
theorem dX8_slips_196 : decode cX8_slips 196 = .ok (.iload_n 1, 1) := by decide +kernel
theorem dX8_slips_197 : decode cX8_slips 197 = .ok (.iload_n 2, 1) := by decide +kernel
theorem dX8_slips_198 : decode cX8_slips 198 = .ok (.bipush 31, 2) := by decide +kernel
theorem dX8_slips_200 : decode cX8_slips 200 = .ok (.invokevirtual 238, 3) := by decide +kernel
theorem dX8_slips_203 : decode cX8_slips 203 = .ok (.ifCond .eq 10, 3) := by decide +kernel
theorem dX8_slips_206 : decode cX8_slips 206 = .ok (.iload 5, 2) := by decide +kernel
theorem dX8_slips_208 : decode cX8_slips 208 = .ok (.iload 8, 2) := by decide +kernel
theorem dX8_slips_210 : decode cX8_slips 210 = .ok (.iadd, 1) := by decide +kernel
theorem dX8_slips_211 : decode cX8_slips 211 = .ok (.istore 5, 2) := by decide +kernel
theorem dX8_slips_213 : decode cX8_slips 213 = .ok (.iinc 7 1, 3) := by decide +kernel
theorem dX8_slips_216 : decode cX8_slips 216 = .ok (.goto (-138), 3) := by decide +kernel
theorem dX8_slips_219 : decode cX8_slips 219 = .ok (.iload 5, 2) := by decide +kernel
theorem dX8_slips_221 : decode cX8_slips 221 = .ok (.iload 6, 2) := by decide +kernel
theorem dX8_slips_223 : decode cX8_slips 223 = .ok (.iload 4, 2) := by decide +kernel
theorem dX8_slips_225 : decode cX8_slips 225 = .ok (.invokestatic 266, 3) := by decide +kernel
theorem dX8_slips_228 : decode cX8_slips 228 = .ok (.ireturn, 1) := by decide +kernel
theorem dX8_seed_0 : decode cX8_seed 0 = .ok (.aload_n 0, 1) := by decide +kernel
theorem dX8_seed_1 : decode cX8_seed 1 = .ok (.getfield 81, 3) := by decide +kernel
theorem dX8_seed_4 : decode cX8_seed 4 = .ok (.lstore_n 3, 1) := by decide +kernel
theorem dX8_seed_5 : decode cX8_seed 5 = .ok (.aload_n 0, 1) := by decide +kernel
theorem dX8_seed_6 : decode cX8_seed 6 = .ok (.lload_n 1, 1) := by decide +kernel
theorem dX8_seed_7 : decode cX8_seed 7 = .ok (.putfield 81, 3) := by decide +kernel
theorem dX8_seed_10 : decode cX8_seed 10 = .ok (.lload_n 3, 1) := by decide +kernel
theorem dX8_seed_11 : decode cX8_seed 11 = .ok (.lreturn, 1) := by decide +kernel
theorem dX8_years_0 : decode cX8_years 0 = .ok (.iload_n 1, 1) := by decide +kernel
theorem dX8_years_1 : decode cX8_years 1 = .ok (.iconst 1, 1) := by decide +kernel
theorem dX8_years_2 : decode cX8_years 2 = .ok (.if_icmp .lt 9, 3) := by decide +kernel
theorem dX8_years_5 : decode cX8_years 5 = .ok (.iload_n 1, 1) := by decide +kernel
theorem dX8_years_6 : decode cX8_years 6 = .ok (.bipush 30, 2) := by decide +kernel
theorem dX8_years_8 : decode cX8_years 8 = .ok (.if_icmp .le 6, 3) := by decide +kernel
theorem dX8_years_11 : decode cX8_years 11 = .ok (.bipush (-2), 2) := by decide +kernel
theorem dX8_years_13 : decode cX8_years 13 = .ok (.ireturn, 1) := by decide +kernel
theorem dX8_years_14 : decode cX8_years 14 = .ok (.aload_n 0, 1) := by decide +kernel
theorem dX8_years_15 : decode cX8_years 15 = .ok (.getfield 35, 3) := by decide +kernel
theorem dX8_years_18 : decode cX8_years 18 = .ok (.aload_n 0, 1) := by decide +kernel
theorem dX8_years_19 : decode cX8_years 19 = .ok (.getfield 31, 3) := by decide +kernel
theorem dX8_years_22 : decode cX8_years 22 = .ok (.invokevirtual 249, 3) := by decide +kernel
theorem dX8_years_25 : decode cX8_years 25 = .ok (.iconst 0, 1) := by decide +kernel
theorem dX8_years_26 : decode cX8_years 26 = .ok (.istore_n 2, 1) := by decide +kernel
theorem dX8_years_27 : decode cX8_years 27 = .ok (.iconst 0, 1) := by decide +kernel
theorem dX8_years_28 : decode cX8_years 28 = .ok (.istore_n 3, 1) := by decide +kernel
theorem dX8_years_29 : decode cX8_years 29 = .ok (.iload_n 3, 1) := by decide +kernel
theorem dX8_years_30 : decode cX8_years 30 = .ok (.iload_n 1, 1) := by decide +kernel
theorem dX8_years_31 : decode cX8_years 31 = .ok (.if_icmp .ge 103, 3) := by decide +kernel
theorem dX8_years_34 : decode cX8_years 34 = .ok (.aload_n 0, 1) := by decide +kernel
theorem dX8_years_35 : decode cX8_years 35 = .ok (.aload_n 0, 1) := by decide +kernel
theorem dX8_years_36 : decode cX8_years 36 = .ok (.getfield 81, 3) := by decide +kernel
theorem dX8_years_39 : decode cX8_years 39 = .ok (.ldc2_w 284, 3) := by decide +kernel
theorem dX8_years_42 : decode cX8_years 42 = .ok (.lmul, 1) := by decide +kernel
theorem dX8_years_43 : decode cX8_years 43 = .ok (.ldc2_w 286, 3) := by decide +kernel
theorem dX8_years_46 : decode cX8_years 46 = .ok (.ladd, 1) := by decide +kernel
theorem dX8_years_47 : decode cX8_years 47 = .ok (.putfield 81, 3) := by decide +kernel
theorem dX8_years_50 : decode cX8_years 50 = .ok (.aload_n 0, 1) := by decide +kernel
theorem dX8_years_51 : decode cX8_years 51 = .ok (.getfield 81, 3) := by decide +kernel
theorem dX8_years_54 : decode cX8_years 54 = .ok (.bipush 33, 2) := by decide +kernel
theorem dX8_years_56 : decode cX8_years 56 = .ok (.lushr, 1) := by decide +kernel
theorem dX8_years_57 : decode cX8_years 57 = .ok (.ldc2_w 288, 3) := by decide +kernel
theorem dX8_years_60 : decode cX8_years 60 = .ok (.lrem, 1) := by decide +kernel
theorem dX8_years_61 : decode cX8_years 61 = .ok (.l2i, 1) := by decide +kernel
theorem dX8_years_62 : decode cX8_years 62 = .ok (.istore 4, 2) := by decide +kernel
theorem dX8_years_64 : decode cX8_years 64 = .ok (.iload 4, 2) := by decide +kernel
theorem dX8_years_66 : decode cX8_years 66 = .ok (.bipush 15, 2) := by decide +kernel
theorem dX8_years_68 : decode cX8_years 68 = .ok (.if_icmp .ne 13, 3) := by decide +kernel
theorem dX8_years_71 : decode cX8_years 71 = .ok (.aload_n 0, 1) := by decide +kernel
theorem dX8_years_72 : decode cX8_years 72 = .ok (.getfield 35, 3) := by decide +kernel
theorem dX8_years_75 : decode cX8_years 75 = .ok (.invokevirtual 193, 3) := by decide +kernel
theorem dX8_years_78 : decode cX8_years 78 = .ok (.goto 19, 3) := by decide +kernel
theorem dX8_years_81 : decode cX8_years 81 = .ok (.aload_n 0, 1) := by decide +kernel
theorem dX8_years_82 : decode cX8_years 82 = .ok (.getfield 35, 3) := by decide +kernel
theorem dX8_years_85 : decode cX8_years 85 = .ok (.iload 4, 2) := by decide +kernel
theorem dX8_years_87 : decode cX8_years 87 = .ok (.iconst 5, 1) := by decide +kernel
theorem dX8_years_88 : decode cX8_years 88 = .ok (.idiv, 1) := by decide +kernel
theorem dX8_years_89 : decode cX8_years 89 = .ok (.iload 4, 2) := by decide +kernel
theorem dX8_years_91 : decode cX8_years 91 = .ok (.iconst 5, 1) := by decide +kernel
theorem dX8_years_92 : decode cX8_years 92 = .ok (.irem, 1) := by decide +kernel
theorem dX8_years_93 : decode cX8_years 93 = .ok (.invokevirtual 252, 3) := by decide +kernel
theorem dX8_years_96 : decode cX8_years 96 = .ok (.pop, 1) := by decide +kernel
theorem dX8_years_97 : decode cX8_years 97 = .ok (.aload_n 0, 1) := by decide +kernel
theorem dX8_years_98 : decode cX8_years 98 = .ok (.getfield 56, 3) := by decide +kernel
theorem dX8_years_101 : decode cX8_years 101 = .ok (.aload_n 0, 1) := by decide +kernel
theorem dX8_years_102 : decode cX8_years 102 = .ok (.getfield 35, 3) := by decide +kernel
theorem dX8_years_105 : decode cX8_years 105 = .ok (.getfield 139, 3) := by decide +kernel
theorem dX8_years_108 : decode cX8_years 108 = .ok (.aload_n 0, 1) := by decide +kernel
theorem dX8_years_109 : decode cX8_years 109 = .ok (.getfield 35, 3) := by decide +kernel
theorem dX8_years_112 : decode cX8_years 112 = .ok (.getfield 143, 3) := by decide +kernel
theorem dX8_years_115 : decode cX8_years 115 = .ok (.invokevirtual 209, 3) := by decide +kernel
theorem dX8_years_118 : decode cX8_years 118 = .ok (.iload_n 2, 1) := by decide +kernel
theorem dX8_years_119 : decode cX8_years 119 = .ok (.aload_n 0, 1) := by decide +kernel
theorem dX8_years_120 : decode cX8_years 120 = .ok (.getfield 56, 3) := by decide +kernel
theorem dX8_years_123 : decode cX8_years 123 = .ok (.invokevirtual 216, 3) := by decide +kernel
theorem dX8_years_126 : decode cX8_years 126 = .ok (.iadd, 1) := by decide +kernel
theorem dX8_years_127 : decode cX8_years 127 = .ok (.istore_n 2, 1) := by decide +kernel
theorem dX8_years_128 : decode cX8_years 128 = .ok (.iinc 3 1, 3) := by decide +kernel
theorem dX8_years_131 : decode cX8_years 131 = .ok (.goto (-102), 3) := by decide +kernel
theorem dX8_years_134 : decode cX8_years 134 = .ok (.iload_n 2, 1) := by decide +kernel
theorem dX8_years_135 : decode cX8_years 135 = .ok (.ireturn, 1) := by decide +kernel
theorem dX8_keep_0 : decode cX8_keep 0 = .ok (.iload_n 1, 1) := by decide +kernel
theorem dX8_keep_1 : decode cX8_keep 1 = .ok (.ifCond .lt 8, 3) := by decide +kernel
theorem dX8_keep_4 : decode cX8_keep 4 = .ok (.iload_n 1, 1) := by decide +kernel
theorem dX8_keep_5 : decode cX8_keep 5 = .ok (.iconst 2, 1) := by decide +kernel
theorem dX8_keep_6 : decode cX8_keep 6 = .ok (.if_icmp .lt 5, 3) := by decide +kernel
theorem dX8_keep_9 : decode cX8_keep 9 = .ok (.iconst (-1), 1) := by decide +kernel
theorem dX8_keep_10 : decode cX8_keep 10 = .ok (.ireturn, 1) := by decide +kernel
theorem dX8_keep_11 : decode cX8_keep 11 = .ok (.aload_n 0, 1) := by decide +kernel
theorem dX8_keep_12 : decode cX8_keep 12 = .ok (.getfield 38, 3) := by decide +kernel
theorem dX8_keep_15 : decode cX8_keep 15 = .ok (.iload_n 1, 1) := by decide +kernel
theorem dX8_keep_16 : decode cX8_keep 16 = .ok (.aaload, 1) := by decide +kernel
theorem dX8_keep_17 : decode cX8_keep 17 = .ok (.aload_n 0, 1) := by decide +kernel
theorem dX8_keep_18 : decode cX8_keep 18 = .ok (.getfield 31, 3) := by decide +kernel
theorem dX8_keep_21 : decode cX8_keep 21 = .ok (.invokevirtual 249, 3) := by decide +kernel
theorem dX8_keep_24 : decode cX8_keep 24 = .ok (.aload_n 0, 1) := by decide +kernel
theorem dX8_keep_25 : decode cX8_keep 25 = .ok (.getfield 42, 3) := by decide +kernel
theorem dX8_keep_28 : decode cX8_keep 28 = .ok (.iload_n 1, 1) := by decide +kernel
theorem dX8_keep_29 : decode cX8_keep 29 = .ok (.iconst 1, 1) := by decide +kernel
theorem dX8_keep_30 : decode cX8_keep 30 = .ok (.bastore, 1) := by decide +kernel
theorem dX8_keep_31 : decode cX8_keep 31 = .ok (.aload_n 0, 1) := by decide +kernel
theorem dX8_keep_32 : decode cX8_keep 32 = .ok (.getfield 31, 3) := by decide +kernel
theorem dX8_keep_35 : decode cX8_keep 35 = .ok (.getfield 112, 3) := by decide +kernel
theorem dX8_keep_38 : decode cX8_keep 38 = .ok (.ireturn, 1) := by decide +kernel
theorem dX8_again_0 : decode cX8_again 0 = .ok (.iload_n 1, 1) := by decide +kernel
theorem dX8_again_1 : decode cX8_again 1 = .ok (.ifCond .lt 8, 3) := by decide +kernel
theorem dX8_again_4 : decode cX8_again 4 = .ok (.iload_n 1, 1) := by decide +kernel
theorem dX8_again_5 : decode cX8_again 5 = .ok (.iconst 2, 1) := by decide +kernel
theorem dX8_again_6 : decode cX8_again 6 = .ok (.if_icmp .lt 5, 3) := by decide +kernel
theorem dX8_again_9 : decode cX8_again 9 = .ok (.iconst (-1), 1) := by decide +kernel
theorem dX8_again_10 : decode cX8_again 10 = .ok (.ireturn, 1) := by decide +kernel
theorem dX8_again_11 : decode cX8_again 11 = .ok (.aload_n 0, 1) := by decide +kernel
theorem dX8_again_12 : decode cX8_again 12 = .ok (.getfield 42, 3) := by decide +kernel
theorem dX8_again_15 : decode cX8_again 15 = .ok (.iload_n 1, 1) := by decide +kernel
theorem dX8_again_16 : decode cX8_again 16 = .ok (.baload, 1) := by decide +kernel
theorem dX8_again_17 : decode cX8_again 17 = .ok (.ifCond .ne 6, 3) := by decide +kernel
theorem dX8_again_20 : decode cX8_again 20 = .ok (.bipush (-3), 2) := by decide +kernel
theorem dX8_again_22 : decode cX8_again 22 = .ok (.ireturn, 1) := by decide +kernel
theorem dX8_again_23 : decode cX8_again 23 = .ok (.aload_n 0, 1) := by decide +kernel
theorem dX8_again_24 : decode cX8_again 24 = .ok (.getfield 31, 3) := by decide +kernel
theorem dX8_again_27 : decode cX8_again 27 = .ok (.aload_n 0, 1) := by decide +kernel
theorem dX8_again_28 : decode cX8_again 28 = .ok (.getfield 38, 3) := by decide +kernel
theorem dX8_again_31 : decode cX8_again 31 = .ok (.iload_n 1, 1) := by decide +kernel
theorem dX8_again_32 : decode cX8_again 32 = .ok (.aaload, 1) := by decide +kernel
theorem dX8_again_33 : decode cX8_again 33 = .ok (.invokevirtual 249, 3) := by decide +kernel
theorem dX8_again_36 : decode cX8_again 36 = .ok (.aload_n 0, 1) := by decide +kernel
theorem dX8_again_37 : decode cX8_again 37 = .ok (.getfield 49, 3) := by decide +kernel
theorem dX8_again_40 : decode cX8_again 40 = .ok (.invokevirtual 100, 3) := by decide +kernel
theorem dX8_again_43 : decode cX8_again 43 = .ok (.aload_n 0, 1) := by decide +kernel
theorem dX8_again_44 : decode cX8_again 44 = .ok (.getfield 31, 3) := by decide +kernel
theorem dX8_again_47 : decode cX8_again 47 = .ok (.getfield 112, 3) := by decide +kernel
theorem dX8_again_50 : decode cX8_again 50 = .ok (.ireturn, 1) := by decide +kernel
theorem dX8_isRow_0 : decode cX8_isRow 0 = .ok (.iload_n 1, 1) := by decide +kernel
theorem dX8_isRow_1 : decode cX8_isRow 1 = .ok (.ifCond .lt 18, 3) := by decide +kernel
theorem dX8_isRow_4 : decode cX8_isRow 4 = .ok (.iload_n 1, 1) := by decide +kernel
theorem dX8_isRow_5 : decode cX8_isRow 5 = .ok (.aload_n 0, 1) := by decide +kernel
theorem dX8_isRow_6 : decode cX8_isRow 6 = .ok (.getfield 19, 3) := by decide +kernel
theorem dX8_isRow_9 : decode cX8_isRow 9 = .ok (.getfield 103, 3) := by decide +kernel
theorem dX8_isRow_12 : decode cX8_isRow 12 = .ok (.if_icmp .ge 7, 3) := by decide +kernel
theorem dX8_isRow_15 : decode cX8_isRow 15 = .ok (.iconst 1, 1) := by decide +kernel
theorem dX8_isRow_16 : decode cX8_isRow 16 = .ok (.goto 4, 3) := by decide +kernel
theorem dX8_isRow_19 : decode cX8_isRow 19 = .ok (.iconst 0, 1) := by decide +kernel
theorem dX8_isRow_20 : decode cX8_isRow 20 = .ok (.ireturn, 1) := by decide +kernel
theorem dX8_isKin_0 : decode cX8_isKin 0 = .ok (.iload_n 1, 1) := by decide +kernel
theorem dX8_isKin_1 : decode cX8_isKin 1 = .ok (.ifCond .lt 18, 3) := by decide +kernel
theorem dX8_isKin_4 : decode cX8_isKin 4 = .ok (.iload_n 1, 1) := by decide +kernel
theorem dX8_isKin_5 : decode cX8_isKin 5 = .ok (.aload_n 0, 1) := by decide +kernel
theorem dX8_isKin_6 : decode cX8_isKin 6 = .ok (.getfield 19, 3) := by decide +kernel
theorem dX8_isKin_9 : decode cX8_isKin 9 = .ok (.getfield 106, 3) := by decide +kernel
theorem dX8_isKin_12 : decode cX8_isKin 12 = .ok (.if_icmp .ge 7, 3) := by decide +kernel
theorem dX8_isKin_15 : decode cX8_isKin 15 = .ok (.iconst 1, 1) := by decide +kernel
theorem dX8_isKin_16 : decode cX8_isKin 16 = .ok (.goto 4, 3) := by decide +kernel
theorem dX8_isKin_19 : decode cX8_isKin 19 = .ok (.iconst 0, 1) := by decide +kernel
theorem dX8_isKin_20 : decode cX8_isKin 20 = .ok (.ireturn, 1) := by decide +kernel
theorem dX8_isDeed_0 : decode cX8_isDeed 0 = .ok (.iload_n 1, 1) := by decide +kernel
theorem dX8_isDeed_1 : decode cX8_isDeed 1 = .ok (.ifCond .lt 18, 3) := by decide +kernel
theorem dX8_isDeed_4 : decode cX8_isDeed 4 = .ok (.iload_n 1, 1) := by decide +kernel
theorem dX8_isDeed_5 : decode cX8_isDeed 5 = .ok (.aload_n 0, 1) := by decide +kernel
theorem dX8_isDeed_6 : decode cX8_isDeed 6 = .ok (.getfield 19, 3) := by decide +kernel
theorem dX8_isDeed_9 : decode cX8_isDeed 9 = .ok (.getfield 109, 3) := by decide +kernel
theorem dX8_isDeed_12 : decode cX8_isDeed 12 = .ok (.if_icmp .ge 7, 3) := by decide +kernel
theorem dX8_isDeed_15 : decode cX8_isDeed 15 = .ok (.iconst 1, 1) := by decide +kernel
theorem dX8_isDeed_16 : decode cX8_isDeed 16 = .ok (.goto 4, 3) := by decide +kernel
theorem dX8_isDeed_19 : decode cX8_isDeed 19 = .ok (.iconst 0, 1) := by decide +kernel
theorem dX8_isDeed_20 : decode cX8_isDeed 20 = .ok (.ireturn, 1) := by decide +kernel
theorem dX8_isHalf_0 : decode cX8_isHalf 0 = .ok (.iload_n 0, 1) := by decide +kernel
theorem dX8_isHalf_1 : decode cX8_isHalf 1 = .ok (.ifCond .eq 8, 3) := by decide +kernel
theorem dX8_isHalf_4 : decode cX8_isHalf 4 = .ok (.iload_n 0, 1) := by decide +kernel
theorem dX8_isHalf_5 : decode cX8_isHalf 5 = .ok (.iconst 1, 1) := by decide +kernel
theorem dX8_isHalf_6 : decode cX8_isHalf 6 = .ok (.if_icmp .ne 7, 3) := by decide +kernel
theorem dX8_isHalf_9 : decode cX8_isHalf 9 = .ok (.iconst 1, 1) := by decide +kernel
theorem dX8_isHalf_10 : decode cX8_isHalf 10 = .ok (.goto 4, 3) := by decide +kernel
theorem dX8_isHalf_13 : decode cX8_isHalf 13 = .ok (.iconst 0, 1) := by decide +kernel
theorem dX8_isHalf_14 : decode cX8_isHalf 14 = .ok (.ireturn, 1) := by decide +kernel
theorem dX8_isWorth_0 : decode cX8_isWorth 0 = .ok (.iload_n 0, 1) := by decide +kernel
theorem dX8_isWorth_1 : decode cX8_isWorth 1 = .ok (.ifCond .lt 14, 3) := by decide +kernel
theorem dX8_isWorth_4 : decode cX8_isWorth 4 = .ok (.iload_n 0, 1) := by decide +kernel
theorem dX8_isWorth_5 : decode cX8_isWorth 5 = .ok (.sipush 9999, 3) := by decide +kernel
theorem dX8_isWorth_8 : decode cX8_isWorth 8 = .ok (.if_icmp .gt 7, 3) := by decide +kernel
theorem dX8_isWorth_11 : decode cX8_isWorth 11 = .ok (.iconst 1, 1) := by decide +kernel
theorem dX8_isWorth_12 : decode cX8_isWorth 12 = .ok (.goto 4, 3) := by decide +kernel
theorem dX8_isWorth_15 : decode cX8_isWorth 15 = .ok (.iconst 0, 1) := by decide +kernel
theorem dX8_isWorth_16 : decode cX8_isWorth 16 = .ok (.ireturn, 1) := by decide +kernel
theorem dX8_kinOf_0 : decode cX8_kinOf 0 = .ok (.iload_n 0, 1) := by decide +kernel
theorem dX8_kinOf_1 : decode cX8_kinOf 1 = .ok (.iconst 4, 1) := by decide +kernel
theorem dX8_kinOf_2 : decode cX8_kinOf 2 = .ok (.idiv, 1) := by decide +kernel
theorem dX8_kinOf_3 : decode cX8_kinOf 3 = .ok (.ireturn, 1) := by decide +kernel
theorem dX8_partOf_0 : decode cX8_partOf 0 = .ok (.iload_n 0, 1) := by decide +kernel
theorem dX8_partOf_1 : decode cX8_partOf 1 = .ok (.iconst 4, 1) := by decide +kernel
theorem dX8_partOf_2 : decode cX8_partOf 2 = .ok (.irem, 1) := by decide +kernel
theorem dX8_partOf_3 : decode cX8_partOf 3 = .ok (.ireturn, 1) := by decide +kernel
theorem dX8_halfOf_0 : decode cX8_halfOf 0 = .ok (.iload_n 0, 1) := by decide +kernel
theorem dX8_halfOf_1 : decode cX8_halfOf 1 = .ok (.iload_n 1, 1) := by decide +kernel
theorem dX8_halfOf_2 : decode cX8_halfOf 2 = .ok (.if_icmp .ge 7, 3) := by decide +kernel
theorem dX8_halfOf_5 : decode cX8_halfOf 5 = .ok (.iconst 0, 1) := by decide +kernel
theorem dX8_halfOf_6 : decode cX8_halfOf 6 = .ok (.goto 4, 3) := by decide +kernel
theorem dX8_halfOf_9 : decode cX8_halfOf 9 = .ok (.iconst 1, 1) := by decide +kernel
theorem dX8_halfOf_10 : decode cX8_halfOf 10 = .ok (.ireturn, 1) := by decide +kernel
theorem dX8_talliedNow_0 : decode cX8_talliedNow 0 = .ok (.aload_n 0, 1) := by decide +kernel
theorem dX8_talliedNow_1 : decode cX8_talliedNow 1 = .ok (.getfield 56, 3) := by decide +kernel
theorem dX8_talliedNow_4 : decode cX8_talliedNow 4 = .ok (.aload_n 0, 1) := by decide +kernel
theorem dX8_talliedNow_5 : decode cX8_talliedNow 5 = .ok (.getfield 31, 3) := by decide +kernel
theorem dX8_talliedNow_8 : decode cX8_talliedNow 8 = .ok (.getfield 139, 3) := by decide +kernel
theorem dX8_talliedNow_11 : decode cX8_talliedNow 11 = .ok (.aload_n 0, 1) := by decide +kernel
theorem dX8_talliedNow_12 : decode cX8_talliedNow 12 = .ok (.getfield 31, 3) := by decide +kernel
theorem dX8_talliedNow_15 : decode cX8_talliedNow 15 = .ok (.getfield 143, 3) := by decide +kernel
theorem dX8_talliedNow_18 : decode cX8_talliedNow 18 = .ok (.invokevirtual 209, 3) := by decide +kernel
theorem dX8_talliedNow_21 : decode cX8_talliedNow 21 = .ok (.aload_n 0, 1) := by decide +kernel
theorem dX8_talliedNow_22 : decode cX8_talliedNow 22 = .ok (.getfield 56, 3) := by decide +kernel
theorem dX8_talliedNow_25 : decode cX8_talliedNow 25 = .ok (.areturn, 1) := by decide +kernel
theorem dX8_wireCount_0 : decode cX8_wireCount 0 = .ok (.iconst 0, 1) := by decide +kernel
theorem dX8_wireCount_1 : decode cX8_wireCount 1 = .ok (.istore_n 1, 1) := by decide +kernel
theorem dX8_wireCount_2 : decode cX8_wireCount 2 = .ok (.aload_n 0, 1) := by decide +kernel
theorem dX8_wireCount_3 : decode cX8_wireCount 3 = .ok (.getfield 70, 3) := by decide +kernel
theorem dX8_wireCount_6 : decode cX8_wireCount 6 = .ok (.aload_n 0, 1) := by decide +kernel
theorem dX8_wireCount_7 : decode cX8_wireCount 7 = .ok (.getfield 19, 3) := by decide +kernel
theorem dX8_wireCount_10 : decode cX8_wireCount 10 = .ok (.getfield 103, 3) := by decide +kernel
theorem dX8_wireCount_13 : decode cX8_wireCount 13 = .ok (.invokevirtual 201, 3) := by decide +kernel
theorem dX8_wireCount_16 : decode cX8_wireCount 16 = .ok (.iconst 0, 1) := by decide +kernel
theorem dX8_wireCount_17 : decode cX8_wireCount 17 = .ok (.istore_n 2, 1) := by decide +kernel
theorem dX8_wireCount_18 : decode cX8_wireCount 18 = .ok (.iload_n 2, 1) := by decide +kernel
theorem dX8_wireCount_19 : decode cX8_wireCount 19 = .ok (.sipush 7776, 3) := by decide +kernel
theorem dX8_wireCount_22 : decode cX8_wireCount 22 = .ok (.if_icmp .ge 29, 3) := by decide +kernel
theorem dX8_wireCount_25 : decode cX8_wireCount 25 = .ok (.aload_n 0, 1) := by decide +kernel
theorem dX8_wireCount_26 : decode cX8_wireCount 26 = .ok (.getfield 70, 3) := by decide +kernel
theorem dX8_wireCount_29 : decode cX8_wireCount 29 = .ok (.getfield 204, 3) := by decide +kernel
theorem dX8_wireCount_32 : decode cX8_wireCount 32 = .ok (.ifCond .eq 19, 3) := by decide +kernel
theorem dX8_wireCount_35 : decode cX8_wireCount 35 = .ok (.iinc 1 1, 3) := by decide +kernel
theorem dX8_wireCount_38 : decode cX8_wireCount 38 = .ok (.aload_n 0, 1) := by decide +kernel
theorem dX8_wireCount_39 : decode cX8_wireCount 39 = .ok (.getfield 70, 3) := by decide +kernel
theorem dX8_wireCount_42 : decode cX8_wireCount 42 = .ok (.invokevirtual 226, 3) := by decide +kernel
theorem dX8_wireCount_45 : decode cX8_wireCount 45 = .ok (.iinc 2 1, 3) := by decide +kernel
theorem dX8_wireCount_48 : decode cX8_wireCount 48 = .ok (.goto (-30), 3) := by decide +kernel
theorem dX8_wireCount_51 : decode cX8_wireCount 51 = .ok (.iload_n 1, 1) := by decide +kernel
theorem dX8_wireCount_52 : decode cX8_wireCount 52 = .ok (.ireturn, 1) := by decide +kernel
theorem dX8_ordersWith_0 : decode cX8_ordersWith 0 = .ok (.aload_n 0, 1) := by decide +kernel
theorem dX8_ordersWith_1 : decode cX8_ordersWith 1 = .ok (.getfield 19, 3) := by decide +kernel
theorem dX8_ordersWith_4 : decode cX8_ordersWith 4 = .ok (.getfield 106, 3) := by decide +kernel
theorem dX8_ordersWith_7 : decode cX8_ordersWith 7 = .ok (.iconst 1, 1) := by decide +kernel
theorem dX8_ordersWith_8 : decode cX8_ordersWith 8 = .ok (.isub, 1) := by decide +kernel
theorem dX8_ordersWith_9 : decode cX8_ordersWith 9 = .ok (.iload_n 1, 1) := by decide +kernel
theorem dX8_ordersWith_10 : decode cX8_ordersWith 10 = .ok (.isub, 1) := by decide +kernel
theorem dX8_ordersWith_11 : decode cX8_ordersWith 11 = .ok (.istore_n 2, 1) := by decide +kernel
theorem dX8_ordersWith_12 : decode cX8_ordersWith 12 = .ok (.iload_n 1, 1) := by decide +kernel
theorem dX8_ordersWith_13 : decode cX8_ordersWith 13 = .ok (.ifCond .lt 7, 3) := by decide +kernel
theorem dX8_ordersWith_16 : decode cX8_ordersWith 16 = .ok (.iload_n 2, 1) := by decide +kernel
theorem dX8_ordersWith_17 : decode cX8_ordersWith 17 = .ok (.ifCond .ge 5, 3) := by decide +kernel
theorem dX8_ordersWith_20 : decode cX8_ordersWith 20 = .ok (.iconst 0, 1) := by decide +kernel
theorem dX8_ordersWith_21 : decode cX8_ordersWith 21 = .ok (.ireturn, 1) := by decide +kernel
theorem dX8_ordersWith_22 : decode cX8_ordersWith 22 = .ok (.getstatic 263, 3) := by decide +kernel
theorem dX8_ordersWith_25 : decode cX8_ordersWith 25 = .ok (.iload_n 1, 1) := by decide +kernel
theorem dX8_ordersWith_26 : decode cX8_ordersWith 26 = .ok (.iaload, 1) := by decide +kernel
theorem dX8_ordersWith_27 : decode cX8_ordersWith 27 = .ok (.getstatic 263, 3) := by decide +kernel
theorem dX8_ordersWith_30 : decode cX8_ordersWith 30 = .ok (.iload_n 2, 1) := by decide +kernel
theorem dX8_ordersWith_31 : decode cX8_ordersWith 31 = .ok (.iaload, 1) := by decide +kernel
theorem dX8_ordersWith_32 : decode cX8_ordersWith 32 = .ok (.imul, 1) := by decide +kernel
theorem dX8_ordersWith_33 : decode cX8_ordersWith 33 = .ok (.ireturn, 1) := by decide +kernel
theorem dX8_isAtRest_0 : decode cX8_isAtRest 0 = .ok (.aload_n 0, 1) := by decide +kernel
theorem dX8_isAtRest_1 : decode cX8_isAtRest 1 = .ok (.iconst 0, 1) := by decide +kernel
theorem dX8_isAtRest_2 : decode cX8_isAtRest 2 = .ok (.iload_n 1, 1) := by decide +kernel
theorem dX8_isAtRest_3 : decode cX8_isAtRest 3 = .ok (.iload_n 2, 1) := by decide +kernel
theorem dX8_isAtRest_4 : decode cX8_isAtRest 4 = .ok (.invokevirtual 290, 3) := by decide +kernel
theorem dX8_isAtRest_7 : decode cX8_isAtRest 7 = .ok (.aload_n 0, 1) := by decide +kernel
theorem dX8_isAtRest_8 : decode cX8_isAtRest 8 = .ok (.iconst 0, 1) := by decide +kernel
theorem dX8_isAtRest_9 : decode cX8_isAtRest 9 = .ok (.iconst 1, 1) := by decide +kernel
theorem dX8_isAtRest_10 : decode cX8_isAtRest 10 = .ok (.iload_n 1, 1) := by decide +kernel
theorem dX8_isAtRest_11 : decode cX8_isAtRest 11 = .ok (.isub, 1) := by decide +kernel
theorem dX8_isAtRest_12 : decode cX8_isAtRest 12 = .ok (.iload_n 2, 1) := by decide +kernel
theorem dX8_isAtRest_13 : decode cX8_isAtRest 13 = .ok (.invokevirtual 290, 3) := by decide +kernel
theorem dX8_isAtRest_16 : decode cX8_isAtRest 16 = .ok (.if_icmp .lt 26, 3) := by decide +kernel
theorem dX8_isAtRest_19 : decode cX8_isAtRest 19 = .ok (.aload_n 0, 1) := by decide +kernel
theorem dX8_isAtRest_20 : decode cX8_isAtRest 20 = .ok (.iconst 1, 1) := by decide +kernel
theorem dX8_isAtRest_21 : decode cX8_isAtRest 21 = .ok (.iload_n 1, 1) := by decide +kernel
theorem dX8_isAtRest_22 : decode cX8_isAtRest 22 = .ok (.iload_n 2, 1) := by decide +kernel
theorem dX8_isAtRest_23 : decode cX8_isAtRest 23 = .ok (.invokevirtual 290, 3) := by decide +kernel
theorem dX8_isAtRest_26 : decode cX8_isAtRest 26 = .ok (.aload_n 0, 1) := by decide +kernel
theorem dX8_isAtRest_27 : decode cX8_isAtRest 27 = .ok (.iconst 1, 1) := by decide +kernel
theorem dX8_isAtRest_28 : decode cX8_isAtRest 28 = .ok (.iload_n 1, 1) := by decide +kernel
theorem dX8_isAtRest_29 : decode cX8_isAtRest 29 = .ok (.iconst 1, 1) := by decide +kernel
theorem dX8_isAtRest_30 : decode cX8_isAtRest 30 = .ok (.iload_n 2, 1) := by decide +kernel
theorem dX8_isAtRest_31 : decode cX8_isAtRest 31 = .ok (.isub, 1) := by decide +kernel
theorem dX8_isAtRest_32 : decode cX8_isAtRest 32 = .ok (.invokevirtual 290, 3) := by decide +kernel
theorem dX8_isAtRest_35 : decode cX8_isAtRest 35 = .ok (.if_icmp .lt 7, 3) := by decide +kernel
theorem dX8_isAtRest_38 : decode cX8_isAtRest 38 = .ok (.iconst 1, 1) := by decide +kernel
theorem dX8_isAtRest_39 : decode cX8_isAtRest 39 = .ok (.goto 4, 3) := by decide +kernel
theorem dX8_isAtRest_42 : decode cX8_isAtRest 42 = .ok (.iconst 0, 1) := by decide +kernel
theorem dX8_isAtRest_43 : decode cX8_isAtRest 43 = .ok (.ireturn, 1) := by decide +kernel
theorem dX8_holding_0 : decode cX8_holding 0 = .ok (.iconst 0, 1) := by decide +kernel
theorem dX8_holding_1 : decode cX8_holding 1 = .ok (.istore 4, 2) := by decide +kernel
theorem dX8_holding_3 : decode cX8_holding 3 = .ok (.iconst 0, 1) := by decide +kernel
theorem dX8_holding_4 : decode cX8_holding 4 = .ok (.istore 5, 2) := by decide +kernel
theorem dX8_holding_6 : decode cX8_holding 6 = .ok (.iload 5, 2) := by decide +kernel
theorem dX8_holding_8 : decode cX8_holding 8 = .ok (.aload_n 0, 1) := by decide +kernel
theorem dX8_holding_9 : decode cX8_holding 9 = .ok (.getfield 19, 3) := by decide +kernel
theorem dX8_holding_12 : decode cX8_holding 12 = .ok (.getfield 103, 3) := by decide +kernel
theorem dX8_holding_15 : decode cX8_holding 15 = .ok (.if_icmp .ge 36, 3) := by decide +kernel
theorem dX8_holding_18 : decode cX8_holding 18 = .ok (.iload 4, 2) := by decide +kernel
theorem dX8_holding_20 : decode cX8_holding 20 = .ok (.iconst 0, 1) := by decide +kernel
theorem dX8_holding_21 : decode cX8_holding 21 = .ok (.iconst 5, 1) := by decide +kernel
theorem dX8_holding_22 : decode cX8_holding 22 = .ok (.aload_n 0, 1) := by decide +kernel
theorem dX8_holding_23 : decode cX8_holding 23 = .ok (.getfield 31, 3) := by decide +kernel
theorem dX8_holding_26 : decode cX8_holding 26 = .ok (.getfield 143, 3) := by decide +kernel
theorem dX8_holding_29 : decode cX8_holding 29 = .ok (.iload 5, 2) := by decide +kernel
theorem dX8_holding_31 : decode cX8_holding 31 = .ok (.iaload, 1) := by decide +kernel
theorem dX8_holding_32 : decode cX8_holding 32 = .ok (.iload_n 2, 1) := by decide +kernel
theorem dX8_holding_33 : decode cX8_holding 33 = .ok (.iadd, 1) := by decide +kernel
theorem dX8_holding_34 : decode cX8_holding 34 = .ok (.iload_n 3, 1) := by decide +kernel
theorem dX8_holding_35 : decode cX8_holding 35 = .ok (.isub, 1) := by decide +kernel
theorem dX8_holding_36 : decode cX8_holding 36 = .ok (.invokestatic 279, 3) := by decide +kernel
theorem dX8_holding_39 : decode cX8_holding 39 = .ok (.invokestatic 293, 3) := by decide +kernel
theorem dX8_holding_42 : decode cX8_holding 42 = .ok (.iadd, 1) := by decide +kernel
theorem dX8_holding_43 : decode cX8_holding 43 = .ok (.istore 4, 2) := by decide +kernel
theorem dX8_holding_45 : decode cX8_holding 45 = .ok (.iinc 5 1, 3) := by decide +kernel
theorem dX8_holding_48 : decode cX8_holding 48 = .ok (.goto (-42), 3) := by decide +kernel
theorem dX8_holding_51 : decode cX8_holding 51 = .ok (.iload_n 1, 1) := by decide +kernel
theorem dX8_holding_52 : decode cX8_holding 52 = .ok (.ifCond .ne 10, 3) := by decide +kernel
theorem dX8_holding_55 : decode cX8_holding 55 = .ok (.iload 4, 2) := by decide +kernel
theorem dX8_holding_57 : decode cX8_holding 57 = .ok (.iconst 2, 1) := by decide +kernel
theorem dX8_holding_58 : decode cX8_holding 58 = .ok (.iload_n 2, 1) := by decide +kernel
theorem dX8_holding_59 : decode cX8_holding 59 = .ok (.imul, 1) := by decide +kernel
theorem dX8_holding_60 : decode cX8_holding 60 = .ok (.isub, 1) := by decide +kernel
theorem dX8_holding_61 : decode cX8_holding 61 = .ok (.ireturn, 1) := by decide +kernel
theorem dX8_holding_62 : decode cX8_holding 62 = .ok (.aload_n 0, 1) := by decide +kernel
theorem dX8_holding_63 : decode cX8_holding 63 = .ok (.getfield 19, 3) := by decide +kernel
theorem dX8_holding_66 : decode cX8_holding 66 = .ok (.getfield 103, 3) := by decide +kernel
theorem dX8_holding_69 : decode cX8_holding 69 = .ok (.iconst 5, 1) := by decide +kernel
theorem dX8_holding_70 : decode cX8_holding 70 = .ok (.imul, 1) := by decide +kernel
theorem dX8_holding_71 : decode cX8_holding 71 = .ok (.iload 4, 2) := by decide +kernel
theorem dX8_holding_73 : decode cX8_holding 73 = .ok (.isub, 1) := by decide +kernel
theorem dX8_holding_74 : decode cX8_holding 74 = .ok (.iconst 2, 1) := by decide +kernel
theorem dX8_holding_75 : decode cX8_holding 75 = .ok (.iload_n 3, 1) := by decide +kernel
theorem dX8_holding_76 : decode cX8_holding 76 = .ok (.imul, 1) := by decide +kernel
theorem dX8_holding_77 : decode cX8_holding 77 = .ok (.isub, 1) := by decide +kernel
theorem dX8_holding_78 : decode cX8_holding 78 = .ok (.ireturn, 1) := by decide +kernel
theorem dX8_fraction_0 : decode cX8_fraction 0 = .ok (.iload_n 0, 1) := by decide +kernel
theorem dX8_fraction_1 : decode cX8_fraction 1 = .ok (.iload_n 1, 1) := by decide +kernel
theorem dX8_fraction_2 : decode cX8_fraction 2 = .ok (.invokestatic 296, 3) := by decide +kernel
theorem dX8_fraction_5 : decode cX8_fraction 5 = .ok (.istore_n 3, 1) := by decide +kernel
theorem dX8_fraction_6 : decode cX8_fraction 6 = .ok (.iload_n 3, 1) := by decide +kernel
theorem dX8_fraction_7 : decode cX8_fraction 7 = .ok (.ifCond .ne 5, 3) := by decide +kernel
theorem dX8_fraction_10 : decode cX8_fraction 10 = .ok (.iconst 0, 1) := by decide +kernel
theorem dX8_fraction_11 : decode cX8_fraction 11 = .ok (.ireturn, 1) := by decide +kernel
theorem dX8_fraction_12 : decode cX8_fraction 12 = .ok (.iload_n 2, 1) := by decide +kernel
theorem dX8_fraction_13 : decode cX8_fraction 13 = .ok (.ifCond .eq 9, 3) := by decide +kernel
theorem dX8_fraction_16 : decode cX8_fraction 16 = .ok (.iload_n 0, 1) := by decide +kernel
theorem dX8_fraction_17 : decode cX8_fraction 17 = .ok (.iload_n 3, 1) := by decide +kernel
theorem dX8_fraction_18 : decode cX8_fraction 18 = .ok (.idiv, 1) := by decide +kernel
theorem dX8_fraction_19 : decode cX8_fraction 19 = .ok (.goto 6, 3) := by decide +kernel
theorem dX8_fraction_22 : decode cX8_fraction 22 = .ok (.iload_n 1, 1) := by decide +kernel
theorem dX8_fraction_23 : decode cX8_fraction 23 = .ok (.iload_n 3, 1) := by decide +kernel
theorem dX8_fraction_24 : decode cX8_fraction 24 = .ok (.idiv, 1) := by decide +kernel
theorem dX8_fraction_25 : decode cX8_fraction 25 = .ok (.ireturn, 1) := by decide +kernel
theorem dX8_commonDivisor_0 : decode cX8_commonDivisor 0 = .ok (.iload_n 0, 1) := by decide +kernel
theorem dX8_commonDivisor_1 : decode cX8_commonDivisor 1 = .ok (.istore_n 2, 1) := by decide +kernel
theorem dX8_commonDivisor_2 : decode cX8_commonDivisor 2 = .ok (.iload_n 1, 1) := by decide +kernel
theorem dX8_commonDivisor_3 : decode cX8_commonDivisor 3 = .ok (.istore_n 3, 1) := by decide +kernel
theorem dX8_commonDivisor_4 : decode cX8_commonDivisor 4 = .ok (.iconst 0, 1) := by decide +kernel
theorem dX8_commonDivisor_5 : decode cX8_commonDivisor 5 = .ok (.istore 4, 2) := by decide +kernel
theorem dX8_commonDivisor_7 : decode cX8_commonDivisor 7 = .ok (.iload 4, 2) := by decide +kernel
theorem dX8_commonDivisor_9 : decode cX8_commonDivisor 9 = .ok (.bipush 64, 2) := by decide +kernel
theorem dX8_commonDivisor_11 : decode cX8_commonDivisor 11 = .ok (.if_icmp .ge 23, 3) := by decide +kernel
theorem dX8_commonDivisor_14 : decode cX8_commonDivisor 14 = .ok (.iload_n 3, 1) := by decide +kernel
theorem dX8_commonDivisor_15 : decode cX8_commonDivisor 15 = .ok (.ifCond .eq 19, 3) := by decide +kernel
theorem dX8_commonDivisor_18 : decode cX8_commonDivisor 18 = .ok (.iload_n 2, 1) := by decide +kernel
theorem dX8_commonDivisor_19 : decode cX8_commonDivisor 19 = .ok (.iload_n 3, 1) := by decide +kernel
theorem dX8_commonDivisor_20 : decode cX8_commonDivisor 20 = .ok (.irem, 1) := by decide +kernel
theorem dX8_commonDivisor_21 : decode cX8_commonDivisor 21 = .ok (.istore 5, 2) := by decide +kernel
theorem dX8_commonDivisor_23 : decode cX8_commonDivisor 23 = .ok (.iload_n 3, 1) := by decide +kernel
theorem dX8_commonDivisor_24 : decode cX8_commonDivisor 24 = .ok (.istore_n 2, 1) := by decide +kernel
theorem dX8_commonDivisor_25 : decode cX8_commonDivisor 25 = .ok (.iload 5, 2) := by decide +kernel
theorem dX8_commonDivisor_27 : decode cX8_commonDivisor 27 = .ok (.istore_n 3, 1) := by decide +kernel
theorem dX8_commonDivisor_28 : decode cX8_commonDivisor 28 = .ok (.iinc 4 1, 3) := by decide +kernel
theorem dX8_commonDivisor_31 : decode cX8_commonDivisor 31 = .ok (.goto (-24), 3) := by decide +kernel
theorem dX8_commonDivisor_34 : decode cX8_commonDivisor 34 = .ok (.iload_n 2, 1) := by decide +kernel
theorem dX8_commonDivisor_35 : decode cX8_commonDivisor 35 = .ok (.ireturn, 1) := by decide +kernel
theorem dX8_figuresOf_0 : decode cX8_figuresOf 0 = .ok (.iconst 1, 1) := by decide +kernel
theorem dX8_figuresOf_1 : decode cX8_figuresOf 1 = .ok (.istore_n 2, 1) := by decide +kernel
theorem dX8_figuresOf_2 : decode cX8_figuresOf 2 = .ok (.iconst 0, 1) := by decide +kernel
theorem dX8_figuresOf_3 : decode cX8_figuresOf 3 = .ok (.istore_n 3, 1) := by decide +kernel
theorem dX8_figuresOf_4 : decode cX8_figuresOf 4 = .ok (.iload_n 3, 1) := by decide +kernel
theorem dX8_figuresOf_5 : decode cX8_figuresOf 5 = .ok (.iload_n 1, 1) := by decide +kernel
theorem dX8_figuresOf_6 : decode cX8_figuresOf 6 = .ok (.if_icmp .ge 18, 3) := by decide +kernel
theorem dX8_figuresOf_9 : decode cX8_figuresOf 9 = .ok (.bipush 10, 2) := by decide +kernel
theorem dX8_figuresOf_11 : decode cX8_figuresOf 11 = .ok (.iload_n 2, 1) := by decide +kernel
theorem dX8_figuresOf_12 : decode cX8_figuresOf 12 = .ok (.imul, 1) := by decide +kernel
theorem dX8_figuresOf_13 : decode cX8_figuresOf 13 = .ok (.aload_n 0, 1) := by decide +kernel
theorem dX8_figuresOf_14 : decode cX8_figuresOf 14 = .ok (.iload_n 3, 1) := by decide +kernel
theorem dX8_figuresOf_15 : decode cX8_figuresOf 15 = .ok (.iaload, 1) := by decide +kernel
theorem dX8_figuresOf_16 : decode cX8_figuresOf 16 = .ok (.iadd, 1) := by decide +kernel
theorem dX8_figuresOf_17 : decode cX8_figuresOf 17 = .ok (.istore_n 2, 1) := by decide +kernel
theorem dX8_figuresOf_18 : decode cX8_figuresOf 18 = .ok (.iinc 3 1, 3) := by decide +kernel
theorem dX8_figuresOf_21 : decode cX8_figuresOf 21 = .ok (.goto (-17), 3) := by decide +kernel
theorem dX8_figuresOf_24 : decode cX8_figuresOf 24 = .ok (.iload_n 2, 1) := by decide +kernel
theorem dX8_figuresOf_25 : decode cX8_figuresOf 25 = .ok (.ireturn, 1) := by decide +kernel
theorem dX9_init_0 : decode cX9_init 0 = .ok (.aload_n 0, 1) := by decide +kernel
theorem dX9_init_1 : decode cX9_init 1 = .ok (.invokespecial 1, 3) := by decide +kernel
theorem dX9_init_4 : decode cX9_init 4 = .ok (.aload_n 0, 1) := by decide +kernel
theorem dX9_init_5 : decode cX9_init 5 = .ok (.bipush 56, 2) := by decide +kernel
theorem dX9_init_7 : decode cX9_init 7 = .ok (.newarray .int, 2) := by decide +kernel
theorem dX9_init_9 : decode cX9_init 9 = .ok (.putfield 7, 3) := by decide +kernel
theorem dX9_init_12 : decode cX9_init 12 = .ok (.aload_n 0, 1) := by decide +kernel
theorem dX9_init_13 : decode cX9_init 13 = .ok (.iconst 5, 1) := by decide +kernel
theorem dX9_init_14 : decode cX9_init 14 = .ok (.newarray .int, 2) := by decide +kernel
theorem dX9_init_16 : decode cX9_init 16 = .ok (.putfield 13, 3) := by decide +kernel
theorem dX9_init_19 : decode cX9_init 19 = .ok (.aload_n 0, 1) := by decide +kernel
theorem dX9_init_20 : decode cX9_init 20 = .ok (.iconst 4, 1) := by decide +kernel
theorem dX9_init_21 : decode cX9_init 21 = .ok (.newarray .int, 2) := by decide +kernel
theorem dX9_init_23 : decode cX9_init 23 = .ok (.putfield 16, 3) := by decide +kernel
theorem dX9_init_26 : decode cX9_init 26 = .ok (.aload_n 0, 1) := by decide +kernel
theorem dX9_init_27 : decode cX9_init 27 = .ok (.iconst 4, 1) := by decide +kernel
theorem dX9_init_28 : decode cX9_init 28 = .ok (.newarray .int, 2) := by decide +kernel
theorem dX9_init_30 : decode cX9_init 30 = .ok (.putfield 19, 3) := by decide +kernel
theorem dX9_init_33 : decode cX9_init 33 = .ok (.aload_n 0, 1) := by decide +kernel
theorem dX9_init_34 : decode cX9_init 34 = .ok (.bipush 25, 2) := by decide +kernel
theorem dX9_init_36 : decode cX9_init 36 = .ok (.newarray .int, 2) := by decide +kernel
theorem dX9_init_38 : decode cX9_init 38 = .ok (.putfield 22, 3) := by decide +kernel
theorem dX9_init_41 : decode cX9_init 41 = .ok (.aload_n 0, 1) := by decide +kernel
theorem dX9_init_42 : decode cX9_init 42 = .ok (.iconst 5, 1) := by decide +kernel
theorem dX9_init_43 : decode cX9_init 43 = .ok (.newarray .int, 2) := by decide +kernel
theorem dX9_init_45 : decode cX9_init 45 = .ok (.putfield 25, 3) := by decide +kernel
theorem dX9_init_48 : decode cX9_init 48 = .ok (.aload_n 0, 1) := by decide +kernel
theorem dX9_init_49 : decode cX9_init 49 = .ok (.iconst 4, 1) := by decide +kernel
theorem dX9_init_50 : decode cX9_init 50 = .ok (.newarray .int, 2) := by decide +kernel
theorem dX9_init_52 : decode cX9_init 52 = .ok (.putfield 28, 3) := by decide +kernel
theorem dX9_init_55 : decode cX9_init 55 = .ok (.aload_n 0, 1) := by decide +kernel
theorem dX9_init_56 : decode cX9_init 56 = .ok (.iconst 4, 1) := by decide +kernel
theorem dX9_init_57 : decode cX9_init 57 = .ok (.newarray .int, 2) := by decide +kernel
theorem dX9_init_59 : decode cX9_init 59 = .ok (.putfield 31, 3) := by decide +kernel
theorem dX9_init_62 : decode cX9_init 62 = .ok (.aload_n 0, 1) := by decide +kernel
theorem dX9_init_63 : decode cX9_init 63 = .ok (.bipush 31, 2) := by decide +kernel
theorem dX9_init_65 : decode cX9_init 65 = .ok (.newarray .int, 2) := by decide +kernel
theorem dX9_init_67 : decode cX9_init 67 = .ok (.putfield 34, 3) := by decide +kernel
theorem dX9_init_70 : decode cX9_init 70 = .ok (.aload_n 0, 1) := by decide +kernel
theorem dX9_init_71 : decode cX9_init 71 = .ok (.bipush 31, 2) := by decide +kernel
theorem dX9_init_73 : decode cX9_init 73 = .ok (.newarray .int, 2) := by decide +kernel
theorem dX9_init_75 : decode cX9_init 75 = .ok (.putfield 37, 3) := by decide +kernel
theorem dX9_init_78 : decode cX9_init 78 = .ok (.aload_n 0, 1) := by decide +kernel
theorem dX9_init_79 : decode cX9_init 79 = .ok (.sipush 434, 3) := by decide +kernel
theorem dX9_init_82 : decode cX9_init 82 = .ok (.newarray .int, 2) := by decide +kernel
theorem dX9_init_84 : decode cX9_init 84 = .ok (.putfield 40, 3) := by decide +kernel
theorem dX9_init_87 : decode cX9_init 87 = .ok (.aload_n 0, 1) := by decide +kernel
theorem dX9_init_88 : decode cX9_init 88 = .ok (.bipush 62, 2) := by decide +kernel
theorem dX9_init_90 : decode cX9_init 90 = .ok (.newarray .int, 2) := by decide +kernel
theorem dX9_init_92 : decode cX9_init 92 = .ok (.putfield 43, 3) := by decide +kernel
theorem dX9_init_95 : decode cX9_init 95 = .ok (.aload_n 0, 1) := by decide +kernel
theorem dX9_init_96 : decode cX9_init 96 = .ok (.iconst 2, 1) := by decide +kernel
theorem dX9_init_97 : decode cX9_init 97 = .ok (.newarray .boolean, 2) := by decide +kernel
theorem dX9_init_99 : decode cX9_init 99 = .ok (.putfield 46, 3) := by decide +kernel
theorem dX9_init_102 : decode cX9_init 102 = .ok (.aload_n 0, 1) := by decide +kernel
theorem dX9_init_103 : decode cX9_init 103 = .ok (.bipush 6, 2) := by decide +kernel
theorem dX9_init_105 : decode cX9_init 105 = .ok (.newarray .int, 2) := by decide +kernel
theorem dX9_init_107 : decode cX9_init 107 = .ok (.putfield 50, 3) := by decide +kernel
theorem dX9_init_110 : decode cX9_init 110 = .ok (.aload_n 0, 1) := by decide +kernel
theorem dX9_init_111 : decode cX9_init 111 = .ok (.bipush 6, 2) := by decide +kernel
theorem dX9_init_113 : decode cX9_init 113 = .ok (.newarray .int, 2) := by decide +kernel
theorem dX9_init_115 : decode cX9_init 115 = .ok (.putfield 53, 3) := by decide +kernel
theorem dX9_init_118 : decode cX9_init 118 = .ok (.aload_n 0, 1) := by decide +kernel
theorem dX9_init_119 : decode cX9_init 119 = .ok (.iconst 5, 1) := by decide +kernel
theorem dX9_init_120 : decode cX9_init 120 = .ok (.newarray .int, 2) := by decide +kernel
theorem dX9_init_122 : decode cX9_init 122 = .ok (.putfield 56, 3) := by decide +kernel
theorem dX9_init_125 : decode cX9_init 125 = .ok (.aload_n 0, 1) := by decide +kernel
theorem dX9_init_126 : decode cX9_init 126 = .ok (.iconst 5, 1) := by decide +kernel
theorem dX9_init_127 : decode cX9_init 127 = .ok (.newarray .int, 2) := by decide +kernel
theorem dX9_init_129 : decode cX9_init 129 = .ok (.putfield 59, 3) := by decide +kernel
theorem dX9_init_132 : decode cX9_init 132 = .ok (.aload_n 0, 1) := by decide +kernel
theorem dX9_init_133 : decode cX9_init 133 = .ok (.iconst 5, 1) := by decide +kernel
theorem dX9_init_134 : decode cX9_init 134 = .ok (.newarray .int, 2) := by decide +kernel
theorem dX9_init_136 : decode cX9_init 136 = .ok (.putfield 62, 3) := by decide +kernel
theorem dX9_init_139 : decode cX9_init 139 = .ok (.aload_n 0, 1) := by decide +kernel
theorem dX9_init_140 : decode cX9_init 140 = .ok (.bipush 32, 2) := by decide +kernel
theorem dX9_init_142 : decode cX9_init 142 = .ok (.newarray .int, 2) := by decide +kernel
theorem dX9_init_144 : decode cX9_init 144 = .ok (.putfield 65, 3) := by decide +kernel
theorem dX9_init_147 : decode cX9_init 147 = .ok (.return_, 1) := by decide +kernel
theorem dX9_in_0 : decode cX9_in 0 = .ok (.lload_n 0, 1) := by decide +kernel
theorem dX9_in_1 : decode cX9_in 1 = .ok (.lload_n 2, 1) := by decide +kernel
theorem dX9_in_2 : decode cX9_in 2 = .ok (.lcmp, 1) := by decide +kernel
theorem dX9_in_3 : decode cX9_in 3 = .ok (.ifCond .lt 14, 3) := by decide +kernel
theorem dX9_in_6 : decode cX9_in 6 = .ok (.lload_n 0, 1) := by decide +kernel
theorem dX9_in_7 : decode cX9_in 7 = .ok (.lload 4, 2) := by decide +kernel
theorem dX9_in_9 : decode cX9_in 9 = .ok (.lcmp, 1) := by decide +kernel
theorem dX9_in_10 : decode cX9_in 10 = .ok (.ifCond .gt 7, 3) := by decide +kernel
theorem dX9_in_13 : decode cX9_in 13 = .ok (.iconst 1, 1) := by decide +kernel
theorem dX9_in_14 : decode cX9_in 14 = .ok (.goto 4, 3) := by decide +kernel
theorem dX9_in_17 : decode cX9_in 17 = .ok (.iconst 0, 1) := by decide +kernel
theorem dX9_in_18 : decode cX9_in 18 = .ok (.ireturn, 1) := by decide +kernel
theorem dX9_isIn_0 : decode cX9_isIn 0 = .ok (.iload_n 0, 1) := by decide +kernel
theorem dX9_isIn_1 : decode cX9_isIn 1 = .ok (.iload_n 1, 1) := by decide +kernel
theorem dX9_isIn_2 : decode cX9_isIn 2 = .ok (.ishr, 1) := by decide +kernel
theorem dX9_isIn_3 : decode cX9_isIn 3 = .ok (.iconst 1, 1) := by decide +kernel
theorem dX9_isIn_4 : decode cX9_isIn 4 = .ok (.iand, 1) := by decide +kernel
theorem dX9_isIn_5 : decode cX9_isIn 5 = .ok (.iconst 1, 1) := by decide +kernel
theorem dX9_isIn_6 : decode cX9_isIn 6 = .ok (.if_icmp .ne 7, 3) := by decide +kernel
theorem dX9_isIn_9 : decode cX9_isIn 9 = .ok (.iconst 1, 1) := by decide +kernel
theorem dX9_isIn_10 : decode cX9_isIn 10 = .ok (.goto 4, 3) := by decide +kernel
theorem dX9_isIn_13 : decode cX9_isIn 13 = .ok (.iconst 0, 1) := by decide +kernel
theorem dX9_isIn_14 : decode cX9_isIn 14 = .ok (.ireturn, 1) := by decide +kernel
theorem dX9_many_0 : decode cX9_many 0 = .ok (.iconst 0, 1) := by decide +kernel
theorem dX9_many_1 : decode cX9_many 1 = .ok (.istore_n 1, 1) := by decide +kernel
theorem dX9_many_2 : decode cX9_many 2 = .ok (.iconst 0, 1) := by decide +kernel
theorem dX9_many_3 : decode cX9_many 3 = .ok (.istore_n 2, 1) := by decide +kernel
theorem dX9_many_4 : decode cX9_many 4 = .ok (.iload_n 2, 1) := by decide +kernel
theorem dX9_many_5 : decode cX9_many 5 = .ok (.iconst 5, 1) := by decide +kernel
theorem dX9_many_6 : decode cX9_many 6 = .ok (.if_icmp .ge 17, 3) := by decide +kernel
theorem dX9_many_9 : decode cX9_many 9 = .ok (.iload_n 1, 1) := by decide +kernel
theorem dX9_many_10 : decode cX9_many 10 = .ok (.iload_n 0, 1) := by decide +kernel
theorem dX9_many_11 : decode cX9_many 11 = .ok (.iload_n 2, 1) := by decide +kernel
theorem dX9_many_12 : decode cX9_many 12 = .ok (.ishr, 1) := by decide +kernel
theorem dX9_many_13 : decode cX9_many 13 = .ok (.iconst 1, 1) := by decide +kernel
theorem dX9_many_14 : decode cX9_many 14 = .ok (.iand, 1) := by decide +kernel
theorem dX9_many_15 : decode cX9_many 15 = .ok (.iadd, 1) := by decide +kernel
theorem dX9_many_16 : decode cX9_many 16 = .ok (.istore_n 1, 1) := by decide +kernel
theorem dX9_many_17 : decode cX9_many 17 = .ok (.iinc 2 1, 3) := by decide +kernel
theorem dX9_many_20 : decode cX9_many 20 = .ok (.goto (-16), 3) := by decide +kernel
theorem dX9_many_23 : decode cX9_many 23 = .ok (.iload_n 1, 1) := by decide +kernel
theorem dX9_many_24 : decode cX9_many 24 = .ok (.ireturn, 1) := by decide +kernel
theorem dX9_write_0 : decode cX9_write 0 = .ok (.aload_n 0, 1) := by decide +kernel
theorem dX9_write_1 : decode cX9_write 1 = .ok (.iconst 0, 1) := by decide +kernel
theorem dX9_write_2 : decode cX9_write 2 = .ok (.putfield 68, 3) := by decide +kernel
theorem dX9_write_5 : decode cX9_write 5 = .ok (.iload_n 1, 1) := by decide +kernel
theorem dX9_write_6 : decode cX9_write 6 = .ok (.i2l, 1) := by decide +kernel
theorem dX9_write_7 : decode cX9_write 7 = .ok (.lconst 0, 1) := by decide +kernel
theorem dX9_write_8 : decode cX9_write 8 = .ok (.ldc2_w 72, 3) := by decide +kernel
theorem dX9_write_11 : decode cX9_write 11 = .ok (.invokestatic 74, 3) := by decide +kernel
theorem dX9_write_14 : decode cX9_write 14 = .ok (.ifCond .ne 6, 3) := by decide +kernel
theorem dX9_write_17 : decode cX9_write 17 = .ok (.bipush (-2), 2) := by decide +kernel
theorem dX9_write_19 : decode cX9_write 19 = .ok (.ireturn, 1) := by decide +kernel
theorem dX9_write_20 : decode cX9_write 20 = .ok (.aload_n 0, 1) := by decide +kernel
theorem dX9_write_21 : decode cX9_write 21 = .ok (.getfield 78, 3) := by decide +kernel
theorem dX9_write_24 : decode cX9_write 24 = .ok (.bipush 56, 2) := by decide +kernel
theorem dX9_write_26 : decode cX9_write 26 = .ok (.if_icmp .ne 6, 3) := by decide +kernel
theorem dX9_write_29 : decode cX9_write 29 = .ok (.bipush (-4), 2) := by decide +kernel
theorem dX9_write_31 : decode cX9_write 31 = .ok (.ireturn, 1) := by decide +kernel
theorem dX9_write_32 : decode cX9_write 32 = .ok (.aload_n 0, 1) := by decide +kernel
theorem dX9_write_33 : decode cX9_write 33 = .ok (.getfield 7, 3) := by decide +kernel
theorem dX9_write_36 : decode cX9_write 36 = .ok (.aload_n 0, 1) := by decide +kernel
theorem dX9_write_37 : decode cX9_write 37 = .ok (.getfield 78, 3) := by decide +kernel
theorem dX9_write_40 : decode cX9_write 40 = .ok (.iload_n 1, 1) := by decide +kernel
theorem dX9_write_41 : decode cX9_write 41 = .ok (.iastore, 1) := by decide +kernel
theorem dX9_write_42 : decode cX9_write 42 = .ok (.aload_n 0, 1) := by decide +kernel
theorem dX9_write_43 : decode cX9_write 43 = .ok (.dup, 1) := by decide +kernel
theorem dX9_write_44 : decode cX9_write 44 = .ok (.getfield 78, 3) := by decide +kernel
theorem dX9_write_47 : decode cX9_write 47 = .ok (.iconst 1, 1) := by decide +kernel
theorem dX9_write_48 : decode cX9_write 48 = .ok (.iadd, 1) := by decide +kernel
theorem dX9_write_49 : decode cX9_write 49 = .ok (.putfield 78, 3) := by decide +kernel
theorem dX9_write_52 : decode cX9_write 52 = .ok (.aload_n 0, 1) := by decide +kernel
theorem dX9_write_53 : decode cX9_write 53 = .ok (.getfield 78, 3) := by decide +kernel
theorem dX9_write_56 : decode cX9_write 56 = .ok (.ireturn, 1) := by decide +kernel
theorem dX9_wipe_0 : decode cX9_wipe 0 = .ok (.aload_n 0, 1) := by decide +kernel
theorem dX9_wipe_1 : decode cX9_wipe 1 = .ok (.iconst 0, 1) := by decide +kernel
theorem dX9_wipe_2 : decode cX9_wipe 2 = .ok (.putfield 68, 3) := by decide +kernel
theorem dX9_wipe_5 : decode cX9_wipe 5 = .ok (.aload_n 0, 1) := by decide +kernel
theorem dX9_wipe_6 : decode cX9_wipe 6 = .ok (.getfield 78, 3) := by decide +kernel
theorem dX9_wipe_9 : decode cX9_wipe 9 = .ok (.istore_n 1, 1) := by decide +kernel
theorem dX9_wipe_10 : decode cX9_wipe 10 = .ok (.aload_n 0, 1) := by decide +kernel
theorem dX9_wipe_11 : decode cX9_wipe 11 = .ok (.iconst 0, 1) := by decide +kernel
theorem dX9_wipe_12 : decode cX9_wipe 12 = .ok (.putfield 78, 3) := by decide +kernel
theorem dX9_wipe_15 : decode cX9_wipe 15 = .ok (.iload_n 1, 1) := by decide +kernel
theorem dX9_wipe_16 : decode cX9_wipe 16 = .ok (.ireturn, 1) := by decide +kernel
theorem dX9_from_0 : decode cX9_from 0 = .ok (.aload_n 0, 1) := by decide +kernel
theorem dX9_from_1 : decode cX9_from 1 = .ok (.getfield 81, 3) := by decide +kernel
theorem dX9_from_4 : decode cX9_from 4 = .ok (.aload_n 0, 1) := by decide +kernel
theorem dX9_from_5 : decode cX9_from 5 = .ok (.getfield 78, 3) := by decide +kernel
theorem dX9_from_8 : decode cX9_from 8 = .ok (.if_icmp .eq 25, 3) := by decide +kernel
theorem dX9_from_11 : decode cX9_from 11 = .ok (.aload_n 0, 1) := by decide +kernel
theorem dX9_from_12 : decode cX9_from 12 = .ok (.getfield 7, 3) := by decide +kernel
theorem dX9_from_15 : decode cX9_from 15 = .ok (.aload_n 0, 1) := by decide +kernel
theorem dX9_from_16 : decode cX9_from 16 = .ok (.getfield 81, 3) := by decide +kernel
theorem dX9_from_19 : decode cX9_from 19 = .ok (.iaload, 1) := by decide +kernel
theorem dX9_from_20 : decode cX9_from 20 = .ok (.iload_n 1, 1) := by decide +kernel
theorem dX9_from_21 : decode cX9_from 21 = .ok (.isub, 1) := by decide +kernel
theorem dX9_from_22 : decode cX9_from 22 = .ok (.i2l, 1) := by decide +kernel
theorem dX9_from_23 : decode cX9_from 23 = .ok (.iload_n 2, 1) := by decide +kernel
theorem dX9_from_24 : decode cX9_from 24 = .ok (.i2l, 1) := by decide +kernel
theorem dX9_from_25 : decode cX9_from 25 = .ok (.iload_n 3, 1) := by decide +kernel
theorem dX9_from_26 : decode cX9_from 26 = .ok (.i2l, 1) := by decide +kernel
theorem dX9_from_27 : decode cX9_from 27 = .ok (.invokestatic 74, 3) := by decide +kernel
theorem dX9_from_30 : decode cX9_from 30 = .ok (.ifCond .ne 6, 3) := by decide +kernel
theorem dX9_from_33 : decode cX9_from 33 = .ok (.bipush (-9), 2) := by decide +kernel
theorem dX9_from_35 : decode cX9_from 35 = .ok (.ireturn, 1) := by decide +kernel
theorem dX9_from_36 : decode cX9_from 36 = .ok (.aload_n 0, 1) := by decide +kernel
theorem dX9_from_37 : decode cX9_from 37 = .ok (.dup, 1) := by decide +kernel
theorem dX9_from_38 : decode cX9_from 38 = .ok (.getfield 81, 3) := by decide +kernel
theorem dX9_from_41 : decode cX9_from 41 = .ok (.iconst 1, 1) := by decide +kernel
theorem dX9_from_42 : decode cX9_from 42 = .ok (.iadd, 1) := by decide +kernel
theorem dX9_from_43 : decode cX9_from 43 = .ok (.putfield 81, 3) := by decide +kernel
theorem dX9_from_46 : decode cX9_from 46 = .ok (.aload_n 0, 1) := by decide +kernel
theorem dX9_from_47 : decode cX9_from 47 = .ok (.getfield 7, 3) := by decide +kernel
theorem dX9_from_50 : decode cX9_from 50 = .ok (.aload_n 0, 1) := by decide +kernel
theorem dX9_from_51 : decode cX9_from 51 = .ok (.getfield 81, 3) := by decide +kernel
theorem dX9_from_54 : decode cX9_from 54 = .ok (.iconst 1, 1) := by decide +kernel
theorem dX9_from_55 : decode cX9_from 55 = .ok (.isub, 1) := by decide +kernel
theorem dX9_from_56 : decode cX9_from 56 = .ok (.iaload, 1) := by decide +kernel
theorem dX9_from_57 : decode cX9_from 57 = .ok (.iload_n 1, 1) := by decide +kernel
theorem dX9_from_58 : decode cX9_from 58 = .ok (.isub, 1) := by decide +kernel
theorem dX9_from_59 : decode cX9_from 59 = .ok (.ireturn, 1) := by decide +kernel
theorem dX9_readOneKin_0 : decode cX9_readOneKin 0 = .ok (.aload_n 0, 1) := by decide +kernel
theorem dX9_readOneKin_1 : decode cX9_readOneKin 1 = .ok (.bipush 48, 2) := by decide +kernel
theorem dX9_readOneKin_3 : decode cX9_readOneKin 3 = .ok (.iconst 0, 1) := by decide +kernel
theorem dX9_readOneKin_4 : decode cX9_readOneKin 4 = .ok (.iconst 3, 1) := by decide +kernel
theorem dX9_readOneKin_5 : decode cX9_readOneKin 5 = .ok (.invokevirtual 84, 3) := by decide +kernel
theorem dX9_readOneKin_8 : decode cX9_readOneKin 8 = .ok (.istore_n 1, 1) := by decide +kernel
theorem dX9_readOneKin_9 : decode cX9_readOneKin 9 = .ok (.iload_n 1, 1) := by decide +kernel
theorem dX9_readOneKin_10 : decode cX9_readOneKin 10 = .ok (.bipush (-9), 2) := by decide +kernel
theorem dX9_readOneKin_12 : decode cX9_readOneKin 12 = .ok (.if_icmp .ne 5, 3) := by decide +kernel
theorem dX9_readOneKin_15 : decode cX9_readOneKin 15 = .ok (.iconst 0, 1) := by decide +kernel
theorem dX9_readOneKin_16 : decode cX9_readOneKin 16 = .ok (.ireturn, 1) := by decide +kernel
theorem dX9_readOneKin_17 : decode cX9_readOneKin 17 = .ok (.aload_n 0, 1) := by decide +kernel
theorem dX9_readOneKin_18 : decode cX9_readOneKin 18 = .ok (.getfield 25, 3) := by decide +kernel
theorem dX9_readOneKin_21 : decode cX9_readOneKin 21 = .ok (.aload_n 0, 1) := by decide +kernel
theorem dX9_readOneKin_22 : decode cX9_readOneKin 22 = .ok (.getfield 88, 3) := by decide +kernel
theorem dX9_readOneKin_25 : decode cX9_readOneKin 25 = .ok (.iload_n 1, 1) := by decide +kernel
theorem dX9_readOneKin_26 : decode cX9_readOneKin 26 = .ok (.iastore, 1) := by decide +kernel
theorem dX9_readOneKin_27 : decode cX9_readOneKin 27 = .ok (.aload_n 0, 1) := by decide +kernel
theorem dX9_readOneKin_28 : decode cX9_readOneKin 28 = .ok (.dup, 1) := by decide +kernel
theorem dX9_readOneKin_29 : decode cX9_readOneKin 29 = .ok (.getfield 88, 3) := by decide +kernel
theorem dX9_readOneKin_32 : decode cX9_readOneKin 32 = .ok (.iconst 1, 1) := by decide +kernel
theorem dX9_readOneKin_33 : decode cX9_readOneKin 33 = .ok (.iadd, 1) := by decide +kernel
theorem dX9_readOneKin_34 : decode cX9_readOneKin 34 = .ok (.putfield 88, 3) := by decide +kernel
theorem dX9_readOneKin_37 : decode cX9_readOneKin 37 = .ok (.iconst 1, 1) := by decide +kernel
theorem dX9_readOneKin_38 : decode cX9_readOneKin 38 = .ok (.ireturn, 1) := by decide +kernel
theorem dX9_readOneRow_0 : decode cX9_readOneRow 0 = .ok (.iconst 0, 1) := by decide +kernel
theorem dX9_readOneRow_1 : decode cX9_readOneRow 1 = .ok (.istore_n 1, 1) := by decide +kernel
theorem dX9_readOneRow_2 : decode cX9_readOneRow 2 = .ok (.iload_n 1, 1) := by decide +kernel
theorem dX9_readOneRow_3 : decode cX9_readOneRow 3 = .ok (.iconst 5, 1) := by decide +kernel
theorem dX9_readOneRow_4 : decode cX9_readOneRow 4 = .ok (.if_icmp .ge 47, 3) := by decide +kernel
theorem dX9_readOneRow_7 : decode cX9_readOneRow 7 = .ok (.aload_n 0, 1) := by decide +kernel
theorem dX9_readOneRow_8 : decode cX9_readOneRow 8 = .ok (.bipush 97, 2) := by decide +kernel
theorem dX9_readOneRow_10 : decode cX9_readOneRow 10 = .ok (.iconst 0, 1) := by decide +kernel
theorem dX9_readOneRow_11 : decode cX9_readOneRow 11 = .ok (.iconst 4, 1) := by decide +kernel
theorem dX9_readOneRow_12 : decode cX9_readOneRow 12 = .ok (.aload_n 0, 1) := by decide +kernel
theorem dX9_readOneRow_13 : decode cX9_readOneRow 13 = .ok (.getfield 88, 3) := by decide +kernel
theorem dX9_readOneRow_16 : decode cX9_readOneRow 16 = .ok (.imul, 1) := by decide +kernel
theorem dX9_readOneRow_17 : decode cX9_readOneRow 17 = .ok (.iconst 1, 1) := by decide +kernel
theorem dX9_readOneRow_18 : decode cX9_readOneRow 18 = .ok (.isub, 1) := by decide +kernel
theorem dX9_readOneRow_19 : decode cX9_readOneRow 19 = .ok (.invokevirtual 84, 3) := by decide +kernel
theorem dX9_readOneRow_22 : decode cX9_readOneRow 22 = .ok (.istore_n 2, 1) := by decide +kernel
theorem dX9_readOneRow_23 : decode cX9_readOneRow 23 = .ok (.iload_n 2, 1) := by decide +kernel
theorem dX9_readOneRow_24 : decode cX9_readOneRow 24 = .ok (.bipush (-9), 2) := by decide +kernel
theorem dX9_readOneRow_26 : decode cX9_readOneRow 26 = .ok (.if_icmp .ne 5, 3) := by decide +kernel
theorem dX9_readOneRow_29 : decode cX9_readOneRow 29 = .ok (.iconst 0, 1) := by decide +kernel
theorem dX9_readOneRow_30 : decode cX9_readOneRow 30 = .ok (.ireturn, 1) := by decide +kernel
theorem dX9_readOneRow_31 : decode cX9_readOneRow 31 = .ok (.aload_n 0, 1) := by decide +kernel
theorem dX9_readOneRow_32 : decode cX9_readOneRow 32 = .ok (.getfield 22, 3) := by decide +kernel
theorem dX9_readOneRow_35 : decode cX9_readOneRow 35 = .ok (.iconst 5, 1) := by decide +kernel
theorem dX9_readOneRow_36 : decode cX9_readOneRow 36 = .ok (.aload_n 0, 1) := by decide +kernel
theorem dX9_readOneRow_37 : decode cX9_readOneRow 37 = .ok (.getfield 91, 3) := by decide +kernel
theorem dX9_readOneRow_40 : decode cX9_readOneRow 40 = .ok (.imul, 1) := by decide +kernel
theorem dX9_readOneRow_41 : decode cX9_readOneRow 41 = .ok (.iload_n 1, 1) := by decide +kernel
theorem dX9_readOneRow_42 : decode cX9_readOneRow 42 = .ok (.iadd, 1) := by decide +kernel
theorem dX9_readOneRow_43 : decode cX9_readOneRow 43 = .ok (.iload_n 2, 1) := by decide +kernel
theorem dX9_readOneRow_44 : decode cX9_readOneRow 44 = .ok (.iastore, 1) := by decide +kernel
theorem dX9_readOneRow_45 : decode cX9_readOneRow 45 = .ok (.iinc 1 1, 3) := by decide +kernel
theorem dX9_readOneRow_48 : decode cX9_readOneRow 48 = .ok (.goto (-46), 3) := by decide +kernel
theorem dX9_readOneRow_51 : decode cX9_readOneRow 51 = .ok (.aload_n 0, 1) := by decide +kernel
theorem dX9_readOneRow_52 : decode cX9_readOneRow 52 = .ok (.dup, 1) := by decide +kernel
theorem dX9_readOneRow_53 : decode cX9_readOneRow 53 = .ok (.getfield 91, 3) := by decide +kernel
theorem dX9_readOneRow_56 : decode cX9_readOneRow 56 = .ok (.iconst 1, 1) := by decide +kernel
theorem dX9_readOneRow_57 : decode cX9_readOneRow 57 = .ok (.iadd, 1) := by decide +kernel
theorem dX9_readOneRow_58 : decode cX9_readOneRow 58 = .ok (.putfield 91, 3) := by decide +kernel
theorem dX9_readOneRow_61 : decode cX9_readOneRow 61 = .ok (.iconst 1, 1) := by decide +kernel
theorem dX9_readOneRow_62 : decode cX9_readOneRow 62 = .ok (.ireturn, 1) := by decide +kernel
theorem dX9_readOneDeed_0 : decode cX9_readOneDeed 0 = .ok (.aload_n 0, 1) := by decide +kernel
theorem dX9_readOneDeed_1 : decode cX9_readOneDeed 1 = .ok (.bipush 48, 2) := by decide +kernel
theorem dX9_readOneDeed_3 : decode cX9_readOneDeed 3 = .ok (.iconst 0, 1) := by decide +kernel
theorem dX9_readOneDeed_4 : decode cX9_readOneDeed 4 = .ok (.iconst 3, 1) := by decide +kernel
theorem dX9_readOneDeed_5 : decode cX9_readOneDeed 5 = .ok (.invokevirtual 84, 3) := by decide +kernel
theorem dX9_readOneDeed_8 : decode cX9_readOneDeed 8 = .ok (.istore_n 1, 1) := by decide +kernel
theorem dX9_readOneDeed_9 : decode cX9_readOneDeed 9 = .ok (.iload_n 1, 1) := by decide +kernel
theorem dX9_readOneDeed_10 : decode cX9_readOneDeed 10 = .ok (.bipush (-9), 2) := by decide +kernel
theorem dX9_readOneDeed_12 : decode cX9_readOneDeed 12 = .ok (.if_icmp .ne 8, 3) := by decide +kernel
theorem dX9_readOneDeed_15 : decode cX9_readOneDeed 15 = .ok (.bipush (-9), 2) := by decide +kernel
theorem dX9_readOneDeed_17 : decode cX9_readOneDeed 17 = .ok (.goto 12, 3) := by decide +kernel
theorem dX9_readOneDeed_20 : decode cX9_readOneDeed 20 = .ok (.aload_n 0, 1) := by decide +kernel
theorem dX9_readOneDeed_21 : decode cX9_readOneDeed 21 = .ok (.bipush 48, 2) := by decide +kernel
theorem dX9_readOneDeed_23 : decode cX9_readOneDeed 23 = .ok (.iconst 1, 1) := by decide +kernel
theorem dX9_readOneDeed_24 : decode cX9_readOneDeed 24 = .ok (.bipush 9, 2) := by decide +kernel
theorem dX9_readOneDeed_26 : decode cX9_readOneDeed 26 = .ok (.invokevirtual 84, 3) := by decide +kernel
theorem dX9_readOneDeed_29 : decode cX9_readOneDeed 29 = .ok (.istore_n 2, 1) := by decide +kernel
theorem dX9_readOneDeed_30 : decode cX9_readOneDeed 30 = .ok (.iload_n 2, 1) := by decide +kernel
theorem dX9_readOneDeed_31 : decode cX9_readOneDeed 31 = .ok (.bipush (-9), 2) := by decide +kernel
theorem dX9_readOneDeed_33 : decode cX9_readOneDeed 33 = .ok (.if_icmp .ne 5, 3) := by decide +kernel
theorem dX9_readOneDeed_36 : decode cX9_readOneDeed 36 = .ok (.iconst 0, 1) := by decide +kernel
theorem dX9_readOneDeed_37 : decode cX9_readOneDeed 37 = .ok (.ireturn, 1) := by decide +kernel
theorem dX9_readOneDeed_38 : decode cX9_readOneDeed 38 = .ok (.aload_n 0, 1) := by decide +kernel
theorem dX9_readOneDeed_39 : decode cX9_readOneDeed 39 = .ok (.getfield 28, 3) := by decide +kernel
theorem dX9_readOneDeed_42 : decode cX9_readOneDeed 42 = .ok (.aload_n 0, 1) := by decide +kernel
