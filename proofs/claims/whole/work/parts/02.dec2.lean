theorem dX9_readOneDeed_43 : decode cX9_readOneDeed 43 = .ok (.getfield 94, 3) := by decide +kernel
theorem dX9_readOneDeed_46 : decode cX9_readOneDeed 46 = .ok (.iload_n 1, 1) := by decide +kernel
theorem dX9_readOneDeed_47 : decode cX9_readOneDeed 47 = .ok (.iastore, 1) := by decide +kernel
theorem dX9_readOneDeed_48 : decode cX9_readOneDeed 48 = .ok (.aload_n 0, 1) := by decide +kernel
theorem dX9_readOneDeed_49 : decode cX9_readOneDeed 49 = .ok (.getfield 31, 3) := by decide +kernel
theorem dX9_readOneDeed_52 : decode cX9_readOneDeed 52 = .ok (.aload_n 0, 1) := by decide +kernel
theorem dX9_readOneDeed_53 : decode cX9_readOneDeed 53 = .ok (.getfield 94, 3) := by decide +kernel
theorem dX9_readOneDeed_56 : decode cX9_readOneDeed 56 = .ok (.iload_n 2, 1) := by decide +kernel
theorem dX9_readOneDeed_57 : decode cX9_readOneDeed 57 = .ok (.iastore, 1) := by decide +kernel
theorem dX9_readOneDeed_58 : decode cX9_readOneDeed 58 = .ok (.aload_n 0, 1) := by decide +kernel
theorem dX9_readOneDeed_59 : decode cX9_readOneDeed 59 = .ok (.dup, 1) := by decide +kernel
theorem dX9_readOneDeed_60 : decode cX9_readOneDeed 60 = .ok (.getfield 94, 3) := by decide +kernel
theorem dX9_readOneDeed_63 : decode cX9_readOneDeed 63 = .ok (.iconst 1, 1) := by decide +kernel
theorem dX9_readOneDeed_64 : decode cX9_readOneDeed 64 = .ok (.iadd, 1) := by decide +kernel
theorem dX9_readOneDeed_65 : decode cX9_readOneDeed 65 = .ok (.putfield 94, 3) := by decide +kernel
theorem dX9_readOneDeed_68 : decode cX9_readOneDeed 68 = .ok (.iconst 1, 1) := by decide +kernel
theorem dX9_readOneDeed_69 : decode cX9_readOneDeed 69 = .ok (.ireturn, 1) := by decide +kernel
theorem dX9_readThing_0 : decode cX9_readThing 0 = .ok (.aload_n 0, 1) := by decide +kernel
theorem dX9_readThing_1 : decode cX9_readThing 1 = .ok (.getfield 7, 3) := by decide +kernel
theorem dX9_readThing_4 : decode cX9_readThing 4 = .ok (.aload_n 0, 1) := by decide +kernel
theorem dX9_readThing_5 : decode cX9_readThing 5 = .ok (.getfield 81, 3) := by decide +kernel
theorem dX9_readThing_8 : decode cX9_readThing 8 = .ok (.iaload, 1) := by decide +kernel
theorem dX9_readThing_9 : decode cX9_readThing 9 = .ok (.istore_n 1, 1) := by decide +kernel
theorem dX9_readThing_10 : decode cX9_readThing 10 = .ok (.aload_n 0, 1) := by decide +kernel
theorem dX9_readThing_11 : decode cX9_readThing 11 = .ok (.dup, 1) := by decide +kernel
theorem dX9_readThing_12 : decode cX9_readThing 12 = .ok (.getfield 81, 3) := by decide +kernel
theorem dX9_readThing_15 : decode cX9_readThing 15 = .ok (.iconst 1, 1) := by decide +kernel
theorem dX9_readThing_16 : decode cX9_readThing 16 = .ok (.iadd, 1) := by decide +kernel
theorem dX9_readThing_17 : decode cX9_readThing 17 = .ok (.putfield 81, 3) := by decide +kernel
theorem dX9_readThing_20 : decode cX9_readThing 20 = .ok (.iload_n 1, 1) := by decide +kernel
theorem dX9_readThing_21 : decode cX9_readThing 21 = .ok (.bipush 75, 2) := by decide +kernel
theorem dX9_readThing_23 : decode cX9_readThing 23 = .ok (.if_icmp .ne 16, 3) := by decide +kernel
theorem dX9_readThing_26 : decode cX9_readThing 26 = .ok (.aload_n 0, 1) := by decide +kernel
theorem dX9_readThing_27 : decode cX9_readThing 27 = .ok (.getfield 88, 3) := by decide +kernel
theorem dX9_readThing_30 : decode cX9_readThing 30 = .ok (.iconst 5, 1) := by decide +kernel
theorem dX9_readThing_31 : decode cX9_readThing 31 = .ok (.if_icmp .ge 8, 3) := by decide +kernel
theorem dX9_readThing_34 : decode cX9_readThing 34 = .ok (.aload_n 0, 1) := by decide +kernel
theorem dX9_readThing_35 : decode cX9_readThing 35 = .ok (.invokevirtual 97, 3) := by decide +kernel
theorem dX9_readThing_38 : decode cX9_readThing 38 = .ok (.ireturn, 1) := by decide +kernel
theorem dX9_readThing_39 : decode cX9_readThing 39 = .ok (.iload_n 1, 1) := by decide +kernel
theorem dX9_readThing_40 : decode cX9_readThing 40 = .ok (.bipush 82, 2) := by decide +kernel
theorem dX9_readThing_42 : decode cX9_readThing 42 = .ok (.if_icmp .ne 23, 3) := by decide +kernel
theorem dX9_readThing_45 : decode cX9_readThing 45 = .ok (.aload_n 0, 1) := by decide +kernel
theorem dX9_readThing_46 : decode cX9_readThing 46 = .ok (.getfield 91, 3) := by decide +kernel
theorem dX9_readThing_49 : decode cX9_readThing 49 = .ok (.iconst 5, 1) := by decide +kernel
theorem dX9_readThing_50 : decode cX9_readThing 50 = .ok (.if_icmp .ge 15, 3) := by decide +kernel
theorem dX9_readThing_53 : decode cX9_readThing 53 = .ok (.aload_n 0, 1) := by decide +kernel
theorem dX9_readThing_54 : decode cX9_readThing 54 = .ok (.getfield 88, 3) := by decide +kernel
theorem dX9_readThing_57 : decode cX9_readThing 57 = .ok (.ifCond .le 8, 3) := by decide +kernel
theorem dX9_readThing_60 : decode cX9_readThing 60 = .ok (.aload_n 0, 1) := by decide +kernel
theorem dX9_readThing_61 : decode cX9_readThing 61 = .ok (.invokevirtual 101, 3) := by decide +kernel
theorem dX9_readThing_64 : decode cX9_readThing 64 = .ok (.ireturn, 1) := by decide +kernel
theorem dX9_readThing_65 : decode cX9_readThing 65 = .ok (.iload_n 1, 1) := by decide +kernel
theorem dX9_readThing_66 : decode cX9_readThing 66 = .ok (.bipush 68, 2) := by decide +kernel
theorem dX9_readThing_68 : decode cX9_readThing 68 = .ok (.if_icmp .ne 16, 3) := by decide +kernel
theorem dX9_readThing_71 : decode cX9_readThing 71 = .ok (.aload_n 0, 1) := by decide +kernel
theorem dX9_readThing_72 : decode cX9_readThing 72 = .ok (.getfield 94, 3) := by decide +kernel
theorem dX9_readThing_75 : decode cX9_readThing 75 = .ok (.iconst 4, 1) := by decide +kernel
theorem dX9_readThing_76 : decode cX9_readThing 76 = .ok (.if_icmp .ge 8, 3) := by decide +kernel
theorem dX9_readThing_79 : decode cX9_readThing 79 = .ok (.aload_n 0, 1) := by decide +kernel
theorem dX9_readThing_80 : decode cX9_readThing 80 = .ok (.invokevirtual 104, 3) := by decide +kernel
theorem dX9_readThing_83 : decode cX9_readThing 83 = .ok (.ireturn, 1) := by decide +kernel
theorem dX9_readThing_84 : decode cX9_readThing 84 = .ok (.aload_n 0, 1) := by decide +kernel
theorem dX9_readThing_85 : decode cX9_readThing 85 = .ok (.dup, 1) := by decide +kernel
theorem dX9_readThing_86 : decode cX9_readThing 86 = .ok (.getfield 81, 3) := by decide +kernel
theorem dX9_readThing_89 : decode cX9_readThing 89 = .ok (.iconst 1, 1) := by decide +kernel
theorem dX9_readThing_90 : decode cX9_readThing 90 = .ok (.isub, 1) := by decide +kernel
theorem dX9_readThing_91 : decode cX9_readThing 91 = .ok (.putfield 81, 3) := by decide +kernel
theorem dX9_readThing_94 : decode cX9_readThing 94 = .ok (.iconst 0, 1) := by decide +kernel
theorem dX9_readThing_95 : decode cX9_readThing 95 = .ok (.ireturn, 1) := by decide +kernel
theorem dX9_readFamily_0 : decode cX9_readFamily 0 = .ok (.aload_n 0, 1) := by decide +kernel
theorem dX9_readFamily_1 : decode cX9_readFamily 1 = .ok (.iconst 0, 1) := by decide +kernel
theorem dX9_readFamily_2 : decode cX9_readFamily 2 = .ok (.putfield 81, 3) := by decide +kernel
theorem dX9_readFamily_5 : decode cX9_readFamily 5 = .ok (.aload_n 0, 1) := by decide +kernel
theorem dX9_readFamily_6 : decode cX9_readFamily 6 = .ok (.iconst 0, 1) := by decide +kernel
theorem dX9_readFamily_7 : decode cX9_readFamily 7 = .ok (.putfield 91, 3) := by decide +kernel
theorem dX9_readFamily_10 : decode cX9_readFamily 10 = .ok (.aload_n 0, 1) := by decide +kernel
theorem dX9_readFamily_11 : decode cX9_readFamily 11 = .ok (.iconst 0, 1) := by decide +kernel
theorem dX9_readFamily_12 : decode cX9_readFamily 12 = .ok (.putfield 88, 3) := by decide +kernel
theorem dX9_readFamily_15 : decode cX9_readFamily 15 = .ok (.aload_n 0, 1) := by decide +kernel
theorem dX9_readFamily_16 : decode cX9_readFamily 16 = .ok (.iconst 0, 1) := by decide +kernel
theorem dX9_readFamily_17 : decode cX9_readFamily 17 = .ok (.putfield 94, 3) := by decide +kernel
theorem dX9_readFamily_20 : decode cX9_readFamily 20 = .ok (.aload_n 0, 1) := by decide +kernel
theorem dX9_readFamily_21 : decode cX9_readFamily 21 = .ok (.getfield 78, 3) := by decide +kernel
theorem dX9_readFamily_24 : decode cX9_readFamily 24 = .ok (.ifCond .eq 14, 3) := by decide +kernel
theorem dX9_readFamily_27 : decode cX9_readFamily 27 = .ok (.aload_n 0, 1) := by decide +kernel
theorem dX9_readFamily_28 : decode cX9_readFamily 28 = .ok (.getfield 7, 3) := by decide +kernel
theorem dX9_readFamily_31 : decode cX9_readFamily 31 = .ok (.iconst 0, 1) := by decide +kernel
theorem dX9_readFamily_32 : decode cX9_readFamily 32 = .ok (.iaload, 1) := by decide +kernel
theorem dX9_readFamily_33 : decode cX9_readFamily 33 = .ok (.bipush 70, 2) := by decide +kernel
theorem dX9_readFamily_35 : decode cX9_readFamily 35 = .ok (.if_icmp .eq 5, 3) := by decide +kernel
theorem dX9_readFamily_38 : decode cX9_readFamily 38 = .ok (.iconst 0, 1) := by decide +kernel
theorem dX9_readFamily_39 : decode cX9_readFamily 39 = .ok (.ireturn, 1) := by decide +kernel
theorem dX9_readFamily_40 : decode cX9_readFamily 40 = .ok (.aload_n 0, 1) := by decide +kernel
theorem dX9_readFamily_41 : decode cX9_readFamily 41 = .ok (.iconst 1, 1) := by decide +kernel
theorem dX9_readFamily_42 : decode cX9_readFamily 42 = .ok (.putfield 81, 3) := by decide +kernel
theorem dX9_readFamily_45 : decode cX9_readFamily 45 = .ok (.aload_n 0, 1) := by decide +kernel
theorem dX9_readFamily_46 : decode cX9_readFamily 46 = .ok (.getfield 81, 3) := by decide +kernel
theorem dX9_readFamily_49 : decode cX9_readFamily 49 = .ok (.aload_n 0, 1) := by decide +kernel
theorem dX9_readFamily_50 : decode cX9_readFamily 50 = .ok (.getfield 78, 3) := by decide +kernel
theorem dX9_readFamily_53 : decode cX9_readFamily 53 = .ok (.if_icmp .ge 15, 3) := by decide +kernel
theorem dX9_readFamily_56 : decode cX9_readFamily 56 = .ok (.aload_n 0, 1) := by decide +kernel
theorem dX9_readFamily_57 : decode cX9_readFamily 57 = .ok (.invokevirtual 107, 3) := by decide +kernel
theorem dX9_readFamily_60 : decode cX9_readFamily 60 = .ok (.ifCond .ne (-15), 3) := by decide +kernel
theorem dX9_readFamily_63 : decode cX9_readFamily 63 = .ok (.aload_n 0, 1) := by decide +kernel
theorem dX9_readFamily_64 : decode cX9_readFamily 64 = .ok (.getfield 81, 3) := by decide +kernel
theorem dX9_readFamily_67 : decode cX9_readFamily 67 = .ok (.ireturn, 1) := by decide +kernel
theorem dX9_readFamily_68 : decode cX9_readFamily 68 = .ok (.bipush (-9), 2) := by decide +kernel
theorem dX9_readFamily_70 : decode cX9_readFamily 70 = .ok (.ireturn, 1) := by decide +kernel
theorem dX9_fault_0 : decode cX9_fault 0 = .ok (.aload_n 0, 1) := by decide +kernel
theorem dX9_fault_1 : decode cX9_fault 1 = .ok (.iconst 0, 1) := by decide +kernel
theorem dX9_fault_2 : decode cX9_fault 2 = .ok (.putfield 68, 3) := by decide +kernel
theorem dX9_fault_5 : decode cX9_fault 5 = .ok (.aload_n 0, 1) := by decide +kernel
theorem dX9_fault_6 : decode cX9_fault 6 = .ok (.invokevirtual 110, 3) := by decide +kernel
theorem dX9_fault_9 : decode cX9_fault 9 = .ok (.ireturn, 1) := by decide +kernel
theorem dX9_copyRow_0 : decode cX9_copyRow 0 = .ok (.iconst 0, 1) := by decide +kernel
theorem dX9_copyRow_1 : decode cX9_copyRow 1 = .ok (.istore_n 3, 1) := by decide +kernel
theorem dX9_copyRow_2 : decode cX9_copyRow 2 = .ok (.iload_n 3, 1) := by decide +kernel
theorem dX9_copyRow_3 : decode cX9_copyRow 3 = .ok (.iload_n 2, 1) := by decide +kernel
theorem dX9_copyRow_4 : decode cX9_copyRow 4 = .ok (.if_icmp .ge 15, 3) := by decide +kernel
theorem dX9_copyRow_7 : decode cX9_copyRow 7 = .ok (.aload_n 1, 1) := by decide +kernel
theorem dX9_copyRow_8 : decode cX9_copyRow 8 = .ok (.iload_n 3, 1) := by decide +kernel
theorem dX9_copyRow_9 : decode cX9_copyRow 9 = .ok (.aload_n 0, 1) := by decide +kernel
theorem dX9_copyRow_10 : decode cX9_copyRow 10 = .ok (.iload_n 3, 1) := by decide +kernel
theorem dX9_copyRow_11 : decode cX9_copyRow 11 = .ok (.iaload, 1) := by decide +kernel
theorem dX9_copyRow_12 : decode cX9_copyRow 12 = .ok (.iastore, 1) := by decide +kernel
theorem dX9_copyRow_13 : decode cX9_copyRow 13 = .ok (.iinc 3 1, 3) := by decide +kernel
theorem dX9_copyRow_16 : decode cX9_copyRow 16 = .ok (.goto (-14), 3) := by decide +kernel
theorem dX9_copyRow_19 : decode cX9_copyRow 19 = .ok (.return_, 1) := by decide +kernel
theorem dX9_family_0 : decode cX9_family 0 = .ok (.aload_n 0, 1) := by decide +kernel
theorem dX9_family_1 : decode cX9_family 1 = .ok (.iconst 0, 1) := by decide +kernel
theorem dX9_family_2 : decode cX9_family 2 = .ok (.putfield 68, 3) := by decide +kernel
theorem dX9_family_5 : decode cX9_family 5 = .ok (.aload_n 0, 1) := by decide +kernel
theorem dX9_family_6 : decode cX9_family 6 = .ok (.invokevirtual 110, 3) := by decide +kernel
theorem dX9_family_9 : decode cX9_family 9 = .ok (.bipush (-9), 2) := by decide +kernel
theorem dX9_family_11 : decode cX9_family 11 = .ok (.if_icmp .eq 6, 3) := by decide +kernel
theorem dX9_family_14 : decode cX9_family 14 = .ok (.bipush (-3), 2) := by decide +kernel
theorem dX9_family_16 : decode cX9_family 16 = .ok (.ireturn, 1) := by decide +kernel
theorem dX9_family_17 : decode cX9_family 17 = .ok (.aload_n 0, 1) := by decide +kernel
theorem dX9_family_18 : decode cX9_family 18 = .ok (.aload_n 0, 1) := by decide +kernel
theorem dX9_family_19 : decode cX9_family 19 = .ok (.getfield 91, 3) := by decide +kernel
theorem dX9_family_22 : decode cX9_family 22 = .ok (.putfield 114, 3) := by decide +kernel
theorem dX9_family_25 : decode cX9_family 25 = .ok (.aload_n 0, 1) := by decide +kernel
theorem dX9_family_26 : decode cX9_family 26 = .ok (.aload_n 0, 1) := by decide +kernel
theorem dX9_family_27 : decode cX9_family 27 = .ok (.getfield 88, 3) := by decide +kernel
theorem dX9_family_30 : decode cX9_family 30 = .ok (.putfield 117, 3) := by decide +kernel
theorem dX9_family_33 : decode cX9_family 33 = .ok (.aload_n 0, 1) := by decide +kernel
theorem dX9_family_34 : decode cX9_family 34 = .ok (.aload_n 0, 1) := by decide +kernel
theorem dX9_family_35 : decode cX9_family 35 = .ok (.getfield 94, 3) := by decide +kernel
theorem dX9_family_38 : decode cX9_family 38 = .ok (.putfield 120, 3) := by decide +kernel
theorem dX9_family_41 : decode cX9_family 41 = .ok (.aload_n 0, 1) := by decide +kernel
theorem dX9_family_42 : decode cX9_family 42 = .ok (.getfield 25, 3) := by decide +kernel
theorem dX9_family_45 : decode cX9_family 45 = .ok (.aload_n 0, 1) := by decide +kernel
theorem dX9_family_46 : decode cX9_family 46 = .ok (.getfield 13, 3) := by decide +kernel
theorem dX9_family_49 : decode cX9_family 49 = .ok (.iconst 5, 1) := by decide +kernel
theorem dX9_family_50 : decode cX9_family 50 = .ok (.invokestatic 123, 3) := by decide +kernel
theorem dX9_family_53 : decode cX9_family 53 = .ok (.aload_n 0, 1) := by decide +kernel
theorem dX9_family_54 : decode cX9_family 54 = .ok (.getfield 28, 3) := by decide +kernel
theorem dX9_family_57 : decode cX9_family 57 = .ok (.aload_n 0, 1) := by decide +kernel
theorem dX9_family_58 : decode cX9_family 58 = .ok (.getfield 16, 3) := by decide +kernel
theorem dX9_family_61 : decode cX9_family 61 = .ok (.iconst 4, 1) := by decide +kernel
theorem dX9_family_62 : decode cX9_family 62 = .ok (.invokestatic 123, 3) := by decide +kernel
theorem dX9_family_65 : decode cX9_family 65 = .ok (.aload_n 0, 1) := by decide +kernel
theorem dX9_family_66 : decode cX9_family 66 = .ok (.getfield 31, 3) := by decide +kernel
theorem dX9_family_69 : decode cX9_family 69 = .ok (.aload_n 0, 1) := by decide +kernel
theorem dX9_family_70 : decode cX9_family 70 = .ok (.getfield 19, 3) := by decide +kernel
theorem dX9_family_73 : decode cX9_family 73 = .ok (.iconst 4, 1) := by decide +kernel
theorem dX9_family_74 : decode cX9_family 74 = .ok (.invokestatic 123, 3) := by decide +kernel
theorem dX9_family_77 : decode cX9_family 77 = .ok (.iconst 0, 1) := by decide +kernel
theorem dX9_family_78 : decode cX9_family 78 = .ok (.istore_n 1, 1) := by decide +kernel
theorem dX9_family_79 : decode cX9_family 79 = .ok (.iload_n 1, 1) := by decide +kernel
theorem dX9_family_80 : decode cX9_family 80 = .ok (.bipush 31, 2) := by decide +kernel
theorem dX9_family_82 : decode cX9_family 82 = .ok (.if_icmp .ge 28, 3) := by decide +kernel
theorem dX9_family_85 : decode cX9_family 85 = .ok (.aload_n 0, 1) := by decide +kernel
theorem dX9_family_86 : decode cX9_family 86 = .ok (.getfield 34, 3) := by decide +kernel
theorem dX9_family_89 : decode cX9_family 89 = .ok (.iload_n 1, 1) := by decide +kernel
theorem dX9_family_90 : decode cX9_family 90 = .ok (.iload_n 1, 1) := by decide +kernel
theorem dX9_family_91 : decode cX9_family 91 = .ok (.aload_n 0, 1) := by decide +kernel
theorem dX9_family_92 : decode cX9_family 92 = .ok (.getfield 114, 3) := by decide +kernel
theorem dX9_family_95 : decode cX9_family 95 = .ok (.if_icmp .ge 7, 3) := by decide +kernel
theorem dX9_family_98 : decode cX9_family 98 = .ok (.iconst 2, 1) := by decide +kernel
theorem dX9_family_99 : decode cX9_family 99 = .ok (.goto 4, 3) := by decide +kernel
theorem dX9_family_102 : decode cX9_family 102 = .ok (.iconst 0, 1) := by decide +kernel
theorem dX9_family_103 : decode cX9_family 103 = .ok (.iastore, 1) := by decide +kernel
theorem dX9_family_104 : decode cX9_family 104 = .ok (.iinc 1 1, 3) := by decide +kernel
theorem dX9_family_107 : decode cX9_family 107 = .ok (.goto (-28), 3) := by decide +kernel
theorem dX9_family_110 : decode cX9_family 110 = .ok (.iconst 0, 1) := by decide +kernel
theorem dX9_family_111 : decode cX9_family 111 = .ok (.istore_n 1, 1) := by decide +kernel
theorem dX9_family_112 : decode cX9_family 112 = .ok (.iload_n 1, 1) := by decide +kernel
theorem dX9_family_113 : decode cX9_family 113 = .ok (.iconst 5, 1) := by decide +kernel
theorem dX9_family_114 : decode cX9_family 114 = .ok (.aload_n 0, 1) := by decide +kernel
theorem dX9_family_115 : decode cX9_family 115 = .ok (.getfield 114, 3) := by decide +kernel
theorem dX9_family_118 : decode cX9_family 118 = .ok (.imul, 1) := by decide +kernel
theorem dX9_family_119 : decode cX9_family 119 = .ok (.if_icmp .ge 23, 3) := by decide +kernel
theorem dX9_family_122 : decode cX9_family 122 = .ok (.aload_n 0, 1) := by decide +kernel
theorem dX9_family_123 : decode cX9_family 123 = .ok (.getfield 34, 3) := by decide +kernel
theorem dX9_family_126 : decode cX9_family 126 = .ok (.iconst 5, 1) := by decide +kernel
theorem dX9_family_127 : decode cX9_family 127 = .ok (.iload_n 1, 1) := by decide +kernel
theorem dX9_family_128 : decode cX9_family 128 = .ok (.iadd, 1) := by decide +kernel
theorem dX9_family_129 : decode cX9_family 129 = .ok (.aload_n 0, 1) := by decide +kernel
theorem dX9_family_130 : decode cX9_family 130 = .ok (.getfield 22, 3) := by decide +kernel
theorem dX9_family_133 : decode cX9_family 133 = .ok (.iload_n 1, 1) := by decide +kernel
theorem dX9_family_134 : decode cX9_family 134 = .ok (.iaload, 1) := by decide +kernel
theorem dX9_family_135 : decode cX9_family 135 = .ok (.iastore, 1) := by decide +kernel
theorem dX9_family_136 : decode cX9_family 136 = .ok (.iinc 1 1, 3) := by decide +kernel
theorem dX9_family_139 : decode cX9_family 139 = .ok (.goto (-27), 3) := by decide +kernel
theorem dX9_family_142 : decode cX9_family 142 = .ok (.aload_n 0, 1) := by decide +kernel
theorem dX9_family_143 : decode cX9_family 143 = .ok (.iconst 0, 1) := by decide +kernel
theorem dX9_family_144 : decode cX9_family 144 = .ok (.putfield 127, 3) := by decide +kernel
theorem dX9_family_147 : decode cX9_family 147 = .ok (.aload_n 0, 1) := by decide +kernel
theorem dX9_family_148 : decode cX9_family 148 = .ok (.getfield 46, 3) := by decide +kernel
theorem dX9_family_151 : decode cX9_family 151 = .ok (.iconst 0, 1) := by decide +kernel
theorem dX9_family_152 : decode cX9_family 152 = .ok (.iconst 0, 1) := by decide +kernel
theorem dX9_family_153 : decode cX9_family 153 = .ok (.bastore, 1) := by decide +kernel
theorem dX9_family_154 : decode cX9_family 154 = .ok (.aload_n 0, 1) := by decide +kernel
theorem dX9_family_155 : decode cX9_family 155 = .ok (.getfield 46, 3) := by decide +kernel
theorem dX9_family_158 : decode cX9_family 158 = .ok (.iconst 1, 1) := by decide +kernel
theorem dX9_family_159 : decode cX9_family 159 = .ok (.iconst 0, 1) := by decide +kernel
theorem dX9_family_160 : decode cX9_family 160 = .ok (.bastore, 1) := by decide +kernel
theorem dX9_family_161 : decode cX9_family 161 = .ok (.bipush 100, 2) := by decide +kernel
theorem dX9_family_163 : decode cX9_family 163 = .ok (.aload_n 0, 1) := by decide +kernel
theorem dX9_family_164 : decode cX9_family 164 = .ok (.getfield 114, 3) := by decide +kernel
theorem dX9_family_167 : decode cX9_family 167 = .ok (.imul, 1) := by decide +kernel
theorem dX9_family_168 : decode cX9_family 168 = .ok (.bipush 10, 2) := by decide +kernel
theorem dX9_family_170 : decode cX9_family 170 = .ok (.aload_n 0, 1) := by decide +kernel
theorem dX9_family_171 : decode cX9_family 171 = .ok (.getfield 117, 3) := by decide +kernel
theorem dX9_family_174 : decode cX9_family 174 = .ok (.imul, 1) := by decide +kernel
theorem dX9_family_175 : decode cX9_family 175 = .ok (.iadd, 1) := by decide +kernel
theorem dX9_family_176 : decode cX9_family 176 = .ok (.aload_n 0, 1) := by decide +kernel
theorem dX9_family_177 : decode cX9_family 177 = .ok (.getfield 120, 3) := by decide +kernel
theorem dX9_family_180 : decode cX9_family 180 = .ok (.iadd, 1) := by decide +kernel
theorem dX9_family_181 : decode cX9_family 181 = .ok (.ireturn, 1) := by decide +kernel
theorem dX9_layHalves_0 : decode cX9_layHalves 0 = .ok (.iconst 0, 1) := by decide +kernel
theorem dX9_layHalves_1 : decode cX9_layHalves 1 = .ok (.istore_n 2, 1) := by decide +kernel
theorem dX9_layHalves_2 : decode cX9_layHalves 2 = .ok (.iload_n 2, 1) := by decide +kernel
theorem dX9_layHalves_3 : decode cX9_layHalves 3 = .ok (.iconst 5, 1) := by decide +kernel
theorem dX9_layHalves_4 : decode cX9_layHalves 4 = .ok (.if_icmp .ge 23, 3) := by decide +kernel
theorem dX9_layHalves_7 : decode cX9_layHalves 7 = .ok (.aload_n 0, 1) := by decide +kernel
theorem dX9_layHalves_8 : decode cX9_layHalves 8 = .ok (.getfield 56, 3) := by decide +kernel
theorem dX9_layHalves_11 : decode cX9_layHalves 11 = .ok (.iload_n 2, 1) := by decide +kernel
theorem dX9_layHalves_12 : decode cX9_layHalves 12 = .ok (.iconst 0, 1) := by decide +kernel
theorem dX9_layHalves_13 : decode cX9_layHalves 13 = .ok (.iastore, 1) := by decide +kernel
theorem dX9_layHalves_14 : decode cX9_layHalves 14 = .ok (.aload_n 0, 1) := by decide +kernel
theorem dX9_layHalves_15 : decode cX9_layHalves 15 = .ok (.getfield 59, 3) := by decide +kernel
theorem dX9_layHalves_18 : decode cX9_layHalves 18 = .ok (.iload_n 2, 1) := by decide +kernel
theorem dX9_layHalves_19 : decode cX9_layHalves 19 = .ok (.iconst 0, 1) := by decide +kernel
theorem dX9_layHalves_20 : decode cX9_layHalves 20 = .ok (.iastore, 1) := by decide +kernel
theorem dX9_layHalves_21 : decode cX9_layHalves 21 = .ok (.iinc 2 1, 3) := by decide +kernel
theorem dX9_layHalves_24 : decode cX9_layHalves 24 = .ok (.goto (-22), 3) := by decide +kernel
theorem dX9_layHalves_27 : decode cX9_layHalves 27 = .ok (.iconst 0, 1) := by decide +kernel
theorem dX9_layHalves_28 : decode cX9_layHalves 28 = .ok (.istore_n 2, 1) := by decide +kernel
theorem dX9_layHalves_29 : decode cX9_layHalves 29 = .ok (.iload_n 2, 1) := by decide +kernel
theorem dX9_layHalves_30 : decode cX9_layHalves 30 = .ok (.aload_n 0, 1) := by decide +kernel
theorem dX9_layHalves_31 : decode cX9_layHalves 31 = .ok (.getfield 114, 3) := by decide +kernel
theorem dX9_layHalves_34 : decode cX9_layHalves 34 = .ok (.if_icmp .ge 79, 3) := by decide +kernel
theorem dX9_layHalves_37 : decode cX9_layHalves 37 = .ok (.iconst 0, 1) := by decide +kernel
theorem dX9_layHalves_38 : decode cX9_layHalves 38 = .ok (.istore_n 3, 1) := by decide +kernel
theorem dX9_layHalves_39 : decode cX9_layHalves 39 = .ok (.iload_n 3, 1) := by decide +kernel
theorem dX9_layHalves_40 : decode cX9_layHalves 40 = .ok (.iconst 5, 1) := by decide +kernel
theorem dX9_layHalves_41 : decode cX9_layHalves 41 = .ok (.if_icmp .ge 66, 3) := by decide +kernel
theorem dX9_layHalves_44 : decode cX9_layHalves 44 = .ok (.aload_n 1, 1) := by decide +kernel
theorem dX9_layHalves_45 : decode cX9_layHalves 45 = .ok (.iconst 5, 1) := by decide +kernel
theorem dX9_layHalves_46 : decode cX9_layHalves 46 = .ok (.iconst 5, 1) := by decide +kernel
theorem dX9_layHalves_47 : decode cX9_layHalves 47 = .ok (.iload_n 2, 1) := by decide +kernel
theorem dX9_layHalves_48 : decode cX9_layHalves 48 = .ok (.imul, 1) := by decide +kernel
theorem dX9_layHalves_49 : decode cX9_layHalves 49 = .ok (.iadd, 1) := by decide +kernel
theorem dX9_layHalves_50 : decode cX9_layHalves 50 = .ok (.iload_n 3, 1) := by decide +kernel
theorem dX9_layHalves_51 : decode cX9_layHalves 51 = .ok (.iadd, 1) := by decide +kernel
theorem dX9_layHalves_52 : decode cX9_layHalves 52 = .ok (.iaload, 1) := by decide +kernel
theorem dX9_layHalves_53 : decode cX9_layHalves 53 = .ok (.iconst 4, 1) := by decide +kernel
theorem dX9_layHalves_54 : decode cX9_layHalves 54 = .ok (.idiv, 1) := by decide +kernel
theorem dX9_layHalves_55 : decode cX9_layHalves 55 = .ok (.istore 4, 2) := by decide +kernel
theorem dX9_layHalves_57 : decode cX9_layHalves 57 = .ok (.aload_n 0, 1) := by decide +kernel
theorem dX9_layHalves_58 : decode cX9_layHalves 58 = .ok (.getfield 56, 3) := by decide +kernel
theorem dX9_layHalves_61 : decode cX9_layHalves 61 = .ok (.iload 4, 2) := by decide +kernel
theorem dX9_layHalves_63 : decode cX9_layHalves 63 = .ok (.dup2, 1) := by decide +kernel
theorem dX9_layHalves_64 : decode cX9_layHalves 64 = .ok (.iaload, 1) := by decide +kernel
theorem dX9_layHalves_65 : decode cX9_layHalves 65 = .ok (.iload_n 3, 1) := by decide +kernel
theorem dX9_layHalves_66 : decode cX9_layHalves 66 = .ok (.aload_n 1, 1) := by decide +kernel
theorem dX9_layHalves_67 : decode cX9_layHalves 67 = .ok (.iload_n 2, 1) := by decide +kernel
theorem dX9_layHalves_68 : decode cX9_layHalves 68 = .ok (.iaload, 1) := by decide +kernel
theorem dX9_layHalves_69 : decode cX9_layHalves 69 = .ok (.if_icmp .ge 7, 3) := by decide +kernel
theorem dX9_layHalves_72 : decode cX9_layHalves 72 = .ok (.iconst 1, 1) := by decide +kernel
theorem dX9_layHalves_73 : decode cX9_layHalves 73 = .ok (.goto 4, 3) := by decide +kernel
theorem dX9_layHalves_76 : decode cX9_layHalves 76 = .ok (.iconst 0, 1) := by decide +kernel
theorem dX9_layHalves_77 : decode cX9_layHalves 77 = .ok (.iadd, 1) := by decide +kernel
theorem dX9_layHalves_78 : decode cX9_layHalves 78 = .ok (.iastore, 1) := by decide +kernel
theorem dX9_layHalves_79 : decode cX9_layHalves 79 = .ok (.aload_n 0, 1) := by decide +kernel
theorem dX9_layHalves_80 : decode cX9_layHalves 80 = .ok (.getfield 59, 3) := by decide +kernel
theorem dX9_layHalves_83 : decode cX9_layHalves 83 = .ok (.iload 4, 2) := by decide +kernel
theorem dX9_layHalves_85 : decode cX9_layHalves 85 = .ok (.dup2, 1) := by decide +kernel
theorem dX9_layHalves_86 : decode cX9_layHalves 86 = .ok (.iaload, 1) := by decide +kernel
theorem dX9_layHalves_87 : decode cX9_layHalves 87 = .ok (.iload_n 3, 1) := by decide +kernel
theorem dX9_layHalves_88 : decode cX9_layHalves 88 = .ok (.aload_n 1, 1) := by decide +kernel
theorem dX9_layHalves_89 : decode cX9_layHalves 89 = .ok (.iload_n 2, 1) := by decide +kernel
theorem dX9_layHalves_90 : decode cX9_layHalves 90 = .ok (.iaload, 1) := by decide +kernel
theorem dX9_layHalves_91 : decode cX9_layHalves 91 = .ok (.if_icmp .ge 7, 3) := by decide +kernel
theorem dX9_layHalves_94 : decode cX9_layHalves 94 = .ok (.iconst 0, 1) := by decide +kernel
theorem dX9_layHalves_95 : decode cX9_layHalves 95 = .ok (.goto 4, 3) := by decide +kernel
theorem dX9_layHalves_98 : decode cX9_layHalves 98 = .ok (.iconst 1, 1) := by decide +kernel
theorem dX9_layHalves_99 : decode cX9_layHalves 99 = .ok (.iadd, 1) := by decide +kernel
theorem dX9_layHalves_100 : decode cX9_layHalves 100 = .ok (.iastore, 1) := by decide +kernel
theorem dX9_layHalves_101 : decode cX9_layHalves 101 = .ok (.iinc 3 1, 3) := by decide +kernel
theorem dX9_layHalves_104 : decode cX9_layHalves 104 = .ok (.goto (-65), 3) := by decide +kernel
theorem dX9_layHalves_107 : decode cX9_layHalves 107 = .ok (.iinc 2 1, 3) := by decide +kernel
theorem dX9_layHalves_110 : decode cX9_layHalves 110 = .ok (.goto (-81), 3) := by decide +kernel
theorem dX9_layHalves_113 : decode cX9_layHalves 113 = .ok (.return_, 1) := by decide +kernel
theorem dX9_partedLaid_0 : decode cX9_partedLaid 0 = .ok (.iconst 0, 1) := by decide +kernel
theorem dX9_partedLaid_1 : decode cX9_partedLaid 1 = .ok (.istore_n 1, 1) := by decide +kernel
theorem dX9_partedLaid_2 : decode cX9_partedLaid 2 = .ok (.iconst 0, 1) := by decide +kernel
theorem dX9_partedLaid_3 : decode cX9_partedLaid 3 = .ok (.istore_n 2, 1) := by decide +kernel
theorem dX9_partedLaid_4 : decode cX9_partedLaid 4 = .ok (.iload_n 2, 1) := by decide +kernel
theorem dX9_partedLaid_5 : decode cX9_partedLaid 5 = .ok (.aload_n 0, 1) := by decide +kernel
theorem dX9_partedLaid_6 : decode cX9_partedLaid 6 = .ok (.getfield 117, 3) := by decide +kernel
theorem dX9_partedLaid_9 : decode cX9_partedLaid 9 = .ok (.if_icmp .ge 37, 3) := by decide +kernel
theorem dX9_partedLaid_12 : decode cX9_partedLaid 12 = .ok (.iload_n 1, 1) := by decide +kernel
theorem dX9_partedLaid_13 : decode cX9_partedLaid 13 = .ok (.aload_n 0, 1) := by decide +kernel
theorem dX9_partedLaid_14 : decode cX9_partedLaid 14 = .ok (.getfield 56, 3) := by decide +kernel
theorem dX9_partedLaid_17 : decode cX9_partedLaid 17 = .ok (.iload_n 2, 1) := by decide +kernel
theorem dX9_partedLaid_18 : decode cX9_partedLaid 18 = .ok (.iaload, 1) := by decide +kernel
theorem dX9_partedLaid_19 : decode cX9_partedLaid 19 = .ok (.ifCond .le 18, 3) := by decide +kernel
theorem dX9_partedLaid_22 : decode cX9_partedLaid 22 = .ok (.aload_n 0, 1) := by decide +kernel
theorem dX9_partedLaid_23 : decode cX9_partedLaid 23 = .ok (.getfield 59, 3) := by decide +kernel
theorem dX9_partedLaid_26 : decode cX9_partedLaid 26 = .ok (.iload_n 2, 1) := by decide +kernel
theorem dX9_partedLaid_27 : decode cX9_partedLaid 27 = .ok (.iaload, 1) := by decide +kernel
theorem dX9_partedLaid_28 : decode cX9_partedLaid 28 = .ok (.ifCond .le 9, 3) := by decide +kernel
theorem dX9_partedLaid_31 : decode cX9_partedLaid 31 = .ok (.iconst 1, 1) := by decide +kernel
theorem dX9_partedLaid_32 : decode cX9_partedLaid 32 = .ok (.iload_n 2, 1) := by decide +kernel
theorem dX9_partedLaid_33 : decode cX9_partedLaid 33 = .ok (.ishl, 1) := by decide +kernel
theorem dX9_partedLaid_34 : decode cX9_partedLaid 34 = .ok (.goto 4, 3) := by decide +kernel
theorem dX9_partedLaid_37 : decode cX9_partedLaid 37 = .ok (.iconst 0, 1) := by decide +kernel
theorem dX9_partedLaid_38 : decode cX9_partedLaid 38 = .ok (.ior, 1) := by decide +kernel
theorem dX9_partedLaid_39 : decode cX9_partedLaid 39 = .ok (.istore_n 1, 1) := by decide +kernel
theorem dX9_partedLaid_40 : decode cX9_partedLaid 40 = .ok (.iinc 2 1, 3) := by decide +kernel
theorem dX9_partedLaid_43 : decode cX9_partedLaid 43 = .ok (.goto (-39), 3) := by decide +kernel
theorem dX9_partedLaid_46 : decode cX9_partedLaid 46 = .ok (.iload_n 1, 1) := by decide +kernel
theorem dX9_partedLaid_47 : decode cX9_partedLaid 47 = .ok (.ireturn, 1) := by decide +kernel
theorem dX9_countsFor_0 : decode cX9_countsFor 0 = .ok (.aload_n 1, 1) := by decide +kernel
theorem dX9_countsFor_1 : decode cX9_countsFor 1 = .ok (.iconst 5, 1) := by decide +kernel
theorem dX9_countsFor_2 : decode cX9_countsFor 2 = .ok (.iconst 5, 1) := by decide +kernel
theorem dX9_countsFor_3 : decode cX9_countsFor 3 = .ok (.iload_n 2, 1) := by decide +kernel
theorem dX9_countsFor_4 : decode cX9_countsFor 4 = .ok (.imul, 1) := by decide +kernel
theorem dX9_countsFor_5 : decode cX9_countsFor 5 = .ok (.iadd, 1) := by decide +kernel
theorem dX9_countsFor_6 : decode cX9_countsFor 6 = .ok (.iload_n 3, 1) := by decide +kernel
theorem dX9_countsFor_7 : decode cX9_countsFor 7 = .ok (.iadd, 1) := by decide +kernel
theorem dX9_countsFor_8 : decode cX9_countsFor 8 = .ok (.iaload, 1) := by decide +kernel
theorem dX9_countsFor_9 : decode cX9_countsFor 9 = .ok (.istore 4, 2) := by decide +kernel
theorem dX9_countsFor_11 : decode cX9_countsFor 11 = .ok (.iload 4, 2) := by decide +kernel
theorem dX9_countsFor_13 : decode cX9_countsFor 13 = .ok (.iconst 4, 1) := by decide +kernel
theorem dX9_countsFor_14 : decode cX9_countsFor 14 = .ok (.idiv, 1) := by decide +kernel
theorem dX9_countsFor_15 : decode cX9_countsFor 15 = .ok (.istore 5, 2) := by decide +kernel
theorem dX9_countsFor_17 : decode cX9_countsFor 17 = .ok (.aload_n 0, 1) := by decide +kernel
theorem dX9_countsFor_18 : decode cX9_countsFor 18 = .ok (.getfield 13, 3) := by decide +kernel
theorem dX9_countsFor_21 : decode cX9_countsFor 21 = .ok (.iload 5, 2) := by decide +kernel
theorem dX9_countsFor_23 : decode cX9_countsFor 23 = .ok (.iaload, 1) := by decide +kernel
theorem dX9_countsFor_24 : decode cX9_countsFor 24 = .ok (.iconst 1, 1) := by decide +kernel
theorem dX9_countsFor_25 : decode cX9_countsFor 25 = .ok (.if_icmp .eq 21, 3) := by decide +kernel
theorem dX9_countsFor_28 : decode cX9_countsFor 28 = .ok (.aload_n 0, 1) := by decide +kernel
theorem dX9_countsFor_29 : decode cX9_countsFor 29 = .ok (.getfield 13, 3) := by decide +kernel
theorem dX9_countsFor_32 : decode cX9_countsFor 32 = .ok (.iload 5, 2) := by decide +kernel
theorem dX9_countsFor_34 : decode cX9_countsFor 34 = .ok (.iaload, 1) := by decide +kernel
theorem dX9_countsFor_35 : decode cX9_countsFor 35 = .ok (.iconst 2, 1) := by decide +kernel
theorem dX9_countsFor_36 : decode cX9_countsFor 36 = .ok (.if_icmp .ne 12, 3) := by decide +kernel
theorem dX9_countsFor_39 : decode cX9_countsFor 39 = .ok (.iload 4, 2) := by decide +kernel
theorem dX9_countsFor_41 : decode cX9_countsFor 41 = .ok (.iconst 4, 1) := by decide +kernel
theorem dX9_countsFor_42 : decode cX9_countsFor 42 = .ok (.irem, 1) := by decide +kernel
theorem dX9_countsFor_43 : decode cX9_countsFor 43 = .ok (.ifCond .ne 5, 3) := by decide +kernel
theorem dX9_countsFor_46 : decode cX9_countsFor 46 = .ok (.iconst 3, 1) := by decide +kernel
theorem dX9_countsFor_47 : decode cX9_countsFor 47 = .ok (.ireturn, 1) := by decide +kernel
theorem dX9_countsFor_48 : decode cX9_countsFor 48 = .ok (.aload_n 0, 1) := by decide +kernel
theorem dX9_countsFor_49 : decode cX9_countsFor 49 = .ok (.getfield 13, 3) := by decide +kernel
theorem dX9_countsFor_52 : decode cX9_countsFor 52 = .ok (.iload 5, 2) := by decide +kernel
theorem dX9_countsFor_54 : decode cX9_countsFor 54 = .ok (.iaload, 1) := by decide +kernel
theorem dX9_countsFor_55 : decode cX9_countsFor 55 = .ok (.iconst 3, 1) := by decide +kernel
theorem dX9_countsFor_56 : decode cX9_countsFor 56 = .ok (.if_icmp .ne 25, 3) := by decide +kernel
theorem dX9_countsFor_59 : decode cX9_countsFor 59 = .ok (.aload_n 0, 1) := by decide +kernel
theorem dX9_countsFor_60 : decode cX9_countsFor 60 = .ok (.getfield 56, 3) := by decide +kernel
theorem dX9_countsFor_63 : decode cX9_countsFor 63 = .ok (.iload 5, 2) := by decide +kernel
theorem dX9_countsFor_65 : decode cX9_countsFor 65 = .ok (.iaload, 1) := by decide +kernel
theorem dX9_countsFor_66 : decode cX9_countsFor 66 = .ok (.ifCond .le 15, 3) := by decide +kernel
theorem dX9_countsFor_69 : decode cX9_countsFor 69 = .ok (.aload_n 0, 1) := by decide +kernel
theorem dX9_countsFor_70 : decode cX9_countsFor 70 = .ok (.getfield 59, 3) := by decide +kernel
theorem dX9_countsFor_73 : decode cX9_countsFor 73 = .ok (.iload 5, 2) := by decide +kernel
theorem dX9_countsFor_75 : decode cX9_countsFor 75 = .ok (.iaload, 1) := by decide +kernel
theorem dX9_countsFor_76 : decode cX9_countsFor 76 = .ok (.ifCond .le 5, 3) := by decide +kernel
theorem dX9_countsFor_79 : decode cX9_countsFor 79 = .ok (.iconst 0, 1) := by decide +kernel
theorem dX9_countsFor_80 : decode cX9_countsFor 80 = .ok (.ireturn, 1) := by decide +kernel
theorem dX9_countsFor_81 : decode cX9_countsFor 81 = .ok (.iload_n 3, 1) := by decide +kernel
theorem dX9_countsFor_82 : decode cX9_countsFor 82 = .ok (.aload_n 1, 1) := by decide +kernel
theorem dX9_countsFor_83 : decode cX9_countsFor 83 = .ok (.iload_n 2, 1) := by decide +kernel
theorem dX9_countsFor_84 : decode cX9_countsFor 84 = .ok (.iaload, 1) := by decide +kernel
theorem dX9_countsFor_85 : decode cX9_countsFor 85 = .ok (.if_icmp .ge 7, 3) := by decide +kernel
theorem dX9_countsFor_88 : decode cX9_countsFor 88 = .ok (.iconst 1, 1) := by decide +kernel
theorem dX9_countsFor_89 : decode cX9_countsFor 89 = .ok (.goto 4, 3) := by decide +kernel
theorem dX9_countsFor_92 : decode cX9_countsFor 92 = .ok (.iconst 2, 1) := by decide +kernel
theorem dX9_countsFor_93 : decode cX9_countsFor 93 = .ok (.ireturn, 1) := by decide +kernel
theorem dX9_countOf_0 : decode cX9_countOf 0 = .ok (.iconst 0, 1) := by decide +kernel
theorem dX9_countOf_1 : decode cX9_countOf 1 = .ok (.istore 5, 2) := by decide +kernel
theorem dX9_countOf_3 : decode cX9_countOf 3 = .ok (.iconst 0, 1) := by decide +kernel
theorem dX9_countOf_4 : decode cX9_countOf 4 = .ok (.istore 6, 2) := by decide +kernel
theorem dX9_countOf_6 : decode cX9_countOf 6 = .ok (.iload 6, 2) := by decide +kernel
theorem dX9_countOf_8 : decode cX9_countOf 8 = .ok (.aload_n 0, 1) := by decide +kernel
theorem dX9_countOf_9 : decode cX9_countOf 9 = .ok (.getfield 114, 3) := by decide +kernel
theorem dX9_countOf_12 : decode cX9_countOf 12 = .ok (.if_icmp .ge 83, 3) := by decide +kernel
theorem dX9_countOf_15 : decode cX9_countOf 15 = .ok (.iconst 0, 1) := by decide +kernel
theorem dX9_countOf_16 : decode cX9_countOf 16 = .ok (.istore 7, 2) := by decide +kernel
theorem dX9_countOf_18 : decode cX9_countOf 18 = .ok (.iload 7, 2) := by decide +kernel
theorem dX9_countOf_20 : decode cX9_countOf 20 = .ok (.iconst 5, 1) := by decide +kernel
theorem dX9_countOf_21 : decode cX9_countOf 21 = .ok (.if_icmp .ge 68, 3) := by decide +kernel
theorem dX9_countOf_24 : decode cX9_countOf 24 = .ok (.aload_n 1, 1) := by decide +kernel
theorem dX9_countOf_25 : decode cX9_countOf 25 = .ok (.iconst 5, 1) := by decide +kernel
theorem dX9_countOf_26 : decode cX9_countOf 26 = .ok (.iconst 5, 1) := by decide +kernel
theorem dX9_countOf_27 : decode cX9_countOf 27 = .ok (.iload 6, 2) := by decide +kernel
theorem dX9_countOf_29 : decode cX9_countOf 29 = .ok (.imul, 1) := by decide +kernel
theorem dX9_countOf_30 : decode cX9_countOf 30 = .ok (.iadd, 1) := by decide +kernel
theorem dX9_countOf_31 : decode cX9_countOf 31 = .ok (.iload 7, 2) := by decide +kernel
theorem dX9_countOf_33 : decode cX9_countOf 33 = .ok (.iadd, 1) := by decide +kernel
theorem dX9_countOf_34 : decode cX9_countOf 34 = .ok (.iaload, 1) := by decide +kernel
theorem dX9_countOf_35 : decode cX9_countOf 35 = .ok (.istore 8, 2) := by decide +kernel
theorem dX9_countOf_37 : decode cX9_countOf 37 = .ok (.iload 5, 2) := by decide +kernel
theorem dX9_countOf_39 : decode cX9_countOf 39 = .ok (.iload 8, 2) := by decide +kernel
theorem dX9_countOf_41 : decode cX9_countOf 41 = .ok (.iconst 4, 1) := by decide +kernel
theorem dX9_countOf_42 : decode cX9_countOf 42 = .ok (.irem, 1) := by decide +kernel
theorem dX9_countOf_43 : decode cX9_countOf 43 = .ok (.iload_n 3, 1) := by decide +kernel
theorem dX9_countOf_44 : decode cX9_countOf 44 = .ok (.if_icmp .ne 35, 3) := by decide +kernel
theorem dX9_countOf_47 : decode cX9_countOf 47 = .ok (.iload 4, 2) := by decide +kernel
theorem dX9_countOf_49 : decode cX9_countOf 49 = .ok (.iload 8, 2) := by decide +kernel
theorem dX9_countOf_51 : decode cX9_countOf 51 = .ok (.iconst 4, 1) := by decide +kernel
theorem dX9_countOf_52 : decode cX9_countOf 52 = .ok (.idiv, 1) := by decide +kernel
theorem dX9_countOf_53 : decode cX9_countOf 53 = .ok (.invokestatic 130, 3) := by decide +kernel
theorem dX9_countOf_56 : decode cX9_countOf 56 = .ok (.ifCond .eq 23, 3) := by decide +kernel
theorem dX9_countOf_59 : decode cX9_countOf 59 = .ok (.aload_n 0, 1) := by decide +kernel
theorem dX9_countOf_60 : decode cX9_countOf 60 = .ok (.aload_n 1, 1) := by decide +kernel
theorem dX9_countOf_61 : decode cX9_countOf 61 = .ok (.iload 6, 2) := by decide +kernel
theorem dX9_countOf_63 : decode cX9_countOf 63 = .ok (.iload 7, 2) := by decide +kernel
theorem dX9_countOf_65 : decode cX9_countOf 65 = .ok (.invokevirtual 134, 3) := by decide +kernel
theorem dX9_countOf_68 : decode cX9_countOf 68 = .ok (.iload_n 2, 1) := by decide +kernel
theorem dX9_countOf_69 : decode cX9_countOf 69 = .ok (.invokestatic 130, 3) := by decide +kernel
theorem dX9_countOf_72 : decode cX9_countOf 72 = .ok (.ifCond .eq 7, 3) := by decide +kernel
theorem dX9_countOf_75 : decode cX9_countOf 75 = .ok (.iconst 1, 1) := by decide +kernel
theorem dX9_countOf_76 : decode cX9_countOf 76 = .ok (.goto 4, 3) := by decide +kernel
theorem dX9_countOf_79 : decode cX9_countOf 79 = .ok (.iconst 0, 1) := by decide +kernel
theorem dX9_countOf_80 : decode cX9_countOf 80 = .ok (.iadd, 1) := by decide +kernel
theorem dX9_countOf_81 : decode cX9_countOf 81 = .ok (.istore 5, 2) := by decide +kernel
theorem dX9_countOf_83 : decode cX9_countOf 83 = .ok (.iinc 7 1, 3) := by decide +kernel
theorem dX9_countOf_86 : decode cX9_countOf 86 = .ok (.goto (-68), 3) := by decide +kernel
theorem dX9_countOf_89 : decode cX9_countOf 89 = .ok (.iinc 6 1, 3) := by decide +kernel
theorem dX9_countOf_92 : decode cX9_countOf 92 = .ok (.goto (-86), 3) := by decide +kernel
theorem dX9_countOf_95 : decode cX9_countOf 95 = .ok (.iload 5, 2) := by decide +kernel
theorem dX9_countOf_97 : decode cX9_countOf 97 = .ok (.ireturn, 1) := by decide +kernel
theorem dX9_canOf_0 : decode cX9_canOf 0 = .ok (.iconst 0, 1) := by decide +kernel
theorem dX9_canOf_1 : decode cX9_canOf 1 = .ok (.istore 4, 2) := by decide +kernel
theorem dX9_canOf_3 : decode cX9_canOf 3 = .ok (.iconst 0, 1) := by decide +kernel
theorem dX9_canOf_4 : decode cX9_canOf 4 = .ok (.istore 5, 2) := by decide +kernel
theorem dX9_canOf_6 : decode cX9_canOf 6 = .ok (.iload 5, 2) := by decide +kernel
theorem dX9_canOf_8 : decode cX9_canOf 8 = .ok (.aload_n 0, 1) := by decide +kernel
theorem dX9_canOf_9 : decode cX9_canOf 9 = .ok (.getfield 120, 3) := by decide +kernel
theorem dX9_canOf_12 : decode cX9_canOf 12 = .ok (.if_icmp .ge 46, 3) := by decide +kernel
theorem dX9_canOf_15 : decode cX9_canOf 15 = .ok (.iload 4, 2) := by decide +kernel
theorem dX9_canOf_17 : decode cX9_canOf 17 = .ok (.aload_n 0, 1) := by decide +kernel
theorem dX9_canOf_18 : decode cX9_canOf 18 = .ok (.aload_n 1, 1) := by decide +kernel
theorem dX9_canOf_19 : decode cX9_canOf 19 = .ok (.iload_n 2, 1) := by decide +kernel
theorem dX9_canOf_20 : decode cX9_canOf 20 = .ok (.aload_n 0, 1) := by decide +kernel
theorem dX9_canOf_21 : decode cX9_canOf 21 = .ok (.getfield 16, 3) := by decide +kernel
theorem dX9_canOf_24 : decode cX9_canOf 24 = .ok (.iload 5, 2) := by decide +kernel
theorem dX9_canOf_26 : decode cX9_canOf 26 = .ok (.iaload, 1) := by decide +kernel
theorem dX9_canOf_27 : decode cX9_canOf 27 = .ok (.iload_n 3, 1) := by decide +kernel
theorem dX9_canOf_28 : decode cX9_canOf 28 = .ok (.invokevirtual 138, 3) := by decide +kernel
theorem dX9_canOf_31 : decode cX9_canOf 31 = .ok (.aload_n 0, 1) := by decide +kernel
theorem dX9_canOf_32 : decode cX9_canOf 32 = .ok (.getfield 19, 3) := by decide +kernel
theorem dX9_canOf_35 : decode cX9_canOf 35 = .ok (.iload 5, 2) := by decide +kernel
theorem dX9_canOf_37 : decode cX9_canOf 37 = .ok (.iaload, 1) := by decide +kernel
theorem dX9_canOf_38 : decode cX9_canOf 38 = .ok (.if_icmp .lt 10, 3) := by decide +kernel
theorem dX9_canOf_41 : decode cX9_canOf 41 = .ok (.iconst 1, 1) := by decide +kernel
theorem dX9_canOf_42 : decode cX9_canOf 42 = .ok (.iload 5, 2) := by decide +kernel
theorem dX9_canOf_44 : decode cX9_canOf 44 = .ok (.ishl, 1) := by decide +kernel
theorem dX9_canOf_45 : decode cX9_canOf 45 = .ok (.goto 4, 3) := by decide +kernel
theorem dX9_canOf_48 : decode cX9_canOf 48 = .ok (.iconst 0, 1) := by decide +kernel
theorem dX9_canOf_49 : decode cX9_canOf 49 = .ok (.ior, 1) := by decide +kernel
theorem dX9_canOf_50 : decode cX9_canOf 50 = .ok (.istore 4, 2) := by decide +kernel
theorem dX9_canOf_52 : decode cX9_canOf 52 = .ok (.iinc 5 1, 3) := by decide +kernel
theorem dX9_canOf_55 : decode cX9_canOf 55 = .ok (.goto (-49), 3) := by decide +kernel
theorem dX9_canOf_58 : decode cX9_canOf 58 = .ok (.iload 4, 2) := by decide +kernel
theorem dX9_canOf_60 : decode cX9_canOf 60 = .ok (.ireturn, 1) := by decide +kernel
theorem dX9_slipsOf_0 : decode cX9_slipsOf 0 = .ok (.iconst 0, 1) := by decide +kernel
theorem dX9_slipsOf_1 : decode cX9_slipsOf 1 = .ok (.istore_n 2, 1) := by decide +kernel
theorem dX9_slipsOf_2 : decode cX9_slipsOf 2 = .ok (.iconst 1, 1) := by decide +kernel
theorem dX9_slipsOf_3 : decode cX9_slipsOf 3 = .ok (.istore_n 3, 1) := by decide +kernel
theorem dX9_slipsOf_4 : decode cX9_slipsOf 4 = .ok (.iload_n 3, 1) := by decide +kernel
theorem dX9_slipsOf_5 : decode cX9_slipsOf 5 = .ok (.aload_n 0, 1) := by decide +kernel
theorem dX9_slipsOf_6 : decode cX9_slipsOf 6 = .ok (.getfield 114, 3) := by decide +kernel
theorem dX9_slipsOf_9 : decode cX9_slipsOf 9 = .ok (.if_icmp .ge 28, 3) := by decide +kernel
theorem dX9_slipsOf_12 : decode cX9_slipsOf 12 = .ok (.iload_n 2, 1) := by decide +kernel
theorem dX9_slipsOf_13 : decode cX9_slipsOf 13 = .ok (.aload_n 1, 1) := by decide +kernel
theorem dX9_slipsOf_14 : decode cX9_slipsOf 14 = .ok (.iload_n 3, 1) := by decide +kernel
theorem dX9_slipsOf_15 : decode cX9_slipsOf 15 = .ok (.iaload, 1) := by decide +kernel
theorem dX9_slipsOf_16 : decode cX9_slipsOf 16 = .ok (.aload_n 1, 1) := by decide +kernel
theorem dX9_slipsOf_17 : decode cX9_slipsOf 17 = .ok (.iload_n 3, 1) := by decide +kernel
theorem dX9_slipsOf_18 : decode cX9_slipsOf 18 = .ok (.iconst 1, 1) := by decide +kernel
theorem dX9_slipsOf_19 : decode cX9_slipsOf 19 = .ok (.isub, 1) := by decide +kernel
theorem dX9_slipsOf_20 : decode cX9_slipsOf 20 = .ok (.iaload, 1) := by decide +kernel
theorem dX9_slipsOf_21 : decode cX9_slipsOf 21 = .ok (.if_icmp .eq 7, 3) := by decide +kernel
theorem dX9_slipsOf_24 : decode cX9_slipsOf 24 = .ok (.iconst 1, 1) := by decide +kernel
theorem dX9_slipsOf_25 : decode cX9_slipsOf 25 = .ok (.goto 4, 3) := by decide +kernel
theorem dX9_slipsOf_28 : decode cX9_slipsOf 28 = .ok (.iconst 0, 1) := by decide +kernel
theorem dX9_slipsOf_29 : decode cX9_slipsOf 29 = .ok (.iadd, 1) := by decide +kernel
theorem dX9_slipsOf_30 : decode cX9_slipsOf 30 = .ok (.istore_n 2, 1) := by decide +kernel
theorem dX9_slipsOf_31 : decode cX9_slipsOf 31 = .ok (.iinc 3 1, 3) := by decide +kernel
theorem dX9_slipsOf_34 : decode cX9_slipsOf 34 = .ok (.goto (-30), 3) := by decide +kernel
theorem dX9_slipsOf_37 : decode cX9_slipsOf 37 = .ok (.iload_n 2, 1) := by decide +kernel
theorem dX9_slipsOf_38 : decode cX9_slipsOf 38 = .ok (.ireturn, 1) := by decide +kernel
theorem dX9_figuresOf_0 : decode cX9_figuresOf 0 = .ok (.iconst 1, 1) := by decide +kernel
theorem dX9_figuresOf_1 : decode cX9_figuresOf 1 = .ok (.istore_n 2, 1) := by decide +kernel
theorem dX9_figuresOf_2 : decode cX9_figuresOf 2 = .ok (.iconst 0, 1) := by decide +kernel
theorem dX9_figuresOf_3 : decode cX9_figuresOf 3 = .ok (.istore_n 3, 1) := by decide +kernel
theorem dX9_figuresOf_4 : decode cX9_figuresOf 4 = .ok (.iload_n 3, 1) := by decide +kernel
theorem dX9_figuresOf_5 : decode cX9_figuresOf 5 = .ok (.aload_n 0, 1) := by decide +kernel
theorem dX9_figuresOf_6 : decode cX9_figuresOf 6 = .ok (.getfield 114, 3) := by decide +kernel
theorem dX9_figuresOf_9 : decode cX9_figuresOf 9 = .ok (.if_icmp .ge 18, 3) := by decide +kernel
theorem dX9_figuresOf_12 : decode cX9_figuresOf 12 = .ok (.bipush 10, 2) := by decide +kernel
theorem dX9_figuresOf_14 : decode cX9_figuresOf 14 = .ok (.iload_n 2, 1) := by decide +kernel
theorem dX9_figuresOf_15 : decode cX9_figuresOf 15 = .ok (.imul, 1) := by decide +kernel
theorem dX9_figuresOf_16 : decode cX9_figuresOf 16 = .ok (.aload_n 1, 1) := by decide +kernel
theorem dX9_figuresOf_17 : decode cX9_figuresOf 17 = .ok (.iload_n 3, 1) := by decide +kernel
theorem dX9_figuresOf_18 : decode cX9_figuresOf 18 = .ok (.iaload, 1) := by decide +kernel
theorem dX9_figuresOf_19 : decode cX9_figuresOf 19 = .ok (.iadd, 1) := by decide +kernel
theorem dX9_figuresOf_20 : decode cX9_figuresOf 20 = .ok (.istore_n 2, 1) := by decide +kernel
theorem dX9_figuresOf_21 : decode cX9_figuresOf 21 = .ok (.iinc 3 1, 3) := by decide +kernel
theorem dX9_figuresOf_24 : decode cX9_figuresOf 24 = .ok (.goto (-20), 3) := by decide +kernel
theorem dX9_figuresOf_27 : decode cX9_figuresOf 27 = .ok (.iload_n 2, 1) := by decide +kernel
theorem dX9_figuresOf_28 : decode cX9_figuresOf 28 = .ok (.ireturn, 1) := by decide +kernel
theorem dX9_power_0 : decode cX9_power 0 = .ok (.iconst 1, 1) := by decide +kernel
theorem dX9_power_1 : decode cX9_power 1 = .ok (.istore_n 2, 1) := by decide +kernel
theorem dX9_power_2 : decode cX9_power 2 = .ok (.iconst 0, 1) := by decide +kernel
theorem dX9_power_3 : decode cX9_power 3 = .ok (.istore_n 3, 1) := by decide +kernel
theorem dX9_power_4 : decode cX9_power 4 = .ok (.iload_n 3, 1) := by decide +kernel
theorem dX9_power_5 : decode cX9_power 5 = .ok (.iload_n 1, 1) := by decide +kernel
theorem dX9_power_6 : decode cX9_power 6 = .ok (.if_icmp .ge 13, 3) := by decide +kernel
theorem dX9_power_9 : decode cX9_power 9 = .ok (.iload_n 2, 1) := by decide +kernel
theorem dX9_power_10 : decode cX9_power 10 = .ok (.iload_n 0, 1) := by decide +kernel
theorem dX9_power_11 : decode cX9_power 11 = .ok (.imul, 1) := by decide +kernel
theorem dX9_power_12 : decode cX9_power 12 = .ok (.istore_n 2, 1) := by decide +kernel
theorem dX9_power_13 : decode cX9_power 13 = .ok (.iinc 3 1, 3) := by decide +kernel
theorem dX9_power_16 : decode cX9_power 16 = .ok (.goto (-12), 3) := by decide +kernel
theorem dX9_power_19 : decode cX9_power 19 = .ok (.iload_n 2, 1) := by decide +kernel
theorem dX9_power_20 : decode cX9_power 20 = .ok (.ireturn, 1) := by decide +kernel
theorem dX9_layWire_0 : decode cX9_layWire 0 = .ok (.iconst 1, 1) := by decide +kernel
theorem dX9_layWire_1 : decode cX9_layWire 1 = .ok (.istore_n 2, 1) := by decide +kernel
theorem dX9_layWire_2 : decode cX9_layWire 2 = .ok (.iconst 0, 1) := by decide +kernel
theorem dX9_layWire_3 : decode cX9_layWire 3 = .ok (.istore_n 3, 1) := by decide +kernel
theorem dX9_layWire_4 : decode cX9_layWire 4 = .ok (.iload_n 3, 1) := by decide +kernel
theorem dX9_layWire_5 : decode cX9_layWire 5 = .ok (.aload_n 0, 1) := by decide +kernel
theorem dX9_layWire_6 : decode cX9_layWire 6 = .ok (.getfield 114, 3) := by decide +kernel
theorem dX9_layWire_9 : decode cX9_layWire 9 = .ok (.if_icmp .ge 73, 3) := by decide +kernel
theorem dX9_layWire_12 : decode cX9_layWire 12 = .ok (.aload_n 0, 1) := by decide +kernel
theorem dX9_layWire_13 : decode cX9_layWire 13 = .ok (.getfield 62, 3) := by decide +kernel
theorem dX9_layWire_16 : decode cX9_layWire 16 = .ok (.iload_n 3, 1) := by decide +kernel
theorem dX9_layWire_17 : decode cX9_layWire 17 = .ok (.iload_n 1, 1) := by decide +kernel
theorem dX9_layWire_18 : decode cX9_layWire 18 = .ok (.bipush 6, 2) := by decide +kernel
theorem dX9_layWire_20 : decode cX9_layWire 20 = .ok (.aload_n 0, 1) := by decide +kernel
theorem dX9_layWire_21 : decode cX9_layWire 21 = .ok (.getfield 114, 3) := by decide +kernel
theorem dX9_layWire_24 : decode cX9_layWire 24 = .ok (.iconst 1, 1) := by decide +kernel
theorem dX9_layWire_25 : decode cX9_layWire 25 = .ok (.isub, 1) := by decide +kernel
theorem dX9_layWire_26 : decode cX9_layWire 26 = .ok (.iload_n 3, 1) := by decide +kernel
theorem dX9_layWire_27 : decode cX9_layWire 27 = .ok (.isub, 1) := by decide +kernel
theorem dX9_layWire_28 : decode cX9_layWire 28 = .ok (.invokestatic 142, 3) := by decide +kernel
theorem dX9_layWire_31 : decode cX9_layWire 31 = .ok (.idiv, 1) := by decide +kernel
theorem dX9_layWire_32 : decode cX9_layWire 32 = .ok (.bipush 6, 2) := by decide +kernel
theorem dX9_layWire_34 : decode cX9_layWire 34 = .ok (.irem, 1) := by decide +kernel
theorem dX9_layWire_35 : decode cX9_layWire 35 = .ok (.iastore, 1) := by decide +kernel
theorem dX9_layWire_36 : decode cX9_layWire 36 = .ok (.iload_n 2, 1) := by decide +kernel
theorem dX9_layWire_37 : decode cX9_layWire 37 = .ok (.ifCond .eq 37, 3) := by decide +kernel
theorem dX9_layWire_40 : decode cX9_layWire 40 = .ok (.iload_n 3, 1) := by decide +kernel
theorem dX9_layWire_41 : decode cX9_layWire 41 = .ok (.ifCond .eq 29, 3) := by decide +kernel
theorem dX9_layWire_44 : decode cX9_layWire 44 = .ok (.aload_n 0, 1) := by decide +kernel
theorem dX9_layWire_45 : decode cX9_layWire 45 = .ok (.getfield 62, 3) := by decide +kernel
theorem dX9_layWire_48 : decode cX9_layWire 48 = .ok (.iload_n 3, 1) := by decide +kernel
theorem dX9_layWire_49 : decode cX9_layWire 49 = .ok (.iaload, 1) := by decide +kernel
theorem dX9_layWire_50 : decode cX9_layWire 50 = .ok (.aload_n 0, 1) := by decide +kernel
theorem dX9_layWire_51 : decode cX9_layWire 51 = .ok (.getfield 62, 3) := by decide +kernel
theorem dX9_layWire_54 : decode cX9_layWire 54 = .ok (.iload_n 3, 1) := by decide +kernel
theorem dX9_layWire_55 : decode cX9_layWire 55 = .ok (.iconst 1, 1) := by decide +kernel
theorem dX9_layWire_56 : decode cX9_layWire 56 = .ok (.isub, 1) := by decide +kernel
theorem dX9_layWire_57 : decode cX9_layWire 57 = .ok (.iaload, 1) := by decide +kernel
theorem dX9_layWire_58 : decode cX9_layWire 58 = .ok (.isub, 1) := by decide +kernel
theorem dX9_layWire_59 : decode cX9_layWire 59 = .ok (.i2l, 1) := by decide +kernel
theorem dX9_layWire_60 : decode cX9_layWire 60 = .ok (.ldc2_w 146, 3) := by decide +kernel
theorem dX9_layWire_63 : decode cX9_layWire 63 = .ok (.lconst 1, 1) := by decide +kernel
theorem dX9_layWire_64 : decode cX9_layWire 64 = .ok (.invokestatic 74, 3) := by decide +kernel
theorem dX9_layWire_67 : decode cX9_layWire 67 = .ok (.ifCond .eq 7, 3) := by decide +kernel
theorem dX9_layWire_70 : decode cX9_layWire 70 = .ok (.iconst 1, 1) := by decide +kernel
theorem dX9_layWire_71 : decode cX9_layWire 71 = .ok (.goto 4, 3) := by decide +kernel
theorem dX9_layWire_74 : decode cX9_layWire 74 = .ok (.iconst 0, 1) := by decide +kernel
theorem dX9_layWire_75 : decode cX9_layWire 75 = .ok (.istore_n 2, 1) := by decide +kernel
theorem dX9_layWire_76 : decode cX9_layWire 76 = .ok (.iinc 3 1, 3) := by decide +kernel
theorem dX9_layWire_79 : decode cX9_layWire 79 = .ok (.goto (-75), 3) := by decide +kernel
theorem dX9_layWire_82 : decode cX9_layWire 82 = .ok (.iload_n 2, 1) := by decide +kernel
theorem dX9_layWire_83 : decode cX9_layWire 83 = .ok (.ifCond .eq 31, 3) := by decide +kernel
theorem dX9_layWire_86 : decode cX9_layWire 86 = .ok (.aload_n 0, 1) := by decide +kernel
theorem dX9_layWire_87 : decode cX9_layWire 87 = .ok (.getfield 34, 3) := by decide +kernel
theorem dX9_layWire_90 : decode cX9_layWire 90 = .ok (.aload_n 0, 1) := by decide +kernel
theorem dX9_layWire_91 : decode cX9_layWire 91 = .ok (.getfield 37, 3) := by decide +kernel
theorem dX9_layWire_94 : decode cX9_layWire 94 = .ok (.bipush 31, 2) := by decide +kernel
theorem dX9_layWire_96 : decode cX9_layWire 96 = .ok (.invokestatic 123, 3) := by decide +kernel
theorem dX9_layWire_99 : decode cX9_layWire 99 = .ok (.aload_n 0, 1) := by decide +kernel
theorem dX9_layWire_100 : decode cX9_layWire 100 = .ok (.getfield 62, 3) := by decide +kernel
theorem dX9_layWire_103 : decode cX9_layWire 103 = .ok (.aload_n 0, 1) := by decide +kernel
theorem dX9_layWire_104 : decode cX9_layWire 104 = .ok (.getfield 37, 3) := by decide +kernel
theorem dX9_layWire_107 : decode cX9_layWire 107 = .ok (.aload_n 0, 1) := by decide +kernel
theorem dX9_layWire_108 : decode cX9_layWire 108 = .ok (.getfield 114, 3) := by decide +kernel
theorem dX9_layWire_111 : decode cX9_layWire 111 = .ok (.invokestatic 123, 3) := by decide +kernel
theorem dX9_layWire_114 : decode cX9_layWire 114 = .ok (.iload_n 2, 1) := by decide +kernel
theorem dX9_layWire_115 : decode cX9_layWire 115 = .ok (.ireturn, 1) := by decide +kernel
theorem dX9_wires_0 : decode cX9_wires 0 = .ok (.iconst 0, 1) := by decide +kernel
theorem dX9_wires_1 : decode cX9_wires 1 = .ok (.istore_n 1, 1) := by decide +kernel
theorem dX9_wires_2 : decode cX9_wires 2 = .ok (.iconst 0, 1) := by decide +kernel
theorem dX9_wires_3 : decode cX9_wires 3 = .ok (.istore_n 2, 1) := by decide +kernel
theorem dX9_wires_4 : decode cX9_wires 4 = .ok (.iload_n 2, 1) := by decide +kernel
theorem dX9_wires_5 : decode cX9_wires 5 = .ok (.bipush 6, 2) := by decide +kernel
theorem dX9_wires_7 : decode cX9_wires 7 = .ok (.aload_n 0, 1) := by decide +kernel
theorem dX9_wires_8 : decode cX9_wires 8 = .ok (.getfield 114, 3) := by decide +kernel
theorem dX9_wires_11 : decode cX9_wires 11 = .ok (.invokestatic 142, 3) := by decide +kernel
theorem dX9_wires_14 : decode cX9_wires 14 = .ok (.if_icmp .ge 25, 3) := by decide +kernel
theorem dX9_wires_17 : decode cX9_wires 17 = .ok (.iload_n 1, 1) := by decide +kernel
theorem dX9_wires_18 : decode cX9_wires 18 = .ok (.aload_n 0, 1) := by decide +kernel
theorem dX9_wires_19 : decode cX9_wires 19 = .ok (.iload_n 2, 1) := by decide +kernel
theorem dX9_wires_20 : decode cX9_wires 20 = .ok (.invokevirtual 148, 3) := by decide +kernel
theorem dX9_wires_23 : decode cX9_wires 23 = .ok (.ifCond .eq 7, 3) := by decide +kernel
theorem dX9_wires_26 : decode cX9_wires 26 = .ok (.iconst 1, 1) := by decide +kernel
theorem dX9_wires_27 : decode cX9_wires 27 = .ok (.goto 4, 3) := by decide +kernel
theorem dX9_wires_30 : decode cX9_wires 30 = .ok (.iconst 0, 1) := by decide +kernel
theorem dX9_wires_31 : decode cX9_wires 31 = .ok (.iadd, 1) := by decide +kernel
theorem dX9_wires_32 : decode cX9_wires 32 = .ok (.istore_n 1, 1) := by decide +kernel
theorem dX9_wires_33 : decode cX9_wires 33 = .ok (.iinc 2 1, 3) := by decide +kernel
theorem dX9_wires_36 : decode cX9_wires 36 = .ok (.goto (-32), 3) := by decide +kernel
theorem dX9_wires_39 : decode cX9_wires 39 = .ok (.iload_n 1, 1) := by decide +kernel
theorem dX9_wires_40 : decode cX9_wires 40 = .ok (.ireturn, 1) := by decide +kernel
theorem dX9_about_0 : decode cX9_about 0 = .ok (.aload_n 0, 1) := by decide +kernel
theorem dX9_about_1 : decode cX9_about 1 = .ok (.iconst 0, 1) := by decide +kernel
theorem dX9_about_2 : decode cX9_about 2 = .ok (.putfield 68, 3) := by decide +kernel
theorem dX9_about_5 : decode cX9_about 5 = .ok (.aload_n 0, 1) := by decide +kernel
theorem dX9_about_6 : decode cX9_about 6 = .ok (.aload_n 0, 1) := by decide +kernel
theorem dX9_about_7 : decode cX9_about 7 = .ok (.getfield 34, 3) := by decide +kernel
theorem dX9_about_10 : decode cX9_about 10 = .ok (.invokevirtual 152, 3) := by decide +kernel
theorem dX9_about_13 : decode cX9_about 13 = .ok (.iload_n 1, 1) := by decide +kernel
theorem dX9_about_14 : decode cX9_about 14 = .ok (.tableswitch 124 0 10 #[58, 63, 68, 73, 81, 90, 99, 104, 109, 114, 119], 58) := by decide +kernel
theorem dX9_about_72 : decode cX9_about 72 = .ok (.aload_n 0, 1) := by decide +kernel
theorem dX9_about_73 : decode cX9_about 73 = .ok (.getfield 114, 3) := by decide +kernel
theorem dX9_about_76 : decode cX9_about 76 = .ok (.ireturn, 1) := by decide +kernel
theorem dX9_about_77 : decode cX9_about 77 = .ok (.aload_n 0, 1) := by decide +kernel
theorem dX9_about_78 : decode cX9_about 78 = .ok (.getfield 117, 3) := by decide +kernel
theorem dX9_about_81 : decode cX9_about 81 = .ok (.ireturn, 1) := by decide +kernel
theorem dX9_about_82 : decode cX9_about 82 = .ok (.aload_n 0, 1) := by decide +kernel
theorem dX9_about_83 : decode cX9_about 83 = .ok (.getfield 120, 3) := by decide +kernel
theorem dX9_about_86 : decode cX9_about 86 = .ok (.ireturn, 1) := by decide +kernel
theorem dX9_about_87 : decode cX9_about 87 = .ok (.aload_n 0, 1) := by decide +kernel
theorem dX9_about_88 : decode cX9_about 88 = .ok (.getfield 34, 3) := by decide +kernel
theorem dX9_about_91 : decode cX9_about 91 = .ok (.bipush 30, 2) := by decide +kernel
theorem dX9_about_93 : decode cX9_about 93 = .ok (.iaload, 1) := by decide +kernel
theorem dX9_about_94 : decode cX9_about 94 = .ok (.ireturn, 1) := by decide +kernel
theorem dX9_about_95 : decode cX9_about 95 = .ok (.aload_n 0, 1) := by decide +kernel
theorem dX9_about_96 : decode cX9_about 96 = .ok (.aload_n 0, 1) := by decide +kernel
theorem dX9_about_97 : decode cX9_about 97 = .ok (.getfield 34, 3) := by decide +kernel
theorem dX9_about_100 : decode cX9_about 100 = .ok (.invokevirtual 156, 3) := by decide +kernel
theorem dX9_about_103 : decode cX9_about 103 = .ok (.ireturn, 1) := by decide +kernel
theorem dX9_about_104 : decode cX9_about 104 = .ok (.aload_n 0, 1) := by decide +kernel
theorem dX9_about_105 : decode cX9_about 105 = .ok (.aload_n 0, 1) := by decide +kernel
theorem dX9_about_106 : decode cX9_about 106 = .ok (.getfield 34, 3) := by decide +kernel
theorem dX9_about_109 : decode cX9_about 109 = .ok (.invokevirtual 160, 3) := by decide +kernel
theorem dX9_about_112 : decode cX9_about 112 = .ok (.ireturn, 1) := by decide +kernel
theorem dX9_about_113 : decode cX9_about 113 = .ok (.aload_n 0, 1) := by decide +kernel
theorem dX9_about_114 : decode cX9_about 114 = .ok (.invokevirtual 163, 3) := by decide +kernel
theorem dX9_about_117 : decode cX9_about 117 = .ok (.ireturn, 1) := by decide +kernel
theorem dX9_about_118 : decode cX9_about 118 = .ok (.aload_n 0, 1) := by decide +kernel
theorem dX9_about_119 : decode cX9_about 119 = .ok (.invokevirtual 166, 3) := by decide +kernel
theorem dX9_about_122 : decode cX9_about 122 = .ok (.ireturn, 1) := by decide +kernel
theorem dX9_about_123 : decode cX9_about 123 = .ok (.aload_n 0, 1) := by decide +kernel
theorem dX9_about_124 : decode cX9_about 124 = .ok (.getfield 127, 3) := by decide +kernel
theorem dX9_about_127 : decode cX9_about 127 = .ok (.ireturn, 1) := by decide +kernel
theorem dX9_about_128 : decode cX9_about 128 = .ok (.aload_n 0, 1) := by decide +kernel
theorem dX9_about_129 : decode cX9_about 129 = .ok (.getfield 169, 3) := by decide +kernel
theorem dX9_about_132 : decode cX9_about 132 = .ok (.ireturn, 1) := by decide +kernel
theorem dX9_about_133 : decode cX9_about 133 = .ok (.aload_n 0, 1) := by decide +kernel
theorem dX9_about_134 : decode cX9_about 134 = .ok (.getfield 78, 3) := by decide +kernel
theorem dX9_about_137 : decode cX9_about 137 = .ok (.ireturn, 1) := by decide +kernel
theorem dX9_about_138 : decode cX9_about 138 = .ok (.bipush (-2), 2) := by decide +kernel
theorem dX9_about_140 : decode cX9_about 140 = .ok (.ireturn, 1) := by decide +kernel
theorem dX9_cell_0 : decode cX9_cell 0 = .ok (.aload_n 0, 1) := by decide +kernel
theorem dX9_cell_1 : decode cX9_cell 1 = .ok (.iconst 0, 1) := by decide +kernel
theorem dX9_cell_2 : decode cX9_cell 2 = .ok (.putfield 68, 3) := by decide +kernel
theorem dX9_cell_5 : decode cX9_cell 5 = .ok (.iload_n 1, 1) := by decide +kernel
theorem dX9_cell_6 : decode cX9_cell 6 = .ok (.i2l, 1) := by decide +kernel
theorem dX9_cell_7 : decode cX9_cell 7 = .ok (.lconst 0, 1) := by decide +kernel
theorem dX9_cell_8 : decode cX9_cell 8 = .ok (.aload_n 0, 1) := by decide +kernel
theorem dX9_cell_9 : decode cX9_cell 9 = .ok (.getfield 114, 3) := by decide +kernel
theorem dX9_cell_12 : decode cX9_cell 12 = .ok (.iconst 1, 1) := by decide +kernel
theorem dX9_cell_13 : decode cX9_cell 13 = .ok (.isub, 1) := by decide +kernel
theorem dX9_cell_14 : decode cX9_cell 14 = .ok (.i2l, 1) := by decide +kernel
theorem dX9_cell_15 : decode cX9_cell 15 = .ok (.invokestatic 74, 3) := by decide +kernel
theorem dX9_cell_18 : decode cX9_cell 18 = .ok (.ifCond .ne 5, 3) := by decide +kernel
theorem dX9_cell_21 : decode cX9_cell 21 = .ok (.iconst (-1), 1) := by decide +kernel
theorem dX9_cell_22 : decode cX9_cell 22 = .ok (.ireturn, 1) := by decide +kernel
theorem dX9_cell_23 : decode cX9_cell 23 = .ok (.iload_n 2, 1) := by decide +kernel
theorem dX9_cell_24 : decode cX9_cell 24 = .ok (.i2l, 1) := by decide +kernel
theorem dX9_cell_25 : decode cX9_cell 25 = .ok (.lconst 0, 1) := by decide +kernel
theorem dX9_cell_26 : decode cX9_cell 26 = .ok (.ldc2_w 172, 3) := by decide +kernel
theorem dX9_cell_29 : decode cX9_cell 29 = .ok (.invokestatic 74, 3) := by decide +kernel
theorem dX9_cell_32 : decode cX9_cell 32 = .ok (.ifCond .ne 6, 3) := by decide +kernel
theorem dX9_cell_35 : decode cX9_cell 35 = .ok (.bipush (-2), 2) := by decide +kernel
theorem dX9_cell_37 : decode cX9_cell 37 = .ok (.ireturn, 1) := by decide +kernel
theorem dX9_cell_38 : decode cX9_cell 38 = .ok (.aload_n 0, 1) := by decide +kernel
theorem dX9_cell_39 : decode cX9_cell 39 = .ok (.aload_n 0, 1) := by decide +kernel
theorem dX9_cell_40 : decode cX9_cell 40 = .ok (.getfield 34, 3) := by decide +kernel
theorem dX9_cell_43 : decode cX9_cell 43 = .ok (.invokevirtual 152, 3) := by decide +kernel
theorem dX9_cell_46 : decode cX9_cell 46 = .ok (.aload_n 0, 1) := by decide +kernel
theorem dX9_cell_47 : decode cX9_cell 47 = .ok (.getfield 34, 3) := by decide +kernel
theorem dX9_cell_50 : decode cX9_cell 50 = .ok (.iconst 5, 1) := by decide +kernel
theorem dX9_cell_51 : decode cX9_cell 51 = .ok (.iconst 5, 1) := by decide +kernel
theorem dX9_cell_52 : decode cX9_cell 52 = .ok (.iload_n 1, 1) := by decide +kernel
theorem dX9_cell_53 : decode cX9_cell 53 = .ok (.imul, 1) := by decide +kernel
theorem dX9_cell_54 : decode cX9_cell 54 = .ok (.iadd, 1) := by decide +kernel
theorem dX9_cell_55 : decode cX9_cell 55 = .ok (.iload_n 2, 1) := by decide +kernel
theorem dX9_cell_56 : decode cX9_cell 56 = .ok (.iadd, 1) := by decide +kernel
theorem dX9_cell_57 : decode cX9_cell 57 = .ok (.iaload, 1) := by decide +kernel
theorem dX9_cell_58 : decode cX9_cell 58 = .ok (.istore 4, 2) := by decide +kernel
theorem dX9_cell_60 : decode cX9_cell 60 = .ok (.iload_n 3, 1) := by decide +kernel
theorem dX9_cell_61 : decode cX9_cell 61 = .ok (.tableswitch 68 0 3 #[31, 36, 41, 57], 31) := by decide +kernel
theorem dX9_cell_92 : decode cX9_cell 92 = .ok (.iload 4, 2) := by decide +kernel
theorem dX9_cell_94 : decode cX9_cell 94 = .ok (.iconst 4, 1) := by decide +kernel
theorem dX9_cell_95 : decode cX9_cell 95 = .ok (.idiv, 1) := by decide +kernel
theorem dX9_cell_96 : decode cX9_cell 96 = .ok (.ireturn, 1) := by decide +kernel
theorem dX9_cell_97 : decode cX9_cell 97 = .ok (.iload 4, 2) := by decide +kernel
theorem dX9_cell_99 : decode cX9_cell 99 = .ok (.iconst 4, 1) := by decide +kernel
theorem dX9_cell_100 : decode cX9_cell 100 = .ok (.irem, 1) := by decide +kernel
theorem dX9_cell_101 : decode cX9_cell 101 = .ok (.ireturn, 1) := by decide +kernel
theorem dX9_cell_102 : decode cX9_cell 102 = .ok (.iload_n 2, 1) := by decide +kernel
theorem dX9_cell_103 : decode cX9_cell 103 = .ok (.aload_n 0, 1) := by decide +kernel
theorem dX9_cell_104 : decode cX9_cell 104 = .ok (.getfield 34, 3) := by decide +kernel
theorem dX9_cell_107 : decode cX9_cell 107 = .ok (.iload_n 1, 1) := by decide +kernel
theorem dX9_cell_108 : decode cX9_cell 108 = .ok (.iaload, 1) := by decide +kernel
theorem dX9_cell_109 : decode cX9_cell 109 = .ok (.if_icmp .ge 7, 3) := by decide +kernel
theorem dX9_cell_112 : decode cX9_cell 112 = .ok (.iconst 0, 1) := by decide +kernel
theorem dX9_cell_113 : decode cX9_cell 113 = .ok (.goto 4, 3) := by decide +kernel
theorem dX9_cell_116 : decode cX9_cell 116 = .ok (.iconst 1, 1) := by decide +kernel
theorem dX9_cell_117 : decode cX9_cell 117 = .ok (.ireturn, 1) := by decide +kernel
theorem dX9_cell_118 : decode cX9_cell 118 = .ok (.aload_n 0, 1) := by decide +kernel
theorem dX9_cell_119 : decode cX9_cell 119 = .ok (.aload_n 0, 1) := by decide +kernel
theorem dX9_cell_120 : decode cX9_cell 120 = .ok (.getfield 34, 3) := by decide +kernel
theorem dX9_cell_123 : decode cX9_cell 123 = .ok (.iload_n 1, 1) := by decide +kernel
theorem dX9_cell_124 : decode cX9_cell 124 = .ok (.iload_n 2, 1) := by decide +kernel
theorem dX9_cell_125 : decode cX9_cell 125 = .ok (.invokevirtual 134, 3) := by decide +kernel
theorem dX9_cell_128 : decode cX9_cell 128 = .ok (.ireturn, 1) := by decide +kernel
theorem dX9_cell_129 : decode cX9_cell 129 = .ok (.bipush (-2), 2) := by decide +kernel
theorem dX9_cell_131 : decode cX9_cell 131 = .ok (.ireturn, 1) := by decide +kernel
theorem dX9_countsOf_0 : decode cX9_countsOf 0 = .ok (.iconst 0, 1) := by decide +kernel
theorem dX9_countsOf_1 : decode cX9_countsOf 1 = .ok (.istore_n 3, 1) := by decide +kernel
theorem dX9_countsOf_2 : decode cX9_countsOf 2 = .ok (.iconst 0, 1) := by decide +kernel
theorem dX9_countsOf_3 : decode cX9_countsOf 3 = .ok (.istore 4, 2) := by decide +kernel
theorem dX9_countsOf_5 : decode cX9_countsOf 5 = .ok (.iload 4, 2) := by decide +kernel
theorem dX9_countsOf_7 : decode cX9_countsOf 7 = .ok (.iconst 4, 1) := by decide +kernel
theorem dX9_countsOf_8 : decode cX9_countsOf 8 = .ok (.if_icmp .ge 26, 3) := by decide +kernel
theorem dX9_countsOf_11 : decode cX9_countsOf 11 = .ok (.iload_n 3, 1) := by decide +kernel
theorem dX9_countsOf_12 : decode cX9_countsOf 12 = .ok (.aload_n 0, 1) := by decide +kernel
theorem dX9_countsOf_13 : decode cX9_countsOf 13 = .ok (.aload_n 0, 1) := by decide +kernel
theorem dX9_countsOf_14 : decode cX9_countsOf 14 = .ok (.getfield 34, 3) := by decide +kernel
theorem dX9_countsOf_17 : decode cX9_countsOf 17 = .ok (.iload_n 2, 1) := by decide +kernel
theorem dX9_countsOf_18 : decode cX9_countsOf 18 = .ok (.iload 4, 2) := by decide +kernel
theorem dX9_countsOf_20 : decode cX9_countsOf 20 = .ok (.iconst 1, 1) := by decide +kernel
theorem dX9_countsOf_21 : decode cX9_countsOf 21 = .ok (.iload_n 1, 1) := by decide +kernel
theorem dX9_countsOf_22 : decode cX9_countsOf 22 = .ok (.ishl, 1) := by decide +kernel
theorem dX9_countsOf_23 : decode cX9_countsOf 23 = .ok (.invokevirtual 138, 3) := by decide +kernel
theorem dX9_countsOf_26 : decode cX9_countsOf 26 = .ok (.iadd, 1) := by decide +kernel
theorem dX9_countsOf_27 : decode cX9_countsOf 27 = .ok (.istore_n 3, 1) := by decide +kernel
theorem dX9_countsOf_28 : decode cX9_countsOf 28 = .ok (.iinc 4 1, 3) := by decide +kernel
theorem dX9_countsOf_31 : decode cX9_countsOf 31 = .ok (.goto (-26), 3) := by decide +kernel
theorem dX9_countsOf_34 : decode cX9_countsOf 34 = .ok (.iload_n 3, 1) := by decide +kernel
theorem dX9_countsOf_35 : decode cX9_countsOf 35 = .ok (.ireturn, 1) := by decide +kernel
theorem dX9_kin_0 : decode cX9_kin 0 = .ok (.aload_n 0, 1) := by decide +kernel
theorem dX9_kin_1 : decode cX9_kin 1 = .ok (.iconst 0, 1) := by decide +kernel
theorem dX9_kin_2 : decode cX9_kin 2 = .ok (.putfield 68, 3) := by decide +kernel
theorem dX9_kin_5 : decode cX9_kin 5 = .ok (.iload_n 1, 1) := by decide +kernel
theorem dX9_kin_6 : decode cX9_kin 6 = .ok (.i2l, 1) := by decide +kernel
theorem dX9_kin_7 : decode cX9_kin 7 = .ok (.lconst 0, 1) := by decide +kernel
theorem dX9_kin_8 : decode cX9_kin 8 = .ok (.aload_n 0, 1) := by decide +kernel
theorem dX9_kin_9 : decode cX9_kin 9 = .ok (.getfield 117, 3) := by decide +kernel
theorem dX9_kin_12 : decode cX9_kin 12 = .ok (.iconst 1, 1) := by decide +kernel
theorem dX9_kin_13 : decode cX9_kin 13 = .ok (.isub, 1) := by decide +kernel
theorem dX9_kin_14 : decode cX9_kin 14 = .ok (.i2l, 1) := by decide +kernel
theorem dX9_kin_15 : decode cX9_kin 15 = .ok (.invokestatic 74, 3) := by decide +kernel
theorem dX9_kin_18 : decode cX9_kin 18 = .ok (.ifCond .ne 5, 3) := by decide +kernel
theorem dX9_kin_21 : decode cX9_kin 21 = .ok (.iconst (-1), 1) := by decide +kernel
theorem dX9_kin_22 : decode cX9_kin 22 = .ok (.ireturn, 1) := by decide +kernel
theorem dX9_kin_23 : decode cX9_kin 23 = .ok (.aload_n 0, 1) := by decide +kernel
theorem dX9_kin_24 : decode cX9_kin 24 = .ok (.aload_n 0, 1) := by decide +kernel
theorem dX9_kin_25 : decode cX9_kin 25 = .ok (.getfield 34, 3) := by decide +kernel
theorem dX9_kin_28 : decode cX9_kin 28 = .ok (.invokevirtual 152, 3) := by decide +kernel
theorem dX9_kin_31 : decode cX9_kin 31 = .ok (.iload_n 2, 1) := by decide +kernel
theorem dX9_kin_32 : decode cX9_kin 32 = .ok (.tableswitch 71 0 4 #[36, 43, 50, 57, 64], 36) := by decide +kernel
theorem dX9_kin_68 : decode cX9_kin 68 = .ok (.aload_n 0, 1) := by decide +kernel
theorem dX9_kin_69 : decode cX9_kin 69 = .ok (.getfield 13, 3) := by decide +kernel
theorem dX9_kin_72 : decode cX9_kin 72 = .ok (.iload_n 1, 1) := by decide +kernel
theorem dX9_kin_73 : decode cX9_kin 73 = .ok (.iaload, 1) := by decide +kernel
theorem dX9_kin_74 : decode cX9_kin 74 = .ok (.ireturn, 1) := by decide +kernel
theorem dX9_kin_75 : decode cX9_kin 75 = .ok (.aload_n 0, 1) := by decide +kernel
theorem dX9_kin_76 : decode cX9_kin 76 = .ok (.getfield 56, 3) := by decide +kernel
theorem dX9_kin_79 : decode cX9_kin 79 = .ok (.iload_n 1, 1) := by decide +kernel
theorem dX9_kin_80 : decode cX9_kin 80 = .ok (.iaload, 1) := by decide +kernel
theorem dX9_kin_81 : decode cX9_kin 81 = .ok (.ireturn, 1) := by decide +kernel
theorem dX9_kin_82 : decode cX9_kin 82 = .ok (.aload_n 0, 1) := by decide +kernel
theorem dX9_kin_83 : decode cX9_kin 83 = .ok (.getfield 59, 3) := by decide +kernel
theorem dX9_kin_86 : decode cX9_kin 86 = .ok (.iload_n 1, 1) := by decide +kernel
theorem dX9_kin_87 : decode cX9_kin 87 = .ok (.iaload, 1) := by decide +kernel
theorem dX9_kin_88 : decode cX9_kin 88 = .ok (.ireturn, 1) := by decide +kernel
theorem dX9_kin_89 : decode cX9_kin 89 = .ok (.aload_n 0, 1) := by decide +kernel
theorem dX9_kin_90 : decode cX9_kin 90 = .ok (.iload_n 1, 1) := by decide +kernel
theorem dX9_kin_91 : decode cX9_kin 91 = .ok (.iconst 0, 1) := by decide +kernel
theorem dX9_kin_92 : decode cX9_kin 92 = .ok (.invokevirtual 174, 3) := by decide +kernel
theorem dX9_kin_95 : decode cX9_kin 95 = .ok (.ireturn, 1) := by decide +kernel
theorem dX9_kin_96 : decode cX9_kin 96 = .ok (.aload_n 0, 1) := by decide +kernel
theorem dX9_kin_97 : decode cX9_kin 97 = .ok (.iload_n 1, 1) := by decide +kernel
theorem dX9_kin_98 : decode cX9_kin 98 = .ok (.iconst 1, 1) := by decide +kernel
theorem dX9_kin_99 : decode cX9_kin 99 = .ok (.invokevirtual 174, 3) := by decide +kernel
theorem dX9_kin_102 : decode cX9_kin 102 = .ok (.ireturn, 1) := by decide +kernel
theorem dX9_kin_103 : decode cX9_kin 103 = .ok (.bipush (-2), 2) := by decide +kernel
theorem dX9_kin_105 : decode cX9_kin 105 = .ok (.ireturn, 1) := by decide +kernel
theorem dX9_has_0 : decode cX9_has 0 = .ok (.aload_n 0, 1) := by decide +kernel
theorem dX9_has_1 : decode cX9_has 1 = .ok (.iconst 0, 1) := by decide +kernel
theorem dX9_has_2 : decode cX9_has 2 = .ok (.putfield 68, 3) := by decide +kernel
theorem dX9_has_5 : decode cX9_has 5 = .ok (.iload_n 1, 1) := by decide +kernel
theorem dX9_has_6 : decode cX9_has 6 = .ok (.i2l, 1) := by decide +kernel
theorem dX9_has_7 : decode cX9_has 7 = .ok (.lconst 0, 1) := by decide +kernel
theorem dX9_has_8 : decode cX9_has 8 = .ok (.lconst 1, 1) := by decide +kernel
theorem dX9_has_9 : decode cX9_has 9 = .ok (.invokestatic 74, 3) := by decide +kernel
theorem dX9_has_12 : decode cX9_has 12 = .ok (.ifCond .eq 15, 3) := by decide +kernel
theorem dX9_has_15 : decode cX9_has 15 = .ok (.iload_n 2, 1) := by decide +kernel
theorem dX9_has_16 : decode cX9_has 16 = .ok (.i2l, 1) := by decide +kernel
theorem dX9_has_17 : decode cX9_has 17 = .ok (.lconst 0, 1) := by decide +kernel
theorem dX9_has_18 : decode cX9_has 18 = .ok (.ldc2_w 177, 3) := by decide +kernel
theorem dX9_has_21 : decode cX9_has 21 = .ok (.invokestatic 74, 3) := by decide +kernel
theorem dX9_has_24 : decode cX9_has 24 = .ok (.ifCond .ne 6, 3) := by decide +kernel
theorem dX9_has_27 : decode cX9_has 27 = .ok (.bipush (-2), 2) := by decide +kernel
theorem dX9_has_29 : decode cX9_has 29 = .ok (.ireturn, 1) := by decide +kernel
theorem dX9_has_30 : decode cX9_has 30 = .ok (.aload_n 0, 1) := by decide +kernel
theorem dX9_has_31 : decode cX9_has 31 = .ok (.aload_n 0, 1) := by decide +kernel
theorem dX9_has_32 : decode cX9_has 32 = .ok (.getfield 34, 3) := by decide +kernel
theorem dX9_has_35 : decode cX9_has 35 = .ok (.invokevirtual 152, 3) := by decide +kernel
theorem dX9_has_38 : decode cX9_has 38 = .ok (.aload_n 0, 1) := by decide +kernel
theorem dX9_has_39 : decode cX9_has 39 = .ok (.aload_n 0, 1) := by decide +kernel
theorem dX9_has_40 : decode cX9_has 40 = .ok (.getfield 34, 3) := by decide +kernel
theorem dX9_has_43 : decode cX9_has 43 = .ok (.iload_n 1, 1) := by decide +kernel
theorem dX9_has_44 : decode cX9_has 44 = .ok (.iload_n 2, 1) := by decide +kernel
theorem dX9_has_45 : decode cX9_has 45 = .ok (.bipush 31, 2) := by decide +kernel
theorem dX9_has_47 : decode cX9_has 47 = .ok (.invokevirtual 138, 3) := by decide +kernel
theorem dX9_has_50 : decode cX9_has 50 = .ok (.ireturn, 1) := by decide +kernel
theorem dX9_can_0 : decode cX9_can 0 = .ok (.aload_n 0, 1) := by decide +kernel
theorem dX9_can_1 : decode cX9_can 1 = .ok (.iconst 0, 1) := by decide +kernel
theorem dX9_can_2 : decode cX9_can 2 = .ok (.putfield 68, 3) := by decide +kernel
theorem dX9_can_5 : decode cX9_can 5 = .ok (.iload_n 1, 1) := by decide +kernel
theorem dX9_can_6 : decode cX9_can 6 = .ok (.i2l, 1) := by decide +kernel
theorem dX9_can_7 : decode cX9_can 7 = .ok (.lconst 0, 1) := by decide +kernel
theorem dX9_can_8 : decode cX9_can 8 = .ok (.lconst 1, 1) := by decide +kernel
theorem dX9_can_9 : decode cX9_can 9 = .ok (.invokestatic 74, 3) := by decide +kernel
theorem dX9_can_12 : decode cX9_can 12 = .ok (.ifCond .ne 6, 3) := by decide +kernel
theorem dX9_can_15 : decode cX9_can 15 = .ok (.bipush (-2), 2) := by decide +kernel
theorem dX9_can_17 : decode cX9_can 17 = .ok (.ireturn, 1) := by decide +kernel
theorem dX9_can_18 : decode cX9_can 18 = .ok (.aload_n 0, 1) := by decide +kernel
theorem dX9_can_19 : decode cX9_can 19 = .ok (.aload_n 0, 1) := by decide +kernel
theorem dX9_can_20 : decode cX9_can 20 = .ok (.getfield 34, 3) := by decide +kernel
theorem dX9_can_23 : decode cX9_can 23 = .ok (.invokevirtual 152, 3) := by decide +kernel
theorem dX9_can_26 : decode cX9_can 26 = .ok (.aload_n 0, 1) := by decide +kernel
theorem dX9_can_27 : decode cX9_can 27 = .ok (.aload_n 0, 1) := by decide +kernel
theorem dX9_can_28 : decode cX9_can 28 = .ok (.getfield 34, 3) := by decide +kernel
theorem dX9_can_31 : decode cX9_can 31 = .ok (.iload_n 1, 1) := by decide +kernel
theorem dX9_can_32 : decode cX9_can 32 = .ok (.bipush 31, 2) := by decide +kernel
theorem dX9_can_34 : decode cX9_can 34 = .ok (.invokevirtual 179, 3) := by decide +kernel
theorem dX9_can_37 : decode cX9_can 37 = .ok (.ireturn, 1) := by decide +kernel
theorem dX9_note_0 : decode cX9_note 0 = .ok (.aload_n 0, 1) := by decide +kernel
theorem dX9_note_1 : decode cX9_note 1 = .ok (.getfield 127, 3) := by decide +kernel
theorem dX9_note_4 : decode cX9_note 4 = .ok (.bipush 14, 2) := by decide +kernel
theorem dX9_note_6 : decode cX9_note 6 = .ok (.if_icmp .ne 43, 3) := by decide +kernel
theorem dX9_note_9 : decode cX9_note 9 = .ok (.iconst 0, 1) := by decide +kernel
theorem dX9_note_10 : decode cX9_note 10 = .ok (.istore_n 1, 1) := by decide +kernel
theorem dX9_note_11 : decode cX9_note 11 = .ok (.iload_n 1, 1) := by decide +kernel
theorem dX9_note_12 : decode cX9_note 12 = .ok (.sipush 403, 3) := by decide +kernel
theorem dX9_note_15 : decode cX9_note 15 = .ok (.if_icmp .ge 24, 3) := by decide +kernel
theorem dX9_note_18 : decode cX9_note 18 = .ok (.aload_n 0, 1) := by decide +kernel
theorem dX9_note_19 : decode cX9_note 19 = .ok (.getfield 40, 3) := by decide +kernel
theorem dX9_note_22 : decode cX9_note 22 = .ok (.iload_n 1, 1) := by decide +kernel
theorem dX9_note_23 : decode cX9_note 23 = .ok (.aload_n 0, 1) := by decide +kernel
theorem dX9_note_24 : decode cX9_note 24 = .ok (.getfield 40, 3) := by decide +kernel
theorem dX9_note_27 : decode cX9_note 27 = .ok (.iload_n 1, 1) := by decide +kernel
theorem dX9_note_28 : decode cX9_note 28 = .ok (.bipush 31, 2) := by decide +kernel
theorem dX9_note_30 : decode cX9_note 30 = .ok (.iadd, 1) := by decide +kernel
theorem dX9_note_31 : decode cX9_note 31 = .ok (.iaload, 1) := by decide +kernel
theorem dX9_note_32 : decode cX9_note 32 = .ok (.iastore, 1) := by decide +kernel
theorem dX9_note_33 : decode cX9_note 33 = .ok (.iinc 1 1, 3) := by decide +kernel
theorem dX9_note_36 : decode cX9_note 36 = .ok (.goto (-25), 3) := by decide +kernel
theorem dX9_note_39 : decode cX9_note 39 = .ok (.aload_n 0, 1) := by decide +kernel
theorem dX9_note_40 : decode cX9_note 40 = .ok (.dup, 1) := by decide +kernel
theorem dX9_note_41 : decode cX9_note 41 = .ok (.getfield 127, 3) := by decide +kernel
theorem dX9_note_44 : decode cX9_note 44 = .ok (.iconst 1, 1) := by decide +kernel
theorem dX9_note_45 : decode cX9_note 45 = .ok (.isub, 1) := by decide +kernel
theorem dX9_note_46 : decode cX9_note 46 = .ok (.putfield 127, 3) := by decide +kernel
theorem dX9_note_49 : decode cX9_note 49 = .ok (.iconst 0, 1) := by decide +kernel
theorem dX9_note_50 : decode cX9_note 50 = .ok (.istore_n 1, 1) := by decide +kernel
theorem dX9_note_51 : decode cX9_note 51 = .ok (.iload_n 1, 1) := by decide +kernel
theorem dX9_note_52 : decode cX9_note 52 = .ok (.bipush 31, 2) := by decide +kernel
theorem dX9_note_54 : decode cX9_note 54 = .ok (.if_icmp .ge 29, 3) := by decide +kernel
theorem dX9_note_57 : decode cX9_note 57 = .ok (.aload_n 0, 1) := by decide +kernel
theorem dX9_note_58 : decode cX9_note 58 = .ok (.getfield 40, 3) := by decide +kernel
theorem dX9_note_61 : decode cX9_note 61 = .ok (.bipush 31, 2) := by decide +kernel
theorem dX9_note_63 : decode cX9_note 63 = .ok (.aload_n 0, 1) := by decide +kernel
theorem dX9_note_64 : decode cX9_note 64 = .ok (.getfield 127, 3) := by decide +kernel
theorem dX9_note_67 : decode cX9_note 67 = .ok (.imul, 1) := by decide +kernel
theorem dX9_note_68 : decode cX9_note 68 = .ok (.iload_n 1, 1) := by decide +kernel
theorem dX9_note_69 : decode cX9_note 69 = .ok (.iadd, 1) := by decide +kernel
theorem dX9_note_70 : decode cX9_note 70 = .ok (.aload_n 0, 1) := by decide +kernel
theorem dX9_note_71 : decode cX9_note 71 = .ok (.getfield 34, 3) := by decide +kernel
theorem dX9_note_74 : decode cX9_note 74 = .ok (.iload_n 1, 1) := by decide +kernel
theorem dX9_note_75 : decode cX9_note 75 = .ok (.iaload, 1) := by decide +kernel
theorem dX9_note_76 : decode cX9_note 76 = .ok (.iastore, 1) := by decide +kernel
theorem dX9_note_77 : decode cX9_note 77 = .ok (.iinc 1 1, 3) := by decide +kernel
theorem dX9_note_80 : decode cX9_note 80 = .ok (.goto (-29), 3) := by decide +kernel
theorem dX9_note_83 : decode cX9_note 83 = .ok (.aload_n 0, 1) := by decide +kernel
theorem dX9_note_84 : decode cX9_note 84 = .ok (.dup, 1) := by decide +kernel
theorem dX9_note_85 : decode cX9_note 85 = .ok (.getfield 127, 3) := by decide +kernel
theorem dX9_note_88 : decode cX9_note 88 = .ok (.iconst 1, 1) := by decide +kernel
theorem dX9_note_89 : decode cX9_note 89 = .ok (.iadd, 1) := by decide +kernel
theorem dX9_note_90 : decode cX9_note 90 = .ok (.putfield 127, 3) := by decide +kernel
theorem dX9_note_93 : decode cX9_note 93 = .ok (.return_, 1) := by decide +kernel
theorem dX9_canDraw_0 : decode cX9_canDraw 0 = .ok (.aload_n 1, 1) := by decide +kernel
theorem dX9_canDraw_1 : decode cX9_canDraw 1 = .ok (.iload_n 2, 1) := by decide +kernel
theorem dX9_canDraw_2 : decode cX9_canDraw 2 = .ok (.iaload, 1) := by decide +kernel
theorem dX9_canDraw_3 : decode cX9_canDraw 3 = .ok (.iload_n 3, 1) := by decide +kernel
theorem dX9_canDraw_4 : decode cX9_canDraw 4 = .ok (.ifCond .ne 7, 3) := by decide +kernel
theorem dX9_canDraw_7 : decode cX9_canDraw 7 = .ok (.iconst (-1), 1) := by decide +kernel
theorem dX9_canDraw_8 : decode cX9_canDraw 8 = .ok (.goto 4, 3) := by decide +kernel
theorem dX9_canDraw_11 : decode cX9_canDraw 11 = .ok (.iconst 1, 1) := by decide +kernel
theorem dX9_canDraw_12 : decode cX9_canDraw 12 = .ok (.iadd, 1) := by decide +kernel
theorem dX9_canDraw_13 : decode cX9_canDraw 13 = .ok (.istore 4, 2) := by decide +kernel
theorem dX9_canDraw_15 : decode cX9_canDraw 15 = .ok (.iload 4, 2) := by decide +kernel
theorem dX9_canDraw_17 : decode cX9_canDraw 17 = .ok (.i2l, 1) := by decide +kernel
theorem dX9_canDraw_18 : decode cX9_canDraw 18 = .ok (.lconst 0, 1) := by decide +kernel
theorem dX9_canDraw_19 : decode cX9_canDraw 19 = .ok (.ldc2_w 182, 3) := by decide +kernel
theorem dX9_canDraw_22 : decode cX9_canDraw 22 = .ok (.invokestatic 74, 3) := by decide +kernel
theorem dX9_canDraw_25 : decode cX9_canDraw 25 = .ok (.ifCond .eq 59, 3) := by decide +kernel
theorem dX9_canDraw_28 : decode cX9_canDraw 28 = .ok (.iload_n 2, 1) := by decide +kernel
theorem dX9_canDraw_29 : decode cX9_canDraw 29 = .ok (.ifCond .eq 22, 3) := by decide +kernel
theorem dX9_canDraw_32 : decode cX9_canDraw 32 = .ok (.iload 4, 2) := by decide +kernel
theorem dX9_canDraw_34 : decode cX9_canDraw 34 = .ok (.aload_n 1, 1) := by decide +kernel
theorem dX9_canDraw_35 : decode cX9_canDraw 35 = .ok (.iload_n 2, 1) := by decide +kernel
theorem dX9_canDraw_36 : decode cX9_canDraw 36 = .ok (.iconst 1, 1) := by decide +kernel
theorem dX9_canDraw_37 : decode cX9_canDraw 37 = .ok (.isub, 1) := by decide +kernel
theorem dX9_canDraw_38 : decode cX9_canDraw 38 = .ok (.iaload, 1) := by decide +kernel
theorem dX9_canDraw_39 : decode cX9_canDraw 39 = .ok (.isub, 1) := by decide +kernel
theorem dX9_canDraw_40 : decode cX9_canDraw 40 = .ok (.i2l, 1) := by decide +kernel
theorem dX9_canDraw_41 : decode cX9_canDraw 41 = .ok (.ldc2_w 146, 3) := by decide +kernel
theorem dX9_canDraw_44 : decode cX9_canDraw 44 = .ok (.lconst 1, 1) := by decide +kernel
theorem dX9_canDraw_45 : decode cX9_canDraw 45 = .ok (.invokestatic 74, 3) := by decide +kernel
theorem dX9_canDraw_48 : decode cX9_canDraw 48 = .ok (.ifCond .eq 36, 3) := by decide +kernel
theorem dX9_canDraw_51 : decode cX9_canDraw 51 = .ok (.iload_n 2, 1) := by decide +kernel
theorem dX9_canDraw_52 : decode cX9_canDraw 52 = .ok (.aload_n 0, 1) := by decide +kernel
theorem dX9_canDraw_53 : decode cX9_canDraw 53 = .ok (.getfield 114, 3) := by decide +kernel
theorem dX9_canDraw_56 : decode cX9_canDraw 56 = .ok (.iconst 1, 1) := by decide +kernel
theorem dX9_canDraw_57 : decode cX9_canDraw 57 = .ok (.isub, 1) := by decide +kernel
theorem dX9_canDraw_58 : decode cX9_canDraw 58 = .ok (.if_icmp .eq 22, 3) := by decide +kernel
theorem dX9_canDraw_61 : decode cX9_canDraw 61 = .ok (.iload 4, 2) := by decide +kernel
theorem dX9_canDraw_63 : decode cX9_canDraw 63 = .ok (.aload_n 1, 1) := by decide +kernel
theorem dX9_canDraw_64 : decode cX9_canDraw 64 = .ok (.iload_n 2, 1) := by decide +kernel
theorem dX9_canDraw_65 : decode cX9_canDraw 65 = .ok (.iconst 1, 1) := by decide +kernel
theorem dX9_canDraw_66 : decode cX9_canDraw 66 = .ok (.iadd, 1) := by decide +kernel
theorem dX9_canDraw_67 : decode cX9_canDraw 67 = .ok (.iaload, 1) := by decide +kernel
theorem dX9_canDraw_68 : decode cX9_canDraw 68 = .ok (.isub, 1) := by decide +kernel
theorem dX9_canDraw_69 : decode cX9_canDraw 69 = .ok (.i2l, 1) := by decide +kernel
theorem dX9_canDraw_70 : decode cX9_canDraw 70 = .ok (.ldc2_w 146, 3) := by decide +kernel
theorem dX9_canDraw_73 : decode cX9_canDraw 73 = .ok (.lconst 1, 1) := by decide +kernel
theorem dX9_canDraw_74 : decode cX9_canDraw 74 = .ok (.invokestatic 74, 3) := by decide +kernel
theorem dX9_canDraw_77 : decode cX9_canDraw 77 = .ok (.ifCond .eq 7, 3) := by decide +kernel
theorem dX9_canDraw_80 : decode cX9_canDraw 80 = .ok (.iconst 1, 1) := by decide +kernel
theorem dX9_canDraw_81 : decode cX9_canDraw 81 = .ok (.goto 4, 3) := by decide +kernel
theorem dX9_canDraw_84 : decode cX9_canDraw 84 = .ok (.iconst 0, 1) := by decide +kernel
theorem dX9_canDraw_85 : decode cX9_canDraw 85 = .ok (.ireturn, 1) := by decide +kernel
theorem dX9_draw_0 : decode cX9_draw 0 = .ok (.aload_n 0, 1) := by decide +kernel
theorem dX9_draw_1 : decode cX9_draw 1 = .ok (.iconst 0, 1) := by decide +kernel
theorem dX9_draw_2 : decode cX9_draw 2 = .ok (.putfield 68, 3) := by decide +kernel
theorem dX9_draw_5 : decode cX9_draw 5 = .ok (.iload_n 1, 1) := by decide +kernel
theorem dX9_draw_6 : decode cX9_draw 6 = .ok (.i2l, 1) := by decide +kernel
theorem dX9_draw_7 : decode cX9_draw 7 = .ok (.lconst 0, 1) := by decide +kernel
theorem dX9_draw_8 : decode cX9_draw 8 = .ok (.aload_n 0, 1) := by decide +kernel
theorem dX9_draw_9 : decode cX9_draw 9 = .ok (.getfield 114, 3) := by decide +kernel
theorem dX9_draw_12 : decode cX9_draw 12 = .ok (.iconst 1, 1) := by decide +kernel
theorem dX9_draw_13 : decode cX9_draw 13 = .ok (.isub, 1) := by decide +kernel
theorem dX9_draw_14 : decode cX9_draw 14 = .ok (.i2l, 1) := by decide +kernel
theorem dX9_draw_15 : decode cX9_draw 15 = .ok (.invokestatic 74, 3) := by decide +kernel
theorem dX9_draw_18 : decode cX9_draw 18 = .ok (.ifCond .ne 5, 3) := by decide +kernel
theorem dX9_draw_21 : decode cX9_draw 21 = .ok (.iconst (-1), 1) := by decide +kernel
theorem dX9_draw_22 : decode cX9_draw 22 = .ok (.ireturn, 1) := by decide +kernel
theorem dX9_draw_23 : decode cX9_draw 23 = .ok (.iload_n 2, 1) := by decide +kernel
theorem dX9_draw_24 : decode cX9_draw 24 = .ok (.i2l, 1) := by decide +kernel
theorem dX9_draw_25 : decode cX9_draw 25 = .ok (.lconst 0, 1) := by decide +kernel
theorem dX9_draw_26 : decode cX9_draw 26 = .ok (.lconst 1, 1) := by decide +kernel
theorem dX9_draw_27 : decode cX9_draw 27 = .ok (.invokestatic 74, 3) := by decide +kernel
theorem dX9_draw_30 : decode cX9_draw 30 = .ok (.ifCond .ne 6, 3) := by decide +kernel
theorem dX9_draw_33 : decode cX9_draw 33 = .ok (.bipush (-2), 2) := by decide +kernel
theorem dX9_draw_35 : decode cX9_draw 35 = .ok (.ireturn, 1) := by decide +kernel
theorem dX9_draw_36 : decode cX9_draw 36 = .ok (.aload_n 0, 1) := by decide +kernel
theorem dX9_draw_37 : decode cX9_draw 37 = .ok (.aload_n 0, 1) := by decide +kernel
theorem dX9_draw_38 : decode cX9_draw 38 = .ok (.getfield 34, 3) := by decide +kernel
theorem dX9_draw_41 : decode cX9_draw 41 = .ok (.iload_n 1, 1) := by decide +kernel
theorem dX9_draw_42 : decode cX9_draw 42 = .ok (.iload_n 2, 1) := by decide +kernel
theorem dX9_draw_43 : decode cX9_draw 43 = .ok (.invokevirtual 184, 3) := by decide +kernel
theorem dX9_draw_46 : decode cX9_draw 46 = .ok (.ifCond .ne 6, 3) := by decide +kernel
theorem dX9_draw_49 : decode cX9_draw 49 = .ok (.bipush (-3), 2) := by decide +kernel
theorem dX9_draw_51 : decode cX9_draw 51 = .ok (.ireturn, 1) := by decide +kernel
theorem dX9_draw_52 : decode cX9_draw 52 = .ok (.aload_n 0, 1) := by decide +kernel
theorem dX9_draw_53 : decode cX9_draw 53 = .ok (.invokevirtual 188, 3) := by decide +kernel
theorem dX9_draw_56 : decode cX9_draw 56 = .ok (.aload_n 0, 1) := by decide +kernel
theorem dX9_draw_57 : decode cX9_draw 57 = .ok (.getfield 34, 3) := by decide +kernel
theorem dX9_draw_60 : decode cX9_draw 60 = .ok (.iload_n 1, 1) := by decide +kernel
theorem dX9_draw_61 : decode cX9_draw 61 = .ok (.dup2, 1) := by decide +kernel
theorem dX9_draw_62 : decode cX9_draw 62 = .ok (.iaload, 1) := by decide +kernel
theorem dX9_draw_63 : decode cX9_draw 63 = .ok (.iload_n 2, 1) := by decide +kernel
theorem dX9_draw_64 : decode cX9_draw 64 = .ok (.ifCond .ne 7, 3) := by decide +kernel
theorem dX9_draw_67 : decode cX9_draw 67 = .ok (.iconst (-1), 1) := by decide +kernel
theorem dX9_draw_68 : decode cX9_draw 68 = .ok (.goto 4, 3) := by decide +kernel
theorem dX9_draw_71 : decode cX9_draw 71 = .ok (.iconst 1, 1) := by decide +kernel
theorem dX9_draw_72 : decode cX9_draw 72 = .ok (.iadd, 1) := by decide +kernel
theorem dX9_draw_73 : decode cX9_draw 73 = .ok (.iastore, 1) := by decide +kernel
theorem dX9_draw_74 : decode cX9_draw 74 = .ok (.aload_n 0, 1) := by decide +kernel
theorem dX9_draw_75 : decode cX9_draw 75 = .ok (.getfield 34, 3) := by decide +kernel
theorem dX9_draw_78 : decode cX9_draw 78 = .ok (.iload_n 1, 1) := by decide +kernel
theorem dX9_draw_79 : decode cX9_draw 79 = .ok (.iaload, 1) := by decide +kernel
theorem dX9_draw_80 : decode cX9_draw 80 = .ok (.ireturn, 1) := by decide +kernel
theorem dX9_swap_0 : decode cX9_swap 0 = .ok (.iconst 5, 1) := by decide +kernel
theorem dX9_swap_1 : decode cX9_swap 1 = .ok (.iconst 5, 1) := by decide +kernel
theorem dX9_swap_2 : decode cX9_swap 2 = .ok (.iload_n 1, 1) := by decide +kernel
theorem dX9_swap_3 : decode cX9_swap 3 = .ok (.imul, 1) := by decide +kernel
theorem dX9_swap_4 : decode cX9_swap 4 = .ok (.iadd, 1) := by decide +kernel
theorem dX9_swap_5 : decode cX9_swap 5 = .ok (.aload_n 0, 1) := by decide +kernel
theorem dX9_swap_6 : decode cX9_swap 6 = .ok (.iload_n 1, 1) := by decide +kernel
theorem dX9_swap_7 : decode cX9_swap 7 = .ok (.iaload, 1) := by decide +kernel
theorem dX9_swap_8 : decode cX9_swap 8 = .ok (.iadd, 1) := by decide +kernel
theorem dX9_swap_9 : decode cX9_swap 9 = .ok (.istore_n 2, 1) := by decide +kernel
theorem dX9_swap_10 : decode cX9_swap 10 = .ok (.aload_n 0, 1) := by decide +kernel
theorem dX9_swap_11 : decode cX9_swap 11 = .ok (.iload_n 2, 1) := by decide +kernel
theorem dX9_swap_12 : decode cX9_swap 12 = .ok (.iaload, 1) := by decide +kernel
theorem dX9_swap_13 : decode cX9_swap 13 = .ok (.istore_n 3, 1) := by decide +kernel
theorem dX9_swap_14 : decode cX9_swap 14 = .ok (.aload_n 0, 1) := by decide +kernel
theorem dX9_swap_15 : decode cX9_swap 15 = .ok (.iload_n 2, 1) := by decide +kernel
theorem dX9_swap_16 : decode cX9_swap 16 = .ok (.aload_n 0, 1) := by decide +kernel
theorem dX9_swap_17 : decode cX9_swap 17 = .ok (.iload_n 2, 1) := by decide +kernel
theorem dX9_swap_18 : decode cX9_swap 18 = .ok (.iconst 1, 1) := by decide +kernel
theorem dX9_swap_19 : decode cX9_swap 19 = .ok (.isub, 1) := by decide +kernel
theorem dX9_swap_20 : decode cX9_swap 20 = .ok (.iaload, 1) := by decide +kernel
theorem dX9_swap_21 : decode cX9_swap 21 = .ok (.iastore, 1) := by decide +kernel
theorem dX9_swap_22 : decode cX9_swap 22 = .ok (.aload_n 0, 1) := by decide +kernel
theorem dX9_swap_23 : decode cX9_swap 23 = .ok (.iload_n 2, 1) := by decide +kernel
theorem dX9_swap_24 : decode cX9_swap 24 = .ok (.iconst 1, 1) := by decide +kernel
theorem dX9_swap_25 : decode cX9_swap 25 = .ok (.isub, 1) := by decide +kernel
theorem dX9_swap_26 : decode cX9_swap 26 = .ok (.iload_n 3, 1) := by decide +kernel
theorem dX9_swap_27 : decode cX9_swap 27 = .ok (.iastore, 1) := by decide +kernel
theorem dX9_swap_28 : decode cX9_swap 28 = .ok (.return_, 1) := by decide +kernel
theorem dX9_change_0 : decode cX9_change 0 = .ok (.aload_n 0, 1) := by decide +kernel
theorem dX9_change_1 : decode cX9_change 1 = .ok (.iconst 0, 1) := by decide +kernel
theorem dX9_change_2 : decode cX9_change 2 = .ok (.putfield 68, 3) := by decide +kernel
theorem dX9_change_5 : decode cX9_change 5 = .ok (.iload_n 1, 1) := by decide +kernel
theorem dX9_change_6 : decode cX9_change 6 = .ok (.i2l, 1) := by decide +kernel
theorem dX9_change_7 : decode cX9_change 7 = .ok (.lconst 0, 1) := by decide +kernel
theorem dX9_change_8 : decode cX9_change 8 = .ok (.aload_n 0, 1) := by decide +kernel
theorem dX9_change_9 : decode cX9_change 9 = .ok (.getfield 114, 3) := by decide +kernel
theorem dX9_change_12 : decode cX9_change 12 = .ok (.iconst 1, 1) := by decide +kernel
theorem dX9_change_13 : decode cX9_change 13 = .ok (.isub, 1) := by decide +kernel
theorem dX9_change_14 : decode cX9_change 14 = .ok (.i2l, 1) := by decide +kernel
theorem dX9_change_15 : decode cX9_change 15 = .ok (.invokestatic 74, 3) := by decide +kernel
theorem dX9_change_18 : decode cX9_change 18 = .ok (.ifCond .ne 5, 3) := by decide +kernel
theorem dX9_change_21 : decode cX9_change 21 = .ok (.iconst (-1), 1) := by decide +kernel
theorem dX9_change_22 : decode cX9_change 22 = .ok (.ireturn, 1) := by decide +kernel
theorem dX9_change_23 : decode cX9_change 23 = .ok (.aload_n 0, 1) := by decide +kernel
theorem dX9_change_24 : decode cX9_change 24 = .ok (.getfield 34, 3) := by decide +kernel
theorem dX9_change_27 : decode cX9_change 27 = .ok (.iload_n 1, 1) := by decide +kernel
theorem dX9_change_28 : decode cX9_change 28 = .ok (.iaload, 1) := by decide +kernel
theorem dX9_change_29 : decode cX9_change 29 = .ok (.i2l, 1) := by decide +kernel
theorem dX9_change_30 : decode cX9_change 30 = .ok (.lconst 1, 1) := by decide +kernel
theorem dX9_change_31 : decode cX9_change 31 = .ok (.ldc2_w 172, 3) := by decide +kernel
theorem dX9_change_34 : decode cX9_change 34 = .ok (.invokestatic 74, 3) := by decide +kernel
theorem dX9_change_37 : decode cX9_change 37 = .ok (.ifCond .ne 6, 3) := by decide +kernel
theorem dX9_change_40 : decode cX9_change 40 = .ok (.bipush (-3), 2) := by decide +kernel
theorem dX9_change_42 : decode cX9_change 42 = .ok (.ireturn, 1) := by decide +kernel
theorem dX9_change_43 : decode cX9_change 43 = .ok (.aload_n 0, 1) := by decide +kernel
theorem dX9_change_44 : decode cX9_change 44 = .ok (.invokevirtual 188, 3) := by decide +kernel
theorem dX9_change_47 : decode cX9_change 47 = .ok (.aload_n 0, 1) := by decide +kernel
theorem dX9_change_48 : decode cX9_change 48 = .ok (.getfield 34, 3) := by decide +kernel
theorem dX9_change_51 : decode cX9_change 51 = .ok (.iload_n 1, 1) := by decide +kernel
theorem dX9_change_52 : decode cX9_change 52 = .ok (.invokestatic 191, 3) := by decide +kernel
theorem dX9_change_55 : decode cX9_change 55 = .ok (.aload_n 0, 1) := by decide +kernel
theorem dX9_change_56 : decode cX9_change 56 = .ok (.getfield 34, 3) := by decide +kernel
theorem dX9_change_59 : decode cX9_change 59 = .ok (.iconst 5, 1) := by decide +kernel
theorem dX9_change_60 : decode cX9_change 60 = .ok (.iconst 5, 1) := by decide +kernel
theorem dX9_change_61 : decode cX9_change 61 = .ok (.iload_n 1, 1) := by decide +kernel
theorem dX9_change_62 : decode cX9_change 62 = .ok (.imul, 1) := by decide +kernel
theorem dX9_change_63 : decode cX9_change 63 = .ok (.iadd, 1) := by decide +kernel
theorem dX9_change_64 : decode cX9_change 64 = .ok (.aload_n 0, 1) := by decide +kernel
theorem dX9_change_65 : decode cX9_change 65 = .ok (.getfield 34, 3) := by decide +kernel
theorem dX9_change_68 : decode cX9_change 68 = .ok (.iload_n 1, 1) := by decide +kernel
theorem dX9_change_69 : decode cX9_change 69 = .ok (.iaload, 1) := by decide +kernel
theorem dX9_change_70 : decode cX9_change 70 = .ok (.iadd, 1) := by decide +kernel
theorem dX9_change_71 : decode cX9_change 71 = .ok (.iconst 1, 1) := by decide +kernel
theorem dX9_change_72 : decode cX9_change 72 = .ok (.isub, 1) := by decide +kernel
theorem dX9_change_73 : decode cX9_change 73 = .ok (.iaload, 1) := by decide +kernel
theorem dX9_change_74 : decode cX9_change 74 = .ok (.iconst 4, 1) := by decide +kernel
theorem dX9_change_75 : decode cX9_change 75 = .ok (.idiv, 1) := by decide +kernel
theorem dX9_change_76 : decode cX9_change 76 = .ok (.ireturn, 1) := by decide +kernel
theorem dX9_rejoin_0 : decode cX9_rejoin 0 = .ok (.aload_n 1, 1) := by decide +kernel
theorem dX9_rejoin_1 : decode cX9_rejoin 1 = .ok (.bipush 30, 2) := by decide +kernel
theorem dX9_rejoin_3 : decode cX9_rejoin 3 = .ok (.dup2, 1) := by decide +kernel
theorem dX9_rejoin_4 : decode cX9_rejoin 4 = .ok (.iaload, 1) := by decide +kernel
theorem dX9_rejoin_5 : decode cX9_rejoin 5 = .ok (.aload_n 0, 1) := by decide +kernel
theorem dX9_rejoin_6 : decode cX9_rejoin 6 = .ok (.aload_n 1, 1) := by decide +kernel
theorem dX9_rejoin_7 : decode cX9_rejoin 7 = .ok (.invokevirtual 160, 3) := by decide +kernel
theorem dX9_rejoin_10 : decode cX9_rejoin 10 = .ok (.iadd, 1) := by decide +kernel
theorem dX9_rejoin_11 : decode cX9_rejoin 11 = .ok (.iastore, 1) := by decide +kernel
theorem dX9_rejoin_12 : decode cX9_rejoin 12 = .ok (.iconst 0, 1) := by decide +kernel
theorem dX9_rejoin_13 : decode cX9_rejoin 13 = .ok (.istore_n 2, 1) := by decide +kernel
theorem dX9_rejoin_14 : decode cX9_rejoin 14 = .ok (.iload_n 2, 1) := by decide +kernel
theorem dX9_rejoin_15 : decode cX9_rejoin 15 = .ok (.aload_n 0, 1) := by decide +kernel
theorem dX9_rejoin_16 : decode cX9_rejoin 16 = .ok (.getfield 114, 3) := by decide +kernel
theorem dX9_rejoin_19 : decode cX9_rejoin 19 = .ok (.if_icmp .ge 13, 3) := by decide +kernel
theorem dX9_rejoin_22 : decode cX9_rejoin 22 = .ok (.aload_n 1, 1) := by decide +kernel
theorem dX9_rejoin_23 : decode cX9_rejoin 23 = .ok (.iload_n 2, 1) := by decide +kernel
theorem dX9_rejoin_24 : decode cX9_rejoin 24 = .ok (.iconst 2, 1) := by decide +kernel
theorem dX9_rejoin_25 : decode cX9_rejoin 25 = .ok (.iastore, 1) := by decide +kernel
theorem dX9_rejoin_26 : decode cX9_rejoin 26 = .ok (.iinc 2 1, 3) := by decide +kernel
theorem dX9_rejoin_29 : decode cX9_rejoin 29 = .ok (.goto (-15), 3) := by decide +kernel
theorem dX9_rejoin_32 : decode cX9_rejoin 32 = .ok (.return_, 1) := by decide +kernel
theorem dX9_join_0 : decode cX9_join 0 = .ok (.aload_n 0, 1) := by decide +kernel
theorem dX9_join_1 : decode cX9_join 1 = .ok (.iconst 0, 1) := by decide +kernel
theorem dX9_join_2 : decode cX9_join 2 = .ok (.putfield 68, 3) := by decide +kernel
theorem dX9_join_5 : decode cX9_join 5 = .ok (.aload_n 0, 1) := by decide +kernel
theorem dX9_join_6 : decode cX9_join 6 = .ok (.invokevirtual 188, 3) := by decide +kernel
theorem dX9_join_9 : decode cX9_join 9 = .ok (.aload_n 0, 1) := by decide +kernel
theorem dX9_join_10 : decode cX9_join 10 = .ok (.aload_n 0, 1) := by decide +kernel
theorem dX9_join_11 : decode cX9_join 11 = .ok (.getfield 34, 3) := by decide +kernel
theorem dX9_join_14 : decode cX9_join 14 = .ok (.invokevirtual 195, 3) := by decide +kernel
theorem dX9_join_17 : decode cX9_join 17 = .ok (.aload_n 0, 1) := by decide +kernel
theorem dX9_join_18 : decode cX9_join 18 = .ok (.getfield 34, 3) := by decide +kernel
theorem dX9_join_21 : decode cX9_join 21 = .ok (.bipush 30, 2) := by decide +kernel
theorem dX9_join_23 : decode cX9_join 23 = .ok (.iaload, 1) := by decide +kernel
theorem dX9_join_24 : decode cX9_join 24 = .ok (.ireturn, 1) := by decide +kernel
theorem dX9_undo_0 : decode cX9_undo 0 = .ok (.aload_n 0, 1) := by decide +kernel
theorem dX9_undo_1 : decode cX9_undo 1 = .ok (.iconst 0, 1) := by decide +kernel
theorem dX9_undo_2 : decode cX9_undo 2 = .ok (.putfield 68, 3) := by decide +kernel
theorem dX9_undo_5 : decode cX9_undo 5 = .ok (.aload_n 0, 1) := by decide +kernel
theorem dX9_undo_6 : decode cX9_undo 6 = .ok (.getfield 127, 3) := by decide +kernel
theorem dX9_undo_9 : decode cX9_undo 9 = .ok (.ifCond .ne 6, 3) := by decide +kernel
theorem dX9_undo_12 : decode cX9_undo 12 = .ok (.bipush (-3), 2) := by decide +kernel
theorem dX9_undo_14 : decode cX9_undo 14 = .ok (.ireturn, 1) := by decide +kernel
theorem dX9_undo_15 : decode cX9_undo 15 = .ok (.aload_n 0, 1) := by decide +kernel
theorem dX9_undo_16 : decode cX9_undo 16 = .ok (.dup, 1) := by decide +kernel
theorem dX9_undo_17 : decode cX9_undo 17 = .ok (.getfield 127, 3) := by decide +kernel
theorem dX9_undo_20 : decode cX9_undo 20 = .ok (.iconst 1, 1) := by decide +kernel
theorem dX9_undo_21 : decode cX9_undo 21 = .ok (.isub, 1) := by decide +kernel
theorem dX9_undo_22 : decode cX9_undo 22 = .ok (.putfield 127, 3) := by decide +kernel
theorem dX9_undo_25 : decode cX9_undo 25 = .ok (.iconst 0, 1) := by decide +kernel
theorem dX9_undo_26 : decode cX9_undo 26 = .ok (.istore_n 1, 1) := by decide +kernel
theorem dX9_undo_27 : decode cX9_undo 27 = .ok (.iload_n 1, 1) := by decide +kernel
theorem dX9_undo_28 : decode cX9_undo 28 = .ok (.bipush 31, 2) := by decide +kernel
theorem dX9_undo_30 : decode cX9_undo 30 = .ok (.if_icmp .ge 29, 3) := by decide +kernel
theorem dX9_undo_33 : decode cX9_undo 33 = .ok (.aload_n 0, 1) := by decide +kernel
theorem dX9_undo_34 : decode cX9_undo 34 = .ok (.getfield 34, 3) := by decide +kernel
theorem dX9_undo_37 : decode cX9_undo 37 = .ok (.iload_n 1, 1) := by decide +kernel
theorem dX9_undo_38 : decode cX9_undo 38 = .ok (.aload_n 0, 1) := by decide +kernel
theorem dX9_undo_39 : decode cX9_undo 39 = .ok (.getfield 40, 3) := by decide +kernel
theorem dX9_undo_42 : decode cX9_undo 42 = .ok (.bipush 31, 2) := by decide +kernel
theorem dX9_undo_44 : decode cX9_undo 44 = .ok (.aload_n 0, 1) := by decide +kernel
theorem dX9_undo_45 : decode cX9_undo 45 = .ok (.getfield 127, 3) := by decide +kernel
theorem dX9_undo_48 : decode cX9_undo 48 = .ok (.imul, 1) := by decide +kernel
theorem dX9_undo_49 : decode cX9_undo 49 = .ok (.iload_n 1, 1) := by decide +kernel
theorem dX9_undo_50 : decode cX9_undo 50 = .ok (.iadd, 1) := by decide +kernel
theorem dX9_undo_51 : decode cX9_undo 51 = .ok (.iaload, 1) := by decide +kernel
theorem dX9_undo_52 : decode cX9_undo 52 = .ok (.iastore, 1) := by decide +kernel
theorem dX9_undo_53 : decode cX9_undo 53 = .ok (.iinc 1 1, 3) := by decide +kernel
theorem dX9_undo_56 : decode cX9_undo 56 = .ok (.goto (-29), 3) := by decide +kernel
theorem dX9_undo_59 : decode cX9_undo 59 = .ok (.aload_n 0, 1) := by decide +kernel
theorem dX9_undo_60 : decode cX9_undo 60 = .ok (.getfield 127, 3) := by decide +kernel
theorem dX9_undo_63 : decode cX9_undo 63 = .ok (.ireturn, 1) := by decide +kernel
theorem dX9_best_0 : decode cX9_best 0 = .ok (.aload_n 0, 1) := by decide +kernel
theorem dX9_best_1 : decode cX9_best 1 = .ok (.iconst 0, 1) := by decide +kernel
theorem dX9_best_2 : decode cX9_best 2 = .ok (.putfield 68, 3) := by decide +kernel
theorem dX9_best_5 : decode cX9_best 5 = .ok (.iload_n 1, 1) := by decide +kernel
theorem dX9_best_6 : decode cX9_best 6 = .ok (.i2l, 1) := by decide +kernel
theorem dX9_best_7 : decode cX9_best 7 = .ok (.lconst 0, 1) := by decide +kernel
theorem dX9_best_8 : decode cX9_best 8 = .ok (.lconst 1, 1) := by decide +kernel
theorem dX9_best_9 : decode cX9_best 9 = .ok (.invokestatic 74, 3) := by decide +kernel
theorem dX9_best_12 : decode cX9_best 12 = .ok (.ifCond .ne 6, 3) := by decide +kernel
theorem dX9_best_15 : decode cX9_best 15 = .ok (.bipush (-2), 2) := by decide +kernel
theorem dX9_best_17 : decode cX9_best 17 = .ok (.ireturn, 1) := by decide +kernel
theorem dX9_best_18 : decode cX9_best 18 = .ok (.bipush (-9), 2) := by decide +kernel
theorem dX9_best_20 : decode cX9_best 20 = .ok (.istore_n 2, 1) := by decide +kernel
theorem dX9_best_21 : decode cX9_best 21 = .ok (.bipush (-9), 2) := by decide +kernel
theorem dX9_best_23 : decode cX9_best 23 = .ok (.istore_n 3, 1) := by decide +kernel
theorem dX9_best_24 : decode cX9_best 24 = .ok (.iconst 0, 1) := by decide +kernel
theorem dX9_best_25 : decode cX9_best 25 = .ok (.istore 4, 2) := by decide +kernel
theorem dX9_best_27 : decode cX9_best 27 = .ok (.iconst 0, 1) := by decide +kernel
theorem dX9_best_28 : decode cX9_best 28 = .ok (.istore 5, 2) := by decide +kernel
theorem dX9_best_30 : decode cX9_best 30 = .ok (.iload 5, 2) := by decide +kernel
theorem dX9_best_32 : decode cX9_best 32 = .ok (.bipush 6, 2) := by decide +kernel
theorem dX9_best_34 : decode cX9_best 34 = .ok (.aload_n 0, 1) := by decide +kernel
theorem dX9_best_35 : decode cX9_best 35 = .ok (.getfield 114, 3) := by decide +kernel
theorem dX9_best_38 : decode cX9_best 38 = .ok (.invokestatic 142, 3) := by decide +kernel
theorem dX9_best_41 : decode cX9_best 41 = .ok (.if_icmp .ge 101, 3) := by decide +kernel
theorem dX9_best_44 : decode cX9_best 44 = .ok (.aload_n 0, 1) := by decide +kernel
theorem dX9_best_45 : decode cX9_best 45 = .ok (.iload 5, 2) := by decide +kernel
theorem dX9_best_47 : decode cX9_best 47 = .ok (.invokevirtual 148, 3) := by decide +kernel
theorem dX9_best_50 : decode cX9_best 50 = .ok (.ifCond .eq 86, 3) := by decide +kernel
theorem dX9_best_53 : decode cX9_best 53 = .ok (.aload_n 0, 1) := by decide +kernel
theorem dX9_best_54 : decode cX9_best 54 = .ok (.aload_n 0, 1) := by decide +kernel
theorem dX9_best_55 : decode cX9_best 55 = .ok (.getfield 37, 3) := by decide +kernel
theorem dX9_best_58 : decode cX9_best 58 = .ok (.invokevirtual 152, 3) := by decide +kernel
theorem dX9_best_61 : decode cX9_best 61 = .ok (.aload_n 0, 1) := by decide +kernel
theorem dX9_best_62 : decode cX9_best 62 = .ok (.aload_n 0, 1) := by decide +kernel
theorem dX9_best_63 : decode cX9_best 63 = .ok (.getfield 37, 3) := by decide +kernel
theorem dX9_best_66 : decode cX9_best 66 = .ok (.iconst 0, 1) := by decide +kernel
theorem dX9_best_67 : decode cX9_best 67 = .ok (.bipush 31, 2) := by decide +kernel
theorem dX9_best_69 : decode cX9_best 69 = .ok (.invokevirtual 179, 3) := by decide +kernel
theorem dX9_best_72 : decode cX9_best 72 = .ok (.invokestatic 198, 3) := by decide +kernel
theorem dX9_best_75 : decode cX9_best 75 = .ok (.aload_n 0, 1) := by decide +kernel
theorem dX9_best_76 : decode cX9_best 76 = .ok (.aload_n 0, 1) := by decide +kernel
theorem dX9_best_77 : decode cX9_best 77 = .ok (.getfield 37, 3) := by decide +kernel
theorem dX9_best_80 : decode cX9_best 80 = .ok (.iconst 1, 1) := by decide +kernel
theorem dX9_best_81 : decode cX9_best 81 = .ok (.bipush 31, 2) := by decide +kernel
theorem dX9_best_83 : decode cX9_best 83 = .ok (.invokevirtual 179, 3) := by decide +kernel
theorem dX9_best_86 : decode cX9_best 86 = .ok (.invokestatic 198, 3) := by decide +kernel
theorem dX9_best_89 : decode cX9_best 89 = .ok (.iadd, 1) := by decide +kernel
theorem dX9_best_90 : decode cX9_best 90 = .ok (.istore 6, 2) := by decide +kernel
theorem dX9_best_92 : decode cX9_best 92 = .ok (.aload_n 0, 1) := by decide +kernel
theorem dX9_best_93 : decode cX9_best 93 = .ok (.invokevirtual 163, 3) := by decide +kernel
theorem dX9_best_96 : decode cX9_best 96 = .ok (.invokestatic 198, 3) := by decide +kernel
theorem dX9_best_99 : decode cX9_best 99 = .ok (.istore 7, 2) := by decide +kernel
theorem dX9_best_101 : decode cX9_best 101 = .ok (.iload 6, 2) := by decide +kernel
theorem dX9_best_103 : decode cX9_best 103 = .ok (.iload_n 3, 1) := by decide +kernel
theorem dX9_best_104 : decode cX9_best 104 = .ok (.if_icmp .gt 16, 3) := by decide +kernel
theorem dX9_best_107 : decode cX9_best 107 = .ok (.iload 6, 2) := by decide +kernel
theorem dX9_best_109 : decode cX9_best 109 = .ok (.iload_n 3, 1) := by decide +kernel
theorem dX9_best_110 : decode cX9_best 110 = .ok (.if_icmp .ne 26, 3) := by decide +kernel
theorem dX9_best_113 : decode cX9_best 113 = .ok (.iload 7, 2) := by decide +kernel
theorem dX9_best_115 : decode cX9_best 115 = .ok (.iload 4, 2) := by decide +kernel
theorem dX9_best_117 : decode cX9_best 117 = .ok (.if_icmp .ge 19, 3) := by decide +kernel
theorem dX9_best_120 : decode cX9_best 120 = .ok (.iload 6, 2) := by decide +kernel
theorem dX9_best_122 : decode cX9_best 122 = .ok (.istore_n 3, 1) := by decide +kernel
theorem dX9_best_123 : decode cX9_best 123 = .ok (.iload 7, 2) := by decide +kernel
theorem dX9_best_125 : decode cX9_best 125 = .ok (.istore 4, 2) := by decide +kernel
theorem dX9_best_127 : decode cX9_best 127 = .ok (.aload_n 0, 1) := by decide +kernel
theorem dX9_best_128 : decode cX9_best 128 = .ok (.aload_n 0, 1) := by decide +kernel
theorem dX9_best_129 : decode cX9_best 129 = .ok (.getfield 37, 3) := by decide +kernel
theorem dX9_best_132 : decode cX9_best 132 = .ok (.invokevirtual 156, 3) := by decide +kernel
theorem dX9_best_135 : decode cX9_best 135 = .ok (.istore_n 2, 1) := by decide +kernel
theorem dX9_best_136 : decode cX9_best 136 = .ok (.iinc 5 1, 3) := by decide +kernel
theorem dX9_best_139 : decode cX9_best 139 = .ok (.goto (-109), 3) := by decide +kernel
theorem dX9_best_142 : decode cX9_best 142 = .ok (.iload_n 1, 1) := by decide +kernel
theorem dX9_best_143 : decode cX9_best 143 = .ok (.ifCond .ne 7, 3) := by decide +kernel
theorem dX9_best_146 : decode cX9_best 146 = .ok (.iload_n 2, 1) := by decide +kernel
theorem dX9_best_147 : decode cX9_best 147 = .ok (.goto 4, 3) := by decide +kernel
theorem dX9_best_150 : decode cX9_best 150 = .ok (.iload_n 3, 1) := by decide +kernel
theorem dX9_best_151 : decode cX9_best 151 = .ok (.ireturn, 1) := by decide +kernel
theorem dX9_fewest_0 : decode cX9_fewest 0 = .ok (.aload_n 0, 1) := by decide +kernel
theorem dX9_fewest_1 : decode cX9_fewest 1 = .ok (.iconst 0, 1) := by decide +kernel
theorem dX9_fewest_2 : decode cX9_fewest 2 = .ok (.putfield 68, 3) := by decide +kernel
theorem dX9_fewest_5 : decode cX9_fewest 5 = .ok (.iload_n 1, 1) := by decide +kernel
theorem dX9_fewest_6 : decode cX9_fewest 6 = .ok (.i2l, 1) := by decide +kernel
theorem dX9_fewest_7 : decode cX9_fewest 7 = .ok (.lconst 0, 1) := by decide +kernel
theorem dX9_fewest_8 : decode cX9_fewest 8 = .ok (.aload_n 0, 1) := by decide +kernel
theorem dX9_fewest_9 : decode cX9_fewest 9 = .ok (.getfield 120, 3) := by decide +kernel
theorem dX9_fewest_12 : decode cX9_fewest 12 = .ok (.iconst 1, 1) := by decide +kernel
theorem dX9_fewest_13 : decode cX9_fewest 13 = .ok (.isub, 1) := by decide +kernel
theorem dX9_fewest_14 : decode cX9_fewest 14 = .ok (.i2l, 1) := by decide +kernel
theorem dX9_fewest_15 : decode cX9_fewest 15 = .ok (.invokestatic 74, 3) := by decide +kernel
theorem dX9_fewest_18 : decode cX9_fewest 18 = .ok (.ifCond .ne 5, 3) := by decide +kernel
theorem dX9_fewest_21 : decode cX9_fewest 21 = .ok (.iconst (-1), 1) := by decide +kernel
theorem dX9_fewest_22 : decode cX9_fewest 22 = .ok (.ireturn, 1) := by decide +kernel
theorem dX9_fewest_23 : decode cX9_fewest 23 = .ok (.iload_n 2, 1) := by decide +kernel
theorem dX9_fewest_24 : decode cX9_fewest 24 = .ok (.i2l, 1) := by decide +kernel
theorem dX9_fewest_25 : decode cX9_fewest 25 = .ok (.lconst 0, 1) := by decide +kernel
theorem dX9_fewest_26 : decode cX9_fewest 26 = .ok (.lconst 1, 1) := by decide +kernel
theorem dX9_fewest_27 : decode cX9_fewest 27 = .ok (.invokestatic 74, 3) := by decide +kernel
theorem dX9_fewest_30 : decode cX9_fewest 30 = .ok (.ifCond .ne 6, 3) := by decide +kernel
theorem dX9_fewest_33 : decode cX9_fewest 33 = .ok (.bipush (-2), 2) := by decide +kernel
theorem dX9_fewest_35 : decode cX9_fewest 35 = .ok (.ireturn, 1) := by decide +kernel
theorem dX9_fewest_36 : decode cX9_fewest 36 = .ok (.bipush (-9), 2) := by decide +kernel
theorem dX9_fewest_38 : decode cX9_fewest 38 = .ok (.istore_n 3, 1) := by decide +kernel
theorem dX9_fewest_39 : decode cX9_fewest 39 = .ok (.bipush (-9), 2) := by decide +kernel
theorem dX9_fewest_41 : decode cX9_fewest 41 = .ok (.istore 4, 2) := by decide +kernel
theorem dX9_fewest_43 : decode cX9_fewest 43 = .ok (.iconst 0, 1) := by decide +kernel
theorem dX9_fewest_44 : decode cX9_fewest 44 = .ok (.istore 5, 2) := by decide +kernel
theorem dX9_fewest_46 : decode cX9_fewest 46 = .ok (.iload 5, 2) := by decide +kernel
theorem dX9_fewest_48 : decode cX9_fewest 48 = .ok (.bipush 6, 2) := by decide +kernel
theorem dX9_fewest_50 : decode cX9_fewest 50 = .ok (.aload_n 0, 1) := by decide +kernel
theorem dX9_fewest_51 : decode cX9_fewest 51 = .ok (.getfield 114, 3) := by decide +kernel
theorem dX9_fewest_54 : decode cX9_fewest 54 = .ok (.invokestatic 142, 3) := by decide +kernel
theorem dX9_fewest_57 : decode cX9_fewest 57 = .ok (.if_icmp .ge 92, 3) := by decide +kernel
theorem dX9_fewest_60 : decode cX9_fewest 60 = .ok (.aload_n 0, 1) := by decide +kernel
theorem dX9_fewest_61 : decode cX9_fewest 61 = .ok (.iload 5, 2) := by decide +kernel
theorem dX9_fewest_63 : decode cX9_fewest 63 = .ok (.invokevirtual 148, 3) := by decide +kernel
theorem dX9_fewest_66 : decode cX9_fewest 66 = .ok (.ifCond .eq 77, 3) := by decide +kernel
theorem dX9_fewest_69 : decode cX9_fewest 69 = .ok (.aload_n 0, 1) := by decide +kernel
theorem dX9_fewest_70 : decode cX9_fewest 70 = .ok (.aload_n 0, 1) := by decide +kernel
theorem dX9_fewest_71 : decode cX9_fewest 71 = .ok (.getfield 37, 3) := by decide +kernel
theorem dX9_fewest_74 : decode cX9_fewest 74 = .ok (.invokevirtual 152, 3) := by decide +kernel
theorem dX9_fewest_77 : decode cX9_fewest 77 = .ok (.aload_n 0, 1) := by decide +kernel
theorem dX9_fewest_78 : decode cX9_fewest 78 = .ok (.invokevirtual 163, 3) := by decide +kernel
theorem dX9_fewest_81 : decode cX9_fewest 81 = .ok (.invokestatic 198, 3) := by decide +kernel
theorem dX9_fewest_84 : decode cX9_fewest 84 = .ok (.istore 6, 2) := by decide +kernel
theorem dX9_fewest_86 : decode cX9_fewest 86 = .ok (.aload_n 0, 1) := by decide +kernel
theorem dX9_fewest_87 : decode cX9_fewest 87 = .ok (.aload_n 0, 1) := by decide +kernel
theorem dX9_fewest_88 : decode cX9_fewest 88 = .ok (.getfield 37, 3) := by decide +kernel
theorem dX9_fewest_91 : decode cX9_fewest 91 = .ok (.iconst 0, 1) := by decide +kernel
theorem dX9_fewest_92 : decode cX9_fewest 92 = .ok (.bipush 31, 2) := by decide +kernel
theorem dX9_fewest_94 : decode cX9_fewest 94 = .ok (.invokevirtual 179, 3) := by decide +kernel
theorem dX9_fewest_97 : decode cX9_fewest 97 = .ok (.aload_n 0, 1) := by decide +kernel
theorem dX9_fewest_98 : decode cX9_fewest 98 = .ok (.aload_n 0, 1) := by decide +kernel
theorem dX9_fewest_99 : decode cX9_fewest 99 = .ok (.getfield 37, 3) := by decide +kernel
theorem dX9_fewest_102 : decode cX9_fewest 102 = .ok (.iconst 1, 1) := by decide +kernel
theorem dX9_fewest_103 : decode cX9_fewest 103 = .ok (.bipush 31, 2) := by decide +kernel
theorem dX9_fewest_105 : decode cX9_fewest 105 = .ok (.invokevirtual 179, 3) := by decide +kernel
theorem dX9_fewest_108 : decode cX9_fewest 108 = .ok (.iand, 1) := by decide +kernel
theorem dX9_fewest_109 : decode cX9_fewest 109 = .ok (.iload_n 1, 1) := by decide +kernel
theorem dX9_fewest_110 : decode cX9_fewest 110 = .ok (.invokestatic 130, 3) := by decide +kernel
theorem dX9_fewest_113 : decode cX9_fewest 113 = .ok (.ifCond .eq 30, 3) := by decide +kernel
theorem dX9_fewest_116 : decode cX9_fewest 116 = .ok (.iload 4, 2) := by decide +kernel
theorem dX9_fewest_118 : decode cX9_fewest 118 = .ok (.bipush (-9), 2) := by decide +kernel
theorem dX9_fewest_120 : decode cX9_fewest 120 = .ok (.if_icmp .eq 10, 3) := by decide +kernel
theorem dX9_fewest_123 : decode cX9_fewest 123 = .ok (.iload 6, 2) := by decide +kernel
theorem dX9_fewest_125 : decode cX9_fewest 125 = .ok (.iload 4, 2) := by decide +kernel
theorem dX9_fewest_127 : decode cX9_fewest 127 = .ok (.if_icmp .ge 16, 3) := by decide +kernel
theorem dX9_fewest_130 : decode cX9_fewest 130 = .ok (.iload 6, 2) := by decide +kernel
theorem dX9_fewest_132 : decode cX9_fewest 132 = .ok (.istore 4, 2) := by decide +kernel
theorem dX9_fewest_134 : decode cX9_fewest 134 = .ok (.aload_n 0, 1) := by decide +kernel
theorem dX9_fewest_135 : decode cX9_fewest 135 = .ok (.aload_n 0, 1) := by decide +kernel
theorem dX9_fewest_136 : decode cX9_fewest 136 = .ok (.getfield 37, 3) := by decide +kernel
theorem dX9_fewest_139 : decode cX9_fewest 139 = .ok (.invokevirtual 156, 3) := by decide +kernel
theorem dX9_fewest_142 : decode cX9_fewest 142 = .ok (.istore_n 3, 1) := by decide +kernel
theorem dX9_fewest_143 : decode cX9_fewest 143 = .ok (.iinc 5 1, 3) := by decide +kernel
theorem dX9_fewest_146 : decode cX9_fewest 146 = .ok (.goto (-100), 3) := by decide +kernel
theorem dX9_fewest_149 : decode cX9_fewest 149 = .ok (.iload_n 2, 1) := by decide +kernel
theorem dX9_fewest_150 : decode cX9_fewest 150 = .ok (.ifCond .ne 7, 3) := by decide +kernel
theorem dX9_fewest_153 : decode cX9_fewest 153 = .ok (.iload_n 3, 1) := by decide +kernel
theorem dX9_fewest_154 : decode cX9_fewest 154 = .ok (.goto 5, 3) := by decide +kernel
theorem dX9_fewest_157 : decode cX9_fewest 157 = .ok (.iload 4, 2) := by decide +kernel
theorem dX9_fewest_159 : decode cX9_fewest 159 = .ok (.ireturn, 1) := by decide +kernel
theorem dX9_worthOf_0 : decode cX9_worthOf 0 = .ok (.iconst 0, 1) := by decide +kernel
theorem dX9_worthOf_1 : decode cX9_worthOf 1 = .ok (.istore_n 3, 1) := by decide +kernel
theorem dX9_worthOf_2 : decode cX9_worthOf 2 = .ok (.iconst 0, 1) := by decide +kernel
theorem dX9_worthOf_3 : decode cX9_worthOf 3 = .ok (.istore 4, 2) := by decide +kernel
theorem dX9_worthOf_5 : decode cX9_worthOf 5 = .ok (.iload 4, 2) := by decide +kernel
theorem dX9_worthOf_7 : decode cX9_worthOf 7 = .ok (.iconst 4, 1) := by decide +kernel
theorem dX9_worthOf_8 : decode cX9_worthOf 8 = .ok (.if_icmp .ge 40, 3) := by decide +kernel
theorem dX9_worthOf_11 : decode cX9_worthOf 11 = .ok (.iload_n 3, 1) := by decide +kernel
theorem dX9_worthOf_12 : decode cX9_worthOf 12 = .ok (.iload_n 2, 1) := by decide +kernel
theorem dX9_worthOf_13 : decode cX9_worthOf 13 = .ok (.bipush 10, 2) := by decide +kernel
theorem dX9_worthOf_15 : decode cX9_worthOf 15 = .ok (.iconst 3, 1) := by decide +kernel
theorem dX9_worthOf_16 : decode cX9_worthOf 16 = .ok (.iload 4, 2) := by decide +kernel
theorem dX9_worthOf_18 : decode cX9_worthOf 18 = .ok (.isub, 1) := by decide +kernel
theorem dX9_worthOf_19 : decode cX9_worthOf 19 = .ok (.invokestatic 142, 3) := by decide +kernel
theorem dX9_worthOf_22 : decode cX9_worthOf 22 = .ok (.idiv, 1) := by decide +kernel
theorem dX9_worthOf_23 : decode cX9_worthOf 23 = .ok (.bipush 10, 2) := by decide +kernel
theorem dX9_worthOf_25 : decode cX9_worthOf 25 = .ok (.irem, 1) := by decide +kernel
theorem dX9_worthOf_26 : decode cX9_worthOf 26 = .ok (.aload_n 0, 1) := by decide +kernel
theorem dX9_worthOf_27 : decode cX9_worthOf 27 = .ok (.aload_n 0, 1) := by decide +kernel
theorem dX9_worthOf_28 : decode cX9_worthOf 28 = .ok (.getfield 37, 3) := by decide +kernel
theorem dX9_worthOf_31 : decode cX9_worthOf 31 = .ok (.iload_n 1, 1) := by decide +kernel
theorem dX9_worthOf_32 : decode cX9_worthOf 32 = .ok (.iload 4, 2) := by decide +kernel
theorem dX9_worthOf_34 : decode cX9_worthOf 34 = .ok (.bipush 31, 2) := by decide +kernel
theorem dX9_worthOf_36 : decode cX9_worthOf 36 = .ok (.invokevirtual 138, 3) := by decide +kernel
theorem dX9_worthOf_39 : decode cX9_worthOf 39 = .ok (.imul, 1) := by decide +kernel
theorem dX9_worthOf_40 : decode cX9_worthOf 40 = .ok (.iadd, 1) := by decide +kernel
theorem dX9_worthOf_41 : decode cX9_worthOf 41 = .ok (.istore_n 3, 1) := by decide +kernel
theorem dX9_worthOf_42 : decode cX9_worthOf 42 = .ok (.iinc 4 1, 3) := by decide +kernel
theorem dX9_worthOf_45 : decode cX9_worthOf 45 = .ok (.goto (-40), 3) := by decide +kernel
theorem dX9_worthOf_48 : decode cX9_worthOf 48 = .ok (.iload_n 3, 1) := by decide +kernel
theorem dX9_worthOf_49 : decode cX9_worthOf 49 = .ok (.ireturn, 1) := by decide +kernel
theorem dX9_fair_0 : decode cX9_fair 0 = .ok (.aload_n 0, 1) := by decide +kernel
theorem dX9_fair_1 : decode cX9_fair 1 = .ok (.iconst 0, 1) := by decide +kernel
theorem dX9_fair_2 : decode cX9_fair 2 = .ok (.putfield 68, 3) := by decide +kernel
theorem dX9_fair_5 : decode cX9_fair 5 = .ok (.iload_n 1, 1) := by decide +kernel
theorem dX9_fair_6 : decode cX9_fair 6 = .ok (.i2l, 1) := by decide +kernel
theorem dX9_fair_7 : decode cX9_fair 7 = .ok (.lconst 0, 1) := by decide +kernel
theorem dX9_fair_8 : decode cX9_fair 8 = .ok (.ldc2_w 202, 3) := by decide +kernel
theorem dX9_fair_11 : decode cX9_fair 11 = .ok (.invokestatic 74, 3) := by decide +kernel
theorem dX9_fair_14 : decode cX9_fair 14 = .ok (.ifCond .eq 25, 3) := by decide +kernel
theorem dX9_fair_17 : decode cX9_fair 17 = .ok (.iload_n 2, 1) := by decide +kernel
theorem dX9_fair_18 : decode cX9_fair 18 = .ok (.i2l, 1) := by decide +kernel
theorem dX9_fair_19 : decode cX9_fair 19 = .ok (.lconst 0, 1) := by decide +kernel
theorem dX9_fair_20 : decode cX9_fair 20 = .ok (.ldc2_w 202, 3) := by decide +kernel
theorem dX9_fair_23 : decode cX9_fair 23 = .ok (.invokestatic 74, 3) := by decide +kernel
theorem dX9_fair_26 : decode cX9_fair 26 = .ok (.ifCond .eq 13, 3) := by decide +kernel
theorem dX9_fair_29 : decode cX9_fair 29 = .ok (.iload_n 3, 1) := by decide +kernel
theorem dX9_fair_30 : decode cX9_fair 30 = .ok (.i2l, 1) := by decide +kernel
theorem dX9_fair_31 : decode cX9_fair 31 = .ok (.lconst 0, 1) := by decide +kernel
theorem dX9_fair_32 : decode cX9_fair 32 = .ok (.lconst 1, 1) := by decide +kernel
theorem dX9_fair_33 : decode cX9_fair 33 = .ok (.invokestatic 74, 3) := by decide +kernel
theorem dX9_fair_36 : decode cX9_fair 36 = .ok (.ifCond .ne 6, 3) := by decide +kernel
theorem dX9_fair_39 : decode cX9_fair 39 = .ok (.bipush (-2), 2) := by decide +kernel
theorem dX9_fair_41 : decode cX9_fair 41 = .ok (.ireturn, 1) := by decide +kernel
theorem dX9_fair_42 : decode cX9_fair 42 = .ok (.iconst 0, 1) := by decide +kernel
theorem dX9_fair_43 : decode cX9_fair 43 = .ok (.istore 4, 2) := by decide +kernel
theorem dX9_fair_45 : decode cX9_fair 45 = .ok (.bipush (-9), 2) := by decide +kernel
theorem dX9_fair_47 : decode cX9_fair 47 = .ok (.istore 5, 2) := by decide +kernel
theorem dX9_fair_49 : decode cX9_fair 49 = .ok (.iconst 0, 1) := by decide +kernel
theorem dX9_fair_50 : decode cX9_fair 50 = .ok (.istore 6, 2) := by decide +kernel
theorem dX9_fair_52 : decode cX9_fair 52 = .ok (.iload 6, 2) := by decide +kernel
theorem dX9_fair_54 : decode cX9_fair 54 = .ok (.bipush 6, 2) := by decide +kernel
theorem dX9_fair_56 : decode cX9_fair 56 = .ok (.aload_n 0, 1) := by decide +kernel
theorem dX9_fair_57 : decode cX9_fair 57 = .ok (.getfield 114, 3) := by decide +kernel
theorem dX9_fair_60 : decode cX9_fair 60 = .ok (.invokestatic 142, 3) := by decide +kernel
theorem dX9_fair_63 : decode cX9_fair 63 = .ok (.if_icmp .ge 103, 3) := by decide +kernel
theorem dX9_fair_66 : decode cX9_fair 66 = .ok (.aload_n 0, 1) := by decide +kernel
theorem dX9_fair_67 : decode cX9_fair 67 = .ok (.iload 6, 2) := by decide +kernel
theorem dX9_fair_69 : decode cX9_fair 69 = .ok (.invokevirtual 148, 3) := by decide +kernel
theorem dX9_fair_72 : decode cX9_fair 72 = .ok (.ifCond .eq 88, 3) := by decide +kernel
theorem dX9_fair_75 : decode cX9_fair 75 = .ok (.aload_n 0, 1) := by decide +kernel
theorem dX9_fair_76 : decode cX9_fair 76 = .ok (.aload_n 0, 1) := by decide +kernel
theorem dX9_fair_77 : decode cX9_fair 77 = .ok (.getfield 37, 3) := by decide +kernel
theorem dX9_fair_80 : decode cX9_fair 80 = .ok (.invokevirtual 152, 3) := by decide +kernel
theorem dX9_fair_83 : decode cX9_fair 83 = .ok (.aload_n 0, 1) := by decide +kernel
theorem dX9_fair_84 : decode cX9_fair 84 = .ok (.iconst 0, 1) := by decide +kernel
theorem dX9_fair_85 : decode cX9_fair 85 = .ok (.iload_n 1, 1) := by decide +kernel
theorem dX9_fair_86 : decode cX9_fair 86 = .ok (.invokevirtual 204, 3) := by decide +kernel
theorem dX9_fair_89 : decode cX9_fair 89 = .ok (.aload_n 0, 1) := by decide +kernel
theorem dX9_fair_90 : decode cX9_fair 90 = .ok (.iconst 1, 1) := by decide +kernel
theorem dX9_fair_91 : decode cX9_fair 91 = .ok (.iload_n 1, 1) := by decide +kernel
theorem dX9_fair_92 : decode cX9_fair 92 = .ok (.invokevirtual 204, 3) := by decide +kernel
theorem dX9_fair_95 : decode cX9_fair 95 = .ok (.if_icmp .lt 22, 3) := by decide +kernel
theorem dX9_fair_98 : decode cX9_fair 98 = .ok (.aload_n 0, 1) := by decide +kernel
theorem dX9_fair_99 : decode cX9_fair 99 = .ok (.iconst 1, 1) := by decide +kernel
theorem dX9_fair_100 : decode cX9_fair 100 = .ok (.iload_n 2, 1) := by decide +kernel
theorem dX9_fair_101 : decode cX9_fair 101 = .ok (.invokevirtual 204, 3) := by decide +kernel
theorem dX9_fair_104 : decode cX9_fair 104 = .ok (.aload_n 0, 1) := by decide +kernel
theorem dX9_fair_105 : decode cX9_fair 105 = .ok (.iconst 0, 1) := by decide +kernel
theorem dX9_fair_106 : decode cX9_fair 106 = .ok (.iload_n 2, 1) := by decide +kernel
theorem dX9_fair_107 : decode cX9_fair 107 = .ok (.invokevirtual 204, 3) := by decide +kernel
theorem dX9_fair_110 : decode cX9_fair 110 = .ok (.if_icmp .lt 7, 3) := by decide +kernel
theorem dX9_fair_113 : decode cX9_fair 113 = .ok (.iconst 1, 1) := by decide +kernel
theorem dX9_fair_114 : decode cX9_fair 114 = .ok (.goto 4, 3) := by decide +kernel
theorem dX9_fair_117 : decode cX9_fair 117 = .ok (.iconst 0, 1) := by decide +kernel
theorem dX9_fair_118 : decode cX9_fair 118 = .ok (.istore 7, 2) := by decide +kernel
theorem dX9_fair_120 : decode cX9_fair 120 = .ok (.iload 7, 2) := by decide +kernel
theorem dX9_fair_122 : decode cX9_fair 122 = .ok (.ifCond .eq 19, 3) := by decide +kernel
theorem dX9_fair_125 : decode cX9_fair 125 = .ok (.iload 4, 2) := by decide +kernel
theorem dX9_fair_127 : decode cX9_fair 127 = .ok (.ifCond .ne 14, 3) := by decide +kernel
theorem dX9_fair_130 : decode cX9_fair 130 = .ok (.aload_n 0, 1) := by decide +kernel
theorem dX9_fair_131 : decode cX9_fair 131 = .ok (.aload_n 0, 1) := by decide +kernel
theorem dX9_fair_132 : decode cX9_fair 132 = .ok (.getfield 37, 3) := by decide +kernel
theorem dX9_fair_135 : decode cX9_fair 135 = .ok (.invokevirtual 156, 3) := by decide +kernel
theorem dX9_fair_138 : decode cX9_fair 138 = .ok (.goto 5, 3) := by decide +kernel
theorem dX9_fair_141 : decode cX9_fair 141 = .ok (.iload 5, 2) := by decide +kernel
theorem dX9_fair_143 : decode cX9_fair 143 = .ok (.istore 5, 2) := by decide +kernel
theorem dX9_fair_145 : decode cX9_fair 145 = .ok (.iload 4, 2) := by decide +kernel
theorem dX9_fair_147 : decode cX9_fair 147 = .ok (.iload 7, 2) := by decide +kernel
theorem dX9_fair_149 : decode cX9_fair 149 = .ok (.ifCond .eq 7, 3) := by decide +kernel
theorem dX9_fair_152 : decode cX9_fair 152 = .ok (.iconst 1, 1) := by decide +kernel
theorem dX9_fair_153 : decode cX9_fair 153 = .ok (.goto 4, 3) := by decide +kernel
theorem dX9_fair_156 : decode cX9_fair 156 = .ok (.iconst 0, 1) := by decide +kernel
theorem dX9_fair_157 : decode cX9_fair 157 = .ok (.iadd, 1) := by decide +kernel
theorem dX9_fair_158 : decode cX9_fair 158 = .ok (.istore 4, 2) := by decide +kernel
theorem dX9_fair_160 : decode cX9_fair 160 = .ok (.iinc 6 1, 3) := by decide +kernel
theorem dX9_fair_163 : decode cX9_fair 163 = .ok (.goto (-111), 3) := by decide +kernel
theorem dX9_fair_166 : decode cX9_fair 166 = .ok (.iload_n 3, 1) := by decide +kernel
theorem dX9_fair_167 : decode cX9_fair 167 = .ok (.ifCond .ne 8, 3) := by decide +kernel
theorem dX9_fair_170 : decode cX9_fair 170 = .ok (.iload 4, 2) := by decide +kernel
theorem dX9_fair_172 : decode cX9_fair 172 = .ok (.goto 5, 3) := by decide +kernel
theorem dX9_fair_175 : decode cX9_fair 175 = .ok (.iload 5, 2) := by decide +kernel
theorem dX9_fair_177 : decode cX9_fair 177 = .ok (.ireturn, 1) := by decide +kernel
theorem dX9_does_0 : decode cX9_does 0 = .ok (.iload_n 1, 1) := by decide +kernel
theorem dX9_does_1 : decode cX9_does 1 = .ok (.bipush 10, 2) := by decide +kernel
theorem dX9_does_3 : decode cX9_does 3 = .ok (.idiv, 1) := by decide +kernel
theorem dX9_does_4 : decode cX9_does 4 = .ok (.istore_n 2, 1) := by decide +kernel
theorem dX9_does_5 : decode cX9_does 5 = .ok (.iload_n 1, 1) := by decide +kernel
theorem dX9_does_6 : decode cX9_does 6 = .ok (.bipush 10, 2) := by decide +kernel
theorem dX9_does_8 : decode cX9_does 8 = .ok (.irem, 1) := by decide +kernel
theorem dX9_does_9 : decode cX9_does 9 = .ok (.istore_n 3, 1) := by decide +kernel
theorem dX9_does_10 : decode cX9_does 10 = .ok (.iload_n 1, 1) := by decide +kernel
theorem dX9_does_11 : decode cX9_does 11 = .ok (.bipush 30, 2) := by decide +kernel
theorem dX9_does_13 : decode cX9_does 13 = .ok (.if_icmp .ne 13, 3) := by decide +kernel
theorem dX9_does_16 : decode cX9_does 16 = .ok (.aload_n 0, 1) := by decide +kernel
theorem dX9_does_17 : decode cX9_does 17 = .ok (.aload_n 0, 1) := by decide +kernel
theorem dX9_does_18 : decode cX9_does 18 = .ok (.getfield 37, 3) := by decide +kernel
theorem dX9_does_21 : decode cX9_does 21 = .ok (.invokevirtual 195, 3) := by decide +kernel
theorem dX9_does_24 : decode cX9_does 24 = .ok (.iconst 1, 1) := by decide +kernel
theorem dX9_does_25 : decode cX9_does 25 = .ok (.ireturn, 1) := by decide +kernel
theorem dX9_does_26 : decode cX9_does 26 = .ok (.iload_n 3, 1) := by decide +kernel
theorem dX9_does_27 : decode cX9_does 27 = .ok (.aload_n 0, 1) := by decide +kernel
theorem dX9_does_28 : decode cX9_does 28 = .ok (.getfield 114, 3) := by decide +kernel
theorem dX9_does_31 : decode cX9_does 31 = .ok (.if_icmp .ge 8, 3) := by decide +kernel
theorem dX9_does_34 : decode cX9_does 34 = .ok (.iload_n 2, 1) := by decide +kernel
theorem dX9_does_35 : decode cX9_does 35 = .ok (.iconst 2, 1) := by decide +kernel
theorem dX9_does_36 : decode cX9_does 36 = .ok (.if_icmp .le 5, 3) := by decide +kernel
theorem dX9_does_39 : decode cX9_does 39 = .ok (.iconst 0, 1) := by decide +kernel
theorem dX9_does_40 : decode cX9_does 40 = .ok (.ireturn, 1) := by decide +kernel
theorem dX9_does_41 : decode cX9_does 41 = .ok (.iload_n 2, 1) := by decide +kernel
theorem dX9_does_42 : decode cX9_does 42 = .ok (.iconst 2, 1) := by decide +kernel
theorem dX9_does_43 : decode cX9_does 43 = .ok (.if_icmp .ne 35, 3) := by decide +kernel
theorem dX9_does_46 : decode cX9_does 46 = .ok (.aload_n 0, 1) := by decide +kernel
theorem dX9_does_47 : decode cX9_does 47 = .ok (.getfield 37, 3) := by decide +kernel
theorem dX9_does_50 : decode cX9_does 50 = .ok (.iload_n 3, 1) := by decide +kernel
theorem dX9_does_51 : decode cX9_does 51 = .ok (.iaload, 1) := by decide +kernel
theorem dX9_does_52 : decode cX9_does 52 = .ok (.i2l, 1) := by decide +kernel
theorem dX9_does_53 : decode cX9_does 53 = .ok (.lconst 1, 1) := by decide +kernel
theorem dX9_does_54 : decode cX9_does 54 = .ok (.ldc2_w 172, 3) := by decide +kernel
theorem dX9_does_57 : decode cX9_does 57 = .ok (.invokestatic 74, 3) := by decide +kernel
theorem dX9_does_60 : decode cX9_does 60 = .ok (.istore 4, 2) := by decide +kernel
theorem dX9_does_62 : decode cX9_does 62 = .ok (.iload 4, 2) := by decide +kernel
theorem dX9_does_64 : decode cX9_does 64 = .ok (.ifCond .eq 11, 3) := by decide +kernel
theorem dX9_does_67 : decode cX9_does 67 = .ok (.aload_n 0, 1) := by decide +kernel
theorem dX9_does_68 : decode cX9_does 68 = .ok (.getfield 37, 3) := by decide +kernel
theorem dX9_does_71 : decode cX9_does 71 = .ok (.iload_n 3, 1) := by decide +kernel
theorem dX9_does_72 : decode cX9_does 72 = .ok (.invokestatic 191, 3) := by decide +kernel
theorem dX9_does_75 : decode cX9_does 75 = .ok (.iload 4, 2) := by decide +kernel
theorem dX9_does_77 : decode cX9_does 77 = .ok (.ireturn, 1) := by decide +kernel
theorem dX9_does_78 : decode cX9_does 78 = .ok (.aload_n 0, 1) := by decide +kernel
theorem dX9_does_79 : decode cX9_does 79 = .ok (.aload_n 0, 1) := by decide +kernel
theorem dX9_does_80 : decode cX9_does 80 = .ok (.getfield 37, 3) := by decide +kernel
theorem dX9_does_83 : decode cX9_does 83 = .ok (.iload_n 3, 1) := by decide +kernel
theorem dX9_does_84 : decode cX9_does 84 = .ok (.iload_n 2, 1) := by decide +kernel
theorem dX9_does_85 : decode cX9_does 85 = .ok (.invokevirtual 184, 3) := by decide +kernel
theorem dX9_does_88 : decode cX9_does 88 = .ok (.istore 4, 2) := by decide +kernel
theorem dX9_does_90 : decode cX9_does 90 = .ok (.aload_n 0, 1) := by decide +kernel
theorem dX9_does_91 : decode cX9_does 91 = .ok (.getfield 37, 3) := by decide +kernel
theorem dX9_does_94 : decode cX9_does 94 = .ok (.iload_n 3, 1) := by decide +kernel
theorem dX9_does_95 : decode cX9_does 95 = .ok (.dup2, 1) := by decide +kernel
theorem dX9_does_96 : decode cX9_does 96 = .ok (.iaload, 1) := by decide +kernel
theorem dX9_does_97 : decode cX9_does 97 = .ok (.iload 4, 2) := by decide +kernel
theorem dX9_does_99 : decode cX9_does 99 = .ok (.ifCond .eq 11, 3) := by decide +kernel
theorem dX9_does_102 : decode cX9_does 102 = .ok (.iconst 2, 1) := by decide +kernel
theorem dX9_does_103 : decode cX9_does 103 = .ok (.iload_n 2, 1) := by decide +kernel
theorem dX9_does_104 : decode cX9_does 104 = .ok (.imul, 1) := by decide +kernel
theorem dX9_does_105 : decode cX9_does 105 = .ok (.iconst 1, 1) := by decide +kernel
theorem dX9_does_106 : decode cX9_does 106 = .ok (.isub, 1) := by decide +kernel
theorem dX9_does_107 : decode cX9_does 107 = .ok (.goto 4, 3) := by decide +kernel
theorem dX9_does_110 : decode cX9_does 110 = .ok (.iconst 0, 1) := by decide +kernel
theorem dX9_does_111 : decode cX9_does 111 = .ok (.iadd, 1) := by decide +kernel
theorem dX9_does_112 : decode cX9_does 112 = .ok (.iastore, 1) := by decide +kernel
theorem dX9_does_113 : decode cX9_does 113 = .ok (.iload 4, 2) := by decide +kernel
theorem dX9_does_115 : decode cX9_does 115 = .ok (.ireturn, 1) := by decide +kernel
theorem dX9_judge_0 : decode cX9_judge 0 = .ok (.aload_n 0, 1) := by decide +kernel
theorem dX9_judge_1 : decode cX9_judge 1 = .ok (.iconst 0, 1) := by decide +kernel
theorem dX9_judge_2 : decode cX9_judge 2 = .ok (.putfield 68, 3) := by decide +kernel
theorem dX9_judge_5 : decode cX9_judge 5 = .ok (.iload_n 1, 1) := by decide +kernel
theorem dX9_judge_6 : decode cX9_judge 6 = .ok (.i2l, 1) := by decide +kernel
theorem dX9_judge_7 : decode cX9_judge 7 = .ok (.lconst 1, 1) := by decide +kernel
theorem dX9_judge_8 : decode cX9_judge 8 = .ok (.ldc2_w 172, 3) := by decide +kernel
theorem dX9_judge_11 : decode cX9_judge 11 = .ok (.invokestatic 74, 3) := by decide +kernel
theorem dX9_judge_14 : decode cX9_judge 14 = .ok (.ifCond .eq 21, 3) := by decide +kernel
theorem dX9_judge_17 : decode cX9_judge 17 = .ok (.iload_n 2, 1) := by decide +kernel
theorem dX9_judge_18 : decode cX9_judge 18 = .ok (.i2l, 1) := by decide +kernel
theorem dX9_judge_19 : decode cX9_judge 19 = .ok (.lconst 0, 1) := by decide +kernel
theorem dX9_judge_20 : decode cX9_judge 20 = .ok (.bipush 100, 2) := by decide +kernel
theorem dX9_judge_22 : decode cX9_judge 22 = .ok (.iload_n 1, 1) := by decide +kernel
theorem dX9_judge_23 : decode cX9_judge 23 = .ok (.invokestatic 142, 3) := by decide +kernel
theorem dX9_judge_26 : decode cX9_judge 26 = .ok (.iconst 1, 1) := by decide +kernel
theorem dX9_judge_27 : decode cX9_judge 27 = .ok (.isub, 1) := by decide +kernel
theorem dX9_judge_28 : decode cX9_judge 28 = .ok (.i2l, 1) := by decide +kernel
theorem dX9_judge_29 : decode cX9_judge 29 = .ok (.invokestatic 74, 3) := by decide +kernel
theorem dX9_judge_32 : decode cX9_judge 32 = .ok (.ifCond .ne 6, 3) := by decide +kernel
theorem dX9_judge_35 : decode cX9_judge 35 = .ok (.bipush (-2), 2) := by decide +kernel
theorem dX9_judge_37 : decode cX9_judge 37 = .ok (.ireturn, 1) := by decide +kernel
theorem dX9_judge_38 : decode cX9_judge 38 = .ok (.aload_n 0, 1) := by decide +kernel
theorem dX9_judge_39 : decode cX9_judge 39 = .ok (.getfield 34, 3) := by decide +kernel
theorem dX9_judge_42 : decode cX9_judge 42 = .ok (.aload_n 0, 1) := by decide +kernel
theorem dX9_judge_43 : decode cX9_judge 43 = .ok (.getfield 37, 3) := by decide +kernel
theorem dX9_judge_46 : decode cX9_judge 46 = .ok (.bipush 31, 2) := by decide +kernel
theorem dX9_judge_48 : decode cX9_judge 48 = .ok (.invokestatic 123, 3) := by decide +kernel
theorem dX9_judge_51 : decode cX9_judge 51 = .ok (.iconst 0, 1) := by decide +kernel
theorem dX9_judge_52 : decode cX9_judge 52 = .ok (.istore_n 3, 1) := by decide +kernel
theorem dX9_judge_53 : decode cX9_judge 53 = .ok (.iload_n 3, 1) := by decide +kernel
theorem dX9_judge_54 : decode cX9_judge 54 = .ok (.iload_n 1, 1) := by decide +kernel
theorem dX9_judge_55 : decode cX9_judge 55 = .ok (.if_icmp .ge 33, 3) := by decide +kernel
theorem dX9_judge_58 : decode cX9_judge 58 = .ok (.aload_n 0, 1) := by decide +kernel
theorem dX9_judge_59 : decode cX9_judge 59 = .ok (.iload_n 2, 1) := by decide +kernel
theorem dX9_judge_60 : decode cX9_judge 60 = .ok (.bipush 100, 2) := by decide +kernel
theorem dX9_judge_62 : decode cX9_judge 62 = .ok (.iload_n 1, 1) := by decide +kernel
theorem dX9_judge_63 : decode cX9_judge 63 = .ok (.iconst 1, 1) := by decide +kernel
theorem dX9_judge_64 : decode cX9_judge 64 = .ok (.isub, 1) := by decide +kernel
theorem dX9_judge_65 : decode cX9_judge 65 = .ok (.iload_n 3, 1) := by decide +kernel
theorem dX9_judge_66 : decode cX9_judge 66 = .ok (.isub, 1) := by decide +kernel
theorem dX9_judge_67 : decode cX9_judge 67 = .ok (.invokestatic 142, 3) := by decide +kernel
theorem dX9_judge_70 : decode cX9_judge 70 = .ok (.idiv, 1) := by decide +kernel
theorem dX9_judge_71 : decode cX9_judge 71 = .ok (.bipush 100, 2) := by decide +kernel
theorem dX9_judge_73 : decode cX9_judge 73 = .ok (.irem, 1) := by decide +kernel
theorem dX9_judge_74 : decode cX9_judge 74 = .ok (.invokevirtual 207, 3) := by decide +kernel
theorem dX9_judge_77 : decode cX9_judge 77 = .ok (.ifCond .ne 5, 3) := by decide +kernel
theorem dX9_judge_80 : decode cX9_judge 80 = .ok (.iload_n 3, 1) := by decide +kernel
theorem dX9_judge_81 : decode cX9_judge 81 = .ok (.ireturn, 1) := by decide +kernel
theorem dX9_judge_82 : decode cX9_judge 82 = .ok (.iinc 3 1, 3) := by decide +kernel
theorem dX9_judge_85 : decode cX9_judge 85 = .ok (.goto (-32), 3) := by decide +kernel
theorem dX9_judge_88 : decode cX9_judge 88 = .ok (.bipush (-9), 2) := by decide +kernel
theorem dX9_judge_90 : decode cX9_judge 90 = .ok (.ireturn, 1) := by decide +kernel
theorem dX9_ways_0 : decode cX9_ways 0 = .ok (.iconst 1, 1) := by decide +kernel
theorem dX9_ways_1 : decode cX9_ways 1 = .ok (.istore_n 1, 1) := by decide +kernel
theorem dX9_ways_2 : decode cX9_ways 2 = .ok (.iconst 2, 1) := by decide +kernel
theorem dX9_ways_3 : decode cX9_ways 3 = .ok (.istore_n 2, 1) := by decide +kernel
theorem dX9_ways_4 : decode cX9_ways 4 = .ok (.iload_n 2, 1) := by decide +kernel
theorem dX9_ways_5 : decode cX9_ways 5 = .ok (.iload_n 0, 1) := by decide +kernel
theorem dX9_ways_6 : decode cX9_ways 6 = .ok (.if_icmp .gt 13, 3) := by decide +kernel
theorem dX9_ways_9 : decode cX9_ways 9 = .ok (.iload_n 1, 1) := by decide +kernel
theorem dX9_ways_10 : decode cX9_ways 10 = .ok (.iload_n 2, 1) := by decide +kernel
theorem dX9_ways_11 : decode cX9_ways 11 = .ok (.imul, 1) := by decide +kernel
theorem dX9_ways_12 : decode cX9_ways 12 = .ok (.istore_n 1, 1) := by decide +kernel
theorem dX9_ways_13 : decode cX9_ways 13 = .ok (.iinc 2 1, 3) := by decide +kernel
theorem dX9_ways_16 : decode cX9_ways 16 = .ok (.goto (-12), 3) := by decide +kernel
theorem dX9_ways_19 : decode cX9_ways 19 = .ok (.iload_n 1, 1) := by decide +kernel
theorem dX9_ways_20 : decode cX9_ways 20 = .ok (.ireturn, 1) := by decide +kernel
theorem dX9_divisor_0 : decode cX9_divisor 0 = .ok (.iload_n 0, 1) := by decide +kernel
theorem dX9_divisor_1 : decode cX9_divisor 1 = .ok (.ifCond .ge 8, 3) := by decide +kernel
theorem dX9_divisor_4 : decode cX9_divisor 4 = .ok (.iload_n 0, 1) := by decide +kernel
theorem dX9_divisor_5 : decode cX9_divisor 5 = .ok (.ineg, 1) := by decide +kernel
theorem dX9_divisor_6 : decode cX9_divisor 6 = .ok (.goto 4, 3) := by decide +kernel
theorem dX9_divisor_9 : decode cX9_divisor 9 = .ok (.iload_n 0, 1) := by decide +kernel
theorem dX9_divisor_10 : decode cX9_divisor 10 = .ok (.istore_n 2, 1) := by decide +kernel
theorem dX9_divisor_11 : decode cX9_divisor 11 = .ok (.iload_n 1, 1) := by decide +kernel
theorem dX9_divisor_12 : decode cX9_divisor 12 = .ok (.istore_n 3, 1) := by decide +kernel
theorem dX9_divisor_13 : decode cX9_divisor 13 = .ok (.iload_n 3, 1) := by decide +kernel
theorem dX9_divisor_14 : decode cX9_divisor 14 = .ok (.ifCond .eq 16, 3) := by decide +kernel
theorem dX9_divisor_17 : decode cX9_divisor 17 = .ok (.iload_n 2, 1) := by decide +kernel
theorem dX9_divisor_18 : decode cX9_divisor 18 = .ok (.iload_n 3, 1) := by decide +kernel
theorem dX9_divisor_19 : decode cX9_divisor 19 = .ok (.irem, 1) := by decide +kernel
theorem dX9_divisor_20 : decode cX9_divisor 20 = .ok (.istore 4, 2) := by decide +kernel
theorem dX9_divisor_22 : decode cX9_divisor 22 = .ok (.iload_n 3, 1) := by decide +kernel
theorem dX9_divisor_23 : decode cX9_divisor 23 = .ok (.istore_n 2, 1) := by decide +kernel
theorem dX9_divisor_24 : decode cX9_divisor 24 = .ok (.iload 4, 2) := by decide +kernel
theorem dX9_divisor_26 : decode cX9_divisor 26 = .ok (.istore_n 3, 1) := by decide +kernel
theorem dX9_divisor_27 : decode cX9_divisor 27 = .ok (.goto (-14), 3) := by decide +kernel
theorem dX9_divisor_30 : decode cX9_divisor 30 = .ok (.iload_n 2, 1) := by decide +kernel
theorem dX9_divisor_31 : decode cX9_divisor 31 = .ok (.ireturn, 1) := by decide +kernel
theorem dX9_fraction_0 : decode cX9_fraction 0 = .ok (.iload_n 0, 1) := by decide +kernel
theorem dX9_fraction_1 : decode cX9_fraction 1 = .ok (.iload_n 1, 1) := by decide +kernel
theorem dX9_fraction_2 : decode cX9_fraction 2 = .ok (.invokestatic 210, 3) := by decide +kernel
theorem dX9_fraction_5 : decode cX9_fraction 5 = .ok (.istore_n 3, 1) := by decide +kernel
theorem dX9_fraction_6 : decode cX9_fraction 6 = .ok (.iload_n 2, 1) := by decide +kernel
theorem dX9_fraction_7 : decode cX9_fraction 7 = .ok (.ifCond .eq 9, 3) := by decide +kernel
theorem dX9_fraction_10 : decode cX9_fraction 10 = .ok (.iload_n 0, 1) := by decide +kernel
theorem dX9_fraction_11 : decode cX9_fraction 11 = .ok (.iload_n 3, 1) := by decide +kernel
theorem dX9_fraction_12 : decode cX9_fraction 12 = .ok (.idiv, 1) := by decide +kernel
theorem dX9_fraction_13 : decode cX9_fraction 13 = .ok (.goto 6, 3) := by decide +kernel
theorem dX9_fraction_16 : decode cX9_fraction 16 = .ok (.iload_n 1, 1) := by decide +kernel
theorem dX9_fraction_17 : decode cX9_fraction 17 = .ok (.iload_n 3, 1) := by decide +kernel
theorem dX9_fraction_18 : decode cX9_fraction 18 = .ok (.idiv, 1) := by decide +kernel
theorem dX9_fraction_19 : decode cX9_fraction 19 = .ok (.ireturn, 1) := by decide +kernel
theorem dX9_share_0 : decode cX9_share 0 = .ok (.aload_n 0, 1) := by decide +kernel
theorem dX9_share_1 : decode cX9_share 1 = .ok (.iconst 0, 1) := by decide +kernel
theorem dX9_share_2 : decode cX9_share 2 = .ok (.putfield 68, 3) := by decide +kernel
theorem dX9_share_5 : decode cX9_share 5 = .ok (.iload_n 1, 1) := by decide +kernel
theorem dX9_share_6 : decode cX9_share 6 = .ok (.i2l, 1) := by decide +kernel
theorem dX9_share_7 : decode cX9_share 7 = .ok (.lconst 0, 1) := by decide +kernel
theorem dX9_share_8 : decode cX9_share 8 = .ok (.aload_n 0, 1) := by decide +kernel
theorem dX9_share_9 : decode cX9_share 9 = .ok (.getfield 117, 3) := by decide +kernel
theorem dX9_share_12 : decode cX9_share 12 = .ok (.iconst 1, 1) := by decide +kernel
theorem dX9_share_13 : decode cX9_share 13 = .ok (.isub, 1) := by decide +kernel
theorem dX9_share_14 : decode cX9_share 14 = .ok (.i2l, 1) := by decide +kernel
theorem dX9_share_15 : decode cX9_share 15 = .ok (.invokestatic 74, 3) := by decide +kernel
theorem dX9_share_18 : decode cX9_share 18 = .ok (.ifCond .ne 5, 3) := by decide +kernel
theorem dX9_share_21 : decode cX9_share 21 = .ok (.iconst (-1), 1) := by decide +kernel
theorem dX9_share_22 : decode cX9_share 22 = .ok (.ireturn, 1) := by decide +kernel
theorem dX9_share_23 : decode cX9_share 23 = .ok (.iload_n 2, 1) := by decide +kernel
theorem dX9_share_24 : decode cX9_share 24 = .ok (.i2l, 1) := by decide +kernel
theorem dX9_share_25 : decode cX9_share 25 = .ok (.lconst 0, 1) := by decide +kernel
theorem dX9_share_26 : decode cX9_share 26 = .ok (.lconst 1, 1) := by decide +kernel
theorem dX9_share_27 : decode cX9_share 27 = .ok (.invokestatic 74, 3) := by decide +kernel
theorem dX9_share_30 : decode cX9_share 30 = .ok (.ifCond .ne 6, 3) := by decide +kernel
theorem dX9_share_33 : decode cX9_share 33 = .ok (.bipush (-2), 2) := by decide +kernel
theorem dX9_share_35 : decode cX9_share 35 = .ok (.ireturn, 1) := by decide +kernel
theorem dX9_share_36 : decode cX9_share 36 = .ok (.aload_n 0, 1) := by decide +kernel
theorem dX9_share_37 : decode cX9_share 37 = .ok (.aload_n 0, 1) := by decide +kernel
theorem dX9_share_38 : decode cX9_share 38 = .ok (.getfield 34, 3) := by decide +kernel
theorem dX9_share_41 : decode cX9_share 41 = .ok (.invokevirtual 152, 3) := by decide +kernel
theorem dX9_share_44 : decode cX9_share 44 = .ok (.iconst 0, 1) := by decide +kernel
theorem dX9_share_45 : decode cX9_share 45 = .ok (.istore 4, 2) := by decide +kernel
theorem dX9_share_47 : decode cX9_share 47 = .ok (.iload 4, 2) := by decide +kernel
theorem dX9_share_49 : decode cX9_share 49 = .ok (.iconst 1, 1) := by decide +kernel
theorem dX9_share_50 : decode cX9_share 50 = .ok (.aload_n 0, 1) := by decide +kernel
theorem dX9_share_51 : decode cX9_share 51 = .ok (.getfield 117, 3) := by decide +kernel
theorem dX9_share_54 : decode cX9_share 54 = .ok (.ishl, 1) := by decide +kernel
theorem dX9_share_55 : decode cX9_share 55 = .ok (.if_icmp .ge 30, 3) := by decide +kernel
theorem dX9_share_58 : decode cX9_share 58 = .ok (.aload_n 0, 1) := by decide +kernel
theorem dX9_share_59 : decode cX9_share 59 = .ok (.getfield 65, 3) := by decide +kernel
theorem dX9_share_62 : decode cX9_share 62 = .ok (.iload 4, 2) := by decide +kernel
theorem dX9_share_64 : decode cX9_share 64 = .ok (.aload_n 0, 1) := by decide +kernel
theorem dX9_share_65 : decode cX9_share 65 = .ok (.aload_n 0, 1) := by decide +kernel
theorem dX9_share_66 : decode cX9_share 66 = .ok (.getfield 34, 3) := by decide +kernel
theorem dX9_share_69 : decode cX9_share 69 = .ok (.iload_n 2, 1) := by decide +kernel
theorem dX9_share_70 : decode cX9_share 70 = .ok (.iload 4, 2) := by decide +kernel
theorem dX9_share_72 : decode cX9_share 72 = .ok (.invokevirtual 179, 3) := by decide +kernel
theorem dX9_share_75 : decode cX9_share 75 = .ok (.invokestatic 198, 3) := by decide +kernel
theorem dX9_share_78 : decode cX9_share 78 = .ok (.iastore, 1) := by decide +kernel
theorem dX9_share_79 : decode cX9_share 79 = .ok (.iinc 4 1, 3) := by decide +kernel
theorem dX9_share_82 : decode cX9_share 82 = .ok (.goto (-35), 3) := by decide +kernel
theorem dX9_share_85 : decode cX9_share 85 = .ok (.iconst 0, 1) := by decide +kernel
theorem dX9_share_86 : decode cX9_share 86 = .ok (.istore 4, 2) := by decide +kernel
theorem dX9_share_88 : decode cX9_share 88 = .ok (.iconst 0, 1) := by decide +kernel
theorem dX9_share_89 : decode cX9_share 89 = .ok (.istore 5, 2) := by decide +kernel
theorem dX9_share_91 : decode cX9_share 91 = .ok (.iload 5, 2) := by decide +kernel
theorem dX9_share_93 : decode cX9_share 93 = .ok (.iconst 1, 1) := by decide +kernel
theorem dX9_share_94 : decode cX9_share 94 = .ok (.aload_n 0, 1) := by decide +kernel
theorem dX9_share_95 : decode cX9_share 95 = .ok (.getfield 117, 3) := by decide +kernel
theorem dX9_share_98 : decode cX9_share 98 = .ok (.ishl, 1) := by decide +kernel
theorem dX9_share_99 : decode cX9_share 99 = .ok (.if_icmp .ge 68, 3) := by decide +kernel
theorem dX9_share_102 : decode cX9_share 102 = .ok (.iload 5, 2) := by decide +kernel
theorem dX9_share_104 : decode cX9_share 104 = .ok (.iload_n 1, 1) := by decide +kernel
theorem dX9_share_105 : decode cX9_share 105 = .ok (.invokestatic 130, 3) := by decide +kernel
theorem dX9_share_108 : decode cX9_share 108 = .ok (.ifCond .ne 53, 3) := by decide +kernel
theorem dX9_share_111 : decode cX9_share 111 = .ok (.iload 5, 2) := by decide +kernel
theorem dX9_share_113 : decode cX9_share 113 = .ok (.invokestatic 198, 3) := by decide +kernel
theorem dX9_share_116 : decode cX9_share 116 = .ok (.istore 6, 2) := by decide +kernel
theorem dX9_share_118 : decode cX9_share 118 = .ok (.iload 4, 2) := by decide +kernel
theorem dX9_share_120 : decode cX9_share 120 = .ok (.iload 6, 2) := by decide +kernel
theorem dX9_share_122 : decode cX9_share 122 = .ok (.invokestatic 213, 3) := by decide +kernel
theorem dX9_share_125 : decode cX9_share 125 = .ok (.aload_n 0, 1) := by decide +kernel
theorem dX9_share_126 : decode cX9_share 126 = .ok (.getfield 117, 3) := by decide +kernel
theorem dX9_share_129 : decode cX9_share 129 = .ok (.iconst 1, 1) := by decide +kernel
theorem dX9_share_130 : decode cX9_share 130 = .ok (.isub, 1) := by decide +kernel
theorem dX9_share_131 : decode cX9_share 131 = .ok (.iload 6, 2) := by decide +kernel
theorem dX9_share_133 : decode cX9_share 133 = .ok (.isub, 1) := by decide +kernel
theorem dX9_share_134 : decode cX9_share 134 = .ok (.invokestatic 213, 3) := by decide +kernel
theorem dX9_share_137 : decode cX9_share 137 = .ok (.imul, 1) := by decide +kernel
theorem dX9_share_138 : decode cX9_share 138 = .ok (.aload_n 0, 1) := by decide +kernel
theorem dX9_share_139 : decode cX9_share 139 = .ok (.getfield 65, 3) := by decide +kernel
theorem dX9_share_142 : decode cX9_share 142 = .ok (.iload 5, 2) := by decide +kernel
theorem dX9_share_144 : decode cX9_share 144 = .ok (.iconst 1, 1) := by decide +kernel
theorem dX9_share_145 : decode cX9_share 145 = .ok (.iload_n 1, 1) := by decide +kernel
theorem dX9_share_146 : decode cX9_share 146 = .ok (.ishl, 1) := by decide +kernel
theorem dX9_share_147 : decode cX9_share 147 = .ok (.ior, 1) := by decide +kernel
theorem dX9_share_148 : decode cX9_share 148 = .ok (.iaload, 1) := by decide +kernel
theorem dX9_share_149 : decode cX9_share 149 = .ok (.aload_n 0, 1) := by decide +kernel
theorem dX9_share_150 : decode cX9_share 150 = .ok (.getfield 65, 3) := by decide +kernel
theorem dX9_share_153 : decode cX9_share 153 = .ok (.iload 5, 2) := by decide +kernel
theorem dX9_share_155 : decode cX9_share 155 = .ok (.iaload, 1) := by decide +kernel
theorem dX9_share_156 : decode cX9_share 156 = .ok (.isub, 1) := by decide +kernel
theorem dX9_share_157 : decode cX9_share 157 = .ok (.imul, 1) := by decide +kernel
theorem dX9_share_158 : decode cX9_share 158 = .ok (.iadd, 1) := by decide +kernel
theorem dX9_share_159 : decode cX9_share 159 = .ok (.istore 4, 2) := by decide +kernel
theorem dX9_share_161 : decode cX9_share 161 = .ok (.iinc 5 1, 3) := by decide +kernel
theorem dX9_share_164 : decode cX9_share 164 = .ok (.goto (-73), 3) := by decide +kernel
theorem dX9_share_167 : decode cX9_share 167 = .ok (.iload 4, 2) := by decide +kernel
theorem dX9_share_169 : decode cX9_share 169 = .ok (.aload_n 0, 1) := by decide +kernel
theorem dX9_share_170 : decode cX9_share 170 = .ok (.getfield 117, 3) := by decide +kernel
theorem dX9_share_173 : decode cX9_share 173 = .ok (.invokestatic 213, 3) := by decide +kernel
theorem dX9_share_176 : decode cX9_share 176 = .ok (.iload_n 3, 1) := by decide +kernel
theorem dX9_share_177 : decode cX9_share 177 = .ok (.invokestatic 216, 3) := by decide +kernel
theorem dX9_share_180 : decode cX9_share 180 = .ok (.ireturn, 1) := by decide +kernel
theorem dX9_see_0 : decode cX9_see 0 = .ok (.aload_n 0, 1) := by decide +kernel
theorem dX9_see_1 : decode cX9_see 1 = .ok (.iconst 0, 1) := by decide +kernel
theorem dX9_see_2 : decode cX9_see 2 = .ok (.putfield 68, 3) := by decide +kernel
theorem dX9_see_5 : decode cX9_see 5 = .ok (.iload_n 1, 1) := by decide +kernel
theorem dX9_see_6 : decode cX9_see 6 = .ok (.i2l, 1) := by decide +kernel
theorem dX9_see_7 : decode cX9_see 7 = .ok (.lconst 0, 1) := by decide +kernel
theorem dX9_see_8 : decode cX9_see 8 = .ok (.aload_n 0, 1) := by decide +kernel
theorem dX9_see_9 : decode cX9_see 9 = .ok (.getfield 117, 3) := by decide +kernel
theorem dX9_see_12 : decode cX9_see 12 = .ok (.iconst 1, 1) := by decide +kernel
theorem dX9_see_13 : decode cX9_see 13 = .ok (.isub, 1) := by decide +kernel
theorem dX9_see_14 : decode cX9_see 14 = .ok (.i2l, 1) := by decide +kernel
theorem dX9_see_15 : decode cX9_see 15 = .ok (.invokestatic 74, 3) := by decide +kernel
theorem dX9_see_18 : decode cX9_see 18 = .ok (.ifCond .ne 5, 3) := by decide +kernel
theorem dX9_see_21 : decode cX9_see 21 = .ok (.iconst (-1), 1) := by decide +kernel
theorem dX9_see_22 : decode cX9_see 22 = .ok (.ireturn, 1) := by decide +kernel
theorem dX9_see_23 : decode cX9_see 23 = .ok (.iload_n 2, 1) := by decide +kernel
theorem dX9_see_24 : decode cX9_see 24 = .ok (.i2l, 1) := by decide +kernel
theorem dX9_see_25 : decode cX9_see 25 = .ok (.lconst 0, 1) := by decide +kernel
theorem dX9_see_26 : decode cX9_see 26 = .ok (.ldc2_w 220, 3) := by decide +kernel
theorem dX9_see_29 : decode cX9_see 29 = .ok (.invokestatic 74, 3) := by decide +kernel
theorem dX9_see_32 : decode cX9_see 32 = .ok (.ifCond .ne 6, 3) := by decide +kernel
theorem dX9_see_35 : decode cX9_see 35 = .ok (.bipush (-2), 2) := by decide +kernel
theorem dX9_see_37 : decode cX9_see 37 = .ok (.ireturn, 1) := by decide +kernel
theorem dX9_see_38 : decode cX9_see 38 = .ok (.aload_n 0, 1) := by decide +kernel
theorem dX9_see_39 : decode cX9_see 39 = .ok (.getfield 169, 3) := by decide +kernel
theorem dX9_see_42 : decode cX9_see 42 = .ok (.bipush 6, 2) := by decide +kernel
theorem dX9_see_44 : decode cX9_see 44 = .ok (.if_icmp .ne 6, 3) := by decide +kernel
theorem dX9_see_47 : decode cX9_see 47 = .ok (.bipush (-4), 2) := by decide +kernel
theorem dX9_see_49 : decode cX9_see 49 = .ok (.ireturn, 1) := by decide +kernel
theorem dX9_see_50 : decode cX9_see 50 = .ok (.aload_n 0, 1) := by decide +kernel
theorem dX9_see_51 : decode cX9_see 51 = .ok (.getfield 50, 3) := by decide +kernel
theorem dX9_see_54 : decode cX9_see 54 = .ok (.aload_n 0, 1) := by decide +kernel
theorem dX9_see_55 : decode cX9_see 55 = .ok (.getfield 169, 3) := by decide +kernel
theorem dX9_see_58 : decode cX9_see 58 = .ok (.iload_n 1, 1) := by decide +kernel
theorem dX9_see_59 : decode cX9_see 59 = .ok (.iastore, 1) := by decide +kernel
theorem dX9_see_60 : decode cX9_see 60 = .ok (.aload_n 0, 1) := by decide +kernel
theorem dX9_see_61 : decode cX9_see 61 = .ok (.getfield 53, 3) := by decide +kernel
theorem dX9_see_64 : decode cX9_see 64 = .ok (.aload_n 0, 1) := by decide +kernel
theorem dX9_see_65 : decode cX9_see 65 = .ok (.getfield 169, 3) := by decide +kernel
theorem dX9_see_68 : decode cX9_see 68 = .ok (.iload_n 2, 1) := by decide +kernel
theorem dX9_see_69 : decode cX9_see 69 = .ok (.iastore, 1) := by decide +kernel
theorem dX9_see_70 : decode cX9_see 70 = .ok (.aload_n 0, 1) := by decide +kernel
theorem dX9_see_71 : decode cX9_see 71 = .ok (.dup, 1) := by decide +kernel
theorem dX9_see_72 : decode cX9_see 72 = .ok (.getfield 169, 3) := by decide +kernel
theorem dX9_see_75 : decode cX9_see 75 = .ok (.iconst 1, 1) := by decide +kernel
theorem dX9_see_76 : decode cX9_see 76 = .ok (.iadd, 1) := by decide +kernel
theorem dX9_see_77 : decode cX9_see 77 = .ok (.putfield 169, 3) := by decide +kernel
theorem dX9_see_80 : decode cX9_see 80 = .ok (.aload_n 0, 1) := by decide +kernel
theorem dX9_see_81 : decode cX9_see 81 = .ok (.getfield 169, 3) := by decide +kernel
theorem dX9_see_84 : decode cX9_see 84 = .ok (.ireturn, 1) := by decide +kernel
theorem dX9_unsee_0 : decode cX9_unsee 0 = .ok (.aload_n 0, 1) := by decide +kernel
theorem dX9_unsee_1 : decode cX9_unsee 1 = .ok (.iconst 0, 1) := by decide +kernel
theorem dX9_unsee_2 : decode cX9_unsee 2 = .ok (.putfield 68, 3) := by decide +kernel
theorem dX9_unsee_5 : decode cX9_unsee 5 = .ok (.aload_n 0, 1) := by decide +kernel
theorem dX9_unsee_6 : decode cX9_unsee 6 = .ok (.getfield 169, 3) := by decide +kernel
theorem dX9_unsee_9 : decode cX9_unsee 9 = .ok (.istore_n 1, 1) := by decide +kernel
theorem dX9_unsee_10 : decode cX9_unsee 10 = .ok (.aload_n 0, 1) := by decide +kernel
theorem dX9_unsee_11 : decode cX9_unsee 11 = .ok (.iconst 0, 1) := by decide +kernel
theorem dX9_unsee_12 : decode cX9_unsee 12 = .ok (.putfield 169, 3) := by decide +kernel
theorem dX9_unsee_15 : decode cX9_unsee 15 = .ok (.iload_n 1, 1) := by decide +kernel
theorem dX9_unsee_16 : decode cX9_unsee 16 = .ok (.ireturn, 1) := by decide +kernel
theorem dX9_isSeen_0 : decode cX9_isSeen 0 = .ok (.iconst 1, 1) := by decide +kernel
theorem dX9_isSeen_1 : decode cX9_isSeen 1 = .ok (.istore_n 1, 1) := by decide +kernel
theorem dX9_isSeen_2 : decode cX9_isSeen 2 = .ok (.iconst 0, 1) := by decide +kernel
theorem dX9_isSeen_3 : decode cX9_isSeen 3 = .ok (.istore_n 2, 1) := by decide +kernel
theorem dX9_isSeen_4 : decode cX9_isSeen 4 = .ok (.iload_n 2, 1) := by decide +kernel
theorem dX9_isSeen_5 : decode cX9_isSeen 5 = .ok (.aload_n 0, 1) := by decide +kernel
theorem dX9_isSeen_6 : decode cX9_isSeen 6 = .ok (.getfield 169, 3) := by decide +kernel
theorem dX9_isSeen_9 : decode cX9_isSeen 9 = .ok (.if_icmp .ge 97, 3) := by decide +kernel
theorem dX9_isSeen_12 : decode cX9_isSeen 12 = .ok (.aload_n 0, 1) := by decide +kernel
theorem dX9_isSeen_13 : decode cX9_isSeen 13 = .ok (.getfield 50, 3) := by decide +kernel
theorem dX9_isSeen_16 : decode cX9_isSeen 16 = .ok (.iload_n 2, 1) := by decide +kernel
theorem dX9_isSeen_17 : decode cX9_isSeen 17 = .ok (.iaload, 1) := by decide +kernel
theorem dX9_isSeen_18 : decode cX9_isSeen 18 = .ok (.istore_n 3, 1) := by decide +kernel
theorem dX9_isSeen_19 : decode cX9_isSeen 19 = .ok (.iload_n 3, 1) := by decide +kernel
theorem dX9_isSeen_20 : decode cX9_isSeen 20 = .ok (.aload_n 0, 1) := by decide +kernel
theorem dX9_isSeen_21 : decode cX9_isSeen 21 = .ok (.getfield 117, 3) := by decide +kernel
theorem dX9_isSeen_24 : decode cX9_isSeen 24 = .ok (.if_icmp .ge 76, 3) := by decide +kernel
theorem dX9_isSeen_27 : decode cX9_isSeen 27 = .ok (.aload_n 0, 1) := by decide +kernel
theorem dX9_isSeen_28 : decode cX9_isSeen 28 = .ok (.getfield 56, 3) := by decide +kernel
theorem dX9_isSeen_31 : decode cX9_isSeen 31 = .ok (.iload_n 3, 1) := by decide +kernel
theorem dX9_isSeen_32 : decode cX9_isSeen 32 = .ok (.iaload, 1) := by decide +kernel
theorem dX9_isSeen_33 : decode cX9_isSeen 33 = .ok (.ifCond .le 16, 3) := by decide +kernel
theorem dX9_isSeen_36 : decode cX9_isSeen 36 = .ok (.aload_n 0, 1) := by decide +kernel
theorem dX9_isSeen_37 : decode cX9_isSeen 37 = .ok (.getfield 59, 3) := by decide +kernel
theorem dX9_isSeen_40 : decode cX9_isSeen 40 = .ok (.iload_n 3, 1) := by decide +kernel
theorem dX9_isSeen_41 : decode cX9_isSeen 41 = .ok (.iaload, 1) := by decide +kernel
theorem dX9_isSeen_42 : decode cX9_isSeen 42 = .ok (.ifCond .le 7, 3) := by decide +kernel
theorem dX9_isSeen_45 : decode cX9_isSeen 45 = .ok (.iconst 2, 1) := by decide +kernel
theorem dX9_isSeen_46 : decode cX9_isSeen 46 = .ok (.goto 31, 3) := by decide +kernel
theorem dX9_isSeen_49 : decode cX9_isSeen 49 = .ok (.aload_n 0, 1) := by decide +kernel
theorem dX9_isSeen_50 : decode cX9_isSeen 50 = .ok (.getfield 56, 3) := by decide +kernel
theorem dX9_isSeen_53 : decode cX9_isSeen 53 = .ok (.iload_n 3, 1) := by decide +kernel
theorem dX9_isSeen_54 : decode cX9_isSeen 54 = .ok (.iaload, 1) := by decide +kernel
theorem dX9_isSeen_55 : decode cX9_isSeen 55 = .ok (.ifCond .le 7, 3) := by decide +kernel
theorem dX9_isSeen_58 : decode cX9_isSeen 58 = .ok (.iconst 0, 1) := by decide +kernel
theorem dX9_isSeen_59 : decode cX9_isSeen 59 = .ok (.goto 18, 3) := by decide +kernel
theorem dX9_isSeen_62 : decode cX9_isSeen 62 = .ok (.aload_n 0, 1) := by decide +kernel
theorem dX9_isSeen_63 : decode cX9_isSeen 63 = .ok (.getfield 59, 3) := by decide +kernel
theorem dX9_isSeen_66 : decode cX9_isSeen 66 = .ok (.iload_n 3, 1) := by decide +kernel
theorem dX9_isSeen_67 : decode cX9_isSeen 67 = .ok (.iaload, 1) := by decide +kernel
theorem dX9_isSeen_68 : decode cX9_isSeen 68 = .ok (.ifCond .le 7, 3) := by decide +kernel
theorem dX9_isSeen_71 : decode cX9_isSeen 71 = .ok (.iconst 1, 1) := by decide +kernel
theorem dX9_isSeen_72 : decode cX9_isSeen 72 = .ok (.goto 5, 3) := by decide +kernel
theorem dX9_isSeen_75 : decode cX9_isSeen 75 = .ok (.bipush (-9), 2) := by decide +kernel
theorem dX9_isSeen_77 : decode cX9_isSeen 77 = .ok (.istore 4, 2) := by decide +kernel
theorem dX9_isSeen_79 : decode cX9_isSeen 79 = .ok (.iload_n 1, 1) := by decide +kernel
theorem dX9_isSeen_80 : decode cX9_isSeen 80 = .ok (.ifCond .eq 18, 3) := by decide +kernel
theorem dX9_isSeen_83 : decode cX9_isSeen 83 = .ok (.iload 4, 2) := by decide +kernel
theorem dX9_isSeen_85 : decode cX9_isSeen 85 = .ok (.aload_n 0, 1) := by decide +kernel
theorem dX9_isSeen_86 : decode cX9_isSeen 86 = .ok (.getfield 53, 3) := by decide +kernel
theorem dX9_isSeen_89 : decode cX9_isSeen 89 = .ok (.iload_n 2, 1) := by decide +kernel
theorem dX9_isSeen_90 : decode cX9_isSeen 90 = .ok (.iaload, 1) := by decide +kernel
theorem dX9_isSeen_91 : decode cX9_isSeen 91 = .ok (.if_icmp .ne 7, 3) := by decide +kernel
theorem dX9_isSeen_94 : decode cX9_isSeen 94 = .ok (.iconst 1, 1) := by decide +kernel
theorem dX9_isSeen_95 : decode cX9_isSeen 95 = .ok (.goto 4, 3) := by decide +kernel
theorem dX9_isSeen_98 : decode cX9_isSeen 98 = .ok (.iconst 0, 1) := by decide +kernel
theorem dX9_isSeen_99 : decode cX9_isSeen 99 = .ok (.istore_n 1, 1) := by decide +kernel
theorem dX9_isSeen_100 : decode cX9_isSeen 100 = .ok (.iinc 2 1, 3) := by decide +kernel
theorem dX9_isSeen_103 : decode cX9_isSeen 103 = .ok (.goto (-99), 3) := by decide +kernel
theorem dX9_isSeen_106 : decode cX9_isSeen 106 = .ok (.iload_n 1, 1) := by decide +kernel
theorem dX9_isSeen_107 : decode cX9_isSeen 107 = .ok (.ireturn, 1) := by decide +kernel
theorem dX9_traces_0 : decode cX9_traces 0 = .ok (.aload_n 0, 1) := by decide +kernel
theorem dX9_traces_1 : decode cX9_traces 1 = .ok (.iconst 0, 1) := by decide +kernel
theorem dX9_traces_2 : decode cX9_traces 2 = .ok (.putfield 68, 3) := by decide +kernel
theorem dX9_traces_5 : decode cX9_traces 5 = .ok (.iload_n 1, 1) := by decide +kernel
theorem dX9_traces_6 : decode cX9_traces 6 = .ok (.i2l, 1) := by decide +kernel
theorem dX9_traces_7 : decode cX9_traces 7 = .ok (.lconst 0, 1) := by decide +kernel
theorem dX9_traces_8 : decode cX9_traces 8 = .ok (.lconst 1, 1) := by decide +kernel
theorem dX9_traces_9 : decode cX9_traces 9 = .ok (.invokestatic 74, 3) := by decide +kernel
theorem dX9_traces_12 : decode cX9_traces 12 = .ok (.ifCond .ne 6, 3) := by decide +kernel
theorem dX9_traces_15 : decode cX9_traces 15 = .ok (.bipush (-2), 2) := by decide +kernel
theorem dX9_traces_17 : decode cX9_traces 17 = .ok (.ireturn, 1) := by decide +kernel
theorem dX9_traces_18 : decode cX9_traces 18 = .ok (.aload_n 0, 1) := by decide +kernel
theorem dX9_traces_19 : decode cX9_traces 19 = .ok (.iconst 0, 1) := by decide +kernel
theorem dX9_traces_20 : decode cX9_traces 20 = .ok (.putfield 222, 3) := by decide +kernel
theorem dX9_traces_23 : decode cX9_traces 23 = .ok (.aload_n 0, 1) := by decide +kernel
theorem dX9_traces_24 : decode cX9_traces 24 = .ok (.bipush (-9), 2) := by decide +kernel
theorem dX9_traces_26 : decode cX9_traces 26 = .ok (.putfield 225, 3) := by decide +kernel
theorem dX9_traces_29 : decode cX9_traces 29 = .ok (.iconst 0, 1) := by decide +kernel
theorem dX9_traces_30 : decode cX9_traces 30 = .ok (.istore_n 2, 1) := by decide +kernel
theorem dX9_traces_31 : decode cX9_traces 31 = .ok (.iload_n 2, 1) := by decide +kernel
theorem dX9_traces_32 : decode cX9_traces 32 = .ok (.bipush 6, 2) := by decide +kernel
theorem dX9_traces_34 : decode cX9_traces 34 = .ok (.aload_n 0, 1) := by decide +kernel
theorem dX9_traces_35 : decode cX9_traces 35 = .ok (.getfield 114, 3) := by decide +kernel
theorem dX9_traces_38 : decode cX9_traces 38 = .ok (.invokestatic 142, 3) := by decide +kernel
theorem dX9_traces_41 : decode cX9_traces 41 = .ok (.if_icmp .ge 78, 3) := by decide +kernel
theorem dX9_traces_44 : decode cX9_traces 44 = .ok (.aload_n 0, 1) := by decide +kernel
theorem dX9_traces_45 : decode cX9_traces 45 = .ok (.iload_n 2, 1) := by decide +kernel
theorem dX9_traces_46 : decode cX9_traces 46 = .ok (.invokevirtual 148, 3) := by decide +kernel
theorem dX9_traces_49 : decode cX9_traces 49 = .ok (.ifCond .eq 64, 3) := by decide +kernel
theorem dX9_traces_52 : decode cX9_traces 52 = .ok (.aload_n 0, 1) := by decide +kernel
theorem dX9_traces_53 : decode cX9_traces 53 = .ok (.aload_n 0, 1) := by decide +kernel
theorem dX9_traces_54 : decode cX9_traces 54 = .ok (.getfield 37, 3) := by decide +kernel
theorem dX9_traces_57 : decode cX9_traces 57 = .ok (.invokevirtual 152, 3) := by decide +kernel
theorem dX9_traces_60 : decode cX9_traces 60 = .ok (.aload_n 0, 1) := by decide +kernel
theorem dX9_traces_61 : decode cX9_traces 61 = .ok (.invokevirtual 228, 3) := by decide +kernel
theorem dX9_traces_64 : decode cX9_traces 64 = .ok (.istore_n 3, 1) := by decide +kernel
theorem dX9_traces_65 : decode cX9_traces 65 = .ok (.aload_n 0, 1) := by decide +kernel
theorem dX9_traces_66 : decode cX9_traces 66 = .ok (.iload_n 3, 1) := by decide +kernel
theorem dX9_traces_67 : decode cX9_traces 67 = .ok (.ifCond .eq 21, 3) := by decide +kernel
theorem dX9_traces_70 : decode cX9_traces 70 = .ok (.aload_n 0, 1) := by decide +kernel
theorem dX9_traces_71 : decode cX9_traces 71 = .ok (.getfield 222, 3) := by decide +kernel
theorem dX9_traces_74 : decode cX9_traces 74 = .ok (.ifCond .ne 14, 3) := by decide +kernel
theorem dX9_traces_77 : decode cX9_traces 77 = .ok (.aload_n 0, 1) := by decide +kernel
theorem dX9_traces_78 : decode cX9_traces 78 = .ok (.aload_n 0, 1) := by decide +kernel
theorem dX9_traces_79 : decode cX9_traces 79 = .ok (.getfield 37, 3) := by decide +kernel
theorem dX9_traces_82 : decode cX9_traces 82 = .ok (.invokevirtual 156, 3) := by decide +kernel
theorem dX9_traces_85 : decode cX9_traces 85 = .ok (.goto 7, 3) := by decide +kernel
theorem dX9_traces_88 : decode cX9_traces 88 = .ok (.aload_n 0, 1) := by decide +kernel
theorem dX9_traces_89 : decode cX9_traces 89 = .ok (.getfield 225, 3) := by decide +kernel
theorem dX9_traces_92 : decode cX9_traces 92 = .ok (.putfield 225, 3) := by decide +kernel
theorem dX9_traces_95 : decode cX9_traces 95 = .ok (.aload_n 0, 1) := by decide +kernel
theorem dX9_traces_96 : decode cX9_traces 96 = .ok (.dup, 1) := by decide +kernel
theorem dX9_traces_97 : decode cX9_traces 97 = .ok (.getfield 222, 3) := by decide +kernel
theorem dX9_traces_100 : decode cX9_traces 100 = .ok (.iload_n 3, 1) := by decide +kernel
theorem dX9_traces_101 : decode cX9_traces 101 = .ok (.ifCond .eq 7, 3) := by decide +kernel
theorem dX9_traces_104 : decode cX9_traces 104 = .ok (.iconst 1, 1) := by decide +kernel
theorem dX9_traces_105 : decode cX9_traces 105 = .ok (.goto 4, 3) := by decide +kernel
theorem dX9_traces_108 : decode cX9_traces 108 = .ok (.iconst 0, 1) := by decide +kernel
theorem dX9_traces_109 : decode cX9_traces 109 = .ok (.iadd, 1) := by decide +kernel
theorem dX9_traces_110 : decode cX9_traces 110 = .ok (.putfield 222, 3) := by decide +kernel
theorem dX9_traces_113 : decode cX9_traces 113 = .ok (.iinc 2 1, 3) := by decide +kernel
theorem dX9_traces_116 : decode cX9_traces 116 = .ok (.goto (-85), 3) := by decide +kernel
theorem dX9_traces_119 : decode cX9_traces 119 = .ok (.iload_n 1, 1) := by decide +kernel
theorem dX9_traces_120 : decode cX9_traces 120 = .ok (.ifCond .ne 10, 3) := by decide +kernel
theorem dX9_traces_123 : decode cX9_traces 123 = .ok (.aload_n 0, 1) := by decide +kernel
theorem dX9_traces_124 : decode cX9_traces 124 = .ok (.getfield 222, 3) := by decide +kernel
theorem dX9_traces_127 : decode cX9_traces 127 = .ok (.goto 7, 3) := by decide +kernel
theorem dX9_traces_130 : decode cX9_traces 130 = .ok (.aload_n 0, 1) := by decide +kernel
theorem dX9_traces_131 : decode cX9_traces 131 = .ok (.getfield 225, 3) := by decide +kernel
theorem dX9_traces_134 : decode cX9_traces 134 = .ok (.ireturn, 1) := by decide +kernel
theorem dX9_pulled_0 : decode cX9_pulled 0 = .ok (.iconst 0, 1) := by decide +kernel
theorem dX9_pulled_1 : decode cX9_pulled 1 = .ok (.istore 4, 2) := by decide +kernel
theorem dX9_pulled_3 : decode cX9_pulled 3 = .ok (.iconst 0, 1) := by decide +kernel
theorem dX9_pulled_4 : decode cX9_pulled 4 = .ok (.istore 5, 2) := by decide +kernel
theorem dX9_pulled_6 : decode cX9_pulled 6 = .ok (.iload 5, 2) := by decide +kernel
theorem dX9_pulled_8 : decode cX9_pulled 8 = .ok (.aload_n 0, 1) := by decide +kernel
theorem dX9_pulled_9 : decode cX9_pulled 9 = .ok (.getfield 114, 3) := by decide +kernel
theorem dX9_pulled_12 : decode cX9_pulled 12 = .ok (.if_icmp .ge 90, 3) := by decide +kernel
theorem dX9_pulled_15 : decode cX9_pulled 15 = .ok (.iload_n 1, 1) := by decide +kernel
theorem dX9_pulled_16 : decode cX9_pulled 16 = .ok (.ifCond .ne 13, 3) := by decide +kernel
theorem dX9_pulled_19 : decode cX9_pulled 19 = .ok (.aload_n 0, 1) := by decide +kernel
theorem dX9_pulled_20 : decode cX9_pulled 20 = .ok (.getfield 34, 3) := by decide +kernel
theorem dX9_pulled_23 : decode cX9_pulled 23 = .ok (.iload 5, 2) := by decide +kernel
theorem dX9_pulled_25 : decode cX9_pulled 25 = .ok (.iaload, 1) := by decide +kernel
theorem dX9_pulled_26 : decode cX9_pulled 26 = .ok (.goto 12, 3) := by decide +kernel
theorem dX9_pulled_29 : decode cX9_pulled 29 = .ok (.iconst 5, 1) := by decide +kernel
theorem dX9_pulled_30 : decode cX9_pulled 30 = .ok (.aload_n 0, 1) := by decide +kernel
theorem dX9_pulled_31 : decode cX9_pulled 31 = .ok (.getfield 34, 3) := by decide +kernel
theorem dX9_pulled_34 : decode cX9_pulled 34 = .ok (.iload 5, 2) := by decide +kernel
theorem dX9_pulled_36 : decode cX9_pulled 36 = .ok (.iaload, 1) := by decide +kernel
theorem dX9_pulled_37 : decode cX9_pulled 37 = .ok (.isub, 1) := by decide +kernel
theorem dX9_pulled_38 : decode cX9_pulled 38 = .ok (.istore 6, 2) := by decide +kernel
theorem dX9_pulled_40 : decode cX9_pulled 40 = .ok (.iload_n 2, 1) := by decide +kernel
theorem dX9_pulled_41 : decode cX9_pulled 41 = .ok (.iconst 1, 1) := by decide +kernel
theorem dX9_pulled_42 : decode cX9_pulled 42 = .ok (.if_icmp .ne 23, 3) := by decide +kernel
theorem dX9_pulled_45 : decode cX9_pulled 45 = .ok (.iload_n 3, 1) := by decide +kernel
theorem dX9_pulled_46 : decode cX9_pulled 46 = .ok (.ifCond .ne 19, 3) := by decide +kernel
theorem dX9_pulled_49 : decode cX9_pulled 49 = .ok (.iload 6, 2) := by decide +kernel
theorem dX9_pulled_51 : decode cX9_pulled 51 = .ok (.iload 6, 2) := by decide +kernel
theorem dX9_pulled_53 : decode cX9_pulled 53 = .ok (.iconst 5, 1) := by decide +kernel
theorem dX9_pulled_54 : decode cX9_pulled 54 = .ok (.if_icmp .ge 7, 3) := by decide +kernel
theorem dX9_pulled_57 : decode cX9_pulled 57 = .ok (.iconst 1, 1) := by decide +kernel
theorem dX9_pulled_58 : decode cX9_pulled 58 = .ok (.goto 4, 3) := by decide +kernel
theorem dX9_pulled_61 : decode cX9_pulled 61 = .ok (.iconst 0, 1) := by decide +kernel
theorem dX9_pulled_62 : decode cX9_pulled 62 = .ok (.iadd, 1) := by decide +kernel
theorem dX9_pulled_63 : decode cX9_pulled 63 = .ok (.istore 6, 2) := by decide +kernel
theorem dX9_pulled_65 : decode cX9_pulled 65 = .ok (.iload_n 2, 1) := by decide +kernel
theorem dX9_pulled_66 : decode cX9_pulled 66 = .ok (.ifCond .ne 23, 3) := by decide +kernel
theorem dX9_pulled_69 : decode cX9_pulled 69 = .ok (.iload_n 3, 1) := by decide +kernel
theorem dX9_pulled_70 : decode cX9_pulled 70 = .ok (.iconst 1, 1) := by decide +kernel
theorem dX9_pulled_71 : decode cX9_pulled 71 = .ok (.if_icmp .ne 18, 3) := by decide +kernel
theorem dX9_pulled_74 : decode cX9_pulled 74 = .ok (.iload 6, 2) := by decide +kernel
theorem dX9_pulled_76 : decode cX9_pulled 76 = .ok (.iload 6, 2) := by decide +kernel
theorem dX9_pulled_78 : decode cX9_pulled 78 = .ok (.ifCond .le 7, 3) := by decide +kernel
theorem dX9_pulled_81 : decode cX9_pulled 81 = .ok (.iconst 1, 1) := by decide +kernel
theorem dX9_pulled_82 : decode cX9_pulled 82 = .ok (.goto 4, 3) := by decide +kernel
theorem dX9_pulled_85 : decode cX9_pulled 85 = .ok (.iconst 0, 1) := by decide +kernel
theorem dX9_pulled_86 : decode cX9_pulled 86 = .ok (.isub, 1) := by decide +kernel
theorem dX9_pulled_87 : decode cX9_pulled 87 = .ok (.istore 6, 2) := by decide +kernel
theorem dX9_pulled_89 : decode cX9_pulled 89 = .ok (.iload 4, 2) := by decide +kernel
theorem dX9_pulled_91 : decode cX9_pulled 91 = .ok (.iload 6, 2) := by decide +kernel
theorem dX9_pulled_93 : decode cX9_pulled 93 = .ok (.iadd, 1) := by decide +kernel
theorem dX9_pulled_94 : decode cX9_pulled 94 = .ok (.istore 4, 2) := by decide +kernel
theorem dX9_pulled_96 : decode cX9_pulled 96 = .ok (.iinc 5 1, 3) := by decide +kernel
theorem dX9_pulled_99 : decode cX9_pulled 99 = .ok (.goto (-93), 3) := by decide +kernel
theorem dX9_pulled_102 : decode cX9_pulled 102 = .ok (.iload 4, 2) := by decide +kernel
theorem dX9_pulled_104 : decode cX9_pulled 104 = .ok (.iconst 2, 1) := by decide +kernel
theorem dX9_pulled_105 : decode cX9_pulled 105 = .ok (.iload_n 2, 1) := by decide +kernel
theorem dX9_pulled_106 : decode cX9_pulled 106 = .ok (.imul, 1) := by decide +kernel
theorem dX9_pulled_107 : decode cX9_pulled 107 = .ok (.isub, 1) := by decide +kernel
theorem dX9_pulled_108 : decode cX9_pulled 108 = .ok (.ireturn, 1) := by decide +kernel
theorem dX9_rests_0 : decode cX9_rests 0 = .ok (.aload_n 0, 1) := by decide +kernel
theorem dX9_rests_1 : decode cX9_rests 1 = .ok (.iconst 0, 1) := by decide +kernel
theorem dX9_rests_2 : decode cX9_rests 2 = .ok (.putfield 68, 3) := by decide +kernel
theorem dX9_rests_5 : decode cX9_rests 5 = .ok (.iload_n 1, 1) := by decide +kernel
theorem dX9_rests_6 : decode cX9_rests 6 = .ok (.i2l, 1) := by decide +kernel
theorem dX9_rests_7 : decode cX9_rests 7 = .ok (.lconst 0, 1) := by decide +kernel
theorem dX9_rests_8 : decode cX9_rests 8 = .ok (.lconst 1, 1) := by decide +kernel
theorem dX9_rests_9 : decode cX9_rests 9 = .ok (.invokestatic 74, 3) := by decide +kernel
theorem dX9_rests_12 : decode cX9_rests 12 = .ok (.ifCond .ne 6, 3) := by decide +kernel
theorem dX9_rests_15 : decode cX9_rests 15 = .ok (.bipush (-2), 2) := by decide +kernel
theorem dX9_rests_17 : decode cX9_rests 17 = .ok (.ireturn, 1) := by decide +kernel
theorem dX9_rests_18 : decode cX9_rests 18 = .ok (.aload_n 0, 1) := by decide +kernel
theorem dX9_rests_19 : decode cX9_rests 19 = .ok (.iconst 0, 1) := by decide +kernel
theorem dX9_rests_20 : decode cX9_rests 20 = .ok (.putfield 231, 3) := by decide +kernel
theorem dX9_rests_23 : decode cX9_rests 23 = .ok (.aload_n 0, 1) := by decide +kernel
theorem dX9_rests_24 : decode cX9_rests 24 = .ok (.bipush (-9), 2) := by decide +kernel
theorem dX9_rests_26 : decode cX9_rests 26 = .ok (.putfield 234, 3) := by decide +kernel
theorem dX9_rests_29 : decode cX9_rests 29 = .ok (.iconst 0, 1) := by decide +kernel
theorem dX9_rests_30 : decode cX9_rests 30 = .ok (.istore_n 2, 1) := by decide +kernel
theorem dX9_rests_31 : decode cX9_rests 31 = .ok (.iload_n 2, 1) := by decide +kernel
theorem dX9_rests_32 : decode cX9_rests 32 = .ok (.iconst 2, 1) := by decide +kernel
theorem dX9_rests_33 : decode cX9_rests 33 = .ok (.if_icmp .ge 115, 3) := by decide +kernel
theorem dX9_rests_36 : decode cX9_rests 36 = .ok (.iconst 0, 1) := by decide +kernel
theorem dX9_rests_37 : decode cX9_rests 37 = .ok (.istore_n 3, 1) := by decide +kernel
theorem dX9_rests_38 : decode cX9_rests 38 = .ok (.iload_n 3, 1) := by decide +kernel
theorem dX9_rests_39 : decode cX9_rests 39 = .ok (.iconst 2, 1) := by decide +kernel
theorem dX9_rests_40 : decode cX9_rests 40 = .ok (.if_icmp .ge 102, 3) := by decide +kernel
theorem dX9_rests_43 : decode cX9_rests 43 = .ok (.aload_n 0, 1) := by decide +kernel
theorem dX9_rests_44 : decode cX9_rests 44 = .ok (.iconst 0, 1) := by decide +kernel
theorem dX9_rests_45 : decode cX9_rests 45 = .ok (.iconst 1, 1) := by decide +kernel
theorem dX9_rests_46 : decode cX9_rests 46 = .ok (.iload_n 2, 1) := by decide +kernel
theorem dX9_rests_47 : decode cX9_rests 47 = .ok (.isub, 1) := by decide +kernel
theorem dX9_rests_48 : decode cX9_rests 48 = .ok (.iload_n 3, 1) := by decide +kernel
theorem dX9_rests_49 : decode cX9_rests 49 = .ok (.invokevirtual 237, 3) := by decide +kernel
theorem dX9_rests_52 : decode cX9_rests 52 = .ok (.aload_n 0, 1) := by decide +kernel
theorem dX9_rests_53 : decode cX9_rests 53 = .ok (.iconst 0, 1) := by decide +kernel
theorem dX9_rests_54 : decode cX9_rests 54 = .ok (.iload_n 2, 1) := by decide +kernel
theorem dX9_rests_55 : decode cX9_rests 55 = .ok (.iload_n 3, 1) := by decide +kernel
theorem dX9_rests_56 : decode cX9_rests 56 = .ok (.invokevirtual 237, 3) := by decide +kernel
theorem dX9_rests_59 : decode cX9_rests 59 = .ok (.if_icmp .gt 26, 3) := by decide +kernel
theorem dX9_rests_62 : decode cX9_rests 62 = .ok (.aload_n 0, 1) := by decide +kernel
theorem dX9_rests_63 : decode cX9_rests 63 = .ok (.iconst 1, 1) := by decide +kernel
theorem dX9_rests_64 : decode cX9_rests 64 = .ok (.iconst 1, 1) := by decide +kernel
theorem dX9_rests_65 : decode cX9_rests 65 = .ok (.iload_n 3, 1) := by decide +kernel
theorem dX9_rests_66 : decode cX9_rests 66 = .ok (.isub, 1) := by decide +kernel
theorem dX9_rests_67 : decode cX9_rests 67 = .ok (.iload_n 2, 1) := by decide +kernel
theorem dX9_rests_68 : decode cX9_rests 68 = .ok (.invokevirtual 237, 3) := by decide +kernel
theorem dX9_rests_71 : decode cX9_rests 71 = .ok (.aload_n 0, 1) := by decide +kernel
theorem dX9_rests_72 : decode cX9_rests 72 = .ok (.iconst 1, 1) := by decide +kernel
theorem dX9_rests_73 : decode cX9_rests 73 = .ok (.iload_n 3, 1) := by decide +kernel
theorem dX9_rests_74 : decode cX9_rests 74 = .ok (.iload_n 2, 1) := by decide +kernel
theorem dX9_rests_75 : decode cX9_rests 75 = .ok (.invokevirtual 237, 3) := by decide +kernel
theorem dX9_rests_78 : decode cX9_rests 78 = .ok (.if_icmp .gt 7, 3) := by decide +kernel
theorem dX9_rests_81 : decode cX9_rests 81 = .ok (.iconst 1, 1) := by decide +kernel
theorem dX9_rests_82 : decode cX9_rests 82 = .ok (.goto 4, 3) := by decide +kernel
theorem dX9_rests_85 : decode cX9_rests 85 = .ok (.iconst 0, 1) := by decide +kernel
theorem dX9_rests_86 : decode cX9_rests 86 = .ok (.istore 4, 2) := by decide +kernel
theorem dX9_rests_88 : decode cX9_rests 88 = .ok (.aload_n 0, 1) := by decide +kernel
theorem dX9_rests_89 : decode cX9_rests 89 = .ok (.iload 4, 2) := by decide +kernel
theorem dX9_rests_91 : decode cX9_rests 91 = .ok (.ifCond .eq 19, 3) := by decide +kernel
theorem dX9_rests_94 : decode cX9_rests 94 = .ok (.aload_n 0, 1) := by decide +kernel
theorem dX9_rests_95 : decode cX9_rests 95 = .ok (.getfield 231, 3) := by decide +kernel
theorem dX9_rests_98 : decode cX9_rests 98 = .ok (.ifCond .ne 12, 3) := by decide +kernel
theorem dX9_rests_101 : decode cX9_rests 101 = .ok (.bipush 10, 2) := by decide +kernel
theorem dX9_rests_103 : decode cX9_rests 103 = .ok (.iload_n 2, 1) := by decide +kernel
theorem dX9_rests_104 : decode cX9_rests 104 = .ok (.imul, 1) := by decide +kernel
theorem dX9_rests_105 : decode cX9_rests 105 = .ok (.iload_n 3, 1) := by decide +kernel
theorem dX9_rests_106 : decode cX9_rests 106 = .ok (.iadd, 1) := by decide +kernel
theorem dX9_rests_107 : decode cX9_rests 107 = .ok (.goto 7, 3) := by decide +kernel
theorem dX9_rests_110 : decode cX9_rests 110 = .ok (.aload_n 0, 1) := by decide +kernel
theorem dX9_rests_111 : decode cX9_rests 111 = .ok (.getfield 234, 3) := by decide +kernel
theorem dX9_rests_114 : decode cX9_rests 114 = .ok (.putfield 234, 3) := by decide +kernel
theorem dX9_rests_117 : decode cX9_rests 117 = .ok (.aload_n 0, 1) := by decide +kernel
theorem dX9_rests_118 : decode cX9_rests 118 = .ok (.dup, 1) := by decide +kernel
theorem dX9_rests_119 : decode cX9_rests 119 = .ok (.getfield 231, 3) := by decide +kernel
theorem dX9_rests_122 : decode cX9_rests 122 = .ok (.iload 4, 2) := by decide +kernel
theorem dX9_rests_124 : decode cX9_rests 124 = .ok (.ifCond .eq 7, 3) := by decide +kernel
theorem dX9_rests_127 : decode cX9_rests 127 = .ok (.iconst 1, 1) := by decide +kernel
theorem dX9_rests_128 : decode cX9_rests 128 = .ok (.goto 4, 3) := by decide +kernel
theorem dX9_rests_131 : decode cX9_rests 131 = .ok (.iconst 0, 1) := by decide +kernel
theorem dX9_rests_132 : decode cX9_rests 132 = .ok (.iadd, 1) := by decide +kernel
theorem dX9_rests_133 : decode cX9_rests 133 = .ok (.putfield 231, 3) := by decide +kernel
theorem dX9_rests_136 : decode cX9_rests 136 = .ok (.iinc 3 1, 3) := by decide +kernel
theorem dX9_rests_139 : decode cX9_rests 139 = .ok (.goto (-101), 3) := by decide +kernel
theorem dX9_rests_142 : decode cX9_rests 142 = .ok (.iinc 2 1, 3) := by decide +kernel
theorem dX9_rests_145 : decode cX9_rests 145 = .ok (.goto (-114), 3) := by decide +kernel
theorem dX9_rests_148 : decode cX9_rests 148 = .ok (.iload_n 1, 1) := by decide +kernel
theorem dX9_rests_149 : decode cX9_rests 149 = .ok (.ifCond .ne 10, 3) := by decide +kernel
theorem dX9_rests_152 : decode cX9_rests 152 = .ok (.aload_n 0, 1) := by decide +kernel
theorem dX9_rests_153 : decode cX9_rests 153 = .ok (.getfield 231, 3) := by decide +kernel
theorem dX9_rests_156 : decode cX9_rests 156 = .ok (.goto 7, 3) := by decide +kernel
theorem dX9_rests_159 : decode cX9_rests 159 = .ok (.aload_n 0, 1) := by decide +kernel
theorem dX9_rests_160 : decode cX9_rests 160 = .ok (.getfield 234, 3) := by decide +kernel
theorem dX9_rests_163 : decode cX9_rests 163 = .ok (.ireturn, 1) := by decide +kernel
theorem dX9_slips_0 : decode cX9_slips 0 = .ok (.aload_n 0, 1) := by decide +kernel
theorem dX9_slips_1 : decode cX9_slips 1 = .ok (.iconst 0, 1) := by decide +kernel
theorem dX9_slips_2 : decode cX9_slips 2 = .ok (.putfield 68, 3) := by decide +kernel
theorem dX9_slips_5 : decode cX9_slips 5 = .ok (.iload_n 1, 1) := by decide +kernel
theorem dX9_slips_6 : decode cX9_slips 6 = .ok (.i2l, 1) := by decide +kernel
theorem dX9_slips_7 : decode cX9_slips 7 = .ok (.lconst 0, 1) := by decide +kernel
theorem dX9_slips_8 : decode cX9_slips 8 = .ok (.aload_n 0, 1) := by decide +kernel
theorem dX9_slips_9 : decode cX9_slips 9 = .ok (.getfield 120, 3) := by decide +kernel
theorem dX9_slips_12 : decode cX9_slips 12 = .ok (.iconst 1, 1) := by decide +kernel
theorem dX9_slips_13 : decode cX9_slips 13 = .ok (.isub, 1) := by decide +kernel
theorem dX9_slips_14 : decode cX9_slips 14 = .ok (.i2l, 1) := by decide +kernel
theorem dX9_slips_15 : decode cX9_slips 15 = .ok (.invokestatic 74, 3) := by decide +kernel
theorem dX9_slips_18 : decode cX9_slips 18 = .ok (.ifCond .ne 5, 3) := by decide +kernel
theorem dX9_slips_21 : decode cX9_slips 21 = .ok (.iconst (-1), 1) := by decide +kernel
theorem dX9_slips_22 : decode cX9_slips 22 = .ok (.ireturn, 1) := by decide +kernel
theorem dX9_slips_23 : decode cX9_slips 23 = .ok (.iload_n 2, 1) := by decide +kernel
theorem dX9_slips_24 : decode cX9_slips 24 = .ok (.i2l, 1) := by decide +kernel
theorem dX9_slips_25 : decode cX9_slips 25 = .ok (.lconst 0, 1) := by decide +kernel
theorem dX9_slips_26 : decode cX9_slips 26 = .ok (.lconst 1, 1) := by decide +kernel
theorem dX9_slips_27 : decode cX9_slips 27 = .ok (.invokestatic 74, 3) := by decide +kernel
theorem dX9_slips_30 : decode cX9_slips 30 = .ok (.ifCond .eq 15, 3) := by decide +kernel
theorem dX9_slips_33 : decode cX9_slips 33 = .ok (.iload_n 3, 1) := by decide +kernel
theorem dX9_slips_34 : decode cX9_slips 34 = .ok (.i2l, 1) := by decide +kernel
theorem dX9_slips_35 : decode cX9_slips 35 = .ok (.lconst 0, 1) := by decide +kernel
theorem dX9_slips_36 : decode cX9_slips 36 = .ok (.ldc2_w 240, 3) := by decide +kernel
theorem dX9_slips_39 : decode cX9_slips 39 = .ok (.invokestatic 74, 3) := by decide +kernel
theorem dX9_slips_42 : decode cX9_slips 42 = .ok (.ifCond .ne 6, 3) := by decide +kernel
theorem dX9_slips_45 : decode cX9_slips 45 = .ok (.bipush (-2), 2) := by decide +kernel
theorem dX9_slips_47 : decode cX9_slips 47 = .ok (.ireturn, 1) := by decide +kernel
theorem dX9_slips_48 : decode cX9_slips 48 = .ok (.iconst 0, 1) := by decide +kernel
theorem dX9_slips_49 : decode cX9_slips 49 = .ok (.istore 5, 2) := by decide +kernel
theorem dX9_slips_51 : decode cX9_slips 51 = .ok (.iconst 0, 1) := by decide +kernel
theorem dX9_slips_52 : decode cX9_slips 52 = .ok (.istore 6, 2) := by decide +kernel
theorem dX9_slips_54 : decode cX9_slips 54 = .ok (.iload 6, 2) := by decide +kernel
theorem dX9_slips_56 : decode cX9_slips 56 = .ok (.iconst 1, 1) := by decide +kernel
theorem dX9_slips_57 : decode cX9_slips 57 = .ok (.aload_n 0, 1) := by decide +kernel
theorem dX9_slips_58 : decode cX9_slips 58 = .ok (.getfield 114, 3) := by decide +kernel
theorem dX9_slips_61 : decode cX9_slips 61 = .ok (.ishl, 1) := by decide +kernel
theorem dX9_slips_62 : decode cX9_slips 62 = .ok (.if_icmp .ge 139, 3) := by decide +kernel
theorem dX9_slips_65 : decode cX9_slips 65 = .ok (.aload_n 0, 1) := by decide +kernel
theorem dX9_slips_66 : decode cX9_slips 66 = .ok (.getfield 34, 3) := by decide +kernel
theorem dX9_slips_69 : decode cX9_slips 69 = .ok (.aload_n 0, 1) := by decide +kernel
theorem dX9_slips_70 : decode cX9_slips 70 = .ok (.getfield 37, 3) := by decide +kernel
theorem dX9_slips_73 : decode cX9_slips 73 = .ok (.bipush 31, 2) := by decide +kernel
theorem dX9_slips_75 : decode cX9_slips 75 = .ok (.invokestatic 123, 3) := by decide +kernel
theorem dX9_slips_78 : decode cX9_slips 78 = .ok (.iconst 0, 1) := by decide +kernel
theorem dX9_slips_79 : decode cX9_slips 79 = .ok (.istore 7, 2) := by decide +kernel
theorem dX9_slips_81 : decode cX9_slips 81 = .ok (.iload 7, 2) := by decide +kernel
theorem dX9_slips_83 : decode cX9_slips 83 = .ok (.aload_n 0, 1) := by decide +kernel
theorem dX9_slips_84 : decode cX9_slips 84 = .ok (.getfield 114, 3) := by decide +kernel
theorem dX9_slips_87 : decode cX9_slips 87 = .ok (.if_icmp .ge 45, 3) := by decide +kernel
theorem dX9_slips_90 : decode cX9_slips 90 = .ok (.aload_n 0, 1) := by decide +kernel
theorem dX9_slips_91 : decode cX9_slips 91 = .ok (.getfield 37, 3) := by decide +kernel
theorem dX9_slips_94 : decode cX9_slips 94 = .ok (.iload 7, 2) := by decide +kernel
theorem dX9_slips_96 : decode cX9_slips 96 = .ok (.dup2, 1) := by decide +kernel
theorem dX9_slips_97 : decode cX9_slips 97 = .ok (.iaload, 1) := by decide +kernel
theorem dX9_slips_98 : decode cX9_slips 98 = .ok (.iload 6, 2) := by decide +kernel
theorem dX9_slips_100 : decode cX9_slips 100 = .ok (.iload 7, 2) := by decide +kernel
theorem dX9_slips_102 : decode cX9_slips 102 = .ok (.invokestatic 130, 3) := by decide +kernel
theorem dX9_slips_105 : decode cX9_slips 105 = .ok (.ifCond .eq 18, 3) := by decide +kernel
theorem dX9_slips_108 : decode cX9_slips 108 = .ok (.aload_n 0, 1) := by decide +kernel
theorem dX9_slips_109 : decode cX9_slips 109 = .ok (.getfield 37, 3) := by decide +kernel
theorem dX9_slips_112 : decode cX9_slips 112 = .ok (.iload 7, 2) := by decide +kernel
theorem dX9_slips_114 : decode cX9_slips 114 = .ok (.iaload, 1) := by decide +kernel
theorem dX9_slips_115 : decode cX9_slips 115 = .ok (.iconst 5, 1) := by decide +kernel
theorem dX9_slips_116 : decode cX9_slips 116 = .ok (.if_icmp .ge 7, 3) := by decide +kernel
theorem dX9_slips_119 : decode cX9_slips 119 = .ok (.iconst 1, 1) := by decide +kernel
theorem dX9_slips_120 : decode cX9_slips 120 = .ok (.goto 4, 3) := by decide +kernel
theorem dX9_slips_123 : decode cX9_slips 123 = .ok (.iconst 0, 1) := by decide +kernel
theorem dX9_slips_124 : decode cX9_slips 124 = .ok (.iadd, 1) := by decide +kernel
theorem dX9_slips_125 : decode cX9_slips 125 = .ok (.iastore, 1) := by decide +kernel
theorem dX9_slips_126 : decode cX9_slips 126 = .ok (.iinc 7 1, 3) := by decide +kernel
theorem dX9_slips_129 : decode cX9_slips 129 = .ok (.goto (-48), 3) := by decide +kernel
theorem dX9_slips_132 : decode cX9_slips 132 = .ok (.aload_n 0, 1) := by decide +kernel
theorem dX9_slips_133 : decode cX9_slips 133 = .ok (.aload_n 0, 1) := by decide +kernel
theorem dX9_slips_134 : decode cX9_slips 134 = .ok (.getfield 37, 3) := by decide +kernel
theorem dX9_slips_137 : decode cX9_slips 137 = .ok (.invokevirtual 152, 3) := by decide +kernel
theorem dX9_slips_140 : decode cX9_slips 140 = .ok (.iload 6, 2) := by decide +kernel
theorem dX9_slips_142 : decode cX9_slips 142 = .ok (.invokestatic 198, 3) := by decide +kernel
theorem dX9_slips_145 : decode cX9_slips 145 = .ok (.istore 7, 2) := by decide +kernel
theorem dX9_slips_147 : decode cX9_slips 147 = .ok (.iload 5, 2) := by decide +kernel
theorem dX9_slips_149 : decode cX9_slips 149 = .ok (.aload_n 0, 1) := by decide +kernel
theorem dX9_slips_150 : decode cX9_slips 150 = .ok (.aload_n 0, 1) := by decide +kernel
theorem dX9_slips_151 : decode cX9_slips 151 = .ok (.getfield 37, 3) := by decide +kernel
theorem dX9_slips_154 : decode cX9_slips 154 = .ok (.iload_n 2, 1) := by decide +kernel
theorem dX9_slips_155 : decode cX9_slips 155 = .ok (.bipush 31, 2) := by decide +kernel
theorem dX9_slips_157 : decode cX9_slips 157 = .ok (.invokevirtual 179, 3) := by decide +kernel
theorem dX9_slips_160 : decode cX9_slips 160 = .ok (.iload_n 1, 1) := by decide +kernel
theorem dX9_slips_161 : decode cX9_slips 161 = .ok (.invokestatic 130, 3) := by decide +kernel
theorem dX9_slips_164 : decode cX9_slips 164 = .ok (.ifCond .eq 27, 3) := by decide +kernel
theorem dX9_slips_167 : decode cX9_slips 167 = .ok (.iload_n 3, 1) := by decide +kernel
theorem dX9_slips_168 : decode cX9_slips 168 = .ok (.iload 7, 2) := by decide +kernel
theorem dX9_slips_170 : decode cX9_slips 170 = .ok (.invokestatic 142, 3) := by decide +kernel
theorem dX9_slips_173 : decode cX9_slips 173 = .ok (.bipush 10, 2) := by decide +kernel
theorem dX9_slips_175 : decode cX9_slips 175 = .ok (.iload_n 3, 1) := by decide +kernel
theorem dX9_slips_176 : decode cX9_slips 176 = .ok (.isub, 1) := by decide +kernel
theorem dX9_slips_177 : decode cX9_slips 177 = .ok (.aload_n 0, 1) := by decide +kernel
theorem dX9_slips_178 : decode cX9_slips 178 = .ok (.getfield 114, 3) := by decide +kernel
theorem dX9_slips_181 : decode cX9_slips 181 = .ok (.iload 7, 2) := by decide +kernel
theorem dX9_slips_183 : decode cX9_slips 183 = .ok (.isub, 1) := by decide +kernel
theorem dX9_slips_184 : decode cX9_slips 184 = .ok (.invokestatic 142, 3) := by decide +kernel
theorem dX9_slips_187 : decode cX9_slips 187 = .ok (.imul, 1) := by decide +kernel
theorem dX9_slips_188 : decode cX9_slips 188 = .ok (.goto 4, 3) := by decide +kernel
theorem dX9_slips_191 : decode cX9_slips 191 = .ok (.iconst 0, 1) := by decide +kernel
theorem dX9_slips_192 : decode cX9_slips 192 = .ok (.iadd, 1) := by decide +kernel
theorem dX9_slips_193 : decode cX9_slips 193 = .ok (.istore 5, 2) := by decide +kernel
theorem dX9_slips_195 : decode cX9_slips 195 = .ok (.iinc 6 1, 3) := by decide +kernel
theorem dX9_slips_198 : decode cX9_slips 198 = .ok (.goto (-144), 3) := by decide +kernel
theorem dX9_slips_201 : decode cX9_slips 201 = .ok (.iload 5, 2) := by decide +kernel
theorem dX9_slips_203 : decode cX9_slips 203 = .ok (.bipush 10, 2) := by decide +kernel
theorem dX9_slips_205 : decode cX9_slips 205 = .ok (.aload_n 0, 1) := by decide +kernel
theorem dX9_slips_206 : decode cX9_slips 206 = .ok (.getfield 114, 3) := by decide +kernel
theorem dX9_slips_209 : decode cX9_slips 209 = .ok (.invokestatic 142, 3) := by decide +kernel
theorem dX9_slips_212 : decode cX9_slips 212 = .ok (.iload 4, 2) := by decide +kernel
theorem dX9_slips_214 : decode cX9_slips 214 = .ok (.invokestatic 216, 3) := by decide +kernel
theorem dX9_slips_217 : decode cX9_slips 217 = .ok (.ireturn, 1) := by decide +kernel
theorem dX9_seed_0 : decode cX9_seed 0 = .ok (.aload_n 0, 1) := by decide +kernel
theorem dX9_seed_1 : decode cX9_seed 1 = .ok (.iconst 0, 1) := by decide +kernel
theorem dX9_seed_2 : decode cX9_seed 2 = .ok (.putfield 68, 3) := by decide +kernel
theorem dX9_seed_5 : decode cX9_seed 5 = .ok (.aload_n 0, 1) := by decide +kernel
theorem dX9_seed_6 : decode cX9_seed 6 = .ok (.getfield 242, 3) := by decide +kernel
theorem dX9_seed_9 : decode cX9_seed 9 = .ok (.lstore_n 3, 1) := by decide +kernel
theorem dX9_seed_10 : decode cX9_seed 10 = .ok (.aload_n 0, 1) := by decide +kernel
theorem dX9_seed_11 : decode cX9_seed 11 = .ok (.lload_n 1, 1) := by decide +kernel
theorem dX9_seed_12 : decode cX9_seed 12 = .ok (.putfield 242, 3) := by decide +kernel
theorem dX9_seed_15 : decode cX9_seed 15 = .ok (.lload_n 3, 1) := by decide +kernel
theorem dX9_seed_16 : decode cX9_seed 16 = .ok (.lreturn, 1) := by decide +kernel
theorem dX9_years_0 : decode cX9_years 0 = .ok (.aload_n 0, 1) := by decide +kernel
theorem dX9_years_1 : decode cX9_years 1 = .ok (.iconst 0, 1) := by decide +kernel
theorem dX9_years_2 : decode cX9_years 2 = .ok (.putfield 68, 3) := by decide +kernel
theorem dX9_years_5 : decode cX9_years 5 = .ok (.iload_n 1, 1) := by decide +kernel
theorem dX9_years_6 : decode cX9_years 6 = .ok (.i2l, 1) := by decide +kernel
theorem dX9_years_7 : decode cX9_years 7 = .ok (.lconst 1, 1) := by decide +kernel
theorem dX9_years_8 : decode cX9_years 8 = .ok (.ldc2_w 246, 3) := by decide +kernel
theorem dX9_years_11 : decode cX9_years 11 = .ok (.invokestatic 74, 3) := by decide +kernel
theorem dX9_years_14 : decode cX9_years 14 = .ok (.ifCond .ne 6, 3) := by decide +kernel
theorem dX9_years_17 : decode cX9_years 17 = .ok (.bipush (-2), 2) := by decide +kernel
theorem dX9_years_19 : decode cX9_years 19 = .ok (.ireturn, 1) := by decide +kernel
theorem dX9_years_20 : decode cX9_years 20 = .ok (.aload_n 0, 1) := by decide +kernel
theorem dX9_years_21 : decode cX9_years 21 = .ok (.getfield 34, 3) := by decide +kernel
theorem dX9_years_24 : decode cX9_years 24 = .ok (.aload_n 0, 1) := by decide +kernel
theorem dX9_years_25 : decode cX9_years 25 = .ok (.getfield 37, 3) := by decide +kernel
theorem dX9_years_28 : decode cX9_years 28 = .ok (.bipush 31, 2) := by decide +kernel
theorem dX9_years_30 : decode cX9_years 30 = .ok (.invokestatic 123, 3) := by decide +kernel
theorem dX9_years_33 : decode cX9_years 33 = .ok (.iconst 0, 1) := by decide +kernel
theorem dX9_years_34 : decode cX9_years 34 = .ok (.istore_n 2, 1) := by decide +kernel
theorem dX9_years_35 : decode cX9_years 35 = .ok (.iconst 0, 1) := by decide +kernel
theorem dX9_years_36 : decode cX9_years 36 = .ok (.istore_n 3, 1) := by decide +kernel
theorem dX9_years_37 : decode cX9_years 37 = .ok (.iload_n 3, 1) := by decide +kernel
theorem dX9_years_38 : decode cX9_years 38 = .ok (.iload_n 1, 1) := by decide +kernel
theorem dX9_years_39 : decode cX9_years 39 = .ok (.if_icmp .ge 74, 3) := by decide +kernel
theorem dX9_years_42 : decode cX9_years 42 = .ok (.aload_n 0, 1) := by decide +kernel
theorem dX9_years_43 : decode cX9_years 43 = .ok (.aload_n 0, 1) := by decide +kernel
theorem dX9_years_44 : decode cX9_years 44 = .ok (.getfield 242, 3) := by decide +kernel
theorem dX9_years_47 : decode cX9_years 47 = .ok (.ldc2_w 248, 3) := by decide +kernel
theorem dX9_years_50 : decode cX9_years 50 = .ok (.lmul, 1) := by decide +kernel
theorem dX9_years_51 : decode cX9_years 51 = .ok (.ldc2_w 250, 3) := by decide +kernel
theorem dX9_years_54 : decode cX9_years 54 = .ok (.ladd, 1) := by decide +kernel
theorem dX9_years_55 : decode cX9_years 55 = .ok (.putfield 242, 3) := by decide +kernel
theorem dX9_years_58 : decode cX9_years 58 = .ok (.aload_n 0, 1) := by decide +kernel
theorem dX9_years_59 : decode cX9_years 59 = .ok (.getfield 242, 3) := by decide +kernel
theorem dX9_years_62 : decode cX9_years 62 = .ok (.bipush 33, 2) := by decide +kernel
theorem dX9_years_64 : decode cX9_years 64 = .ok (.lushr, 1) := by decide +kernel
theorem dX9_years_65 : decode cX9_years 65 = .ok (.ldc2_w 252, 3) := by decide +kernel
theorem dX9_years_68 : decode cX9_years 68 = .ok (.lrem, 1) := by decide +kernel
theorem dX9_years_69 : decode cX9_years 69 = .ok (.l2i, 1) := by decide +kernel
theorem dX9_years_70 : decode cX9_years 70 = .ok (.istore 4, 2) := by decide +kernel
theorem dX9_years_72 : decode cX9_years 72 = .ok (.aload_n 0, 1) := by decide +kernel
theorem dX9_years_73 : decode cX9_years 73 = .ok (.bipush 10, 2) := by decide +kernel
theorem dX9_years_75 : decode cX9_years 75 = .ok (.iload 4, 2) := by decide +kernel
theorem dX9_years_77 : decode cX9_years 77 = .ok (.iconst 5, 1) := by decide +kernel
theorem dX9_years_78 : decode cX9_years 78 = .ok (.idiv, 1) := by decide +kernel
theorem dX9_years_79 : decode cX9_years 79 = .ok (.imul, 1) := by decide +kernel
theorem dX9_years_80 : decode cX9_years 80 = .ok (.iload 4, 2) := by decide +kernel
theorem dX9_years_82 : decode cX9_years 82 = .ok (.iconst 5, 1) := by decide +kernel
theorem dX9_years_83 : decode cX9_years 83 = .ok (.irem, 1) := by decide +kernel
theorem dX9_years_84 : decode cX9_years 84 = .ok (.iadd, 1) := by decide +kernel
theorem dX9_years_85 : decode cX9_years 85 = .ok (.invokevirtual 207, 3) := by decide +kernel
theorem dX9_years_88 : decode cX9_years 88 = .ok (.pop, 1) := by decide +kernel
theorem dX9_years_89 : decode cX9_years 89 = .ok (.aload_n 0, 1) := by decide +kernel
theorem dX9_years_90 : decode cX9_years 90 = .ok (.aload_n 0, 1) := by decide +kernel
theorem dX9_years_91 : decode cX9_years 91 = .ok (.getfield 37, 3) := by decide +kernel
theorem dX9_years_94 : decode cX9_years 94 = .ok (.invokevirtual 152, 3) := by decide +kernel
theorem dX9_years_97 : decode cX9_years 97 = .ok (.iload_n 2, 1) := by decide +kernel
theorem dX9_years_98 : decode cX9_years 98 = .ok (.aload_n 0, 1) := by decide +kernel
theorem dX9_years_99 : decode cX9_years 99 = .ok (.invokevirtual 163, 3) := by decide +kernel
theorem dX9_years_102 : decode cX9_years 102 = .ok (.invokestatic 198, 3) := by decide +kernel
theorem dX9_years_105 : decode cX9_years 105 = .ok (.iadd, 1) := by decide +kernel
theorem dX9_years_106 : decode cX9_years 106 = .ok (.istore_n 2, 1) := by decide +kernel
theorem dX9_years_107 : decode cX9_years 107 = .ok (.iinc 3 1, 3) := by decide +kernel
theorem dX9_years_110 : decode cX9_years 110 = .ok (.goto (-73), 3) := by decide +kernel
theorem dX9_years_113 : decode cX9_years 113 = .ok (.iload_n 2, 1) := by decide +kernel
theorem dX9_years_114 : decode cX9_years 114 = .ok (.ireturn, 1) := by decide +kernel
theorem dX9_keep_0 : decode cX9_keep 0 = .ok (.aload_n 0, 1) := by decide +kernel
theorem dX9_keep_1 : decode cX9_keep 1 = .ok (.iconst 0, 1) := by decide +kernel
theorem dX9_keep_2 : decode cX9_keep 2 = .ok (.putfield 68, 3) := by decide +kernel
theorem dX9_keep_5 : decode cX9_keep 5 = .ok (.iload_n 1, 1) := by decide +kernel
theorem dX9_keep_6 : decode cX9_keep 6 = .ok (.i2l, 1) := by decide +kernel
theorem dX9_keep_7 : decode cX9_keep 7 = .ok (.lconst 0, 1) := by decide +kernel
theorem dX9_keep_8 : decode cX9_keep 8 = .ok (.lconst 1, 1) := by decide +kernel
theorem dX9_keep_9 : decode cX9_keep 9 = .ok (.invokestatic 74, 3) := by decide +kernel
theorem dX9_keep_12 : decode cX9_keep 12 = .ok (.ifCond .ne 5, 3) := by decide +kernel
theorem dX9_keep_15 : decode cX9_keep 15 = .ok (.iconst (-1), 1) := by decide +kernel
theorem dX9_keep_16 : decode cX9_keep 16 = .ok (.ireturn, 1) := by decide +kernel
theorem dX9_keep_17 : decode cX9_keep 17 = .ok (.aload_n 0, 1) := by decide +kernel
theorem dX9_keep_18 : decode cX9_keep 18 = .ok (.getfield 46, 3) := by decide +kernel
theorem dX9_keep_21 : decode cX9_keep 21 = .ok (.iload_n 1, 1) := by decide +kernel
theorem dX9_keep_22 : decode cX9_keep 22 = .ok (.iconst 1, 1) := by decide +kernel
theorem dX9_keep_23 : decode cX9_keep 23 = .ok (.bastore, 1) := by decide +kernel
theorem dX9_keep_24 : decode cX9_keep 24 = .ok (.iconst 0, 1) := by decide +kernel
theorem dX9_keep_25 : decode cX9_keep 25 = .ok (.istore_n 2, 1) := by decide +kernel
theorem dX9_keep_26 : decode cX9_keep 26 = .ok (.iload_n 2, 1) := by decide +kernel
theorem dX9_keep_27 : decode cX9_keep 27 = .ok (.bipush 31, 2) := by decide +kernel
theorem dX9_keep_29 : decode cX9_keep 29 = .ok (.if_icmp .ge 26, 3) := by decide +kernel
theorem dX9_keep_32 : decode cX9_keep 32 = .ok (.aload_n 0, 1) := by decide +kernel
theorem dX9_keep_33 : decode cX9_keep 33 = .ok (.getfield 43, 3) := by decide +kernel
theorem dX9_keep_36 : decode cX9_keep 36 = .ok (.bipush 31, 2) := by decide +kernel
theorem dX9_keep_38 : decode cX9_keep 38 = .ok (.iload_n 1, 1) := by decide +kernel
theorem dX9_keep_39 : decode cX9_keep 39 = .ok (.imul, 1) := by decide +kernel
theorem dX9_keep_40 : decode cX9_keep 40 = .ok (.iload_n 2, 1) := by decide +kernel
theorem dX9_keep_41 : decode cX9_keep 41 = .ok (.iadd, 1) := by decide +kernel
theorem dX9_keep_42 : decode cX9_keep 42 = .ok (.aload_n 0, 1) := by decide +kernel
theorem dX9_keep_43 : decode cX9_keep 43 = .ok (.getfield 34, 3) := by decide +kernel
theorem dX9_keep_46 : decode cX9_keep 46 = .ok (.iload_n 2, 1) := by decide +kernel
theorem dX9_keep_47 : decode cX9_keep 47 = .ok (.iaload, 1) := by decide +kernel
theorem dX9_keep_48 : decode cX9_keep 48 = .ok (.iastore, 1) := by decide +kernel
theorem dX9_keep_49 : decode cX9_keep 49 = .ok (.iinc 2 1, 3) := by decide +kernel
theorem dX9_keep_52 : decode cX9_keep 52 = .ok (.goto (-26), 3) := by decide +kernel
theorem dX9_keep_55 : decode cX9_keep 55 = .ok (.aload_n 0, 1) := by decide +kernel
theorem dX9_keep_56 : decode cX9_keep 56 = .ok (.getfield 34, 3) := by decide +kernel
theorem dX9_keep_59 : decode cX9_keep 59 = .ok (.bipush 30, 2) := by decide +kernel
theorem dX9_keep_61 : decode cX9_keep 61 = .ok (.iaload, 1) := by decide +kernel
theorem dX9_keep_62 : decode cX9_keep 62 = .ok (.ireturn, 1) := by decide +kernel
theorem dX9_again_0 : decode cX9_again 0 = .ok (.aload_n 0, 1) := by decide +kernel
theorem dX9_again_1 : decode cX9_again 1 = .ok (.iconst 0, 1) := by decide +kernel
theorem dX9_again_2 : decode cX9_again 2 = .ok (.putfield 68, 3) := by decide +kernel
theorem dX9_again_5 : decode cX9_again 5 = .ok (.iload_n 1, 1) := by decide +kernel
theorem dX9_again_6 : decode cX9_again 6 = .ok (.i2l, 1) := by decide +kernel
theorem dX9_again_7 : decode cX9_again 7 = .ok (.lconst 0, 1) := by decide +kernel
theorem dX9_again_8 : decode cX9_again 8 = .ok (.lconst 1, 1) := by decide +kernel
theorem dX9_again_9 : decode cX9_again 9 = .ok (.invokestatic 74, 3) := by decide +kernel
theorem dX9_again_12 : decode cX9_again 12 = .ok (.ifCond .ne 5, 3) := by decide +kernel
theorem dX9_again_15 : decode cX9_again 15 = .ok (.iconst (-1), 1) := by decide +kernel
theorem dX9_again_16 : decode cX9_again 16 = .ok (.ireturn, 1) := by decide +kernel
theorem dX9_again_17 : decode cX9_again 17 = .ok (.aload_n 0, 1) := by decide +kernel
theorem dX9_again_18 : decode cX9_again 18 = .ok (.getfield 46, 3) := by decide +kernel
theorem dX9_again_21 : decode cX9_again 21 = .ok (.iload_n 1, 1) := by decide +kernel
theorem dX9_again_22 : decode cX9_again 22 = .ok (.baload, 1) := by decide +kernel
theorem dX9_again_23 : decode cX9_again 23 = .ok (.ifCond .ne 6, 3) := by decide +kernel
theorem dX9_again_26 : decode cX9_again 26 = .ok (.bipush (-3), 2) := by decide +kernel
theorem dX9_again_28 : decode cX9_again 28 = .ok (.ireturn, 1) := by decide +kernel
theorem dX9_again_29 : decode cX9_again 29 = .ok (.iconst 0, 1) := by decide +kernel
theorem dX9_again_30 : decode cX9_again 30 = .ok (.istore_n 2, 1) := by decide +kernel
theorem dX9_again_31 : decode cX9_again 31 = .ok (.iload_n 2, 1) := by decide +kernel
theorem dX9_again_32 : decode cX9_again 32 = .ok (.bipush 31, 2) := by decide +kernel
theorem dX9_again_34 : decode cX9_again 34 = .ok (.if_icmp .ge 26, 3) := by decide +kernel
theorem dX9_again_37 : decode cX9_again 37 = .ok (.aload_n 0, 1) := by decide +kernel
theorem dX9_again_38 : decode cX9_again 38 = .ok (.getfield 34, 3) := by decide +kernel
theorem dX9_again_41 : decode cX9_again 41 = .ok (.iload_n 2, 1) := by decide +kernel
theorem dX9_again_42 : decode cX9_again 42 = .ok (.aload_n 0, 1) := by decide +kernel
theorem dX9_again_43 : decode cX9_again 43 = .ok (.getfield 43, 3) := by decide +kernel
theorem dX9_again_46 : decode cX9_again 46 = .ok (.bipush 31, 2) := by decide +kernel
theorem dX9_again_48 : decode cX9_again 48 = .ok (.iload_n 1, 1) := by decide +kernel
theorem dX9_again_49 : decode cX9_again 49 = .ok (.imul, 1) := by decide +kernel
theorem dX9_again_50 : decode cX9_again 50 = .ok (.iload_n 2, 1) := by decide +kernel
theorem dX9_again_51 : decode cX9_again 51 = .ok (.iadd, 1) := by decide +kernel
theorem dX9_again_52 : decode cX9_again 52 = .ok (.iaload, 1) := by decide +kernel
theorem dX9_again_53 : decode cX9_again 53 = .ok (.iastore, 1) := by decide +kernel
theorem dX9_again_54 : decode cX9_again 54 = .ok (.iinc 2 1, 3) := by decide +kernel
theorem dX9_again_57 : decode cX9_again 57 = .ok (.goto (-26), 3) := by decide +kernel
theorem dX9_again_60 : decode cX9_again 60 = .ok (.aload_n 0, 1) := by decide +kernel
theorem dX9_again_61 : decode cX9_again 61 = .ok (.iconst 0, 1) := by decide +kernel
theorem dX9_again_62 : decode cX9_again 62 = .ok (.putfield 127, 3) := by decide +kernel
theorem dX9_again_65 : decode cX9_again 65 = .ok (.aload_n 0, 1) := by decide +kernel
theorem dX9_again_66 : decode cX9_again 66 = .ok (.getfield 34, 3) := by decide +kernel
theorem dX9_again_69 : decode cX9_again 69 = .ok (.bipush 30, 2) := by decide +kernel
theorem dX9_again_71 : decode cX9_again 71 = .ok (.iaload, 1) := by decide +kernel
theorem dX9_again_72 : decode cX9_again 72 = .ok (.ireturn, 1) := by decide +kernel
theorem dJ6_bitCount_0f7a4_0 : decode cJ6_bitCount_0f7a4 0 = .ok (.iload_n 0, 1) := by decide +kernel
theorem dJ6_bitCount_0f7a4_1 : decode cJ6_bitCount_0f7a4 1 = .ok (.iload_n 0, 1) := by decide +kernel
theorem dJ6_bitCount_0f7a4_2 : decode cJ6_bitCount_0f7a4 2 = .ok (.iconst 1, 1) := by decide +kernel
theorem dJ6_bitCount_0f7a4_3 : decode cJ6_bitCount_0f7a4 3 = .ok (.iushr, 1) := by decide +kernel
theorem dJ6_bitCount_0f7a4_4 : decode cJ6_bitCount_0f7a4 4 = .ok (.ldc_w 265, 3) := by decide +kernel
theorem dJ6_bitCount_0f7a4_7 : decode cJ6_bitCount_0f7a4 7 = .ok (.iand, 1) := by decide +kernel
theorem dJ6_bitCount_0f7a4_8 : decode cJ6_bitCount_0f7a4 8 = .ok (.isub, 1) := by decide +kernel
theorem dJ6_bitCount_0f7a4_9 : decode cJ6_bitCount_0f7a4 9 = .ok (.istore_n 0, 1) := by decide +kernel
theorem dJ6_bitCount_0f7a4_10 : decode cJ6_bitCount_0f7a4 10 = .ok (.iload_n 0, 1) := by decide +kernel
theorem dJ6_bitCount_0f7a4_11 : decode cJ6_bitCount_0f7a4 11 = .ok (.ldc_w 266, 3) := by decide +kernel
theorem dJ6_bitCount_0f7a4_14 : decode cJ6_bitCount_0f7a4 14 = .ok (.iand, 1) := by decide +kernel
theorem dJ6_bitCount_0f7a4_15 : decode cJ6_bitCount_0f7a4 15 = .ok (.iload_n 0, 1) := by decide +kernel
theorem dJ6_bitCount_0f7a4_16 : decode cJ6_bitCount_0f7a4 16 = .ok (.iconst 2, 1) := by decide +kernel
theorem dJ6_bitCount_0f7a4_17 : decode cJ6_bitCount_0f7a4 17 = .ok (.iushr, 1) := by decide +kernel
theorem dJ6_bitCount_0f7a4_18 : decode cJ6_bitCount_0f7a4 18 = .ok (.ldc_w 266, 3) := by decide +kernel
theorem dJ6_bitCount_0f7a4_21 : decode cJ6_bitCount_0f7a4 21 = .ok (.iand, 1) := by decide +kernel
theorem dJ6_bitCount_0f7a4_22 : decode cJ6_bitCount_0f7a4 22 = .ok (.iadd, 1) := by decide +kernel
theorem dJ6_bitCount_0f7a4_23 : decode cJ6_bitCount_0f7a4 23 = .ok (.istore_n 0, 1) := by decide +kernel
theorem dJ6_bitCount_0f7a4_24 : decode cJ6_bitCount_0f7a4 24 = .ok (.iload_n 0, 1) := by decide +kernel
theorem dJ6_bitCount_0f7a4_25 : decode cJ6_bitCount_0f7a4 25 = .ok (.iload_n 0, 1) := by decide +kernel
theorem dJ6_bitCount_0f7a4_26 : decode cJ6_bitCount_0f7a4 26 = .ok (.iconst 4, 1) := by decide +kernel
theorem dJ6_bitCount_0f7a4_27 : decode cJ6_bitCount_0f7a4 27 = .ok (.iushr, 1) := by decide +kernel
theorem dJ6_bitCount_0f7a4_28 : decode cJ6_bitCount_0f7a4 28 = .ok (.iadd, 1) := by decide +kernel
theorem dJ6_bitCount_0f7a4_29 : decode cJ6_bitCount_0f7a4 29 = .ok (.ldc_w 267, 3) := by decide +kernel
theorem dJ6_bitCount_0f7a4_32 : decode cJ6_bitCount_0f7a4 32 = .ok (.iand, 1) := by decide +kernel
theorem dJ6_bitCount_0f7a4_33 : decode cJ6_bitCount_0f7a4 33 = .ok (.istore_n 0, 1) := by decide +kernel
theorem dJ6_bitCount_0f7a4_34 : decode cJ6_bitCount_0f7a4 34 = .ok (.iload_n 0, 1) := by decide +kernel
theorem dJ6_bitCount_0f7a4_35 : decode cJ6_bitCount_0f7a4 35 = .ok (.iload_n 0, 1) := by decide +kernel
theorem dJ6_bitCount_0f7a4_36 : decode cJ6_bitCount_0f7a4 36 = .ok (.bipush 8, 2) := by decide +kernel
theorem dJ6_bitCount_0f7a4_38 : decode cJ6_bitCount_0f7a4 38 = .ok (.iushr, 1) := by decide +kernel
theorem dJ6_bitCount_0f7a4_39 : decode cJ6_bitCount_0f7a4 39 = .ok (.iadd, 1) := by decide +kernel
theorem dJ6_bitCount_0f7a4_40 : decode cJ6_bitCount_0f7a4 40 = .ok (.istore_n 0, 1) := by decide +kernel
theorem dJ6_bitCount_0f7a4_41 : decode cJ6_bitCount_0f7a4 41 = .ok (.iload_n 0, 1) := by decide +kernel
theorem dJ6_bitCount_0f7a4_42 : decode cJ6_bitCount_0f7a4 42 = .ok (.iload_n 0, 1) := by decide +kernel
theorem dJ6_bitCount_0f7a4_43 : decode cJ6_bitCount_0f7a4 43 = .ok (.bipush 16, 2) := by decide +kernel
theorem dJ6_bitCount_0f7a4_45 : decode cJ6_bitCount_0f7a4 45 = .ok (.iushr, 1) := by decide +kernel
theorem dJ6_bitCount_0f7a4_46 : decode cJ6_bitCount_0f7a4 46 = .ok (.iadd, 1) := by decide +kernel
theorem dJ6_bitCount_0f7a4_47 : decode cJ6_bitCount_0f7a4 47 = .ok (.istore_n 0, 1) := by decide +kernel
theorem dJ6_bitCount_0f7a4_48 : decode cJ6_bitCount_0f7a4 48 = .ok (.iload_n 0, 1) := by decide +kernel
theorem dJ6_bitCount_0f7a4_49 : decode cJ6_bitCount_0f7a4 49 = .ok (.bipush 63, 2) := by decide +kernel
theorem dJ6_bitCount_0f7a4_51 : decode cJ6_bitCount_0f7a4 51 = .ok (.iand, 1) := by decide +kernel
theorem dJ6_bitCount_0f7a4_52 : decode cJ6_bitCount_0f7a4 52 = .ok (.ireturn, 1) := by decide +kernel
theorem dJ9_abs_0f7a4_0 : decode cJ9_abs_0f7a4 0 = .ok (.iload_n 0, 1) := by decide +kernel
theorem dJ9_abs_0f7a4_1 : decode cJ9_abs_0f7a4 1 = .ok (.ifCond .ge 8, 3) := by decide +kernel
theorem dJ9_abs_0f7a4_4 : decode cJ9_abs_0f7a4 4 = .ok (.iload_n 0, 1) := by decide +kernel
theorem dJ9_abs_0f7a4_5 : decode cJ9_abs_0f7a4 5 = .ok (.ineg, 1) := by decide +kernel
theorem dJ9_abs_0f7a4_6 : decode cJ9_abs_0f7a4 6 = .ok (.goto 4, 3) := by decide +kernel
theorem dJ9_abs_0f7a4_9 : decode cJ9_abs_0f7a4 9 = .ok (.iload_n 0, 1) := by decide +kernel
theorem dJ9_abs_0f7a4_10 : decode cJ9_abs_0f7a4 10 = .ok (.ireturn, 1) := by decide +kernel
theorem dJ9_max_7cf53_0 : decode cJ9_max_7cf53 0 = .ok (.iload_n 0, 1) := by decide +kernel
theorem dJ9_max_7cf53_1 : decode cJ9_max_7cf53 1 = .ok (.iload_n 1, 1) := by decide +kernel
theorem dJ9_max_7cf53_2 : decode cJ9_max_7cf53 2 = .ok (.if_icmp .lt 7, 3) := by decide +kernel
theorem dJ9_max_7cf53_5 : decode cJ9_max_7cf53 5 = .ok (.iload_n 0, 1) := by decide +kernel
theorem dJ9_max_7cf53_6 : decode cJ9_max_7cf53 6 = .ok (.goto 4, 3) := by decide +kernel
theorem dJ9_max_7cf53_9 : decode cJ9_max_7cf53 9 = .ok (.iload_n 1, 1) := by decide +kernel
theorem dJ9_max_7cf53_10 : decode cJ9_max_7cf53 10 = .ok (.ireturn, 1) := by decide +kernel
theorem dJ9_min_7cf53_0 : decode cJ9_min_7cf53 0 = .ok (.iload_n 0, 1) := by decide +kernel
theorem dJ9_min_7cf53_1 : decode cJ9_min_7cf53 1 = .ok (.iload_n 1, 1) := by decide +kernel
theorem dJ9_min_7cf53_2 : decode cJ9_min_7cf53 2 = .ok (.if_icmp .gt 7, 3) := by decide +kernel
theorem dJ9_min_7cf53_5 : decode cJ9_min_7cf53 5 = .ok (.iload_n 0, 1) := by decide +kernel
theorem dJ9_min_7cf53_6 : decode cJ9_min_7cf53 6 = .ok (.goto 4, 3) := by decide +kernel
theorem dJ9_min_7cf53_9 : decode cJ9_min_7cf53 9 = .ok (.iload_n 1, 1) := by decide +kernel
theorem dJ9_min_7cf53_10 : decode cJ9_min_7cf53 10 = .ok (.ireturn, 1) := by decide +kernel
theorem dJ7_fill_53178_0 : decode cJ7_fill_53178 0 = .ok (.iconst 0, 1) := by decide +kernel
theorem dJ7_fill_53178_1 : decode cJ7_fill_53178 1 = .ok (.istore_n 2, 1) := by decide +kernel
theorem dJ7_fill_53178_2 : decode cJ7_fill_53178 2 = .ok (.aload_n 0, 1) := by decide +kernel
theorem dJ7_fill_53178_3 : decode cJ7_fill_53178 3 = .ok (.arraylength, 1) := by decide +kernel
theorem dJ7_fill_53178_4 : decode cJ7_fill_53178 4 = .ok (.istore_n 3, 1) := by decide +kernel
theorem dJ7_fill_53178_5 : decode cJ7_fill_53178 5 = .ok (.iload_n 2, 1) := by decide +kernel
theorem dJ7_fill_53178_6 : decode cJ7_fill_53178 6 = .ok (.iload_n 3, 1) := by decide +kernel
theorem dJ7_fill_53178_7 : decode cJ7_fill_53178 7 = .ok (.if_icmp .ge 13, 3) := by decide +kernel
theorem dJ7_fill_53178_10 : decode cJ7_fill_53178 10 = .ok (.aload_n 0, 1) := by decide +kernel
theorem dJ7_fill_53178_11 : decode cJ7_fill_53178 11 = .ok (.iload_n 2, 1) := by decide +kernel
theorem dJ7_fill_53178_12 : decode cJ7_fill_53178 12 = .ok (.iload_n 1, 1) := by decide +kernel
theorem dJ7_fill_53178_13 : decode cJ7_fill_53178 13 = .ok (.iastore, 1) := by decide +kernel
theorem dJ7_fill_53178_14 : decode cJ7_fill_53178 14 = .ok (.iinc 2 1, 3) := by decide +kernel
theorem dJ7_fill_53178_17 : decode cJ7_fill_53178 17 = .ok (.goto (-12), 3) := by decide +kernel
theorem dJ7_fill_53178_20 : decode cJ7_fill_53178 20 = .ok (.return_, 1) := by decide +kernel
theorem dL_law_0 : decode cL_law 0 = .ok (.new 7, 3) := by decide +kernel
theorem dL_law_3 : decode cL_law 3 = .ok (.dup, 1) := by decide +kernel
theorem dL_law_4 : decode cL_law 4 = .ok (.invokespecial 9, 3) := by decide +kernel
theorem dL_law_7 : decode cL_law 7 = .ok (.astore_n 1, 1) := by decide +kernel
theorem dL_law_8 : decode cL_law 8 = .ok (.new 10, 3) := by decide +kernel
theorem dL_law_11 : decode cL_law 11 = .ok (.dup, 1) := by decide +kernel
theorem dL_law_12 : decode cL_law 12 = .ok (.invokespecial 12, 3) := by decide +kernel
theorem dL_law_15 : decode cL_law 15 = .ok (.astore_n 2, 1) := by decide +kernel
theorem dL_law_16 : decode cL_law 16 = .ok (.iconst 0, 1) := by decide +kernel
theorem dL_law_17 : decode cL_law 17 = .ok (.istore_n 3, 1) := by decide +kernel
theorem dL_law_18 : decode cL_law 18 = .ok (.iload_n 3, 1) := by decide +kernel
theorem dL_law_19 : decode cL_law 19 = .ok (.aload_n 0, 1) := by decide +kernel
theorem dL_law_20 : decode cL_law 20 = .ok (.arraylength, 1) := by decide +kernel
theorem dL_law_21 : decode cL_law 21 = .ok (.iconst 5, 1) := by decide +kernel
theorem dL_law_22 : decode cL_law 22 = .ok (.isub, 1) := by decide +kernel
theorem dL_law_23 : decode cL_law 23 = .ok (.if_icmp .gt 913, 3) := by decide +kernel
theorem dL_law_26 : decode cL_law 26 = .ok (.aload_n 0, 1) := by decide +kernel
theorem dL_law_27 : decode cL_law 27 = .ok (.iload_n 3, 1) := by decide +kernel
theorem dL_law_28 : decode cL_law 28 = .ok (.iaload, 1) := by decide +kernel
theorem dL_law_29 : decode cL_law 29 = .ok (.bipush 31, 2) := by decide +kernel
theorem dL_law_31 : decode cL_law 31 = .ok (.iand, 1) := by decide +kernel
theorem dL_law_32 : decode cL_law 32 = .ok (.tableswitch 898 0 26 #[124, 147, 160, 173, 186, 209, 252, 285, 318, 341, 374, 397, 410, 423, 446, 479, 522, 555, 614, 647, 660, 683, 706, 775, 829, 852, 875], 124) := by decide +kernel
theorem dL_law_156 : decode cL_law 156 = .ok (.aload_n 1, 1) := by decide +kernel
theorem dL_law_157 : decode cL_law 157 = .ok (.aload_n 0, 1) := by decide +kernel
theorem dL_law_158 : decode cL_law 158 = .ok (.iload_n 3, 1) := by decide +kernel
theorem dL_law_159 : decode cL_law 159 = .ok (.iconst 1, 1) := by decide +kernel
theorem dL_law_160 : decode cL_law 160 = .ok (.iadd, 1) := by decide +kernel
theorem dL_law_161 : decode cL_law 161 = .ok (.iaload, 1) := by decide +kernel
theorem dL_law_162 : decode cL_law 162 = .ok (.invokevirtual 13, 3) := by decide +kernel
theorem dL_law_165 : decode cL_law 165 = .ok (.aload_n 2, 1) := by decide +kernel
theorem dL_law_166 : decode cL_law 166 = .ok (.aload_n 0, 1) := by decide +kernel
theorem dL_law_167 : decode cL_law 167 = .ok (.iload_n 3, 1) := by decide +kernel
theorem dL_law_168 : decode cL_law 168 = .ok (.iconst 1, 1) := by decide +kernel
theorem dL_law_169 : decode cL_law 169 = .ok (.iadd, 1) := by decide +kernel
theorem dL_law_170 : decode cL_law 170 = .ok (.iaload, 1) := by decide +kernel
theorem dL_law_171 : decode cL_law 171 = .ok (.invokevirtual 17, 3) := by decide +kernel
theorem dL_law_174 : decode cL_law 174 = .ok (.if_icmp .eq 756, 3) := by decide +kernel
theorem dL_law_177 : decode cL_law 177 = .ok (.iconst 0, 1) := by decide +kernel
theorem dL_law_178 : decode cL_law 178 = .ok (.ireturn, 1) := by decide +kernel
theorem dL_law_179 : decode cL_law 179 = .ok (.aload_n 1, 1) := by decide +kernel
theorem dL_law_180 : decode cL_law 180 = .ok (.invokevirtual 18, 3) := by decide +kernel
theorem dL_law_183 : decode cL_law 183 = .ok (.aload_n 2, 1) := by decide +kernel
theorem dL_law_184 : decode cL_law 184 = .ok (.invokevirtual 22, 3) := by decide +kernel
theorem dL_law_187 : decode cL_law 187 = .ok (.if_icmp .eq 743, 3) := by decide +kernel
theorem dL_law_190 : decode cL_law 190 = .ok (.iconst 0, 1) := by decide +kernel
theorem dL_law_191 : decode cL_law 191 = .ok (.ireturn, 1) := by decide +kernel
theorem dL_law_192 : decode cL_law 192 = .ok (.aload_n 1, 1) := by decide +kernel
theorem dL_law_193 : decode cL_law 193 = .ok (.invokevirtual 23, 3) := by decide +kernel
theorem dL_law_196 : decode cL_law 196 = .ok (.aload_n 2, 1) := by decide +kernel
theorem dL_law_197 : decode cL_law 197 = .ok (.invokevirtual 26, 3) := by decide +kernel
theorem dL_law_200 : decode cL_law 200 = .ok (.if_icmp .eq 730, 3) := by decide +kernel
theorem dL_law_203 : decode cL_law 203 = .ok (.iconst 0, 1) := by decide +kernel
theorem dL_law_204 : decode cL_law 204 = .ok (.ireturn, 1) := by decide +kernel
theorem dL_law_205 : decode cL_law 205 = .ok (.aload_n 1, 1) := by decide +kernel
theorem dL_law_206 : decode cL_law 206 = .ok (.invokevirtual 27, 3) := by decide +kernel
theorem dL_law_209 : decode cL_law 209 = .ok (.aload_n 2, 1) := by decide +kernel
theorem dL_law_210 : decode cL_law 210 = .ok (.invokevirtual 30, 3) := by decide +kernel
theorem dL_law_213 : decode cL_law 213 = .ok (.if_icmp .eq 717, 3) := by decide +kernel
theorem dL_law_216 : decode cL_law 216 = .ok (.iconst 0, 1) := by decide +kernel
theorem dL_law_217 : decode cL_law 217 = .ok (.ireturn, 1) := by decide +kernel
theorem dL_law_218 : decode cL_law 218 = .ok (.aload_n 1, 1) := by decide +kernel
theorem dL_law_219 : decode cL_law 219 = .ok (.aload_n 0, 1) := by decide +kernel
theorem dL_law_220 : decode cL_law 220 = .ok (.iload_n 3, 1) := by decide +kernel
theorem dL_law_221 : decode cL_law 221 = .ok (.iconst 1, 1) := by decide +kernel
theorem dL_law_222 : decode cL_law 222 = .ok (.iadd, 1) := by decide +kernel
theorem dL_law_223 : decode cL_law 223 = .ok (.iaload, 1) := by decide +kernel
theorem dL_law_224 : decode cL_law 224 = .ok (.invokevirtual 31, 3) := by decide +kernel
theorem dL_law_227 : decode cL_law 227 = .ok (.aload_n 2, 1) := by decide +kernel
theorem dL_law_228 : decode cL_law 228 = .ok (.aload_n 0, 1) := by decide +kernel
theorem dL_law_229 : decode cL_law 229 = .ok (.iload_n 3, 1) := by decide +kernel
theorem dL_law_230 : decode cL_law 230 = .ok (.iconst 1, 1) := by decide +kernel
theorem dL_law_231 : decode cL_law 231 = .ok (.iadd, 1) := by decide +kernel
theorem dL_law_232 : decode cL_law 232 = .ok (.iaload, 1) := by decide +kernel
theorem dL_law_233 : decode cL_law 233 = .ok (.invokevirtual 34, 3) := by decide +kernel
theorem dL_law_236 : decode cL_law 236 = .ok (.if_icmp .eq 694, 3) := by decide +kernel
theorem dL_law_239 : decode cL_law 239 = .ok (.iconst 0, 1) := by decide +kernel
theorem dL_law_240 : decode cL_law 240 = .ok (.ireturn, 1) := by decide +kernel
theorem dL_law_241 : decode cL_law 241 = .ok (.aload_n 1, 1) := by decide +kernel
theorem dL_law_242 : decode cL_law 242 = .ok (.aload_n 0, 1) := by decide +kernel
theorem dL_law_243 : decode cL_law 243 = .ok (.iload_n 3, 1) := by decide +kernel
theorem dL_law_244 : decode cL_law 244 = .ok (.iconst 1, 1) := by decide +kernel
theorem dL_law_245 : decode cL_law 245 = .ok (.iadd, 1) := by decide +kernel
theorem dL_law_246 : decode cL_law 246 = .ok (.iaload, 1) := by decide +kernel
theorem dL_law_247 : decode cL_law 247 = .ok (.aload_n 0, 1) := by decide +kernel
theorem dL_law_248 : decode cL_law 248 = .ok (.iload_n 3, 1) := by decide +kernel
theorem dL_law_249 : decode cL_law 249 = .ok (.iconst 2, 1) := by decide +kernel
theorem dL_law_250 : decode cL_law 250 = .ok (.iadd, 1) := by decide +kernel
theorem dL_law_251 : decode cL_law 251 = .ok (.iaload, 1) := by decide +kernel
theorem dL_law_252 : decode cL_law 252 = .ok (.aload_n 0, 1) := by decide +kernel
theorem dL_law_253 : decode cL_law 253 = .ok (.iload_n 3, 1) := by decide +kernel
theorem dL_law_254 : decode cL_law 254 = .ok (.iconst 3, 1) := by decide +kernel
theorem dL_law_255 : decode cL_law 255 = .ok (.iadd, 1) := by decide +kernel
theorem dL_law_256 : decode cL_law 256 = .ok (.iaload, 1) := by decide +kernel
theorem dL_law_257 : decode cL_law 257 = .ok (.invokevirtual 35, 3) := by decide +kernel
theorem dL_law_260 : decode cL_law 260 = .ok (.aload_n 2, 1) := by decide +kernel
theorem dL_law_261 : decode cL_law 261 = .ok (.aload_n 0, 1) := by decide +kernel
theorem dL_law_262 : decode cL_law 262 = .ok (.iload_n 3, 1) := by decide +kernel
theorem dL_law_263 : decode cL_law 263 = .ok (.iconst 1, 1) := by decide +kernel
theorem dL_law_264 : decode cL_law 264 = .ok (.iadd, 1) := by decide +kernel
theorem dL_law_265 : decode cL_law 265 = .ok (.iaload, 1) := by decide +kernel
theorem dL_law_266 : decode cL_law 266 = .ok (.aload_n 0, 1) := by decide +kernel
theorem dL_law_267 : decode cL_law 267 = .ok (.iload_n 3, 1) := by decide +kernel
theorem dL_law_268 : decode cL_law 268 = .ok (.iconst 2, 1) := by decide +kernel
theorem dL_law_269 : decode cL_law 269 = .ok (.iadd, 1) := by decide +kernel
theorem dL_law_270 : decode cL_law 270 = .ok (.iaload, 1) := by decide +kernel
theorem dL_law_271 : decode cL_law 271 = .ok (.aload_n 0, 1) := by decide +kernel
theorem dL_law_272 : decode cL_law 272 = .ok (.iload_n 3, 1) := by decide +kernel
theorem dL_law_273 : decode cL_law 273 = .ok (.iconst 3, 1) := by decide +kernel
theorem dL_law_274 : decode cL_law 274 = .ok (.iadd, 1) := by decide +kernel
theorem dL_law_275 : decode cL_law 275 = .ok (.iaload, 1) := by decide +kernel
theorem dL_law_276 : decode cL_law 276 = .ok (.invokevirtual 39, 3) := by decide +kernel
theorem dL_law_279 : decode cL_law 279 = .ok (.if_icmp .eq 651, 3) := by decide +kernel
theorem dL_law_282 : decode cL_law 282 = .ok (.iconst 0, 1) := by decide +kernel
theorem dL_law_283 : decode cL_law 283 = .ok (.ireturn, 1) := by decide +kernel
theorem dL_law_284 : decode cL_law 284 = .ok (.aload_n 1, 1) := by decide +kernel
theorem dL_law_285 : decode cL_law 285 = .ok (.aload_n 0, 1) := by decide +kernel
theorem dL_law_286 : decode cL_law 286 = .ok (.iload_n 3, 1) := by decide +kernel
theorem dL_law_287 : decode cL_law 287 = .ok (.iconst 1, 1) := by decide +kernel
theorem dL_law_288 : decode cL_law 288 = .ok (.iadd, 1) := by decide +kernel
theorem dL_law_289 : decode cL_law 289 = .ok (.iaload, 1) := by decide +kernel
theorem dL_law_290 : decode cL_law 290 = .ok (.aload_n 0, 1) := by decide +kernel
theorem dL_law_291 : decode cL_law 291 = .ok (.iload_n 3, 1) := by decide +kernel
theorem dL_law_292 : decode cL_law 292 = .ok (.iconst 2, 1) := by decide +kernel
theorem dL_law_293 : decode cL_law 293 = .ok (.iadd, 1) := by decide +kernel
theorem dL_law_294 : decode cL_law 294 = .ok (.iaload, 1) := by decide +kernel
theorem dL_law_295 : decode cL_law 295 = .ok (.invokevirtual 40, 3) := by decide +kernel
theorem dL_law_298 : decode cL_law 298 = .ok (.aload_n 2, 1) := by decide +kernel
theorem dL_law_299 : decode cL_law 299 = .ok (.aload_n 0, 1) := by decide +kernel
theorem dL_law_300 : decode cL_law 300 = .ok (.iload_n 3, 1) := by decide +kernel
theorem dL_law_301 : decode cL_law 301 = .ok (.iconst 1, 1) := by decide +kernel
theorem dL_law_302 : decode cL_law 302 = .ok (.iadd, 1) := by decide +kernel
theorem dL_law_303 : decode cL_law 303 = .ok (.iaload, 1) := by decide +kernel
theorem dL_law_304 : decode cL_law 304 = .ok (.aload_n 0, 1) := by decide +kernel
theorem dL_law_305 : decode cL_law 305 = .ok (.iload_n 3, 1) := by decide +kernel
theorem dL_law_306 : decode cL_law 306 = .ok (.iconst 2, 1) := by decide +kernel
theorem dL_law_307 : decode cL_law 307 = .ok (.iadd, 1) := by decide +kernel
theorem dL_law_308 : decode cL_law 308 = .ok (.iaload, 1) := by decide +kernel
theorem dL_law_309 : decode cL_law 309 = .ok (.invokevirtual 44, 3) := by decide +kernel
theorem dL_law_312 : decode cL_law 312 = .ok (.if_icmp .eq 618, 3) := by decide +kernel
theorem dL_law_315 : decode cL_law 315 = .ok (.iconst 0, 1) := by decide +kernel
theorem dL_law_316 : decode cL_law 316 = .ok (.ireturn, 1) := by decide +kernel
theorem dL_law_317 : decode cL_law 317 = .ok (.aload_n 1, 1) := by decide +kernel
theorem dL_law_318 : decode cL_law 318 = .ok (.aload_n 0, 1) := by decide +kernel
theorem dL_law_319 : decode cL_law 319 = .ok (.iload_n 3, 1) := by decide +kernel
theorem dL_law_320 : decode cL_law 320 = .ok (.iconst 1, 1) := by decide +kernel
theorem dL_law_321 : decode cL_law 321 = .ok (.iadd, 1) := by decide +kernel
theorem dL_law_322 : decode cL_law 322 = .ok (.iaload, 1) := by decide +kernel
theorem dL_law_323 : decode cL_law 323 = .ok (.aload_n 0, 1) := by decide +kernel
theorem dL_law_324 : decode cL_law 324 = .ok (.iload_n 3, 1) := by decide +kernel
theorem dL_law_325 : decode cL_law 325 = .ok (.iconst 2, 1) := by decide +kernel
theorem dL_law_326 : decode cL_law 326 = .ok (.iadd, 1) := by decide +kernel
theorem dL_law_327 : decode cL_law 327 = .ok (.iaload, 1) := by decide +kernel
theorem dL_law_328 : decode cL_law 328 = .ok (.invokevirtual 45, 3) := by decide +kernel
theorem dL_law_331 : decode cL_law 331 = .ok (.aload_n 2, 1) := by decide +kernel
theorem dL_law_332 : decode cL_law 332 = .ok (.aload_n 0, 1) := by decide +kernel
theorem dL_law_333 : decode cL_law 333 = .ok (.iload_n 3, 1) := by decide +kernel
theorem dL_law_334 : decode cL_law 334 = .ok (.iconst 1, 1) := by decide +kernel
theorem dL_law_335 : decode cL_law 335 = .ok (.iadd, 1) := by decide +kernel
theorem dL_law_336 : decode cL_law 336 = .ok (.iaload, 1) := by decide +kernel
theorem dL_law_337 : decode cL_law 337 = .ok (.aload_n 0, 1) := by decide +kernel
theorem dL_law_338 : decode cL_law 338 = .ok (.iload_n 3, 1) := by decide +kernel
theorem dL_law_339 : decode cL_law 339 = .ok (.iconst 2, 1) := by decide +kernel
theorem dL_law_340 : decode cL_law 340 = .ok (.iadd, 1) := by decide +kernel
theorem dL_law_341 : decode cL_law 341 = .ok (.iaload, 1) := by decide +kernel
theorem dL_law_342 : decode cL_law 342 = .ok (.invokevirtual 48, 3) := by decide +kernel
theorem dL_law_345 : decode cL_law 345 = .ok (.if_icmp .eq 585, 3) := by decide +kernel
theorem dL_law_348 : decode cL_law 348 = .ok (.iconst 0, 1) := by decide +kernel
theorem dL_law_349 : decode cL_law 349 = .ok (.ireturn, 1) := by decide +kernel
theorem dL_law_350 : decode cL_law 350 = .ok (.aload_n 1, 1) := by decide +kernel
theorem dL_law_351 : decode cL_law 351 = .ok (.aload_n 0, 1) := by decide +kernel
theorem dL_law_352 : decode cL_law 352 = .ok (.iload_n 3, 1) := by decide +kernel
theorem dL_law_353 : decode cL_law 353 = .ok (.iconst 1, 1) := by decide +kernel
theorem dL_law_354 : decode cL_law 354 = .ok (.iadd, 1) := by decide +kernel
theorem dL_law_355 : decode cL_law 355 = .ok (.iaload, 1) := by decide +kernel
theorem dL_law_356 : decode cL_law 356 = .ok (.invokevirtual 49, 3) := by decide +kernel
theorem dL_law_359 : decode cL_law 359 = .ok (.aload_n 2, 1) := by decide +kernel
theorem dL_law_360 : decode cL_law 360 = .ok (.aload_n 0, 1) := by decide +kernel
theorem dL_law_361 : decode cL_law 361 = .ok (.iload_n 3, 1) := by decide +kernel
theorem dL_law_362 : decode cL_law 362 = .ok (.iconst 1, 1) := by decide +kernel
theorem dL_law_363 : decode cL_law 363 = .ok (.iadd, 1) := by decide +kernel
theorem dL_law_364 : decode cL_law 364 = .ok (.iaload, 1) := by decide +kernel
theorem dL_law_365 : decode cL_law 365 = .ok (.invokevirtual 52, 3) := by decide +kernel
theorem dL_law_368 : decode cL_law 368 = .ok (.if_icmp .eq 562, 3) := by decide +kernel
theorem dL_law_371 : decode cL_law 371 = .ok (.iconst 0, 1) := by decide +kernel
theorem dL_law_372 : decode cL_law 372 = .ok (.ireturn, 1) := by decide +kernel
theorem dL_law_373 : decode cL_law 373 = .ok (.aload_n 1, 1) := by decide +kernel
theorem dL_law_374 : decode cL_law 374 = .ok (.aload_n 0, 1) := by decide +kernel
theorem dL_law_375 : decode cL_law 375 = .ok (.iload_n 3, 1) := by decide +kernel
theorem dL_law_376 : decode cL_law 376 = .ok (.iconst 1, 1) := by decide +kernel
theorem dL_law_377 : decode cL_law 377 = .ok (.iadd, 1) := by decide +kernel
theorem dL_law_378 : decode cL_law 378 = .ok (.iaload, 1) := by decide +kernel
theorem dL_law_379 : decode cL_law 379 = .ok (.aload_n 0, 1) := by decide +kernel
theorem dL_law_380 : decode cL_law 380 = .ok (.iload_n 3, 1) := by decide +kernel
theorem dL_law_381 : decode cL_law 381 = .ok (.iconst 2, 1) := by decide +kernel
theorem dL_law_382 : decode cL_law 382 = .ok (.iadd, 1) := by decide +kernel
theorem dL_law_383 : decode cL_law 383 = .ok (.iaload, 1) := by decide +kernel
theorem dL_law_384 : decode cL_law 384 = .ok (.invokevirtual 53, 3) := by decide +kernel
theorem dL_law_387 : decode cL_law 387 = .ok (.aload_n 2, 1) := by decide +kernel
theorem dL_law_388 : decode cL_law 388 = .ok (.aload_n 0, 1) := by decide +kernel
theorem dL_law_389 : decode cL_law 389 = .ok (.iload_n 3, 1) := by decide +kernel
theorem dL_law_390 : decode cL_law 390 = .ok (.iconst 1, 1) := by decide +kernel
theorem dL_law_391 : decode cL_law 391 = .ok (.iadd, 1) := by decide +kernel
theorem dL_law_392 : decode cL_law 392 = .ok (.iaload, 1) := by decide +kernel
theorem dL_law_393 : decode cL_law 393 = .ok (.aload_n 0, 1) := by decide +kernel
theorem dL_law_394 : decode cL_law 394 = .ok (.iload_n 3, 1) := by decide +kernel
theorem dL_law_395 : decode cL_law 395 = .ok (.iconst 2, 1) := by decide +kernel
theorem dL_law_396 : decode cL_law 396 = .ok (.iadd, 1) := by decide +kernel
theorem dL_law_397 : decode cL_law 397 = .ok (.iaload, 1) := by decide +kernel
theorem dL_law_398 : decode cL_law 398 = .ok (.invokevirtual 56, 3) := by decide +kernel
theorem dL_law_401 : decode cL_law 401 = .ok (.if_icmp .eq 529, 3) := by decide +kernel
theorem dL_law_404 : decode cL_law 404 = .ok (.iconst 0, 1) := by decide +kernel
theorem dL_law_405 : decode cL_law 405 = .ok (.ireturn, 1) := by decide +kernel
theorem dL_law_406 : decode cL_law 406 = .ok (.aload_n 1, 1) := by decide +kernel
theorem dL_law_407 : decode cL_law 407 = .ok (.aload_n 0, 1) := by decide +kernel
theorem dL_law_408 : decode cL_law 408 = .ok (.iload_n 3, 1) := by decide +kernel
theorem dL_law_409 : decode cL_law 409 = .ok (.iconst 1, 1) := by decide +kernel
theorem dL_law_410 : decode cL_law 410 = .ok (.iadd, 1) := by decide +kernel
theorem dL_law_411 : decode cL_law 411 = .ok (.iaload, 1) := by decide +kernel
theorem dL_law_412 : decode cL_law 412 = .ok (.invokevirtual 57, 3) := by decide +kernel
theorem dL_law_415 : decode cL_law 415 = .ok (.aload_n 2, 1) := by decide +kernel
theorem dL_law_416 : decode cL_law 416 = .ok (.aload_n 0, 1) := by decide +kernel
theorem dL_law_417 : decode cL_law 417 = .ok (.iload_n 3, 1) := by decide +kernel
theorem dL_law_418 : decode cL_law 418 = .ok (.iconst 1, 1) := by decide +kernel
theorem dL_law_419 : decode cL_law 419 = .ok (.iadd, 1) := by decide +kernel
theorem dL_law_420 : decode cL_law 420 = .ok (.iaload, 1) := by decide +kernel
theorem dL_law_421 : decode cL_law 421 = .ok (.invokevirtual 60, 3) := by decide +kernel
theorem dL_law_424 : decode cL_law 424 = .ok (.if_icmp .eq 506, 3) := by decide +kernel
theorem dL_law_427 : decode cL_law 427 = .ok (.iconst 0, 1) := by decide +kernel
theorem dL_law_428 : decode cL_law 428 = .ok (.ireturn, 1) := by decide +kernel
theorem dL_law_429 : decode cL_law 429 = .ok (.aload_n 1, 1) := by decide +kernel
theorem dL_law_430 : decode cL_law 430 = .ok (.invokevirtual 61, 3) := by decide +kernel
theorem dL_law_433 : decode cL_law 433 = .ok (.aload_n 2, 1) := by decide +kernel
theorem dL_law_434 : decode cL_law 434 = .ok (.invokevirtual 64, 3) := by decide +kernel
theorem dL_law_437 : decode cL_law 437 = .ok (.if_icmp .eq 493, 3) := by decide +kernel
theorem dL_law_440 : decode cL_law 440 = .ok (.iconst 0, 1) := by decide +kernel
theorem dL_law_441 : decode cL_law 441 = .ok (.ireturn, 1) := by decide +kernel
theorem dL_law_442 : decode cL_law 442 = .ok (.aload_n 1, 1) := by decide +kernel
theorem dL_law_443 : decode cL_law 443 = .ok (.invokevirtual 65, 3) := by decide +kernel
theorem dL_law_446 : decode cL_law 446 = .ok (.aload_n 2, 1) := by decide +kernel
theorem dL_law_447 : decode cL_law 447 = .ok (.invokevirtual 68, 3) := by decide +kernel
theorem dL_law_450 : decode cL_law 450 = .ok (.if_icmp .eq 480, 3) := by decide +kernel
theorem dL_law_453 : decode cL_law 453 = .ok (.iconst 0, 1) := by decide +kernel
theorem dL_law_454 : decode cL_law 454 = .ok (.ireturn, 1) := by decide +kernel
theorem dL_law_455 : decode cL_law 455 = .ok (.aload_n 1, 1) := by decide +kernel
theorem dL_law_456 : decode cL_law 456 = .ok (.aload_n 0, 1) := by decide +kernel
theorem dL_law_457 : decode cL_law 457 = .ok (.iload_n 3, 1) := by decide +kernel
theorem dL_law_458 : decode cL_law 458 = .ok (.iconst 1, 1) := by decide +kernel
theorem dL_law_459 : decode cL_law 459 = .ok (.iadd, 1) := by decide +kernel
theorem dL_law_460 : decode cL_law 460 = .ok (.iaload, 1) := by decide +kernel
theorem dL_law_461 : decode cL_law 461 = .ok (.invokevirtual 69, 3) := by decide +kernel
theorem dL_law_464 : decode cL_law 464 = .ok (.aload_n 2, 1) := by decide +kernel
theorem dL_law_465 : decode cL_law 465 = .ok (.aload_n 0, 1) := by decide +kernel
theorem dL_law_466 : decode cL_law 466 = .ok (.iload_n 3, 1) := by decide +kernel
theorem dL_law_467 : decode cL_law 467 = .ok (.iconst 1, 1) := by decide +kernel
theorem dL_law_468 : decode cL_law 468 = .ok (.iadd, 1) := by decide +kernel
theorem dL_law_469 : decode cL_law 469 = .ok (.iaload, 1) := by decide +kernel
theorem dL_law_470 : decode cL_law 470 = .ok (.invokevirtual 72, 3) := by decide +kernel
theorem dL_law_473 : decode cL_law 473 = .ok (.if_icmp .eq 457, 3) := by decide +kernel
theorem dL_law_476 : decode cL_law 476 = .ok (.iconst 0, 1) := by decide +kernel
theorem dL_law_477 : decode cL_law 477 = .ok (.ireturn, 1) := by decide +kernel
theorem dL_law_478 : decode cL_law 478 = .ok (.aload_n 1, 1) := by decide +kernel
theorem dL_law_479 : decode cL_law 479 = .ok (.aload_n 0, 1) := by decide +kernel
theorem dL_law_480 : decode cL_law 480 = .ok (.iload_n 3, 1) := by decide +kernel
theorem dL_law_481 : decode cL_law 481 = .ok (.iconst 1, 1) := by decide +kernel
theorem dL_law_482 : decode cL_law 482 = .ok (.iadd, 1) := by decide +kernel
theorem dL_law_483 : decode cL_law 483 = .ok (.iaload, 1) := by decide +kernel
theorem dL_law_484 : decode cL_law 484 = .ok (.aload_n 0, 1) := by decide +kernel
theorem dL_law_485 : decode cL_law 485 = .ok (.iload_n 3, 1) := by decide +kernel
theorem dL_law_486 : decode cL_law 486 = .ok (.iconst 2, 1) := by decide +kernel
theorem dL_law_487 : decode cL_law 487 = .ok (.iadd, 1) := by decide +kernel
theorem dL_law_488 : decode cL_law 488 = .ok (.iaload, 1) := by decide +kernel
theorem dL_law_489 : decode cL_law 489 = .ok (.invokevirtual 73, 3) := by decide +kernel
theorem dL_law_492 : decode cL_law 492 = .ok (.aload_n 2, 1) := by decide +kernel
theorem dL_law_493 : decode cL_law 493 = .ok (.aload_n 0, 1) := by decide +kernel
theorem dL_law_494 : decode cL_law 494 = .ok (.iload_n 3, 1) := by decide +kernel
theorem dL_law_495 : decode cL_law 495 = .ok (.iconst 1, 1) := by decide +kernel
theorem dL_law_496 : decode cL_law 496 = .ok (.iadd, 1) := by decide +kernel
theorem dL_law_497 : decode cL_law 497 = .ok (.iaload, 1) := by decide +kernel
theorem dL_law_498 : decode cL_law 498 = .ok (.aload_n 0, 1) := by decide +kernel
theorem dL_law_499 : decode cL_law 499 = .ok (.iload_n 3, 1) := by decide +kernel
theorem dL_law_500 : decode cL_law 500 = .ok (.iconst 2, 1) := by decide +kernel
theorem dL_law_501 : decode cL_law 501 = .ok (.iadd, 1) := by decide +kernel
theorem dL_law_502 : decode cL_law 502 = .ok (.iaload, 1) := by decide +kernel
theorem dL_law_503 : decode cL_law 503 = .ok (.invokevirtual 76, 3) := by decide +kernel
theorem dL_law_506 : decode cL_law 506 = .ok (.if_icmp .eq 424, 3) := by decide +kernel
theorem dL_law_509 : decode cL_law 509 = .ok (.iconst 0, 1) := by decide +kernel
theorem dL_law_510 : decode cL_law 510 = .ok (.ireturn, 1) := by decide +kernel
theorem dL_law_511 : decode cL_law 511 = .ok (.aload_n 1, 1) := by decide +kernel
theorem dL_law_512 : decode cL_law 512 = .ok (.aload_n 0, 1) := by decide +kernel
theorem dL_law_513 : decode cL_law 513 = .ok (.iload_n 3, 1) := by decide +kernel
theorem dL_law_514 : decode cL_law 514 = .ok (.iconst 1, 1) := by decide +kernel
theorem dL_law_515 : decode cL_law 515 = .ok (.iadd, 1) := by decide +kernel
theorem dL_law_516 : decode cL_law 516 = .ok (.iaload, 1) := by decide +kernel
theorem dL_law_517 : decode cL_law 517 = .ok (.aload_n 0, 1) := by decide +kernel
theorem dL_law_518 : decode cL_law 518 = .ok (.iload_n 3, 1) := by decide +kernel
theorem dL_law_519 : decode cL_law 519 = .ok (.iconst 2, 1) := by decide +kernel
theorem dL_law_520 : decode cL_law 520 = .ok (.iadd, 1) := by decide +kernel
theorem dL_law_521 : decode cL_law 521 = .ok (.iaload, 1) := by decide +kernel
theorem dL_law_522 : decode cL_law 522 = .ok (.aload_n 0, 1) := by decide +kernel
theorem dL_law_523 : decode cL_law 523 = .ok (.iload_n 3, 1) := by decide +kernel
theorem dL_law_524 : decode cL_law 524 = .ok (.iconst 3, 1) := by decide +kernel
theorem dL_law_525 : decode cL_law 525 = .ok (.iadd, 1) := by decide +kernel
theorem dL_law_526 : decode cL_law 526 = .ok (.iaload, 1) := by decide +kernel
theorem dL_law_527 : decode cL_law 527 = .ok (.invokevirtual 77, 3) := by decide +kernel
theorem dL_law_530 : decode cL_law 530 = .ok (.aload_n 2, 1) := by decide +kernel
theorem dL_law_531 : decode cL_law 531 = .ok (.aload_n 0, 1) := by decide +kernel
theorem dL_law_532 : decode cL_law 532 = .ok (.iload_n 3, 1) := by decide +kernel
theorem dL_law_533 : decode cL_law 533 = .ok (.iconst 1, 1) := by decide +kernel
theorem dL_law_534 : decode cL_law 534 = .ok (.iadd, 1) := by decide +kernel
theorem dL_law_535 : decode cL_law 535 = .ok (.iaload, 1) := by decide +kernel
theorem dL_law_536 : decode cL_law 536 = .ok (.aload_n 0, 1) := by decide +kernel
theorem dL_law_537 : decode cL_law 537 = .ok (.iload_n 3, 1) := by decide +kernel
theorem dL_law_538 : decode cL_law 538 = .ok (.iconst 2, 1) := by decide +kernel
theorem dL_law_539 : decode cL_law 539 = .ok (.iadd, 1) := by decide +kernel
theorem dL_law_540 : decode cL_law 540 = .ok (.iaload, 1) := by decide +kernel
theorem dL_law_541 : decode cL_law 541 = .ok (.aload_n 0, 1) := by decide +kernel
theorem dL_law_542 : decode cL_law 542 = .ok (.iload_n 3, 1) := by decide +kernel
theorem dL_law_543 : decode cL_law 543 = .ok (.iconst 3, 1) := by decide +kernel
theorem dL_law_544 : decode cL_law 544 = .ok (.iadd, 1) := by decide +kernel
theorem dL_law_545 : decode cL_law 545 = .ok (.iaload, 1) := by decide +kernel
theorem dL_law_546 : decode cL_law 546 = .ok (.invokevirtual 80, 3) := by decide +kernel
theorem dL_law_549 : decode cL_law 549 = .ok (.if_icmp .eq 381, 3) := by decide +kernel
theorem dL_law_552 : decode cL_law 552 = .ok (.iconst 0, 1) := by decide +kernel
theorem dL_law_553 : decode cL_law 553 = .ok (.ireturn, 1) := by decide +kernel
theorem dL_law_554 : decode cL_law 554 = .ok (.aload_n 1, 1) := by decide +kernel
theorem dL_law_555 : decode cL_law 555 = .ok (.aload_n 0, 1) := by decide +kernel
theorem dL_law_556 : decode cL_law 556 = .ok (.iload_n 3, 1) := by decide +kernel
theorem dL_law_557 : decode cL_law 557 = .ok (.iconst 1, 1) := by decide +kernel
theorem dL_law_558 : decode cL_law 558 = .ok (.iadd, 1) := by decide +kernel
theorem dL_law_559 : decode cL_law 559 = .ok (.iaload, 1) := by decide +kernel
theorem dL_law_560 : decode cL_law 560 = .ok (.aload_n 0, 1) := by decide +kernel
theorem dL_law_561 : decode cL_law 561 = .ok (.iload_n 3, 1) := by decide +kernel
theorem dL_law_562 : decode cL_law 562 = .ok (.iconst 2, 1) := by decide +kernel
theorem dL_law_563 : decode cL_law 563 = .ok (.iadd, 1) := by decide +kernel
theorem dL_law_564 : decode cL_law 564 = .ok (.iaload, 1) := by decide +kernel
theorem dL_law_565 : decode cL_law 565 = .ok (.invokevirtual 81, 3) := by decide +kernel
theorem dL_law_568 : decode cL_law 568 = .ok (.aload_n 2, 1) := by decide +kernel
theorem dL_law_569 : decode cL_law 569 = .ok (.aload_n 0, 1) := by decide +kernel
theorem dL_law_570 : decode cL_law 570 = .ok (.iload_n 3, 1) := by decide +kernel
theorem dL_law_571 : decode cL_law 571 = .ok (.iconst 1, 1) := by decide +kernel
theorem dL_law_572 : decode cL_law 572 = .ok (.iadd, 1) := by decide +kernel
theorem dL_law_573 : decode cL_law 573 = .ok (.iaload, 1) := by decide +kernel
theorem dL_law_574 : decode cL_law 574 = .ok (.aload_n 0, 1) := by decide +kernel
theorem dL_law_575 : decode cL_law 575 = .ok (.iload_n 3, 1) := by decide +kernel
theorem dL_law_576 : decode cL_law 576 = .ok (.iconst 2, 1) := by decide +kernel
theorem dL_law_577 : decode cL_law 577 = .ok (.iadd, 1) := by decide +kernel
theorem dL_law_578 : decode cL_law 578 = .ok (.iaload, 1) := by decide +kernel
theorem dL_law_579 : decode cL_law 579 = .ok (.invokevirtual 84, 3) := by decide +kernel
theorem dL_law_582 : decode cL_law 582 = .ok (.if_icmp .eq 348, 3) := by decide +kernel
theorem dL_law_585 : decode cL_law 585 = .ok (.iconst 0, 1) := by decide +kernel
theorem dL_law_586 : decode cL_law 586 = .ok (.ireturn, 1) := by decide +kernel
theorem dL_law_587 : decode cL_law 587 = .ok (.aload_n 1, 1) := by decide +kernel
theorem dL_law_588 : decode cL_law 588 = .ok (.aload_n 0, 1) := by decide +kernel
theorem dL_law_589 : decode cL_law 589 = .ok (.iload_n 3, 1) := by decide +kernel
theorem dL_law_590 : decode cL_law 590 = .ok (.iconst 1, 1) := by decide +kernel
theorem dL_law_591 : decode cL_law 591 = .ok (.iadd, 1) := by decide +kernel
theorem dL_law_592 : decode cL_law 592 = .ok (.iaload, 1) := by decide +kernel
theorem dL_law_593 : decode cL_law 593 = .ok (.aload_n 0, 1) := by decide +kernel
theorem dL_law_594 : decode cL_law 594 = .ok (.iload_n 3, 1) := by decide +kernel
theorem dL_law_595 : decode cL_law 595 = .ok (.iconst 2, 1) := by decide +kernel
theorem dL_law_596 : decode cL_law 596 = .ok (.iadd, 1) := by decide +kernel
theorem dL_law_597 : decode cL_law 597 = .ok (.iaload, 1) := by decide +kernel
theorem dL_law_598 : decode cL_law 598 = .ok (.aload_n 0, 1) := by decide +kernel
theorem dL_law_599 : decode cL_law 599 = .ok (.iload_n 3, 1) := by decide +kernel
theorem dL_law_600 : decode cL_law 600 = .ok (.iconst 3, 1) := by decide +kernel
theorem dL_law_601 : decode cL_law 601 = .ok (.iadd, 1) := by decide +kernel
theorem dL_law_602 : decode cL_law 602 = .ok (.iaload, 1) := by decide +kernel
theorem dL_law_603 : decode cL_law 603 = .ok (.ifCond .eq 7, 3) := by decide +kernel
theorem dL_law_606 : decode cL_law 606 = .ok (.iconst 1, 1) := by decide +kernel
theorem dL_law_607 : decode cL_law 607 = .ok (.goto 4, 3) := by decide +kernel
theorem dL_law_610 : decode cL_law 610 = .ok (.iconst 0, 1) := by decide +kernel
theorem dL_law_611 : decode cL_law 611 = .ok (.invokevirtual 85, 3) := by decide +kernel
theorem dL_law_614 : decode cL_law 614 = .ok (.aload_n 2, 1) := by decide +kernel
theorem dL_law_615 : decode cL_law 615 = .ok (.aload_n 0, 1) := by decide +kernel
theorem dL_law_616 : decode cL_law 616 = .ok (.iload_n 3, 1) := by decide +kernel
theorem dL_law_617 : decode cL_law 617 = .ok (.iconst 1, 1) := by decide +kernel
theorem dL_law_618 : decode cL_law 618 = .ok (.iadd, 1) := by decide +kernel
theorem dL_law_619 : decode cL_law 619 = .ok (.iaload, 1) := by decide +kernel
theorem dL_law_620 : decode cL_law 620 = .ok (.aload_n 0, 1) := by decide +kernel
theorem dL_law_621 : decode cL_law 621 = .ok (.iload_n 3, 1) := by decide +kernel
theorem dL_law_622 : decode cL_law 622 = .ok (.iconst 2, 1) := by decide +kernel
theorem dL_law_623 : decode cL_law 623 = .ok (.iadd, 1) := by decide +kernel
theorem dL_law_624 : decode cL_law 624 = .ok (.iaload, 1) := by decide +kernel
theorem dL_law_625 : decode cL_law 625 = .ok (.aload_n 0, 1) := by decide +kernel
theorem dL_law_626 : decode cL_law 626 = .ok (.iload_n 3, 1) := by decide +kernel
theorem dL_law_627 : decode cL_law 627 = .ok (.iconst 3, 1) := by decide +kernel
theorem dL_law_628 : decode cL_law 628 = .ok (.iadd, 1) := by decide +kernel
theorem dL_law_629 : decode cL_law 629 = .ok (.iaload, 1) := by decide +kernel
theorem dL_law_630 : decode cL_law 630 = .ok (.ifCond .eq 7, 3) := by decide +kernel
theorem dL_law_633 : decode cL_law 633 = .ok (.iconst 1, 1) := by decide +kernel
theorem dL_law_634 : decode cL_law 634 = .ok (.goto 4, 3) := by decide +kernel
theorem dL_law_637 : decode cL_law 637 = .ok (.iconst 0, 1) := by decide +kernel
theorem dL_law_638 : decode cL_law 638 = .ok (.invokevirtual 89, 3) := by decide +kernel
theorem dL_law_641 : decode cL_law 641 = .ok (.if_icmp .eq 289, 3) := by decide +kernel
theorem dL_law_644 : decode cL_law 644 = .ok (.iconst 0, 1) := by decide +kernel
theorem dL_law_645 : decode cL_law 645 = .ok (.ireturn, 1) := by decide +kernel
theorem dL_law_646 : decode cL_law 646 = .ok (.aload_n 1, 1) := by decide +kernel
theorem dL_law_647 : decode cL_law 647 = .ok (.aload_n 0, 1) := by decide +kernel
theorem dL_law_648 : decode cL_law 648 = .ok (.iload_n 3, 1) := by decide +kernel
theorem dL_law_649 : decode cL_law 649 = .ok (.iconst 1, 1) := by decide +kernel
theorem dL_law_650 : decode cL_law 650 = .ok (.iadd, 1) := by decide +kernel
theorem dL_law_651 : decode cL_law 651 = .ok (.iaload, 1) := by decide +kernel
theorem dL_law_652 : decode cL_law 652 = .ok (.aload_n 0, 1) := by decide +kernel
theorem dL_law_653 : decode cL_law 653 = .ok (.iload_n 3, 1) := by decide +kernel
theorem dL_law_654 : decode cL_law 654 = .ok (.iconst 2, 1) := by decide +kernel
theorem dL_law_655 : decode cL_law 655 = .ok (.iadd, 1) := by decide +kernel
theorem dL_law_656 : decode cL_law 656 = .ok (.iaload, 1) := by decide +kernel
theorem dL_law_657 : decode cL_law 657 = .ok (.invokevirtual 90, 3) := by decide +kernel
theorem dL_law_660 : decode cL_law 660 = .ok (.aload_n 2, 1) := by decide +kernel
theorem dL_law_661 : decode cL_law 661 = .ok (.aload_n 0, 1) := by decide +kernel
theorem dL_law_662 : decode cL_law 662 = .ok (.iload_n 3, 1) := by decide +kernel
theorem dL_law_663 : decode cL_law 663 = .ok (.iconst 1, 1) := by decide +kernel
theorem dL_law_664 : decode cL_law 664 = .ok (.iadd, 1) := by decide +kernel
theorem dL_law_665 : decode cL_law 665 = .ok (.iaload, 1) := by decide +kernel
theorem dL_law_666 : decode cL_law 666 = .ok (.aload_n 0, 1) := by decide +kernel
theorem dL_law_667 : decode cL_law 667 = .ok (.iload_n 3, 1) := by decide +kernel
theorem dL_law_668 : decode cL_law 668 = .ok (.iconst 2, 1) := by decide +kernel
theorem dL_law_669 : decode cL_law 669 = .ok (.iadd, 1) := by decide +kernel
theorem dL_law_670 : decode cL_law 670 = .ok (.iaload, 1) := by decide +kernel
theorem dL_law_671 : decode cL_law 671 = .ok (.invokevirtual 93, 3) := by decide +kernel
theorem dL_law_674 : decode cL_law 674 = .ok (.if_icmp .eq 256, 3) := by decide +kernel
theorem dL_law_677 : decode cL_law 677 = .ok (.iconst 0, 1) := by decide +kernel
theorem dL_law_678 : decode cL_law 678 = .ok (.ireturn, 1) := by decide +kernel
theorem dL_law_679 : decode cL_law 679 = .ok (.aload_n 1, 1) := by decide +kernel
theorem dL_law_680 : decode cL_law 680 = .ok (.invokevirtual 94, 3) := by decide +kernel
theorem dL_law_683 : decode cL_law 683 = .ok (.aload_n 2, 1) := by decide +kernel
theorem dL_law_684 : decode cL_law 684 = .ok (.invokevirtual 97, 3) := by decide +kernel
theorem dL_law_687 : decode cL_law 687 = .ok (.if_icmp .eq 243, 3) := by decide +kernel
theorem dL_law_690 : decode cL_law 690 = .ok (.iconst 0, 1) := by decide +kernel
theorem dL_law_691 : decode cL_law 691 = .ok (.ireturn, 1) := by decide +kernel
theorem dL_law_692 : decode cL_law 692 = .ok (.aload_n 1, 1) := by decide +kernel
theorem dL_law_693 : decode cL_law 693 = .ok (.aload_n 0, 1) := by decide +kernel
theorem dL_law_694 : decode cL_law 694 = .ok (.iload_n 3, 1) := by decide +kernel
theorem dL_law_695 : decode cL_law 695 = .ok (.iconst 1, 1) := by decide +kernel
theorem dL_law_696 : decode cL_law 696 = .ok (.iadd, 1) := by decide +kernel
theorem dL_law_697 : decode cL_law 697 = .ok (.iaload, 1) := by decide +kernel
theorem dL_law_698 : decode cL_law 698 = .ok (.invokevirtual 98, 3) := by decide +kernel
theorem dL_law_701 : decode cL_law 701 = .ok (.aload_n 2, 1) := by decide +kernel
theorem dL_law_702 : decode cL_law 702 = .ok (.aload_n 0, 1) := by decide +kernel
theorem dL_law_703 : decode cL_law 703 = .ok (.iload_n 3, 1) := by decide +kernel
theorem dL_law_704 : decode cL_law 704 = .ok (.iconst 1, 1) := by decide +kernel
theorem dL_law_705 : decode cL_law 705 = .ok (.iadd, 1) := by decide +kernel
theorem dL_law_706 : decode cL_law 706 = .ok (.iaload, 1) := by decide +kernel
theorem dL_law_707 : decode cL_law 707 = .ok (.invokevirtual 101, 3) := by decide +kernel
theorem dL_law_710 : decode cL_law 710 = .ok (.if_icmp .eq 220, 3) := by decide +kernel
theorem dL_law_713 : decode cL_law 713 = .ok (.iconst 0, 1) := by decide +kernel
theorem dL_law_714 : decode cL_law 714 = .ok (.ireturn, 1) := by decide +kernel
theorem dL_law_715 : decode cL_law 715 = .ok (.aload_n 1, 1) := by decide +kernel
theorem dL_law_716 : decode cL_law 716 = .ok (.aload_n 0, 1) := by decide +kernel
theorem dL_law_717 : decode cL_law 717 = .ok (.iload_n 3, 1) := by decide +kernel
theorem dL_law_718 : decode cL_law 718 = .ok (.iconst 1, 1) := by decide +kernel
theorem dL_law_719 : decode cL_law 719 = .ok (.iadd, 1) := by decide +kernel
theorem dL_law_720 : decode cL_law 720 = .ok (.iaload, 1) := by decide +kernel
theorem dL_law_721 : decode cL_law 721 = .ok (.invokevirtual 102, 3) := by decide +kernel
theorem dL_law_724 : decode cL_law 724 = .ok (.aload_n 2, 1) := by decide +kernel
theorem dL_law_725 : decode cL_law 725 = .ok (.aload_n 0, 1) := by decide +kernel
theorem dL_law_726 : decode cL_law 726 = .ok (.iload_n 3, 1) := by decide +kernel
theorem dL_law_727 : decode cL_law 727 = .ok (.iconst 1, 1) := by decide +kernel
theorem dL_law_728 : decode cL_law 728 = .ok (.iadd, 1) := by decide +kernel
theorem dL_law_729 : decode cL_law 729 = .ok (.iaload, 1) := by decide +kernel
theorem dL_law_730 : decode cL_law 730 = .ok (.invokevirtual 105, 3) := by decide +kernel
theorem dL_law_733 : decode cL_law 733 = .ok (.if_icmp .eq 197, 3) := by decide +kernel
theorem dL_law_736 : decode cL_law 736 = .ok (.iconst 0, 1) := by decide +kernel
theorem dL_law_737 : decode cL_law 737 = .ok (.ireturn, 1) := by decide +kernel
theorem dL_law_738 : decode cL_law 738 = .ok (.aload_n 1, 1) := by decide +kernel
theorem dL_law_739 : decode cL_law 739 = .ok (.aload_n 0, 1) := by decide +kernel
theorem dL_law_740 : decode cL_law 740 = .ok (.iload_n 3, 1) := by decide +kernel
theorem dL_law_741 : decode cL_law 741 = .ok (.iconst 1, 1) := by decide +kernel
theorem dL_law_742 : decode cL_law 742 = .ok (.iadd, 1) := by decide +kernel
theorem dL_law_743 : decode cL_law 743 = .ok (.iaload, 1) := by decide +kernel
theorem dL_law_744 : decode cL_law 744 = .ok (.aload_n 0, 1) := by decide +kernel
theorem dL_law_745 : decode cL_law 745 = .ok (.iload_n 3, 1) := by decide +kernel
theorem dL_law_746 : decode cL_law 746 = .ok (.iconst 2, 1) := by decide +kernel
theorem dL_law_747 : decode cL_law 747 = .ok (.iadd, 1) := by decide +kernel
theorem dL_law_748 : decode cL_law 748 = .ok (.iaload, 1) := by decide +kernel
theorem dL_law_749 : decode cL_law 749 = .ok (.aload_n 0, 1) := by decide +kernel
theorem dL_law_750 : decode cL_law 750 = .ok (.iload_n 3, 1) := by decide +kernel
theorem dL_law_751 : decode cL_law 751 = .ok (.iconst 3, 1) := by decide +kernel
theorem dL_law_752 : decode cL_law 752 = .ok (.iadd, 1) := by decide +kernel
theorem dL_law_753 : decode cL_law 753 = .ok (.iaload, 1) := by decide +kernel
theorem dL_law_754 : decode cL_law 754 = .ok (.aload_n 0, 1) := by decide +kernel
theorem dL_law_755 : decode cL_law 755 = .ok (.iload_n 3, 1) := by decide +kernel
theorem dL_law_756 : decode cL_law 756 = .ok (.iconst 4, 1) := by decide +kernel
theorem dL_law_757 : decode cL_law 757 = .ok (.iadd, 1) := by decide +kernel
theorem dL_law_758 : decode cL_law 758 = .ok (.iaload, 1) := by decide +kernel
theorem dL_law_759 : decode cL_law 759 = .ok (.ifCond .eq 7, 3) := by decide +kernel
theorem dL_law_762 : decode cL_law 762 = .ok (.iconst 1, 1) := by decide +kernel
theorem dL_law_763 : decode cL_law 763 = .ok (.goto 4, 3) := by decide +kernel
theorem dL_law_766 : decode cL_law 766 = .ok (.iconst 0, 1) := by decide +kernel
theorem dL_law_767 : decode cL_law 767 = .ok (.invokevirtual 106, 3) := by decide +kernel
theorem dL_law_770 : decode cL_law 770 = .ok (.aload_n 2, 1) := by decide +kernel
theorem dL_law_771 : decode cL_law 771 = .ok (.aload_n 0, 1) := by decide +kernel
theorem dL_law_772 : decode cL_law 772 = .ok (.iload_n 3, 1) := by decide +kernel
theorem dL_law_773 : decode cL_law 773 = .ok (.iconst 1, 1) := by decide +kernel
theorem dL_law_774 : decode cL_law 774 = .ok (.iadd, 1) := by decide +kernel
theorem dL_law_775 : decode cL_law 775 = .ok (.iaload, 1) := by decide +kernel
theorem dL_law_776 : decode cL_law 776 = .ok (.aload_n 0, 1) := by decide +kernel
theorem dL_law_777 : decode cL_law 777 = .ok (.iload_n 3, 1) := by decide +kernel
theorem dL_law_778 : decode cL_law 778 = .ok (.iconst 2, 1) := by decide +kernel
theorem dL_law_779 : decode cL_law 779 = .ok (.iadd, 1) := by decide +kernel
theorem dL_law_780 : decode cL_law 780 = .ok (.iaload, 1) := by decide +kernel
theorem dL_law_781 : decode cL_law 781 = .ok (.aload_n 0, 1) := by decide +kernel
theorem dL_law_782 : decode cL_law 782 = .ok (.iload_n 3, 1) := by decide +kernel
theorem dL_law_783 : decode cL_law 783 = .ok (.iconst 3, 1) := by decide +kernel
theorem dL_law_784 : decode cL_law 784 = .ok (.iadd, 1) := by decide +kernel
theorem dL_law_785 : decode cL_law 785 = .ok (.iaload, 1) := by decide +kernel
theorem dL_law_786 : decode cL_law 786 = .ok (.aload_n 0, 1) := by decide +kernel
theorem dL_law_787 : decode cL_law 787 = .ok (.iload_n 3, 1) := by decide +kernel
theorem dL_law_788 : decode cL_law 788 = .ok (.iconst 4, 1) := by decide +kernel
theorem dL_law_789 : decode cL_law 789 = .ok (.iadd, 1) := by decide +kernel
theorem dL_law_790 : decode cL_law 790 = .ok (.iaload, 1) := by decide +kernel
theorem dL_law_791 : decode cL_law 791 = .ok (.ifCond .eq 7, 3) := by decide +kernel
theorem dL_law_794 : decode cL_law 794 = .ok (.iconst 1, 1) := by decide +kernel
theorem dL_law_795 : decode cL_law 795 = .ok (.goto 4, 3) := by decide +kernel
theorem dL_law_798 : decode cL_law 798 = .ok (.iconst 0, 1) := by decide +kernel
theorem dL_law_799 : decode cL_law 799 = .ok (.invokevirtual 110, 3) := by decide +kernel
theorem dL_law_802 : decode cL_law 802 = .ok (.if_icmp .eq 128, 3) := by decide +kernel
theorem dL_law_805 : decode cL_law 805 = .ok (.iconst 0, 1) := by decide +kernel
theorem dL_law_806 : decode cL_law 806 = .ok (.ireturn, 1) := by decide +kernel
theorem dL_law_807 : decode cL_law 807 = .ok (.aload_n 1, 1) := by decide +kernel
theorem dL_law_808 : decode cL_law 808 = .ok (.aload_n 0, 1) := by decide +kernel
theorem dL_law_809 : decode cL_law 809 = .ok (.iload_n 3, 1) := by decide +kernel
theorem dL_law_810 : decode cL_law 810 = .ok (.iconst 1, 1) := by decide +kernel
theorem dL_law_811 : decode cL_law 811 = .ok (.iadd, 1) := by decide +kernel
theorem dL_law_812 : decode cL_law 812 = .ok (.iaload, 1) := by decide +kernel
theorem dL_law_813 : decode cL_law 813 = .ok (.i2l, 1) := by decide +kernel
theorem dL_law_814 : decode cL_law 814 = .ok (.bipush 32, 2) := by decide +kernel
theorem dL_law_816 : decode cL_law 816 = .ok (.lshl, 1) := by decide +kernel
theorem dL_law_817 : decode cL_law 817 = .ok (.aload_n 0, 1) := by decide +kernel
theorem dL_law_818 : decode cL_law 818 = .ok (.iload_n 3, 1) := by decide +kernel
theorem dL_law_819 : decode cL_law 819 = .ok (.iconst 2, 1) := by decide +kernel
theorem dL_law_820 : decode cL_law 820 = .ok (.iadd, 1) := by decide +kernel
theorem dL_law_821 : decode cL_law 821 = .ok (.iaload, 1) := by decide +kernel
theorem dL_law_822 : decode cL_law 822 = .ok (.i2l, 1) := by decide +kernel
theorem dL_law_823 : decode cL_law 823 = .ok (.ldc2_w 111, 3) := by decide +kernel
theorem dL_law_826 : decode cL_law 826 = .ok (.land, 1) := by decide +kernel
theorem dL_law_827 : decode cL_law 827 = .ok (.lor, 1) := by decide +kernel
theorem dL_law_828 : decode cL_law 828 = .ok (.invokevirtual 113, 3) := by decide +kernel
theorem dL_law_831 : decode cL_law 831 = .ok (.aload_n 2, 1) := by decide +kernel
theorem dL_law_832 : decode cL_law 832 = .ok (.aload_n 0, 1) := by decide +kernel
theorem dL_law_833 : decode cL_law 833 = .ok (.iload_n 3, 1) := by decide +kernel
theorem dL_law_834 : decode cL_law 834 = .ok (.iconst 1, 1) := by decide +kernel
theorem dL_law_835 : decode cL_law 835 = .ok (.iadd, 1) := by decide +kernel
theorem dL_law_836 : decode cL_law 836 = .ok (.iaload, 1) := by decide +kernel
theorem dL_law_837 : decode cL_law 837 = .ok (.i2l, 1) := by decide +kernel
theorem dL_law_838 : decode cL_law 838 = .ok (.bipush 32, 2) := by decide +kernel
theorem dL_law_840 : decode cL_law 840 = .ok (.lshl, 1) := by decide +kernel
theorem dL_law_841 : decode cL_law 841 = .ok (.aload_n 0, 1) := by decide +kernel
theorem dL_law_842 : decode cL_law 842 = .ok (.iload_n 3, 1) := by decide +kernel
theorem dL_law_843 : decode cL_law 843 = .ok (.iconst 2, 1) := by decide +kernel
theorem dL_law_844 : decode cL_law 844 = .ok (.iadd, 1) := by decide +kernel
theorem dL_law_845 : decode cL_law 845 = .ok (.iaload, 1) := by decide +kernel
theorem dL_law_846 : decode cL_law 846 = .ok (.i2l, 1) := by decide +kernel
theorem dL_law_847 : decode cL_law 847 = .ok (.ldc2_w 111, 3) := by decide +kernel
theorem dL_law_850 : decode cL_law 850 = .ok (.land, 1) := by decide +kernel
theorem dL_law_851 : decode cL_law 851 = .ok (.lor, 1) := by decide +kernel
theorem dL_law_852 : decode cL_law 852 = .ok (.invokevirtual 117, 3) := by decide +kernel
theorem dL_law_855 : decode cL_law 855 = .ok (.lcmp, 1) := by decide +kernel
theorem dL_law_856 : decode cL_law 856 = .ok (.ifCond .eq 74, 3) := by decide +kernel
theorem dL_law_859 : decode cL_law 859 = .ok (.iconst 0, 1) := by decide +kernel
theorem dL_law_860 : decode cL_law 860 = .ok (.ireturn, 1) := by decide +kernel
theorem dL_law_861 : decode cL_law 861 = .ok (.aload_n 1, 1) := by decide +kernel
theorem dL_law_862 : decode cL_law 862 = .ok (.aload_n 0, 1) := by decide +kernel
theorem dL_law_863 : decode cL_law 863 = .ok (.iload_n 3, 1) := by decide +kernel
theorem dL_law_864 : decode cL_law 864 = .ok (.iconst 1, 1) := by decide +kernel
theorem dL_law_865 : decode cL_law 865 = .ok (.iadd, 1) := by decide +kernel
theorem dL_law_866 : decode cL_law 866 = .ok (.iaload, 1) := by decide +kernel
theorem dL_law_867 : decode cL_law 867 = .ok (.invokevirtual 118, 3) := by decide +kernel
theorem dL_law_870 : decode cL_law 870 = .ok (.aload_n 2, 1) := by decide +kernel
theorem dL_law_871 : decode cL_law 871 = .ok (.aload_n 0, 1) := by decide +kernel
theorem dL_law_872 : decode cL_law 872 = .ok (.iload_n 3, 1) := by decide +kernel
theorem dL_law_873 : decode cL_law 873 = .ok (.iconst 1, 1) := by decide +kernel
theorem dL_law_874 : decode cL_law 874 = .ok (.iadd, 1) := by decide +kernel
theorem dL_law_875 : decode cL_law 875 = .ok (.iaload, 1) := by decide +kernel
theorem dL_law_876 : decode cL_law 876 = .ok (.invokevirtual 121, 3) := by decide +kernel
theorem dL_law_879 : decode cL_law 879 = .ok (.if_icmp .eq 51, 3) := by decide +kernel
theorem dL_law_882 : decode cL_law 882 = .ok (.iconst 0, 1) := by decide +kernel
theorem dL_law_883 : decode cL_law 883 = .ok (.ireturn, 1) := by decide +kernel
theorem dL_law_884 : decode cL_law 884 = .ok (.aload_n 1, 1) := by decide +kernel
theorem dL_law_885 : decode cL_law 885 = .ok (.aload_n 0, 1) := by decide +kernel
theorem dL_law_886 : decode cL_law 886 = .ok (.iload_n 3, 1) := by decide +kernel
theorem dL_law_887 : decode cL_law 887 = .ok (.iconst 1, 1) := by decide +kernel
theorem dL_law_888 : decode cL_law 888 = .ok (.iadd, 1) := by decide +kernel
theorem dL_law_889 : decode cL_law 889 = .ok (.iaload, 1) := by decide +kernel
theorem dL_law_890 : decode cL_law 890 = .ok (.invokevirtual 122, 3) := by decide +kernel
theorem dL_law_893 : decode cL_law 893 = .ok (.aload_n 2, 1) := by decide +kernel
theorem dL_law_894 : decode cL_law 894 = .ok (.aload_n 0, 1) := by decide +kernel
theorem dL_law_895 : decode cL_law 895 = .ok (.iload_n 3, 1) := by decide +kernel
theorem dL_law_896 : decode cL_law 896 = .ok (.iconst 1, 1) := by decide +kernel
theorem dL_law_897 : decode cL_law 897 = .ok (.iadd, 1) := by decide +kernel
theorem dL_law_898 : decode cL_law 898 = .ok (.iaload, 1) := by decide +kernel
theorem dL_law_899 : decode cL_law 899 = .ok (.invokevirtual 125, 3) := by decide +kernel
theorem dL_law_902 : decode cL_law 902 = .ok (.if_icmp .eq 28, 3) := by decide +kernel
theorem dL_law_905 : decode cL_law 905 = .ok (.iconst 0, 1) := by decide +kernel
theorem dL_law_906 : decode cL_law 906 = .ok (.ireturn, 1) := by decide +kernel
theorem dL_law_907 : decode cL_law 907 = .ok (.aload_n 1, 1) := by decide +kernel
theorem dL_law_908 : decode cL_law 908 = .ok (.aload_n 0, 1) := by decide +kernel
theorem dL_law_909 : decode cL_law 909 = .ok (.iload_n 3, 1) := by decide +kernel
theorem dL_law_910 : decode cL_law 910 = .ok (.iconst 1, 1) := by decide +kernel
theorem dL_law_911 : decode cL_law 911 = .ok (.iadd, 1) := by decide +kernel
theorem dL_law_912 : decode cL_law 912 = .ok (.iaload, 1) := by decide +kernel
theorem dL_law_913 : decode cL_law 913 = .ok (.invokevirtual 126, 3) := by decide +kernel
theorem dL_law_916 : decode cL_law 916 = .ok (.aload_n 2, 1) := by decide +kernel
theorem dL_law_917 : decode cL_law 917 = .ok (.aload_n 0, 1) := by decide +kernel
theorem dL_law_918 : decode cL_law 918 = .ok (.iload_n 3, 1) := by decide +kernel
theorem dL_law_919 : decode cL_law 919 = .ok (.iconst 1, 1) := by decide +kernel
theorem dL_law_920 : decode cL_law 920 = .ok (.iadd, 1) := by decide +kernel
theorem dL_law_921 : decode cL_law 921 = .ok (.iaload, 1) := by decide +kernel
theorem dL_law_922 : decode cL_law 922 = .ok (.invokevirtual 129, 3) := by decide +kernel
theorem dL_law_925 : decode cL_law 925 = .ok (.if_icmp .eq 5, 3) := by decide +kernel
theorem dL_law_928 : decode cL_law 928 = .ok (.iconst 0, 1) := by decide +kernel
theorem dL_law_929 : decode cL_law 929 = .ok (.ireturn, 1) := by decide +kernel
theorem dL_law_930 : decode cL_law 930 = .ok (.iinc 3 5, 3) := by decide +kernel
theorem dL_law_933 : decode cL_law 933 = .ok (.goto (-915), 3) := by decide +kernel
theorem dL_law_936 : decode cL_law 936 = .ok (.iconst 1, 1) := by decide +kernel
theorem dL_law_937 : decode cL_law 937 = .ok (.ireturn, 1) := by decide +kernel
