theorem dX0_hourOfDay_0 : decode cX0_hourOfDay 0 = .ok (.iload_n 0, 1) := by decide +kernel
theorem dX0_hourOfDay_1 : decode cX0_hourOfDay 1 = .ok (.bipush 24, 2) := by decide +kernel
theorem dX0_hourOfDay_3 : decode cX0_hourOfDay 3 = .ok (.irem, 1) := by decide +kernel
theorem dX0_hourOfDay_4 : decode cX0_hourOfDay 4 = .ok (.ireturn, 1) := by decide +kernel
theorem dX0_isSpring_0 : decode cX0_isSpring 0 = .ok (.iload_n 0, 1) := by decide +kernel
theorem dX0_isSpring_1 : decode cX0_isSpring 1 = .ok (.bipush 24, 2) := by decide +kernel
theorem dX0_isSpring_3 : decode cX0_isSpring 3 = .ok (.idiv, 1) := by decide +kernel
theorem dX0_isSpring_4 : decode cX0_isSpring 4 = .ok (.bipush 28, 2) := by decide +kernel
theorem dX0_isSpring_6 : decode cX0_isSpring 6 = .ok (.irem, 1) := by decide +kernel
theorem dX0_isSpring_7 : decode cX0_isSpring 7 = .ok (.bipush 7, 2) := by decide +kernel
theorem dX0_isSpring_9 : decode cX0_isSpring 9 = .ok (.if_icmp .ge 7, 3) := by decide +kernel
theorem dX0_isSpring_12 : decode cX0_isSpring 12 = .ok (.iconst 1, 1) := by decide +kernel
theorem dX0_isSpring_13 : decode cX0_isSpring 13 = .ok (.goto 4, 3) := by decide +kernel
theorem dX0_isSpring_16 : decode cX0_isSpring 16 = .ok (.iconst 0, 1) := by decide +kernel
theorem dX0_isSpring_17 : decode cX0_isSpring 17 = .ok (.ireturn, 1) := by decide +kernel
theorem dX1_init_0 : decode cX1_init 0 = .ok (.aload_n 0, 1) := by decide +kernel
theorem dX1_init_1 : decode cX1_init 1 = .ok (.invokespecial 3, 3) := by decide +kernel
theorem dX1_init_4 : decode cX1_init 4 = .ok (.aload_n 0, 1) := by decide +kernel
theorem dX1_init_5 : decode cX1_init 5 = .ok (.iconst 0, 1) := by decide +kernel
theorem dX1_init_6 : decode cX1_init 6 = .ok (.putfield 9, 3) := by decide +kernel
theorem dX1_init_9 : decode cX1_init 9 = .ok (.aload_n 0, 1) := by decide +kernel
theorem dX1_init_10 : decode cX1_init 10 = .ok (.iconst 0, 1) := by decide +kernel
theorem dX1_init_11 : decode cX1_init 11 = .ok (.putfield 15, 3) := by decide +kernel
theorem dX1_init_14 : decode cX1_init 14 = .ok (.aload_n 0, 1) := by decide +kernel
theorem dX1_init_15 : decode cX1_init 15 = .ok (.iconst 4, 1) := by decide +kernel
theorem dX1_init_16 : decode cX1_init 16 = .ok (.newarray .int, 2) := by decide +kernel
theorem dX1_init_18 : decode cX1_init 18 = .ok (.putfield 18, 3) := by decide +kernel
theorem dX1_init_21 : decode cX1_init 21 = .ok (.aload_n 0, 1) := by decide +kernel
theorem dX1_init_22 : decode cX1_init 22 = .ok (.bipush 8, 2) := by decide +kernel
theorem dX1_init_24 : decode cX1_init 24 = .ok (.newarray .int, 2) := by decide +kernel
theorem dX1_init_26 : decode cX1_init 26 = .ok (.putfield 22, 3) := by decide +kernel
theorem dX1_init_29 : decode cX1_init 29 = .ok (.aload_n 0, 1) := by decide +kernel
theorem dX1_init_30 : decode cX1_init 30 = .ok (.bipush 8, 2) := by decide +kernel
theorem dX1_init_32 : decode cX1_init 32 = .ok (.newarray .int, 2) := by decide +kernel
theorem dX1_init_34 : decode cX1_init 34 = .ok (.putfield 25, 3) := by decide +kernel
theorem dX1_init_37 : decode cX1_init 37 = .ok (.aload_n 0, 1) := by decide +kernel
theorem dX1_init_38 : decode cX1_init 38 = .ok (.bipush 8, 2) := by decide +kernel
theorem dX1_init_40 : decode cX1_init 40 = .ok (.newarray .int, 2) := by decide +kernel
theorem dX1_init_42 : decode cX1_init 42 = .ok (.putfield 28, 3) := by decide +kernel
theorem dX1_init_45 : decode cX1_init 45 = .ok (.aload_n 0, 1) := by decide +kernel
theorem dX1_init_46 : decode cX1_init 46 = .ok (.bipush 8, 2) := by decide +kernel
theorem dX1_init_48 : decode cX1_init 48 = .ok (.newarray .int, 2) := by decide +kernel
theorem dX1_init_50 : decode cX1_init 50 = .ok (.putfield 31, 3) := by decide +kernel
theorem dX1_init_53 : decode cX1_init 53 = .ok (.aload_n 0, 1) := by decide +kernel
theorem dX1_init_54 : decode cX1_init 54 = .ok (.bipush 8, 2) := by decide +kernel
theorem dX1_init_56 : decode cX1_init 56 = .ok (.newarray .int, 2) := by decide +kernel
theorem dX1_init_58 : decode cX1_init 58 = .ok (.putfield 34, 3) := by decide +kernel
theorem dX1_init_61 : decode cX1_init 61 = .ok (.iconst 0, 1) := by decide +kernel
theorem dX1_init_62 : decode cX1_init 62 = .ok (.istore_n 1, 1) := by decide +kernel
theorem dX1_init_63 : decode cX1_init 63 = .ok (.iload_n 1, 1) := by decide +kernel
theorem dX1_init_64 : decode cX1_init 64 = .ok (.iconst 4, 1) := by decide +kernel
theorem dX1_init_65 : decode cX1_init 65 = .ok (.if_icmp .ge 17, 3) := by decide +kernel
theorem dX1_init_68 : decode cX1_init 68 = .ok (.aload_n 0, 1) := by decide +kernel
theorem dX1_init_69 : decode cX1_init 69 = .ok (.getfield 18, 3) := by decide +kernel
theorem dX1_init_72 : decode cX1_init 72 = .ok (.iload_n 1, 1) := by decide +kernel
theorem dX1_init_73 : decode cX1_init 73 = .ok (.bipush 100, 2) := by decide +kernel
theorem dX1_init_75 : decode cX1_init 75 = .ok (.iastore, 1) := by decide +kernel
theorem dX1_init_76 : decode cX1_init 76 = .ok (.iinc 1 1, 3) := by decide +kernel
theorem dX1_init_79 : decode cX1_init 79 = .ok (.goto (-16), 3) := by decide +kernel
theorem dX1_init_82 : decode cX1_init 82 = .ok (.return_, 1) := by decide +kernel
theorem dX1_become_0 : decode cX1_become 0 = .ok (.aload_n 0, 1) := by decide +kernel
theorem dX1_become_1 : decode cX1_become 1 = .ok (.aload_n 1, 1) := by decide +kernel
theorem dX1_become_2 : decode cX1_become 2 = .ok (.getfield 9, 3) := by decide +kernel
theorem dX1_become_5 : decode cX1_become 5 = .ok (.putfield 9, 3) := by decide +kernel
theorem dX1_become_8 : decode cX1_become 8 = .ok (.aload_n 0, 1) := by decide +kernel
theorem dX1_become_9 : decode cX1_become 9 = .ok (.aload_n 1, 1) := by decide +kernel
theorem dX1_become_10 : decode cX1_become 10 = .ok (.getfield 15, 3) := by decide +kernel
theorem dX1_become_13 : decode cX1_become 13 = .ok (.putfield 15, 3) := by decide +kernel
theorem dX1_become_16 : decode cX1_become 16 = .ok (.aload_n 1, 1) := by decide +kernel
theorem dX1_become_17 : decode cX1_become 17 = .ok (.getfield 18, 3) := by decide +kernel
theorem dX1_become_20 : decode cX1_become 20 = .ok (.iconst 0, 1) := by decide +kernel
theorem dX1_become_21 : decode cX1_become 21 = .ok (.aload_n 0, 1) := by decide +kernel
theorem dX1_become_22 : decode cX1_become 22 = .ok (.getfield 18, 3) := by decide +kernel
theorem dX1_become_25 : decode cX1_become 25 = .ok (.iconst 0, 1) := by decide +kernel
theorem dX1_become_26 : decode cX1_become 26 = .ok (.iconst 4, 1) := by decide +kernel
theorem dX1_become_27 : decode cX1_become 27 = .ok (.invokestatic 37, 3) := by decide +kernel
theorem dX1_become_30 : decode cX1_become 30 = .ok (.aload_n 1, 1) := by decide +kernel
theorem dX1_become_31 : decode cX1_become 31 = .ok (.getfield 22, 3) := by decide +kernel
theorem dX1_become_34 : decode cX1_become 34 = .ok (.iconst 0, 1) := by decide +kernel
theorem dX1_become_35 : decode cX1_become 35 = .ok (.aload_n 0, 1) := by decide +kernel
theorem dX1_become_36 : decode cX1_become 36 = .ok (.getfield 22, 3) := by decide +kernel
theorem dX1_become_39 : decode cX1_become 39 = .ok (.iconst 0, 1) := by decide +kernel
theorem dX1_become_40 : decode cX1_become 40 = .ok (.bipush 8, 2) := by decide +kernel
theorem dX1_become_42 : decode cX1_become 42 = .ok (.invokestatic 37, 3) := by decide +kernel
theorem dX1_become_45 : decode cX1_become 45 = .ok (.aload_n 1, 1) := by decide +kernel
theorem dX1_become_46 : decode cX1_become 46 = .ok (.getfield 25, 3) := by decide +kernel
theorem dX1_become_49 : decode cX1_become 49 = .ok (.iconst 0, 1) := by decide +kernel
theorem dX1_become_50 : decode cX1_become 50 = .ok (.aload_n 0, 1) := by decide +kernel
theorem dX1_become_51 : decode cX1_become 51 = .ok (.getfield 25, 3) := by decide +kernel
theorem dX1_become_54 : decode cX1_become 54 = .ok (.iconst 0, 1) := by decide +kernel
theorem dX1_become_55 : decode cX1_become 55 = .ok (.bipush 8, 2) := by decide +kernel
theorem dX1_become_57 : decode cX1_become 57 = .ok (.invokestatic 37, 3) := by decide +kernel
theorem dX1_become_60 : decode cX1_become 60 = .ok (.aload_n 1, 1) := by decide +kernel
theorem dX1_become_61 : decode cX1_become 61 = .ok (.getfield 28, 3) := by decide +kernel
theorem dX1_become_64 : decode cX1_become 64 = .ok (.iconst 0, 1) := by decide +kernel
theorem dX1_become_65 : decode cX1_become 65 = .ok (.aload_n 0, 1) := by decide +kernel
theorem dX1_become_66 : decode cX1_become 66 = .ok (.getfield 28, 3) := by decide +kernel
theorem dX1_become_69 : decode cX1_become 69 = .ok (.iconst 0, 1) := by decide +kernel
theorem dX1_become_70 : decode cX1_become 70 = .ok (.bipush 8, 2) := by decide +kernel
theorem dX1_become_72 : decode cX1_become 72 = .ok (.invokestatic 37, 3) := by decide +kernel
theorem dX1_become_75 : decode cX1_become 75 = .ok (.aload_n 1, 1) := by decide +kernel
theorem dX1_become_76 : decode cX1_become 76 = .ok (.getfield 31, 3) := by decide +kernel
theorem dX1_become_79 : decode cX1_become 79 = .ok (.iconst 0, 1) := by decide +kernel
theorem dX1_become_80 : decode cX1_become 80 = .ok (.aload_n 0, 1) := by decide +kernel
theorem dX1_become_81 : decode cX1_become 81 = .ok (.getfield 31, 3) := by decide +kernel
theorem dX1_become_84 : decode cX1_become 84 = .ok (.iconst 0, 1) := by decide +kernel
theorem dX1_become_85 : decode cX1_become 85 = .ok (.bipush 8, 2) := by decide +kernel
theorem dX1_become_87 : decode cX1_become 87 = .ok (.invokestatic 37, 3) := by decide +kernel
theorem dX1_become_90 : decode cX1_become 90 = .ok (.aload_n 1, 1) := by decide +kernel
theorem dX1_become_91 : decode cX1_become 91 = .ok (.getfield 34, 3) := by decide +kernel
theorem dX1_become_94 : decode cX1_become 94 = .ok (.iconst 0, 1) := by decide +kernel
theorem dX1_become_95 : decode cX1_become 95 = .ok (.aload_n 0, 1) := by decide +kernel
theorem dX1_become_96 : decode cX1_become 96 = .ok (.getfield 34, 3) := by decide +kernel
theorem dX1_become_99 : decode cX1_become 99 = .ok (.iconst 0, 1) := by decide +kernel
theorem dX1_become_100 : decode cX1_become 100 = .ok (.bipush 8, 2) := by decide +kernel
theorem dX1_become_102 : decode cX1_become 102 = .ok (.invokestatic 37, 3) := by decide +kernel
theorem dX1_become_105 : decode cX1_become 105 = .ok (.return_, 1) := by decide +kernel
theorem dX1_hasFrame_0 : decode cX1_hasFrame 0 = .ok (.iload_n 1, 1) := by decide +kernel
theorem dX1_hasFrame_1 : decode cX1_hasFrame 1 = .ok (.ifCond .lt 15, 3) := by decide +kernel
theorem dX1_hasFrame_4 : decode cX1_hasFrame 4 = .ok (.iload_n 1, 1) := by decide +kernel
theorem dX1_hasFrame_5 : decode cX1_hasFrame 5 = .ok (.aload_n 0, 1) := by decide +kernel
theorem dX1_hasFrame_6 : decode cX1_hasFrame 6 = .ok (.getfield 15, 3) := by decide +kernel
theorem dX1_hasFrame_9 : decode cX1_hasFrame 9 = .ok (.if_icmp .ge 7, 3) := by decide +kernel
theorem dX1_hasFrame_12 : decode cX1_hasFrame 12 = .ok (.iconst 1, 1) := by decide +kernel
theorem dX1_hasFrame_13 : decode cX1_hasFrame 13 = .ok (.goto 4, 3) := by decide +kernel
theorem dX1_hasFrame_16 : decode cX1_hasFrame 16 = .ok (.iconst 0, 1) := by decide +kernel
theorem dX1_hasFrame_17 : decode cX1_hasFrame 17 = .ok (.ireturn, 1) := by decide +kernel
theorem dX1_hasView_0 : decode cX1_hasView 0 = .ok (.aload_n 0, 1) := by decide +kernel
theorem dX1_hasView_1 : decode cX1_hasView 1 = .ok (.iload_n 1, 1) := by decide +kernel
theorem dX1_hasView_2 : decode cX1_hasView 2 = .ok (.invokevirtual 43, 3) := by decide +kernel
theorem dX1_hasView_5 : decode cX1_hasView 5 = .ok (.ireturn, 1) := by decide +kernel
theorem dX1_addFrame_0 : decode cX1_addFrame 0 = .ok (.aload_n 0, 1) := by decide +kernel
theorem dX1_addFrame_1 : decode cX1_addFrame 1 = .ok (.getfield 15, 3) := by decide +kernel
theorem dX1_addFrame_4 : decode cX1_addFrame 4 = .ok (.istore_n 3, 1) := by decide +kernel
theorem dX1_addFrame_5 : decode cX1_addFrame 5 = .ok (.aload_n 0, 1) := by decide +kernel
theorem dX1_addFrame_6 : decode cX1_addFrame 6 = .ok (.getfield 22, 3) := by decide +kernel
theorem dX1_addFrame_9 : decode cX1_addFrame 9 = .ok (.iload_n 3, 1) := by decide +kernel
theorem dX1_addFrame_10 : decode cX1_addFrame 10 = .ok (.iload_n 2, 1) := by decide +kernel
theorem dX1_addFrame_11 : decode cX1_addFrame 11 = .ok (.iastore, 1) := by decide +kernel
theorem dX1_addFrame_12 : decode cX1_addFrame 12 = .ok (.aload_n 0, 1) := by decide +kernel
theorem dX1_addFrame_13 : decode cX1_addFrame 13 = .ok (.getfield 25, 3) := by decide +kernel
theorem dX1_addFrame_16 : decode cX1_addFrame 16 = .ok (.iload_n 3, 1) := by decide +kernel
theorem dX1_addFrame_17 : decode cX1_addFrame 17 = .ok (.iconst 0, 1) := by decide +kernel
theorem dX1_addFrame_18 : decode cX1_addFrame 18 = .ok (.iastore, 1) := by decide +kernel
theorem dX1_addFrame_19 : decode cX1_addFrame 19 = .ok (.aload_n 0, 1) := by decide +kernel
theorem dX1_addFrame_20 : decode cX1_addFrame 20 = .ok (.getfield 28, 3) := by decide +kernel
theorem dX1_addFrame_23 : decode cX1_addFrame 23 = .ok (.iload_n 3, 1) := by decide +kernel
theorem dX1_addFrame_24 : decode cX1_addFrame 24 = .ok (.iload_n 3, 1) := by decide +kernel
theorem dX1_addFrame_25 : decode cX1_addFrame 25 = .ok (.iastore, 1) := by decide +kernel
theorem dX1_addFrame_26 : decode cX1_addFrame 26 = .ok (.aload_n 0, 1) := by decide +kernel
theorem dX1_addFrame_27 : decode cX1_addFrame 27 = .ok (.getfield 31, 3) := by decide +kernel
theorem dX1_addFrame_30 : decode cX1_addFrame 30 = .ok (.iload_n 3, 1) := by decide +kernel
theorem dX1_addFrame_31 : decode cX1_addFrame 31 = .ok (.iload_n 1, 1) := by decide +kernel
theorem dX1_addFrame_32 : decode cX1_addFrame 32 = .ok (.iastore, 1) := by decide +kernel
theorem dX1_addFrame_33 : decode cX1_addFrame 33 = .ok (.aload_n 0, 1) := by decide +kernel
theorem dX1_addFrame_34 : decode cX1_addFrame 34 = .ok (.getfield 34, 3) := by decide +kernel
theorem dX1_addFrame_37 : decode cX1_addFrame 37 = .ok (.iload_n 3, 1) := by decide +kernel
theorem dX1_addFrame_38 : decode cX1_addFrame 38 = .ok (.bipush 10, 2) := by decide +kernel
theorem dX1_addFrame_40 : decode cX1_addFrame 40 = .ok (.iastore, 1) := by decide +kernel
theorem dX1_addFrame_41 : decode cX1_addFrame 41 = .ok (.aload_n 0, 1) := by decide +kernel
theorem dX1_addFrame_42 : decode cX1_addFrame 42 = .ok (.iload_n 3, 1) := by decide +kernel
theorem dX1_addFrame_43 : decode cX1_addFrame 43 = .ok (.iconst 1, 1) := by decide +kernel
theorem dX1_addFrame_44 : decode cX1_addFrame 44 = .ok (.iadd, 1) := by decide +kernel
theorem dX1_addFrame_45 : decode cX1_addFrame 45 = .ok (.putfield 15, 3) := by decide +kernel
theorem dX1_addFrame_48 : decode cX1_addFrame 48 = .ok (.iload_n 3, 1) := by decide +kernel
theorem dX1_addFrame_49 : decode cX1_addFrame 49 = .ok (.ireturn, 1) := by decide +kernel
theorem dX1_worthOf_0 : decode cX1_worthOf 0 = .ok (.aload_n 0, 1) := by decide +kernel
theorem dX1_worthOf_1 : decode cX1_worthOf 1 = .ok (.getfield 31, 3) := by decide +kernel
theorem dX1_worthOf_4 : decode cX1_worthOf 4 = .ok (.iload_n 1, 1) := by decide +kernel
theorem dX1_worthOf_5 : decode cX1_worthOf 5 = .ok (.iaload, 1) := by decide +kernel
theorem dX1_worthOf_6 : decode cX1_worthOf 6 = .ok (.aload_n 0, 1) := by decide +kernel
theorem dX1_worthOf_7 : decode cX1_worthOf 7 = .ok (.getfield 34, 3) := by decide +kernel
theorem dX1_worthOf_10 : decode cX1_worthOf 10 = .ok (.iload_n 1, 1) := by decide +kernel
theorem dX1_worthOf_11 : decode cX1_worthOf 11 = .ok (.iaload, 1) := by decide +kernel
theorem dX1_worthOf_12 : decode cX1_worthOf 12 = .ok (.aload_n 0, 1) := by decide +kernel
theorem dX1_worthOf_13 : decode cX1_worthOf 13 = .ok (.getfield 9, 3) := by decide +kernel
theorem dX1_worthOf_16 : decode cX1_worthOf 16 = .ok (.invokestatic 47, 3) := by decide +kernel
theorem dX1_worthOf_19 : decode cX1_worthOf 19 = .ok (.ireturn, 1) := by decide +kernel
theorem dX1_worthOutOf_0 : decode cX1_worthOutOf 0 = .ok (.aload_n 0, 1) := by decide +kernel
theorem dX1_worthOutOf_1 : decode cX1_worthOutOf 1 = .ok (.getfield 25, 3) := by decide +kernel
theorem dX1_worthOutOf_4 : decode cX1_worthOutOf 4 = .ok (.iload_n 1, 1) := by decide +kernel
theorem dX1_worthOutOf_5 : decode cX1_worthOutOf 5 = .ok (.iaload, 1) := by decide +kernel
theorem dX1_worthOutOf_6 : decode cX1_worthOutOf 6 = .ok (.iconst 1, 1) := by decide +kernel
theorem dX1_worthOutOf_7 : decode cX1_worthOutOf 7 = .ok (.if_icmp .ne 7, 3) := by decide +kernel
theorem dX1_worthOutOf_10 : decode cX1_worthOutOf 10 = .ok (.iconst 0, 1) := by decide +kernel
theorem dX1_worthOutOf_11 : decode cX1_worthOutOf 11 = .ok (.goto 13, 3) := by decide +kernel
theorem dX1_worthOutOf_14 : decode cX1_worthOutOf 14 = .ok (.aload_n 0, 1) := by decide +kernel
theorem dX1_worthOutOf_15 : decode cX1_worthOutOf 15 = .ok (.aload_n 0, 1) := by decide +kernel
theorem dX1_worthOutOf_16 : decode cX1_worthOutOf 16 = .ok (.getfield 28, 3) := by decide +kernel
theorem dX1_worthOutOf_19 : decode cX1_worthOutOf 19 = .ok (.iload_n 1, 1) := by decide +kernel
theorem dX1_worthOutOf_20 : decode cX1_worthOutOf 20 = .ok (.iaload, 1) := by decide +kernel
theorem dX1_worthOutOf_21 : decode cX1_worthOutOf 21 = .ok (.invokevirtual 53, 3) := by decide +kernel
theorem dX1_worthOutOf_24 : decode cX1_worthOutOf 24 = .ok (.ireturn, 1) := by decide +kernel
theorem dX1_soldFor_0 : decode cX1_soldFor 0 = .ok (.aload_n 0, 1) := by decide +kernel
theorem dX1_soldFor_1 : decode cX1_soldFor 1 = .ok (.getfield 31, 3) := by decide +kernel
theorem dX1_soldFor_4 : decode cX1_soldFor 4 = .ok (.iload_n 1, 1) := by decide +kernel
theorem dX1_soldFor_5 : decode cX1_soldFor 5 = .ok (.iaload, 1) := by decide +kernel
theorem dX1_soldFor_6 : decode cX1_soldFor 6 = .ok (.aload_n 0, 1) := by decide +kernel
theorem dX1_soldFor_7 : decode cX1_soldFor 7 = .ok (.getfield 34, 3) := by decide +kernel
theorem dX1_soldFor_10 : decode cX1_soldFor 10 = .ok (.iload_n 1, 1) := by decide +kernel
theorem dX1_soldFor_11 : decode cX1_soldFor 11 = .ok (.iaload, 1) := by decide +kernel
theorem dX1_soldFor_12 : decode cX1_soldFor 12 = .ok (.aload_n 0, 1) := by decide +kernel
theorem dX1_soldFor_13 : decode cX1_soldFor 13 = .ok (.getfield 9, 3) := by decide +kernel
theorem dX1_soldFor_16 : decode cX1_soldFor 16 = .ok (.invokestatic 57, 3) := by decide +kernel
theorem dX1_soldFor_19 : decode cX1_soldFor 19 = .ok (.ireturn, 1) := by decide +kernel
theorem dX1_frameShowing_0 : decode cX1_frameShowing 0 = .ok (.iconst 0, 1) := by decide +kernel
theorem dX1_frameShowing_1 : decode cX1_frameShowing 1 = .ok (.istore_n 2, 1) := by decide +kernel
theorem dX1_frameShowing_2 : decode cX1_frameShowing 2 = .ok (.iconst 0, 1) := by decide +kernel
theorem dX1_frameShowing_3 : decode cX1_frameShowing 3 = .ok (.istore_n 3, 1) := by decide +kernel
theorem dX1_frameShowing_4 : decode cX1_frameShowing 4 = .ok (.iload_n 3, 1) := by decide +kernel
theorem dX1_frameShowing_5 : decode cX1_frameShowing 5 = .ok (.aload_n 0, 1) := by decide +kernel
theorem dX1_frameShowing_6 : decode cX1_frameShowing 6 = .ok (.getfield 15, 3) := by decide +kernel
theorem dX1_frameShowing_9 : decode cX1_frameShowing 9 = .ok (.if_icmp .ge 21, 3) := by decide +kernel
theorem dX1_frameShowing_12 : decode cX1_frameShowing 12 = .ok (.aload_n 0, 1) := by decide +kernel
theorem dX1_frameShowing_13 : decode cX1_frameShowing 13 = .ok (.getfield 28, 3) := by decide +kernel
theorem dX1_frameShowing_16 : decode cX1_frameShowing 16 = .ok (.iload_n 3, 1) := by decide +kernel
theorem dX1_frameShowing_17 : decode cX1_frameShowing 17 = .ok (.iaload, 1) := by decide +kernel
theorem dX1_frameShowing_18 : decode cX1_frameShowing 18 = .ok (.iload_n 1, 1) := by decide +kernel
theorem dX1_frameShowing_19 : decode cX1_frameShowing 19 = .ok (.if_icmp .ne 5, 3) := by decide +kernel
theorem dX1_frameShowing_22 : decode cX1_frameShowing 22 = .ok (.iload_n 3, 1) := by decide +kernel
theorem dX1_frameShowing_23 : decode cX1_frameShowing 23 = .ok (.istore_n 2, 1) := by decide +kernel
theorem dX1_frameShowing_24 : decode cX1_frameShowing 24 = .ok (.iinc 3 1, 3) := by decide +kernel
theorem dX1_frameShowing_27 : decode cX1_frameShowing 27 = .ok (.goto (-23), 3) := by decide +kernel
theorem dX1_frameShowing_30 : decode cX1_frameShowing 30 = .ok (.iload_n 2, 1) := by decide +kernel
theorem dX1_frameShowing_31 : decode cX1_frameShowing 31 = .ok (.ireturn, 1) := by decide +kernel
theorem dX1_framesOwnedBy_0 : decode cX1_framesOwnedBy 0 = .ok (.iconst 0, 1) := by decide +kernel
theorem dX1_framesOwnedBy_1 : decode cX1_framesOwnedBy 1 = .ok (.istore_n 2, 1) := by decide +kernel
theorem dX1_framesOwnedBy_2 : decode cX1_framesOwnedBy 2 = .ok (.iconst 0, 1) := by decide +kernel
theorem dX1_framesOwnedBy_3 : decode cX1_framesOwnedBy 3 = .ok (.istore_n 3, 1) := by decide +kernel
theorem dX1_framesOwnedBy_4 : decode cX1_framesOwnedBy 4 = .ok (.iload_n 3, 1) := by decide +kernel
theorem dX1_framesOwnedBy_5 : decode cX1_framesOwnedBy 5 = .ok (.aload_n 0, 1) := by decide +kernel
theorem dX1_framesOwnedBy_6 : decode cX1_framesOwnedBy 6 = .ok (.getfield 15, 3) := by decide +kernel
theorem dX1_framesOwnedBy_9 : decode cX1_framesOwnedBy 9 = .ok (.if_icmp .ge 25, 3) := by decide +kernel
theorem dX1_framesOwnedBy_12 : decode cX1_framesOwnedBy 12 = .ok (.aload_n 0, 1) := by decide +kernel
theorem dX1_framesOwnedBy_13 : decode cX1_framesOwnedBy 13 = .ok (.getfield 22, 3) := by decide +kernel
theorem dX1_framesOwnedBy_16 : decode cX1_framesOwnedBy 16 = .ok (.iload_n 3, 1) := by decide +kernel
theorem dX1_framesOwnedBy_17 : decode cX1_framesOwnedBy 17 = .ok (.iaload, 1) := by decide +kernel
theorem dX1_framesOwnedBy_18 : decode cX1_framesOwnedBy 18 = .ok (.iload_n 1, 1) := by decide +kernel
theorem dX1_framesOwnedBy_19 : decode cX1_framesOwnedBy 19 = .ok (.if_icmp .ne 9, 3) := by decide +kernel
theorem dX1_framesOwnedBy_22 : decode cX1_framesOwnedBy 22 = .ok (.iload_n 2, 1) := by decide +kernel
theorem dX1_framesOwnedBy_23 : decode cX1_framesOwnedBy 23 = .ok (.iconst 1, 1) := by decide +kernel
theorem dX1_framesOwnedBy_24 : decode cX1_framesOwnedBy 24 = .ok (.iload_n 3, 1) := by decide +kernel
theorem dX1_framesOwnedBy_25 : decode cX1_framesOwnedBy 25 = .ok (.ishl, 1) := by decide +kernel
theorem dX1_framesOwnedBy_26 : decode cX1_framesOwnedBy 26 = .ok (.ior, 1) := by decide +kernel
theorem dX1_framesOwnedBy_27 : decode cX1_framesOwnedBy 27 = .ok (.istore_n 2, 1) := by decide +kernel
theorem dX1_framesOwnedBy_28 : decode cX1_framesOwnedBy 28 = .ok (.iinc 3 1, 3) := by decide +kernel
theorem dX1_framesOwnedBy_31 : decode cX1_framesOwnedBy 31 = .ok (.goto (-27), 3) := by decide +kernel
theorem dX1_framesOwnedBy_34 : decode cX1_framesOwnedBy 34 = .ok (.iload_n 2, 1) := by decide +kernel
theorem dX1_framesOwnedBy_35 : decode cX1_framesOwnedBy 35 = .ok (.ireturn, 1) := by decide +kernel
theorem dX1_viewsOwnedBy_0 : decode cX1_viewsOwnedBy 0 = .ok (.iconst 0, 1) := by decide +kernel
theorem dX1_viewsOwnedBy_1 : decode cX1_viewsOwnedBy 1 = .ok (.istore_n 2, 1) := by decide +kernel
theorem dX1_viewsOwnedBy_2 : decode cX1_viewsOwnedBy 2 = .ok (.iconst 0, 1) := by decide +kernel
theorem dX1_viewsOwnedBy_3 : decode cX1_viewsOwnedBy 3 = .ok (.istore_n 3, 1) := by decide +kernel
theorem dX1_viewsOwnedBy_4 : decode cX1_viewsOwnedBy 4 = .ok (.iload_n 3, 1) := by decide +kernel
theorem dX1_viewsOwnedBy_5 : decode cX1_viewsOwnedBy 5 = .ok (.aload_n 0, 1) := by decide +kernel
theorem dX1_viewsOwnedBy_6 : decode cX1_viewsOwnedBy 6 = .ok (.getfield 15, 3) := by decide +kernel
theorem dX1_viewsOwnedBy_9 : decode cX1_viewsOwnedBy 9 = .ok (.if_icmp .ge 30, 3) := by decide +kernel
theorem dX1_viewsOwnedBy_12 : decode cX1_viewsOwnedBy 12 = .ok (.aload_n 0, 1) := by decide +kernel
theorem dX1_viewsOwnedBy_13 : decode cX1_viewsOwnedBy 13 = .ok (.getfield 22, 3) := by decide +kernel
theorem dX1_viewsOwnedBy_16 : decode cX1_viewsOwnedBy 16 = .ok (.iload_n 3, 1) := by decide +kernel
theorem dX1_viewsOwnedBy_17 : decode cX1_viewsOwnedBy 17 = .ok (.iaload, 1) := by decide +kernel
theorem dX1_viewsOwnedBy_18 : decode cX1_viewsOwnedBy 18 = .ok (.iload_n 1, 1) := by decide +kernel
theorem dX1_viewsOwnedBy_19 : decode cX1_viewsOwnedBy 19 = .ok (.if_icmp .ne 14, 3) := by decide +kernel
theorem dX1_viewsOwnedBy_22 : decode cX1_viewsOwnedBy 22 = .ok (.iload_n 2, 1) := by decide +kernel
theorem dX1_viewsOwnedBy_23 : decode cX1_viewsOwnedBy 23 = .ok (.iconst 1, 1) := by decide +kernel
theorem dX1_viewsOwnedBy_24 : decode cX1_viewsOwnedBy 24 = .ok (.aload_n 0, 1) := by decide +kernel
theorem dX1_viewsOwnedBy_25 : decode cX1_viewsOwnedBy 25 = .ok (.getfield 28, 3) := by decide +kernel
theorem dX1_viewsOwnedBy_28 : decode cX1_viewsOwnedBy 28 = .ok (.iload_n 3, 1) := by decide +kernel
theorem dX1_viewsOwnedBy_29 : decode cX1_viewsOwnedBy 29 = .ok (.iaload, 1) := by decide +kernel
theorem dX1_viewsOwnedBy_30 : decode cX1_viewsOwnedBy 30 = .ok (.ishl, 1) := by decide +kernel
theorem dX1_viewsOwnedBy_31 : decode cX1_viewsOwnedBy 31 = .ok (.ior, 1) := by decide +kernel
theorem dX1_viewsOwnedBy_32 : decode cX1_viewsOwnedBy 32 = .ok (.istore_n 2, 1) := by decide +kernel
theorem dX1_viewsOwnedBy_33 : decode cX1_viewsOwnedBy 33 = .ok (.iinc 3 1, 3) := by decide +kernel
theorem dX1_viewsOwnedBy_36 : decode cX1_viewsOwnedBy 36 = .ok (.goto (-32), 3) := by decide +kernel
theorem dX1_viewsOwnedBy_39 : decode cX1_viewsOwnedBy 39 = .ok (.iload_n 2, 1) := by decide +kernel
theorem dX1_viewsOwnedBy_40 : decode cX1_viewsOwnedBy 40 = .ok (.ireturn, 1) := by decide +kernel
theorem dX1_incomeOf_0 : decode cX1_incomeOf 0 = .ok (.iconst 0, 1) := by decide +kernel
theorem dX1_incomeOf_1 : decode cX1_incomeOf 1 = .ok (.istore_n 2, 1) := by decide +kernel
theorem dX1_incomeOf_2 : decode cX1_incomeOf 2 = .ok (.iconst 0, 1) := by decide +kernel
theorem dX1_incomeOf_3 : decode cX1_incomeOf 3 = .ok (.istore_n 3, 1) := by decide +kernel
theorem dX1_incomeOf_4 : decode cX1_incomeOf 4 = .ok (.iload_n 3, 1) := by decide +kernel
theorem dX1_incomeOf_5 : decode cX1_incomeOf 5 = .ok (.aload_n 0, 1) := by decide +kernel
theorem dX1_incomeOf_6 : decode cX1_incomeOf 6 = .ok (.getfield 15, 3) := by decide +kernel
theorem dX1_incomeOf_9 : decode cX1_incomeOf 9 = .ok (.if_icmp .ge 27, 3) := by decide +kernel
theorem dX1_incomeOf_12 : decode cX1_incomeOf 12 = .ok (.aload_n 0, 1) := by decide +kernel
theorem dX1_incomeOf_13 : decode cX1_incomeOf 13 = .ok (.getfield 22, 3) := by decide +kernel
theorem dX1_incomeOf_16 : decode cX1_incomeOf 16 = .ok (.iload_n 3, 1) := by decide +kernel
theorem dX1_incomeOf_17 : decode cX1_incomeOf 17 = .ok (.iaload, 1) := by decide +kernel
theorem dX1_incomeOf_18 : decode cX1_incomeOf 18 = .ok (.iload_n 1, 1) := by decide +kernel
theorem dX1_incomeOf_19 : decode cX1_incomeOf 19 = .ok (.if_icmp .ne 11, 3) := by decide +kernel
theorem dX1_incomeOf_22 : decode cX1_incomeOf 22 = .ok (.iload_n 2, 1) := by decide +kernel
theorem dX1_incomeOf_23 : decode cX1_incomeOf 23 = .ok (.aload_n 0, 1) := by decide +kernel
theorem dX1_incomeOf_24 : decode cX1_incomeOf 24 = .ok (.iload_n 3, 1) := by decide +kernel
theorem dX1_incomeOf_25 : decode cX1_incomeOf 25 = .ok (.invokevirtual 60, 3) := by decide +kernel
theorem dX1_incomeOf_28 : decode cX1_incomeOf 28 = .ok (.iadd, 1) := by decide +kernel
theorem dX1_incomeOf_29 : decode cX1_incomeOf 29 = .ok (.istore_n 2, 1) := by decide +kernel
theorem dX1_incomeOf_30 : decode cX1_incomeOf 30 = .ok (.iinc 3 1, 3) := by decide +kernel
theorem dX1_incomeOf_33 : decode cX1_incomeOf 33 = .ok (.goto (-29), 3) := by decide +kernel
theorem dX1_incomeOf_36 : decode cX1_incomeOf 36 = .ok (.iload_n 2, 1) := by decide +kernel
theorem dX1_incomeOf_37 : decode cX1_incomeOf 37 = .ok (.ireturn, 1) := by decide +kernel
theorem dX1_framesAtHome_0 : decode cX1_framesAtHome 0 = .ok (.iconst 0, 1) := by decide +kernel
theorem dX1_framesAtHome_1 : decode cX1_framesAtHome 1 = .ok (.istore_n 1, 1) := by decide +kernel
theorem dX1_framesAtHome_2 : decode cX1_framesAtHome 2 = .ok (.iconst 0, 1) := by decide +kernel
theorem dX1_framesAtHome_3 : decode cX1_framesAtHome 3 = .ok (.istore_n 2, 1) := by decide +kernel
theorem dX1_framesAtHome_4 : decode cX1_framesAtHome 4 = .ok (.iload_n 2, 1) := by decide +kernel
theorem dX1_framesAtHome_5 : decode cX1_framesAtHome 5 = .ok (.aload_n 0, 1) := by decide +kernel
theorem dX1_framesAtHome_6 : decode cX1_framesAtHome 6 = .ok (.getfield 15, 3) := by decide +kernel
theorem dX1_framesAtHome_9 : decode cX1_framesAtHome 9 = .ok (.if_icmp .ge 25, 3) := by decide +kernel
theorem dX1_framesAtHome_12 : decode cX1_framesAtHome 12 = .ok (.aload_n 0, 1) := by decide +kernel
theorem dX1_framesAtHome_13 : decode cX1_framesAtHome 13 = .ok (.getfield 28, 3) := by decide +kernel
theorem dX1_framesAtHome_16 : decode cX1_framesAtHome 16 = .ok (.iload_n 2, 1) := by decide +kernel
theorem dX1_framesAtHome_17 : decode cX1_framesAtHome 17 = .ok (.iaload, 1) := by decide +kernel
theorem dX1_framesAtHome_18 : decode cX1_framesAtHome 18 = .ok (.iload_n 2, 1) := by decide +kernel
theorem dX1_framesAtHome_19 : decode cX1_framesAtHome 19 = .ok (.if_icmp .ne 9, 3) := by decide +kernel
theorem dX1_framesAtHome_22 : decode cX1_framesAtHome 22 = .ok (.iload_n 1, 1) := by decide +kernel
theorem dX1_framesAtHome_23 : decode cX1_framesAtHome 23 = .ok (.iconst 1, 1) := by decide +kernel
theorem dX1_framesAtHome_24 : decode cX1_framesAtHome 24 = .ok (.iload_n 2, 1) := by decide +kernel
theorem dX1_framesAtHome_25 : decode cX1_framesAtHome 25 = .ok (.ishl, 1) := by decide +kernel
theorem dX1_framesAtHome_26 : decode cX1_framesAtHome 26 = .ok (.ior, 1) := by decide +kernel
theorem dX1_framesAtHome_27 : decode cX1_framesAtHome 27 = .ok (.istore_n 1, 1) := by decide +kernel
theorem dX1_framesAtHome_28 : decode cX1_framesAtHome 28 = .ok (.iinc 2 1, 3) := by decide +kernel
theorem dX1_framesAtHome_31 : decode cX1_framesAtHome 31 = .ok (.goto (-27), 3) := by decide +kernel
theorem dX1_framesAtHome_34 : decode cX1_framesAtHome 34 = .ok (.iload_n 1, 1) := by decide +kernel
theorem dX1_framesAtHome_35 : decode cX1_framesAtHome 35 = .ok (.ireturn, 1) := by decide +kernel
theorem dX1_viewsAreHome_0 : decode cX1_viewsAreHome 0 = .ok (.aload_n 0, 1) := by decide +kernel
theorem dX1_viewsAreHome_1 : decode cX1_viewsAreHome 1 = .ok (.invokevirtual 63, 3) := by decide +kernel
theorem dX1_viewsAreHome_4 : decode cX1_viewsAreHome 4 = .ok (.invokestatic 67, 3) := by decide +kernel
theorem dX1_viewsAreHome_7 : decode cX1_viewsAreHome 7 = .ok (.aload_n 0, 1) := by decide +kernel
theorem dX1_viewsAreHome_8 : decode cX1_viewsAreHome 8 = .ok (.getfield 15, 3) := by decide +kernel
theorem dX1_viewsAreHome_11 : decode cX1_viewsAreHome 11 = .ok (.if_icmp .ne 7, 3) := by decide +kernel
theorem dX1_viewsAreHome_14 : decode cX1_viewsAreHome 14 = .ok (.iconst 1, 1) := by decide +kernel
theorem dX1_viewsAreHome_15 : decode cX1_viewsAreHome 15 = .ok (.goto 4, 3) := by decide +kernel
theorem dX1_viewsAreHome_18 : decode cX1_viewsAreHome 18 = .ok (.iconst 0, 1) := by decide +kernel
theorem dX1_viewsAreHome_19 : decode cX1_viewsAreHome 19 = .ok (.ireturn, 1) := by decide +kernel
theorem dX1_moneyInAll_0 : decode cX1_moneyInAll 0 = .ok (.iconst 0, 1) := by decide +kernel
theorem dX1_moneyInAll_1 : decode cX1_moneyInAll 1 = .ok (.istore_n 1, 1) := by decide +kernel
theorem dX1_moneyInAll_2 : decode cX1_moneyInAll 2 = .ok (.iconst 0, 1) := by decide +kernel
theorem dX1_moneyInAll_3 : decode cX1_moneyInAll 3 = .ok (.istore_n 2, 1) := by decide +kernel
theorem dX1_moneyInAll_4 : decode cX1_moneyInAll 4 = .ok (.iload_n 2, 1) := by decide +kernel
theorem dX1_moneyInAll_5 : decode cX1_moneyInAll 5 = .ok (.iconst 4, 1) := by decide +kernel
theorem dX1_moneyInAll_6 : decode cX1_moneyInAll 6 = .ok (.if_icmp .ge 18, 3) := by decide +kernel
theorem dX1_moneyInAll_9 : decode cX1_moneyInAll 9 = .ok (.iload_n 1, 1) := by decide +kernel
theorem dX1_moneyInAll_10 : decode cX1_moneyInAll 10 = .ok (.aload_n 0, 1) := by decide +kernel
theorem dX1_moneyInAll_11 : decode cX1_moneyInAll 11 = .ok (.getfield 18, 3) := by decide +kernel
theorem dX1_moneyInAll_14 : decode cX1_moneyInAll 14 = .ok (.iload_n 2, 1) := by decide +kernel
theorem dX1_moneyInAll_15 : decode cX1_moneyInAll 15 = .ok (.iaload, 1) := by decide +kernel
theorem dX1_moneyInAll_16 : decode cX1_moneyInAll 16 = .ok (.iadd, 1) := by decide +kernel
theorem dX1_moneyInAll_17 : decode cX1_moneyInAll 17 = .ok (.istore_n 1, 1) := by decide +kernel
theorem dX1_moneyInAll_18 : decode cX1_moneyInAll 18 = .ok (.iinc 2 1, 3) := by decide +kernel
theorem dX1_moneyInAll_21 : decode cX1_moneyInAll 21 = .ok (.goto (-17), 3) := by decide +kernel
theorem dX1_moneyInAll_24 : decode cX1_moneyInAll 24 = .ok (.iload_n 1, 1) := by decide +kernel
theorem dX1_moneyInAll_25 : decode cX1_moneyInAll 25 = .ok (.ireturn, 1) := by decide +kernel
theorem dX1_fineInAll_0 : decode cX1_fineInAll 0 = .ok (.iconst 0, 1) := by decide +kernel
theorem dX1_fineInAll_1 : decode cX1_fineInAll 1 = .ok (.istore_n 1, 1) := by decide +kernel
theorem dX1_fineInAll_2 : decode cX1_fineInAll 2 = .ok (.iconst 0, 1) := by decide +kernel
theorem dX1_fineInAll_3 : decode cX1_fineInAll 3 = .ok (.istore_n 2, 1) := by decide +kernel
theorem dX1_fineInAll_4 : decode cX1_fineInAll 4 = .ok (.iload_n 2, 1) := by decide +kernel
theorem dX1_fineInAll_5 : decode cX1_fineInAll 5 = .ok (.aload_n 0, 1) := by decide +kernel
theorem dX1_fineInAll_6 : decode cX1_fineInAll 6 = .ok (.getfield 15, 3) := by decide +kernel
theorem dX1_fineInAll_9 : decode cX1_fineInAll 9 = .ok (.if_icmp .ge 18, 3) := by decide +kernel
theorem dX1_fineInAll_12 : decode cX1_fineInAll 12 = .ok (.iload_n 1, 1) := by decide +kernel
theorem dX1_fineInAll_13 : decode cX1_fineInAll 13 = .ok (.aload_n 0, 1) := by decide +kernel
theorem dX1_fineInAll_14 : decode cX1_fineInAll 14 = .ok (.getfield 34, 3) := by decide +kernel
theorem dX1_fineInAll_17 : decode cX1_fineInAll 17 = .ok (.iload_n 2, 1) := by decide +kernel
theorem dX1_fineInAll_18 : decode cX1_fineInAll 18 = .ok (.iaload, 1) := by decide +kernel
theorem dX1_fineInAll_19 : decode cX1_fineInAll 19 = .ok (.iadd, 1) := by decide +kernel
theorem dX1_fineInAll_20 : decode cX1_fineInAll 20 = .ok (.istore_n 1, 1) := by decide +kernel
theorem dX1_fineInAll_21 : decode cX1_fineInAll 21 = .ok (.iinc 2 1, 3) := by decide +kernel
theorem dX1_fineInAll_24 : decode cX1_fineInAll 24 = .ok (.goto (-20), 3) := by decide +kernel
theorem dX1_fineInAll_27 : decode cX1_fineInAll 27 = .ok (.iload_n 1, 1) := by decide +kernel
theorem dX1_fineInAll_28 : decode cX1_fineInAll 28 = .ok (.ireturn, 1) := by decide +kernel
theorem dX1_curtainsDrawn_0 : decode cX1_curtainsDrawn 0 = .ok (.iconst 0, 1) := by decide +kernel
theorem dX1_curtainsDrawn_1 : decode cX1_curtainsDrawn 1 = .ok (.istore_n 1, 1) := by decide +kernel
theorem dX1_curtainsDrawn_2 : decode cX1_curtainsDrawn 2 = .ok (.iconst 0, 1) := by decide +kernel
theorem dX1_curtainsDrawn_3 : decode cX1_curtainsDrawn 3 = .ok (.istore_n 2, 1) := by decide +kernel
theorem dX1_curtainsDrawn_4 : decode cX1_curtainsDrawn 4 = .ok (.iload_n 2, 1) := by decide +kernel
theorem dX1_curtainsDrawn_5 : decode cX1_curtainsDrawn 5 = .ok (.aload_n 0, 1) := by decide +kernel
theorem dX1_curtainsDrawn_6 : decode cX1_curtainsDrawn 6 = .ok (.getfield 15, 3) := by decide +kernel
theorem dX1_curtainsDrawn_9 : decode cX1_curtainsDrawn 9 = .ok (.if_icmp .ge 18, 3) := by decide +kernel
theorem dX1_curtainsDrawn_12 : decode cX1_curtainsDrawn 12 = .ok (.iload_n 1, 1) := by decide +kernel
theorem dX1_curtainsDrawn_13 : decode cX1_curtainsDrawn 13 = .ok (.aload_n 0, 1) := by decide +kernel
theorem dX1_curtainsDrawn_14 : decode cX1_curtainsDrawn 14 = .ok (.getfield 25, 3) := by decide +kernel
theorem dX1_curtainsDrawn_17 : decode cX1_curtainsDrawn 17 = .ok (.iload_n 2, 1) := by decide +kernel
theorem dX1_curtainsDrawn_18 : decode cX1_curtainsDrawn 18 = .ok (.iaload, 1) := by decide +kernel
theorem dX1_curtainsDrawn_19 : decode cX1_curtainsDrawn 19 = .ok (.iadd, 1) := by decide +kernel
theorem dX1_curtainsDrawn_20 : decode cX1_curtainsDrawn 20 = .ok (.istore_n 1, 1) := by decide +kernel
theorem dX1_curtainsDrawn_21 : decode cX1_curtainsDrawn 21 = .ok (.iinc 2 1, 3) := by decide +kernel
theorem dX1_curtainsDrawn_24 : decode cX1_curtainsDrawn 24 = .ok (.goto (-20), 3) := by decide +kernel
theorem dX1_curtainsDrawn_27 : decode cX1_curtainsDrawn 27 = .ok (.iload_n 1, 1) := by decide +kernel
theorem dX1_curtainsDrawn_28 : decode cX1_curtainsDrawn 28 = .ok (.ireturn, 1) := by decide +kernel
theorem dX1_dueFromFirst_0 : decode cX1_dueFromFirst 0 = .ok (.aload_n 0, 1) := by decide +kernel
theorem dX1_dueFromFirst_1 : decode cX1_dueFromFirst 1 = .ok (.getfield 22, 3) := by decide +kernel
theorem dX1_dueFromFirst_4 : decode cX1_dueFromFirst 4 = .ok (.iload_n 1, 1) := by decide +kernel
theorem dX1_dueFromFirst_5 : decode cX1_dueFromFirst 5 = .ok (.iaload, 1) := by decide +kernel
theorem dX1_dueFromFirst_6 : decode cX1_dueFromFirst 6 = .ok (.aload_n 0, 1) := by decide +kernel
theorem dX1_dueFromFirst_7 : decode cX1_dueFromFirst 7 = .ok (.getfield 22, 3) := by decide +kernel
theorem dX1_dueFromFirst_10 : decode cX1_dueFromFirst 10 = .ok (.iload_n 2, 1) := by decide +kernel
theorem dX1_dueFromFirst_11 : decode cX1_dueFromFirst 11 = .ok (.iaload, 1) := by decide +kernel
theorem dX1_dueFromFirst_12 : decode cX1_dueFromFirst 12 = .ok (.if_icmp .ne 7, 3) := by decide +kernel
theorem dX1_dueFromFirst_15 : decode cX1_dueFromFirst 15 = .ok (.iconst 0, 1) := by decide +kernel
theorem dX1_dueFromFirst_16 : decode cX1_dueFromFirst 16 = .ok (.goto 24, 3) := by decide +kernel
theorem dX1_dueFromFirst_19 : decode cX1_dueFromFirst 19 = .ok (.aload_n 0, 1) := by decide +kernel
theorem dX1_dueFromFirst_20 : decode cX1_dueFromFirst 20 = .ok (.aload_n 0, 1) := by decide +kernel
theorem dX1_dueFromFirst_21 : decode cX1_dueFromFirst 21 = .ok (.getfield 28, 3) := by decide +kernel
theorem dX1_dueFromFirst_24 : decode cX1_dueFromFirst 24 = .ok (.iload_n 2, 1) := by decide +kernel
theorem dX1_dueFromFirst_25 : decode cX1_dueFromFirst 25 = .ok (.iaload, 1) := by decide +kernel
theorem dX1_dueFromFirst_26 : decode cX1_dueFromFirst 26 = .ok (.invokevirtual 72, 3) := by decide +kernel
theorem dX1_dueFromFirst_29 : decode cX1_dueFromFirst 29 = .ok (.aload_n 0, 1) := by decide +kernel
theorem dX1_dueFromFirst_30 : decode cX1_dueFromFirst 30 = .ok (.aload_n 0, 1) := by decide +kernel
theorem dX1_dueFromFirst_31 : decode cX1_dueFromFirst 31 = .ok (.getfield 28, 3) := by decide +kernel
theorem dX1_dueFromFirst_34 : decode cX1_dueFromFirst 34 = .ok (.iload_n 1, 1) := by decide +kernel
theorem dX1_dueFromFirst_35 : decode cX1_dueFromFirst 35 = .ok (.iaload, 1) := by decide +kernel
theorem dX1_dueFromFirst_36 : decode cX1_dueFromFirst 36 = .ok (.invokevirtual 72, 3) := by decide +kernel
theorem dX1_dueFromFirst_39 : decode cX1_dueFromFirst 39 = .ok (.isub, 1) := by decide +kernel
theorem dX1_dueFromFirst_40 : decode cX1_dueFromFirst 40 = .ok (.ireturn, 1) := by decide +kernel
theorem dX1_canExchange_0 : decode cX1_canExchange 0 = .ok (.aload_n 0, 1) := by decide +kernel
theorem dX1_canExchange_1 : decode cX1_canExchange 1 = .ok (.iload_n 1, 1) := by decide +kernel
theorem dX1_canExchange_2 : decode cX1_canExchange 2 = .ok (.iload_n 2, 1) := by decide +kernel
theorem dX1_canExchange_3 : decode cX1_canExchange 3 = .ok (.invokevirtual 74, 3) := by decide +kernel
theorem dX1_canExchange_6 : decode cX1_canExchange 6 = .ok (.istore_n 3, 1) := by decide +kernel
theorem dX1_canExchange_7 : decode cX1_canExchange 7 = .ok (.iload_n 3, 1) := by decide +kernel
theorem dX1_canExchange_8 : decode cX1_canExchange 8 = .ok (.ifCond .le 26, 3) := by decide +kernel
theorem dX1_canExchange_11 : decode cX1_canExchange 11 = .ok (.aload_n 0, 1) := by decide +kernel
theorem dX1_canExchange_12 : decode cX1_canExchange 12 = .ok (.getfield 18, 3) := by decide +kernel
theorem dX1_canExchange_15 : decode cX1_canExchange 15 = .ok (.aload_n 0, 1) := by decide +kernel
theorem dX1_canExchange_16 : decode cX1_canExchange 16 = .ok (.getfield 22, 3) := by decide +kernel
theorem dX1_canExchange_19 : decode cX1_canExchange 19 = .ok (.iload_n 1, 1) := by decide +kernel
theorem dX1_canExchange_20 : decode cX1_canExchange 20 = .ok (.iaload, 1) := by decide +kernel
theorem dX1_canExchange_21 : decode cX1_canExchange 21 = .ok (.iaload, 1) := by decide +kernel
theorem dX1_canExchange_22 : decode cX1_canExchange 22 = .ok (.iload_n 3, 1) := by decide +kernel
theorem dX1_canExchange_23 : decode cX1_canExchange 23 = .ok (.if_icmp .lt 7, 3) := by decide +kernel
theorem dX1_canExchange_26 : decode cX1_canExchange 26 = .ok (.iconst 1, 1) := by decide +kernel
theorem dX1_canExchange_27 : decode cX1_canExchange 27 = .ok (.goto 28, 3) := by decide +kernel
theorem dX1_canExchange_30 : decode cX1_canExchange 30 = .ok (.iconst 0, 1) := by decide +kernel
theorem dX1_canExchange_31 : decode cX1_canExchange 31 = .ok (.goto 24, 3) := by decide +kernel
theorem dX1_canExchange_34 : decode cX1_canExchange 34 = .ok (.aload_n 0, 1) := by decide +kernel
theorem dX1_canExchange_35 : decode cX1_canExchange 35 = .ok (.getfield 18, 3) := by decide +kernel
theorem dX1_canExchange_38 : decode cX1_canExchange 38 = .ok (.aload_n 0, 1) := by decide +kernel
theorem dX1_canExchange_39 : decode cX1_canExchange 39 = .ok (.getfield 22, 3) := by decide +kernel
theorem dX1_canExchange_42 : decode cX1_canExchange 42 = .ok (.iload_n 2, 1) := by decide +kernel
theorem dX1_canExchange_43 : decode cX1_canExchange 43 = .ok (.iaload, 1) := by decide +kernel
theorem dX1_canExchange_44 : decode cX1_canExchange 44 = .ok (.iaload, 1) := by decide +kernel
theorem dX1_canExchange_45 : decode cX1_canExchange 45 = .ok (.iload_n 3, 1) := by decide +kernel
theorem dX1_canExchange_46 : decode cX1_canExchange 46 = .ok (.ineg, 1) := by decide +kernel
theorem dX1_canExchange_47 : decode cX1_canExchange 47 = .ok (.if_icmp .lt 7, 3) := by decide +kernel
theorem dX1_canExchange_50 : decode cX1_canExchange 50 = .ok (.iconst 1, 1) := by decide +kernel
theorem dX1_canExchange_51 : decode cX1_canExchange 51 = .ok (.goto 4, 3) := by decide +kernel
theorem dX1_canExchange_54 : decode cX1_canExchange 54 = .ok (.iconst 0, 1) := by decide +kernel
theorem dX1_canExchange_55 : decode cX1_canExchange 55 = .ok (.ireturn, 1) := by decide +kernel
theorem dX1_exchange_0 : decode cX1_exchange 0 = .ok (.aload_n 0, 1) := by decide +kernel
theorem dX1_exchange_1 : decode cX1_exchange 1 = .ok (.iload_n 1, 1) := by decide +kernel
theorem dX1_exchange_2 : decode cX1_exchange 2 = .ok (.iload_n 2, 1) := by decide +kernel
theorem dX1_exchange_3 : decode cX1_exchange 3 = .ok (.invokevirtual 74, 3) := by decide +kernel
theorem dX1_exchange_6 : decode cX1_exchange 6 = .ok (.istore_n 3, 1) := by decide +kernel
theorem dX1_exchange_7 : decode cX1_exchange 7 = .ok (.iload_n 3, 1) := by decide +kernel
theorem dX1_exchange_8 : decode cX1_exchange 8 = .ok (.ifCond .le 23, 3) := by decide +kernel
theorem dX1_exchange_11 : decode cX1_exchange 11 = .ok (.aload_n 0, 1) := by decide +kernel
theorem dX1_exchange_12 : decode cX1_exchange 12 = .ok (.aload_n 0, 1) := by decide +kernel
theorem dX1_exchange_13 : decode cX1_exchange 13 = .ok (.getfield 22, 3) := by decide +kernel
theorem dX1_exchange_16 : decode cX1_exchange 16 = .ok (.iload_n 1, 1) := by decide +kernel
theorem dX1_exchange_17 : decode cX1_exchange 17 = .ok (.iaload, 1) := by decide +kernel
theorem dX1_exchange_18 : decode cX1_exchange 18 = .ok (.aload_n 0, 1) := by decide +kernel
theorem dX1_exchange_19 : decode cX1_exchange 19 = .ok (.getfield 22, 3) := by decide +kernel
theorem dX1_exchange_22 : decode cX1_exchange 22 = .ok (.iload_n 2, 1) := by decide +kernel
theorem dX1_exchange_23 : decode cX1_exchange 23 = .ok (.iaload, 1) := by decide +kernel
theorem dX1_exchange_24 : decode cX1_exchange 24 = .ok (.iload_n 3, 1) := by decide +kernel
theorem dX1_exchange_25 : decode cX1_exchange 25 = .ok (.invokevirtual 78, 3) := by decide +kernel
theorem dX1_exchange_28 : decode cX1_exchange 28 = .ok (.goto 21, 3) := by decide +kernel
theorem dX1_exchange_31 : decode cX1_exchange 31 = .ok (.aload_n 0, 1) := by decide +kernel
theorem dX1_exchange_32 : decode cX1_exchange 32 = .ok (.aload_n 0, 1) := by decide +kernel
theorem dX1_exchange_33 : decode cX1_exchange 33 = .ok (.getfield 22, 3) := by decide +kernel
theorem dX1_exchange_36 : decode cX1_exchange 36 = .ok (.iload_n 2, 1) := by decide +kernel
theorem dX1_exchange_37 : decode cX1_exchange 37 = .ok (.iaload, 1) := by decide +kernel
theorem dX1_exchange_38 : decode cX1_exchange 38 = .ok (.aload_n 0, 1) := by decide +kernel
theorem dX1_exchange_39 : decode cX1_exchange 39 = .ok (.getfield 22, 3) := by decide +kernel
theorem dX1_exchange_42 : decode cX1_exchange 42 = .ok (.iload_n 1, 1) := by decide +kernel
theorem dX1_exchange_43 : decode cX1_exchange 43 = .ok (.iaload, 1) := by decide +kernel
theorem dX1_exchange_44 : decode cX1_exchange 44 = .ok (.iload_n 3, 1) := by decide +kernel
theorem dX1_exchange_45 : decode cX1_exchange 45 = .ok (.ineg, 1) := by decide +kernel
theorem dX1_exchange_46 : decode cX1_exchange 46 = .ok (.invokevirtual 78, 3) := by decide +kernel
theorem dX1_exchange_49 : decode cX1_exchange 49 = .ok (.aload_n 0, 1) := by decide +kernel
theorem dX1_exchange_50 : decode cX1_exchange 50 = .ok (.iload_n 1, 1) := by decide +kernel
theorem dX1_exchange_51 : decode cX1_exchange 51 = .ok (.iload_n 2, 1) := by decide +kernel
theorem dX1_exchange_52 : decode cX1_exchange 52 = .ok (.invokevirtual 82, 3) := by decide +kernel
theorem dX1_exchange_55 : decode cX1_exchange 55 = .ok (.iload_n 3, 1) := by decide +kernel
theorem dX1_exchange_56 : decode cX1_exchange 56 = .ok (.invokestatic 86, 3) := by decide +kernel
theorem dX1_exchange_59 : decode cX1_exchange 59 = .ok (.ireturn, 1) := by decide +kernel
theorem dX1_pay_0 : decode cX1_pay 0 = .ok (.aload_n 0, 1) := by decide +kernel
theorem dX1_pay_1 : decode cX1_pay 1 = .ok (.getfield 18, 3) := by decide +kernel
theorem dX1_pay_4 : decode cX1_pay 4 = .ok (.iload_n 1, 1) := by decide +kernel
theorem dX1_pay_5 : decode cX1_pay 5 = .ok (.dup2, 1) := by decide +kernel
theorem dX1_pay_6 : decode cX1_pay 6 = .ok (.iaload, 1) := by decide +kernel
theorem dX1_pay_7 : decode cX1_pay 7 = .ok (.iload_n 3, 1) := by decide +kernel
theorem dX1_pay_8 : decode cX1_pay 8 = .ok (.isub, 1) := by decide +kernel
theorem dX1_pay_9 : decode cX1_pay 9 = .ok (.iastore, 1) := by decide +kernel
theorem dX1_pay_10 : decode cX1_pay 10 = .ok (.aload_n 0, 1) := by decide +kernel
theorem dX1_pay_11 : decode cX1_pay 11 = .ok (.getfield 18, 3) := by decide +kernel
theorem dX1_pay_14 : decode cX1_pay 14 = .ok (.iload_n 2, 1) := by decide +kernel
theorem dX1_pay_15 : decode cX1_pay 15 = .ok (.ldc 91, 2) := by decide +kernel
theorem dX1_pay_17 : decode cX1_pay 17 = .ok (.aload_n 0, 1) := by decide +kernel
theorem dX1_pay_18 : decode cX1_pay 18 = .ok (.getfield 18, 3) := by decide +kernel
theorem dX1_pay_21 : decode cX1_pay 21 = .ok (.iload_n 2, 1) := by decide +kernel
theorem dX1_pay_22 : decode cX1_pay 22 = .ok (.iaload, 1) := by decide +kernel
theorem dX1_pay_23 : decode cX1_pay 23 = .ok (.iload_n 3, 1) := by decide +kernel
theorem dX1_pay_24 : decode cX1_pay 24 = .ok (.iadd, 1) := by decide +kernel
theorem dX1_pay_25 : decode cX1_pay 25 = .ok (.invokestatic 92, 3) := by decide +kernel
theorem dX1_pay_28 : decode cX1_pay 28 = .ok (.iastore, 1) := by decide +kernel
theorem dX1_pay_29 : decode cX1_pay 29 = .ok (.return_, 1) := by decide +kernel
theorem dX1_swapViews_0 : decode cX1_swapViews 0 = .ok (.aload_n 0, 1) := by decide +kernel
theorem dX1_swapViews_1 : decode cX1_swapViews 1 = .ok (.getfield 28, 3) := by decide +kernel
theorem dX1_swapViews_4 : decode cX1_swapViews 4 = .ok (.iload_n 1, 1) := by decide +kernel
theorem dX1_swapViews_5 : decode cX1_swapViews 5 = .ok (.iaload, 1) := by decide +kernel
theorem dX1_swapViews_6 : decode cX1_swapViews 6 = .ok (.istore_n 3, 1) := by decide +kernel
theorem dX1_swapViews_7 : decode cX1_swapViews 7 = .ok (.aload_n 0, 1) := by decide +kernel
theorem dX1_swapViews_8 : decode cX1_swapViews 8 = .ok (.getfield 28, 3) := by decide +kernel
theorem dX1_swapViews_11 : decode cX1_swapViews 11 = .ok (.iload_n 1, 1) := by decide +kernel
theorem dX1_swapViews_12 : decode cX1_swapViews 12 = .ok (.aload_n 0, 1) := by decide +kernel
theorem dX1_swapViews_13 : decode cX1_swapViews 13 = .ok (.getfield 28, 3) := by decide +kernel
theorem dX1_swapViews_16 : decode cX1_swapViews 16 = .ok (.iload_n 2, 1) := by decide +kernel
theorem dX1_swapViews_17 : decode cX1_swapViews 17 = .ok (.iaload, 1) := by decide +kernel
theorem dX1_swapViews_18 : decode cX1_swapViews 18 = .ok (.iastore, 1) := by decide +kernel
theorem dX1_swapViews_19 : decode cX1_swapViews 19 = .ok (.aload_n 0, 1) := by decide +kernel
theorem dX1_swapViews_20 : decode cX1_swapViews 20 = .ok (.getfield 28, 3) := by decide +kernel
theorem dX1_swapViews_23 : decode cX1_swapViews 23 = .ok (.iload_n 2, 1) := by decide +kernel
theorem dX1_swapViews_24 : decode cX1_swapViews 24 = .ok (.iload_n 3, 1) := by decide +kernel
theorem dX1_swapViews_25 : decode cX1_swapViews 25 = .ok (.iastore, 1) := by decide +kernel
theorem dX1_swapViews_26 : decode cX1_swapViews 26 = .ok (.return_, 1) := by decide +kernel
theorem dX1_shiftViews_0 : decode cX1_shiftViews 0 = .ok (.aload_n 0, 1) := by decide +kernel
theorem dX1_shiftViews_1 : decode cX1_shiftViews 1 = .ok (.getfield 28, 3) := by decide +kernel
theorem dX1_shiftViews_4 : decode cX1_shiftViews 4 = .ok (.iconst 0, 1) := by decide +kernel
theorem dX1_shiftViews_5 : decode cX1_shiftViews 5 = .ok (.iaload, 1) := by decide +kernel
theorem dX1_shiftViews_6 : decode cX1_shiftViews 6 = .ok (.istore_n 1, 1) := by decide +kernel
theorem dX1_shiftViews_7 : decode cX1_shiftViews 7 = .ok (.iconst 0, 1) := by decide +kernel
theorem dX1_shiftViews_8 : decode cX1_shiftViews 8 = .ok (.istore_n 2, 1) := by decide +kernel
theorem dX1_shiftViews_9 : decode cX1_shiftViews 9 = .ok (.iload_n 2, 1) := by decide +kernel
theorem dX1_shiftViews_10 : decode cX1_shiftViews 10 = .ok (.iconst 1, 1) := by decide +kernel
theorem dX1_shiftViews_11 : decode cX1_shiftViews 11 = .ok (.iadd, 1) := by decide +kernel
theorem dX1_shiftViews_12 : decode cX1_shiftViews 12 = .ok (.aload_n 0, 1) := by decide +kernel
theorem dX1_shiftViews_13 : decode cX1_shiftViews 13 = .ok (.getfield 15, 3) := by decide +kernel
theorem dX1_shiftViews_16 : decode cX1_shiftViews 16 = .ok (.if_icmp .ge 23, 3) := by decide +kernel
theorem dX1_shiftViews_19 : decode cX1_shiftViews 19 = .ok (.aload_n 0, 1) := by decide +kernel
theorem dX1_shiftViews_20 : decode cX1_shiftViews 20 = .ok (.getfield 28, 3) := by decide +kernel
theorem dX1_shiftViews_23 : decode cX1_shiftViews 23 = .ok (.iload_n 2, 1) := by decide +kernel
theorem dX1_shiftViews_24 : decode cX1_shiftViews 24 = .ok (.aload_n 0, 1) := by decide +kernel
theorem dX1_shiftViews_25 : decode cX1_shiftViews 25 = .ok (.getfield 28, 3) := by decide +kernel
theorem dX1_shiftViews_28 : decode cX1_shiftViews 28 = .ok (.iload_n 2, 1) := by decide +kernel
theorem dX1_shiftViews_29 : decode cX1_shiftViews 29 = .ok (.iconst 1, 1) := by decide +kernel
theorem dX1_shiftViews_30 : decode cX1_shiftViews 30 = .ok (.iadd, 1) := by decide +kernel
theorem dX1_shiftViews_31 : decode cX1_shiftViews 31 = .ok (.iaload, 1) := by decide +kernel
theorem dX1_shiftViews_32 : decode cX1_shiftViews 32 = .ok (.iastore, 1) := by decide +kernel
theorem dX1_shiftViews_33 : decode cX1_shiftViews 33 = .ok (.iinc 2 1, 3) := by decide +kernel
theorem dX1_shiftViews_36 : decode cX1_shiftViews 36 = .ok (.goto (-27), 3) := by decide +kernel
theorem dX1_shiftViews_39 : decode cX1_shiftViews 39 = .ok (.aload_n 0, 1) := by decide +kernel
theorem dX1_shiftViews_40 : decode cX1_shiftViews 40 = .ok (.getfield 15, 3) := by decide +kernel
theorem dX1_shiftViews_43 : decode cX1_shiftViews 43 = .ok (.ifCond .le 15, 3) := by decide +kernel
theorem dX1_shiftViews_46 : decode cX1_shiftViews 46 = .ok (.aload_n 0, 1) := by decide +kernel
theorem dX1_shiftViews_47 : decode cX1_shiftViews 47 = .ok (.getfield 28, 3) := by decide +kernel
theorem dX1_shiftViews_50 : decode cX1_shiftViews 50 = .ok (.aload_n 0, 1) := by decide +kernel
theorem dX1_shiftViews_51 : decode cX1_shiftViews 51 = .ok (.getfield 15, 3) := by decide +kernel
theorem dX1_shiftViews_54 : decode cX1_shiftViews 54 = .ok (.iconst 1, 1) := by decide +kernel
theorem dX1_shiftViews_55 : decode cX1_shiftViews 55 = .ok (.isub, 1) := by decide +kernel
theorem dX1_shiftViews_56 : decode cX1_shiftViews 56 = .ok (.iload_n 1, 1) := by decide +kernel
theorem dX1_shiftViews_57 : decode cX1_shiftViews 57 = .ok (.iastore, 1) := by decide +kernel
theorem dX1_shiftViews_58 : decode cX1_shiftViews 58 = .ok (.return_, 1) := by decide +kernel
theorem dX1_exchangesTillHome_0 : decode cX1_exchangesTillHome 0 = .ok (.iconst 0, 1) := by decide +kernel
theorem dX1_exchangesTillHome_1 : decode cX1_exchangesTillHome 1 = .ok (.istore_n 1, 1) := by decide +kernel
theorem dX1_exchangesTillHome_2 : decode cX1_exchangesTillHome 2 = .ok (.iconst 0, 1) := by decide +kernel
theorem dX1_exchangesTillHome_3 : decode cX1_exchangesTillHome 3 = .ok (.istore_n 2, 1) := by decide +kernel
theorem dX1_exchangesTillHome_4 : decode cX1_exchangesTillHome 4 = .ok (.iconst 0, 1) := by decide +kernel
theorem dX1_exchangesTillHome_5 : decode cX1_exchangesTillHome 5 = .ok (.istore_n 3, 1) := by decide +kernel
theorem dX1_exchangesTillHome_6 : decode cX1_exchangesTillHome 6 = .ok (.iload_n 3, 1) := by decide +kernel
theorem dX1_exchangesTillHome_7 : decode cX1_exchangesTillHome 7 = .ok (.aload_n 0, 1) := by decide +kernel
theorem dX1_exchangesTillHome_8 : decode cX1_exchangesTillHome 8 = .ok (.getfield 15, 3) := by decide +kernel
theorem dX1_exchangesTillHome_11 : decode cX1_exchangesTillHome 11 = .ok (.if_icmp .ge 57, 3) := by decide +kernel
theorem dX1_exchangesTillHome_14 : decode cX1_exchangesTillHome 14 = .ok (.iload_n 2, 1) := by decide +kernel
theorem dX1_exchangesTillHome_15 : decode cX1_exchangesTillHome 15 = .ok (.iload_n 3, 1) := by decide +kernel
theorem dX1_exchangesTillHome_16 : decode cX1_exchangesTillHome 16 = .ok (.ishr, 1) := by decide +kernel
theorem dX1_exchangesTillHome_17 : decode cX1_exchangesTillHome 17 = .ok (.iconst 1, 1) := by decide +kernel
theorem dX1_exchangesTillHome_18 : decode cX1_exchangesTillHome 18 = .ok (.iand, 1) := by decide +kernel
theorem dX1_exchangesTillHome_19 : decode cX1_exchangesTillHome 19 = .ok (.ifCond .ne 43, 3) := by decide +kernel
theorem dX1_exchangesTillHome_22 : decode cX1_exchangesTillHome 22 = .ok (.iinc 1 1, 3) := by decide +kernel
theorem dX1_exchangesTillHome_25 : decode cX1_exchangesTillHome 25 = .ok (.iload_n 3, 1) := by decide +kernel
theorem dX1_exchangesTillHome_26 : decode cX1_exchangesTillHome 26 = .ok (.istore 4, 2) := by decide +kernel
theorem dX1_exchangesTillHome_28 : decode cX1_exchangesTillHome 28 = .ok (.iconst 0, 1) := by decide +kernel
theorem dX1_exchangesTillHome_29 : decode cX1_exchangesTillHome 29 = .ok (.istore 5, 2) := by decide +kernel
theorem dX1_exchangesTillHome_31 : decode cX1_exchangesTillHome 31 = .ok (.iload 5, 2) := by decide +kernel
theorem dX1_exchangesTillHome_33 : decode cX1_exchangesTillHome 33 = .ok (.aload_n 0, 1) := by decide +kernel
theorem dX1_exchangesTillHome_34 : decode cX1_exchangesTillHome 34 = .ok (.getfield 15, 3) := by decide +kernel
theorem dX1_exchangesTillHome_37 : decode cX1_exchangesTillHome 37 = .ok (.if_icmp .ge 25, 3) := by decide +kernel
theorem dX1_exchangesTillHome_40 : decode cX1_exchangesTillHome 40 = .ok (.iload_n 2, 1) := by decide +kernel
theorem dX1_exchangesTillHome_41 : decode cX1_exchangesTillHome 41 = .ok (.iconst 1, 1) := by decide +kernel
theorem dX1_exchangesTillHome_42 : decode cX1_exchangesTillHome 42 = .ok (.iload 4, 2) := by decide +kernel
theorem dX1_exchangesTillHome_44 : decode cX1_exchangesTillHome 44 = .ok (.ishl, 1) := by decide +kernel
theorem dX1_exchangesTillHome_45 : decode cX1_exchangesTillHome 45 = .ok (.ior, 1) := by decide +kernel
theorem dX1_exchangesTillHome_46 : decode cX1_exchangesTillHome 46 = .ok (.istore_n 2, 1) := by decide +kernel
theorem dX1_exchangesTillHome_47 : decode cX1_exchangesTillHome 47 = .ok (.aload_n 0, 1) := by decide +kernel
theorem dX1_exchangesTillHome_48 : decode cX1_exchangesTillHome 48 = .ok (.getfield 28, 3) := by decide +kernel
theorem dX1_exchangesTillHome_51 : decode cX1_exchangesTillHome 51 = .ok (.iload 4, 2) := by decide +kernel
theorem dX1_exchangesTillHome_53 : decode cX1_exchangesTillHome 53 = .ok (.iaload, 1) := by decide +kernel
theorem dX1_exchangesTillHome_54 : decode cX1_exchangesTillHome 54 = .ok (.istore 4, 2) := by decide +kernel
theorem dX1_exchangesTillHome_56 : decode cX1_exchangesTillHome 56 = .ok (.iinc 5 1, 3) := by decide +kernel
theorem dX1_exchangesTillHome_59 : decode cX1_exchangesTillHome 59 = .ok (.goto (-28), 3) := by decide +kernel
theorem dX1_exchangesTillHome_62 : decode cX1_exchangesTillHome 62 = .ok (.iinc 3 1, 3) := by decide +kernel
theorem dX1_exchangesTillHome_65 : decode cX1_exchangesTillHome 65 = .ok (.goto (-59), 3) := by decide +kernel
theorem dX1_exchangesTillHome_68 : decode cX1_exchangesTillHome 68 = .ok (.aload_n 0, 1) := by decide +kernel
theorem dX1_exchangesTillHome_69 : decode cX1_exchangesTillHome 69 = .ok (.getfield 15, 3) := by decide +kernel
theorem dX1_exchangesTillHome_72 : decode cX1_exchangesTillHome 72 = .ok (.iload_n 1, 1) := by decide +kernel
theorem dX1_exchangesTillHome_73 : decode cX1_exchangesTillHome 73 = .ok (.isub, 1) := by decide +kernel
theorem dX1_exchangesTillHome_74 : decode cX1_exchangesTillHome 74 = .ok (.ireturn, 1) := by decide +kernel
theorem dX1_passHour_0 : decode cX1_passHour 0 = .ok (.iconst 0, 1) := by decide +kernel
theorem dX1_passHour_1 : decode cX1_passHour 1 = .ok (.istore_n 1, 1) := by decide +kernel
theorem dX1_passHour_2 : decode cX1_passHour 2 = .ok (.iload_n 1, 1) := by decide +kernel
theorem dX1_passHour_3 : decode cX1_passHour 3 = .ok (.aload_n 0, 1) := by decide +kernel
theorem dX1_passHour_4 : decode cX1_passHour 4 = .ok (.getfield 15, 3) := by decide +kernel
theorem dX1_passHour_7 : decode cX1_passHour 7 = .ok (.if_icmp .ge 39, 3) := by decide +kernel
theorem dX1_passHour_10 : decode cX1_passHour 10 = .ok (.aload_n 0, 1) := by decide +kernel
theorem dX1_passHour_11 : decode cX1_passHour 11 = .ok (.getfield 22, 3) := by decide +kernel
theorem dX1_passHour_14 : decode cX1_passHour 14 = .ok (.iload_n 1, 1) := by decide +kernel
theorem dX1_passHour_15 : decode cX1_passHour 15 = .ok (.iaload, 1) := by decide +kernel
theorem dX1_passHour_16 : decode cX1_passHour 16 = .ok (.istore_n 2, 1) := by decide +kernel
theorem dX1_passHour_17 : decode cX1_passHour 17 = .ok (.aload_n 0, 1) := by decide +kernel
theorem dX1_passHour_18 : decode cX1_passHour 18 = .ok (.getfield 18, 3) := by decide +kernel
theorem dX1_passHour_21 : decode cX1_passHour 21 = .ok (.iload_n 2, 1) := by decide +kernel
theorem dX1_passHour_22 : decode cX1_passHour 22 = .ok (.ldc 91, 2) := by decide +kernel
theorem dX1_passHour_24 : decode cX1_passHour 24 = .ok (.aload_n 0, 1) := by decide +kernel
theorem dX1_passHour_25 : decode cX1_passHour 25 = .ok (.getfield 18, 3) := by decide +kernel
theorem dX1_passHour_28 : decode cX1_passHour 28 = .ok (.iload_n 2, 1) := by decide +kernel
theorem dX1_passHour_29 : decode cX1_passHour 29 = .ok (.iaload, 1) := by decide +kernel
theorem dX1_passHour_30 : decode cX1_passHour 30 = .ok (.aload_n 0, 1) := by decide +kernel
theorem dX1_passHour_31 : decode cX1_passHour 31 = .ok (.iload_n 1, 1) := by decide +kernel
theorem dX1_passHour_32 : decode cX1_passHour 32 = .ok (.invokevirtual 60, 3) := by decide +kernel
theorem dX1_passHour_35 : decode cX1_passHour 35 = .ok (.iadd, 1) := by decide +kernel
theorem dX1_passHour_36 : decode cX1_passHour 36 = .ok (.invokestatic 92, 3) := by decide +kernel
theorem dX1_passHour_39 : decode cX1_passHour 39 = .ok (.iastore, 1) := by decide +kernel
theorem dX1_passHour_40 : decode cX1_passHour 40 = .ok (.iinc 1 1, 3) := by decide +kernel
theorem dX1_passHour_43 : decode cX1_passHour 43 = .ok (.goto (-41), 3) := by decide +kernel
theorem dX1_passHour_46 : decode cX1_passHour 46 = .ok (.iconst 0, 1) := by decide +kernel
theorem dX1_passHour_47 : decode cX1_passHour 47 = .ok (.istore_n 1, 1) := by decide +kernel
theorem dX1_passHour_48 : decode cX1_passHour 48 = .ok (.iload_n 1, 1) := by decide +kernel
theorem dX1_passHour_49 : decode cX1_passHour 49 = .ok (.aload_n 0, 1) := by decide +kernel
theorem dX1_passHour_50 : decode cX1_passHour 50 = .ok (.getfield 15, 3) := by decide +kernel
theorem dX1_passHour_53 : decode cX1_passHour 53 = .ok (.if_icmp .ge 34, 3) := by decide +kernel
theorem dX1_passHour_56 : decode cX1_passHour 56 = .ok (.aload_n 0, 1) := by decide +kernel
theorem dX1_passHour_57 : decode cX1_passHour 57 = .ok (.getfield 34, 3) := by decide +kernel
theorem dX1_passHour_60 : decode cX1_passHour 60 = .ok (.iload_n 1, 1) := by decide +kernel
theorem dX1_passHour_61 : decode cX1_passHour 61 = .ok (.aload_n 0, 1) := by decide +kernel
theorem dX1_passHour_62 : decode cX1_passHour 62 = .ok (.getfield 31, 3) := by decide +kernel
theorem dX1_passHour_65 : decode cX1_passHour 65 = .ok (.iload_n 1, 1) := by decide +kernel
theorem dX1_passHour_66 : decode cX1_passHour 66 = .ok (.iaload, 1) := by decide +kernel
theorem dX1_passHour_67 : decode cX1_passHour 67 = .ok (.aload_n 0, 1) := by decide +kernel
theorem dX1_passHour_68 : decode cX1_passHour 68 = .ok (.getfield 34, 3) := by decide +kernel
theorem dX1_passHour_71 : decode cX1_passHour 71 = .ok (.iload_n 1, 1) := by decide +kernel
theorem dX1_passHour_72 : decode cX1_passHour 72 = .ok (.iaload, 1) := by decide +kernel
theorem dX1_passHour_73 : decode cX1_passHour 73 = .ok (.aload_n 0, 1) := by decide +kernel
theorem dX1_passHour_74 : decode cX1_passHour 74 = .ok (.getfield 9, 3) := by decide +kernel
theorem dX1_passHour_77 : decode cX1_passHour 77 = .ok (.invokestatic 95, 3) := by decide +kernel
theorem dX1_passHour_80 : decode cX1_passHour 80 = .ok (.iastore, 1) := by decide +kernel
theorem dX1_passHour_81 : decode cX1_passHour 81 = .ok (.iinc 1 1, 3) := by decide +kernel
theorem dX1_passHour_84 : decode cX1_passHour 84 = .ok (.goto (-36), 3) := by decide +kernel
theorem dX1_passHour_87 : decode cX1_passHour 87 = .ok (.aload_n 0, 1) := by decide +kernel
theorem dX1_passHour_88 : decode cX1_passHour 88 = .ok (.dup, 1) := by decide +kernel
theorem dX1_passHour_89 : decode cX1_passHour 89 = .ok (.getfield 9, 3) := by decide +kernel
theorem dX1_passHour_92 : decode cX1_passHour 92 = .ok (.iconst 1, 1) := by decide +kernel
theorem dX1_passHour_93 : decode cX1_passHour 93 = .ok (.iadd, 1) := by decide +kernel
theorem dX1_passHour_94 : decode cX1_passHour 94 = .ok (.putfield 9, 3) := by decide +kernel
theorem dX1_passHour_97 : decode cX1_passHour 97 = .ok (.return_, 1) := by decide +kernel
theorem dX2_isKind_0 : decode cX2_isKind 0 = .ok (.iload_n 0, 1) := by decide +kernel
theorem dX2_isKind_1 : decode cX2_isKind 1 = .ok (.ifCond .lt 13, 3) := by decide +kernel
theorem dX2_isKind_4 : decode cX2_isKind 4 = .ok (.iload_n 0, 1) := by decide +kernel
theorem dX2_isKind_5 : decode cX2_isKind 5 = .ok (.bipush 6, 2) := by decide +kernel
theorem dX2_isKind_7 : decode cX2_isKind 7 = .ok (.if_icmp .ge 7, 3) := by decide +kernel
theorem dX2_isKind_10 : decode cX2_isKind 10 = .ok (.iconst 1, 1) := by decide +kernel
theorem dX2_isKind_11 : decode cX2_isKind 11 = .ok (.goto 4, 3) := by decide +kernel
theorem dX2_isKind_14 : decode cX2_isKind 14 = .ok (.iconst 0, 1) := by decide +kernel
theorem dX2_isKind_15 : decode cX2_isKind 15 = .ok (.ireturn, 1) := by decide +kernel
theorem dX2_isOrIsUnder_0 : decode cX2_isOrIsUnder 0 = .ok (.iload_n 0, 1) := by decide +kernel
theorem dX2_isOrIsUnder_1 : decode cX2_isOrIsUnder 1 = .ok (.istore_n 2, 1) := by decide +kernel
theorem dX2_isOrIsUnder_2 : decode cX2_isOrIsUnder 2 = .ok (.iconst 0, 1) := by decide +kernel
theorem dX2_isOrIsUnder_3 : decode cX2_isOrIsUnder 3 = .ok (.istore_n 3, 1) := by decide +kernel
theorem dX2_isOrIsUnder_4 : decode cX2_isOrIsUnder 4 = .ok (.iload_n 3, 1) := by decide +kernel
theorem dX2_isOrIsUnder_5 : decode cX2_isOrIsUnder 5 = .ok (.bipush 6, 2) := by decide +kernel
theorem dX2_isOrIsUnder_7 : decode cX2_isOrIsUnder 7 = .ok (.if_icmp .ge 29, 3) := by decide +kernel
theorem dX2_isOrIsUnder_10 : decode cX2_isOrIsUnder 10 = .ok (.iload_n 2, 1) := by decide +kernel
theorem dX2_isOrIsUnder_11 : decode cX2_isOrIsUnder 11 = .ok (.invokestatic 9, 3) := by decide +kernel
theorem dX2_isOrIsUnder_14 : decode cX2_isOrIsUnder 14 = .ok (.ifCond .eq 22, 3) := by decide +kernel
theorem dX2_isOrIsUnder_17 : decode cX2_isOrIsUnder 17 = .ok (.iload_n 2, 1) := by decide +kernel
theorem dX2_isOrIsUnder_18 : decode cX2_isOrIsUnder 18 = .ok (.iload_n 1, 1) := by decide +kernel
theorem dX2_isOrIsUnder_19 : decode cX2_isOrIsUnder 19 = .ok (.if_icmp .ne 5, 3) := by decide +kernel
theorem dX2_isOrIsUnder_22 : decode cX2_isOrIsUnder 22 = .ok (.iconst 1, 1) := by decide +kernel
theorem dX2_isOrIsUnder_23 : decode cX2_isOrIsUnder 23 = .ok (.ireturn, 1) := by decide +kernel
theorem dX2_isOrIsUnder_24 : decode cX2_isOrIsUnder 24 = .ok (.getstatic 13, 3) := by decide +kernel
theorem dX2_isOrIsUnder_27 : decode cX2_isOrIsUnder 27 = .ok (.iload_n 2, 1) := by decide +kernel
theorem dX2_isOrIsUnder_28 : decode cX2_isOrIsUnder 28 = .ok (.iaload, 1) := by decide +kernel
theorem dX2_isOrIsUnder_29 : decode cX2_isOrIsUnder 29 = .ok (.istore_n 2, 1) := by decide +kernel
theorem dX2_isOrIsUnder_30 : decode cX2_isOrIsUnder 30 = .ok (.iinc 3 1, 3) := by decide +kernel
theorem dX2_isOrIsUnder_33 : decode cX2_isOrIsUnder 33 = .ok (.goto (-29), 3) := by decide +kernel
theorem dX2_isOrIsUnder_36 : decode cX2_isOrIsUnder 36 = .ok (.iconst 0, 1) := by decide +kernel
theorem dX2_isOrIsUnder_37 : decode cX2_isOrIsUnder 37 = .ok (.ireturn, 1) := by decide +kernel
theorem dX2_nameOf_0 : decode cX2_nameOf 0 = .ok (.iload_n 0, 1) := by decide +kernel
theorem dX2_nameOf_1 : decode cX2_nameOf 1 = .ok (.tableswitch 57 0 5 #[39, 42, 45, 48, 51, 54], 39) := by decide +kernel
theorem dX2_nameOf_40 : decode cX2_nameOf 40 = .ok (.ldc 17, 2) := by decide +kernel
theorem dX2_nameOf_42 : decode cX2_nameOf 42 = .ok (.areturn, 1) := by decide +kernel
theorem dX2_nameOf_43 : decode cX2_nameOf 43 = .ok (.ldc 19, 2) := by decide +kernel
theorem dX2_nameOf_45 : decode cX2_nameOf 45 = .ok (.areturn, 1) := by decide +kernel
theorem dX2_nameOf_46 : decode cX2_nameOf 46 = .ok (.ldc 21, 2) := by decide +kernel
theorem dX2_nameOf_48 : decode cX2_nameOf 48 = .ok (.areturn, 1) := by decide +kernel
theorem dX2_nameOf_49 : decode cX2_nameOf 49 = .ok (.ldc 23, 2) := by decide +kernel
theorem dX2_nameOf_51 : decode cX2_nameOf 51 = .ok (.areturn, 1) := by decide +kernel
theorem dX2_nameOf_52 : decode cX2_nameOf 52 = .ok (.ldc 25, 2) := by decide +kernel
theorem dX2_nameOf_54 : decode cX2_nameOf 54 = .ok (.areturn, 1) := by decide +kernel
theorem dX2_nameOf_55 : decode cX2_nameOf 55 = .ok (.ldc 27, 2) := by decide +kernel
theorem dX2_nameOf_57 : decode cX2_nameOf 57 = .ok (.areturn, 1) := by decide +kernel
theorem dX2_nameOf_58 : decode cX2_nameOf 58 = .ok (.ldc 29, 2) := by decide +kernel
theorem dX2_nameOf_60 : decode cX2_nameOf 60 = .ok (.areturn, 1) := by decide +kernel
theorem dX2_worth_0 : decode cX2_worth 0 = .ok (.iconst 2, 1) := by decide +kernel
theorem dX2_worth_1 : decode cX2_worth 1 = .ok (.iload_n 1, 1) := by decide +kernel
theorem dX2_worth_2 : decode cX2_worth 2 = .ok (.bipush 10, 2) := by decide +kernel
theorem dX2_worth_4 : decode cX2_worth 4 = .ok (.idiv, 1) := by decide +kernel
theorem dX2_worth_5 : decode cX2_worth 5 = .ok (.iadd, 1) := by decide +kernel
theorem dX2_worth_6 : decode cX2_worth 6 = .ok (.istore_n 3, 1) := by decide +kernel
theorem dX2_worth_7 : decode cX2_worth 7 = .ok (.iload_n 0, 1) := by decide +kernel
theorem dX2_worth_8 : decode cX2_worth 8 = .ok (.tableswitch 96 1 5 #[36, 43, 50, 54, 76], 36) := by decide +kernel
theorem dX2_worth_44 : decode cX2_worth 44 = .ok (.iload_n 3, 1) := by decide +kernel
theorem dX2_worth_45 : decode cX2_worth 45 = .ok (.iload_n 2, 1) := by decide +kernel
theorem dX2_worth_46 : decode cX2_worth 46 = .ok (.invokestatic 31, 3) := by decide +kernel
theorem dX2_worth_49 : decode cX2_worth 49 = .ok (.iadd, 1) := by decide +kernel
theorem dX2_worth_50 : decode cX2_worth 50 = .ok (.ireturn, 1) := by decide +kernel
theorem dX2_worth_51 : decode cX2_worth 51 = .ok (.iload_n 3, 1) := by decide +kernel
theorem dX2_worth_52 : decode cX2_worth 52 = .ok (.iload_n 2, 1) := by decide +kernel
theorem dX2_worth_53 : decode cX2_worth 53 = .ok (.invokestatic 35, 3) := by decide +kernel
theorem dX2_worth_56 : decode cX2_worth 56 = .ok (.iadd, 1) := by decide +kernel
theorem dX2_worth_57 : decode cX2_worth 57 = .ok (.ireturn, 1) := by decide +kernel
theorem dX2_worth_58 : decode cX2_worth 58 = .ok (.iload_n 1, 1) := by decide +kernel
theorem dX2_worth_59 : decode cX2_worth 59 = .ok (.iconst 4, 1) := by decide +kernel
theorem dX2_worth_60 : decode cX2_worth 60 = .ok (.idiv, 1) := by decide +kernel
theorem dX2_worth_61 : decode cX2_worth 61 = .ok (.ireturn, 1) := by decide +kernel
theorem dX2_worth_62 : decode cX2_worth 62 = .ok (.iload_n 3, 1) := by decide +kernel
theorem dX2_worth_63 : decode cX2_worth 63 = .ok (.iload_n 2, 1) := by decide +kernel
theorem dX2_worth_64 : decode cX2_worth 64 = .ok (.invokestatic 31, 3) := by decide +kernel
theorem dX2_worth_67 : decode cX2_worth 67 = .ok (.iadd, 1) := by decide +kernel
theorem dX2_worth_68 : decode cX2_worth 68 = .ok (.iload_n 2, 1) := by decide +kernel
theorem dX2_worth_69 : decode cX2_worth 69 = .ok (.invokestatic 38, 3) := by decide +kernel
theorem dX2_worth_72 : decode cX2_worth 72 = .ok (.bipush 12, 2) := by decide +kernel
theorem dX2_worth_74 : decode cX2_worth 74 = .ok (.if_icmp .ne 7, 3) := by decide +kernel
theorem dX2_worth_77 : decode cX2_worth 77 = .ok (.iconst 2, 1) := by decide +kernel
theorem dX2_worth_78 : decode cX2_worth 78 = .ok (.goto 4, 3) := by decide +kernel
theorem dX2_worth_81 : decode cX2_worth 81 = .ok (.iconst 1, 1) := by decide +kernel
theorem dX2_worth_82 : decode cX2_worth 82 = .ok (.imul, 1) := by decide +kernel
theorem dX2_worth_83 : decode cX2_worth 83 = .ok (.ireturn, 1) := by decide +kernel
theorem dX2_worth_84 : decode cX2_worth 84 = .ok (.iload_n 3, 1) := by decide +kernel
theorem dX2_worth_85 : decode cX2_worth 85 = .ok (.iload_n 2, 1) := by decide +kernel
theorem dX2_worth_86 : decode cX2_worth 86 = .ok (.invokestatic 35, 3) := by decide +kernel
theorem dX2_worth_89 : decode cX2_worth 89 = .ok (.iadd, 1) := by decide +kernel
theorem dX2_worth_90 : decode cX2_worth 90 = .ok (.iload_n 2, 1) := by decide +kernel
theorem dX2_worth_91 : decode cX2_worth 91 = .ok (.invokestatic 43, 3) := by decide +kernel
theorem dX2_worth_94 : decode cX2_worth 94 = .ok (.ifCond .eq 7, 3) := by decide +kernel
theorem dX2_worth_97 : decode cX2_worth 97 = .ok (.iload_n 1, 1) := by decide +kernel
theorem dX2_worth_98 : decode cX2_worth 98 = .ok (.goto 4, 3) := by decide +kernel
theorem dX2_worth_101 : decode cX2_worth 101 = .ok (.iconst 0, 1) := by decide +kernel
theorem dX2_worth_102 : decode cX2_worth 102 = .ok (.iadd, 1) := by decide +kernel
theorem dX2_worth_103 : decode cX2_worth 103 = .ok (.ireturn, 1) := by decide +kernel
theorem dX2_worth_104 : decode cX2_worth 104 = .ok (.iload_n 3, 1) := by decide +kernel
theorem dX2_worth_105 : decode cX2_worth 105 = .ok (.ireturn, 1) := by decide +kernel
theorem dX2_seaLight_0 : decode cX2_seaLight 0 = .ok (.iload_n 0, 1) := by decide +kernel
theorem dX2_seaLight_1 : decode cX2_seaLight 1 = .ok (.invokestatic 38, 3) := by decide +kernel
theorem dX2_seaLight_4 : decode cX2_seaLight 4 = .ok (.istore_n 1, 1) := by decide +kernel
theorem dX2_seaLight_5 : decode cX2_seaLight 5 = .ok (.iload_n 1, 1) := by decide +kernel
theorem dX2_seaLight_6 : decode cX2_seaLight 6 = .ok (.bipush 6, 2) := by decide +kernel
theorem dX2_seaLight_8 : decode cX2_seaLight 8 = .ok (.if_icmp .lt 13, 3) := by decide +kernel
theorem dX2_seaLight_11 : decode cX2_seaLight 11 = .ok (.iload_n 1, 1) := by decide +kernel
theorem dX2_seaLight_12 : decode cX2_seaLight 12 = .ok (.bipush 17, 2) := by decide +kernel
theorem dX2_seaLight_14 : decode cX2_seaLight 14 = .ok (.if_icmp .gt 7, 3) := by decide +kernel
theorem dX2_seaLight_17 : decode cX2_seaLight 17 = .ok (.iconst 5, 1) := by decide +kernel
theorem dX2_seaLight_18 : decode cX2_seaLight 18 = .ok (.goto 4, 3) := by decide +kernel
theorem dX2_seaLight_21 : decode cX2_seaLight 21 = .ok (.iconst 0, 1) := by decide +kernel
theorem dX2_seaLight_22 : decode cX2_seaLight 22 = .ok (.ireturn, 1) := by decide +kernel
theorem dX2_streetLife_0 : decode cX2_streetLife 0 = .ok (.iload_n 0, 1) := by decide +kernel
theorem dX2_streetLife_1 : decode cX2_streetLife 1 = .ok (.invokestatic 38, 3) := by decide +kernel
theorem dX2_streetLife_4 : decode cX2_streetLife 4 = .ok (.iconst 2, 1) := by decide +kernel
theorem dX2_streetLife_5 : decode cX2_streetLife 5 = .ok (.irem, 1) := by decide +kernel
theorem dX2_streetLife_6 : decode cX2_streetLife 6 = .ok (.ifCond .ne 7, 3) := by decide +kernel
theorem dX2_streetLife_9 : decode cX2_streetLife 9 = .ok (.iconst 3, 1) := by decide +kernel
theorem dX2_streetLife_10 : decode cX2_streetLife 10 = .ok (.goto 4, 3) := by decide +kernel
theorem dX2_streetLife_13 : decode cX2_streetLife 13 = .ok (.iconst 0, 1) := by decide +kernel
theorem dX2_streetLife_14 : decode cX2_streetLife 14 = .ok (.ireturn, 1) := by decide +kernel
theorem dX2_wears_0 : decode cX2_wears 0 = .ok (.iload_n 0, 1) := by decide +kernel
theorem dX2_wears_1 : decode cX2_wears 1 = .ok (.lookupswitch 42 #[(2, 27), (5, 29)], 27) := by decide +kernel
theorem dX2_wears_28 : decode cX2_wears 28 = .ok (.iconst 1, 1) := by decide +kernel
theorem dX2_wears_29 : decode cX2_wears 29 = .ok (.ireturn, 1) := by decide +kernel
theorem dX2_wears_30 : decode cX2_wears 30 = .ok (.iload_n 1, 1) := by decide +kernel
theorem dX2_wears_31 : decode cX2_wears 31 = .ok (.invokestatic 43, 3) := by decide +kernel
theorem dX2_wears_34 : decode cX2_wears 34 = .ok (.ifCond .eq 7, 3) := by decide +kernel
theorem dX2_wears_37 : decode cX2_wears 37 = .ok (.iconst 0, 1) := by decide +kernel
theorem dX2_wears_38 : decode cX2_wears 38 = .ok (.goto 4, 3) := by decide +kernel
theorem dX2_wears_41 : decode cX2_wears 41 = .ok (.iconst 1, 1) := by decide +kernel
theorem dX2_wears_42 : decode cX2_wears 42 = .ok (.ireturn, 1) := by decide +kernel
theorem dX2_wears_43 : decode cX2_wears 43 = .ok (.iconst 0, 1) := by decide +kernel
theorem dX2_wears_44 : decode cX2_wears 44 = .ok (.ireturn, 1) := by decide +kernel
theorem dX2_soldFor_0 : decode cX2_soldFor 0 = .ok (.iconst 5, 1) := by decide +kernel
theorem dX2_soldFor_1 : decode cX2_soldFor 1 = .ok (.iload_n 1, 1) := by decide +kernel
theorem dX2_soldFor_2 : decode cX2_soldFor 2 = .ok (.imul, 1) := by decide +kernel
theorem dX2_soldFor_3 : decode cX2_soldFor 3 = .ok (.istore_n 3, 1) := by decide +kernel
theorem dX2_soldFor_4 : decode cX2_soldFor 4 = .ok (.iload_n 0, 1) := by decide +kernel
theorem dX2_soldFor_5 : decode cX2_soldFor 5 = .ok (.tableswitch 60 1 5 #[35, 60, 40, 35, 44], 35) := by decide +kernel
theorem dX2_soldFor_40 : decode cX2_soldFor 40 = .ok (.iload_n 3, 1) := by decide +kernel
theorem dX2_soldFor_41 : decode cX2_soldFor 41 = .ok (.bipush 50, 2) := by decide +kernel
theorem dX2_soldFor_43 : decode cX2_soldFor 43 = .ok (.iadd, 1) := by decide +kernel
theorem dX2_soldFor_44 : decode cX2_soldFor 44 = .ok (.ireturn, 1) := by decide +kernel
theorem dX2_soldFor_45 : decode cX2_soldFor 45 = .ok (.iconst 2, 1) := by decide +kernel
theorem dX2_soldFor_46 : decode cX2_soldFor 46 = .ok (.iload_n 3, 1) := by decide +kernel
theorem dX2_soldFor_47 : decode cX2_soldFor 47 = .ok (.imul, 1) := by decide +kernel
theorem dX2_soldFor_48 : decode cX2_soldFor 48 = .ok (.ireturn, 1) := by decide +kernel
theorem dX2_soldFor_49 : decode cX2_soldFor 49 = .ok (.iload_n 2, 1) := by decide +kernel
theorem dX2_soldFor_50 : decode cX2_soldFor 50 = .ok (.invokestatic 43, 3) := by decide +kernel
theorem dX2_soldFor_53 : decode cX2_soldFor 53 = .ok (.ifCond .eq 10, 3) := by decide +kernel
theorem dX2_soldFor_56 : decode cX2_soldFor 56 = .ok (.iload_n 3, 1) := by decide +kernel
theorem dX2_soldFor_57 : decode cX2_soldFor 57 = .ok (.bipush 100, 2) := by decide +kernel
theorem dX2_soldFor_59 : decode cX2_soldFor 59 = .ok (.iadd, 1) := by decide +kernel
theorem dX2_soldFor_60 : decode cX2_soldFor 60 = .ok (.goto 4, 3) := by decide +kernel
theorem dX2_soldFor_63 : decode cX2_soldFor 63 = .ok (.iload_n 3, 1) := by decide +kernel
theorem dX2_soldFor_64 : decode cX2_soldFor 64 = .ok (.ireturn, 1) := by decide +kernel
theorem dX2_soldFor_65 : decode cX2_soldFor 65 = .ok (.iload_n 3, 1) := by decide +kernel
theorem dX2_soldFor_66 : decode cX2_soldFor 66 = .ok (.ireturn, 1) := by decide +kernel
theorem dX2_fineBehind_0 : decode cX2_fineBehind 0 = .ok (.iload_n 2, 1) := by decide +kernel
theorem dX2_fineBehind_1 : decode cX2_fineBehind 1 = .ok (.invokestatic 38, 3) := by decide +kernel
theorem dX2_fineBehind_4 : decode cX2_fineBehind 4 = .ok (.ifCond .eq 5, 3) := by decide +kernel
theorem dX2_fineBehind_7 : decode cX2_fineBehind 7 = .ok (.iload_n 1, 1) := by decide +kernel
theorem dX2_fineBehind_8 : decode cX2_fineBehind 8 = .ok (.ireturn, 1) := by decide +kernel
theorem dX2_fineBehind_9 : decode cX2_fineBehind 9 = .ok (.iconst 0, 1) := by decide +kernel
theorem dX2_fineBehind_10 : decode cX2_fineBehind 10 = .ok (.iload_n 1, 1) := by decide +kernel
theorem dX2_fineBehind_11 : decode cX2_fineBehind 11 = .ok (.iload_n 0, 1) := by decide +kernel
theorem dX2_fineBehind_12 : decode cX2_fineBehind 12 = .ok (.iload_n 2, 1) := by decide +kernel
theorem dX2_fineBehind_13 : decode cX2_fineBehind 13 = .ok (.invokestatic 46, 3) := by decide +kernel
theorem dX2_fineBehind_16 : decode cX2_fineBehind 16 = .ok (.isub, 1) := by decide +kernel
theorem dX2_fineBehind_17 : decode cX2_fineBehind 17 = .ok (.invokestatic 50, 3) := by decide +kernel
theorem dX2_fineBehind_20 : decode cX2_fineBehind 20 = .ok (.ireturn, 1) := by decide +kernel
theorem dX2_worthInAll_0 : decode cX2_worthInAll 0 = .ok (.iconst 0, 1) := by decide +kernel
theorem dX2_worthInAll_1 : decode cX2_worthInAll 1 = .ok (.istore 4, 2) := by decide +kernel
theorem dX2_worthInAll_3 : decode cX2_worthInAll 3 = .ok (.iload_n 1, 1) := by decide +kernel
theorem dX2_worthInAll_4 : decode cX2_worthInAll 4 = .ok (.istore 5, 2) := by decide +kernel
theorem dX2_worthInAll_6 : decode cX2_worthInAll 6 = .ok (.iconst 0, 1) := by decide +kernel
theorem dX2_worthInAll_7 : decode cX2_worthInAll 7 = .ok (.istore 6, 2) := by decide +kernel
theorem dX2_worthInAll_9 : decode cX2_worthInAll 9 = .ok (.iload 6, 2) := by decide +kernel
theorem dX2_worthInAll_11 : decode cX2_worthInAll 11 = .ok (.iload_n 3, 1) := by decide +kernel
theorem dX2_worthInAll_12 : decode cX2_worthInAll 12 = .ok (.if_icmp .ge 36, 3) := by decide +kernel
theorem dX2_worthInAll_15 : decode cX2_worthInAll 15 = .ok (.iload 4, 2) := by decide +kernel
theorem dX2_worthInAll_17 : decode cX2_worthInAll 17 = .ok (.iload_n 0, 1) := by decide +kernel
theorem dX2_worthInAll_18 : decode cX2_worthInAll 18 = .ok (.iload 5, 2) := by decide +kernel
theorem dX2_worthInAll_20 : decode cX2_worthInAll 20 = .ok (.iload_n 2, 1) := by decide +kernel
theorem dX2_worthInAll_21 : decode cX2_worthInAll 21 = .ok (.iload 6, 2) := by decide +kernel
theorem dX2_worthInAll_23 : decode cX2_worthInAll 23 = .ok (.iadd, 1) := by decide +kernel
theorem dX2_worthInAll_24 : decode cX2_worthInAll 24 = .ok (.invokestatic 55, 3) := by decide +kernel
theorem dX2_worthInAll_27 : decode cX2_worthInAll 27 = .ok (.iadd, 1) := by decide +kernel
theorem dX2_worthInAll_28 : decode cX2_worthInAll 28 = .ok (.istore 4, 2) := by decide +kernel
theorem dX2_worthInAll_30 : decode cX2_worthInAll 30 = .ok (.iload_n 0, 1) := by decide +kernel
theorem dX2_worthInAll_31 : decode cX2_worthInAll 31 = .ok (.iload 5, 2) := by decide +kernel
theorem dX2_worthInAll_33 : decode cX2_worthInAll 33 = .ok (.iload_n 2, 1) := by decide +kernel
theorem dX2_worthInAll_34 : decode cX2_worthInAll 34 = .ok (.iload 6, 2) := by decide +kernel
theorem dX2_worthInAll_36 : decode cX2_worthInAll 36 = .ok (.iadd, 1) := by decide +kernel
theorem dX2_worthInAll_37 : decode cX2_worthInAll 37 = .ok (.invokestatic 59, 3) := by decide +kernel
theorem dX2_worthInAll_40 : decode cX2_worthInAll 40 = .ok (.istore 5, 2) := by decide +kernel
theorem dX2_worthInAll_42 : decode cX2_worthInAll 42 = .ok (.iinc 6 1, 3) := by decide +kernel
theorem dX2_worthInAll_45 : decode cX2_worthInAll 45 = .ok (.goto (-36), 3) := by decide +kernel
theorem dX2_worthInAll_48 : decode cX2_worthInAll 48 = .ok (.iload 4, 2) := by decide +kernel
theorem dX2_worthInAll_50 : decode cX2_worthInAll 50 = .ok (.ireturn, 1) := by decide +kernel
theorem dX3_init_0 : decode cX3_init 0 = .ok (.aload_n 0, 1) := by decide +kernel
theorem dX3_init_1 : decode cX3_init 1 = .ok (.invokespecial 3, 3) := by decide +kernel
theorem dX3_init_4 : decode cX3_init 4 = .ok (.aload_n 0, 1) := by decide +kernel
theorem dX3_init_5 : decode cX3_init 5 = .ok (.iconst 0, 1) := by decide +kernel
theorem dX3_init_6 : decode cX3_init 6 = .ok (.putfield 9, 3) := by decide +kernel
theorem dX3_init_9 : decode cX3_init 9 = .ok (.aload_n 0, 1) := by decide +kernel
theorem dX3_init_10 : decode cX3_init 10 = .ok (.iconst 0, 1) := by decide +kernel
theorem dX3_init_11 : decode cX3_init 11 = .ok (.putfield 15, 3) := by decide +kernel
theorem dX3_init_14 : decode cX3_init 14 = .ok (.aload_n 0, 1) := by decide +kernel
theorem dX3_init_15 : decode cX3_init 15 = .ok (.bipush 40, 2) := by decide +kernel
theorem dX3_init_17 : decode cX3_init 17 = .ok (.newarray .long, 2) := by decide +kernel
theorem dX3_init_19 : decode cX3_init 19 = .ok (.putfield 18, 3) := by decide +kernel
theorem dX3_init_22 : decode cX3_init 22 = .ok (.return_, 1) := by decide +kernel
theorem dX3_isMissing_0 : decode cX3_isMissing 0 = .ok (.aload_n 0, 1) := by decide +kernel
theorem dX3_isMissing_1 : decode cX3_isMissing 1 = .ok (.getfield 9, 3) := by decide +kernel
theorem dX3_isMissing_4 : decode cX3_isMissing 4 = .ok (.ifCond .ne 7, 3) := by decide +kernel
theorem dX3_isMissing_7 : decode cX3_isMissing 7 = .ok (.iconst 1, 1) := by decide +kernel
theorem dX3_isMissing_8 : decode cX3_isMissing 8 = .ok (.goto 4, 3) := by decide +kernel
theorem dX3_isMissing_11 : decode cX3_isMissing 11 = .ok (.iconst 0, 1) := by decide +kernel
theorem dX3_isMissing_12 : decode cX3_isMissing 12 = .ok (.ireturn, 1) := by decide +kernel
theorem dX3_begin_0 : decode cX3_begin 0 = .ok (.aload_n 0, 1) := by decide +kernel
theorem dX3_begin_1 : decode cX3_begin 1 = .ok (.iload_n 1, 1) := by decide +kernel
theorem dX3_begin_2 : decode cX3_begin 2 = .ok (.putfield 9, 3) := by decide +kernel
theorem dX3_begin_5 : decode cX3_begin 5 = .ok (.aload_n 0, 1) := by decide +kernel
theorem dX3_begin_6 : decode cX3_begin 6 = .ok (.iload_n 1, 1) := by decide +kernel
theorem dX3_begin_7 : decode cX3_begin 7 = .ok (.ifCond .ne 7, 3) := by decide +kernel
theorem dX3_begin_10 : decode cX3_begin 10 = .ok (.iconst 0, 1) := by decide +kernel
theorem dX3_begin_11 : decode cX3_begin 11 = .ok (.goto 4, 3) := by decide +kernel
theorem dX3_begin_14 : decode cX3_begin 14 = .ok (.iload_n 2, 1) := by decide +kernel
theorem dX3_begin_15 : decode cX3_begin 15 = .ok (.putfield 15, 3) := by decide +kernel
theorem dX3_begin_18 : decode cX3_begin 18 = .ok (.iconst 0, 1) := by decide +kernel
theorem dX3_begin_19 : decode cX3_begin 19 = .ok (.istore_n 3, 1) := by decide +kernel
theorem dX3_begin_20 : decode cX3_begin 20 = .ok (.iload_n 3, 1) := by decide +kernel
theorem dX3_begin_21 : decode cX3_begin 21 = .ok (.bipush 40, 2) := by decide +kernel
theorem dX3_begin_23 : decode cX3_begin 23 = .ok (.if_icmp .ge 16, 3) := by decide +kernel
theorem dX3_begin_26 : decode cX3_begin 26 = .ok (.aload_n 0, 1) := by decide +kernel
theorem dX3_begin_27 : decode cX3_begin 27 = .ok (.getfield 18, 3) := by decide +kernel
theorem dX3_begin_30 : decode cX3_begin 30 = .ok (.iload_n 3, 1) := by decide +kernel
theorem dX3_begin_31 : decode cX3_begin 31 = .ok (.lconst 0, 1) := by decide +kernel
theorem dX3_begin_32 : decode cX3_begin 32 = .ok (.lastore, 1) := by decide +kernel
theorem dX3_begin_33 : decode cX3_begin 33 = .ok (.iinc 3 1, 3) := by decide +kernel
theorem dX3_begin_36 : decode cX3_begin 36 = .ok (.goto (-16), 3) := by decide +kernel
theorem dX3_begin_39 : decode cX3_begin 39 = .ok (.return_, 1) := by decide +kernel
theorem dX3_put_0 : decode cX3_put 0 = .ok (.aload_n 0, 1) := by decide +kernel
theorem dX3_put_1 : decode cX3_put 1 = .ok (.getfield 9, 3) := by decide +kernel
theorem dX3_put_4 : decode cX3_put 4 = .ok (.lookupswitch 54 #[(8, 28), (16, 41)], 28) := by decide +kernel
theorem dX3_put_32 : decode cX3_put 32 = .ok (.aload_n 0, 1) := by decide +kernel
theorem dX3_put_33 : decode cX3_put 33 = .ok (.getfield 18, 3) := by decide +kernel
theorem dX3_put_36 : decode cX3_put 36 = .ok (.iload_n 1, 1) := by decide +kernel
theorem dX3_put_37 : decode cX3_put 37 = .ok (.lload_n 2, 1) := by decide +kernel
theorem dX3_put_38 : decode cX3_put 38 = .ok (.l2i, 1) := by decide +kernel
theorem dX3_put_39 : decode cX3_put 39 = .ok (.i2b, 1) := by decide +kernel
theorem dX3_put_40 : decode cX3_put 40 = .ok (.i2l, 1) := by decide +kernel
theorem dX3_put_41 : decode cX3_put 41 = .ok (.lastore, 1) := by decide +kernel
theorem dX3_put_42 : decode cX3_put 42 = .ok (.goto 23, 3) := by decide +kernel
theorem dX3_put_45 : decode cX3_put 45 = .ok (.aload_n 0, 1) := by decide +kernel
theorem dX3_put_46 : decode cX3_put 46 = .ok (.getfield 18, 3) := by decide +kernel
theorem dX3_put_49 : decode cX3_put 49 = .ok (.iload_n 1, 1) := by decide +kernel
theorem dX3_put_50 : decode cX3_put 50 = .ok (.lload_n 2, 1) := by decide +kernel
theorem dX3_put_51 : decode cX3_put 51 = .ok (.l2i, 1) := by decide +kernel
theorem dX3_put_52 : decode cX3_put 52 = .ok (.i2s, 1) := by decide +kernel
theorem dX3_put_53 : decode cX3_put 53 = .ok (.i2l, 1) := by decide +kernel
theorem dX3_put_54 : decode cX3_put 54 = .ok (.lastore, 1) := by decide +kernel
theorem dX3_put_55 : decode cX3_put 55 = .ok (.goto 10, 3) := by decide +kernel
theorem dX3_put_58 : decode cX3_put 58 = .ok (.aload_n 0, 1) := by decide +kernel
theorem dX3_put_59 : decode cX3_put 59 = .ok (.getfield 18, 3) := by decide +kernel
theorem dX3_put_62 : decode cX3_put 62 = .ok (.iload_n 1, 1) := by decide +kernel
theorem dX3_put_63 : decode cX3_put 63 = .ok (.lload_n 2, 1) := by decide +kernel
theorem dX3_put_64 : decode cX3_put 64 = .ok (.lastore, 1) := by decide +kernel
theorem dX3_put_65 : decode cX3_put 65 = .ok (.return_, 1) := by decide +kernel
theorem dX3_hasRange_0 : decode cX3_hasRange 0 = .ok (.iload_n 1, 1) := by decide +kernel
theorem dX3_hasRange_1 : decode cX3_hasRange 1 = .ok (.ifCond .lt 29, 3) := by decide +kernel
theorem dX3_hasRange_4 : decode cX3_hasRange 4 = .ok (.iload_n 2, 1) := by decide +kernel
theorem dX3_hasRange_5 : decode cX3_hasRange 5 = .ok (.ifCond .lt 25, 3) := by decide +kernel
theorem dX3_hasRange_8 : decode cX3_hasRange 8 = .ok (.iload_n 2, 1) := by decide +kernel
theorem dX3_hasRange_9 : decode cX3_hasRange 9 = .ok (.aload_n 0, 1) := by decide +kernel
theorem dX3_hasRange_10 : decode cX3_hasRange 10 = .ok (.getfield 15, 3) := by decide +kernel
theorem dX3_hasRange_13 : decode cX3_hasRange 13 = .ok (.if_icmp .gt 17, 3) := by decide +kernel
theorem dX3_hasRange_16 : decode cX3_hasRange 16 = .ok (.iload_n 1, 1) := by decide +kernel
theorem dX3_hasRange_17 : decode cX3_hasRange 17 = .ok (.aload_n 0, 1) := by decide +kernel
theorem dX3_hasRange_18 : decode cX3_hasRange 18 = .ok (.getfield 15, 3) := by decide +kernel
theorem dX3_hasRange_21 : decode cX3_hasRange 21 = .ok (.iload_n 2, 1) := by decide +kernel
theorem dX3_hasRange_22 : decode cX3_hasRange 22 = .ok (.isub, 1) := by decide +kernel
theorem dX3_hasRange_23 : decode cX3_hasRange 23 = .ok (.if_icmp .gt 7, 3) := by decide +kernel
theorem dX3_hasRange_26 : decode cX3_hasRange 26 = .ok (.iconst 1, 1) := by decide +kernel
theorem dX3_hasRange_27 : decode cX3_hasRange 27 = .ok (.goto 4, 3) := by decide +kernel
theorem dX3_hasRange_30 : decode cX3_hasRange 30 = .ok (.iconst 0, 1) := by decide +kernel
theorem dX3_hasRange_31 : decode cX3_hasRange 31 = .ok (.ireturn, 1) := by decide +kernel
theorem dX4_init_0 : decode cX4_init 0 = .ok (.aload_n 0, 1) := by decide +kernel
theorem dX4_init_1 : decode cX4_init 1 = .ok (.invokespecial 3, 3) := by decide +kernel
theorem dX4_init_4 : decode cX4_init 4 = .ok (.aload_n 0, 1) := by decide +kernel
theorem dX4_init_5 : decode cX4_init 5 = .ok (.bipush 120, 2) := by decide +kernel
theorem dX4_init_7 : decode cX4_init 7 = .ok (.newarray .int, 2) := by decide +kernel
theorem dX4_init_9 : decode cX4_init 9 = .ok (.putfield 9, 3) := by decide +kernel
theorem dX4_init_12 : decode cX4_init 12 = .ok (.aload_n 0, 1) := by decide +kernel
theorem dX4_init_13 : decode cX4_init 13 = .ok (.iconst 0, 1) := by decide +kernel
theorem dX4_init_14 : decode cX4_init 14 = .ok (.putfield 15, 3) := by decide +kernel
theorem dX4_init_17 : decode cX4_init 17 = .ok (.aload_n 0, 1) := by decide +kernel
theorem dX4_init_18 : decode cX4_init 18 = .ok (.iconst 0, 1) := by decide +kernel
theorem dX4_init_19 : decode cX4_init 19 = .ok (.putfield 19, 3) := by decide +kernel
theorem dX4_init_22 : decode cX4_init 22 = .ok (.aload_n 0, 1) := by decide +kernel
theorem dX4_init_23 : decode cX4_init 23 = .ok (.iconst 0, 1) := by decide +kernel
theorem dX4_init_24 : decode cX4_init 24 = .ok (.putfield 22, 3) := by decide +kernel
theorem dX4_init_27 : decode cX4_init 27 = .ok (.aload_n 0, 1) := by decide +kernel
theorem dX4_init_28 : decode cX4_init 28 = .ok (.iconst 0, 1) := by decide +kernel
theorem dX4_init_29 : decode cX4_init 29 = .ok (.putfield 25, 3) := by decide +kernel
theorem dX4_init_32 : decode cX4_init 32 = .ok (.aload_n 0, 1) := by decide +kernel
theorem dX4_init_33 : decode cX4_init 33 = .ok (.iconst 0, 1) := by decide +kernel
theorem dX4_init_34 : decode cX4_init 34 = .ok (.putfield 28, 3) := by decide +kernel
theorem dX4_init_37 : decode cX4_init 37 = .ok (.return_, 1) := by decide +kernel
theorem dX4_hasRoomFor_0 : decode cX4_hasRoomFor 0 = .ok (.aload_n 0, 1) := by decide +kernel
theorem dX4_hasRoomFor_1 : decode cX4_hasRoomFor 1 = .ok (.getfield 15, 3) := by decide +kernel
theorem dX4_hasRoomFor_4 : decode cX4_hasRoomFor 4 = .ok (.iload_n 1, 1) := by decide +kernel
theorem dX4_hasRoomFor_5 : decode cX4_hasRoomFor 5 = .ok (.iadd, 1) := by decide +kernel
theorem dX4_hasRoomFor_6 : decode cX4_hasRoomFor 6 = .ok (.bipush 120, 2) := by decide +kernel
theorem dX4_hasRoomFor_8 : decode cX4_hasRoomFor 8 = .ok (.if_icmp .gt 7, 3) := by decide +kernel
theorem dX4_hasRoomFor_11 : decode cX4_hasRoomFor 11 = .ok (.iconst 1, 1) := by decide +kernel
theorem dX4_hasRoomFor_12 : decode cX4_hasRoomFor 12 = .ok (.goto 4, 3) := by decide +kernel
theorem dX4_hasRoomFor_15 : decode cX4_hasRoomFor 15 = .ok (.iconst 0, 1) := by decide +kernel
theorem dX4_hasRoomFor_16 : decode cX4_hasRoomFor 16 = .ok (.ireturn, 1) := by decide +kernel
theorem dX4_append_0 : decode cX4_append 0 = .ok (.iload_n 2, 1) := by decide +kernel
theorem dX4_append_1 : decode cX4_append 1 = .ok (.iconst 1, 1) := by decide +kernel
theorem dX4_append_2 : decode cX4_append 2 = .ok (.isub, 1) := by decide +kernel
theorem dX4_append_3 : decode cX4_append 3 = .ok (.istore_n 3, 1) := by decide +kernel
theorem dX4_append_4 : decode cX4_append 4 = .ok (.iload_n 3, 1) := by decide +kernel
theorem dX4_append_5 : decode cX4_append 5 = .ok (.ifCond .lt 38, 3) := by decide +kernel
theorem dX4_append_8 : decode cX4_append 8 = .ok (.aload_n 0, 1) := by decide +kernel
theorem dX4_append_9 : decode cX4_append 9 = .ok (.getfield 9, 3) := by decide +kernel
theorem dX4_append_12 : decode cX4_append 12 = .ok (.aload_n 0, 1) := by decide +kernel
theorem dX4_append_13 : decode cX4_append 13 = .ok (.getfield 15, 3) := by decide +kernel
theorem dX4_append_16 : decode cX4_append 16 = .ok (.iload_n 1, 1) := by decide +kernel
theorem dX4_append_17 : decode cX4_append 17 = .ok (.bipush 8, 2) := by decide +kernel
theorem dX4_append_19 : decode cX4_append 19 = .ok (.iload_n 3, 1) := by decide +kernel
theorem dX4_append_20 : decode cX4_append 20 = .ok (.imul, 1) := by decide +kernel
theorem dX4_append_21 : decode cX4_append 21 = .ok (.ishr, 1) := by decide +kernel
theorem dX4_append_22 : decode cX4_append 22 = .ok (.sipush 255, 3) := by decide +kernel
theorem dX4_append_25 : decode cX4_append 25 = .ok (.iand, 1) := by decide +kernel
theorem dX4_append_26 : decode cX4_append 26 = .ok (.iastore, 1) := by decide +kernel
theorem dX4_append_27 : decode cX4_append 27 = .ok (.aload_n 0, 1) := by decide +kernel
theorem dX4_append_28 : decode cX4_append 28 = .ok (.dup, 1) := by decide +kernel
theorem dX4_append_29 : decode cX4_append 29 = .ok (.getfield 15, 3) := by decide +kernel
theorem dX4_append_32 : decode cX4_append 32 = .ok (.iconst 1, 1) := by decide +kernel
theorem dX4_append_33 : decode cX4_append 33 = .ok (.iadd, 1) := by decide +kernel
theorem dX4_append_34 : decode cX4_append 34 = .ok (.putfield 15, 3) := by decide +kernel
theorem dX4_append_37 : decode cX4_append 37 = .ok (.iinc 3 (-1), 3) := by decide +kernel
theorem dX4_append_40 : decode cX4_append 40 = .ok (.goto (-36), 3) := by decide +kernel
theorem dX4_append_43 : decode cX4_append 43 = .ok (.return_, 1) := by decide +kernel
theorem dX4_clear_0 : decode cX4_clear 0 = .ok (.aload_n 0, 1) := by decide +kernel
theorem dX4_clear_1 : decode cX4_clear 1 = .ok (.getfield 15, 3) := by decide +kernel
theorem dX4_clear_4 : decode cX4_clear 4 = .ok (.istore_n 1, 1) := by decide +kernel
theorem dX4_clear_5 : decode cX4_clear 5 = .ok (.aload_n 0, 1) := by decide +kernel
theorem dX4_clear_6 : decode cX4_clear 6 = .ok (.iconst 0, 1) := by decide +kernel
theorem dX4_clear_7 : decode cX4_clear 7 = .ok (.putfield 15, 3) := by decide +kernel
theorem dX4_clear_10 : decode cX4_clear 10 = .ok (.iload_n 1, 1) := by decide +kernel
theorem dX4_clear_11 : decode cX4_clear 11 = .ok (.ireturn, 1) := by decide +kernel
theorem dX4_readOnto_0 : decode cX4_readOnto 0 = .ok (.aload_n 0, 1) := by decide +kernel
theorem dX4_readOnto_1 : decode cX4_readOnto 1 = .ok (.iconst 0, 1) := by decide +kernel
theorem dX4_readOnto_2 : decode cX4_readOnto 2 = .ok (.putfield 25, 3) := by decide +kernel
theorem dX4_readOnto_5 : decode cX4_readOnto 5 = .ok (.aload_n 0, 1) := by decide +kernel
theorem dX4_readOnto_6 : decode cX4_readOnto 6 = .ok (.invokevirtual 31, 3) := by decide +kernel
theorem dX4_readOnto_9 : decode cX4_readOnto 9 = .ok (.iconst 1, 1) := by decide +kernel
theorem dX4_readOnto_10 : decode cX4_readOnto 10 = .ok (.istore_n 2, 1) := by decide +kernel
theorem dX4_readOnto_11 : decode cX4_readOnto 11 = .ok (.iload_n 2, 1) := by decide +kernel
theorem dX4_readOnto_12 : decode cX4_readOnto 12 = .ok (.bipush 120, 2) := by decide +kernel
theorem dX4_readOnto_14 : decode cX4_readOnto 14 = .ok (.if_icmp .gt 52, 3) := by decide +kernel
theorem dX4_readOnto_17 : decode cX4_readOnto 17 = .ok (.aload_n 0, 1) := by decide +kernel
theorem dX4_readOnto_18 : decode cX4_readOnto 18 = .ok (.aload_n 1, 1) := by decide +kernel
theorem dX4_readOnto_19 : decode cX4_readOnto 19 = .ok (.invokevirtual 34, 3) := by decide +kernel
theorem dX4_readOnto_22 : decode cX4_readOnto 22 = .ok (.ifCond .ne 10, 3) := by decide +kernel
theorem dX4_readOnto_25 : decode cX4_readOnto 25 = .ok (.iconst (-1), 1) := by decide +kernel
theorem dX4_readOnto_26 : decode cX4_readOnto 26 = .ok (.aload_n 0, 1) := by decide +kernel
theorem dX4_readOnto_27 : decode cX4_readOnto 27 = .ok (.getfield 22, 3) := by decide +kernel
theorem dX4_readOnto_30 : decode cX4_readOnto 30 = .ok (.isub, 1) := by decide +kernel
theorem dX4_readOnto_31 : decode cX4_readOnto 31 = .ok (.ireturn, 1) := by decide +kernel
theorem dX4_readOnto_32 : decode cX4_readOnto 32 = .ok (.aload_n 0, 1) := by decide +kernel
theorem dX4_readOnto_33 : decode cX4_readOnto 33 = .ok (.getfield 19, 3) := by decide +kernel
theorem dX4_readOnto_36 : decode cX4_readOnto 36 = .ok (.ifCond .ne 5, 3) := by decide +kernel
theorem dX4_readOnto_39 : decode cX4_readOnto 39 = .ok (.iload_n 2, 1) := by decide +kernel
theorem dX4_readOnto_40 : decode cX4_readOnto 40 = .ok (.ireturn, 1) := by decide +kernel
theorem dX4_readOnto_41 : decode cX4_readOnto 41 = .ok (.aload_n 0, 1) := by decide +kernel
theorem dX4_readOnto_42 : decode cX4_readOnto 42 = .ok (.getfield 19, 3) := by decide +kernel
theorem dX4_readOnto_45 : decode cX4_readOnto 45 = .ok (.iconst 3, 1) := by decide +kernel
theorem dX4_readOnto_46 : decode cX4_readOnto 46 = .ok (.if_icmp .eq 10, 3) := by decide +kernel
theorem dX4_readOnto_49 : decode cX4_readOnto 49 = .ok (.iconst (-1), 1) := by decide +kernel
theorem dX4_readOnto_50 : decode cX4_readOnto 50 = .ok (.aload_n 0, 1) := by decide +kernel
theorem dX4_readOnto_51 : decode cX4_readOnto 51 = .ok (.getfield 22, 3) := by decide +kernel
theorem dX4_readOnto_54 : decode cX4_readOnto 54 = .ok (.isub, 1) := by decide +kernel
theorem dX4_readOnto_55 : decode cX4_readOnto 55 = .ok (.ireturn, 1) := by decide +kernel
theorem dX4_readOnto_56 : decode cX4_readOnto 56 = .ok (.aload_n 0, 1) := by decide +kernel
theorem dX4_readOnto_57 : decode cX4_readOnto 57 = .ok (.invokevirtual 31, 3) := by decide +kernel
theorem dX4_readOnto_60 : decode cX4_readOnto 60 = .ok (.iinc 2 1, 3) := by decide +kernel
theorem dX4_readOnto_63 : decode cX4_readOnto 63 = .ok (.goto (-52), 3) := by decide +kernel
theorem dX4_readOnto_66 : decode cX4_readOnto 66 = .ok (.iconst (-1), 1) := by decide +kernel
theorem dX4_readOnto_67 : decode cX4_readOnto 67 = .ok (.aload_n 0, 1) := by decide +kernel
theorem dX4_readOnto_68 : decode cX4_readOnto 68 = .ok (.getfield 22, 3) := by decide +kernel
theorem dX4_readOnto_71 : decode cX4_readOnto 71 = .ok (.isub, 1) := by decide +kernel
theorem dX4_readOnto_72 : decode cX4_readOnto 72 = .ok (.ireturn, 1) := by decide +kernel
theorem dX4_readItem_0 : decode cX4_readItem 0 = .ok (.aload_n 0, 1) := by decide +kernel
theorem dX4_readItem_1 : decode cX4_readItem 1 = .ok (.invokevirtual 38, 3) := by decide +kernel
theorem dX4_readItem_4 : decode cX4_readItem 4 = .ok (.istore_n 2, 1) := by decide +kernel
theorem dX4_readItem_5 : decode cX4_readItem 5 = .ok (.iload_n 2, 1) := by decide +kernel
theorem dX4_readItem_6 : decode cX4_readItem 6 = .ok (.invokestatic 42, 3) := by decide +kernel
theorem dX4_readItem_9 : decode cX4_readItem 9 = .ok (.ifCond .eq 10, 3) := by decide +kernel
theorem dX4_readItem_12 : decode cX4_readItem 12 = .ok (.aload_n 0, 1) := by decide +kernel
theorem dX4_readItem_13 : decode cX4_readItem 13 = .ok (.aload_n 1, 1) := by decide +kernel
theorem dX4_readItem_14 : decode cX4_readItem 14 = .ok (.iload_n 2, 1) := by decide +kernel
theorem dX4_readItem_15 : decode cX4_readItem 15 = .ok (.invokevirtual 48, 3) := by decide +kernel
theorem dX4_readItem_18 : decode cX4_readItem 18 = .ok (.ireturn, 1) := by decide +kernel
theorem dX4_readItem_19 : decode cX4_readItem 19 = .ok (.aload_n 0, 1) := by decide +kernel
theorem dX4_readItem_20 : decode cX4_readItem 20 = .ok (.ldc 52, 2) := by decide +kernel
theorem dX4_readItem_22 : decode cX4_readItem 22 = .ok (.invokevirtual 54, 3) := by decide +kernel
theorem dX4_readItem_25 : decode cX4_readItem 25 = .ok (.ifCond .eq 9, 3) := by decide +kernel
theorem dX4_readItem_28 : decode cX4_readItem 28 = .ok (.aload_n 0, 1) := by decide +kernel
theorem dX4_readItem_29 : decode cX4_readItem 29 = .ok (.aload_n 1, 1) := by decide +kernel
theorem dX4_readItem_30 : decode cX4_readItem 30 = .ok (.invokevirtual 58, 3) := by decide +kernel
theorem dX4_readItem_33 : decode cX4_readItem 33 = .ok (.ireturn, 1) := by decide +kernel
theorem dX4_readItem_34 : decode cX4_readItem 34 = .ok (.aload_n 0, 1) := by decide +kernel
theorem dX4_readItem_35 : decode cX4_readItem 35 = .ok (.ldc 61, 2) := by decide +kernel
theorem dX4_readItem_37 : decode cX4_readItem 37 = .ok (.invokevirtual 54, 3) := by decide +kernel
theorem dX4_readItem_40 : decode cX4_readItem 40 = .ok (.ifCond .eq 9, 3) := by decide +kernel
theorem dX4_readItem_43 : decode cX4_readItem 43 = .ok (.aload_n 0, 1) := by decide +kernel
theorem dX4_readItem_44 : decode cX4_readItem 44 = .ok (.aload_n 1, 1) := by decide +kernel
theorem dX4_readItem_45 : decode cX4_readItem 45 = .ok (.invokevirtual 63, 3) := by decide +kernel
theorem dX4_readItem_48 : decode cX4_readItem 48 = .ok (.ireturn, 1) := by decide +kernel
theorem dX4_readItem_49 : decode cX4_readItem 49 = .ok (.iconst 0, 1) := by decide +kernel
theorem dX4_readItem_50 : decode cX4_readItem 50 = .ok (.ireturn, 1) := by decide +kernel
theorem dX4_readFrame_0 : decode cX4_readFrame 0 = .ok (.aload_n 1, 1) := by decide +kernel
theorem dX4_readFrame_1 : decode cX4_readFrame 1 = .ok (.getfield 66, 3) := by decide +kernel
theorem dX4_readFrame_4 : decode cX4_readFrame 4 = .ok (.bipush 8, 2) := by decide +kernel
theorem dX4_readFrame_6 : decode cX4_readFrame 6 = .ok (.if_icmp .lt 5, 3) := by decide +kernel
theorem dX4_readFrame_9 : decode cX4_readFrame 9 = .ok (.iconst 0, 1) := by decide +kernel
theorem dX4_readFrame_10 : decode cX4_readFrame 10 = .ok (.ireturn, 1) := by decide +kernel
theorem dX4_readFrame_11 : decode cX4_readFrame 11 = .ok (.aload_n 0, 1) := by decide +kernel
theorem dX4_readFrame_12 : decode cX4_readFrame 12 = .ok (.invokevirtual 31, 3) := by decide +kernel
theorem dX4_readFrame_15 : decode cX4_readFrame 15 = .ok (.aload_n 0, 1) := by decide +kernel
theorem dX4_readFrame_16 : decode cX4_readFrame 16 = .ok (.iconst 3, 1) := by decide +kernel
theorem dX4_readFrame_17 : decode cX4_readFrame 17 = .ok (.invokevirtual 71, 3) := by decide +kernel
theorem dX4_readFrame_20 : decode cX4_readFrame 20 = .ok (.ifCond .ne 5, 3) := by decide +kernel
theorem dX4_readFrame_23 : decode cX4_readFrame 23 = .ok (.iconst 0, 1) := by decide +kernel
theorem dX4_readFrame_24 : decode cX4_readFrame 24 = .ok (.ireturn, 1) := by decide +kernel
theorem dX4_readFrame_25 : decode cX4_readFrame 25 = .ok (.aload_n 1, 1) := by decide +kernel
theorem dX4_readFrame_26 : decode cX4_readFrame 26 = .ok (.iload_n 2, 1) := by decide +kernel
theorem dX4_readFrame_27 : decode cX4_readFrame 27 = .ok (.aload_n 0, 1) := by decide +kernel
theorem dX4_readFrame_28 : decode cX4_readFrame 28 = .ok (.getfield 28, 3) := by decide +kernel
theorem dX4_readFrame_31 : decode cX4_readFrame 31 = .ok (.invokevirtual 74, 3) := by decide +kernel
theorem dX4_readFrame_34 : decode cX4_readFrame 34 = .ok (.istore_n 3, 1) := by decide +kernel
theorem dX4_readFrame_35 : decode cX4_readFrame 35 = .ok (.aload_n 0, 1) := by decide +kernel
theorem dX4_readFrame_36 : decode cX4_readFrame 36 = .ok (.invokevirtual 31, 3) := by decide +kernel
theorem dX4_readFrame_39 : decode cX4_readFrame 39 = .ok (.aload_n 0, 1) := by decide +kernel
theorem dX4_readFrame_40 : decode cX4_readFrame 40 = .ok (.ldc 78, 2) := by decide +kernel
theorem dX4_readFrame_42 : decode cX4_readFrame 42 = .ok (.invokevirtual 54, 3) := by decide +kernel
theorem dX4_readFrame_45 : decode cX4_readFrame 45 = .ok (.ifCond .eq 32, 3) := by decide +kernel
theorem dX4_readFrame_48 : decode cX4_readFrame 48 = .ok (.aload_n 0, 1) := by decide +kernel
theorem dX4_readFrame_49 : decode cX4_readFrame 49 = .ok (.invokevirtual 31, 3) := by decide +kernel
theorem dX4_readFrame_52 : decode cX4_readFrame 52 = .ok (.aload_n 0, 1) := by decide +kernel
theorem dX4_readFrame_53 : decode cX4_readFrame 53 = .ok (.bipush 99, 2) := by decide +kernel
theorem dX4_readFrame_55 : decode cX4_readFrame 55 = .ok (.invokevirtual 71, 3) := by decide +kernel
theorem dX4_readFrame_58 : decode cX4_readFrame 58 = .ok (.ifCond .ne 5, 3) := by decide +kernel
theorem dX4_readFrame_61 : decode cX4_readFrame 61 = .ok (.iconst 0, 1) := by decide +kernel
theorem dX4_readFrame_62 : decode cX4_readFrame 62 = .ok (.ireturn, 1) := by decide +kernel
theorem dX4_readFrame_63 : decode cX4_readFrame 63 = .ok (.aload_n 1, 1) := by decide +kernel
theorem dX4_readFrame_64 : decode cX4_readFrame 64 = .ok (.getfield 80, 3) := by decide +kernel
theorem dX4_readFrame_67 : decode cX4_readFrame 67 = .ok (.iload_n 3, 1) := by decide +kernel
theorem dX4_readFrame_68 : decode cX4_readFrame 68 = .ok (.aload_n 0, 1) := by decide +kernel
theorem dX4_readFrame_69 : decode cX4_readFrame 69 = .ok (.getfield 28, 3) := by decide +kernel
theorem dX4_readFrame_72 : decode cX4_readFrame 72 = .ok (.iastore, 1) := by decide +kernel
theorem dX4_readFrame_73 : decode cX4_readFrame 73 = .ok (.aload_n 0, 1) := by decide +kernel
theorem dX4_readFrame_74 : decode cX4_readFrame 74 = .ok (.invokevirtual 31, 3) := by decide +kernel
theorem dX4_readFrame_77 : decode cX4_readFrame 77 = .ok (.aload_n 0, 1) := by decide +kernel
theorem dX4_readFrame_78 : decode cX4_readFrame 78 = .ok (.ldc 82, 2) := by decide +kernel
theorem dX4_readFrame_80 : decode cX4_readFrame 80 = .ok (.invokevirtual 54, 3) := by decide +kernel
theorem dX4_readFrame_83 : decode cX4_readFrame 83 = .ok (.ifCond .eq 14, 3) := by decide +kernel
theorem dX4_readFrame_86 : decode cX4_readFrame 86 = .ok (.aload_n 1, 1) := by decide +kernel
theorem dX4_readFrame_87 : decode cX4_readFrame 87 = .ok (.getfield 84, 3) := by decide +kernel
theorem dX4_readFrame_90 : decode cX4_readFrame 90 = .ok (.iload_n 3, 1) := by decide +kernel
theorem dX4_readFrame_91 : decode cX4_readFrame 91 = .ok (.iconst 1, 1) := by decide +kernel
theorem dX4_readFrame_92 : decode cX4_readFrame 92 = .ok (.iastore, 1) := by decide +kernel
theorem dX4_readFrame_93 : decode cX4_readFrame 93 = .ok (.aload_n 0, 1) := by decide +kernel
theorem dX4_readFrame_94 : decode cX4_readFrame 94 = .ok (.invokevirtual 31, 3) := by decide +kernel
theorem dX4_readFrame_97 : decode cX4_readFrame 97 = .ok (.iconst 1, 1) := by decide +kernel
theorem dX4_readFrame_98 : decode cX4_readFrame 98 = .ok (.ireturn, 1) := by decide +kernel
theorem dX4_readTrade_0 : decode cX4_readTrade 0 = .ok (.aload_n 0, 1) := by decide +kernel
theorem dX4_readTrade_1 : decode cX4_readTrade 1 = .ok (.invokevirtual 31, 3) := by decide +kernel
theorem dX4_readTrade_4 : decode cX4_readTrade 4 = .ok (.aload_n 0, 1) := by decide +kernel
theorem dX4_readTrade_5 : decode cX4_readTrade 5 = .ok (.aload_n 1, 1) := by decide +kernel
theorem dX4_readTrade_6 : decode cX4_readTrade 6 = .ok (.getfield 66, 3) := by decide +kernel
theorem dX4_readTrade_9 : decode cX4_readTrade 9 = .ok (.iconst 1, 1) := by decide +kernel
theorem dX4_readTrade_10 : decode cX4_readTrade 10 = .ok (.isub, 1) := by decide +kernel
theorem dX4_readTrade_11 : decode cX4_readTrade 11 = .ok (.invokevirtual 71, 3) := by decide +kernel
theorem dX4_readTrade_14 : decode cX4_readTrade 14 = .ok (.ifCond .ne 5, 3) := by decide +kernel
theorem dX4_readTrade_17 : decode cX4_readTrade 17 = .ok (.iconst 0, 1) := by decide +kernel
theorem dX4_readTrade_18 : decode cX4_readTrade 18 = .ok (.ireturn, 1) := by decide +kernel
theorem dX4_readTrade_19 : decode cX4_readTrade 19 = .ok (.aload_n 0, 1) := by decide +kernel
theorem dX4_readTrade_20 : decode cX4_readTrade 20 = .ok (.getfield 28, 3) := by decide +kernel
theorem dX4_readTrade_23 : decode cX4_readTrade 23 = .ok (.istore_n 2, 1) := by decide +kernel
theorem dX4_readTrade_24 : decode cX4_readTrade 24 = .ok (.aload_n 0, 1) := by decide +kernel
theorem dX4_readTrade_25 : decode cX4_readTrade 25 = .ok (.invokevirtual 31, 3) := by decide +kernel
theorem dX4_readTrade_28 : decode cX4_readTrade 28 = .ok (.aload_n 0, 1) := by decide +kernel
theorem dX4_readTrade_29 : decode cX4_readTrade 29 = .ok (.aload_n 1, 1) := by decide +kernel
theorem dX4_readTrade_30 : decode cX4_readTrade 30 = .ok (.getfield 66, 3) := by decide +kernel
theorem dX4_readTrade_33 : decode cX4_readTrade 33 = .ok (.iconst 1, 1) := by decide +kernel
theorem dX4_readTrade_34 : decode cX4_readTrade 34 = .ok (.isub, 1) := by decide +kernel
theorem dX4_readTrade_35 : decode cX4_readTrade 35 = .ok (.invokevirtual 71, 3) := by decide +kernel
theorem dX4_readTrade_38 : decode cX4_readTrade 38 = .ok (.ifCond .eq 11, 3) := by decide +kernel
theorem dX4_readTrade_41 : decode cX4_readTrade 41 = .ok (.aload_n 0, 1) := by decide +kernel
theorem dX4_readTrade_42 : decode cX4_readTrade 42 = .ok (.getfield 28, 3) := by decide +kernel
theorem dX4_readTrade_45 : decode cX4_readTrade 45 = .ok (.iload_n 2, 1) := by decide +kernel
theorem dX4_readTrade_46 : decode cX4_readTrade 46 = .ok (.if_icmp .ne 5, 3) := by decide +kernel
theorem dX4_readTrade_49 : decode cX4_readTrade 49 = .ok (.iconst 0, 1) := by decide +kernel
theorem dX4_readTrade_50 : decode cX4_readTrade 50 = .ok (.ireturn, 1) := by decide +kernel
theorem dX4_readTrade_51 : decode cX4_readTrade 51 = .ok (.aload_n 1, 1) := by decide +kernel
theorem dX4_readTrade_52 : decode cX4_readTrade 52 = .ok (.iload_n 2, 1) := by decide +kernel
theorem dX4_readTrade_53 : decode cX4_readTrade 53 = .ok (.aload_n 0, 1) := by decide +kernel
theorem dX4_readTrade_54 : decode cX4_readTrade 54 = .ok (.getfield 28, 3) := by decide +kernel
theorem dX4_readTrade_57 : decode cX4_readTrade 57 = .ok (.invokevirtual 86, 3) := by decide +kernel
theorem dX4_readTrade_60 : decode cX4_readTrade 60 = .ok (.aload_n 0, 1) := by decide +kernel
theorem dX4_readTrade_61 : decode cX4_readTrade 61 = .ok (.invokevirtual 31, 3) := by decide +kernel
theorem dX4_readTrade_64 : decode cX4_readTrade 64 = .ok (.iconst 1, 1) := by decide +kernel
theorem dX4_readTrade_65 : decode cX4_readTrade 65 = .ok (.ireturn, 1) := by decide +kernel
theorem dX4_readMoney_0 : decode cX4_readMoney 0 = .ok (.aload_n 0, 1) := by decide +kernel
theorem dX4_readMoney_1 : decode cX4_readMoney 1 = .ok (.invokevirtual 31, 3) := by decide +kernel
theorem dX4_readMoney_4 : decode cX4_readMoney 4 = .ok (.aload_n 0, 1) := by decide +kernel
theorem dX4_readMoney_5 : decode cX4_readMoney 5 = .ok (.iconst 3, 1) := by decide +kernel
theorem dX4_readMoney_6 : decode cX4_readMoney 6 = .ok (.invokevirtual 71, 3) := by decide +kernel
theorem dX4_readMoney_9 : decode cX4_readMoney 9 = .ok (.ifCond .ne 5, 3) := by decide +kernel
theorem dX4_readMoney_12 : decode cX4_readMoney 12 = .ok (.iconst 0, 1) := by decide +kernel
theorem dX4_readMoney_13 : decode cX4_readMoney 13 = .ok (.ireturn, 1) := by decide +kernel
theorem dX4_readMoney_14 : decode cX4_readMoney 14 = .ok (.aload_n 0, 1) := by decide +kernel
theorem dX4_readMoney_15 : decode cX4_readMoney 15 = .ok (.getfield 28, 3) := by decide +kernel
theorem dX4_readMoney_18 : decode cX4_readMoney 18 = .ok (.istore_n 2, 1) := by decide +kernel
theorem dX4_readMoney_19 : decode cX4_readMoney 19 = .ok (.aload_n 0, 1) := by decide +kernel
theorem dX4_readMoney_20 : decode cX4_readMoney 20 = .ok (.invokevirtual 31, 3) := by decide +kernel
theorem dX4_readMoney_23 : decode cX4_readMoney 23 = .ok (.aload_n 0, 1) := by decide +kernel
theorem dX4_readMoney_24 : decode cX4_readMoney 24 = .ok (.sipush 9999, 3) := by decide +kernel
theorem dX4_readMoney_27 : decode cX4_readMoney 27 = .ok (.invokevirtual 71, 3) := by decide +kernel
theorem dX4_readMoney_30 : decode cX4_readMoney 30 = .ok (.ifCond .ne 5, 3) := by decide +kernel
theorem dX4_readMoney_33 : decode cX4_readMoney 33 = .ok (.iconst 0, 1) := by decide +kernel
theorem dX4_readMoney_34 : decode cX4_readMoney 34 = .ok (.ireturn, 1) := by decide +kernel
theorem dX4_readMoney_35 : decode cX4_readMoney 35 = .ok (.aload_n 1, 1) := by decide +kernel
theorem dX4_readMoney_36 : decode cX4_readMoney 36 = .ok (.getfield 90, 3) := by decide +kernel
theorem dX4_readMoney_39 : decode cX4_readMoney 39 = .ok (.iload_n 2, 1) := by decide +kernel
theorem dX4_readMoney_40 : decode cX4_readMoney 40 = .ok (.aload_n 0, 1) := by decide +kernel
theorem dX4_readMoney_41 : decode cX4_readMoney 41 = .ok (.getfield 28, 3) := by decide +kernel
theorem dX4_readMoney_44 : decode cX4_readMoney 44 = .ok (.iastore, 1) := by decide +kernel
theorem dX4_readMoney_45 : decode cX4_readMoney 45 = .ok (.aload_n 0, 1) := by decide +kernel
theorem dX4_readMoney_46 : decode cX4_readMoney 46 = .ok (.invokevirtual 31, 3) := by decide +kernel
theorem dX4_readMoney_49 : decode cX4_readMoney 49 = .ok (.iconst 1, 1) := by decide +kernel
theorem dX4_readMoney_50 : decode cX4_readMoney 50 = .ok (.ireturn, 1) := by decide +kernel
theorem dX4_kindHere_0 : decode cX4_kindHere 0 = .ok (.iconst 0, 1) := by decide +kernel
theorem dX4_kindHere_1 : decode cX4_kindHere 1 = .ok (.istore_n 1, 1) := by decide +kernel
theorem dX4_kindHere_2 : decode cX4_kindHere 2 = .ok (.iload_n 1, 1) := by decide +kernel
theorem dX4_kindHere_3 : decode cX4_kindHere 3 = .ok (.bipush 6, 2) := by decide +kernel
theorem dX4_kindHere_5 : decode cX4_kindHere 5 = .ok (.if_icmp .ge 22, 3) := by decide +kernel
theorem dX4_kindHere_8 : decode cX4_kindHere 8 = .ok (.aload_n 0, 1) := by decide +kernel
theorem dX4_kindHere_9 : decode cX4_kindHere 9 = .ok (.iload_n 1, 1) := by decide +kernel
theorem dX4_kindHere_10 : decode cX4_kindHere 10 = .ok (.invokestatic 92, 3) := by decide +kernel
theorem dX4_kindHere_13 : decode cX4_kindHere 13 = .ok (.invokevirtual 54, 3) := by decide +kernel
theorem dX4_kindHere_16 : decode cX4_kindHere 16 = .ok (.ifCond .eq 5, 3) := by decide +kernel
theorem dX4_kindHere_19 : decode cX4_kindHere 19 = .ok (.iload_n 1, 1) := by decide +kernel
theorem dX4_kindHere_20 : decode cX4_kindHere 20 = .ok (.ireturn, 1) := by decide +kernel
theorem dX4_kindHere_21 : decode cX4_kindHere 21 = .ok (.iinc 1 1, 3) := by decide +kernel
theorem dX4_kindHere_24 : decode cX4_kindHere 24 = .ok (.goto (-22), 3) := by decide +kernel
theorem dX4_kindHere_27 : decode cX4_kindHere 27 = .ok (.iconst (-1), 1) := by decide +kernel
theorem dX4_kindHere_28 : decode cX4_kindHere 28 = .ok (.ireturn, 1) := by decide +kernel
theorem dX4_isWord_0 : decode cX4_isWord 0 = .ok (.aload_n 0, 1) := by decide +kernel
theorem dX4_isWord_1 : decode cX4_isWord 1 = .ok (.getfield 19, 3) := by decide +kernel
theorem dX4_isWord_4 : decode cX4_isWord 4 = .ok (.iconst 1, 1) := by decide +kernel
theorem dX4_isWord_5 : decode cX4_isWord 5 = .ok (.if_icmp .ne 19, 3) := by decide +kernel
theorem dX4_isWord_8 : decode cX4_isWord 8 = .ok (.aload_n 0, 1) := by decide +kernel
theorem dX4_isWord_9 : decode cX4_isWord 9 = .ok (.getfield 25, 3) := by decide +kernel
theorem dX4_isWord_12 : decode cX4_isWord 12 = .ok (.aload_n 0, 1) := by decide +kernel
theorem dX4_isWord_13 : decode cX4_isWord 13 = .ok (.getfield 22, 3) := by decide +kernel
theorem dX4_isWord_16 : decode cX4_isWord 16 = .ok (.isub, 1) := by decide +kernel
theorem dX4_isWord_17 : decode cX4_isWord 17 = .ok (.aload_n 1, 1) := by decide +kernel
theorem dX4_isWord_18 : decode cX4_isWord 18 = .ok (.invokevirtual 96, 3) := by decide +kernel
theorem dX4_isWord_21 : decode cX4_isWord 21 = .ok (.if_icmp .eq 5, 3) := by decide +kernel
theorem dX4_isWord_24 : decode cX4_isWord 24 = .ok (.iconst 0, 1) := by decide +kernel
theorem dX4_isWord_25 : decode cX4_isWord 25 = .ok (.ireturn, 1) := by decide +kernel
theorem dX4_isWord_26 : decode cX4_isWord 26 = .ok (.iconst 0, 1) := by decide +kernel
theorem dX4_isWord_27 : decode cX4_isWord 27 = .ok (.istore_n 2, 1) := by decide +kernel
theorem dX4_isWord_28 : decode cX4_isWord 28 = .ok (.iload_n 2, 1) := by decide +kernel
theorem dX4_isWord_29 : decode cX4_isWord 29 = .ok (.aload_n 1, 1) := by decide +kernel
theorem dX4_isWord_30 : decode cX4_isWord 30 = .ok (.invokevirtual 96, 3) := by decide +kernel
theorem dX4_isWord_33 : decode cX4_isWord 33 = .ok (.if_icmp .ge 30, 3) := by decide +kernel
theorem dX4_isWord_36 : decode cX4_isWord 36 = .ok (.aload_n 0, 1) := by decide +kernel
theorem dX4_isWord_37 : decode cX4_isWord 37 = .ok (.getfield 9, 3) := by decide +kernel
theorem dX4_isWord_40 : decode cX4_isWord 40 = .ok (.aload_n 0, 1) := by decide +kernel
theorem dX4_isWord_41 : decode cX4_isWord 41 = .ok (.getfield 22, 3) := by decide +kernel
theorem dX4_isWord_44 : decode cX4_isWord 44 = .ok (.iload_n 2, 1) := by decide +kernel
theorem dX4_isWord_45 : decode cX4_isWord 45 = .ok (.iadd, 1) := by decide +kernel
theorem dX4_isWord_46 : decode cX4_isWord 46 = .ok (.iaload, 1) := by decide +kernel
theorem dX4_isWord_47 : decode cX4_isWord 47 = .ok (.aload_n 1, 1) := by decide +kernel
theorem dX4_isWord_48 : decode cX4_isWord 48 = .ok (.iload_n 2, 1) := by decide +kernel
theorem dX4_isWord_49 : decode cX4_isWord 49 = .ok (.invokevirtual 100, 3) := by decide +kernel
theorem dX4_isWord_52 : decode cX4_isWord 52 = .ok (.if_icmp .eq 5, 3) := by decide +kernel
theorem dX4_isWord_55 : decode cX4_isWord 55 = .ok (.iconst 0, 1) := by decide +kernel
theorem dX4_isWord_56 : decode cX4_isWord 56 = .ok (.ireturn, 1) := by decide +kernel
theorem dX4_isWord_57 : decode cX4_isWord 57 = .ok (.iinc 2 1, 3) := by decide +kernel
theorem dX4_isWord_60 : decode cX4_isWord 60 = .ok (.goto (-32), 3) := by decide +kernel
theorem dX4_isWord_63 : decode cX4_isWord 63 = .ok (.iconst 1, 1) := by decide +kernel
theorem dX4_isWord_64 : decode cX4_isWord 64 = .ok (.ireturn, 1) := by decide +kernel
theorem dX4_isNumberUpTo_0 : decode cX4_isNumberUpTo 0 = .ok (.aload_n 0, 1) := by decide +kernel
theorem dX4_isNumberUpTo_1 : decode cX4_isNumberUpTo 1 = .ok (.getfield 19, 3) := by decide +kernel
theorem dX4_isNumberUpTo_4 : decode cX4_isNumberUpTo 4 = .ok (.iconst 2, 1) := by decide +kernel
theorem dX4_isNumberUpTo_5 : decode cX4_isNumberUpTo 5 = .ok (.if_icmp .ne 15, 3) := by decide +kernel
theorem dX4_isNumberUpTo_8 : decode cX4_isNumberUpTo 8 = .ok (.aload_n 0, 1) := by decide +kernel
theorem dX4_isNumberUpTo_9 : decode cX4_isNumberUpTo 9 = .ok (.getfield 28, 3) := by decide +kernel
theorem dX4_isNumberUpTo_12 : decode cX4_isNumberUpTo 12 = .ok (.iload_n 1, 1) := by decide +kernel
theorem dX4_isNumberUpTo_13 : decode cX4_isNumberUpTo 13 = .ok (.if_icmp .gt 7, 3) := by decide +kernel
theorem dX4_isNumberUpTo_16 : decode cX4_isNumberUpTo 16 = .ok (.iconst 1, 1) := by decide +kernel
theorem dX4_isNumberUpTo_17 : decode cX4_isNumberUpTo 17 = .ok (.goto 4, 3) := by decide +kernel
theorem dX4_isNumberUpTo_20 : decode cX4_isNumberUpTo 20 = .ok (.iconst 0, 1) := by decide +kernel
theorem dX4_isNumberUpTo_21 : decode cX4_isNumberUpTo 21 = .ok (.ireturn, 1) := by decide +kernel
theorem dX4_advance_0 : decode cX4_advance 0 = .ok (.aload_n 0, 1) := by decide +kernel
theorem dX4_advance_1 : decode cX4_advance 1 = .ok (.aload_n 0, 1) := by decide +kernel
theorem dX4_advance_2 : decode cX4_advance 2 = .ok (.getfield 25, 3) := by decide +kernel
theorem dX4_advance_5 : decode cX4_advance 5 = .ok (.putfield 22, 3) := by decide +kernel
theorem dX4_advance_8 : decode cX4_advance 8 = .ok (.aload_n 0, 1) := by decide +kernel
theorem dX4_advance_9 : decode cX4_advance 9 = .ok (.getfield 22, 3) := by decide +kernel
theorem dX4_advance_12 : decode cX4_advance 12 = .ok (.aload_n 0, 1) := by decide +kernel
theorem dX4_advance_13 : decode cX4_advance 13 = .ok (.getfield 15, 3) := by decide +kernel
theorem dX4_advance_16 : decode cX4_advance 16 = .ok (.if_icmp .ge 30, 3) := by decide +kernel
theorem dX4_advance_19 : decode cX4_advance 19 = .ok (.aload_n 0, 1) := by decide +kernel
theorem dX4_advance_20 : decode cX4_advance 20 = .ok (.getfield 9, 3) := by decide +kernel
theorem dX4_advance_23 : decode cX4_advance 23 = .ok (.aload_n 0, 1) := by decide +kernel
theorem dX4_advance_24 : decode cX4_advance 24 = .ok (.getfield 22, 3) := by decide +kernel
theorem dX4_advance_27 : decode cX4_advance 27 = .ok (.iaload, 1) := by decide +kernel
theorem dX4_advance_28 : decode cX4_advance 28 = .ok (.bipush 32, 2) := by decide +kernel
theorem dX4_advance_30 : decode cX4_advance 30 = .ok (.if_icmp .ne 16, 3) := by decide +kernel
theorem dX4_advance_33 : decode cX4_advance 33 = .ok (.aload_n 0, 1) := by decide +kernel
theorem dX4_advance_34 : decode cX4_advance 34 = .ok (.dup, 1) := by decide +kernel
theorem dX4_advance_35 : decode cX4_advance 35 = .ok (.getfield 22, 3) := by decide +kernel
theorem dX4_advance_38 : decode cX4_advance 38 = .ok (.iconst 1, 1) := by decide +kernel
theorem dX4_advance_39 : decode cX4_advance 39 = .ok (.iadd, 1) := by decide +kernel
theorem dX4_advance_40 : decode cX4_advance 40 = .ok (.putfield 22, 3) := by decide +kernel
theorem dX4_advance_43 : decode cX4_advance 43 = .ok (.goto (-35), 3) := by decide +kernel
theorem dX4_advance_46 : decode cX4_advance 46 = .ok (.aload_n 0, 1) := by decide +kernel
theorem dX4_advance_47 : decode cX4_advance 47 = .ok (.aload_n 0, 1) := by decide +kernel
theorem dX4_advance_48 : decode cX4_advance 48 = .ok (.getfield 22, 3) := by decide +kernel
theorem dX4_advance_51 : decode cX4_advance 51 = .ok (.putfield 25, 3) := by decide +kernel
theorem dX4_advance_54 : decode cX4_advance 54 = .ok (.aload_n 0, 1) := by decide +kernel
theorem dX4_advance_55 : decode cX4_advance 55 = .ok (.getfield 22, 3) := by decide +kernel
theorem dX4_advance_58 : decode cX4_advance 58 = .ok (.aload_n 0, 1) := by decide +kernel
theorem dX4_advance_59 : decode cX4_advance 59 = .ok (.getfield 15, 3) := by decide +kernel
theorem dX4_advance_62 : decode cX4_advance 62 = .ok (.if_icmp .lt 11, 3) := by decide +kernel
theorem dX4_advance_65 : decode cX4_advance 65 = .ok (.aload_n 0, 1) := by decide +kernel
theorem dX4_advance_66 : decode cX4_advance 66 = .ok (.iconst 0, 1) := by decide +kernel
theorem dX4_advance_67 : decode cX4_advance 67 = .ok (.putfield 19, 3) := by decide +kernel
theorem dX4_advance_70 : decode cX4_advance 70 = .ok (.goto 90, 3) := by decide +kernel
theorem dX4_advance_73 : decode cX4_advance 73 = .ok (.aload_n 0, 1) := by decide +kernel
theorem dX4_advance_74 : decode cX4_advance 74 = .ok (.getfield 9, 3) := by decide +kernel
theorem dX4_advance_77 : decode cX4_advance 77 = .ok (.aload_n 0, 1) := by decide +kernel
theorem dX4_advance_78 : decode cX4_advance 78 = .ok (.getfield 22, 3) := by decide +kernel
theorem dX4_advance_81 : decode cX4_advance 81 = .ok (.iaload, 1) := by decide +kernel
theorem dX4_advance_82 : decode cX4_advance 82 = .ok (.invokestatic 104, 3) := by decide +kernel
theorem dX4_advance_85 : decode cX4_advance 85 = .ok (.ifCond .eq 15, 3) := by decide +kernel
theorem dX4_advance_88 : decode cX4_advance 88 = .ok (.aload_n 0, 1) := by decide +kernel
theorem dX4_advance_89 : decode cX4_advance 89 = .ok (.iconst 1, 1) := by decide +kernel
theorem dX4_advance_90 : decode cX4_advance 90 = .ok (.putfield 19, 3) := by decide +kernel
theorem dX4_advance_93 : decode cX4_advance 93 = .ok (.aload_n 0, 1) := by decide +kernel
theorem dX4_advance_94 : decode cX4_advance 94 = .ok (.invokevirtual 107, 3) := by decide +kernel
theorem dX4_advance_97 : decode cX4_advance 97 = .ok (.goto 63, 3) := by decide +kernel
theorem dX4_advance_100 : decode cX4_advance 100 = .ok (.aload_n 0, 1) := by decide +kernel
theorem dX4_advance_101 : decode cX4_advance 101 = .ok (.getfield 9, 3) := by decide +kernel
theorem dX4_advance_104 : decode cX4_advance 104 = .ok (.aload_n 0, 1) := by decide +kernel
theorem dX4_advance_105 : decode cX4_advance 105 = .ok (.getfield 22, 3) := by decide +kernel
theorem dX4_advance_108 : decode cX4_advance 108 = .ok (.iaload, 1) := by decide +kernel
theorem dX4_advance_109 : decode cX4_advance 109 = .ok (.invokestatic 110, 3) := by decide +kernel
theorem dX4_advance_112 : decode cX4_advance 112 = .ok (.ifCond .eq 15, 3) := by decide +kernel
theorem dX4_advance_115 : decode cX4_advance 115 = .ok (.aload_n 0, 1) := by decide +kernel
theorem dX4_advance_116 : decode cX4_advance 116 = .ok (.iconst 2, 1) := by decide +kernel
theorem dX4_advance_117 : decode cX4_advance 117 = .ok (.putfield 19, 3) := by decide +kernel
theorem dX4_advance_120 : decode cX4_advance 120 = .ok (.aload_n 0, 1) := by decide +kernel
theorem dX4_advance_121 : decode cX4_advance 121 = .ok (.invokevirtual 113, 3) := by decide +kernel
theorem dX4_advance_124 : decode cX4_advance 124 = .ok (.goto 36, 3) := by decide +kernel
theorem dX4_advance_127 : decode cX4_advance 127 = .ok (.aload_n 0, 1) := by decide +kernel
theorem dX4_advance_128 : decode cX4_advance 128 = .ok (.aload_n 0, 1) := by decide +kernel
theorem dX4_advance_129 : decode cX4_advance 129 = .ok (.getfield 9, 3) := by decide +kernel
theorem dX4_advance_132 : decode cX4_advance 132 = .ok (.aload_n 0, 1) := by decide +kernel
theorem dX4_advance_133 : decode cX4_advance 133 = .ok (.getfield 22, 3) := by decide +kernel
theorem dX4_advance_136 : decode cX4_advance 136 = .ok (.iaload, 1) := by decide +kernel
theorem dX4_advance_137 : decode cX4_advance 137 = .ok (.bipush 59, 2) := by decide +kernel
theorem dX4_advance_139 : decode cX4_advance 139 = .ok (.if_icmp .ne 7, 3) := by decide +kernel
theorem dX4_advance_142 : decode cX4_advance 142 = .ok (.iconst 3, 1) := by decide +kernel
theorem dX4_advance_143 : decode cX4_advance 143 = .ok (.goto 4, 3) := by decide +kernel
theorem dX4_advance_146 : decode cX4_advance 146 = .ok (.iconst 4, 1) := by decide +kernel
theorem dX4_advance_147 : decode cX4_advance 147 = .ok (.putfield 19, 3) := by decide +kernel
theorem dX4_advance_150 : decode cX4_advance 150 = .ok (.aload_n 0, 1) := by decide +kernel
theorem dX4_advance_151 : decode cX4_advance 151 = .ok (.aload_n 0, 1) := by decide +kernel
theorem dX4_advance_152 : decode cX4_advance 152 = .ok (.getfield 22, 3) := by decide +kernel
theorem dX4_advance_155 : decode cX4_advance 155 = .ok (.iconst 1, 1) := by decide +kernel
theorem dX4_advance_156 : decode cX4_advance 156 = .ok (.iadd, 1) := by decide +kernel
theorem dX4_advance_157 : decode cX4_advance 157 = .ok (.putfield 25, 3) := by decide +kernel
theorem dX4_advance_160 : decode cX4_advance 160 = .ok (.return_, 1) := by decide +kernel
theorem dX4_passWord_0 : decode cX4_passWord 0 = .ok (.aload_n 0, 1) := by decide +kernel
theorem dX4_passWord_1 : decode cX4_passWord 1 = .ok (.getfield 25, 3) := by decide +kernel
theorem dX4_passWord_4 : decode cX4_passWord 4 = .ok (.aload_n 0, 1) := by decide +kernel
theorem dX4_passWord_5 : decode cX4_passWord 5 = .ok (.getfield 15, 3) := by decide +kernel
theorem dX4_passWord_8 : decode cX4_passWord 8 = .ok (.if_icmp .ge 31, 3) := by decide +kernel
theorem dX4_passWord_11 : decode cX4_passWord 11 = .ok (.aload_n 0, 1) := by decide +kernel
theorem dX4_passWord_12 : decode cX4_passWord 12 = .ok (.getfield 9, 3) := by decide +kernel
theorem dX4_passWord_15 : decode cX4_passWord 15 = .ok (.aload_n 0, 1) := by decide +kernel
theorem dX4_passWord_16 : decode cX4_passWord 16 = .ok (.getfield 25, 3) := by decide +kernel
theorem dX4_passWord_19 : decode cX4_passWord 19 = .ok (.iaload, 1) := by decide +kernel
theorem dX4_passWord_20 : decode cX4_passWord 20 = .ok (.invokestatic 104, 3) := by decide +kernel
theorem dX4_passWord_23 : decode cX4_passWord 23 = .ok (.ifCond .eq 16, 3) := by decide +kernel
theorem dX4_passWord_26 : decode cX4_passWord 26 = .ok (.aload_n 0, 1) := by decide +kernel
theorem dX4_passWord_27 : decode cX4_passWord 27 = .ok (.dup, 1) := by decide +kernel
theorem dX4_passWord_28 : decode cX4_passWord 28 = .ok (.getfield 25, 3) := by decide +kernel
theorem dX4_passWord_31 : decode cX4_passWord 31 = .ok (.iconst 1, 1) := by decide +kernel
theorem dX4_passWord_32 : decode cX4_passWord 32 = .ok (.iadd, 1) := by decide +kernel
theorem dX4_passWord_33 : decode cX4_passWord 33 = .ok (.putfield 25, 3) := by decide +kernel
theorem dX4_passWord_36 : decode cX4_passWord 36 = .ok (.goto (-36), 3) := by decide +kernel
theorem dX4_passWord_39 : decode cX4_passWord 39 = .ok (.return_, 1) := by decide +kernel
theorem dX4_passNumber_0 : decode cX4_passNumber 0 = .ok (.aload_n 0, 1) := by decide +kernel
theorem dX4_passNumber_1 : decode cX4_passNumber 1 = .ok (.iconst 0, 1) := by decide +kernel
theorem dX4_passNumber_2 : decode cX4_passNumber 2 = .ok (.putfield 28, 3) := by decide +kernel
theorem dX4_passNumber_5 : decode cX4_passNumber 5 = .ok (.aload_n 0, 1) := by decide +kernel
theorem dX4_passNumber_6 : decode cX4_passNumber 6 = .ok (.getfield 25, 3) := by decide +kernel
theorem dX4_passNumber_9 : decode cX4_passNumber 9 = .ok (.aload_n 0, 1) := by decide +kernel
theorem dX4_passNumber_10 : decode cX4_passNumber 10 = .ok (.getfield 15, 3) := by decide +kernel
theorem dX4_passNumber_13 : decode cX4_passNumber 13 = .ok (.if_icmp .ge 63, 3) := by decide +kernel
theorem dX4_passNumber_16 : decode cX4_passNumber 16 = .ok (.aload_n 0, 1) := by decide +kernel
theorem dX4_passNumber_17 : decode cX4_passNumber 17 = .ok (.getfield 9, 3) := by decide +kernel
theorem dX4_passNumber_20 : decode cX4_passNumber 20 = .ok (.aload_n 0, 1) := by decide +kernel
theorem dX4_passNumber_21 : decode cX4_passNumber 21 = .ok (.getfield 25, 3) := by decide +kernel
theorem dX4_passNumber_24 : decode cX4_passNumber 24 = .ok (.iaload, 1) := by decide +kernel
theorem dX4_passNumber_25 : decode cX4_passNumber 25 = .ok (.invokestatic 110, 3) := by decide +kernel
theorem dX4_passNumber_28 : decode cX4_passNumber 28 = .ok (.ifCond .eq 48, 3) := by decide +kernel
theorem dX4_passNumber_31 : decode cX4_passNumber 31 = .ok (.aload_n 0, 1) := by decide +kernel
theorem dX4_passNumber_32 : decode cX4_passNumber 32 = .ok (.getfield 9, 3) := by decide +kernel
theorem dX4_passNumber_35 : decode cX4_passNumber 35 = .ok (.aload_n 0, 1) := by decide +kernel
theorem dX4_passNumber_36 : decode cX4_passNumber 36 = .ok (.getfield 25, 3) := by decide +kernel
theorem dX4_passNumber_39 : decode cX4_passNumber 39 = .ok (.iaload, 1) := by decide +kernel
theorem dX4_passNumber_40 : decode cX4_passNumber 40 = .ok (.bipush 48, 2) := by decide +kernel
theorem dX4_passNumber_42 : decode cX4_passNumber 42 = .ok (.isub, 1) := by decide +kernel
theorem dX4_passNumber_43 : decode cX4_passNumber 43 = .ok (.istore_n 1, 1) := by decide +kernel
theorem dX4_passNumber_44 : decode cX4_passNumber 44 = .ok (.aload_n 0, 1) := by decide +kernel
theorem dX4_passNumber_45 : decode cX4_passNumber 45 = .ok (.sipush 10000, 3) := by decide +kernel
theorem dX4_passNumber_48 : decode cX4_passNumber 48 = .ok (.bipush 10, 2) := by decide +kernel
theorem dX4_passNumber_50 : decode cX4_passNumber 50 = .ok (.aload_n 0, 1) := by decide +kernel
theorem dX4_passNumber_51 : decode cX4_passNumber 51 = .ok (.getfield 28, 3) := by decide +kernel
theorem dX4_passNumber_54 : decode cX4_passNumber 54 = .ok (.imul, 1) := by decide +kernel
theorem dX4_passNumber_55 : decode cX4_passNumber 55 = .ok (.iload_n 1, 1) := by decide +kernel
theorem dX4_passNumber_56 : decode cX4_passNumber 56 = .ok (.iadd, 1) := by decide +kernel
theorem dX4_passNumber_57 : decode cX4_passNumber 57 = .ok (.invokestatic 116, 3) := by decide +kernel
theorem dX4_passNumber_60 : decode cX4_passNumber 60 = .ok (.putfield 28, 3) := by decide +kernel
theorem dX4_passNumber_63 : decode cX4_passNumber 63 = .ok (.aload_n 0, 1) := by decide +kernel
theorem dX4_passNumber_64 : decode cX4_passNumber 64 = .ok (.dup, 1) := by decide +kernel
theorem dX4_passNumber_65 : decode cX4_passNumber 65 = .ok (.getfield 25, 3) := by decide +kernel
theorem dX4_passNumber_68 : decode cX4_passNumber 68 = .ok (.iconst 1, 1) := by decide +kernel
theorem dX4_passNumber_69 : decode cX4_passNumber 69 = .ok (.iadd, 1) := by decide +kernel
theorem dX4_passNumber_70 : decode cX4_passNumber 70 = .ok (.putfield 25, 3) := by decide +kernel
theorem dX4_passNumber_73 : decode cX4_passNumber 73 = .ok (.goto (-68), 3) := by decide +kernel
theorem dX4_passNumber_76 : decode cX4_passNumber 76 = .ok (.return_, 1) := by decide +kernel
theorem dX4_isLetter_0 : decode cX4_isLetter 0 = .ok (.iload_n 0, 1) := by decide +kernel
theorem dX4_isLetter_1 : decode cX4_isLetter 1 = .ok (.bipush 97, 2) := by decide +kernel
theorem dX4_isLetter_3 : decode cX4_isLetter 3 = .ok (.if_icmp .lt 13, 3) := by decide +kernel
theorem dX4_isLetter_6 : decode cX4_isLetter 6 = .ok (.iload_n 0, 1) := by decide +kernel
theorem dX4_isLetter_7 : decode cX4_isLetter 7 = .ok (.bipush 122, 2) := by decide +kernel
theorem dX4_isLetter_9 : decode cX4_isLetter 9 = .ok (.if_icmp .gt 7, 3) := by decide +kernel
theorem dX4_isLetter_12 : decode cX4_isLetter 12 = .ok (.iconst 1, 1) := by decide +kernel
theorem dX4_isLetter_13 : decode cX4_isLetter 13 = .ok (.goto 4, 3) := by decide +kernel
theorem dX4_isLetter_16 : decode cX4_isLetter 16 = .ok (.iconst 0, 1) := by decide +kernel
theorem dX4_isLetter_17 : decode cX4_isLetter 17 = .ok (.ireturn, 1) := by decide +kernel
theorem dX4_isDigit_0 : decode cX4_isDigit 0 = .ok (.iload_n 0, 1) := by decide +kernel
theorem dX4_isDigit_1 : decode cX4_isDigit 1 = .ok (.bipush 48, 2) := by decide +kernel
theorem dX4_isDigit_3 : decode cX4_isDigit 3 = .ok (.if_icmp .lt 13, 3) := by decide +kernel
theorem dX4_isDigit_6 : decode cX4_isDigit 6 = .ok (.iload_n 0, 1) := by decide +kernel
theorem dX4_isDigit_7 : decode cX4_isDigit 7 = .ok (.bipush 57, 2) := by decide +kernel
theorem dX4_isDigit_9 : decode cX4_isDigit 9 = .ok (.if_icmp .gt 7, 3) := by decide +kernel
theorem dX4_isDigit_12 : decode cX4_isDigit 12 = .ok (.iconst 1, 1) := by decide +kernel
theorem dX4_isDigit_13 : decode cX4_isDigit 13 = .ok (.goto 4, 3) := by decide +kernel
theorem dX4_isDigit_16 : decode cX4_isDigit 16 = .ok (.iconst 0, 1) := by decide +kernel
theorem dX4_isDigit_17 : decode cX4_isDigit 17 = .ok (.ireturn, 1) := by decide +kernel
theorem dX5_init_0 : decode cX5_init 0 = .ok (.aload_n 0, 1) := by decide +kernel
theorem dX5_init_1 : decode cX5_init 1 = .ok (.invokespecial 1, 3) := by decide +kernel
theorem dX5_init_4 : decode cX5_init 4 = .ok (.aload_n 0, 1) := by decide +kernel
theorem dX5_init_5 : decode cX5_init 5 = .ok (.new 7, 3) := by decide +kernel
theorem dX5_init_8 : decode cX5_init 8 = .ok (.dup, 1) := by decide +kernel
theorem dX5_init_9 : decode cX5_init 9 = .ok (.invokespecial 9, 3) := by decide +kernel
theorem dX5_init_12 : decode cX5_init 12 = .ok (.putfield 10, 3) := by decide +kernel
theorem dX5_init_15 : decode cX5_init 15 = .ok (.aload_n 0, 1) := by decide +kernel
theorem dX5_init_16 : decode cX5_init 16 = .ok (.new 7, 3) := by decide +kernel
theorem dX5_init_19 : decode cX5_init 19 = .ok (.dup, 1) := by decide +kernel
theorem dX5_init_20 : decode cX5_init 20 = .ok (.invokespecial 9, 3) := by decide +kernel
theorem dX5_init_23 : decode cX5_init 23 = .ok (.putfield 16, 3) := by decide +kernel
theorem dX5_init_26 : decode cX5_init 26 = .ok (.aload_n 0, 1) := by decide +kernel
theorem dX5_init_27 : decode cX5_init 27 = .ok (.new 7, 3) := by decide +kernel
theorem dX5_init_30 : decode cX5_init 30 = .ok (.dup, 1) := by decide +kernel
theorem dX5_init_31 : decode cX5_init 31 = .ok (.invokespecial 9, 3) := by decide +kernel
theorem dX5_init_34 : decode cX5_init 34 = .ok (.putfield 19, 3) := by decide +kernel
theorem dX5_init_37 : decode cX5_init 37 = .ok (.aload_n 0, 1) := by decide +kernel
theorem dX5_init_38 : decode cX5_init 38 = .ok (.iconst 0, 1) := by decide +kernel
theorem dX5_init_39 : decode cX5_init 39 = .ok (.putfield 22, 3) := by decide +kernel
theorem dX5_init_42 : decode cX5_init 42 = .ok (.aload_n 0, 1) := by decide +kernel
theorem dX5_init_43 : decode cX5_init 43 = .ok (.new 26, 3) := by decide +kernel
theorem dX5_init_46 : decode cX5_init 46 = .ok (.dup, 1) := by decide +kernel
theorem dX5_init_47 : decode cX5_init 47 = .ok (.invokespecial 28, 3) := by decide +kernel
theorem dX5_init_50 : decode cX5_init 50 = .ok (.putfield 29, 3) := by decide +kernel
theorem dX5_init_53 : decode cX5_init 53 = .ok (.aload_n 0, 1) := by decide +kernel
theorem dX5_init_54 : decode cX5_init 54 = .ok (.iconst 4, 1) := by decide +kernel
theorem dX5_init_55 : decode cX5_init 55 = .ok (.anewarray 33, 3) := by decide +kernel
theorem dX5_init_58 : decode cX5_init 58 = .ok (.putfield 35, 3) := by decide +kernel
theorem dX5_init_61 : decode cX5_init 61 = .ok (.aload_n 0, 1) := by decide +kernel
theorem dX5_init_62 : decode cX5_init 62 = .ok (.bipush 7, 2) := by decide +kernel
theorem dX5_init_64 : decode cX5_init 64 = .ok (.newarray .int, 2) := by decide +kernel
theorem dX5_init_66 : decode cX5_init 66 = .ok (.putfield 39, 3) := by decide +kernel
theorem dX5_init_69 : decode cX5_init 69 = .ok (.aload_n 0, 1) := by decide +kernel
theorem dX5_init_70 : decode cX5_init 70 = .ok (.bipush 8, 2) := by decide +kernel
theorem dX5_init_72 : decode cX5_init 72 = .ok (.newarray .int, 2) := by decide +kernel
theorem dX5_init_74 : decode cX5_init 74 = .ok (.putfield 43, 3) := by decide +kernel
theorem dX5_init_77 : decode cX5_init 77 = .ok (.aload_n 0, 1) := by decide +kernel
theorem dX5_init_78 : decode cX5_init 78 = .ok (.bipush 40, 2) := by decide +kernel
theorem dX5_init_80 : decode cX5_init 80 = .ok (.newarray .int, 2) := by decide +kernel
theorem dX5_init_82 : decode cX5_init 82 = .ok (.putfield 46, 3) := by decide +kernel
theorem dX5_init_85 : decode cX5_init 85 = .ok (.iconst 0, 1) := by decide +kernel
theorem dX5_init_86 : decode cX5_init 86 = .ok (.istore_n 1, 1) := by decide +kernel
theorem dX5_init_87 : decode cX5_init 87 = .ok (.iload_n 1, 1) := by decide +kernel
theorem dX5_init_88 : decode cX5_init 88 = .ok (.iconst 4, 1) := by decide +kernel
theorem dX5_init_89 : decode cX5_init 89 = .ok (.if_icmp .ge 22, 3) := by decide +kernel
theorem dX5_init_92 : decode cX5_init 92 = .ok (.aload_n 0, 1) := by decide +kernel
theorem dX5_init_93 : decode cX5_init 93 = .ok (.getfield 35, 3) := by decide +kernel
theorem dX5_init_96 : decode cX5_init 96 = .ok (.iload_n 1, 1) := by decide +kernel
theorem dX5_init_97 : decode cX5_init 97 = .ok (.new 33, 3) := by decide +kernel
theorem dX5_init_100 : decode cX5_init 100 = .ok (.dup, 1) := by decide +kernel
theorem dX5_init_101 : decode cX5_init 101 = .ok (.invokespecial 49, 3) := by decide +kernel
theorem dX5_init_104 : decode cX5_init 104 = .ok (.aastore, 1) := by decide +kernel
theorem dX5_init_105 : decode cX5_init 105 = .ok (.iinc 1 1, 3) := by decide +kernel
theorem dX5_init_108 : decode cX5_init 108 = .ok (.goto (-21), 3) := by decide +kernel
theorem dX5_init_111 : decode cX5_init 111 = .ok (.return_, 1) := by decide +kernel
theorem dX5_money_0 : decode cX5_money 0 = .ok (.iload_n 1, 1) := by decide +kernel
theorem dX5_money_1 : decode cX5_money 1 = .ok (.invokestatic 50, 3) := by decide +kernel
theorem dX5_money_4 : decode cX5_money 4 = .ok (.ifCond .eq 13, 3) := by decide +kernel
theorem dX5_money_7 : decode cX5_money 7 = .ok (.iload_n 2, 1) := by decide +kernel
theorem dX5_money_8 : decode cX5_money 8 = .ok (.iconst 0, 1) := by decide +kernel
theorem dX5_money_9 : decode cX5_money 9 = .ok (.ldc 54, 2) := by decide +kernel
theorem dX5_money_11 : decode cX5_money 11 = .ok (.invokestatic 55, 3) := by decide +kernel
theorem dX5_money_14 : decode cX5_money 14 = .ok (.ifCond .ne 9, 3) := by decide +kernel
theorem dX5_money_17 : decode cX5_money 17 = .ok (.aload_n 0, 1) := by decide +kernel
theorem dX5_money_18 : decode cX5_money 18 = .ok (.iconst 0, 1) := by decide +kernel
theorem dX5_money_19 : decode cX5_money 19 = .ok (.invokevirtual 59, 3) := by decide +kernel
theorem dX5_money_22 : decode cX5_money 22 = .ok (.ireturn, 1) := by decide +kernel
theorem dX5_money_23 : decode cX5_money 23 = .ok (.aload_n 0, 1) := by decide +kernel
theorem dX5_money_24 : decode cX5_money 24 = .ok (.getfield 10, 3) := by decide +kernel
theorem dX5_money_27 : decode cX5_money 27 = .ok (.getfield 63, 3) := by decide +kernel
theorem dX5_money_30 : decode cX5_money 30 = .ok (.iload_n 1, 1) := by decide +kernel
theorem dX5_money_31 : decode cX5_money 31 = .ok (.iaload, 1) := by decide +kernel
theorem dX5_money_32 : decode cX5_money 32 = .ok (.istore_n 3, 1) := by decide +kernel
theorem dX5_money_33 : decode cX5_money 33 = .ok (.aload_n 0, 1) := by decide +kernel
theorem dX5_money_34 : decode cX5_money 34 = .ok (.getfield 10, 3) := by decide +kernel
theorem dX5_money_37 : decode cX5_money 37 = .ok (.getfield 63, 3) := by decide +kernel
theorem dX5_money_40 : decode cX5_money 40 = .ok (.iload_n 1, 1) := by decide +kernel
theorem dX5_money_41 : decode cX5_money 41 = .ok (.iload_n 2, 1) := by decide +kernel
theorem dX5_money_42 : decode cX5_money 42 = .ok (.iastore, 1) := by decide +kernel
theorem dX5_money_43 : decode cX5_money 43 = .ok (.iload_n 3, 1) := by decide +kernel
theorem dX5_money_44 : decode cX5_money 44 = .ok (.ireturn, 1) := by decide +kernel
theorem dX5_ownerOf_0 : decode cX5_ownerOf 0 = .ok (.iload_n 1, 1) := by decide +kernel
theorem dX5_ownerOf_1 : decode cX5_ownerOf 1 = .ok (.invokestatic 50, 3) := by decide +kernel
theorem dX5_ownerOf_4 : decode cX5_ownerOf 4 = .ok (.ifCond .ne 9, 3) := by decide +kernel
theorem dX5_ownerOf_7 : decode cX5_ownerOf 7 = .ok (.aload_n 0, 1) := by decide +kernel
theorem dX5_ownerOf_8 : decode cX5_ownerOf 8 = .ok (.iconst 0, 1) := by decide +kernel
theorem dX5_ownerOf_9 : decode cX5_ownerOf 9 = .ok (.invokevirtual 59, 3) := by decide +kernel
theorem dX5_ownerOf_12 : decode cX5_ownerOf 12 = .ok (.ireturn, 1) := by decide +kernel
theorem dX5_ownerOf_13 : decode cX5_ownerOf 13 = .ok (.iload_n 2, 1) := by decide +kernel
theorem dX5_ownerOf_14 : decode cX5_ownerOf 14 = .ok (.tableswitch 67 0 3 #[30, 40, 49, 58], 30) := by decide +kernel
theorem dX5_ownerOf_44 : decode cX5_ownerOf 44 = .ok (.aload_n 0, 1) := by decide +kernel
theorem dX5_ownerOf_45 : decode cX5_ownerOf 45 = .ok (.getfield 10, 3) := by decide +kernel
theorem dX5_ownerOf_48 : decode cX5_ownerOf 48 = .ok (.getfield 63, 3) := by decide +kernel
theorem dX5_ownerOf_51 : decode cX5_ownerOf 51 = .ok (.iload_n 1, 1) := by decide +kernel
theorem dX5_ownerOf_52 : decode cX5_ownerOf 52 = .ok (.iaload, 1) := by decide +kernel
theorem dX5_ownerOf_53 : decode cX5_ownerOf 53 = .ok (.ireturn, 1) := by decide +kernel
theorem dX5_ownerOf_54 : decode cX5_ownerOf 54 = .ok (.aload_n 0, 1) := by decide +kernel
theorem dX5_ownerOf_55 : decode cX5_ownerOf 55 = .ok (.getfield 10, 3) := by decide +kernel
theorem dX5_ownerOf_58 : decode cX5_ownerOf 58 = .ok (.iload_n 1, 1) := by decide +kernel
theorem dX5_ownerOf_59 : decode cX5_ownerOf 59 = .ok (.invokevirtual 66, 3) := by decide +kernel
theorem dX5_ownerOf_62 : decode cX5_ownerOf 62 = .ok (.ireturn, 1) := by decide +kernel
theorem dX5_ownerOf_63 : decode cX5_ownerOf 63 = .ok (.aload_n 0, 1) := by decide +kernel
theorem dX5_ownerOf_64 : decode cX5_ownerOf 64 = .ok (.getfield 10, 3) := by decide +kernel
theorem dX5_ownerOf_67 : decode cX5_ownerOf 67 = .ok (.iload_n 1, 1) := by decide +kernel
theorem dX5_ownerOf_68 : decode cX5_ownerOf 68 = .ok (.invokevirtual 69, 3) := by decide +kernel
theorem dX5_ownerOf_71 : decode cX5_ownerOf 71 = .ok (.ireturn, 1) := by decide +kernel
theorem dX5_ownerOf_72 : decode cX5_ownerOf 72 = .ok (.aload_n 0, 1) := by decide +kernel
theorem dX5_ownerOf_73 : decode cX5_ownerOf 73 = .ok (.getfield 10, 3) := by decide +kernel
theorem dX5_ownerOf_76 : decode cX5_ownerOf 76 = .ok (.iload_n 1, 1) := by decide +kernel
theorem dX5_ownerOf_77 : decode cX5_ownerOf 77 = .ok (.invokevirtual 72, 3) := by decide +kernel
theorem dX5_ownerOf_80 : decode cX5_ownerOf 80 = .ok (.ireturn, 1) := by decide +kernel
theorem dX5_ownerOf_81 : decode cX5_ownerOf 81 = .ok (.aload_n 0, 1) := by decide +kernel
theorem dX5_ownerOf_82 : decode cX5_ownerOf 82 = .ok (.iconst 0, 1) := by decide +kernel
theorem dX5_ownerOf_83 : decode cX5_ownerOf 83 = .ok (.invokevirtual 59, 3) := by decide +kernel
theorem dX5_ownerOf_86 : decode cX5_ownerOf 86 = .ok (.ireturn, 1) := by decide +kernel
theorem dX5_frame_0 : decode cX5_frame 0 = .ok (.iload_n 1, 1) := by decide +kernel
theorem dX5_frame_1 : decode cX5_frame 1 = .ok (.invokestatic 75, 3) := by decide +kernel
theorem dX5_frame_4 : decode cX5_frame 4 = .ok (.ifCond .eq 10, 3) := by decide +kernel
theorem dX5_frame_7 : decode cX5_frame 7 = .ok (.iload_n 2, 1) := by decide +kernel
theorem dX5_frame_8 : decode cX5_frame 8 = .ok (.invokestatic 50, 3) := by decide +kernel
theorem dX5_frame_11 : decode cX5_frame 11 = .ok (.ifCond .ne 9, 3) := by decide +kernel
theorem dX5_frame_14 : decode cX5_frame 14 = .ok (.aload_n 0, 1) := by decide +kernel
theorem dX5_frame_15 : decode cX5_frame 15 = .ok (.iconst 0, 1) := by decide +kernel
theorem dX5_frame_16 : decode cX5_frame 16 = .ok (.invokevirtual 59, 3) := by decide +kernel
theorem dX5_frame_19 : decode cX5_frame 19 = .ok (.ireturn, 1) := by decide +kernel
theorem dX5_frame_20 : decode cX5_frame 20 = .ok (.aload_n 0, 1) := by decide +kernel
theorem dX5_frame_21 : decode cX5_frame 21 = .ok (.getfield 10, 3) := by decide +kernel
theorem dX5_frame_24 : decode cX5_frame 24 = .ok (.getfield 80, 3) := by decide +kernel
theorem dX5_frame_27 : decode cX5_frame 27 = .ok (.bipush 8, 2) := by decide +kernel
theorem dX5_frame_29 : decode cX5_frame 29 = .ok (.if_icmp .lt 9, 3) := by decide +kernel
theorem dX5_frame_32 : decode cX5_frame 32 = .ok (.aload_n 0, 1) := by decide +kernel
theorem dX5_frame_33 : decode cX5_frame 33 = .ok (.iconst 1, 1) := by decide +kernel
theorem dX5_frame_34 : decode cX5_frame 34 = .ok (.invokevirtual 59, 3) := by decide +kernel
theorem dX5_frame_37 : decode cX5_frame 37 = .ok (.ireturn, 1) := by decide +kernel
theorem dX5_frame_38 : decode cX5_frame 38 = .ok (.aload_n 0, 1) := by decide +kernel
theorem dX5_frame_39 : decode cX5_frame 39 = .ok (.getfield 10, 3) := by decide +kernel
theorem dX5_frame_42 : decode cX5_frame 42 = .ok (.iload_n 1, 1) := by decide +kernel
theorem dX5_frame_43 : decode cX5_frame 43 = .ok (.iload_n 2, 1) := by decide +kernel
theorem dX5_frame_44 : decode cX5_frame 44 = .ok (.invokevirtual 84, 3) := by decide +kernel
theorem dX5_frame_47 : decode cX5_frame 47 = .ok (.ireturn, 1) := by decide +kernel
theorem dX5_frameOf_0 : decode cX5_frameOf 0 = .ok (.aload_n 0, 1) := by decide +kernel
theorem dX5_frameOf_1 : decode cX5_frameOf 1 = .ok (.getfield 10, 3) := by decide +kernel
theorem dX5_frameOf_4 : decode cX5_frameOf 4 = .ok (.iload_n 1, 1) := by decide +kernel
theorem dX5_frameOf_5 : decode cX5_frameOf 5 = .ok (.invokevirtual 88, 3) := by decide +kernel
theorem dX5_frameOf_8 : decode cX5_frameOf 8 = .ok (.ifCond .ne 9, 3) := by decide +kernel
theorem dX5_frameOf_11 : decode cX5_frameOf 11 = .ok (.aload_n 0, 1) := by decide +kernel
theorem dX5_frameOf_12 : decode cX5_frameOf 12 = .ok (.iconst 0, 1) := by decide +kernel
theorem dX5_frameOf_13 : decode cX5_frameOf 13 = .ok (.invokevirtual 59, 3) := by decide +kernel
theorem dX5_frameOf_16 : decode cX5_frameOf 16 = .ok (.ireturn, 1) := by decide +kernel
theorem dX5_frameOf_17 : decode cX5_frameOf 17 = .ok (.iload_n 2, 1) := by decide +kernel
theorem dX5_frameOf_18 : decode cX5_frameOf 18 = .ok (.tableswitch 69 0 3 #[30, 40, 50, 60], 30) := by decide +kernel
theorem dX5_frameOf_48 : decode cX5_frameOf 48 = .ok (.aload_n 0, 1) := by decide +kernel
theorem dX5_frameOf_49 : decode cX5_frameOf 49 = .ok (.getfield 10, 3) := by decide +kernel
theorem dX5_frameOf_52 : decode cX5_frameOf 52 = .ok (.getfield 91, 3) := by decide +kernel
theorem dX5_frameOf_55 : decode cX5_frameOf 55 = .ok (.iload_n 1, 1) := by decide +kernel
theorem dX5_frameOf_56 : decode cX5_frameOf 56 = .ok (.iaload, 1) := by decide +kernel
theorem dX5_frameOf_57 : decode cX5_frameOf 57 = .ok (.ireturn, 1) := by decide +kernel
theorem dX5_frameOf_58 : decode cX5_frameOf 58 = .ok (.aload_n 0, 1) := by decide +kernel
theorem dX5_frameOf_59 : decode cX5_frameOf 59 = .ok (.getfield 10, 3) := by decide +kernel
theorem dX5_frameOf_62 : decode cX5_frameOf 62 = .ok (.getfield 94, 3) := by decide +kernel
theorem dX5_frameOf_65 : decode cX5_frameOf 65 = .ok (.iload_n 1, 1) := by decide +kernel
theorem dX5_frameOf_66 : decode cX5_frameOf 66 = .ok (.iaload, 1) := by decide +kernel
theorem dX5_frameOf_67 : decode cX5_frameOf 67 = .ok (.ireturn, 1) := by decide +kernel
theorem dX5_frameOf_68 : decode cX5_frameOf 68 = .ok (.aload_n 0, 1) := by decide +kernel
theorem dX5_frameOf_69 : decode cX5_frameOf 69 = .ok (.getfield 10, 3) := by decide +kernel
theorem dX5_frameOf_72 : decode cX5_frameOf 72 = .ok (.getfield 97, 3) := by decide +kernel
theorem dX5_frameOf_75 : decode cX5_frameOf 75 = .ok (.iload_n 1, 1) := by decide +kernel
theorem dX5_frameOf_76 : decode cX5_frameOf 76 = .ok (.iaload, 1) := by decide +kernel
theorem dX5_frameOf_77 : decode cX5_frameOf 77 = .ok (.ireturn, 1) := by decide +kernel
theorem dX5_frameOf_78 : decode cX5_frameOf 78 = .ok (.aload_n 0, 1) := by decide +kernel
theorem dX5_frameOf_79 : decode cX5_frameOf 79 = .ok (.getfield 10, 3) := by decide +kernel
theorem dX5_frameOf_82 : decode cX5_frameOf 82 = .ok (.iload_n 1, 1) := by decide +kernel
theorem dX5_frameOf_83 : decode cX5_frameOf 83 = .ok (.invokevirtual 100, 3) := by decide +kernel
theorem dX5_frameOf_86 : decode cX5_frameOf 86 = .ok (.ireturn, 1) := by decide +kernel
theorem dX5_frameOf_87 : decode cX5_frameOf 87 = .ok (.aload_n 0, 1) := by decide +kernel
theorem dX5_frameOf_88 : decode cX5_frameOf 88 = .ok (.iconst 0, 1) := by decide +kernel
theorem dX5_frameOf_89 : decode cX5_frameOf 89 = .ok (.invokevirtual 59, 3) := by decide +kernel
theorem dX5_frameOf_92 : decode cX5_frameOf 92 = .ok (.ireturn, 1) := by decide +kernel
theorem dX5_set_0 : decode cX5_set 0 = .ok (.aload_n 0, 1) := by decide +kernel
theorem dX5_set_1 : decode cX5_set 1 = .ok (.getfield 10, 3) := by decide +kernel
theorem dX5_set_4 : decode cX5_set 4 = .ok (.iload_n 1, 1) := by decide +kernel
theorem dX5_set_5 : decode cX5_set 5 = .ok (.invokevirtual 88, 3) := by decide +kernel
theorem dX5_set_8 : decode cX5_set 8 = .ok (.ifCond .ne 9, 3) := by decide +kernel
theorem dX5_set_11 : decode cX5_set 11 = .ok (.aload_n 0, 1) := by decide +kernel
theorem dX5_set_12 : decode cX5_set 12 = .ok (.iconst 0, 1) := by decide +kernel
theorem dX5_set_13 : decode cX5_set 13 = .ok (.invokevirtual 59, 3) := by decide +kernel
theorem dX5_set_16 : decode cX5_set 16 = .ok (.ireturn, 1) := by decide +kernel
theorem dX5_set_17 : decode cX5_set 17 = .ok (.iload_n 2, 1) := by decide +kernel
theorem dX5_set_18 : decode cX5_set 18 = .ok (.ifCond .ne 34, 3) := by decide +kernel
theorem dX5_set_21 : decode cX5_set 21 = .ok (.iload_n 3, 1) := by decide +kernel
theorem dX5_set_22 : decode cX5_set 22 = .ok (.invokestatic 50, 3) := by decide +kernel
theorem dX5_set_25 : decode cX5_set 25 = .ok (.ifCond .eq 27, 3) := by decide +kernel
theorem dX5_set_28 : decode cX5_set 28 = .ok (.aload_n 0, 1) := by decide +kernel
theorem dX5_set_29 : decode cX5_set 29 = .ok (.getfield 10, 3) := by decide +kernel
theorem dX5_set_32 : decode cX5_set 32 = .ok (.getfield 91, 3) := by decide +kernel
theorem dX5_set_35 : decode cX5_set 35 = .ok (.iload_n 1, 1) := by decide +kernel
theorem dX5_set_36 : decode cX5_set 36 = .ok (.iaload, 1) := by decide +kernel
theorem dX5_set_37 : decode cX5_set 37 = .ok (.istore 4, 2) := by decide +kernel
theorem dX5_set_39 : decode cX5_set 39 = .ok (.aload_n 0, 1) := by decide +kernel
theorem dX5_set_40 : decode cX5_set 40 = .ok (.getfield 10, 3) := by decide +kernel
theorem dX5_set_43 : decode cX5_set 43 = .ok (.getfield 91, 3) := by decide +kernel
theorem dX5_set_46 : decode cX5_set 46 = .ok (.iload_n 1, 1) := by decide +kernel
theorem dX5_set_47 : decode cX5_set 47 = .ok (.iload_n 3, 1) := by decide +kernel
theorem dX5_set_48 : decode cX5_set 48 = .ok (.iastore, 1) := by decide +kernel
theorem dX5_set_49 : decode cX5_set 49 = .ok (.iload 4, 2) := by decide +kernel
theorem dX5_set_51 : decode cX5_set 51 = .ok (.ireturn, 1) := by decide +kernel
theorem dX5_set_52 : decode cX5_set 52 = .ok (.iload_n 2, 1) := by decide +kernel
theorem dX5_set_53 : decode cX5_set 53 = .ok (.iconst 1, 1) := by decide +kernel
theorem dX5_set_54 : decode cX5_set 54 = .ok (.if_icmp .ne 36, 3) := by decide +kernel
theorem dX5_set_57 : decode cX5_set 57 = .ok (.iload_n 3, 1) := by decide +kernel
theorem dX5_set_58 : decode cX5_set 58 = .ok (.iconst 0, 1) := by decide +kernel
theorem dX5_set_59 : decode cX5_set 59 = .ok (.iconst 1, 1) := by decide +kernel
theorem dX5_set_60 : decode cX5_set 60 = .ok (.invokestatic 55, 3) := by decide +kernel
theorem dX5_set_63 : decode cX5_set 63 = .ok (.ifCond .eq 27, 3) := by decide +kernel
theorem dX5_set_66 : decode cX5_set 66 = .ok (.aload_n 0, 1) := by decide +kernel
theorem dX5_set_67 : decode cX5_set 67 = .ok (.getfield 10, 3) := by decide +kernel
theorem dX5_set_70 : decode cX5_set 70 = .ok (.getfield 94, 3) := by decide +kernel
theorem dX5_set_73 : decode cX5_set 73 = .ok (.iload_n 1, 1) := by decide +kernel
theorem dX5_set_74 : decode cX5_set 74 = .ok (.iaload, 1) := by decide +kernel
theorem dX5_set_75 : decode cX5_set 75 = .ok (.istore 4, 2) := by decide +kernel
theorem dX5_set_77 : decode cX5_set 77 = .ok (.aload_n 0, 1) := by decide +kernel
theorem dX5_set_78 : decode cX5_set 78 = .ok (.getfield 10, 3) := by decide +kernel
theorem dX5_set_81 : decode cX5_set 81 = .ok (.getfield 94, 3) := by decide +kernel
theorem dX5_set_84 : decode cX5_set 84 = .ok (.iload_n 1, 1) := by decide +kernel
theorem dX5_set_85 : decode cX5_set 85 = .ok (.iload_n 3, 1) := by decide +kernel
theorem dX5_set_86 : decode cX5_set 86 = .ok (.iastore, 1) := by decide +kernel
theorem dX5_set_87 : decode cX5_set 87 = .ok (.iload 4, 2) := by decide +kernel
theorem dX5_set_89 : decode cX5_set 89 = .ok (.ireturn, 1) := by decide +kernel
theorem dX5_set_90 : decode cX5_set 90 = .ok (.aload_n 0, 1) := by decide +kernel
theorem dX5_set_91 : decode cX5_set 91 = .ok (.iconst 0, 1) := by decide +kernel
theorem dX5_set_92 : decode cX5_set 92 = .ok (.invokevirtual 59, 3) := by decide +kernel
theorem dX5_set_95 : decode cX5_set 95 = .ok (.ireturn, 1) := by decide +kernel
theorem dX5_of_0 : decode cX5_of 0 = .ok (.aload_n 0, 1) := by decide +kernel
theorem dX5_of_1 : decode cX5_of 1 = .ok (.getfield 10, 3) := by decide +kernel
theorem dX5_of_4 : decode cX5_of 4 = .ok (.iload_n 1, 1) := by decide +kernel
theorem dX5_of_5 : decode cX5_of 5 = .ok (.invokevirtual 103, 3) := by decide +kernel
theorem dX5_of_8 : decode cX5_of 8 = .ok (.ifCond .ne 9, 3) := by decide +kernel
theorem dX5_of_11 : decode cX5_of 11 = .ok (.aload_n 0, 1) := by decide +kernel
theorem dX5_of_12 : decode cX5_of 12 = .ok (.iconst 0, 1) := by decide +kernel
theorem dX5_of_13 : decode cX5_of 13 = .ok (.invokevirtual 59, 3) := by decide +kernel
theorem dX5_of_16 : decode cX5_of 16 = .ok (.ireturn, 1) := by decide +kernel
theorem dX5_of_17 : decode cX5_of 17 = .ok (.iload_n 2, 1) := by decide +kernel
theorem dX5_of_18 : decode cX5_of 18 = .ok (.tableswitch 105 0 5 #[38, 48, 58, 67, 76, 96], 38) := by decide +kernel
theorem dX5_of_56 : decode cX5_of 56 = .ok (.aload_n 0, 1) := by decide +kernel
theorem dX5_of_57 : decode cX5_of 57 = .ok (.getfield 10, 3) := by decide +kernel
theorem dX5_of_60 : decode cX5_of 60 = .ok (.getfield 106, 3) := by decide +kernel
theorem dX5_of_63 : decode cX5_of 63 = .ok (.iload_n 1, 1) := by decide +kernel
theorem dX5_of_64 : decode cX5_of 64 = .ok (.iaload, 1) := by decide +kernel
theorem dX5_of_65 : decode cX5_of 65 = .ok (.ireturn, 1) := by decide +kernel
theorem dX5_of_66 : decode cX5_of 66 = .ok (.aload_n 0, 1) := by decide +kernel
theorem dX5_of_67 : decode cX5_of 67 = .ok (.getfield 10, 3) := by decide +kernel
theorem dX5_of_70 : decode cX5_of 70 = .ok (.getfield 109, 3) := by decide +kernel
theorem dX5_of_73 : decode cX5_of 73 = .ok (.iload_n 1, 1) := by decide +kernel
theorem dX5_of_74 : decode cX5_of 74 = .ok (.iaload, 1) := by decide +kernel
theorem dX5_of_75 : decode cX5_of 75 = .ok (.ireturn, 1) := by decide +kernel
theorem dX5_of_76 : decode cX5_of 76 = .ok (.aload_n 0, 1) := by decide +kernel
theorem dX5_of_77 : decode cX5_of 77 = .ok (.getfield 10, 3) := by decide +kernel
theorem dX5_of_80 : decode cX5_of 80 = .ok (.iload_n 1, 1) := by decide +kernel
theorem dX5_of_81 : decode cX5_of 81 = .ok (.invokevirtual 112, 3) := by decide +kernel
theorem dX5_of_84 : decode cX5_of 84 = .ok (.ireturn, 1) := by decide +kernel
theorem dX5_of_85 : decode cX5_of 85 = .ok (.aload_n 0, 1) := by decide +kernel
theorem dX5_of_86 : decode cX5_of 86 = .ok (.getfield 10, 3) := by decide +kernel
theorem dX5_of_89 : decode cX5_of 89 = .ok (.iload_n 1, 1) := by decide +kernel
theorem dX5_of_90 : decode cX5_of 90 = .ok (.invokevirtual 115, 3) := by decide +kernel
theorem dX5_of_93 : decode cX5_of 93 = .ok (.ireturn, 1) := by decide +kernel
theorem dX5_of_94 : decode cX5_of 94 = .ok (.aload_n 0, 1) := by decide +kernel
theorem dX5_of_95 : decode cX5_of 95 = .ok (.getfield 10, 3) := by decide +kernel
theorem dX5_of_98 : decode cX5_of 98 = .ok (.getfield 106, 3) := by decide +kernel
theorem dX5_of_101 : decode cX5_of 101 = .ok (.iload_n 1, 1) := by decide +kernel
theorem dX5_of_102 : decode cX5_of 102 = .ok (.iaload, 1) := by decide +kernel
theorem dX5_of_103 : decode cX5_of 103 = .ok (.aload_n 0, 1) := by decide +kernel
theorem dX5_of_104 : decode cX5_of 104 = .ok (.getfield 10, 3) := by decide +kernel
theorem dX5_of_107 : decode cX5_of 107 = .ok (.getfield 118, 3) := by decide +kernel
theorem dX5_of_110 : decode cX5_of 110 = .ok (.invokestatic 121, 3) := by decide +kernel
theorem dX5_of_113 : decode cX5_of 113 = .ok (.ireturn, 1) := by decide +kernel
theorem dX5_of_114 : decode cX5_of 114 = .ok (.aload_n 0, 1) := by decide +kernel
theorem dX5_of_115 : decode cX5_of 115 = .ok (.getfield 10, 3) := by decide +kernel
theorem dX5_of_118 : decode cX5_of 118 = .ok (.iload_n 1, 1) := by decide +kernel
theorem dX5_of_119 : decode cX5_of 119 = .ok (.invokevirtual 124, 3) := by decide +kernel
theorem dX5_of_122 : decode cX5_of 122 = .ok (.ireturn, 1) := by decide +kernel
theorem dX5_of_123 : decode cX5_of 123 = .ok (.aload_n 0, 1) := by decide +kernel
theorem dX5_of_124 : decode cX5_of 124 = .ok (.iconst 0, 1) := by decide +kernel
theorem dX5_of_125 : decode cX5_of 125 = .ok (.invokevirtual 59, 3) := by decide +kernel
theorem dX5_of_128 : decode cX5_of 128 = .ok (.ireturn, 1) := by decide +kernel
theorem dX5_fine_0 : decode cX5_fine 0 = .ok (.aload_n 0, 1) := by decide +kernel
theorem dX5_fine_1 : decode cX5_fine 1 = .ok (.getfield 10, 3) := by decide +kernel
theorem dX5_fine_4 : decode cX5_fine 4 = .ok (.iload_n 1, 1) := by decide +kernel
theorem dX5_fine_5 : decode cX5_fine 5 = .ok (.invokevirtual 103, 3) := by decide +kernel
theorem dX5_fine_8 : decode cX5_fine 8 = .ok (.ifCond .eq 13, 3) := by decide +kernel
theorem dX5_fine_11 : decode cX5_fine 11 = .ok (.iload_n 2, 1) := by decide +kernel
theorem dX5_fine_12 : decode cX5_fine 12 = .ok (.iconst 0, 1) := by decide +kernel
theorem dX5_fine_13 : decode cX5_fine 13 = .ok (.bipush 99, 2) := by decide +kernel
theorem dX5_fine_15 : decode cX5_fine 15 = .ok (.invokestatic 55, 3) := by decide +kernel
theorem dX5_fine_18 : decode cX5_fine 18 = .ok (.ifCond .ne 9, 3) := by decide +kernel
theorem dX5_fine_21 : decode cX5_fine 21 = .ok (.aload_n 0, 1) := by decide +kernel
theorem dX5_fine_22 : decode cX5_fine 22 = .ok (.iconst 0, 1) := by decide +kernel
theorem dX5_fine_23 : decode cX5_fine 23 = .ok (.invokevirtual 59, 3) := by decide +kernel
theorem dX5_fine_26 : decode cX5_fine 26 = .ok (.ireturn, 1) := by decide +kernel
theorem dX5_fine_27 : decode cX5_fine 27 = .ok (.aload_n 0, 1) := by decide +kernel
theorem dX5_fine_28 : decode cX5_fine 28 = .ok (.getfield 10, 3) := by decide +kernel
theorem dX5_fine_31 : decode cX5_fine 31 = .ok (.getfield 109, 3) := by decide +kernel
theorem dX5_fine_34 : decode cX5_fine 34 = .ok (.iload_n 1, 1) := by decide +kernel
theorem dX5_fine_35 : decode cX5_fine 35 = .ok (.iaload, 1) := by decide +kernel
theorem dX5_fine_36 : decode cX5_fine 36 = .ok (.istore_n 3, 1) := by decide +kernel
theorem dX5_fine_37 : decode cX5_fine 37 = .ok (.aload_n 0, 1) := by decide +kernel
theorem dX5_fine_38 : decode cX5_fine 38 = .ok (.getfield 10, 3) := by decide +kernel
theorem dX5_fine_41 : decode cX5_fine 41 = .ok (.getfield 109, 3) := by decide +kernel
theorem dX5_fine_44 : decode cX5_fine 44 = .ok (.iload_n 1, 1) := by decide +kernel
theorem dX5_fine_45 : decode cX5_fine 45 = .ok (.iload_n 2, 1) := by decide +kernel
theorem dX5_fine_46 : decode cX5_fine 46 = .ok (.iastore, 1) := by decide +kernel
theorem dX5_fine_47 : decode cX5_fine 47 = .ok (.iload_n 3, 1) := by decide +kernel
theorem dX5_fine_48 : decode cX5_fine 48 = .ok (.ireturn, 1) := by decide +kernel
theorem dX5_turn_0 : decode cX5_turn 0 = .ok (.aload_n 0, 1) := by decide +kernel
theorem dX5_turn_1 : decode cX5_turn 1 = .ok (.getfield 10, 3) := by decide +kernel
theorem dX5_turn_4 : decode cX5_turn 4 = .ok (.iload_n 1, 1) := by decide +kernel
theorem dX5_turn_5 : decode cX5_turn 5 = .ok (.invokevirtual 103, 3) := by decide +kernel
theorem dX5_turn_8 : decode cX5_turn 8 = .ok (.ifCond .eq 10, 3) := by decide +kernel
theorem dX5_turn_11 : decode cX5_turn 11 = .ok (.iload_n 2, 1) := by decide +kernel
theorem dX5_turn_12 : decode cX5_turn 12 = .ok (.invokestatic 75, 3) := by decide +kernel
theorem dX5_turn_15 : decode cX5_turn 15 = .ok (.ifCond .ne 9, 3) := by decide +kernel
theorem dX5_turn_18 : decode cX5_turn 18 = .ok (.aload_n 0, 1) := by decide +kernel
theorem dX5_turn_19 : decode cX5_turn 19 = .ok (.iconst 0, 1) := by decide +kernel
theorem dX5_turn_20 : decode cX5_turn 20 = .ok (.invokevirtual 59, 3) := by decide +kernel
theorem dX5_turn_23 : decode cX5_turn 23 = .ok (.ireturn, 1) := by decide +kernel
theorem dX5_turn_24 : decode cX5_turn 24 = .ok (.aload_n 0, 1) := by decide +kernel
theorem dX5_turn_25 : decode cX5_turn 25 = .ok (.getfield 10, 3) := by decide +kernel
theorem dX5_turn_28 : decode cX5_turn 28 = .ok (.getfield 106, 3) := by decide +kernel
theorem dX5_turn_31 : decode cX5_turn 31 = .ok (.iload_n 1, 1) := by decide +kernel
theorem dX5_turn_32 : decode cX5_turn 32 = .ok (.iaload, 1) := by decide +kernel
theorem dX5_turn_33 : decode cX5_turn 33 = .ok (.istore_n 3, 1) := by decide +kernel
theorem dX5_turn_34 : decode cX5_turn 34 = .ok (.aload_n 0, 1) := by decide +kernel
theorem dX5_turn_35 : decode cX5_turn 35 = .ok (.getfield 10, 3) := by decide +kernel
theorem dX5_turn_38 : decode cX5_turn 38 = .ok (.getfield 106, 3) := by decide +kernel
theorem dX5_turn_41 : decode cX5_turn 41 = .ok (.iload_n 1, 1) := by decide +kernel
theorem dX5_turn_42 : decode cX5_turn 42 = .ok (.iload_n 2, 1) := by decide +kernel
theorem dX5_turn_43 : decode cX5_turn 43 = .ok (.iastore, 1) := by decide +kernel
theorem dX5_turn_44 : decode cX5_turn 44 = .ok (.iload_n 3, 1) := by decide +kernel
theorem dX5_turn_45 : decode cX5_turn 45 = .ok (.ireturn, 1) := by decide +kernel
theorem dX5_as_0 : decode cX5_as 0 = .ok (.aload_n 0, 1) := by decide +kernel
theorem dX5_as_1 : decode cX5_as 1 = .ok (.getfield 10, 3) := by decide +kernel
theorem dX5_as_4 : decode cX5_as 4 = .ok (.iload_n 1, 1) := by decide +kernel
theorem dX5_as_5 : decode cX5_as 5 = .ok (.invokevirtual 103, 3) := by decide +kernel
theorem dX5_as_8 : decode cX5_as 8 = .ok (.ifCond .eq 10, 3) := by decide +kernel
theorem dX5_as_11 : decode cX5_as 11 = .ok (.iload_n 2, 1) := by decide +kernel
theorem dX5_as_12 : decode cX5_as 12 = .ok (.invokestatic 75, 3) := by decide +kernel
theorem dX5_as_15 : decode cX5_as 15 = .ok (.ifCond .ne 9, 3) := by decide +kernel
theorem dX5_as_18 : decode cX5_as 18 = .ok (.aload_n 0, 1) := by decide +kernel
theorem dX5_as_19 : decode cX5_as 19 = .ok (.iconst 0, 1) := by decide +kernel
theorem dX5_as_20 : decode cX5_as 20 = .ok (.invokevirtual 59, 3) := by decide +kernel
theorem dX5_as_23 : decode cX5_as 23 = .ok (.ireturn, 1) := by decide +kernel
theorem dX5_as_24 : decode cX5_as 24 = .ok (.aload_n 0, 1) := by decide +kernel
theorem dX5_as_25 : decode cX5_as 25 = .ok (.getfield 10, 3) := by decide +kernel
theorem dX5_as_28 : decode cX5_as 28 = .ok (.getfield 106, 3) := by decide +kernel
theorem dX5_as_31 : decode cX5_as 31 = .ok (.iload_n 1, 1) := by decide +kernel
theorem dX5_as_32 : decode cX5_as 32 = .ok (.iaload, 1) := by decide +kernel
theorem dX5_as_33 : decode cX5_as 33 = .ok (.iload_n 2, 1) := by decide +kernel
theorem dX5_as_34 : decode cX5_as 34 = .ok (.invokestatic 127, 3) := by decide +kernel
theorem dX5_as_37 : decode cX5_as 37 = .ok (.ifCond .ne 9, 3) := by decide +kernel
theorem dX5_as_40 : decode cX5_as 40 = .ok (.aload_n 0, 1) := by decide +kernel
theorem dX5_as_41 : decode cX5_as 41 = .ok (.iconst 2, 1) := by decide +kernel
theorem dX5_as_42 : decode cX5_as 42 = .ok (.invokevirtual 59, 3) := by decide +kernel
theorem dX5_as_45 : decode cX5_as 45 = .ok (.ireturn, 1) := by decide +kernel
theorem dX5_as_46 : decode cX5_as 46 = .ok (.aload_n 0, 1) := by decide +kernel
theorem dX5_as_47 : decode cX5_as 47 = .ok (.getfield 10, 3) := by decide +kernel
theorem dX5_as_50 : decode cX5_as 50 = .ok (.getfield 109, 3) := by decide +kernel
theorem dX5_as_53 : decode cX5_as 53 = .ok (.iload_n 1, 1) := by decide +kernel
theorem dX5_as_54 : decode cX5_as 54 = .ok (.iaload, 1) := by decide +kernel
theorem dX5_as_55 : decode cX5_as 55 = .ok (.ireturn, 1) := by decide +kernel
theorem dX5_trade_0 : decode cX5_trade 0 = .ok (.aload_n 0, 1) := by decide +kernel
theorem dX5_trade_1 : decode cX5_trade 1 = .ok (.getfield 10, 3) := by decide +kernel
theorem dX5_trade_4 : decode cX5_trade 4 = .ok (.iload_n 1, 1) := by decide +kernel
theorem dX5_trade_5 : decode cX5_trade 5 = .ok (.invokevirtual 88, 3) := by decide +kernel
theorem dX5_trade_8 : decode cX5_trade 8 = .ok (.ifCond .eq 19, 3) := by decide +kernel
theorem dX5_trade_11 : decode cX5_trade 11 = .ok (.aload_n 0, 1) := by decide +kernel
theorem dX5_trade_12 : decode cX5_trade 12 = .ok (.getfield 10, 3) := by decide +kernel
theorem dX5_trade_15 : decode cX5_trade 15 = .ok (.iload_n 2, 1) := by decide +kernel
theorem dX5_trade_16 : decode cX5_trade 16 = .ok (.invokevirtual 88, 3) := by decide +kernel
theorem dX5_trade_19 : decode cX5_trade 19 = .ok (.ifCond .eq 8, 3) := by decide +kernel
theorem dX5_trade_22 : decode cX5_trade 22 = .ok (.iload_n 1, 1) := by decide +kernel
theorem dX5_trade_23 : decode cX5_trade 23 = .ok (.iload_n 2, 1) := by decide +kernel
theorem dX5_trade_24 : decode cX5_trade 24 = .ok (.if_icmp .ne 9, 3) := by decide +kernel
theorem dX5_trade_27 : decode cX5_trade 27 = .ok (.aload_n 0, 1) := by decide +kernel
theorem dX5_trade_28 : decode cX5_trade 28 = .ok (.iconst 0, 1) := by decide +kernel
theorem dX5_trade_29 : decode cX5_trade 29 = .ok (.invokevirtual 59, 3) := by decide +kernel
theorem dX5_trade_32 : decode cX5_trade 32 = .ok (.ireturn, 1) := by decide +kernel
theorem dX5_trade_33 : decode cX5_trade 33 = .ok (.aload_n 0, 1) := by decide +kernel
theorem dX5_trade_34 : decode cX5_trade 34 = .ok (.getfield 10, 3) := by decide +kernel
theorem dX5_trade_37 : decode cX5_trade 37 = .ok (.iload_n 1, 1) := by decide +kernel
theorem dX5_trade_38 : decode cX5_trade 38 = .ok (.iload_n 2, 1) := by decide +kernel
theorem dX5_trade_39 : decode cX5_trade 39 = .ok (.invokevirtual 131, 3) := by decide +kernel
theorem dX5_trade_42 : decode cX5_trade 42 = .ok (.ifCond .ne 9, 3) := by decide +kernel
theorem dX5_trade_45 : decode cX5_trade 45 = .ok (.aload_n 0, 1) := by decide +kernel
theorem dX5_trade_46 : decode cX5_trade 46 = .ok (.iconst 4, 1) := by decide +kernel
theorem dX5_trade_47 : decode cX5_trade 47 = .ok (.invokevirtual 59, 3) := by decide +kernel
theorem dX5_trade_50 : decode cX5_trade 50 = .ok (.ireturn, 1) := by decide +kernel
theorem dX5_trade_51 : decode cX5_trade 51 = .ok (.aload_n 0, 1) := by decide +kernel
theorem dX5_trade_52 : decode cX5_trade 52 = .ok (.getfield 10, 3) := by decide +kernel
theorem dX5_trade_55 : decode cX5_trade 55 = .ok (.iload_n 1, 1) := by decide +kernel
theorem dX5_trade_56 : decode cX5_trade 56 = .ok (.iload_n 2, 1) := by decide +kernel
theorem dX5_trade_57 : decode cX5_trade 57 = .ok (.invokevirtual 134, 3) := by decide +kernel
theorem dX5_trade_60 : decode cX5_trade 60 = .ok (.ireturn, 1) := by decide +kernel
theorem dX5_shift_0 : decode cX5_shift 0 = .ok (.aload_n 0, 1) := by decide +kernel
theorem dX5_shift_1 : decode cX5_shift 1 = .ok (.getfield 10, 3) := by decide +kernel
theorem dX5_shift_4 : decode cX5_shift 4 = .ok (.invokevirtual 137, 3) := by decide +kernel
theorem dX5_shift_7 : decode cX5_shift 7 = .ok (.aload_n 0, 1) := by decide +kernel
theorem dX5_shift_8 : decode cX5_shift 8 = .ok (.getfield 10, 3) := by decide +kernel
theorem dX5_shift_11 : decode cX5_shift 11 = .ok (.getfield 80, 3) := by decide +kernel
theorem dX5_shift_14 : decode cX5_shift 14 = .ok (.ireturn, 1) := by decide +kernel
theorem dX5_back_0 : decode cX5_back 0 = .ok (.aload_n 0, 1) := by decide +kernel
theorem dX5_back_1 : decode cX5_back 1 = .ok (.getfield 16, 3) := by decide +kernel
theorem dX5_back_4 : decode cX5_back 4 = .ok (.aload_n 0, 1) := by decide +kernel
theorem dX5_back_5 : decode cX5_back 5 = .ok (.getfield 10, 3) := by decide +kernel
theorem dX5_back_8 : decode cX5_back 8 = .ok (.invokevirtual 140, 3) := by decide +kernel
theorem dX5_back_11 : decode cX5_back 11 = .ok (.iconst 0, 1) := by decide +kernel
theorem dX5_back_12 : decode cX5_back 12 = .ok (.istore_n 1, 1) := by decide +kernel
theorem dX5_back_13 : decode cX5_back 13 = .ok (.iload_n 1, 1) := by decide +kernel
theorem dX5_back_14 : decode cX5_back 14 = .ok (.bipush 8, 2) := by decide +kernel
theorem dX5_back_16 : decode cX5_back 16 = .ok (.if_icmp .gt 28, 3) := by decide +kernel
theorem dX5_back_19 : decode cX5_back 19 = .ok (.aload_n 0, 1) := by decide +kernel
theorem dX5_back_20 : decode cX5_back 20 = .ok (.getfield 16, 3) := by decide +kernel
theorem dX5_back_23 : decode cX5_back 23 = .ok (.invokevirtual 144, 3) := by decide +kernel
theorem dX5_back_26 : decode cX5_back 26 = .ok (.ifCond .eq 5, 3) := by decide +kernel
theorem dX5_back_29 : decode cX5_back 29 = .ok (.iload_n 1, 1) := by decide +kernel
theorem dX5_back_30 : decode cX5_back 30 = .ok (.ireturn, 1) := by decide +kernel
theorem dX5_back_31 : decode cX5_back 31 = .ok (.aload_n 0, 1) := by decide +kernel
theorem dX5_back_32 : decode cX5_back 32 = .ok (.getfield 16, 3) := by decide +kernel
theorem dX5_back_35 : decode cX5_back 35 = .ok (.invokevirtual 137, 3) := by decide +kernel
theorem dX5_back_38 : decode cX5_back 38 = .ok (.iinc 1 1, 3) := by decide +kernel
theorem dX5_back_41 : decode cX5_back 41 = .ok (.goto (-28), 3) := by decide +kernel
theorem dX5_back_44 : decode cX5_back 44 = .ok (.aload_n 0, 1) := by decide +kernel
theorem dX5_back_45 : decode cX5_back 45 = .ok (.iconst 3, 1) := by decide +kernel
theorem dX5_back_46 : decode cX5_back 46 = .ok (.invokevirtual 59, 3) := by decide +kernel
theorem dX5_back_49 : decode cX5_back 49 = .ok (.ireturn, 1) := by decide +kernel
theorem dX5_stone_0 : decode cX5_stone 0 = .ok (.aload_n 0, 1) := by decide +kernel
theorem dX5_stone_1 : decode cX5_stone 1 = .ok (.getfield 10, 3) := by decide +kernel
theorem dX5_stone_4 : decode cX5_stone 4 = .ok (.iload_n 1, 1) := by decide +kernel
theorem dX5_stone_5 : decode cX5_stone 5 = .ok (.invokevirtual 88, 3) := by decide +kernel
theorem dX5_stone_8 : decode cX5_stone 8 = .ok (.ifCond .eq 13, 3) := by decide +kernel
theorem dX5_stone_11 : decode cX5_stone 11 = .ok (.iload_n 2, 1) := by decide +kernel
theorem dX5_stone_12 : decode cX5_stone 12 = .ok (.iconst 0, 1) := by decide +kernel
theorem dX5_stone_13 : decode cX5_stone 13 = .ok (.bipush 20, 2) := by decide +kernel
theorem dX5_stone_15 : decode cX5_stone 15 = .ok (.invokestatic 55, 3) := by decide +kernel
theorem dX5_stone_18 : decode cX5_stone 18 = .ok (.ifCond .ne 9, 3) := by decide +kernel
theorem dX5_stone_21 : decode cX5_stone 21 = .ok (.aload_n 0, 1) := by decide +kernel
theorem dX5_stone_22 : decode cX5_stone 22 = .ok (.iconst 0, 1) := by decide +kernel
theorem dX5_stone_23 : decode cX5_stone 23 = .ok (.invokevirtual 59, 3) := by decide +kernel
theorem dX5_stone_26 : decode cX5_stone 26 = .ok (.ireturn, 1) := by decide +kernel
theorem dX5_stone_27 : decode cX5_stone 27 = .ok (.iload_n 1, 1) := by decide +kernel
theorem dX5_stone_28 : decode cX5_stone 28 = .ok (.istore_n 3, 1) := by decide +kernel
theorem dX5_stone_29 : decode cX5_stone 29 = .ok (.iconst 0, 1) := by decide +kernel
theorem dX5_stone_30 : decode cX5_stone 30 = .ok (.istore 4, 2) := by decide +kernel
theorem dX5_stone_32 : decode cX5_stone 32 = .ok (.iload 4, 2) := by decide +kernel
theorem dX5_stone_34 : decode cX5_stone 34 = .ok (.iload_n 2, 1) := by decide +kernel
theorem dX5_stone_35 : decode cX5_stone 35 = .ok (.if_icmp .ge 19, 3) := by decide +kernel
theorem dX5_stone_38 : decode cX5_stone 38 = .ok (.aload_n 0, 1) := by decide +kernel
theorem dX5_stone_39 : decode cX5_stone 39 = .ok (.getfield 10, 3) := by decide +kernel
theorem dX5_stone_42 : decode cX5_stone 42 = .ok (.getfield 97, 3) := by decide +kernel
theorem dX5_stone_45 : decode cX5_stone 45 = .ok (.iload_n 3, 1) := by decide +kernel
theorem dX5_stone_46 : decode cX5_stone 46 = .ok (.iaload, 1) := by decide +kernel
theorem dX5_stone_47 : decode cX5_stone 47 = .ok (.istore_n 3, 1) := by decide +kernel
theorem dX5_stone_48 : decode cX5_stone 48 = .ok (.iinc 4 1, 3) := by decide +kernel
theorem dX5_stone_51 : decode cX5_stone 51 = .ok (.goto (-19), 3) := by decide +kernel
theorem dX5_stone_54 : decode cX5_stone 54 = .ok (.iload_n 3, 1) := by decide +kernel
theorem dX5_stone_55 : decode cX5_stone 55 = .ok (.ireturn, 1) := by decide +kernel
theorem dX5_home_0 : decode cX5_home 0 = .ok (.aload_n 0, 1) := by decide +kernel
theorem dX5_home_1 : decode cX5_home 1 = .ok (.getfield 10, 3) := by decide +kernel
theorem dX5_home_4 : decode cX5_home 4 = .ok (.invokevirtual 148, 3) := by decide +kernel
theorem dX5_home_7 : decode cX5_home 7 = .ok (.ireturn, 1) := by decide +kernel
theorem dX5_hours_0 : decode cX5_hours 0 = .ok (.iload_n 1, 1) := by decide +kernel
theorem dX5_hours_1 : decode cX5_hours 1 = .ok (.iconst 1, 1) := by decide +kernel
theorem dX5_hours_2 : decode cX5_hours 2 = .ok (.sipush 200, 3) := by decide +kernel
theorem dX5_hours_5 : decode cX5_hours 5 = .ok (.invokestatic 55, 3) := by decide +kernel
theorem dX5_hours_8 : decode cX5_hours 8 = .ok (.ifCond .ne 9, 3) := by decide +kernel
theorem dX5_hours_11 : decode cX5_hours 11 = .ok (.aload_n 0, 1) := by decide +kernel
theorem dX5_hours_12 : decode cX5_hours 12 = .ok (.iconst 0, 1) := by decide +kernel
theorem dX5_hours_13 : decode cX5_hours 13 = .ok (.invokevirtual 59, 3) := by decide +kernel
theorem dX5_hours_16 : decode cX5_hours 16 = .ok (.ireturn, 1) := by decide +kernel
theorem dX5_hours_17 : decode cX5_hours 17 = .ok (.aload_n 0, 1) := by decide +kernel
theorem dX5_hours_18 : decode cX5_hours 18 = .ok (.getfield 10, 3) := by decide +kernel
theorem dX5_hours_21 : decode cX5_hours 21 = .ok (.getfield 118, 3) := by decide +kernel
theorem dX5_hours_24 : decode cX5_hours 24 = .ok (.iload_n 1, 1) := by decide +kernel
theorem dX5_hours_25 : decode cX5_hours 25 = .ok (.iadd, 1) := by decide +kernel
theorem dX5_hours_26 : decode cX5_hours 26 = .ok (.ldc 54, 2) := by decide +kernel
theorem dX5_hours_28 : decode cX5_hours 28 = .ok (.if_icmp .le 9, 3) := by decide +kernel
theorem dX5_hours_31 : decode cX5_hours 31 = .ok (.aload_n 0, 1) := by decide +kernel
theorem dX5_hours_32 : decode cX5_hours 32 = .ok (.iconst 4, 1) := by decide +kernel
theorem dX5_hours_33 : decode cX5_hours 33 = .ok (.invokevirtual 59, 3) := by decide +kernel
theorem dX5_hours_36 : decode cX5_hours 36 = .ok (.ireturn, 1) := by decide +kernel
theorem dX5_hours_37 : decode cX5_hours 37 = .ok (.iconst 0, 1) := by decide +kernel
theorem dX5_hours_38 : decode cX5_hours 38 = .ok (.istore_n 2, 1) := by decide +kernel
theorem dX5_hours_39 : decode cX5_hours 39 = .ok (.iload_n 2, 1) := by decide +kernel
theorem dX5_hours_40 : decode cX5_hours 40 = .ok (.iload_n 1, 1) := by decide +kernel
theorem dX5_hours_41 : decode cX5_hours 41 = .ok (.if_icmp .ge 16, 3) := by decide +kernel
theorem dX5_hours_44 : decode cX5_hours 44 = .ok (.aload_n 0, 1) := by decide +kernel
theorem dX5_hours_45 : decode cX5_hours 45 = .ok (.getfield 10, 3) := by decide +kernel
theorem dX5_hours_48 : decode cX5_hours 48 = .ok (.invokevirtual 152, 3) := by decide +kernel
theorem dX5_hours_51 : decode cX5_hours 51 = .ok (.iinc 2 1, 3) := by decide +kernel
theorem dX5_hours_54 : decode cX5_hours 54 = .ok (.goto (-15), 3) := by decide +kernel
theorem dX5_hours_57 : decode cX5_hours 57 = .ok (.aload_n 0, 1) := by decide +kernel
theorem dX5_hours_58 : decode cX5_hours 58 = .ok (.getfield 10, 3) := by decide +kernel
theorem dX5_hours_61 : decode cX5_hours 61 = .ok (.invokevirtual 155, 3) := by decide +kernel
theorem dX5_hours_64 : decode cX5_hours 64 = .ok (.ireturn, 1) := by decide +kernel
theorem dX5_now_0 : decode cX5_now 0 = .ok (.iload_n 1, 1) := by decide +kernel
theorem dX5_now_1 : decode cX5_now 1 = .ok (.tableswitch 101 0 5 #[39, 47, 58, 77, 85, 93], 39) := by decide +kernel
theorem dX5_now_40 : decode cX5_now 40 = .ok (.aload_n 0, 1) := by decide +kernel
theorem dX5_now_41 : decode cX5_now 41 = .ok (.getfield 10, 3) := by decide +kernel
theorem dX5_now_44 : decode cX5_now 44 = .ok (.getfield 118, 3) := by decide +kernel
theorem dX5_now_47 : decode cX5_now 47 = .ok (.ireturn, 1) := by decide +kernel
theorem dX5_now_48 : decode cX5_now 48 = .ok (.aload_n 0, 1) := by decide +kernel
theorem dX5_now_49 : decode cX5_now 49 = .ok (.getfield 10, 3) := by decide +kernel
theorem dX5_now_52 : decode cX5_now 52 = .ok (.getfield 118, 3) := by decide +kernel
theorem dX5_now_55 : decode cX5_now 55 = .ok (.invokestatic 158, 3) := by decide +kernel
theorem dX5_now_58 : decode cX5_now 58 = .ok (.ireturn, 1) := by decide +kernel
theorem dX5_now_59 : decode cX5_now 59 = .ok (.aload_n 0, 1) := by decide +kernel
theorem dX5_now_60 : decode cX5_now 60 = .ok (.getfield 10, 3) := by decide +kernel
theorem dX5_now_63 : decode cX5_now 63 = .ok (.getfield 118, 3) := by decide +kernel
theorem dX5_now_66 : decode cX5_now 66 = .ok (.invokestatic 163, 3) := by decide +kernel
theorem dX5_now_69 : decode cX5_now 69 = .ok (.ifCond .eq 7, 3) := by decide +kernel
theorem dX5_now_72 : decode cX5_now 72 = .ok (.iconst 1, 1) := by decide +kernel
theorem dX5_now_73 : decode cX5_now 73 = .ok (.goto 4, 3) := by decide +kernel
theorem dX5_now_76 : decode cX5_now 76 = .ok (.iconst 0, 1) := by decide +kernel
theorem dX5_now_77 : decode cX5_now 77 = .ok (.ireturn, 1) := by decide +kernel
theorem dX5_now_78 : decode cX5_now 78 = .ok (.aload_n 0, 1) := by decide +kernel
theorem dX5_now_79 : decode cX5_now 79 = .ok (.getfield 10, 3) := by decide +kernel
theorem dX5_now_82 : decode cX5_now 82 = .ok (.invokevirtual 155, 3) := by decide +kernel
theorem dX5_now_85 : decode cX5_now 85 = .ok (.ireturn, 1) := by decide +kernel
theorem dX5_now_86 : decode cX5_now 86 = .ok (.aload_n 0, 1) := by decide +kernel
theorem dX5_now_87 : decode cX5_now 87 = .ok (.getfield 10, 3) := by decide +kernel
theorem dX5_now_90 : decode cX5_now 90 = .ok (.invokevirtual 166, 3) := by decide +kernel
theorem dX5_now_93 : decode cX5_now 93 = .ok (.ireturn, 1) := by decide +kernel
theorem dX5_now_94 : decode cX5_now 94 = .ok (.aload_n 0, 1) := by decide +kernel
theorem dX5_now_95 : decode cX5_now 95 = .ok (.getfield 10, 3) := by decide +kernel
theorem dX5_now_98 : decode cX5_now 98 = .ok (.invokevirtual 169, 3) := by decide +kernel
theorem dX5_now_101 : decode cX5_now 101 = .ok (.ireturn, 1) := by decide +kernel
theorem dX5_now_102 : decode cX5_now 102 = .ok (.aload_n 0, 1) := by decide +kernel
theorem dX5_now_103 : decode cX5_now 103 = .ok (.iconst 0, 1) := by decide +kernel
theorem dX5_now_104 : decode cX5_now 104 = .ok (.invokevirtual 59, 3) := by decide +kernel
theorem dX5_now_107 : decode cX5_now 107 = .ok (.ireturn, 1) := by decide +kernel
theorem dX5_on_0 : decode cX5_on 0 = .ok (.iload_n 1, 1) := by decide +kernel
theorem dX5_on_1 : decode cX5_on 1 = .ok (.invokestatic 50, 3) := by decide +kernel
theorem dX5_on_4 : decode cX5_on 4 = .ok (.ifCond .eq 14, 3) := by decide +kernel
theorem dX5_on_7 : decode cX5_on 7 = .ok (.iload_n 2, 1) := by decide +kernel
theorem dX5_on_8 : decode cX5_on 8 = .ok (.iconst 0, 1) := by decide +kernel
theorem dX5_on_9 : decode cX5_on 9 = .ok (.sipush 400, 3) := by decide +kernel
theorem dX5_on_12 : decode cX5_on 12 = .ok (.invokestatic 55, 3) := by decide +kernel
theorem dX5_on_15 : decode cX5_on 15 = .ok (.ifCond .ne 9, 3) := by decide +kernel
theorem dX5_on_18 : decode cX5_on 18 = .ok (.aload_n 0, 1) := by decide +kernel
theorem dX5_on_19 : decode cX5_on 19 = .ok (.iconst 0, 1) := by decide +kernel
theorem dX5_on_20 : decode cX5_on 20 = .ok (.invokevirtual 59, 3) := by decide +kernel
theorem dX5_on_23 : decode cX5_on 23 = .ok (.ireturn, 1) := by decide +kernel
theorem dX5_on_24 : decode cX5_on 24 = .ok (.aload_n 0, 1) := by decide +kernel
theorem dX5_on_25 : decode cX5_on 25 = .ok (.iload_n 2, 1) := by decide +kernel
theorem dX5_on_26 : decode cX5_on 26 = .ok (.invokevirtual 172, 3) := by decide +kernel
theorem dX5_on_29 : decode cX5_on 29 = .ok (.aload_n 0, 1) := by decide +kernel
theorem dX5_on_30 : decode cX5_on 30 = .ok (.aload_n 0, 1) := by decide +kernel
theorem dX5_on_31 : decode cX5_on 31 = .ok (.getfield 10, 3) := by decide +kernel
theorem dX5_on_34 : decode cX5_on 34 = .ok (.iload_n 1, 1) := by decide +kernel
theorem dX5_on_35 : decode cX5_on 35 = .ok (.invokevirtual 176, 3) := by decide +kernel
theorem dX5_on_38 : decode cX5_on 38 = .ok (.ireturn, 1) := by decide +kernel
theorem dX5_then_0 : decode cX5_then 0 = .ok (.aload_n 0, 1) := by decide +kernel
theorem dX5_then_1 : decode cX5_then 1 = .ok (.getfield 10, 3) := by decide +kernel
theorem dX5_then_4 : decode cX5_then 4 = .ok (.iload_n 1, 1) := by decide +kernel
theorem dX5_then_5 : decode cX5_then 5 = .ok (.invokevirtual 88, 3) := by decide +kernel
theorem dX5_then_8 : decode cX5_then 8 = .ok (.ifCond .eq 23, 3) := by decide +kernel
theorem dX5_then_11 : decode cX5_then 11 = .ok (.iload_n 2, 1) := by decide +kernel
theorem dX5_then_12 : decode cX5_then 12 = .ok (.iconst 0, 1) := by decide +kernel
theorem dX5_then_13 : decode cX5_then 13 = .ok (.sipush 400, 3) := by decide +kernel
theorem dX5_then_16 : decode cX5_then 16 = .ok (.invokestatic 55, 3) := by decide +kernel
theorem dX5_then_19 : decode cX5_then 19 = .ok (.ifCond .eq 12, 3) := by decide +kernel
theorem dX5_then_22 : decode cX5_then 22 = .ok (.iload_n 3, 1) := by decide +kernel
theorem dX5_then_23 : decode cX5_then 23 = .ok (.iconst 0, 1) := by decide +kernel
theorem dX5_then_24 : decode cX5_then 24 = .ok (.iconst 1, 1) := by decide +kernel
theorem dX5_then_25 : decode cX5_then 25 = .ok (.invokestatic 55, 3) := by decide +kernel
theorem dX5_then_28 : decode cX5_then 28 = .ok (.ifCond .ne 9, 3) := by decide +kernel
theorem dX5_then_31 : decode cX5_then 31 = .ok (.aload_n 0, 1) := by decide +kernel
theorem dX5_then_32 : decode cX5_then 32 = .ok (.iconst 0, 1) := by decide +kernel
theorem dX5_then_33 : decode cX5_then 33 = .ok (.invokevirtual 59, 3) := by decide +kernel
theorem dX5_then_36 : decode cX5_then 36 = .ok (.ireturn, 1) := by decide +kernel
theorem dX5_then_37 : decode cX5_then 37 = .ok (.aload_n 0, 1) := by decide +kernel
theorem dX5_then_38 : decode cX5_then 38 = .ok (.getfield 16, 3) := by decide +kernel
theorem dX5_then_41 : decode cX5_then 41 = .ok (.aload_n 0, 1) := by decide +kernel
theorem dX5_then_42 : decode cX5_then 42 = .ok (.getfield 10, 3) := by decide +kernel
theorem dX5_then_45 : decode cX5_then 45 = .ok (.invokevirtual 140, 3) := by decide +kernel
theorem dX5_then_48 : decode cX5_then 48 = .ok (.iconst 0, 1) := by decide +kernel
theorem dX5_then_49 : decode cX5_then 49 = .ok (.istore 4, 2) := by decide +kernel
theorem dX5_then_51 : decode cX5_then 51 = .ok (.iload 4, 2) := by decide +kernel
theorem dX5_then_53 : decode cX5_then 53 = .ok (.iload_n 2, 1) := by decide +kernel
theorem dX5_then_54 : decode cX5_then 54 = .ok (.if_icmp .ge 16, 3) := by decide +kernel
theorem dX5_then_57 : decode cX5_then 57 = .ok (.aload_n 0, 1) := by decide +kernel
theorem dX5_then_58 : decode cX5_then 58 = .ok (.getfield 16, 3) := by decide +kernel
theorem dX5_then_61 : decode cX5_then 61 = .ok (.invokevirtual 152, 3) := by decide +kernel
theorem dX5_then_64 : decode cX5_then 64 = .ok (.iinc 4 1, 3) := by decide +kernel
theorem dX5_then_67 : decode cX5_then 67 = .ok (.goto (-16), 3) := by decide +kernel
theorem dX5_then_70 : decode cX5_then 70 = .ok (.iload_n 3, 1) := by decide +kernel
theorem dX5_then_71 : decode cX5_then 71 = .ok (.ifCond .ne 14, 3) := by decide +kernel
theorem dX5_then_74 : decode cX5_then 74 = .ok (.aload_n 0, 1) := by decide +kernel
theorem dX5_then_75 : decode cX5_then 75 = .ok (.getfield 16, 3) := by decide +kernel
theorem dX5_then_78 : decode cX5_then 78 = .ok (.iload_n 1, 1) := by decide +kernel
theorem dX5_then_79 : decode cX5_then 79 = .ok (.invokevirtual 100, 3) := by decide +kernel
theorem dX5_then_82 : decode cX5_then 82 = .ok (.goto 20, 3) := by decide +kernel
theorem dX5_then_85 : decode cX5_then 85 = .ok (.aload_n 0, 1) := by decide +kernel
theorem dX5_then_86 : decode cX5_then 86 = .ok (.getfield 16, 3) := by decide +kernel
theorem dX5_then_89 : decode cX5_then 89 = .ok (.getfield 109, 3) := by decide +kernel
theorem dX5_then_92 : decode cX5_then 92 = .ok (.aload_n 0, 1) := by decide +kernel
theorem dX5_then_93 : decode cX5_then 93 = .ok (.getfield 16, 3) := by decide +kernel
theorem dX5_then_96 : decode cX5_then 96 = .ok (.getfield 97, 3) := by decide +kernel
theorem dX5_then_99 : decode cX5_then 99 = .ok (.iload_n 1, 1) := by decide +kernel
theorem dX5_then_100 : decode cX5_then 100 = .ok (.iaload, 1) := by decide +kernel
theorem dX5_then_101 : decode cX5_then 101 = .ok (.iaload, 1) := by decide +kernel
theorem dX5_then_102 : decode cX5_then 102 = .ok (.ireturn, 1) := by decide +kernel
theorem dX5_rich_0 : decode cX5_rich 0 = .ok (.iload_n 1, 1) := by decide +kernel
theorem dX5_rich_1 : decode cX5_rich 1 = .ok (.invokestatic 50, 3) := by decide +kernel
theorem dX5_rich_4 : decode cX5_rich 4 = .ok (.ifCond .eq 13, 3) := by decide +kernel
theorem dX5_rich_7 : decode cX5_rich 7 = .ok (.iload_n 2, 1) := by decide +kernel
theorem dX5_rich_8 : decode cX5_rich 8 = .ok (.iconst 0, 1) := by decide +kernel
theorem dX5_rich_9 : decode cX5_rich 9 = .ok (.ldc 54, 2) := by decide +kernel
theorem dX5_rich_11 : decode cX5_rich 11 = .ok (.invokestatic 55, 3) := by decide +kernel
theorem dX5_rich_14 : decode cX5_rich 14 = .ok (.ifCond .ne 9, 3) := by decide +kernel
theorem dX5_rich_17 : decode cX5_rich 17 = .ok (.aload_n 0, 1) := by decide +kernel
theorem dX5_rich_18 : decode cX5_rich 18 = .ok (.iconst 0, 1) := by decide +kernel
theorem dX5_rich_19 : decode cX5_rich 19 = .ok (.invokevirtual 59, 3) := by decide +kernel
theorem dX5_rich_22 : decode cX5_rich 22 = .ok (.ireturn, 1) := by decide +kernel
theorem dX5_rich_23 : decode cX5_rich 23 = .ok (.aload_n 0, 1) := by decide +kernel
theorem dX5_rich_24 : decode cX5_rich 24 = .ok (.getfield 16, 3) := by decide +kernel
theorem dX5_rich_27 : decode cX5_rich 27 = .ok (.aload_n 0, 1) := by decide +kernel
theorem dX5_rich_28 : decode cX5_rich 28 = .ok (.getfield 10, 3) := by decide +kernel
theorem dX5_rich_31 : decode cX5_rich 31 = .ok (.invokevirtual 140, 3) := by decide +kernel
theorem dX5_rich_34 : decode cX5_rich 34 = .ok (.iconst 0, 1) := by decide +kernel
theorem dX5_rich_35 : decode cX5_rich 35 = .ok (.istore_n 3, 1) := by decide +kernel
theorem dX5_rich_36 : decode cX5_rich 36 = .ok (.iload_n 3, 1) := by decide +kernel
theorem dX5_rich_37 : decode cX5_rich 37 = .ok (.sipush 400, 3) := by decide +kernel
theorem dX5_rich_40 : decode cX5_rich 40 = .ok (.if_icmp .gt 31, 3) := by decide +kernel
theorem dX5_rich_43 : decode cX5_rich 43 = .ok (.aload_n 0, 1) := by decide +kernel
theorem dX5_rich_44 : decode cX5_rich 44 = .ok (.getfield 16, 3) := by decide +kernel
theorem dX5_rich_47 : decode cX5_rich 47 = .ok (.getfield 63, 3) := by decide +kernel
theorem dX5_rich_50 : decode cX5_rich 50 = .ok (.iload_n 1, 1) := by decide +kernel
theorem dX5_rich_51 : decode cX5_rich 51 = .ok (.iaload, 1) := by decide +kernel
theorem dX5_rich_52 : decode cX5_rich 52 = .ok (.iload_n 2, 1) := by decide +kernel
theorem dX5_rich_53 : decode cX5_rich 53 = .ok (.if_icmp .lt 5, 3) := by decide +kernel
theorem dX5_rich_56 : decode cX5_rich 56 = .ok (.iload_n 3, 1) := by decide +kernel
theorem dX5_rich_57 : decode cX5_rich 57 = .ok (.ireturn, 1) := by decide +kernel
theorem dX5_rich_58 : decode cX5_rich 58 = .ok (.aload_n 0, 1) := by decide +kernel
theorem dX5_rich_59 : decode cX5_rich 59 = .ok (.getfield 16, 3) := by decide +kernel
theorem dX5_rich_62 : decode cX5_rich 62 = .ok (.invokevirtual 152, 3) := by decide +kernel
theorem dX5_rich_65 : decode cX5_rich 65 = .ok (.iinc 3 1, 3) := by decide +kernel
theorem dX5_rich_68 : decode cX5_rich 68 = .ok (.goto (-32), 3) := by decide +kernel
theorem dX5_rich_71 : decode cX5_rich 71 = .ok (.aload_n 0, 1) := by decide +kernel
theorem dX5_rich_72 : decode cX5_rich 72 = .ok (.iconst 3, 1) := by decide +kernel
theorem dX5_rich_73 : decode cX5_rich 73 = .ok (.invokevirtual 59, 3) := by decide +kernel
theorem dX5_rich_76 : decode cX5_rich 76 = .ok (.ireturn, 1) := by decide +kernel
theorem dX5_best_0 : decode cX5_best 0 = .ok (.iload_n 1, 1) := by decide +kernel
theorem dX5_best_1 : decode cX5_best 1 = .ok (.invokestatic 50, 3) := by decide +kernel
theorem dX5_best_4 : decode cX5_best 4 = .ok (.ifCond .eq 14, 3) := by decide +kernel
theorem dX5_best_7 : decode cX5_best 7 = .ok (.iload_n 2, 1) := by decide +kernel
theorem dX5_best_8 : decode cX5_best 8 = .ok (.iconst 1, 1) := by decide +kernel
theorem dX5_best_9 : decode cX5_best 9 = .ok (.sipush 200, 3) := by decide +kernel
theorem dX5_best_12 : decode cX5_best 12 = .ok (.invokestatic 55, 3) := by decide +kernel
theorem dX5_best_15 : decode cX5_best 15 = .ok (.ifCond .ne 9, 3) := by decide +kernel
theorem dX5_best_18 : decode cX5_best 18 = .ok (.aload_n 0, 1) := by decide +kernel
theorem dX5_best_19 : decode cX5_best 19 = .ok (.iconst 0, 1) := by decide +kernel
theorem dX5_best_20 : decode cX5_best 20 = .ok (.invokevirtual 59, 3) := by decide +kernel
theorem dX5_best_23 : decode cX5_best 23 = .ok (.ireturn, 1) := by decide +kernel
theorem dX5_best_24 : decode cX5_best 24 = .ok (.aload_n 0, 1) := by decide +kernel
theorem dX5_best_25 : decode cX5_best 25 = .ok (.iload_n 2, 1) := by decide +kernel
theorem dX5_best_26 : decode cX5_best 26 = .ok (.invokevirtual 172, 3) := by decide +kernel
theorem dX5_best_29 : decode cX5_best 29 = .ok (.aload_n 0, 1) := by decide +kernel
theorem dX5_best_30 : decode cX5_best 30 = .ok (.aload_n 0, 1) := by decide +kernel
theorem dX5_best_31 : decode cX5_best 31 = .ok (.getfield 10, 3) := by decide +kernel
theorem dX5_best_34 : decode cX5_best 34 = .ok (.iload_n 1, 1) := by decide +kernel
theorem dX5_best_35 : decode cX5_best 35 = .ok (.invokevirtual 176, 3) := by decide +kernel
theorem dX5_best_38 : decode cX5_best 38 = .ok (.istore_n 3, 1) := by decide +kernel
theorem dX5_best_39 : decode cX5_best 39 = .ok (.iconst (-1), 1) := by decide +kernel
theorem dX5_best_40 : decode cX5_best 40 = .ok (.istore 4, 2) := by decide +kernel
theorem dX5_best_42 : decode cX5_best 42 = .ok (.iconst 0, 1) := by decide +kernel
theorem dX5_best_43 : decode cX5_best 43 = .ok (.istore 5, 2) := by decide +kernel
theorem dX5_best_45 : decode cX5_best 45 = .ok (.iload 5, 2) := by decide +kernel
theorem dX5_best_47 : decode cX5_best 47 = .ok (.aload_n 0, 1) := by decide +kernel
theorem dX5_best_48 : decode cX5_best 48 = .ok (.getfield 10, 3) := by decide +kernel
theorem dX5_best_51 : decode cX5_best 51 = .ok (.getfield 80, 3) := by decide +kernel
theorem dX5_best_54 : decode cX5_best 54 = .ok (.if_icmp .ge 100, 3) := by decide +kernel
theorem dX5_best_57 : decode cX5_best 57 = .ok (.iload 5, 2) := by decide +kernel
theorem dX5_best_59 : decode cX5_best 59 = .ok (.iconst 1, 1) := by decide +kernel
theorem dX5_best_60 : decode cX5_best 60 = .ok (.iadd, 1) := by decide +kernel
theorem dX5_best_61 : decode cX5_best 61 = .ok (.istore 6, 2) := by decide +kernel
theorem dX5_best_63 : decode cX5_best 63 = .ok (.iload 6, 2) := by decide +kernel
theorem dX5_best_65 : decode cX5_best 65 = .ok (.aload_n 0, 1) := by decide +kernel
theorem dX5_best_66 : decode cX5_best 66 = .ok (.getfield 10, 3) := by decide +kernel
theorem dX5_best_69 : decode cX5_best 69 = .ok (.getfield 80, 3) := by decide +kernel
theorem dX5_best_72 : decode cX5_best 72 = .ok (.if_icmp .ge 76, 3) := by decide +kernel
theorem dX5_best_75 : decode cX5_best 75 = .ok (.aload_n 0, 1) := by decide +kernel
theorem dX5_best_76 : decode cX5_best 76 = .ok (.getfield 10, 3) := by decide +kernel
theorem dX5_best_79 : decode cX5_best 79 = .ok (.iload 5, 2) := by decide +kernel
theorem dX5_best_81 : decode cX5_best 81 = .ok (.iload 6, 2) := by decide +kernel
theorem dX5_best_83 : decode cX5_best 83 = .ok (.invokevirtual 131, 3) := by decide +kernel
theorem dX5_best_86 : decode cX5_best 86 = .ok (.ifCond .eq 56, 3) := by decide +kernel
theorem dX5_best_89 : decode cX5_best 89 = .ok (.aload_n 0, 1) := by decide +kernel
theorem dX5_best_90 : decode cX5_best 90 = .ok (.getfield 16, 3) := by decide +kernel
theorem dX5_best_93 : decode cX5_best 93 = .ok (.aload_n 0, 1) := by decide +kernel
theorem dX5_best_94 : decode cX5_best 94 = .ok (.getfield 10, 3) := by decide +kernel
theorem dX5_best_97 : decode cX5_best 97 = .ok (.invokevirtual 140, 3) := by decide +kernel
theorem dX5_best_100 : decode cX5_best 100 = .ok (.aload_n 0, 1) := by decide +kernel
theorem dX5_best_101 : decode cX5_best 101 = .ok (.getfield 16, 3) := by decide +kernel
theorem dX5_best_104 : decode cX5_best 104 = .ok (.iload 5, 2) := by decide +kernel
theorem dX5_best_106 : decode cX5_best 106 = .ok (.iload 6, 2) := by decide +kernel
theorem dX5_best_108 : decode cX5_best 108 = .ok (.invokevirtual 134, 3) := by decide +kernel
theorem dX5_best_111 : decode cX5_best 111 = .ok (.pop, 1) := by decide +kernel
theorem dX5_best_112 : decode cX5_best 112 = .ok (.aload_n 0, 1) := by decide +kernel
theorem dX5_best_113 : decode cX5_best 113 = .ok (.aload_n 0, 1) := by decide +kernel
theorem dX5_best_114 : decode cX5_best 114 = .ok (.getfield 16, 3) := by decide +kernel
theorem dX5_best_117 : decode cX5_best 117 = .ok (.iload_n 1, 1) := by decide +kernel
theorem dX5_best_118 : decode cX5_best 118 = .ok (.invokevirtual 176, 3) := by decide +kernel
theorem dX5_best_121 : decode cX5_best 121 = .ok (.istore 7, 2) := by decide +kernel
theorem dX5_best_123 : decode cX5_best 123 = .ok (.iload 7, 2) := by decide +kernel
theorem dX5_best_125 : decode cX5_best 125 = .ok (.iload_n 3, 1) := by decide +kernel
theorem dX5_best_126 : decode cX5_best 126 = .ok (.if_icmp .le 16, 3) := by decide +kernel
theorem dX5_best_129 : decode cX5_best 129 = .ok (.iload 7, 2) := by decide +kernel
theorem dX5_best_131 : decode cX5_best 131 = .ok (.istore_n 3, 1) := by decide +kernel
theorem dX5_best_132 : decode cX5_best 132 = .ok (.bipush 10, 2) := by decide +kernel
theorem dX5_best_134 : decode cX5_best 134 = .ok (.iload 5, 2) := by decide +kernel
theorem dX5_best_136 : decode cX5_best 136 = .ok (.imul, 1) := by decide +kernel
theorem dX5_best_137 : decode cX5_best 137 = .ok (.iload 6, 2) := by decide +kernel
theorem dX5_best_139 : decode cX5_best 139 = .ok (.iadd, 1) := by decide +kernel
theorem dX5_best_140 : decode cX5_best 140 = .ok (.istore 4, 2) := by decide +kernel
theorem dX5_best_142 : decode cX5_best 142 = .ok (.iinc 6 1, 3) := by decide +kernel
theorem dX5_best_145 : decode cX5_best 145 = .ok (.goto (-82), 3) := by decide +kernel
theorem dX5_best_148 : decode cX5_best 148 = .ok (.iinc 5 1, 3) := by decide +kernel
theorem dX5_best_151 : decode cX5_best 151 = .ok (.goto (-106), 3) := by decide +kernel
theorem dX5_best_154 : decode cX5_best 154 = .ok (.iload 4, 2) := by decide +kernel
theorem dX5_best_156 : decode cX5_best 156 = .ok (.ifCond .ge 11, 3) := by decide +kernel
theorem dX5_best_159 : decode cX5_best 159 = .ok (.aload_n 0, 1) := by decide +kernel
theorem dX5_best_160 : decode cX5_best 160 = .ok (.iconst 3, 1) := by decide +kernel
theorem dX5_best_161 : decode cX5_best 161 = .ok (.invokevirtual 59, 3) := by decide +kernel
theorem dX5_best_164 : decode cX5_best 164 = .ok (.goto 5, 3) := by decide +kernel
theorem dX5_best_167 : decode cX5_best 167 = .ok (.iload 4, 2) := by decide +kernel
theorem dX5_best_169 : decode cX5_best 169 = .ok (.ireturn, 1) := by decide +kernel
theorem dX5_kind_0 : decode cX5_kind 0 = .ok (.aload_n 0, 1) := by decide +kernel
theorem dX5_kind_1 : decode cX5_kind 1 = .ok (.getfield 10, 3) := by decide +kernel
theorem dX5_kind_4 : decode cX5_kind 4 = .ok (.iload_n 1, 1) := by decide +kernel
theorem dX5_kind_5 : decode cX5_kind 5 = .ok (.invokevirtual 103, 3) := by decide +kernel
theorem dX5_kind_8 : decode cX5_kind 8 = .ok (.ifCond .eq 14, 3) := by decide +kernel
theorem dX5_kind_11 : decode cX5_kind 11 = .ok (.iload_n 2, 1) := by decide +kernel
theorem dX5_kind_12 : decode cX5_kind 12 = .ok (.iconst 1, 1) := by decide +kernel
theorem dX5_kind_13 : decode cX5_kind 13 = .ok (.sipush 200, 3) := by decide +kernel
theorem dX5_kind_16 : decode cX5_kind 16 = .ok (.invokestatic 55, 3) := by decide +kernel
theorem dX5_kind_19 : decode cX5_kind 19 = .ok (.ifCond .ne 9, 3) := by decide +kernel
theorem dX5_kind_22 : decode cX5_kind 22 = .ok (.aload_n 0, 1) := by decide +kernel
theorem dX5_kind_23 : decode cX5_kind 23 = .ok (.iconst 0, 1) := by decide +kernel
theorem dX5_kind_24 : decode cX5_kind 24 = .ok (.invokevirtual 59, 3) := by decide +kernel
theorem dX5_kind_27 : decode cX5_kind 27 = .ok (.ireturn, 1) := by decide +kernel
theorem dX5_kind_28 : decode cX5_kind 28 = .ok (.iconst 0, 1) := by decide +kernel
theorem dX5_kind_29 : decode cX5_kind 29 = .ok (.istore_n 3, 1) := by decide +kernel
theorem dX5_kind_30 : decode cX5_kind 30 = .ok (.iconst (-1), 1) := by decide +kernel
theorem dX5_kind_31 : decode cX5_kind 31 = .ok (.istore 4, 2) := by decide +kernel
theorem dX5_kind_33 : decode cX5_kind 33 = .ok (.iconst 0, 1) := by decide +kernel
theorem dX5_kind_34 : decode cX5_kind 34 = .ok (.istore 5, 2) := by decide +kernel
theorem dX5_kind_36 : decode cX5_kind 36 = .ok (.iload 5, 2) := by decide +kernel
theorem dX5_kind_38 : decode cX5_kind 38 = .ok (.bipush 6, 2) := by decide +kernel
theorem dX5_kind_40 : decode cX5_kind 40 = .ok (.if_icmp .ge 47, 3) := by decide +kernel
theorem dX5_kind_43 : decode cX5_kind 43 = .ok (.iload 5, 2) := by decide +kernel
theorem dX5_kind_45 : decode cX5_kind 45 = .ok (.aload_n 0, 1) := by decide +kernel
theorem dX5_kind_46 : decode cX5_kind 46 = .ok (.getfield 10, 3) := by decide +kernel
theorem dX5_kind_49 : decode cX5_kind 49 = .ok (.getfield 109, 3) := by decide +kernel
theorem dX5_kind_52 : decode cX5_kind 52 = .ok (.iload_n 1, 1) := by decide +kernel
theorem dX5_kind_53 : decode cX5_kind 53 = .ok (.iaload, 1) := by decide +kernel
theorem dX5_kind_54 : decode cX5_kind 54 = .ok (.aload_n 0, 1) := by decide +kernel
theorem dX5_kind_55 : decode cX5_kind 55 = .ok (.getfield 10, 3) := by decide +kernel
theorem dX5_kind_58 : decode cX5_kind 58 = .ok (.getfield 118, 3) := by decide +kernel
theorem dX5_kind_61 : decode cX5_kind 61 = .ok (.iload_n 2, 1) := by decide +kernel
theorem dX5_kind_62 : decode cX5_kind 62 = .ok (.invokestatic 180, 3) := by decide +kernel
theorem dX5_kind_65 : decode cX5_kind 65 = .ok (.istore 6, 2) := by decide +kernel
theorem dX5_kind_67 : decode cX5_kind 67 = .ok (.iload 6, 2) := by decide +kernel
theorem dX5_kind_69 : decode cX5_kind 69 = .ok (.iload 4, 2) := by decide +kernel
theorem dX5_kind_71 : decode cX5_kind 71 = .ok (.if_icmp .le 10, 3) := by decide +kernel
theorem dX5_kind_74 : decode cX5_kind 74 = .ok (.iload 6, 2) := by decide +kernel
theorem dX5_kind_76 : decode cX5_kind 76 = .ok (.istore 4, 2) := by decide +kernel
theorem dX5_kind_78 : decode cX5_kind 78 = .ok (.iload 5, 2) := by decide +kernel
theorem dX5_kind_80 : decode cX5_kind 80 = .ok (.istore_n 3, 1) := by decide +kernel
theorem dX5_kind_81 : decode cX5_kind 81 = .ok (.iinc 5 1, 3) := by decide +kernel
theorem dX5_kind_84 : decode cX5_kind 84 = .ok (.goto (-48), 3) := by decide +kernel
theorem dX5_kind_87 : decode cX5_kind 87 = .ok (.iload_n 3, 1) := by decide +kernel
theorem dX5_kind_88 : decode cX5_kind 88 = .ok (.ireturn, 1) := by decide +kernel
theorem dX5_shifts_0 : decode cX5_shifts 0 = .ok (.iload_n 1, 1) := by decide +kernel
theorem dX5_shifts_1 : decode cX5_shifts 1 = .ok (.invokestatic 50, 3) := by decide +kernel
theorem dX5_shifts_4 : decode cX5_shifts 4 = .ok (.ifCond .eq 14, 3) := by decide +kernel
theorem dX5_shifts_7 : decode cX5_shifts 7 = .ok (.iload_n 2, 1) := by decide +kernel
theorem dX5_shifts_8 : decode cX5_shifts 8 = .ok (.iconst 1, 1) := by decide +kernel
theorem dX5_shifts_9 : decode cX5_shifts 9 = .ok (.sipush 200, 3) := by decide +kernel
theorem dX5_shifts_12 : decode cX5_shifts 12 = .ok (.invokestatic 55, 3) := by decide +kernel
theorem dX5_shifts_15 : decode cX5_shifts 15 = .ok (.ifCond .ne 9, 3) := by decide +kernel
theorem dX5_shifts_18 : decode cX5_shifts 18 = .ok (.aload_n 0, 1) := by decide +kernel
theorem dX5_shifts_19 : decode cX5_shifts 19 = .ok (.iconst 0, 1) := by decide +kernel
theorem dX5_shifts_20 : decode cX5_shifts 20 = .ok (.invokevirtual 59, 3) := by decide +kernel
theorem dX5_shifts_23 : decode cX5_shifts 23 = .ok (.ireturn, 1) := by decide +kernel
theorem dX5_shifts_24 : decode cX5_shifts 24 = .ok (.aload_n 0, 1) := by decide +kernel
theorem dX5_shifts_25 : decode cX5_shifts 25 = .ok (.iload_n 2, 1) := by decide +kernel
theorem dX5_shifts_26 : decode cX5_shifts 26 = .ok (.invokevirtual 172, 3) := by decide +kernel
theorem dX5_shifts_29 : decode cX5_shifts 29 = .ok (.aload_n 0, 1) := by decide +kernel
theorem dX5_shifts_30 : decode cX5_shifts 30 = .ok (.getfield 16, 3) := by decide +kernel
theorem dX5_shifts_33 : decode cX5_shifts 33 = .ok (.aload_n 0, 1) := by decide +kernel
theorem dX5_shifts_34 : decode cX5_shifts 34 = .ok (.getfield 10, 3) := by decide +kernel
theorem dX5_shifts_37 : decode cX5_shifts 37 = .ok (.invokevirtual 140, 3) := by decide +kernel
theorem dX5_shifts_40 : decode cX5_shifts 40 = .ok (.iconst 0, 1) := by decide +kernel
theorem dX5_shifts_41 : decode cX5_shifts 41 = .ok (.istore_n 3, 1) := by decide +kernel
theorem dX5_shifts_42 : decode cX5_shifts 42 = .ok (.iconst (-1), 1) := by decide +kernel
theorem dX5_shifts_43 : decode cX5_shifts 43 = .ok (.istore 4, 2) := by decide +kernel
theorem dX5_shifts_45 : decode cX5_shifts 45 = .ok (.iconst 0, 1) := by decide +kernel
theorem dX5_shifts_46 : decode cX5_shifts 46 = .ok (.istore 5, 2) := by decide +kernel
theorem dX5_shifts_48 : decode cX5_shifts 48 = .ok (.iload 5, 2) := by decide +kernel
theorem dX5_shifts_50 : decode cX5_shifts 50 = .ok (.bipush 8, 2) := by decide +kernel
theorem dX5_shifts_52 : decode cX5_shifts 52 = .ok (.if_icmp .ge 41, 3) := by decide +kernel
theorem dX5_shifts_55 : decode cX5_shifts 55 = .ok (.aload_n 0, 1) := by decide +kernel
theorem dX5_shifts_56 : decode cX5_shifts 56 = .ok (.aload_n 0, 1) := by decide +kernel
theorem dX5_shifts_57 : decode cX5_shifts 57 = .ok (.getfield 16, 3) := by decide +kernel
theorem dX5_shifts_60 : decode cX5_shifts 60 = .ok (.iload_n 1, 1) := by decide +kernel
theorem dX5_shifts_61 : decode cX5_shifts 61 = .ok (.invokevirtual 176, 3) := by decide +kernel
theorem dX5_shifts_64 : decode cX5_shifts 64 = .ok (.istore 6, 2) := by decide +kernel
theorem dX5_shifts_66 : decode cX5_shifts 66 = .ok (.iload 6, 2) := by decide +kernel
theorem dX5_shifts_68 : decode cX5_shifts 68 = .ok (.iload 4, 2) := by decide +kernel
theorem dX5_shifts_70 : decode cX5_shifts 70 = .ok (.if_icmp .le 10, 3) := by decide +kernel
theorem dX5_shifts_73 : decode cX5_shifts 73 = .ok (.iload 6, 2) := by decide +kernel
theorem dX5_shifts_75 : decode cX5_shifts 75 = .ok (.istore 4, 2) := by decide +kernel
theorem dX5_shifts_77 : decode cX5_shifts 77 = .ok (.iload 5, 2) := by decide +kernel
theorem dX5_shifts_79 : decode cX5_shifts 79 = .ok (.istore_n 3, 1) := by decide +kernel
theorem dX5_shifts_80 : decode cX5_shifts 80 = .ok (.aload_n 0, 1) := by decide +kernel
theorem dX5_shifts_81 : decode cX5_shifts 81 = .ok (.getfield 16, 3) := by decide +kernel
theorem dX5_shifts_84 : decode cX5_shifts 84 = .ok (.invokevirtual 137, 3) := by decide +kernel
theorem dX5_shifts_87 : decode cX5_shifts 87 = .ok (.iinc 5 1, 3) := by decide +kernel
theorem dX5_shifts_90 : decode cX5_shifts 90 = .ok (.goto (-42), 3) := by decide +kernel
theorem dX5_shifts_93 : decode cX5_shifts 93 = .ok (.iload_n 3, 1) := by decide +kernel
theorem dX5_shifts_94 : decode cX5_shifts 94 = .ok (.ireturn, 1) := by decide +kernel
theorem dX5_least_0 : decode cX5_least 0 = .ok (.aload_n 0, 1) := by decide +kernel
theorem dX5_least_1 : decode cX5_least 1 = .ok (.getfield 10, 3) := by decide +kernel
theorem dX5_least_4 : decode cX5_least 4 = .ok (.iload_n 1, 1) := by decide +kernel
theorem dX5_least_5 : decode cX5_least 5 = .ok (.invokevirtual 103, 3) := by decide +kernel
theorem dX5_least_8 : decode cX5_least 8 = .ok (.ifCond .eq 10, 3) := by decide +kernel
theorem dX5_least_11 : decode cX5_least 11 = .ok (.iload_n 2, 1) := by decide +kernel
theorem dX5_least_12 : decode cX5_least 12 = .ok (.invokestatic 50, 3) := by decide +kernel
theorem dX5_least_15 : decode cX5_least 15 = .ok (.ifCond .ne 9, 3) := by decide +kernel
theorem dX5_least_18 : decode cX5_least 18 = .ok (.aload_n 0, 1) := by decide +kernel
theorem dX5_least_19 : decode cX5_least 19 = .ok (.iconst 0, 1) := by decide +kernel
theorem dX5_least_20 : decode cX5_least 20 = .ok (.invokevirtual 59, 3) := by decide +kernel
theorem dX5_least_23 : decode cX5_least 23 = .ok (.ireturn, 1) := by decide +kernel
theorem dX5_least_24 : decode cX5_least 24 = .ok (.iload_n 3, 1) := by decide +kernel
theorem dX5_least_25 : decode cX5_least 25 = .ok (.iconst 1, 1) := by decide +kernel
theorem dX5_least_26 : decode cX5_least 26 = .ok (.sipush 200, 3) := by decide +kernel
theorem dX5_least_29 : decode cX5_least 29 = .ok (.invokestatic 55, 3) := by decide +kernel
theorem dX5_least_32 : decode cX5_least 32 = .ok (.ifCond .eq 14, 3) := by decide +kernel
theorem dX5_least_35 : decode cX5_least 35 = .ok (.iload 4, 2) := by decide +kernel
theorem dX5_least_37 : decode cX5_least 37 = .ok (.iconst 0, 1) := by decide +kernel
theorem dX5_least_38 : decode cX5_least 38 = .ok (.ldc 54, 2) := by decide +kernel
theorem dX5_least_40 : decode cX5_least 40 = .ok (.invokestatic 55, 3) := by decide +kernel
theorem dX5_least_43 : decode cX5_least 43 = .ok (.ifCond .ne 9, 3) := by decide +kernel
theorem dX5_least_46 : decode cX5_least 46 = .ok (.aload_n 0, 1) := by decide +kernel
theorem dX5_least_47 : decode cX5_least 47 = .ok (.iconst 0, 1) := by decide +kernel
theorem dX5_least_48 : decode cX5_least 48 = .ok (.invokevirtual 59, 3) := by decide +kernel
theorem dX5_least_51 : decode cX5_least 51 = .ok (.ireturn, 1) := by decide +kernel
theorem dX5_least_52 : decode cX5_least 52 = .ok (.aload_n 0, 1) := by decide +kernel
theorem dX5_least_53 : decode cX5_least 53 = .ok (.iload_n 3, 1) := by decide +kernel
theorem dX5_least_54 : decode cX5_least 54 = .ok (.invokevirtual 172, 3) := by decide +kernel
theorem dX5_least_57 : decode cX5_least 57 = .ok (.iconst 0, 1) := by decide +kernel
theorem dX5_least_58 : decode cX5_least 58 = .ok (.istore 5, 2) := by decide +kernel
theorem dX5_least_60 : decode cX5_least 60 = .ok (.iload 5, 2) := by decide +kernel
theorem dX5_least_62 : decode cX5_least 62 = .ok (.bipush 99, 2) := by decide +kernel
theorem dX5_least_64 : decode cX5_least 64 = .ok (.if_icmp .gt 54, 3) := by decide +kernel
theorem dX5_least_67 : decode cX5_least 67 = .ok (.aload_n 0, 1) := by decide +kernel
theorem dX5_least_68 : decode cX5_least 68 = .ok (.getfield 43, 3) := by decide +kernel
theorem dX5_least_71 : decode cX5_least 71 = .ok (.iload_n 1, 1) := by decide +kernel
theorem dX5_least_72 : decode cX5_least 72 = .ok (.aload_n 0, 1) := by decide +kernel
theorem dX5_least_73 : decode cX5_least 73 = .ok (.getfield 10, 3) := by decide +kernel
theorem dX5_least_76 : decode cX5_least 76 = .ok (.getfield 106, 3) := by decide +kernel
theorem dX5_least_79 : decode cX5_least 79 = .ok (.iload_n 1, 1) := by decide +kernel
theorem dX5_least_80 : decode cX5_least 80 = .ok (.iaload, 1) := by decide +kernel
theorem dX5_least_81 : decode cX5_least 81 = .ok (.iload 5, 2) := by decide +kernel
theorem dX5_least_83 : decode cX5_least 83 = .ok (.aload_n 0, 1) := by decide +kernel
theorem dX5_least_84 : decode cX5_least 84 = .ok (.getfield 10, 3) := by decide +kernel
theorem dX5_least_87 : decode cX5_least 87 = .ok (.getfield 118, 3) := by decide +kernel
theorem dX5_least_90 : decode cX5_least 90 = .ok (.iload_n 3, 1) := by decide +kernel
theorem dX5_least_91 : decode cX5_least 91 = .ok (.invokestatic 180, 3) := by decide +kernel
theorem dX5_least_94 : decode cX5_least 94 = .ok (.iastore, 1) := by decide +kernel
theorem dX5_least_95 : decode cX5_least 95 = .ok (.aload_n 0, 1) := by decide +kernel
theorem dX5_least_96 : decode cX5_least 96 = .ok (.aload_n 0, 1) := by decide +kernel
theorem dX5_least_97 : decode cX5_least 97 = .ok (.getfield 10, 3) := by decide +kernel
theorem dX5_least_100 : decode cX5_least 100 = .ok (.iload_n 2, 1) := by decide +kernel
theorem dX5_least_101 : decode cX5_least 101 = .ok (.invokevirtual 176, 3) := by decide +kernel
theorem dX5_least_104 : decode cX5_least 104 = .ok (.iload 4, 2) := by decide +kernel
theorem dX5_least_106 : decode cX5_least 106 = .ok (.if_icmp .lt 6, 3) := by decide +kernel
theorem dX5_least_109 : decode cX5_least 109 = .ok (.iload 5, 2) := by decide +kernel
theorem dX5_least_111 : decode cX5_least 111 = .ok (.ireturn, 1) := by decide +kernel
theorem dX5_least_112 : decode cX5_least 112 = .ok (.iinc 5 1, 3) := by decide +kernel
theorem dX5_least_115 : decode cX5_least 115 = .ok (.goto (-55), 3) := by decide +kernel
theorem dX5_least_118 : decode cX5_least 118 = .ok (.aload_n 0, 1) := by decide +kernel
theorem dX5_least_119 : decode cX5_least 119 = .ok (.iconst 3, 1) := by decide +kernel
theorem dX5_least_120 : decode cX5_least 120 = .ok (.invokevirtual 59, 3) := by decide +kernel
theorem dX5_least_123 : decode cX5_least 123 = .ok (.ireturn, 1) := by decide +kernel
theorem dX5_draw_0 : decode cX5_draw 0 = .ok (.iload_n 1, 1) := by decide +kernel
theorem dX5_draw_1 : decode cX5_draw 1 = .ok (.iconst 1, 1) := by decide +kernel
theorem dX5_draw_2 : decode cX5_draw 2 = .ok (.sipush 200, 3) := by decide +kernel
theorem dX5_draw_5 : decode cX5_draw 5 = .ok (.invokestatic 55, 3) := by decide +kernel
theorem dX5_draw_8 : decode cX5_draw 8 = .ok (.ifCond .ne 9, 3) := by decide +kernel
theorem dX5_draw_11 : decode cX5_draw 11 = .ok (.aload_n 0, 1) := by decide +kernel
theorem dX5_draw_12 : decode cX5_draw 12 = .ok (.iconst 0, 1) := by decide +kernel
theorem dX5_draw_13 : decode cX5_draw 13 = .ok (.invokevirtual 59, 3) := by decide +kernel
theorem dX5_draw_16 : decode cX5_draw 16 = .ok (.ireturn, 1) := by decide +kernel
theorem dX5_draw_17 : decode cX5_draw 17 = .ok (.aload_n 0, 1) := by decide +kernel
theorem dX5_draw_18 : decode cX5_draw 18 = .ok (.iload_n 1, 1) := by decide +kernel
theorem dX5_draw_19 : decode cX5_draw 19 = .ok (.invokevirtual 172, 3) := by decide +kernel
theorem dX5_draw_22 : decode cX5_draw 22 = .ok (.iconst (-1), 1) := by decide +kernel
theorem dX5_draw_23 : decode cX5_draw 23 = .ok (.istore_n 2, 1) := by decide +kernel
theorem dX5_draw_24 : decode cX5_draw 24 = .ok (.iconst 0, 1) := by decide +kernel
theorem dX5_draw_25 : decode cX5_draw 25 = .ok (.istore_n 3, 1) := by decide +kernel
theorem dX5_draw_26 : decode cX5_draw 26 = .ok (.iconst 0, 1) := by decide +kernel
theorem dX5_draw_27 : decode cX5_draw 27 = .ok (.istore 4, 2) := by decide +kernel
theorem dX5_draw_29 : decode cX5_draw 29 = .ok (.iload 4, 2) := by decide +kernel
theorem dX5_draw_31 : decode cX5_draw 31 = .ok (.aload_n 0, 1) := by decide +kernel
theorem dX5_draw_32 : decode cX5_draw 32 = .ok (.getfield 10, 3) := by decide +kernel
theorem dX5_draw_35 : decode cX5_draw 35 = .ok (.getfield 80, 3) := by decide +kernel
theorem dX5_draw_38 : decode cX5_draw 38 = .ok (.if_icmp .ge 46, 3) := by decide +kernel
theorem dX5_draw_41 : decode cX5_draw 41 = .ok (.aload_n 0, 1) := by decide +kernel
theorem dX5_draw_42 : decode cX5_draw 42 = .ok (.getfield 10, 3) := by decide +kernel
theorem dX5_draw_45 : decode cX5_draw 45 = .ok (.getfield 94, 3) := by decide +kernel
theorem dX5_draw_48 : decode cX5_draw 48 = .ok (.iload 4, 2) := by decide +kernel
theorem dX5_draw_50 : decode cX5_draw 50 = .ok (.iaload, 1) := by decide +kernel
theorem dX5_draw_51 : decode cX5_draw 51 = .ok (.ifCond .ne 27, 3) := by decide +kernel
theorem dX5_draw_54 : decode cX5_draw 54 = .ok (.aload_n 0, 1) := by decide +kernel
theorem dX5_draw_55 : decode cX5_draw 55 = .ok (.iload 4, 2) := by decide +kernel
theorem dX5_draw_57 : decode cX5_draw 57 = .ok (.invokevirtual 184, 3) := by decide +kernel
theorem dX5_draw_60 : decode cX5_draw 60 = .ok (.istore 5, 2) := by decide +kernel
theorem dX5_draw_62 : decode cX5_draw 62 = .ok (.iload_n 2, 1) := by decide +kernel
theorem dX5_draw_63 : decode cX5_draw 63 = .ok (.ifCond .lt 9, 3) := by decide +kernel
theorem dX5_draw_66 : decode cX5_draw 66 = .ok (.iload 5, 2) := by decide +kernel
theorem dX5_draw_68 : decode cX5_draw 68 = .ok (.iload_n 3, 1) := by decide +kernel
theorem dX5_draw_69 : decode cX5_draw 69 = .ok (.if_icmp .ge 9, 3) := by decide +kernel
theorem dX5_draw_72 : decode cX5_draw 72 = .ok (.iload 5, 2) := by decide +kernel
theorem dX5_draw_74 : decode cX5_draw 74 = .ok (.istore_n 3, 1) := by decide +kernel
theorem dX5_draw_75 : decode cX5_draw 75 = .ok (.iload 4, 2) := by decide +kernel
theorem dX5_draw_77 : decode cX5_draw 77 = .ok (.istore_n 2, 1) := by decide +kernel
theorem dX5_draw_78 : decode cX5_draw 78 = .ok (.iinc 4 1, 3) := by decide +kernel
theorem dX5_draw_81 : decode cX5_draw 81 = .ok (.goto (-52), 3) := by decide +kernel
theorem dX5_draw_84 : decode cX5_draw 84 = .ok (.iload_n 2, 1) := by decide +kernel
theorem dX5_draw_85 : decode cX5_draw 85 = .ok (.ifCond .ge 11, 3) := by decide +kernel
theorem dX5_draw_88 : decode cX5_draw 88 = .ok (.aload_n 0, 1) := by decide +kernel
theorem dX5_draw_89 : decode cX5_draw 89 = .ok (.iconst 3, 1) := by decide +kernel
theorem dX5_draw_90 : decode cX5_draw 90 = .ok (.invokevirtual 59, 3) := by decide +kernel
theorem dX5_draw_93 : decode cX5_draw 93 = .ok (.goto 4, 3) := by decide +kernel
theorem dX5_draw_96 : decode cX5_draw 96 = .ok (.iload_n 2, 1) := by decide +kernel
theorem dX5_draw_97 : decode cX5_draw 97 = .ok (.ireturn, 1) := by decide +kernel
theorem dX5_richest_0 : decode cX5_richest 0 = .ok (.iload_n 1, 1) := by decide +kernel
theorem dX5_richest_1 : decode cX5_richest 1 = .ok (.iconst 0, 1) := by decide +kernel
theorem dX5_richest_2 : decode cX5_richest 2 = .ok (.sipush 400, 3) := by decide +kernel
theorem dX5_richest_5 : decode cX5_richest 5 = .ok (.invokestatic 55, 3) := by decide +kernel
theorem dX5_richest_8 : decode cX5_richest 8 = .ok (.ifCond .ne 9, 3) := by decide +kernel
theorem dX5_richest_11 : decode cX5_richest 11 = .ok (.aload_n 0, 1) := by decide +kernel
theorem dX5_richest_12 : decode cX5_richest 12 = .ok (.iconst 0, 1) := by decide +kernel
theorem dX5_richest_13 : decode cX5_richest 13 = .ok (.invokevirtual 59, 3) := by decide +kernel
theorem dX5_richest_16 : decode cX5_richest 16 = .ok (.ireturn, 1) := by decide +kernel
theorem dX5_richest_17 : decode cX5_richest 17 = .ok (.aload_n 0, 1) := by decide +kernel
theorem dX5_richest_18 : decode cX5_richest 18 = .ok (.iload_n 1, 1) := by decide +kernel
theorem dX5_richest_19 : decode cX5_richest 19 = .ok (.invokevirtual 172, 3) := by decide +kernel
theorem dX5_richest_22 : decode cX5_richest 22 = .ok (.iconst 0, 1) := by decide +kernel
theorem dX5_richest_23 : decode cX5_richest 23 = .ok (.istore_n 2, 1) := by decide +kernel
theorem dX5_richest_24 : decode cX5_richest 24 = .ok (.iconst (-1), 1) := by decide +kernel
theorem dX5_richest_25 : decode cX5_richest 25 = .ok (.istore_n 3, 1) := by decide +kernel
theorem dX5_richest_26 : decode cX5_richest 26 = .ok (.iconst 0, 1) := by decide +kernel
theorem dX5_richest_27 : decode cX5_richest 27 = .ok (.istore 4, 2) := by decide +kernel
theorem dX5_richest_29 : decode cX5_richest 29 = .ok (.iload 4, 2) := by decide +kernel
theorem dX5_richest_31 : decode cX5_richest 31 = .ok (.iconst 4, 1) := by decide +kernel
theorem dX5_richest_32 : decode cX5_richest 32 = .ok (.if_icmp .ge 33, 3) := by decide +kernel
theorem dX5_richest_35 : decode cX5_richest 35 = .ok (.aload_n 0, 1) := by decide +kernel
theorem dX5_richest_36 : decode cX5_richest 36 = .ok (.aload_n 0, 1) := by decide +kernel
theorem dX5_richest_37 : decode cX5_richest 37 = .ok (.getfield 10, 3) := by decide +kernel
theorem dX5_richest_40 : decode cX5_richest 40 = .ok (.iload 4, 2) := by decide +kernel
theorem dX5_richest_42 : decode cX5_richest 42 = .ok (.invokevirtual 176, 3) := by decide +kernel
theorem dX5_richest_45 : decode cX5_richest 45 = .ok (.istore 5, 2) := by decide +kernel
theorem dX5_richest_47 : decode cX5_richest 47 = .ok (.iload 5, 2) := by decide +kernel
theorem dX5_richest_49 : decode cX5_richest 49 = .ok (.iload_n 3, 1) := by decide +kernel
theorem dX5_richest_50 : decode cX5_richest 50 = .ok (.if_icmp .le 9, 3) := by decide +kernel
theorem dX5_richest_53 : decode cX5_richest 53 = .ok (.iload 5, 2) := by decide +kernel
theorem dX5_richest_55 : decode cX5_richest 55 = .ok (.istore_n 3, 1) := by decide +kernel
theorem dX5_richest_56 : decode cX5_richest 56 = .ok (.iload 4, 2) := by decide +kernel
theorem dX5_richest_58 : decode cX5_richest 58 = .ok (.istore_n 2, 1) := by decide +kernel
theorem dX5_richest_59 : decode cX5_richest 59 = .ok (.iinc 4 1, 3) := by decide +kernel
theorem dX5_richest_62 : decode cX5_richest 62 = .ok (.goto (-33), 3) := by decide +kernel
theorem dX5_richest_65 : decode cX5_richest 65 = .ok (.iload_n 2, 1) := by decide +kernel
theorem dX5_richest_66 : decode cX5_richest 66 = .ok (.ireturn, 1) := by decide +kernel
theorem dX5_feed_0 : decode cX5_feed 0 = .ok (.iload_n 2, 1) := by decide +kernel
theorem dX5_feed_1 : decode cX5_feed 1 = .ok (.iconst 1, 1) := by decide +kernel
theorem dX5_feed_2 : decode cX5_feed 2 = .ok (.iconst 4, 1) := by decide +kernel
theorem dX5_feed_3 : decode cX5_feed 3 = .ok (.invokestatic 55, 3) := by decide +kernel
theorem dX5_feed_6 : decode cX5_feed 6 = .ok (.ifCond .ne 9, 3) := by decide +kernel
theorem dX5_feed_9 : decode cX5_feed 9 = .ok (.aload_n 0, 1) := by decide +kernel
theorem dX5_feed_10 : decode cX5_feed 10 = .ok (.iconst 0, 1) := by decide +kernel
theorem dX5_feed_11 : decode cX5_feed 11 = .ok (.invokevirtual 59, 3) := by decide +kernel
theorem dX5_feed_14 : decode cX5_feed 14 = .ok (.ireturn, 1) := by decide +kernel
theorem dX5_feed_15 : decode cX5_feed 15 = .ok (.aload_n 0, 1) := by decide +kernel
theorem dX5_feed_16 : decode cX5_feed 16 = .ok (.getfield 29, 3) := by decide +kernel
theorem dX5_feed_19 : decode cX5_feed 19 = .ok (.iload_n 2, 1) := by decide +kernel
theorem dX5_feed_20 : decode cX5_feed 20 = .ok (.invokevirtual 187, 3) := by decide +kernel
theorem dX5_feed_23 : decode cX5_feed 23 = .ok (.ifCond .ne 9, 3) := by decide +kernel
theorem dX5_feed_26 : decode cX5_feed 26 = .ok (.aload_n 0, 1) := by decide +kernel
theorem dX5_feed_27 : decode cX5_feed 27 = .ok (.iconst 1, 1) := by decide +kernel
theorem dX5_feed_28 : decode cX5_feed 28 = .ok (.invokevirtual 59, 3) := by decide +kernel
theorem dX5_feed_31 : decode cX5_feed 31 = .ok (.ireturn, 1) := by decide +kernel
theorem dX5_feed_32 : decode cX5_feed 32 = .ok (.aload_n 0, 1) := by decide +kernel
theorem dX5_feed_33 : decode cX5_feed 33 = .ok (.getfield 29, 3) := by decide +kernel
theorem dX5_feed_36 : decode cX5_feed 36 = .ok (.iload_n 1, 1) := by decide +kernel
theorem dX5_feed_37 : decode cX5_feed 37 = .ok (.iload_n 2, 1) := by decide +kernel
theorem dX5_feed_38 : decode cX5_feed 38 = .ok (.invokevirtual 190, 3) := by decide +kernel
theorem dX5_feed_41 : decode cX5_feed 41 = .ok (.aload_n 0, 1) := by decide +kernel
theorem dX5_feed_42 : decode cX5_feed 42 = .ok (.getfield 29, 3) := by decide +kernel
theorem dX5_feed_45 : decode cX5_feed 45 = .ok (.getfield 194, 3) := by decide +kernel
theorem dX5_feed_48 : decode cX5_feed 48 = .ok (.ireturn, 1) := by decide +kernel
theorem dX5_wipe_0 : decode cX5_wipe 0 = .ok (.aload_n 0, 1) := by decide +kernel
theorem dX5_wipe_1 : decode cX5_wipe 1 = .ok (.getfield 29, 3) := by decide +kernel
theorem dX5_wipe_4 : decode cX5_wipe 4 = .ok (.invokevirtual 197, 3) := by decide +kernel
theorem dX5_wipe_7 : decode cX5_wipe 7 = .ok (.ireturn, 1) := by decide +kernel
theorem dX5_city_0 : decode cX5_city 0 = .ok (.aload_n 0, 1) := by decide +kernel
theorem dX5_city_1 : decode cX5_city 1 = .ok (.getfield 16, 3) := by decide +kernel
theorem dX5_city_4 : decode cX5_city 4 = .ok (.aload_n 0, 1) := by decide +kernel
theorem dX5_city_5 : decode cX5_city 5 = .ok (.getfield 10, 3) := by decide +kernel
theorem dX5_city_8 : decode cX5_city 8 = .ok (.invokevirtual 140, 3) := by decide +kernel
theorem dX5_city_11 : decode cX5_city 11 = .ok (.aload_n 0, 1) := by decide +kernel
theorem dX5_city_12 : decode cX5_city 12 = .ok (.getfield 29, 3) := by decide +kernel
theorem dX5_city_15 : decode cX5_city 15 = .ok (.aload_n 0, 1) := by decide +kernel
theorem dX5_city_16 : decode cX5_city 16 = .ok (.getfield 16, 3) := by decide +kernel
theorem dX5_city_19 : decode cX5_city 19 = .ok (.invokevirtual 200, 3) := by decide +kernel
theorem dX5_city_22 : decode cX5_city 22 = .ok (.istore_n 1, 1) := by decide +kernel
theorem dX5_city_23 : decode cX5_city 23 = .ok (.iload_n 1, 1) := by decide +kernel
theorem dX5_city_24 : decode cX5_city 24 = .ok (.ifCond .lt 14, 3) := by decide +kernel
theorem dX5_city_27 : decode cX5_city 27 = .ok (.aload_n 0, 1) := by decide +kernel
theorem dX5_city_28 : decode cX5_city 28 = .ok (.getfield 10, 3) := by decide +kernel
theorem dX5_city_31 : decode cX5_city 31 = .ok (.aload_n 0, 1) := by decide +kernel
theorem dX5_city_32 : decode cX5_city 32 = .ok (.getfield 16, 3) := by decide +kernel
theorem dX5_city_35 : decode cX5_city 35 = .ok (.invokevirtual 140, 3) := by decide +kernel
theorem dX5_city_38 : decode cX5_city 38 = .ok (.aload_n 0, 1) := by decide +kernel
theorem dX5_city_39 : decode cX5_city 39 = .ok (.getfield 29, 3) := by decide +kernel
theorem dX5_city_42 : decode cX5_city 42 = .ok (.invokevirtual 197, 3) := by decide +kernel
theorem dX5_city_45 : decode cX5_city 45 = .ok (.pop, 1) := by decide +kernel
theorem dX5_city_46 : decode cX5_city 46 = .ok (.iload_n 1, 1) := by decide +kernel
theorem dX5_city_47 : decode cX5_city 47 = .ok (.ireturn, 1) := by decide +kernel
theorem dX5_sheet_0 : decode cX5_sheet 0 = .ok (.iload_n 1, 1) := by decide +kernel
theorem dX5_sheet_1 : decode cX5_sheet 1 = .ok (.invokestatic 204, 3) := by decide +kernel
theorem dX5_sheet_4 : decode cX5_sheet 4 = .ok (.ifCond .eq 25, 3) := by decide +kernel
theorem dX5_sheet_7 : decode cX5_sheet 7 = .ok (.iload_n 2, 1) := by decide +kernel
theorem dX5_sheet_8 : decode cX5_sheet 8 = .ok (.ifCond .eq 27, 3) := by decide +kernel
theorem dX5_sheet_11 : decode cX5_sheet 11 = .ok (.iload_n 2, 1) := by decide +kernel
theorem dX5_sheet_12 : decode cX5_sheet 12 = .ok (.bipush 8, 2) := by decide +kernel
theorem dX5_sheet_14 : decode cX5_sheet 14 = .ok (.if_icmp .eq 21, 3) := by decide +kernel
theorem dX5_sheet_17 : decode cX5_sheet 17 = .ok (.iload_n 2, 1) := by decide +kernel
theorem dX5_sheet_18 : decode cX5_sheet 18 = .ok (.bipush 16, 2) := by decide +kernel
theorem dX5_sheet_20 : decode cX5_sheet 20 = .ok (.if_icmp .eq 15, 3) := by decide +kernel
theorem dX5_sheet_23 : decode cX5_sheet 23 = .ok (.iload_n 2, 1) := by decide +kernel
theorem dX5_sheet_24 : decode cX5_sheet 24 = .ok (.bipush 64, 2) := by decide +kernel
theorem dX5_sheet_26 : decode cX5_sheet 26 = .ok (.if_icmp .eq 9, 3) := by decide +kernel
theorem dX5_sheet_29 : decode cX5_sheet 29 = .ok (.aload_n 0, 1) := by decide +kernel
theorem dX5_sheet_30 : decode cX5_sheet 30 = .ok (.iconst 0, 1) := by decide +kernel
theorem dX5_sheet_31 : decode cX5_sheet 31 = .ok (.invokevirtual 59, 3) := by decide +kernel
theorem dX5_sheet_34 : decode cX5_sheet 34 = .ok (.ireturn, 1) := by decide +kernel
theorem dX5_sheet_35 : decode cX5_sheet 35 = .ok (.iload_n 3, 1) := by decide +kernel
theorem dX5_sheet_36 : decode cX5_sheet 36 = .ok (.ifCond .ge 10, 3) := by decide +kernel
theorem dX5_sheet_39 : decode cX5_sheet 39 = .ok (.aload_n 0, 1) := by decide +kernel
theorem dX5_sheet_40 : decode cX5_sheet 40 = .ok (.bipush 6, 2) := by decide +kernel
theorem dX5_sheet_42 : decode cX5_sheet 42 = .ok (.invokevirtual 59, 3) := by decide +kernel
theorem dX5_sheet_45 : decode cX5_sheet 45 = .ok (.ireturn, 1) := by decide +kernel
theorem dX5_sheet_46 : decode cX5_sheet 46 = .ok (.iload_n 3, 1) := by decide +kernel
theorem dX5_sheet_47 : decode cX5_sheet 47 = .ok (.bipush 40, 2) := by decide +kernel
theorem dX5_sheet_49 : decode cX5_sheet 49 = .ok (.if_icmp .le 9, 3) := by decide +kernel
theorem dX5_sheet_52 : decode cX5_sheet 52 = .ok (.aload_n 0, 1) := by decide +kernel
theorem dX5_sheet_53 : decode cX5_sheet 53 = .ok (.iconst 0, 1) := by decide +kernel
theorem dX5_sheet_54 : decode cX5_sheet 54 = .ok (.invokevirtual 59, 3) := by decide +kernel
theorem dX5_sheet_57 : decode cX5_sheet 57 = .ok (.ireturn, 1) := by decide +kernel
theorem dX5_sheet_58 : decode cX5_sheet 58 = .ok (.aload_n 0, 1) := by decide +kernel
theorem dX5_sheet_59 : decode cX5_sheet 59 = .ok (.getfield 35, 3) := by decide +kernel
theorem dX5_sheet_62 : decode cX5_sheet 62 = .ok (.iload_n 1, 1) := by decide +kernel
theorem dX5_sheet_63 : decode cX5_sheet 63 = .ok (.aaload, 1) := by decide +kernel
theorem dX5_sheet_64 : decode cX5_sheet 64 = .ok (.iload_n 2, 1) := by decide +kernel
theorem dX5_sheet_65 : decode cX5_sheet 65 = .ok (.iload_n 3, 1) := by decide +kernel
theorem dX5_sheet_66 : decode cX5_sheet 66 = .ok (.invokevirtual 207, 3) := by decide +kernel
theorem dX5_sheet_69 : decode cX5_sheet 69 = .ok (.aload_n 0, 1) := by decide +kernel
theorem dX5_sheet_70 : decode cX5_sheet 70 = .ok (.getfield 35, 3) := by decide +kernel
theorem dX5_sheet_73 : decode cX5_sheet 73 = .ok (.iload_n 1, 1) := by decide +kernel
theorem dX5_sheet_74 : decode cX5_sheet 74 = .ok (.aaload, 1) := by decide +kernel
theorem dX5_sheet_75 : decode cX5_sheet 75 = .ok (.getfield 210, 3) := by decide +kernel
theorem dX5_sheet_78 : decode cX5_sheet 78 = .ok (.ireturn, 1) := by decide +kernel
theorem dX5_write_0 : decode cX5_write 0 = .ok (.iload_n 1, 1) := by decide +kernel
theorem dX5_write_1 : decode cX5_write 1 = .ok (.invokestatic 204, 3) := by decide +kernel
theorem dX5_write_4 : decode cX5_write 4 = .ok (.ifCond .ne 10, 3) := by decide +kernel
theorem dX5_write_7 : decode cX5_write 7 = .ok (.aload_n 0, 1) := by decide +kernel
theorem dX5_write_8 : decode cX5_write 8 = .ok (.iconst 0, 1) := by decide +kernel
theorem dX5_write_9 : decode cX5_write 9 = .ok (.invokevirtual 59, 3) := by decide +kernel
theorem dX5_write_12 : decode cX5_write 12 = .ok (.i2l, 1) := by decide +kernel
theorem dX5_write_13 : decode cX5_write 13 = .ok (.lreturn, 1) := by decide +kernel
theorem dX5_write_14 : decode cX5_write 14 = .ok (.aload_n 0, 1) := by decide +kernel
theorem dX5_write_15 : decode cX5_write 15 = .ok (.getfield 35, 3) := by decide +kernel
theorem dX5_write_18 : decode cX5_write 18 = .ok (.iload_n 1, 1) := by decide +kernel
theorem dX5_write_19 : decode cX5_write 19 = .ok (.aaload, 1) := by decide +kernel
theorem dX5_write_20 : decode cX5_write 20 = .ok (.astore 5, 2) := by decide +kernel
theorem dX5_write_22 : decode cX5_write 22 = .ok (.aload 5, 2) := by decide +kernel
theorem dX5_write_24 : decode cX5_write 24 = .ok (.invokevirtual 213, 3) := by decide +kernel
theorem dX5_write_27 : decode cX5_write 27 = .ok (.ifCond .eq 10, 3) := by decide +kernel
theorem dX5_write_30 : decode cX5_write 30 = .ok (.aload_n 0, 1) := by decide +kernel
theorem dX5_write_31 : decode cX5_write 31 = .ok (.iconst 5, 1) := by decide +kernel
theorem dX5_write_32 : decode cX5_write 32 = .ok (.invokevirtual 59, 3) := by decide +kernel
theorem dX5_write_35 : decode cX5_write 35 = .ok (.i2l, 1) := by decide +kernel
theorem dX5_write_36 : decode cX5_write 36 = .ok (.lreturn, 1) := by decide +kernel
theorem dX5_write_37 : decode cX5_write 37 = .ok (.iload_n 2, 1) := by decide +kernel
theorem dX5_write_38 : decode cX5_write 38 = .ok (.iconst 0, 1) := by decide +kernel
theorem dX5_write_39 : decode cX5_write 39 = .ok (.aload 5, 2) := by decide +kernel
theorem dX5_write_41 : decode cX5_write 41 = .ok (.getfield 210, 3) := by decide +kernel
theorem dX5_write_44 : decode cX5_write 44 = .ok (.iconst 1, 1) := by decide +kernel
theorem dX5_write_45 : decode cX5_write 45 = .ok (.isub, 1) := by decide +kernel
theorem dX5_write_46 : decode cX5_write 46 = .ok (.invokestatic 55, 3) := by decide +kernel
theorem dX5_write_49 : decode cX5_write 49 = .ok (.ifCond .ne 10, 3) := by decide +kernel
theorem dX5_write_52 : decode cX5_write 52 = .ok (.aload_n 0, 1) := by decide +kernel
theorem dX5_write_53 : decode cX5_write 53 = .ok (.iconst 0, 1) := by decide +kernel
theorem dX5_write_54 : decode cX5_write 54 = .ok (.invokevirtual 59, 3) := by decide +kernel
theorem dX5_write_57 : decode cX5_write 57 = .ok (.i2l, 1) := by decide +kernel
theorem dX5_write_58 : decode cX5_write 58 = .ok (.lreturn, 1) := by decide +kernel
theorem dX5_write_59 : decode cX5_write 59 = .ok (.aload 5, 2) := by decide +kernel
theorem dX5_write_61 : decode cX5_write 61 = .ok (.getfield 216, 3) := by decide +kernel
theorem dX5_write_64 : decode cX5_write 64 = .ok (.iload_n 2, 1) := by decide +kernel
theorem dX5_write_65 : decode cX5_write 65 = .ok (.laload, 1) := by decide +kernel
theorem dX5_write_66 : decode cX5_write 66 = .ok (.lstore 6, 2) := by decide +kernel
theorem dX5_write_68 : decode cX5_write 68 = .ok (.aload 5, 2) := by decide +kernel
theorem dX5_write_70 : decode cX5_write 70 = .ok (.iload_n 2, 1) := by decide +kernel
theorem dX5_write_71 : decode cX5_write 71 = .ok (.lload_n 3, 1) := by decide +kernel
theorem dX5_write_72 : decode cX5_write 72 = .ok (.invokevirtual 220, 3) := by decide +kernel
theorem dX5_write_75 : decode cX5_write 75 = .ok (.lload 6, 2) := by decide +kernel
theorem dX5_write_77 : decode cX5_write 77 = .ok (.lreturn, 1) := by decide +kernel
theorem dX5_copy_0 : decode cX5_copy 0 = .ok (.iload_n 1, 1) := by decide +kernel
theorem dX5_copy_1 : decode cX5_copy 1 = .ok (.invokestatic 204, 3) := by decide +kernel
theorem dX5_copy_4 : decode cX5_copy 4 = .ok (.ifCond .eq 10, 3) := by decide +kernel
theorem dX5_copy_7 : decode cX5_copy 7 = .ok (.iload_n 3, 1) := by decide +kernel
theorem dX5_copy_8 : decode cX5_copy 8 = .ok (.invokestatic 204, 3) := by decide +kernel
theorem dX5_copy_11 : decode cX5_copy 11 = .ok (.ifCond .ne 9, 3) := by decide +kernel
theorem dX5_copy_14 : decode cX5_copy 14 = .ok (.aload_n 0, 1) := by decide +kernel
theorem dX5_copy_15 : decode cX5_copy 15 = .ok (.iconst 0, 1) := by decide +kernel
theorem dX5_copy_16 : decode cX5_copy 16 = .ok (.invokevirtual 59, 3) := by decide +kernel
theorem dX5_copy_19 : decode cX5_copy 19 = .ok (.ireturn, 1) := by decide +kernel
theorem dX5_copy_20 : decode cX5_copy 20 = .ok (.aload_n 0, 1) := by decide +kernel
theorem dX5_copy_21 : decode cX5_copy 21 = .ok (.getfield 35, 3) := by decide +kernel
theorem dX5_copy_24 : decode cX5_copy 24 = .ok (.iload_n 1, 1) := by decide +kernel
theorem dX5_copy_25 : decode cX5_copy 25 = .ok (.aaload, 1) := by decide +kernel
theorem dX5_copy_26 : decode cX5_copy 26 = .ok (.astore 6, 2) := by decide +kernel
theorem dX5_copy_28 : decode cX5_copy 28 = .ok (.aload_n 0, 1) := by decide +kernel
theorem dX5_copy_29 : decode cX5_copy 29 = .ok (.getfield 35, 3) := by decide +kernel
theorem dX5_copy_32 : decode cX5_copy 32 = .ok (.iload_n 3, 1) := by decide +kernel
theorem dX5_copy_33 : decode cX5_copy 33 = .ok (.aaload, 1) := by decide +kernel
theorem dX5_copy_34 : decode cX5_copy 34 = .ok (.astore 7, 2) := by decide +kernel
theorem dX5_copy_36 : decode cX5_copy 36 = .ok (.aload 6, 2) := by decide +kernel
theorem dX5_copy_38 : decode cX5_copy 38 = .ok (.invokevirtual 213, 3) := by decide +kernel
theorem dX5_copy_41 : decode cX5_copy 41 = .ok (.ifCond .ne 11, 3) := by decide +kernel
theorem dX5_copy_44 : decode cX5_copy 44 = .ok (.aload 7, 2) := by decide +kernel
theorem dX5_copy_46 : decode cX5_copy 46 = .ok (.invokevirtual 213, 3) := by decide +kernel
theorem dX5_copy_49 : decode cX5_copy 49 = .ok (.ifCond .eq 9, 3) := by decide +kernel
theorem dX5_copy_52 : decode cX5_copy 52 = .ok (.aload_n 0, 1) := by decide +kernel
theorem dX5_copy_53 : decode cX5_copy 53 = .ok (.iconst 5, 1) := by decide +kernel
theorem dX5_copy_54 : decode cX5_copy 54 = .ok (.invokevirtual 59, 3) := by decide +kernel
theorem dX5_copy_57 : decode cX5_copy 57 = .ok (.ireturn, 1) := by decide +kernel
theorem dX5_copy_58 : decode cX5_copy 58 = .ok (.aload 6, 2) := by decide +kernel
theorem dX5_copy_60 : decode cX5_copy 60 = .ok (.getfield 224, 3) := by decide +kernel
theorem dX5_copy_63 : decode cX5_copy 63 = .ok (.aload 7, 2) := by decide +kernel
theorem dX5_copy_65 : decode cX5_copy 65 = .ok (.getfield 224, 3) := by decide +kernel
theorem dX5_copy_68 : decode cX5_copy 68 = .ok (.if_icmp .eq 9, 3) := by decide +kernel
theorem dX5_copy_71 : decode cX5_copy 71 = .ok (.aload_n 0, 1) := by decide +kernel
theorem dX5_copy_72 : decode cX5_copy 72 = .ok (.iconst 2, 1) := by decide +kernel
theorem dX5_copy_73 : decode cX5_copy 73 = .ok (.invokevirtual 59, 3) := by decide +kernel
theorem dX5_copy_76 : decode cX5_copy 76 = .ok (.ireturn, 1) := by decide +kernel
theorem dX5_copy_77 : decode cX5_copy 77 = .ok (.aload 6, 2) := by decide +kernel
theorem dX5_copy_79 : decode cX5_copy 79 = .ok (.iload_n 2, 1) := by decide +kernel
theorem dX5_copy_80 : decode cX5_copy 80 = .ok (.iload 5, 2) := by decide +kernel
theorem dX5_copy_82 : decode cX5_copy 82 = .ok (.invokevirtual 227, 3) := by decide +kernel
theorem dX5_copy_85 : decode cX5_copy 85 = .ok (.ifCond .eq 15, 3) := by decide +kernel
theorem dX5_copy_88 : decode cX5_copy 88 = .ok (.aload 7, 2) := by decide +kernel
theorem dX5_copy_90 : decode cX5_copy 90 = .ok (.iload 4, 2) := by decide +kernel
theorem dX5_copy_92 : decode cX5_copy 92 = .ok (.iload 5, 2) := by decide +kernel
theorem dX5_copy_94 : decode cX5_copy 94 = .ok (.invokevirtual 227, 3) := by decide +kernel
theorem dX5_copy_97 : decode cX5_copy 97 = .ok (.ifCond .ne 9, 3) := by decide +kernel
theorem dX5_copy_100 : decode cX5_copy 100 = .ok (.aload_n 0, 1) := by decide +kernel
theorem dX5_copy_101 : decode cX5_copy 101 = .ok (.iconst 0, 1) := by decide +kernel
theorem dX5_copy_102 : decode cX5_copy 102 = .ok (.invokevirtual 59, 3) := by decide +kernel
theorem dX5_copy_105 : decode cX5_copy 105 = .ok (.ireturn, 1) := by decide +kernel
theorem dX5_copy_106 : decode cX5_copy 106 = .ok (.aload 6, 2) := by decide +kernel
theorem dX5_copy_108 : decode cX5_copy 108 = .ok (.getfield 216, 3) := by decide +kernel
theorem dX5_copy_111 : decode cX5_copy 111 = .ok (.iload_n 2, 1) := by decide +kernel
theorem dX5_copy_112 : decode cX5_copy 112 = .ok (.aload 7, 2) := by decide +kernel
theorem dX5_copy_114 : decode cX5_copy 114 = .ok (.getfield 216, 3) := by decide +kernel
theorem dX5_copy_117 : decode cX5_copy 117 = .ok (.iload 4, 2) := by decide +kernel
theorem dX5_copy_119 : decode cX5_copy 119 = .ok (.iload 5, 2) := by decide +kernel
theorem dX5_copy_121 : decode cX5_copy 121 = .ok (.invokestatic 230, 3) := by decide +kernel
theorem dX5_copy_124 : decode cX5_copy 124 = .ok (.iload 5, 2) := by decide +kernel
theorem dX5_copy_126 : decode cX5_copy 126 = .ok (.ireturn, 1) := by decide +kernel
theorem dX5_lays_0 : decode cX5_lays 0 = .ok (.iload_n 1, 1) := by decide +kernel
theorem dX5_lays_1 : decode cX5_lays 1 = .ok (.invokestatic 204, 3) := by decide +kernel
theorem dX5_lays_4 : decode cX5_lays 4 = .ok (.ifCond .ne 9, 3) := by decide +kernel
theorem dX5_lays_7 : decode cX5_lays 7 = .ok (.aload_n 0, 1) := by decide +kernel
theorem dX5_lays_8 : decode cX5_lays 8 = .ok (.iconst 0, 1) := by decide +kernel
theorem dX5_lays_9 : decode cX5_lays 9 = .ok (.invokevirtual 59, 3) := by decide +kernel
theorem dX5_lays_12 : decode cX5_lays 12 = .ok (.ireturn, 1) := by decide +kernel
theorem dX5_lays_13 : decode cX5_lays 13 = .ok (.aload_n 0, 1) := by decide +kernel
theorem dX5_lays_14 : decode cX5_lays 14 = .ok (.getfield 35, 3) := by decide +kernel
theorem dX5_lays_17 : decode cX5_lays 17 = .ok (.iload_n 1, 1) := by decide +kernel
theorem dX5_lays_18 : decode cX5_lays 18 = .ok (.aaload, 1) := by decide +kernel
theorem dX5_lays_19 : decode cX5_lays 19 = .ok (.astore_n 2, 1) := by decide +kernel
theorem dX5_lays_20 : decode cX5_lays 20 = .ok (.aload_n 2, 1) := by decide +kernel
theorem dX5_lays_21 : decode cX5_lays 21 = .ok (.invokevirtual 213, 3) := by decide +kernel
theorem dX5_lays_24 : decode cX5_lays 24 = .ok (.ifCond .eq 9, 3) := by decide +kernel
theorem dX5_lays_27 : decode cX5_lays 27 = .ok (.aload_n 0, 1) := by decide +kernel
theorem dX5_lays_28 : decode cX5_lays 28 = .ok (.iconst 5, 1) := by decide +kernel
theorem dX5_lays_29 : decode cX5_lays 29 = .ok (.invokevirtual 59, 3) := by decide +kernel
theorem dX5_lays_32 : decode cX5_lays 32 = .ok (.ireturn, 1) := by decide +kernel
theorem dX5_lays_33 : decode cX5_lays 33 = .ok (.iconst 0, 1) := by decide +kernel
theorem dX5_lays_34 : decode cX5_lays 34 = .ok (.istore_n 3, 1) := by decide +kernel
theorem dX5_lays_35 : decode cX5_lays 35 = .ok (.iconst 0, 1) := by decide +kernel
theorem dX5_lays_36 : decode cX5_lays 36 = .ok (.istore 4, 2) := by decide +kernel
theorem dX5_lays_38 : decode cX5_lays 38 = .ok (.iload 4, 2) := by decide +kernel
theorem dX5_lays_40 : decode cX5_lays 40 = .ok (.aload_n 2, 1) := by decide +kernel
theorem dX5_lays_41 : decode cX5_lays 41 = .ok (.getfield 210, 3) := by decide +kernel
theorem dX5_lays_44 : decode cX5_lays 44 = .ok (.if_icmp .ge 62, 3) := by decide +kernel
theorem dX5_lays_47 : decode cX5_lays 47 = .ok (.iload 4, 2) := by decide +kernel
theorem dX5_lays_49 : decode cX5_lays 49 = .ok (.aload_n 0, 1) := by decide +kernel
theorem dX5_lays_50 : decode cX5_lays 50 = .ok (.getfield 10, 3) := by decide +kernel
theorem dX5_lays_53 : decode cX5_lays 53 = .ok (.getfield 80, 3) := by decide +kernel
theorem dX5_lays_56 : decode cX5_lays 56 = .ok (.if_icmp .ge 50, 3) := by decide +kernel
theorem dX5_lays_59 : decode cX5_lays 59 = .ok (.aload_n 2, 1) := by decide +kernel
theorem dX5_lays_60 : decode cX5_lays 60 = .ok (.getfield 216, 3) := by decide +kernel
theorem dX5_lays_63 : decode cX5_lays 63 = .ok (.iload 4, 2) := by decide +kernel
theorem dX5_lays_65 : decode cX5_lays 65 = .ok (.laload, 1) := by decide +kernel
theorem dX5_lays_66 : decode cX5_lays 66 = .ok (.lstore 5, 2) := by decide +kernel
theorem dX5_lays_68 : decode cX5_lays 68 = .ok (.lload 5, 2) := by decide +kernel
theorem dX5_lays_70 : decode cX5_lays 70 = .ok (.lconst 0, 1) := by decide +kernel
theorem dX5_lays_71 : decode cX5_lays 71 = .ok (.lcmp, 1) := by decide +kernel
theorem dX5_lays_72 : decode cX5_lays 72 = .ok (.ifCond .lt 28, 3) := by decide +kernel
theorem dX5_lays_75 : decode cX5_lays 75 = .ok (.lload 5, 2) := by decide +kernel
theorem dX5_lays_77 : decode cX5_lays 77 = .ok (.ldc2_w 236, 3) := by decide +kernel
theorem dX5_lays_80 : decode cX5_lays 80 = .ok (.lcmp, 1) := by decide +kernel
theorem dX5_lays_81 : decode cX5_lays 81 = .ok (.ifCond .gt 19, 3) := by decide +kernel
theorem dX5_lays_84 : decode cX5_lays 84 = .ok (.aload_n 0, 1) := by decide +kernel
theorem dX5_lays_85 : decode cX5_lays 85 = .ok (.getfield 10, 3) := by decide +kernel
theorem dX5_lays_88 : decode cX5_lays 88 = .ok (.getfield 109, 3) := by decide +kernel
theorem dX5_lays_91 : decode cX5_lays 91 = .ok (.iload 4, 2) := by decide +kernel
theorem dX5_lays_93 : decode cX5_lays 93 = .ok (.lload 5, 2) := by decide +kernel
theorem dX5_lays_95 : decode cX5_lays 95 = .ok (.l2i, 1) := by decide +kernel
theorem dX5_lays_96 : decode cX5_lays 96 = .ok (.iastore, 1) := by decide +kernel
theorem dX5_lays_97 : decode cX5_lays 97 = .ok (.iinc 3 1, 3) := by decide +kernel
theorem dX5_lays_100 : decode cX5_lays 100 = .ok (.iinc 4 1, 3) := by decide +kernel
theorem dX5_lays_103 : decode cX5_lays 103 = .ok (.goto (-65), 3) := by decide +kernel
theorem dX5_lays_106 : decode cX5_lays 106 = .ok (.iload_n 3, 1) := by decide +kernel
theorem dX5_lays_107 : decode cX5_lays 107 = .ok (.ireturn, 1) := by decide +kernel
theorem dX5_book_0 : decode cX5_book 0 = .ok (.iload_n 1, 1) := by decide +kernel
theorem dX5_book_1 : decode cX5_book 1 = .ok (.invokestatic 204, 3) := by decide +kernel
theorem dX5_book_4 : decode cX5_book 4 = .ok (.ifCond .ne 9, 3) := by decide +kernel
theorem dX5_book_7 : decode cX5_book 7 = .ok (.aload_n 0, 1) := by decide +kernel
theorem dX5_book_8 : decode cX5_book 8 = .ok (.iconst 0, 1) := by decide +kernel
theorem dX5_book_9 : decode cX5_book 9 = .ok (.invokevirtual 59, 3) := by decide +kernel
theorem dX5_book_12 : decode cX5_book 12 = .ok (.ireturn, 1) := by decide +kernel
theorem dX5_book_13 : decode cX5_book 13 = .ok (.aload_n 0, 1) := by decide +kernel
theorem dX5_book_14 : decode cX5_book 14 = .ok (.getfield 35, 3) := by decide +kernel
theorem dX5_book_17 : decode cX5_book 17 = .ok (.iload_n 1, 1) := by decide +kernel
theorem dX5_book_18 : decode cX5_book 18 = .ok (.aaload, 1) := by decide +kernel
theorem dX5_book_19 : decode cX5_book 19 = .ok (.astore_n 3, 1) := by decide +kernel
theorem dX5_book_20 : decode cX5_book 20 = .ok (.aload_n 3, 1) := by decide +kernel
theorem dX5_book_21 : decode cX5_book 21 = .ok (.invokevirtual 213, 3) := by decide +kernel
theorem dX5_book_24 : decode cX5_book 24 = .ok (.ifCond .eq 9, 3) := by decide +kernel
theorem dX5_book_27 : decode cX5_book 27 = .ok (.aload_n 0, 1) := by decide +kernel
theorem dX5_book_28 : decode cX5_book 28 = .ok (.iconst 5, 1) := by decide +kernel
theorem dX5_book_29 : decode cX5_book 29 = .ok (.invokevirtual 59, 3) := by decide +kernel
theorem dX5_book_32 : decode cX5_book 32 = .ok (.ireturn, 1) := by decide +kernel
theorem dX5_book_33 : decode cX5_book 33 = .ok (.iload_n 2, 1) := by decide +kernel
theorem dX5_book_34 : decode cX5_book 34 = .ok (.invokestatic 50, 3) := by decide +kernel
theorem dX5_book_37 : decode cX5_book 37 = .ok (.ifCond .ne 9, 3) := by decide +kernel
theorem dX5_book_40 : decode cX5_book 40 = .ok (.aload_n 0, 1) := by decide +kernel
theorem dX5_book_41 : decode cX5_book 41 = .ok (.iconst 0, 1) := by decide +kernel
theorem dX5_book_42 : decode cX5_book 42 = .ok (.invokevirtual 59, 3) := by decide +kernel
theorem dX5_book_45 : decode cX5_book 45 = .ok (.ireturn, 1) := by decide +kernel
theorem dX5_book_46 : decode cX5_book 46 = .ok (.aload_n 0, 1) := by decide +kernel
theorem dX5_book_47 : decode cX5_book 47 = .ok (.getfield 16, 3) := by decide +kernel
theorem dX5_book_50 : decode cX5_book 50 = .ok (.aload_n 0, 1) := by decide +kernel
theorem dX5_book_51 : decode cX5_book 51 = .ok (.getfield 10, 3) := by decide +kernel
theorem dX5_book_54 : decode cX5_book 54 = .ok (.invokevirtual 140, 3) := by decide +kernel
theorem dX5_book_57 : decode cX5_book 57 = .ok (.iconst 0, 1) := by decide +kernel
theorem dX5_book_58 : decode cX5_book 58 = .ok (.istore 4, 2) := by decide +kernel
theorem dX5_book_60 : decode cX5_book 60 = .ok (.iload 4, 2) := by decide +kernel
theorem dX5_book_62 : decode cX5_book 62 = .ok (.aload_n 3, 1) := by decide +kernel
theorem dX5_book_63 : decode cX5_book 63 = .ok (.getfield 210, 3) := by decide +kernel
theorem dX5_book_66 : decode cX5_book 66 = .ok (.if_icmp .ge 32, 3) := by decide +kernel
theorem dX5_book_69 : decode cX5_book 69 = .ok (.aload_n 3, 1) := by decide +kernel
theorem dX5_book_70 : decode cX5_book 70 = .ok (.iload 4, 2) := by decide +kernel
theorem dX5_book_72 : decode cX5_book 72 = .ok (.aload_n 0, 1) := by decide +kernel
theorem dX5_book_73 : decode cX5_book 73 = .ok (.getfield 16, 3) := by decide +kernel
theorem dX5_book_76 : decode cX5_book 76 = .ok (.getfield 63, 3) := by decide +kernel
theorem dX5_book_79 : decode cX5_book 79 = .ok (.iload_n 2, 1) := by decide +kernel
theorem dX5_book_80 : decode cX5_book 80 = .ok (.iaload, 1) := by decide +kernel
theorem dX5_book_81 : decode cX5_book 81 = .ok (.i2l, 1) := by decide +kernel
theorem dX5_book_82 : decode cX5_book 82 = .ok (.invokevirtual 220, 3) := by decide +kernel
theorem dX5_book_85 : decode cX5_book 85 = .ok (.aload_n 0, 1) := by decide +kernel
theorem dX5_book_86 : decode cX5_book 86 = .ok (.getfield 16, 3) := by decide +kernel
theorem dX5_book_89 : decode cX5_book 89 = .ok (.invokevirtual 152, 3) := by decide +kernel
theorem dX5_book_92 : decode cX5_book 92 = .ok (.iinc 4 1, 3) := by decide +kernel
theorem dX5_book_95 : decode cX5_book 95 = .ok (.goto (-35), 3) := by decide +kernel
theorem dX5_book_98 : decode cX5_book 98 = .ok (.aload_n 3, 1) := by decide +kernel
theorem dX5_book_99 : decode cX5_book 99 = .ok (.getfield 210, 3) := by decide +kernel
theorem dX5_book_102 : decode cX5_book 102 = .ok (.ireturn, 1) := by decide +kernel
theorem dX5_read_0 : decode cX5_read 0 = .ok (.iload_n 1, 1) := by decide +kernel
theorem dX5_read_1 : decode cX5_read 1 = .ok (.invokestatic 204, 3) := by decide +kernel
theorem dX5_read_4 : decode cX5_read 4 = .ok (.ifCond .ne 9, 3) := by decide +kernel
theorem dX5_read_7 : decode cX5_read 7 = .ok (.aload_n 0, 1) := by decide +kernel
theorem dX5_read_8 : decode cX5_read 8 = .ok (.iconst 0, 1) := by decide +kernel
theorem dX5_read_9 : decode cX5_read 9 = .ok (.invokevirtual 59, 3) := by decide +kernel
theorem dX5_read_12 : decode cX5_read 12 = .ok (.ireturn, 1) := by decide +kernel
theorem dX5_read_13 : decode cX5_read 13 = .ok (.aload_n 0, 1) := by decide +kernel
theorem dX5_read_14 : decode cX5_read 14 = .ok (.getfield 35, 3) := by decide +kernel
theorem dX5_read_17 : decode cX5_read 17 = .ok (.iload_n 1, 1) := by decide +kernel
theorem dX5_read_18 : decode cX5_read 18 = .ok (.aaload, 1) := by decide +kernel
theorem dX5_read_19 : decode cX5_read 19 = .ok (.astore 4, 2) := by decide +kernel
theorem dX5_read_21 : decode cX5_read 21 = .ok (.aload 4, 2) := by decide +kernel
theorem dX5_read_23 : decode cX5_read 23 = .ok (.invokevirtual 213, 3) := by decide +kernel
theorem dX5_read_26 : decode cX5_read 26 = .ok (.ifCond .eq 9, 3) := by decide +kernel
theorem dX5_read_29 : decode cX5_read 29 = .ok (.aload_n 0, 1) := by decide +kernel
theorem dX5_read_30 : decode cX5_read 30 = .ok (.iconst 5, 1) := by decide +kernel
theorem dX5_read_31 : decode cX5_read 31 = .ok (.invokevirtual 59, 3) := by decide +kernel
theorem dX5_read_34 : decode cX5_read 34 = .ok (.ireturn, 1) := by decide +kernel
theorem dX5_read_35 : decode cX5_read 35 = .ok (.iload_n 2, 1) := by decide +kernel
theorem dX5_read_36 : decode cX5_read 36 = .ok (.invokestatic 50, 3) := by decide +kernel
theorem dX5_read_39 : decode cX5_read 39 = .ok (.ifCond .eq 14, 3) := by decide +kernel
theorem dX5_read_42 : decode cX5_read 42 = .ok (.aload_n 0, 1) := by decide +kernel
theorem dX5_read_43 : decode cX5_read 43 = .ok (.getfield 10, 3) := by decide +kernel
theorem dX5_read_46 : decode cX5_read 46 = .ok (.iload_n 3, 1) := by decide +kernel
theorem dX5_read_47 : decode cX5_read 47 = .ok (.invokevirtual 103, 3) := by decide +kernel
theorem dX5_read_50 : decode cX5_read 50 = .ok (.ifCond .ne 9, 3) := by decide +kernel
theorem dX5_read_53 : decode cX5_read 53 = .ok (.aload_n 0, 1) := by decide +kernel
theorem dX5_read_54 : decode cX5_read 54 = .ok (.iconst 0, 1) := by decide +kernel
theorem dX5_read_55 : decode cX5_read 55 = .ok (.invokevirtual 59, 3) := by decide +kernel
theorem dX5_read_58 : decode cX5_read 58 = .ok (.ireturn, 1) := by decide +kernel
theorem dX5_read_59 : decode cX5_read 59 = .ok (.aload_n 0, 1) := by decide +kernel
theorem dX5_read_60 : decode cX5_read 60 = .ok (.aload 4, 2) := by decide +kernel
theorem dX5_read_62 : decode cX5_read 62 = .ok (.getfield 210, 3) := by decide +kernel
theorem dX5_read_65 : decode cX5_read 65 = .ok (.iload_n 2, 1) := by decide +kernel
theorem dX5_read_66 : decode cX5_read 66 = .ok (.iload_n 3, 1) := by decide +kernel
theorem dX5_read_67 : decode cX5_read 67 = .ok (.invokevirtual 238, 3) := by decide +kernel
theorem dX5_read_70 : decode cX5_read 70 = .ok (.istore 5, 2) := by decide +kernel
theorem dX5_read_72 : decode cX5_read 72 = .ok (.iconst 0, 1) := by decide +kernel
theorem dX5_read_73 : decode cX5_read 73 = .ok (.istore 6, 2) := by decide +kernel
theorem dX5_read_75 : decode cX5_read 75 = .ok (.iconst 0, 1) := by decide +kernel
theorem dX5_read_76 : decode cX5_read 76 = .ok (.istore 7, 2) := by decide +kernel
theorem dX5_read_78 : decode cX5_read 78 = .ok (.iload 7, 2) := by decide +kernel
theorem dX5_read_80 : decode cX5_read 80 = .ok (.bipush 6, 2) := by decide +kernel
theorem dX5_read_82 : decode cX5_read 82 = .ok (.if_icmp .ge 43, 3) := by decide +kernel
theorem dX5_read_85 : decode cX5_read 85 = .ok (.iconst 0, 1) := by decide +kernel
theorem dX5_read_86 : decode cX5_read 86 = .ok (.istore 8, 2) := by decide +kernel
theorem dX5_read_88 : decode cX5_read 88 = .ok (.iload 8, 2) := by decide +kernel
theorem dX5_read_90 : decode cX5_read 90 = .ok (.bipush 99, 2) := by decide +kernel
theorem dX5_read_92 : decode cX5_read 92 = .ok (.if_icmp .gt 27, 3) := by decide +kernel
theorem dX5_read_95 : decode cX5_read 95 = .ok (.aload_n 0, 1) := by decide +kernel
theorem dX5_read_96 : decode cX5_read 96 = .ok (.aload 4, 2) := by decide +kernel
theorem dX5_read_98 : decode cX5_read 98 = .ok (.iload 7, 2) := by decide +kernel
theorem dX5_read_100 : decode cX5_read 100 = .ok (.iload 8, 2) := by decide +kernel
theorem dX5_read_102 : decode cX5_read 102 = .ok (.iload 5, 2) := by decide +kernel
theorem dX5_read_104 : decode cX5_read 104 = .ok (.invokevirtual 241, 3) := by decide +kernel
theorem dX5_read_107 : decode cX5_read 107 = .ok (.ifCond .eq 6, 3) := by decide +kernel
theorem dX5_read_110 : decode cX5_read 110 = .ok (.iinc 6 1, 3) := by decide +kernel
theorem dX5_read_113 : decode cX5_read 113 = .ok (.iinc 8 1, 3) := by decide +kernel
theorem dX5_read_116 : decode cX5_read 116 = .ok (.goto (-28), 3) := by decide +kernel
theorem dX5_read_119 : decode cX5_read 119 = .ok (.iinc 7 1, 3) := by decide +kernel
theorem dX5_read_122 : decode cX5_read 122 = .ok (.goto (-44), 3) := by decide +kernel
theorem dX5_read_125 : decode cX5_read 125 = .ok (.iload 6, 2) := by decide +kernel
theorem dX5_read_127 : decode cX5_read 127 = .ok (.ireturn, 1) := by decide +kernel
theorem dX5_image_0 : decode cX5_image 0 = .ok (.aload_n 0, 1) := by decide +kernel
theorem dX5_image_1 : decode cX5_image 1 = .ok (.getfield 19, 3) := by decide +kernel
theorem dX5_image_4 : decode cX5_image 4 = .ok (.aload_n 0, 1) := by decide +kernel
theorem dX5_image_5 : decode cX5_image 5 = .ok (.getfield 10, 3) := by decide +kernel
theorem dX5_image_8 : decode cX5_image 8 = .ok (.invokevirtual 140, 3) := by decide +kernel
theorem dX5_image_11 : decode cX5_image 11 = .ok (.aload_n 0, 1) := by decide +kernel
theorem dX5_image_12 : decode cX5_image 12 = .ok (.iconst 1, 1) := by decide +kernel
theorem dX5_image_13 : decode cX5_image 13 = .ok (.putfield 22, 3) := by decide +kernel
theorem dX5_image_16 : decode cX5_image 16 = .ok (.iconst 1, 1) := by decide +kernel
theorem dX5_image_17 : decode cX5_image 17 = .ok (.ireturn, 1) := by decide +kernel
theorem dX5_undo_0 : decode cX5_undo 0 = .ok (.aload_n 0, 1) := by decide +kernel
theorem dX5_undo_1 : decode cX5_undo 1 = .ok (.getfield 22, 3) := by decide +kernel
theorem dX5_undo_4 : decode cX5_undo 4 = .ok (.ifCond .ne 9, 3) := by decide +kernel
theorem dX5_undo_7 : decode cX5_undo 7 = .ok (.aload_n 0, 1) := by decide +kernel
theorem dX5_undo_8 : decode cX5_undo 8 = .ok (.iconst 3, 1) := by decide +kernel
theorem dX5_undo_9 : decode cX5_undo 9 = .ok (.invokevirtual 59, 3) := by decide +kernel
theorem dX5_undo_12 : decode cX5_undo 12 = .ok (.ireturn, 1) := by decide +kernel
theorem dX5_undo_13 : decode cX5_undo 13 = .ok (.aload_n 0, 1) := by decide +kernel
theorem dX5_undo_14 : decode cX5_undo 14 = .ok (.getfield 10, 3) := by decide +kernel
theorem dX5_undo_17 : decode cX5_undo 17 = .ok (.aload_n 0, 1) := by decide +kernel
theorem dX5_undo_18 : decode cX5_undo 18 = .ok (.getfield 19, 3) := by decide +kernel
theorem dX5_undo_21 : decode cX5_undo 21 = .ok (.invokevirtual 140, 3) := by decide +kernel
theorem dX5_undo_24 : decode cX5_undo 24 = .ok (.aload_n 0, 1) := by decide +kernel
theorem dX5_undo_25 : decode cX5_undo 25 = .ok (.getfield 10, 3) := by decide +kernel
theorem dX5_undo_28 : decode cX5_undo 28 = .ok (.getfield 80, 3) := by decide +kernel
theorem dX5_undo_31 : decode cX5_undo 31 = .ok (.ireturn, 1) := by decide +kernel
theorem dX5_tear_0 : decode cX5_tear 0 = .ok (.aload_n 0, 1) := by decide +kernel
theorem dX5_tear_1 : decode cX5_tear 1 = .ok (.getfield 22, 3) := by decide +kernel
theorem dX5_tear_4 : decode cX5_tear 4 = .ok (.ifCond .eq 7, 3) := by decide +kernel
theorem dX5_tear_7 : decode cX5_tear 7 = .ok (.iconst 1, 1) := by decide +kernel
theorem dX5_tear_8 : decode cX5_tear 8 = .ok (.goto 4, 3) := by decide +kernel
theorem dX5_tear_11 : decode cX5_tear 11 = .ok (.iconst 0, 1) := by decide +kernel
theorem dX5_tear_12 : decode cX5_tear 12 = .ok (.istore_n 1, 1) := by decide +kernel
theorem dX5_tear_13 : decode cX5_tear 13 = .ok (.aload_n 0, 1) := by decide +kernel
theorem dX5_tear_14 : decode cX5_tear 14 = .ok (.iconst 0, 1) := by decide +kernel
theorem dX5_tear_15 : decode cX5_tear 15 = .ok (.putfield 22, 3) := by decide +kernel
theorem dX5_tear_18 : decode cX5_tear 18 = .ok (.iload_n 1, 1) := by decide +kernel
theorem dX5_tear_19 : decode cX5_tear 19 = .ok (.ireturn, 1) := by decide +kernel
theorem dX5_count_0 : decode cX5_count 0 = .ok (.iload_n 1, 1) := by decide +kernel
theorem dX5_count_1 : decode cX5_count 1 = .ok (.tableswitch 63 0 3 #[31, 39, 47, 55], 31) := by decide +kernel
theorem dX5_count_32 : decode cX5_count 32 = .ok (.aload_n 0, 1) := by decide +kernel
theorem dX5_count_33 : decode cX5_count 33 = .ok (.getfield 10, 3) := by decide +kernel
theorem dX5_count_36 : decode cX5_count 36 = .ok (.getfield 80, 3) := by decide +kernel
theorem dX5_count_39 : decode cX5_count 39 = .ok (.ireturn, 1) := by decide +kernel
theorem dX5_count_40 : decode cX5_count 40 = .ok (.aload_n 0, 1) := by decide +kernel
theorem dX5_count_41 : decode cX5_count 41 = .ok (.getfield 29, 3) := by decide +kernel
theorem dX5_count_44 : decode cX5_count 44 = .ok (.getfield 194, 3) := by decide +kernel
theorem dX5_count_47 : decode cX5_count 47 = .ok (.ireturn, 1) := by decide +kernel
theorem dX5_count_48 : decode cX5_count 48 = .ok (.aload_n 0, 1) := by decide +kernel
theorem dX5_count_49 : decode cX5_count 49 = .ok (.getfield 10, 3) := by decide +kernel
theorem dX5_count_52 : decode cX5_count 52 = .ok (.invokevirtual 245, 3) := by decide +kernel
theorem dX5_count_55 : decode cX5_count 55 = .ok (.ireturn, 1) := by decide +kernel
theorem dX5_count_56 : decode cX5_count 56 = .ok (.aload_n 0, 1) := by decide +kernel
theorem dX5_count_57 : decode cX5_count 57 = .ok (.getfield 10, 3) := by decide +kernel
theorem dX5_count_60 : decode cX5_count 60 = .ok (.invokevirtual 169, 3) := by decide +kernel
theorem dX5_count_63 : decode cX5_count 63 = .ok (.ireturn, 1) := by decide +kernel
theorem dX5_count_64 : decode cX5_count 64 = .ok (.aload_n 0, 1) := by decide +kernel
theorem dX5_count_65 : decode cX5_count 65 = .ok (.iconst 0, 1) := by decide +kernel
theorem dX5_count_66 : decode cX5_count 66 = .ok (.invokevirtual 59, 3) := by decide +kernel
theorem dX5_count_69 : decode cX5_count 69 = .ok (.ireturn, 1) := by decide +kernel
theorem dX5_status_0 : decode cX5_status 0 = .ok (.iload_n 1, 1) := by decide +kernel
theorem dX5_status_1 : decode cX5_status 1 = .ok (.ifCond .lt 16, 3) := by decide +kernel
theorem dX5_status_4 : decode cX5_status 4 = .ok (.iload_n 1, 1) := by decide +kernel
theorem dX5_status_5 : decode cX5_status 5 = .ok (.bipush 7, 2) := by decide +kernel
theorem dX5_status_7 : decode cX5_status 7 = .ok (.if_icmp .ge 10, 3) := by decide +kernel
theorem dX5_status_10 : decode cX5_status 10 = .ok (.aload_n 0, 1) := by decide +kernel
theorem dX5_status_11 : decode cX5_status 11 = .ok (.getfield 39, 3) := by decide +kernel
theorem dX5_status_14 : decode cX5_status 14 = .ok (.iload_n 1, 1) := by decide +kernel
theorem dX5_status_15 : decode cX5_status 15 = .ok (.iaload, 1) := by decide +kernel
theorem dX5_status_16 : decode cX5_status 16 = .ok (.ireturn, 1) := by decide +kernel
theorem dX5_status_17 : decode cX5_status 17 = .ok (.iload_n 1, 1) := by decide +kernel
theorem dX5_status_18 : decode cX5_status 18 = .ok (.iconst (-1), 1) := by decide +kernel
theorem dX5_status_19 : decode cX5_status 19 = .ok (.if_icmp .eq 9, 3) := by decide +kernel
theorem dX5_status_22 : decode cX5_status 22 = .ok (.aload_n 0, 1) := by decide +kernel
theorem dX5_status_23 : decode cX5_status 23 = .ok (.iconst 0, 1) := by decide +kernel
theorem dX5_status_24 : decode cX5_status 24 = .ok (.invokevirtual 59, 3) := by decide +kernel
theorem dX5_status_27 : decode cX5_status 27 = .ok (.ireturn, 1) := by decide +kernel
theorem dX5_status_28 : decode cX5_status 28 = .ok (.iconst 0, 1) := by decide +kernel
theorem dX5_status_29 : decode cX5_status 29 = .ok (.istore_n 2, 1) := by decide +kernel
theorem dX5_status_30 : decode cX5_status 30 = .ok (.iconst 0, 1) := by decide +kernel
theorem dX5_status_31 : decode cX5_status 31 = .ok (.istore_n 3, 1) := by decide +kernel
theorem dX5_status_32 : decode cX5_status 32 = .ok (.iload_n 3, 1) := by decide +kernel
theorem dX5_status_33 : decode cX5_status 33 = .ok (.bipush 7, 2) := by decide +kernel
theorem dX5_status_35 : decode cX5_status 35 = .ok (.if_icmp .ge 18, 3) := by decide +kernel
theorem dX5_status_38 : decode cX5_status 38 = .ok (.iload_n 2, 1) := by decide +kernel
theorem dX5_status_39 : decode cX5_status 39 = .ok (.aload_n 0, 1) := by decide +kernel
theorem dX5_status_40 : decode cX5_status 40 = .ok (.getfield 39, 3) := by decide +kernel
theorem dX5_status_43 : decode cX5_status 43 = .ok (.iload_n 3, 1) := by decide +kernel
theorem dX5_status_44 : decode cX5_status 44 = .ok (.iaload, 1) := by decide +kernel
theorem dX5_status_45 : decode cX5_status 45 = .ok (.iadd, 1) := by decide +kernel
theorem dX5_status_46 : decode cX5_status 46 = .ok (.istore_n 2, 1) := by decide +kernel
theorem dX5_status_47 : decode cX5_status 47 = .ok (.iinc 3 1, 3) := by decide +kernel
theorem dX5_status_50 : decode cX5_status 50 = .ok (.goto (-18), 3) := by decide +kernel
theorem dX5_status_53 : decode cX5_status 53 = .ok (.iload_n 2, 1) := by decide +kernel
theorem dX5_status_54 : decode cX5_status 54 = .ok (.ireturn, 1) := by decide +kernel
theorem dX5_tell_0 : decode cX5_tell 0 = .ok (.aload_n 0, 1) := by decide +kernel
theorem dX5_tell_1 : decode cX5_tell 1 = .ok (.getfield 39, 3) := by decide +kernel
theorem dX5_tell_4 : decode cX5_tell 4 = .ok (.iload_n 1, 1) := by decide +kernel
theorem dX5_tell_5 : decode cX5_tell 5 = .ok (.dup2, 1) := by decide +kernel
theorem dX5_tell_6 : decode cX5_tell 6 = .ok (.iaload, 1) := by decide +kernel
theorem dX5_tell_7 : decode cX5_tell 7 = .ok (.iconst 1, 1) := by decide +kernel
theorem dX5_tell_8 : decode cX5_tell 8 = .ok (.iadd, 1) := by decide +kernel
theorem dX5_tell_9 : decode cX5_tell 9 = .ok (.iastore, 1) := by decide +kernel
theorem dX5_tell_10 : decode cX5_tell 10 = .ok (.ldc 248, 2) := by decide +kernel
theorem dX5_tell_12 : decode cX5_tell 12 = .ok (.iload_n 1, 1) := by decide +kernel
theorem dX5_tell_13 : decode cX5_tell 13 = .ok (.isub, 1) := by decide +kernel
theorem dX5_tell_14 : decode cX5_tell 14 = .ok (.ireturn, 1) := by decide +kernel
theorem dX5_isWithin_0 : decode cX5_isWithin 0 = .ok (.iload_n 0, 1) := by decide +kernel
theorem dX5_isWithin_1 : decode cX5_isWithin 1 = .ok (.iload_n 1, 1) := by decide +kernel
theorem dX5_isWithin_2 : decode cX5_isWithin 2 = .ok (.if_icmp .lt 12, 3) := by decide +kernel
theorem dX5_isWithin_5 : decode cX5_isWithin 5 = .ok (.iload_n 0, 1) := by decide +kernel
theorem dX5_isWithin_6 : decode cX5_isWithin 6 = .ok (.iload_n 2, 1) := by decide +kernel
theorem dX5_isWithin_7 : decode cX5_isWithin 7 = .ok (.if_icmp .gt 7, 3) := by decide +kernel
theorem dX5_isWithin_10 : decode cX5_isWithin 10 = .ok (.iconst 1, 1) := by decide +kernel
theorem dX5_isWithin_11 : decode cX5_isWithin 11 = .ok (.goto 4, 3) := by decide +kernel
theorem dX5_isWithin_14 : decode cX5_isWithin 14 = .ok (.iconst 0, 1) := by decide +kernel
theorem dX5_isWithin_15 : decode cX5_isWithin 15 = .ok (.ireturn, 1) := by decide +kernel
theorem dX5_isOwner_0 : decode cX5_isOwner 0 = .ok (.iload_n 0, 1) := by decide +kernel
theorem dX5_isOwner_1 : decode cX5_isOwner 1 = .ok (.iconst 0, 1) := by decide +kernel
theorem dX5_isOwner_2 : decode cX5_isOwner 2 = .ok (.iconst 3, 1) := by decide +kernel
theorem dX5_isOwner_3 : decode cX5_isOwner 3 = .ok (.invokestatic 55, 3) := by decide +kernel
theorem dX5_isOwner_6 : decode cX5_isOwner 6 = .ok (.ireturn, 1) := by decide +kernel
theorem dX5_isSheet_0 : decode cX5_isSheet 0 = .ok (.iload_n 0, 1) := by decide +kernel
theorem dX5_isSheet_1 : decode cX5_isSheet 1 = .ok (.iconst 0, 1) := by decide +kernel
theorem dX5_isSheet_2 : decode cX5_isSheet 2 = .ok (.iconst 3, 1) := by decide +kernel
theorem dX5_isSheet_3 : decode cX5_isSheet 3 = .ok (.invokestatic 55, 3) := by decide +kernel
theorem dX5_isSheet_6 : decode cX5_isSheet 6 = .ok (.ireturn, 1) := by decide +kernel
theorem dX5_foresee_0 : decode cX5_foresee 0 = .ok (.iconst 0, 1) := by decide +kernel
theorem dX5_foresee_1 : decode cX5_foresee 1 = .ok (.istore_n 2, 1) := by decide +kernel
theorem dX5_foresee_2 : decode cX5_foresee 2 = .ok (.iload_n 2, 1) := by decide +kernel
theorem dX5_foresee_3 : decode cX5_foresee 3 = .ok (.aload_n 0, 1) := by decide +kernel
theorem dX5_foresee_4 : decode cX5_foresee 4 = .ok (.getfield 10, 3) := by decide +kernel
theorem dX5_foresee_7 : decode cX5_foresee 7 = .ok (.getfield 80, 3) := by decide +kernel
theorem dX5_foresee_10 : decode cX5_foresee 10 = .ok (.if_icmp .ge 44, 3) := by decide +kernel
theorem dX5_foresee_13 : decode cX5_foresee 13 = .ok (.aload_n 0, 1) := by decide +kernel
theorem dX5_foresee_14 : decode cX5_foresee 14 = .ok (.getfield 43, 3) := by decide +kernel
theorem dX5_foresee_17 : decode cX5_foresee 17 = .ok (.iload_n 2, 1) := by decide +kernel
theorem dX5_foresee_18 : decode cX5_foresee 18 = .ok (.aload_n 0, 1) := by decide +kernel
theorem dX5_foresee_19 : decode cX5_foresee 19 = .ok (.getfield 10, 3) := by decide +kernel
theorem dX5_foresee_22 : decode cX5_foresee 22 = .ok (.getfield 106, 3) := by decide +kernel
theorem dX5_foresee_25 : decode cX5_foresee 25 = .ok (.iload_n 2, 1) := by decide +kernel
theorem dX5_foresee_26 : decode cX5_foresee 26 = .ok (.iaload, 1) := by decide +kernel
theorem dX5_foresee_27 : decode cX5_foresee 27 = .ok (.aload_n 0, 1) := by decide +kernel
theorem dX5_foresee_28 : decode cX5_foresee 28 = .ok (.getfield 10, 3) := by decide +kernel
theorem dX5_foresee_31 : decode cX5_foresee 31 = .ok (.getfield 109, 3) := by decide +kernel
theorem dX5_foresee_34 : decode cX5_foresee 34 = .ok (.iload_n 2, 1) := by decide +kernel
theorem dX5_foresee_35 : decode cX5_foresee 35 = .ok (.iaload, 1) := by decide +kernel
theorem dX5_foresee_36 : decode cX5_foresee 36 = .ok (.aload_n 0, 1) := by decide +kernel
theorem dX5_foresee_37 : decode cX5_foresee 37 = .ok (.getfield 10, 3) := by decide +kernel
theorem dX5_foresee_40 : decode cX5_foresee 40 = .ok (.getfield 118, 3) := by decide +kernel
theorem dX5_foresee_43 : decode cX5_foresee 43 = .ok (.iload_n 1, 1) := by decide +kernel
theorem dX5_foresee_44 : decode cX5_foresee 44 = .ok (.invokestatic 180, 3) := by decide +kernel
theorem dX5_foresee_47 : decode cX5_foresee 47 = .ok (.iastore, 1) := by decide +kernel
theorem dX5_foresee_48 : decode cX5_foresee 48 = .ok (.iinc 2 1, 3) := by decide +kernel
theorem dX5_foresee_51 : decode cX5_foresee 51 = .ok (.goto (-49), 3) := by decide +kernel
theorem dX5_foresee_54 : decode cX5_foresee 54 = .ok (.return_, 1) := by decide +kernel
theorem dX5_moneyForeseen_0 : decode cX5_moneyForeseen 0 = .ok (.aload_n 1, 1) := by decide +kernel
theorem dX5_moneyForeseen_1 : decode cX5_moneyForeseen 1 = .ok (.getfield 63, 3) := by decide +kernel
theorem dX5_moneyForeseen_4 : decode cX5_moneyForeseen 4 = .ok (.iload_n 2, 1) := by decide +kernel
theorem dX5_moneyForeseen_5 : decode cX5_moneyForeseen 5 = .ok (.iaload, 1) := by decide +kernel
theorem dX5_moneyForeseen_6 : decode cX5_moneyForeseen 6 = .ok (.istore_n 3, 1) := by decide +kernel
theorem dX5_moneyForeseen_7 : decode cX5_moneyForeseen 7 = .ok (.iconst 0, 1) := by decide +kernel
theorem dX5_moneyForeseen_8 : decode cX5_moneyForeseen 8 = .ok (.istore 4, 2) := by decide +kernel
theorem dX5_moneyForeseen_10 : decode cX5_moneyForeseen 10 = .ok (.iload 4, 2) := by decide +kernel
theorem dX5_moneyForeseen_12 : decode cX5_moneyForeseen 12 = .ok (.aload_n 1, 1) := by decide +kernel
theorem dX5_moneyForeseen_13 : decode cX5_moneyForeseen 13 = .ok (.getfield 80, 3) := by decide +kernel
theorem dX5_moneyForeseen_16 : decode cX5_moneyForeseen 16 = .ok (.if_icmp .ge 45, 3) := by decide +kernel
theorem dX5_moneyForeseen_19 : decode cX5_moneyForeseen 19 = .ok (.aload_n 1, 1) := by decide +kernel
theorem dX5_moneyForeseen_20 : decode cX5_moneyForeseen 20 = .ok (.getfield 91, 3) := by decide +kernel
theorem dX5_moneyForeseen_23 : decode cX5_moneyForeseen 23 = .ok (.iload 4, 2) := by decide +kernel
theorem dX5_moneyForeseen_25 : decode cX5_moneyForeseen 25 = .ok (.iaload, 1) := by decide +kernel
theorem dX5_moneyForeseen_26 : decode cX5_moneyForeseen 26 = .ok (.iload_n 2, 1) := by decide +kernel
theorem dX5_moneyForeseen_27 : decode cX5_moneyForeseen 27 = .ok (.if_icmp .ne 28, 3) := by decide +kernel
theorem dX5_moneyForeseen_30 : decode cX5_moneyForeseen 30 = .ok (.aload_n 1, 1) := by decide +kernel
theorem dX5_moneyForeseen_31 : decode cX5_moneyForeseen 31 = .ok (.getfield 94, 3) := by decide +kernel
theorem dX5_moneyForeseen_34 : decode cX5_moneyForeseen 34 = .ok (.iload 4, 2) := by decide +kernel
theorem dX5_moneyForeseen_36 : decode cX5_moneyForeseen 36 = .ok (.iaload, 1) := by decide +kernel
theorem dX5_moneyForeseen_37 : decode cX5_moneyForeseen 37 = .ok (.ifCond .ne 18, 3) := by decide +kernel
theorem dX5_moneyForeseen_40 : decode cX5_moneyForeseen 40 = .ok (.iload_n 3, 1) := by decide +kernel
theorem dX5_moneyForeseen_41 : decode cX5_moneyForeseen 41 = .ok (.aload_n 0, 1) := by decide +kernel
theorem dX5_moneyForeseen_42 : decode cX5_moneyForeseen 42 = .ok (.getfield 43, 3) := by decide +kernel
theorem dX5_moneyForeseen_45 : decode cX5_moneyForeseen 45 = .ok (.aload_n 1, 1) := by decide +kernel
theorem dX5_moneyForeseen_46 : decode cX5_moneyForeseen 46 = .ok (.getfield 97, 3) := by decide +kernel
theorem dX5_moneyForeseen_49 : decode cX5_moneyForeseen 49 = .ok (.iload 4, 2) := by decide +kernel
theorem dX5_moneyForeseen_51 : decode cX5_moneyForeseen 51 = .ok (.iaload, 1) := by decide +kernel
theorem dX5_moneyForeseen_52 : decode cX5_moneyForeseen 52 = .ok (.iaload, 1) := by decide +kernel
theorem dX5_moneyForeseen_53 : decode cX5_moneyForeseen 53 = .ok (.iadd, 1) := by decide +kernel
theorem dX5_moneyForeseen_54 : decode cX5_moneyForeseen 54 = .ok (.istore_n 3, 1) := by decide +kernel
theorem dX5_moneyForeseen_55 : decode cX5_moneyForeseen 55 = .ok (.iinc 4 1, 3) := by decide +kernel
theorem dX5_moneyForeseen_58 : decode cX5_moneyForeseen 58 = .ok (.goto (-48), 3) := by decide +kernel
theorem dX5_moneyForeseen_61 : decode cX5_moneyForeseen 61 = .ok (.ldc 54, 2) := by decide +kernel
theorem dX5_moneyForeseen_63 : decode cX5_moneyForeseen 63 = .ok (.iload_n 3, 1) := by decide +kernel
theorem dX5_moneyForeseen_64 : decode cX5_moneyForeseen 64 = .ok (.invokestatic 249, 3) := by decide +kernel
theorem dX5_moneyForeseen_67 : decode cX5_moneyForeseen 67 = .ok (.ireturn, 1) := by decide +kernel
theorem dX5_costOfDrawing_0 : decode cX5_costOfDrawing 0 = .ok (.aload_n 0, 1) := by decide +kernel
theorem dX5_costOfDrawing_1 : decode cX5_costOfDrawing 1 = .ok (.getfield 10, 3) := by decide +kernel
theorem dX5_costOfDrawing_4 : decode cX5_costOfDrawing 4 = .ok (.getfield 91, 3) := by decide +kernel
theorem dX5_costOfDrawing_7 : decode cX5_costOfDrawing 7 = .ok (.iload_n 1, 1) := by decide +kernel
theorem dX5_costOfDrawing_8 : decode cX5_costOfDrawing 8 = .ok (.iaload, 1) := by decide +kernel
theorem dX5_costOfDrawing_9 : decode cX5_costOfDrawing 9 = .ok (.istore_n 2, 1) := by decide +kernel
theorem dX5_costOfDrawing_10 : decode cX5_costOfDrawing 10 = .ok (.aload_n 0, 1) := by decide +kernel
theorem dX5_costOfDrawing_11 : decode cX5_costOfDrawing 11 = .ok (.getfield 16, 3) := by decide +kernel
theorem dX5_costOfDrawing_14 : decode cX5_costOfDrawing 14 = .ok (.aload_n 0, 1) := by decide +kernel
theorem dX5_costOfDrawing_15 : decode cX5_costOfDrawing 15 = .ok (.getfield 10, 3) := by decide +kernel
theorem dX5_costOfDrawing_18 : decode cX5_costOfDrawing 18 = .ok (.invokevirtual 140, 3) := by decide +kernel
theorem dX5_costOfDrawing_21 : decode cX5_costOfDrawing 21 = .ok (.aload_n 0, 1) := by decide +kernel
theorem dX5_costOfDrawing_22 : decode cX5_costOfDrawing 22 = .ok (.getfield 16, 3) := by decide +kernel
theorem dX5_costOfDrawing_25 : decode cX5_costOfDrawing 25 = .ok (.getfield 94, 3) := by decide +kernel
theorem dX5_costOfDrawing_28 : decode cX5_costOfDrawing 28 = .ok (.iload_n 1, 1) := by decide +kernel
theorem dX5_costOfDrawing_29 : decode cX5_costOfDrawing 29 = .ok (.iconst 1, 1) := by decide +kernel
theorem dX5_costOfDrawing_30 : decode cX5_costOfDrawing 30 = .ok (.iastore, 1) := by decide +kernel
theorem dX5_costOfDrawing_31 : decode cX5_costOfDrawing 31 = .ok (.aload_n 0, 1) := by decide +kernel
theorem dX5_costOfDrawing_32 : decode cX5_costOfDrawing 32 = .ok (.aload_n 0, 1) := by decide +kernel
theorem dX5_costOfDrawing_33 : decode cX5_costOfDrawing 33 = .ok (.getfield 10, 3) := by decide +kernel
theorem dX5_costOfDrawing_36 : decode cX5_costOfDrawing 36 = .ok (.iload_n 2, 1) := by decide +kernel
theorem dX5_costOfDrawing_37 : decode cX5_costOfDrawing 37 = .ok (.invokevirtual 176, 3) := by decide +kernel
theorem dX5_costOfDrawing_40 : decode cX5_costOfDrawing 40 = .ok (.aload_n 0, 1) := by decide +kernel
theorem dX5_costOfDrawing_41 : decode cX5_costOfDrawing 41 = .ok (.aload_n 0, 1) := by decide +kernel
theorem dX5_costOfDrawing_42 : decode cX5_costOfDrawing 42 = .ok (.getfield 16, 3) := by decide +kernel
theorem dX5_costOfDrawing_45 : decode cX5_costOfDrawing 45 = .ok (.iload_n 2, 1) := by decide +kernel
theorem dX5_costOfDrawing_46 : decode cX5_costOfDrawing 46 = .ok (.invokevirtual 176, 3) := by decide +kernel
theorem dX5_costOfDrawing_49 : decode cX5_costOfDrawing 49 = .ok (.isub, 1) := by decide +kernel
theorem dX5_costOfDrawing_50 : decode cX5_costOfDrawing 50 = .ok (.ireturn, 1) := by decide +kernel
theorem dX5_foreseeWithout_0 : decode cX5_foreseeWithout 0 = .ok (.aload_n 0, 1) := by decide +kernel
theorem dX5_foreseeWithout_1 : decode cX5_foreseeWithout 1 = .ok (.getfield 10, 3) := by decide +kernel
theorem dX5_foreseeWithout_4 : decode cX5_foreseeWithout 4 = .ok (.iload_n 3, 1) := by decide +kernel
theorem dX5_foreseeWithout_5 : decode cX5_foreseeWithout 5 = .ok (.invokevirtual 112, 3) := by decide +kernel
theorem dX5_foreseeWithout_8 : decode cX5_foreseeWithout 8 = .ok (.istore 4, 2) := by decide +kernel
theorem dX5_foreseeWithout_10 : decode cX5_foreseeWithout 10 = .ok (.aload_n 0, 1) := by decide +kernel
theorem dX5_foreseeWithout_11 : decode cX5_foreseeWithout 11 = .ok (.getfield 16, 3) := by decide +kernel
theorem dX5_foreseeWithout_14 : decode cX5_foreseeWithout 14 = .ok (.aload_n 0, 1) := by decide +kernel
theorem dX5_foreseeWithout_15 : decode cX5_foreseeWithout 15 = .ok (.getfield 10, 3) := by decide +kernel
theorem dX5_foreseeWithout_18 : decode cX5_foreseeWithout 18 = .ok (.invokevirtual 140, 3) := by decide +kernel
theorem dX5_foreseeWithout_21 : decode cX5_foreseeWithout 21 = .ok (.aload_n 0, 1) := by decide +kernel
theorem dX5_foreseeWithout_22 : decode cX5_foreseeWithout 22 = .ok (.getfield 16, 3) := by decide +kernel
theorem dX5_foreseeWithout_25 : decode cX5_foreseeWithout 25 = .ok (.getfield 94, 3) := by decide +kernel
theorem dX5_foreseeWithout_28 : decode cX5_foreseeWithout 28 = .ok (.iload 4, 2) := by decide +kernel
theorem dX5_foreseeWithout_30 : decode cX5_foreseeWithout 30 = .ok (.iconst 1, 1) := by decide +kernel
theorem dX5_foreseeWithout_31 : decode cX5_foreseeWithout 31 = .ok (.iastore, 1) := by decide +kernel
theorem dX5_foreseeWithout_32 : decode cX5_foreseeWithout 32 = .ok (.iconst 0, 1) := by decide +kernel
theorem dX5_foreseeWithout_33 : decode cX5_foreseeWithout 33 = .ok (.istore 5, 2) := by decide +kernel
theorem dX5_foreseeWithout_35 : decode cX5_foreseeWithout 35 = .ok (.iload 5, 2) := by decide +kernel
theorem dX5_foreseeWithout_37 : decode cX5_foreseeWithout 37 = .ok (.iload_n 1, 1) := by decide +kernel
theorem dX5_foreseeWithout_38 : decode cX5_foreseeWithout 38 = .ok (.if_icmp .ge 32, 3) := by decide +kernel
theorem dX5_foreseeWithout_41 : decode cX5_foreseeWithout 41 = .ok (.aload_n 0, 1) := by decide +kernel
theorem dX5_foreseeWithout_42 : decode cX5_foreseeWithout 42 = .ok (.getfield 46, 3) := by decide +kernel
theorem dX5_foreseeWithout_45 : decode cX5_foreseeWithout 45 = .ok (.iload 5, 2) := by decide +kernel
theorem dX5_foreseeWithout_47 : decode cX5_foreseeWithout 47 = .ok (.aload_n 0, 1) := by decide +kernel
theorem dX5_foreseeWithout_48 : decode cX5_foreseeWithout 48 = .ok (.getfield 16, 3) := by decide +kernel
theorem dX5_foreseeWithout_51 : decode cX5_foreseeWithout 51 = .ok (.getfield 63, 3) := by decide +kernel
theorem dX5_foreseeWithout_54 : decode cX5_foreseeWithout 54 = .ok (.iload_n 2, 1) := by decide +kernel
theorem dX5_foreseeWithout_55 : decode cX5_foreseeWithout 55 = .ok (.iaload, 1) := by decide +kernel
theorem dX5_foreseeWithout_56 : decode cX5_foreseeWithout 56 = .ok (.iastore, 1) := by decide +kernel
theorem dX5_foreseeWithout_57 : decode cX5_foreseeWithout 57 = .ok (.aload_n 0, 1) := by decide +kernel
theorem dX5_foreseeWithout_58 : decode cX5_foreseeWithout 58 = .ok (.getfield 16, 3) := by decide +kernel
theorem dX5_foreseeWithout_61 : decode cX5_foreseeWithout 61 = .ok (.invokevirtual 152, 3) := by decide +kernel
theorem dX5_foreseeWithout_64 : decode cX5_foreseeWithout 64 = .ok (.iinc 5 1, 3) := by decide +kernel
theorem dX5_foreseeWithout_67 : decode cX5_foreseeWithout 67 = .ok (.goto (-32), 3) := by decide +kernel
theorem dX5_foreseeWithout_70 : decode cX5_foreseeWithout 70 = .ok (.aload_n 0, 1) := by decide +kernel
theorem dX5_foreseeWithout_71 : decode cX5_foreseeWithout 71 = .ok (.getfield 10, 3) := by decide +kernel
theorem dX5_foreseeWithout_74 : decode cX5_foreseeWithout 74 = .ok (.getfield 91, 3) := by decide +kernel
theorem dX5_foreseeWithout_77 : decode cX5_foreseeWithout 77 = .ok (.iload 4, 2) := by decide +kernel
theorem dX5_foreseeWithout_79 : decode cX5_foreseeWithout 79 = .ok (.iaload, 1) := by decide +kernel
theorem dX5_foreseeWithout_80 : decode cX5_foreseeWithout 80 = .ok (.iload_n 2, 1) := by decide +kernel
theorem dX5_foreseeWithout_81 : decode cX5_foreseeWithout 81 = .ok (.if_icmp .ne 20, 3) := by decide +kernel
theorem dX5_foreseeWithout_84 : decode cX5_foreseeWithout 84 = .ok (.aload_n 0, 1) := by decide +kernel
theorem dX5_foreseeWithout_85 : decode cX5_foreseeWithout 85 = .ok (.getfield 10, 3) := by decide +kernel
theorem dX5_foreseeWithout_88 : decode cX5_foreseeWithout 88 = .ok (.getfield 94, 3) := by decide +kernel
theorem dX5_foreseeWithout_91 : decode cX5_foreseeWithout 91 = .ok (.iload 4, 2) := by decide +kernel
theorem dX5_foreseeWithout_93 : decode cX5_foreseeWithout 93 = .ok (.iaload, 1) := by decide +kernel
theorem dX5_foreseeWithout_94 : decode cX5_foreseeWithout 94 = .ok (.ifCond .ne 7, 3) := by decide +kernel
theorem dX5_foreseeWithout_97 : decode cX5_foreseeWithout 97 = .ok (.iconst 1, 1) := by decide +kernel
theorem dX5_foreseeWithout_98 : decode cX5_foreseeWithout 98 = .ok (.goto 4, 3) := by decide +kernel
theorem dX5_foreseeWithout_101 : decode cX5_foreseeWithout 101 = .ok (.iconst 0, 1) := by decide +kernel
theorem dX5_foreseeWithout_102 : decode cX5_foreseeWithout 102 = .ok (.ireturn, 1) := by decide +kernel
theorem dX5_fits_0 : decode cX5_fits 0 = .ok (.iconst 0, 1) := by decide +kernel
theorem dX5_fits_1 : decode cX5_fits 1 = .ok (.istore 5, 2) := by decide +kernel
theorem dX5_fits_3 : decode cX5_fits 3 = .ok (.iload_n 3, 1) := by decide +kernel
theorem dX5_fits_4 : decode cX5_fits 4 = .ok (.istore 6, 2) := by decide +kernel
theorem dX5_fits_6 : decode cX5_fits 6 = .ok (.iconst 0, 1) := by decide +kernel
theorem dX5_fits_7 : decode cX5_fits 7 = .ok (.istore 7, 2) := by decide +kernel
theorem dX5_fits_9 : decode cX5_fits 9 = .ok (.iload 7, 2) := by decide +kernel
theorem dX5_fits_11 : decode cX5_fits 11 = .ok (.aload_n 1, 1) := by decide +kernel
theorem dX5_fits_12 : decode cX5_fits 12 = .ok (.getfield 210, 3) := by decide +kernel
theorem dX5_fits_15 : decode cX5_fits 15 = .ok (.if_icmp .ge 82, 3) := by decide +kernel
theorem dX5_fits_18 : decode cX5_fits 18 = .ok (.aload_n 1, 1) := by decide +kernel
theorem dX5_fits_19 : decode cX5_fits 19 = .ok (.getfield 216, 3) := by decide +kernel
theorem dX5_fits_22 : decode cX5_fits 22 = .ok (.iload 7, 2) := by decide +kernel
theorem dX5_fits_24 : decode cX5_fits 24 = .ok (.laload, 1) := by decide +kernel
theorem dX5_fits_25 : decode cX5_fits 25 = .ok (.ldc 54, 2) := by decide +kernel
theorem dX5_fits_27 : decode cX5_fits 27 = .ok (.aload_n 0, 1) := by decide +kernel
theorem dX5_fits_28 : decode cX5_fits 28 = .ok (.getfield 46, 3) := by decide +kernel
theorem dX5_fits_31 : decode cX5_fits 31 = .ok (.iload 7, 2) := by decide +kernel
theorem dX5_fits_33 : decode cX5_fits 33 = .ok (.iaload, 1) := by decide +kernel
theorem dX5_fits_34 : decode cX5_fits 34 = .ok (.iload 5, 2) := by decide +kernel
theorem dX5_fits_36 : decode cX5_fits 36 = .ok (.iadd, 1) := by decide +kernel
theorem dX5_fits_37 : decode cX5_fits 37 = .ok (.invokestatic 249, 3) := by decide +kernel
theorem dX5_fits_40 : decode cX5_fits 40 = .ok (.i2l, 1) := by decide +kernel
theorem dX5_fits_41 : decode cX5_fits 41 = .ok (.lcmp, 1) := by decide +kernel
theorem dX5_fits_42 : decode cX5_fits 42 = .ok (.ifCond .eq 5, 3) := by decide +kernel
theorem dX5_fits_45 : decode cX5_fits 45 = .ok (.iconst 0, 1) := by decide +kernel
theorem dX5_fits_46 : decode cX5_fits 46 = .ok (.ireturn, 1) := by decide +kernel
theorem dX5_fits_47 : decode cX5_fits 47 = .ok (.iload 4, 2) := by decide +kernel
theorem dX5_fits_49 : decode cX5_fits 49 = .ok (.ifCond .eq 24, 3) := by decide +kernel
theorem dX5_fits_52 : decode cX5_fits 52 = .ok (.iload 5, 2) := by decide +kernel
theorem dX5_fits_54 : decode cX5_fits 54 = .ok (.iload_n 2, 1) := by decide +kernel
theorem dX5_fits_55 : decode cX5_fits 55 = .ok (.iload 6, 2) := by decide +kernel
theorem dX5_fits_57 : decode cX5_fits 57 = .ok (.aload_n 0, 1) := by decide +kernel
theorem dX5_fits_58 : decode cX5_fits 58 = .ok (.getfield 10, 3) := by decide +kernel
theorem dX5_fits_61 : decode cX5_fits 61 = .ok (.getfield 118, 3) := by decide +kernel
theorem dX5_fits_64 : decode cX5_fits 64 = .ok (.iload 7, 2) := by decide +kernel
theorem dX5_fits_66 : decode cX5_fits 66 = .ok (.iadd, 1) := by decide +kernel
theorem dX5_fits_67 : decode cX5_fits 67 = .ok (.invokestatic 254, 3) := by decide +kernel
theorem dX5_fits_70 : decode cX5_fits 70 = .ok (.iadd, 1) := by decide +kernel
theorem dX5_fits_71 : decode cX5_fits 71 = .ok (.istore 5, 2) := by decide +kernel
theorem dX5_fits_73 : decode cX5_fits 73 = .ok (.iload_n 2, 1) := by decide +kernel
theorem dX5_fits_74 : decode cX5_fits 74 = .ok (.iload 6, 2) := by decide +kernel
theorem dX5_fits_76 : decode cX5_fits 76 = .ok (.aload_n 0, 1) := by decide +kernel
theorem dX5_fits_77 : decode cX5_fits 77 = .ok (.getfield 10, 3) := by decide +kernel
theorem dX5_fits_80 : decode cX5_fits 80 = .ok (.getfield 118, 3) := by decide +kernel
theorem dX5_fits_83 : decode cX5_fits 83 = .ok (.iload 7, 2) := by decide +kernel
theorem dX5_fits_85 : decode cX5_fits 85 = .ok (.iadd, 1) := by decide +kernel
theorem dX5_fits_86 : decode cX5_fits 86 = .ok (.invokestatic 258, 3) := by decide +kernel
theorem dX5_fits_89 : decode cX5_fits 89 = .ok (.istore 6, 2) := by decide +kernel
theorem dX5_fits_91 : decode cX5_fits 91 = .ok (.iinc 7 1, 3) := by decide +kernel
theorem dX5_fits_94 : decode cX5_fits 94 = .ok (.goto (-85), 3) := by decide +kernel
theorem dX5_fits_97 : decode cX5_fits 97 = .ok (.iconst 1, 1) := by decide +kernel
theorem dX5_fits_98 : decode cX5_fits 98 = .ok (.ireturn, 1) := by decide +kernel
theorem dX6_init_0 : decode cX6_init 0 = .ok (.aload_n 0, 1) := by decide +kernel
theorem dX6_init_1 : decode cX6_init 1 = .ok (.invokespecial 3, 3) := by decide +kernel
theorem dX6_init_4 : decode cX6_init 4 = .ok (.aload_n 0, 1) := by decide +kernel
theorem dX6_init_5 : decode cX6_init 5 = .ok (.bipush 46, 2) := by decide +kernel
theorem dX6_init_7 : decode cX6_init 7 = .ok (.newarray .int, 2) := by decide +kernel
theorem dX6_init_9 : decode cX6_init 9 = .ok (.putfield 9, 3) := by decide +kernel
theorem dX6_init_12 : decode cX6_init 12 = .ok (.aload_n 0, 1) := by decide +kernel
theorem dX6_init_13 : decode cX6_init 13 = .ok (.bipush 46, 2) := by decide +kernel
theorem dX6_init_15 : decode cX6_init 15 = .ok (.newarray .int, 2) := by decide +kernel
theorem dX6_init_17 : decode cX6_init 17 = .ok (.putfield 13, 3) := by decide +kernel
theorem dX6_init_20 : decode cX6_init 20 = .ok (.aload_n 0, 1) := by decide +kernel
theorem dX6_init_21 : decode cX6_init 21 = .ok (.bipush 46, 2) := by decide +kernel
theorem dX6_init_23 : decode cX6_init 23 = .ok (.newarray .int, 2) := by decide +kernel
theorem dX6_init_25 : decode cX6_init 25 = .ok (.putfield 16, 3) := by decide +kernel
theorem dX6_init_28 : decode cX6_init 28 = .ok (.aload_n 0, 1) := by decide +kernel
theorem dX6_init_29 : decode cX6_init 29 = .ok (.bipush 7, 2) := by decide +kernel
theorem dX6_init_31 : decode cX6_init 31 = .ok (.newarray .int, 2) := by decide +kernel
theorem dX6_init_33 : decode cX6_init 33 = .ok (.putfield 19, 3) := by decide +kernel
theorem dX6_init_36 : decode cX6_init 36 = .ok (.aload_n 0, 1) := by decide +kernel
theorem dX6_init_37 : decode cX6_init 37 = .ok (.bipush 120, 2) := by decide +kernel
theorem dX6_init_39 : decode cX6_init 39 = .ok (.newarray .int, 2) := by decide +kernel
theorem dX6_init_41 : decode cX6_init 41 = .ok (.putfield 22, 3) := by decide +kernel
theorem dX6_init_44 : decode cX6_init 44 = .ok (.aload_n 0, 1) := by decide +kernel
theorem dX6_init_45 : decode cX6_init 45 = .ok (.iconst 4, 1) := by decide +kernel
theorem dX6_init_46 : decode cX6_init 46 = .ok (.newarray .int, 2) := by decide +kernel
theorem dX6_init_48 : decode cX6_init 48 = .ok (.putfield 25, 3) := by decide +kernel
theorem dX6_init_51 : decode cX6_init 51 = .ok (.aload_n 0, 1) := by decide +kernel
theorem dX6_init_52 : decode cX6_init 52 = .ok (.iconst 4, 1) := by decide +kernel
theorem dX6_init_53 : decode cX6_init 53 = .ok (.newarray .int, 2) := by decide +kernel
theorem dX6_init_55 : decode cX6_init 55 = .ok (.putfield 28, 3) := by decide +kernel
theorem dX6_init_58 : decode cX6_init 58 = .ok (.aload_n 0, 1) := by decide +kernel
theorem dX6_init_59 : decode cX6_init 59 = .ok (.sipush 160, 3) := by decide +kernel
theorem dX6_init_62 : decode cX6_init 62 = .ok (.newarray .long, 2) := by decide +kernel
theorem dX6_init_64 : decode cX6_init 64 = .ok (.putfield 31, 3) := by decide +kernel
theorem dX6_init_67 : decode cX6_init 67 = .ok (.iconst 0, 1) := by decide +kernel
theorem dX6_init_68 : decode cX6_init 68 = .ok (.istore_n 1, 1) := by decide +kernel
theorem dX6_init_69 : decode cX6_init 69 = .ok (.iload_n 1, 1) := by decide +kernel
theorem dX6_init_70 : decode cX6_init 70 = .ok (.iconst 4, 1) := by decide +kernel
theorem dX6_init_71 : decode cX6_init 71 = .ok (.if_icmp .ge 19, 3) := by decide +kernel
theorem dX6_init_74 : decode cX6_init 74 = .ok (.aload_n 0, 1) := by decide +kernel
theorem dX6_init_75 : decode cX6_init 75 = .ok (.getfield 9, 3) := by decide +kernel
theorem dX6_init_78 : decode cX6_init 78 = .ok (.iconst 2, 1) := by decide +kernel
theorem dX6_init_79 : decode cX6_init 79 = .ok (.iload_n 1, 1) := by decide +kernel
theorem dX6_init_80 : decode cX6_init 80 = .ok (.iadd, 1) := by decide +kernel
theorem dX6_init_81 : decode cX6_init 81 = .ok (.bipush 100, 2) := by decide +kernel
theorem dX6_init_83 : decode cX6_init 83 = .ok (.iastore, 1) := by decide +kernel
theorem dX6_init_84 : decode cX6_init 84 = .ok (.iinc 1 1, 3) := by decide +kernel
theorem dX6_init_87 : decode cX6_init 87 = .ok (.goto (-18), 3) := by decide +kernel
theorem dX6_init_90 : decode cX6_init 90 = .ok (.return_, 1) := by decide +kernel
theorem dX6_finds_0 : decode cX6_finds 0 = .ok (.aload_n 0, 1) := by decide +kernel
theorem dX6_finds_1 : decode cX6_finds 1 = .ok (.getfield 19, 3) := by decide +kernel
theorem dX6_finds_4 : decode cX6_finds 4 = .ok (.ldc 35, 2) := by decide +kernel
theorem dX6_finds_6 : decode cX6_finds 6 = .ok (.iload_n 1, 1) := by decide +kernel
theorem dX6_finds_7 : decode cX6_finds 7 = .ok (.isub, 1) := by decide +kernel
theorem dX6_finds_8 : decode cX6_finds 8 = .ok (.dup2, 1) := by decide +kernel
theorem dX6_finds_9 : decode cX6_finds 9 = .ok (.iaload, 1) := by decide +kernel
theorem dX6_finds_10 : decode cX6_finds 10 = .ok (.iconst 1, 1) := by decide +kernel
theorem dX6_finds_11 : decode cX6_finds 11 = .ok (.iadd, 1) := by decide +kernel
theorem dX6_finds_12 : decode cX6_finds 12 = .ok (.iastore, 1) := by decide +kernel
theorem dX6_finds_13 : decode cX6_finds 13 = .ok (.iload_n 1, 1) := by decide +kernel
theorem dX6_finds_14 : decode cX6_finds 14 = .ok (.ireturn, 1) := by decide +kernel
theorem dX6_orNone_0 : decode cX6_orNone 0 = .ok (.iload_n 1, 1) := by decide +kernel
theorem dX6_orNone_1 : decode cX6_orNone 1 = .ok (.ifCond .ge 12, 3) := by decide +kernel
theorem dX6_orNone_4 : decode cX6_orNone 4 = .ok (.aload_n 0, 1) := by decide +kernel
theorem dX6_orNone_5 : decode cX6_orNone 5 = .ok (.ldc 36, 2) := by decide +kernel
theorem dX6_orNone_7 : decode cX6_orNone 7 = .ok (.invokevirtual 37, 3) := by decide +kernel
theorem dX6_orNone_10 : decode cX6_orNone 10 = .ok (.goto 4, 3) := by decide +kernel
theorem dX6_orNone_13 : decode cX6_orNone 13 = .ok (.iload_n 1, 1) := by decide +kernel
theorem dX6_orNone_14 : decode cX6_orNone 14 = .ok (.ireturn, 1) := by decide +kernel
theorem dX6_in_0 : decode cX6_in 0 = .ok (.lload_n 0, 1) := by decide +kernel
theorem dX6_in_1 : decode cX6_in 1 = .ok (.iload_n 2, 1) := by decide +kernel
theorem dX6_in_2 : decode cX6_in 2 = .ok (.i2l, 1) := by decide +kernel
theorem dX6_in_3 : decode cX6_in 3 = .ok (.lcmp, 1) := by decide +kernel
theorem dX6_in_4 : decode cX6_in 4 = .ok (.ifCond .lt 14, 3) := by decide +kernel
theorem dX6_in_7 : decode cX6_in 7 = .ok (.lload_n 0, 1) := by decide +kernel
theorem dX6_in_8 : decode cX6_in 8 = .ok (.iload_n 3, 1) := by decide +kernel
theorem dX6_in_9 : decode cX6_in 9 = .ok (.i2l, 1) := by decide +kernel
theorem dX6_in_10 : decode cX6_in 10 = .ok (.lcmp, 1) := by decide +kernel
theorem dX6_in_11 : decode cX6_in 11 = .ok (.ifCond .gt 7, 3) := by decide +kernel
theorem dX6_in_14 : decode cX6_in 14 = .ok (.iconst 1, 1) := by decide +kernel
theorem dX6_in_15 : decode cX6_in 15 = .ok (.goto 4, 3) := by decide +kernel
theorem dX6_in_18 : decode cX6_in 18 = .ok (.iconst 0, 1) := by decide +kernel
theorem dX6_in_19 : decode cX6_in 19 = .ok (.ireturn, 1) := by decide +kernel
theorem dX6_held_0 : decode cX6_held 0 = .ok (.iload_n 0, 1) := by decide +kernel
theorem dX6_held_1 : decode cX6_held 1 = .ok (.iload_n 1, 1) := by decide +kernel
theorem dX6_held_2 : decode cX6_held 2 = .ok (.if_icmp .ge 7, 3) := by decide +kernel
theorem dX6_held_5 : decode cX6_held 5 = .ok (.iload_n 1, 1) := by decide +kernel
theorem dX6_held_6 : decode cX6_held 6 = .ok (.goto 13, 3) := by decide +kernel
theorem dX6_held_9 : decode cX6_held 9 = .ok (.iload_n 0, 1) := by decide +kernel
theorem dX6_held_10 : decode cX6_held 10 = .ok (.iload_n 2, 1) := by decide +kernel
theorem dX6_held_11 : decode cX6_held 11 = .ok (.if_icmp .le 7, 3) := by decide +kernel
theorem dX6_held_14 : decode cX6_held 14 = .ok (.iload_n 2, 1) := by decide +kernel
theorem dX6_held_15 : decode cX6_held 15 = .ok (.goto 4, 3) := by decide +kernel
theorem dX6_held_18 : decode cX6_held 18 = .ok (.iload_n 0, 1) := by decide +kernel
theorem dX6_held_19 : decode cX6_held 19 = .ok (.ireturn, 1) := by decide +kernel
theorem dX6_copyAll_0 : decode cX6_copyAll 0 = .ok (.iconst 0, 1) := by decide +kernel
theorem dX6_copyAll_1 : decode cX6_copyAll 1 = .ok (.istore_n 2, 1) := by decide +kernel
theorem dX6_copyAll_2 : decode cX6_copyAll 2 = .ok (.iload_n 2, 1) := by decide +kernel
theorem dX6_copyAll_3 : decode cX6_copyAll 3 = .ok (.bipush 46, 2) := by decide +kernel
theorem dX6_copyAll_5 : decode cX6_copyAll 5 = .ok (.if_icmp .ge 15, 3) := by decide +kernel
theorem dX6_copyAll_8 : decode cX6_copyAll 8 = .ok (.aload_n 1, 1) := by decide +kernel
theorem dX6_copyAll_9 : decode cX6_copyAll 9 = .ok (.iload_n 2, 1) := by decide +kernel
theorem dX6_copyAll_10 : decode cX6_copyAll 10 = .ok (.aload_n 0, 1) := by decide +kernel
theorem dX6_copyAll_11 : decode cX6_copyAll 11 = .ok (.iload_n 2, 1) := by decide +kernel
theorem dX6_copyAll_12 : decode cX6_copyAll 12 = .ok (.iaload, 1) := by decide +kernel
theorem dX6_copyAll_13 : decode cX6_copyAll 13 = .ok (.iastore, 1) := by decide +kernel
theorem dX6_copyAll_14 : decode cX6_copyAll 14 = .ok (.iinc 2 1, 3) := by decide +kernel
theorem dX6_copyAll_17 : decode cX6_copyAll 17 = .ok (.goto (-15), 3) := by decide +kernel
theorem dX6_copyAll_20 : decode cX6_copyAll 20 = .ok (.return_, 1) := by decide +kernel
theorem dX6_becomes_0 : decode cX6_becomes 0 = .ok (.aload_n 0, 1) := by decide +kernel
theorem dX6_becomes_1 : decode cX6_becomes 1 = .ok (.getfield 9, 3) := by decide +kernel
theorem dX6_becomes_4 : decode cX6_becomes 4 = .ok (.iload_n 1, 1) := by decide +kernel
theorem dX6_becomes_5 : decode cX6_becomes 5 = .ok (.iaload, 1) := by decide +kernel
theorem dX6_becomes_6 : decode cX6_becomes 6 = .ok (.istore_n 3, 1) := by decide +kernel
theorem dX6_becomes_7 : decode cX6_becomes 7 = .ok (.aload_n 0, 1) := by decide +kernel
theorem dX6_becomes_8 : decode cX6_becomes 8 = .ok (.getfield 9, 3) := by decide +kernel
theorem dX6_becomes_11 : decode cX6_becomes 11 = .ok (.iload_n 1, 1) := by decide +kernel
theorem dX6_becomes_12 : decode cX6_becomes 12 = .ok (.iload_n 2, 1) := by decide +kernel
theorem dX6_becomes_13 : decode cX6_becomes 13 = .ok (.iastore, 1) := by decide +kernel
theorem dX6_becomes_14 : decode cX6_becomes 14 = .ok (.iload_n 3, 1) := by decide +kernel
theorem dX6_becomes_15 : decode cX6_becomes 15 = .ok (.ireturn, 1) := by decide +kernel
theorem dX6_isFrame_0 : decode cX6_isFrame 0 = .ok (.iload_n 1, 1) := by decide +kernel
theorem dX6_isFrame_1 : decode cX6_isFrame 1 = .ok (.i2l, 1) := by decide +kernel
theorem dX6_isFrame_2 : decode cX6_isFrame 2 = .ok (.iconst 0, 1) := by decide +kernel
theorem dX6_isFrame_3 : decode cX6_isFrame 3 = .ok (.aload_n 0, 1) := by decide +kernel
theorem dX6_isFrame_4 : decode cX6_isFrame 4 = .ok (.getfield 9, 3) := by decide +kernel
theorem dX6_isFrame_7 : decode cX6_isFrame 7 = .ok (.iconst 1, 1) := by decide +kernel
theorem dX6_isFrame_8 : decode cX6_isFrame 8 = .ok (.iaload, 1) := by decide +kernel
theorem dX6_isFrame_9 : decode cX6_isFrame 9 = .ok (.iconst 1, 1) := by decide +kernel
theorem dX6_isFrame_10 : decode cX6_isFrame 10 = .ok (.isub, 1) := by decide +kernel
theorem dX6_isFrame_11 : decode cX6_isFrame 11 = .ok (.invokestatic 41, 3) := by decide +kernel
theorem dX6_isFrame_14 : decode cX6_isFrame 14 = .ok (.ireturn, 1) := by decide +kernel
theorem dX6_isOwner_0 : decode cX6_isOwner 0 = .ok (.iload_n 0, 1) := by decide +kernel
theorem dX6_isOwner_1 : decode cX6_isOwner 1 = .ok (.i2l, 1) := by decide +kernel
theorem dX6_isOwner_2 : decode cX6_isOwner 2 = .ok (.iconst 0, 1) := by decide +kernel
theorem dX6_isOwner_3 : decode cX6_isOwner 3 = .ok (.iconst 3, 1) := by decide +kernel
theorem dX6_isOwner_4 : decode cX6_isOwner 4 = .ok (.invokestatic 41, 3) := by decide +kernel
theorem dX6_isOwner_7 : decode cX6_isOwner 7 = .ok (.ireturn, 1) := by decide +kernel
theorem dX6_about_0 : decode cX6_about 0 = .ok (.aload_n 0, 1) := by decide +kernel
theorem dX6_about_1 : decode cX6_about 1 = .ok (.getfield 9, 3) := by decide +kernel
theorem dX6_about_4 : decode cX6_about 4 = .ok (.bipush 6, 2) := by decide +kernel
theorem dX6_about_6 : decode cX6_about 6 = .ok (.iconst 3, 1) := by decide +kernel
theorem dX6_about_7 : decode cX6_about 7 = .ok (.iload_n 1, 1) := by decide +kernel
theorem dX6_about_8 : decode cX6_about 8 = .ok (.imul, 1) := by decide +kernel
theorem dX6_about_9 : decode cX6_about 9 = .ok (.iadd, 1) := by decide +kernel
theorem dX6_about_10 : decode cX6_about 10 = .ok (.iload_n 2, 1) := by decide +kernel
theorem dX6_about_11 : decode cX6_about 11 = .ok (.iadd, 1) := by decide +kernel
theorem dX6_about_12 : decode cX6_about 12 = .ok (.iaload, 1) := by decide +kernel
theorem dX6_about_13 : decode cX6_about 13 = .ok (.ireturn, 1) := by decide +kernel
theorem dX6_it_0 : decode cX6_it 0 = .ok (.aload_n 0, 1) := by decide +kernel
theorem dX6_it_1 : decode cX6_it 1 = .ok (.getfield 9, 3) := by decide +kernel
theorem dX6_it_4 : decode cX6_it 4 = .ok (.bipush 30, 2) := by decide +kernel
theorem dX6_it_6 : decode cX6_it 6 = .ok (.iconst 2, 1) := by decide +kernel
theorem dX6_it_7 : decode cX6_it 7 = .ok (.iload_n 1, 1) := by decide +kernel
theorem dX6_it_8 : decode cX6_it 8 = .ok (.imul, 1) := by decide +kernel
theorem dX6_it_9 : decode cX6_it 9 = .ok (.iadd, 1) := by decide +kernel
theorem dX6_it_10 : decode cX6_it 10 = .ok (.iload_n 2, 1) := by decide +kernel
theorem dX6_it_11 : decode cX6_it 11 = .ok (.iadd, 1) := by decide +kernel
theorem dX6_it_12 : decode cX6_it 12 = .ok (.iaload, 1) := by decide +kernel
theorem dX6_it_13 : decode cX6_it 13 = .ok (.ireturn, 1) := by decide +kernel
theorem dX6_clock_0 : decode cX6_clock 0 = .ok (.aload_n 0, 1) := by decide +kernel
theorem dX6_clock_1 : decode cX6_clock 1 = .ok (.getfield 9, 3) := by decide +kernel
theorem dX6_clock_4 : decode cX6_clock 4 = .ok (.iconst 0, 1) := by decide +kernel
theorem dX6_clock_5 : decode cX6_clock 5 = .ok (.iaload, 1) := by decide +kernel
theorem dX6_clock_6 : decode cX6_clock 6 = .ok (.bipush 24, 2) := by decide +kernel
theorem dX6_clock_8 : decode cX6_clock 8 = .ok (.irem, 1) := by decide +kernel
theorem dX6_clock_9 : decode cX6_clock 9 = .ok (.ireturn, 1) := by decide +kernel
theorem dX6_isSpring_0 : decode cX6_isSpring 0 = .ok (.aload_n 0, 1) := by decide +kernel
theorem dX6_isSpring_1 : decode cX6_isSpring 1 = .ok (.getfield 9, 3) := by decide +kernel
theorem dX6_isSpring_4 : decode cX6_isSpring 4 = .ok (.iconst 0, 1) := by decide +kernel
theorem dX6_isSpring_5 : decode cX6_isSpring 5 = .ok (.iaload, 1) := by decide +kernel
theorem dX6_isSpring_6 : decode cX6_isSpring 6 = .ok (.bipush 24, 2) := by decide +kernel
theorem dX6_isSpring_8 : decode cX6_isSpring 8 = .ok (.idiv, 1) := by decide +kernel
theorem dX6_isSpring_9 : decode cX6_isSpring 9 = .ok (.bipush 28, 2) := by decide +kernel
theorem dX6_isSpring_11 : decode cX6_isSpring 11 = .ok (.irem, 1) := by decide +kernel
theorem dX6_isSpring_12 : decode cX6_isSpring 12 = .ok (.bipush 7, 2) := by decide +kernel
theorem dX6_isSpring_14 : decode cX6_isSpring 14 = .ok (.if_icmp .ge 7, 3) := by decide +kernel
theorem dX6_isSpring_17 : decode cX6_isSpring 17 = .ok (.iconst 1, 1) := by decide +kernel
theorem dX6_isSpring_18 : decode cX6_isSpring 18 = .ok (.goto 4, 3) := by decide +kernel
theorem dX6_isSpring_21 : decode cX6_isSpring 21 = .ok (.iconst 0, 1) := by decide +kernel
theorem dX6_isSpring_22 : decode cX6_isSpring 22 = .ok (.ireturn, 1) := by decide +kernel
theorem dX6_worth_0 : decode cX6_worth 0 = .ok (.aload_n 0, 1) := by decide +kernel
theorem dX6_worth_1 : decode cX6_worth 1 = .ok (.invokevirtual 45, 3) := by decide +kernel
theorem dX6_worth_4 : decode cX6_worth 4 = .ok (.istore_n 2, 1) := by decide +kernel
theorem dX6_worth_5 : decode cX6_worth 5 = .ok (.aload_n 0, 1) := by decide +kernel
theorem dX6_worth_6 : decode cX6_worth 6 = .ok (.iload_n 1, 1) := by decide +kernel
theorem dX6_worth_7 : decode cX6_worth 7 = .ok (.iconst 1, 1) := by decide +kernel
theorem dX6_worth_8 : decode cX6_worth 8 = .ok (.invokevirtual 49, 3) := by decide +kernel
theorem dX6_worth_11 : decode cX6_worth 11 = .ok (.istore_n 3, 1) := by decide +kernel
theorem dX6_worth_12 : decode cX6_worth 12 = .ok (.iconst 2, 1) := by decide +kernel
theorem dX6_worth_13 : decode cX6_worth 13 = .ok (.iload_n 3, 1) := by decide +kernel
theorem dX6_worth_14 : decode cX6_worth 14 = .ok (.bipush 10, 2) := by decide +kernel
theorem dX6_worth_16 : decode cX6_worth 16 = .ok (.idiv, 1) := by decide +kernel
theorem dX6_worth_17 : decode cX6_worth 17 = .ok (.iadd, 1) := by decide +kernel
theorem dX6_worth_18 : decode cX6_worth 18 = .ok (.istore 4, 2) := by decide +kernel
theorem dX6_worth_20 : decode cX6_worth 20 = .ok (.iload_n 2, 1) := by decide +kernel
theorem dX6_worth_21 : decode cX6_worth 21 = .ok (.i2l, 1) := by decide +kernel
theorem dX6_worth_22 : decode cX6_worth 22 = .ok (.bipush 6, 2) := by decide +kernel
theorem dX6_worth_24 : decode cX6_worth 24 = .ok (.bipush 17, 2) := by decide +kernel
theorem dX6_worth_26 : decode cX6_worth 26 = .ok (.invokestatic 41, 3) := by decide +kernel
theorem dX6_worth_29 : decode cX6_worth 29 = .ok (.ifCond .eq 10, 3) := by decide +kernel
theorem dX6_worth_32 : decode cX6_worth 32 = .ok (.iload 4, 2) := by decide +kernel
theorem dX6_worth_34 : decode cX6_worth 34 = .ok (.iconst 5, 1) := by decide +kernel
theorem dX6_worth_35 : decode cX6_worth 35 = .ok (.iadd, 1) := by decide +kernel
theorem dX6_worth_36 : decode cX6_worth 36 = .ok (.goto 5, 3) := by decide +kernel
theorem dX6_worth_39 : decode cX6_worth 39 = .ok (.iload 4, 2) := by decide +kernel
theorem dX6_worth_41 : decode cX6_worth 41 = .ok (.istore 5, 2) := by decide +kernel
theorem dX6_worth_43 : decode cX6_worth 43 = .ok (.iload_n 2, 1) := by decide +kernel
theorem dX6_worth_44 : decode cX6_worth 44 = .ok (.iconst 2, 1) := by decide +kernel
theorem dX6_worth_45 : decode cX6_worth 45 = .ok (.irem, 1) := by decide +kernel
theorem dX6_worth_46 : decode cX6_worth 46 = .ok (.ifCond .ne 10, 3) := by decide +kernel
theorem dX6_worth_49 : decode cX6_worth 49 = .ok (.iload 4, 2) := by decide +kernel
theorem dX6_worth_51 : decode cX6_worth 51 = .ok (.iconst 3, 1) := by decide +kernel
theorem dX6_worth_52 : decode cX6_worth 52 = .ok (.iadd, 1) := by decide +kernel
theorem dX6_worth_53 : decode cX6_worth 53 = .ok (.goto 5, 3) := by decide +kernel
theorem dX6_worth_56 : decode cX6_worth 56 = .ok (.iload 4, 2) := by decide +kernel
theorem dX6_worth_58 : decode cX6_worth 58 = .ok (.istore 6, 2) := by decide +kernel
theorem dX6_worth_60 : decode cX6_worth 60 = .ok (.aload_n 0, 1) := by decide +kernel
theorem dX6_worth_61 : decode cX6_worth 61 = .ok (.iload_n 1, 1) := by decide +kernel
theorem dX6_worth_62 : decode cX6_worth 62 = .ok (.iconst 0, 1) := by decide +kernel
theorem dX6_worth_63 : decode cX6_worth 63 = .ok (.invokevirtual 49, 3) := by decide +kernel
theorem dX6_worth_66 : decode cX6_worth 66 = .ok (.tableswitch 77 1 5 #[34, 37, 40, 44, 60], 34) := by decide +kernel
theorem dX6_worth_100 : decode cX6_worth 100 = .ok (.iload 5, 2) := by decide +kernel
theorem dX6_worth_102 : decode cX6_worth 102 = .ok (.ireturn, 1) := by decide +kernel
theorem dX6_worth_103 : decode cX6_worth 103 = .ok (.iload 6, 2) := by decide +kernel
theorem dX6_worth_105 : decode cX6_worth 105 = .ok (.ireturn, 1) := by decide +kernel
theorem dX6_worth_106 : decode cX6_worth 106 = .ok (.iload_n 3, 1) := by decide +kernel
theorem dX6_worth_107 : decode cX6_worth 107 = .ok (.iconst 4, 1) := by decide +kernel
theorem dX6_worth_108 : decode cX6_worth 108 = .ok (.idiv, 1) := by decide +kernel
theorem dX6_worth_109 : decode cX6_worth 109 = .ok (.ireturn, 1) := by decide +kernel
theorem dX6_worth_110 : decode cX6_worth 110 = .ok (.iload_n 2, 1) := by decide +kernel
theorem dX6_worth_111 : decode cX6_worth 111 = .ok (.bipush 12, 2) := by decide +kernel
theorem dX6_worth_113 : decode cX6_worth 113 = .ok (.if_icmp .ne 10, 3) := by decide +kernel
theorem dX6_worth_116 : decode cX6_worth 116 = .ok (.iconst 2, 1) := by decide +kernel
theorem dX6_worth_117 : decode cX6_worth 117 = .ok (.iload 5, 2) := by decide +kernel
theorem dX6_worth_119 : decode cX6_worth 119 = .ok (.imul, 1) := by decide +kernel
theorem dX6_worth_120 : decode cX6_worth 120 = .ok (.goto 5, 3) := by decide +kernel
theorem dX6_worth_123 : decode cX6_worth 123 = .ok (.iload 5, 2) := by decide +kernel
theorem dX6_worth_125 : decode cX6_worth 125 = .ok (.ireturn, 1) := by decide +kernel
theorem dX6_worth_126 : decode cX6_worth 126 = .ok (.aload_n 0, 1) := by decide +kernel
theorem dX6_worth_127 : decode cX6_worth 127 = .ok (.invokevirtual 53, 3) := by decide +kernel
theorem dX6_worth_130 : decode cX6_worth 130 = .ok (.ifCond .eq 10, 3) := by decide +kernel
theorem dX6_worth_133 : decode cX6_worth 133 = .ok (.iload 6, 2) := by decide +kernel
theorem dX6_worth_135 : decode cX6_worth 135 = .ok (.iload_n 3, 1) := by decide +kernel
theorem dX6_worth_136 : decode cX6_worth 136 = .ok (.iadd, 1) := by decide +kernel
theorem dX6_worth_137 : decode cX6_worth 137 = .ok (.goto 5, 3) := by decide +kernel
theorem dX6_worth_140 : decode cX6_worth 140 = .ok (.iload 6, 2) := by decide +kernel
theorem dX6_worth_142 : decode cX6_worth 142 = .ok (.ireturn, 1) := by decide +kernel
theorem dX6_worth_143 : decode cX6_worth 143 = .ok (.iload 4, 2) := by decide +kernel
theorem dX6_worth_145 : decode cX6_worth 145 = .ok (.ireturn, 1) := by decide +kernel
theorem dX6_wears_0 : decode cX6_wears 0 = .ok (.aload_n 0, 1) := by decide +kernel
theorem dX6_wears_1 : decode cX6_wears 1 = .ok (.iload_n 1, 1) := by decide +kernel
theorem dX6_wears_2 : decode cX6_wears 2 = .ok (.iconst 0, 1) := by decide +kernel
theorem dX6_wears_3 : decode cX6_wears 3 = .ok (.invokevirtual 49, 3) := by decide +kernel
theorem dX6_wears_6 : decode cX6_wears 6 = .ok (.lookupswitch 41 #[(2, 26), (5, 28)], 26) := by decide +kernel
theorem dX6_wears_32 : decode cX6_wears 32 = .ok (.iconst 1, 1) := by decide +kernel
theorem dX6_wears_33 : decode cX6_wears 33 = .ok (.ireturn, 1) := by decide +kernel
theorem dX6_wears_34 : decode cX6_wears 34 = .ok (.aload_n 0, 1) := by decide +kernel
theorem dX6_wears_35 : decode cX6_wears 35 = .ok (.invokevirtual 53, 3) := by decide +kernel
theorem dX6_wears_38 : decode cX6_wears 38 = .ok (.ifCond .eq 7, 3) := by decide +kernel
theorem dX6_wears_41 : decode cX6_wears 41 = .ok (.iconst 0, 1) := by decide +kernel
theorem dX6_wears_42 : decode cX6_wears 42 = .ok (.goto 4, 3) := by decide +kernel
theorem dX6_wears_45 : decode cX6_wears 45 = .ok (.iconst 1, 1) := by decide +kernel
theorem dX6_wears_46 : decode cX6_wears 46 = .ok (.ireturn, 1) := by decide +kernel
theorem dX6_wears_47 : decode cX6_wears 47 = .ok (.iconst 0, 1) := by decide +kernel
theorem dX6_wears_48 : decode cX6_wears 48 = .ok (.ireturn, 1) := by decide +kernel
theorem dX6_dear_0 : decode cX6_dear 0 = .ok (.iconst 5, 1) := by decide +kernel
theorem dX6_dear_1 : decode cX6_dear 1 = .ok (.aload_n 0, 1) := by decide +kernel
theorem dX6_dear_2 : decode cX6_dear 2 = .ok (.iload_n 1, 1) := by decide +kernel
theorem dX6_dear_3 : decode cX6_dear 3 = .ok (.iconst 1, 1) := by decide +kernel
theorem dX6_dear_4 : decode cX6_dear 4 = .ok (.invokevirtual 49, 3) := by decide +kernel
theorem dX6_dear_7 : decode cX6_dear 7 = .ok (.imul, 1) := by decide +kernel
theorem dX6_dear_8 : decode cX6_dear 8 = .ok (.istore_n 2, 1) := by decide +kernel
theorem dX6_dear_9 : decode cX6_dear 9 = .ok (.aload_n 0, 1) := by decide +kernel
theorem dX6_dear_10 : decode cX6_dear 10 = .ok (.iload_n 1, 1) := by decide +kernel
theorem dX6_dear_11 : decode cX6_dear 11 = .ok (.iconst 0, 1) := by decide +kernel
theorem dX6_dear_12 : decode cX6_dear 12 = .ok (.invokevirtual 49, 3) := by decide +kernel
theorem dX6_dear_15 : decode cX6_dear 15 = .ok (.tableswitch 58 1 5 #[33, 58, 38, 33, 42], 33) := by decide +kernel
theorem dX6_dear_48 : decode cX6_dear 48 = .ok (.iload_n 2, 1) := by decide +kernel
theorem dX6_dear_49 : decode cX6_dear 49 = .ok (.bipush 50, 2) := by decide +kernel
theorem dX6_dear_51 : decode cX6_dear 51 = .ok (.iadd, 1) := by decide +kernel
theorem dX6_dear_52 : decode cX6_dear 52 = .ok (.ireturn, 1) := by decide +kernel
theorem dX6_dear_53 : decode cX6_dear 53 = .ok (.iconst 2, 1) := by decide +kernel
theorem dX6_dear_54 : decode cX6_dear 54 = .ok (.iload_n 2, 1) := by decide +kernel
theorem dX6_dear_55 : decode cX6_dear 55 = .ok (.imul, 1) := by decide +kernel
theorem dX6_dear_56 : decode cX6_dear 56 = .ok (.ireturn, 1) := by decide +kernel
theorem dX6_dear_57 : decode cX6_dear 57 = .ok (.aload_n 0, 1) := by decide +kernel
theorem dX6_dear_58 : decode cX6_dear 58 = .ok (.invokevirtual 53, 3) := by decide +kernel
theorem dX6_dear_61 : decode cX6_dear 61 = .ok (.ifCond .eq 10, 3) := by decide +kernel
theorem dX6_dear_64 : decode cX6_dear 64 = .ok (.iload_n 2, 1) := by decide +kernel
theorem dX6_dear_65 : decode cX6_dear 65 = .ok (.bipush 100, 2) := by decide +kernel
theorem dX6_dear_67 : decode cX6_dear 67 = .ok (.iadd, 1) := by decide +kernel
theorem dX6_dear_68 : decode cX6_dear 68 = .ok (.goto 4, 3) := by decide +kernel
theorem dX6_dear_71 : decode cX6_dear 71 = .ok (.iload_n 2, 1) := by decide +kernel
theorem dX6_dear_72 : decode cX6_dear 72 = .ok (.ireturn, 1) := by decide +kernel
theorem dX6_dear_73 : decode cX6_dear 73 = .ok (.iload_n 2, 1) := by decide +kernel
theorem dX6_dear_74 : decode cX6_dear 74 = .ok (.ireturn, 1) := by decide +kernel
theorem dX6_worthOut_0 : decode cX6_worthOut 0 = .ok (.aload_n 0, 1) := by decide +kernel
theorem dX6_worthOut_1 : decode cX6_worthOut 1 = .ok (.iload_n 1, 1) := by decide +kernel
theorem dX6_worthOut_2 : decode cX6_worthOut 2 = .ok (.iconst 1, 1) := by decide +kernel
theorem dX6_worthOut_3 : decode cX6_worthOut 3 = .ok (.invokevirtual 57, 3) := by decide +kernel
theorem dX6_worthOut_6 : decode cX6_worthOut 6 = .ok (.iconst 1, 1) := by decide +kernel
theorem dX6_worthOut_7 : decode cX6_worthOut 7 = .ok (.if_icmp .ne 7, 3) := by decide +kernel
theorem dX6_worthOut_10 : decode cX6_worthOut 10 = .ok (.iconst 0, 1) := by decide +kernel
theorem dX6_worthOut_11 : decode cX6_worthOut 11 = .ok (.goto 13, 3) := by decide +kernel
theorem dX6_worthOut_14 : decode cX6_worthOut 14 = .ok (.aload_n 0, 1) := by decide +kernel
theorem dX6_worthOut_15 : decode cX6_worthOut 15 = .ok (.aload_n 0, 1) := by decide +kernel
theorem dX6_worthOut_16 : decode cX6_worthOut 16 = .ok (.iload_n 1, 1) := by decide +kernel
theorem dX6_worthOut_17 : decode cX6_worthOut 17 = .ok (.iconst 2, 1) := by decide +kernel
theorem dX6_worthOut_18 : decode cX6_worthOut 18 = .ok (.invokevirtual 57, 3) := by decide +kernel
theorem dX6_worthOut_21 : decode cX6_worthOut 21 = .ok (.invokevirtual 60, 3) := by decide +kernel
theorem dX6_worthOut_24 : decode cX6_worthOut 24 = .ok (.ireturn, 1) := by decide +kernel
theorem dX6_money_0 : decode cX6_money 0 = .ok (.iload_n 1, 1) := by decide +kernel
theorem dX6_money_1 : decode cX6_money 1 = .ok (.invokestatic 63, 3) := by decide +kernel
theorem dX6_money_4 : decode cX6_money 4 = .ok (.ifCond .eq 25, 3) := by decide +kernel
theorem dX6_money_7 : decode cX6_money 7 = .ok (.iload_n 2, 1) := by decide +kernel
theorem dX6_money_8 : decode cX6_money 8 = .ok (.i2l, 1) := by decide +kernel
theorem dX6_money_9 : decode cX6_money 9 = .ok (.iconst 0, 1) := by decide +kernel
theorem dX6_money_10 : decode cX6_money 10 = .ok (.ldc 67, 2) := by decide +kernel
theorem dX6_money_12 : decode cX6_money 12 = .ok (.invokestatic 41, 3) := by decide +kernel
theorem dX6_money_15 : decode cX6_money 15 = .ok (.ifCond .eq 14, 3) := by decide +kernel
theorem dX6_money_18 : decode cX6_money 18 = .ok (.aload_n 0, 1) := by decide +kernel
theorem dX6_money_19 : decode cX6_money 19 = .ok (.iconst 2, 1) := by decide +kernel
theorem dX6_money_20 : decode cX6_money 20 = .ok (.iload_n 1, 1) := by decide +kernel
theorem dX6_money_21 : decode cX6_money 21 = .ok (.iadd, 1) := by decide +kernel
theorem dX6_money_22 : decode cX6_money 22 = .ok (.iload_n 2, 1) := by decide +kernel
theorem dX6_money_23 : decode cX6_money 23 = .ok (.invokevirtual 68, 3) := by decide +kernel
theorem dX6_money_26 : decode cX6_money 26 = .ok (.goto 9, 3) := by decide +kernel
theorem dX6_money_29 : decode cX6_money 29 = .ok (.aload_n 0, 1) := by decide +kernel
theorem dX6_money_30 : decode cX6_money 30 = .ok (.ldc 35, 2) := by decide +kernel
theorem dX6_money_32 : decode cX6_money 32 = .ok (.invokevirtual 37, 3) := by decide +kernel
theorem dX6_money_35 : decode cX6_money 35 = .ok (.ireturn, 1) := by decide +kernel
theorem dX6_ownerOf_0 : decode cX6_ownerOf 0 = .ok (.iload_n 1, 1) := by decide +kernel
theorem dX6_ownerOf_1 : decode cX6_ownerOf 1 = .ok (.invokestatic 63, 3) := by decide +kernel
theorem dX6_ownerOf_4 : decode cX6_ownerOf 4 = .ok (.ifCond .eq 13, 3) := by decide +kernel
theorem dX6_ownerOf_7 : decode cX6_ownerOf 7 = .ok (.iload_n 2, 1) := by decide +kernel
theorem dX6_ownerOf_8 : decode cX6_ownerOf 8 = .ok (.i2l, 1) := by decide +kernel
theorem dX6_ownerOf_9 : decode cX6_ownerOf 9 = .ok (.iconst 0, 1) := by decide +kernel
theorem dX6_ownerOf_10 : decode cX6_ownerOf 10 = .ok (.iconst 3, 1) := by decide +kernel
theorem dX6_ownerOf_11 : decode cX6_ownerOf 11 = .ok (.invokestatic 41, 3) := by decide +kernel
theorem dX6_ownerOf_14 : decode cX6_ownerOf 14 = .ok (.ifCond .ne 10, 3) := by decide +kernel
theorem dX6_ownerOf_17 : decode cX6_ownerOf 17 = .ok (.aload_n 0, 1) := by decide +kernel
theorem dX6_ownerOf_18 : decode cX6_ownerOf 18 = .ok (.ldc 35, 2) := by decide +kernel
theorem dX6_ownerOf_20 : decode cX6_ownerOf 20 = .ok (.invokevirtual 37, 3) := by decide +kernel
theorem dX6_ownerOf_23 : decode cX6_ownerOf 23 = .ok (.ireturn, 1) := by decide +kernel
theorem dX6_ownerOf_24 : decode cX6_ownerOf 24 = .ok (.iconst 0, 1) := by decide +kernel
theorem dX6_ownerOf_25 : decode cX6_ownerOf 25 = .ok (.istore_n 3, 1) := by decide +kernel
theorem dX6_ownerOf_26 : decode cX6_ownerOf 26 = .ok (.iconst 0, 1) := by decide +kernel
theorem dX6_ownerOf_27 : decode cX6_ownerOf 27 = .ok (.istore 4, 2) := by decide +kernel
theorem dX6_ownerOf_29 : decode cX6_ownerOf 29 = .ok (.iconst 0, 1) := by decide +kernel
theorem dX6_ownerOf_30 : decode cX6_ownerOf 30 = .ok (.istore 5, 2) := by decide +kernel
theorem dX6_ownerOf_32 : decode cX6_ownerOf 32 = .ok (.iconst 0, 1) := by decide +kernel
theorem dX6_ownerOf_33 : decode cX6_ownerOf 33 = .ok (.istore 6, 2) := by decide +kernel
theorem dX6_ownerOf_35 : decode cX6_ownerOf 35 = .ok (.iload 6, 2) := by decide +kernel
theorem dX6_ownerOf_37 : decode cX6_ownerOf 37 = .ok (.aload_n 0, 1) := by decide +kernel
theorem dX6_ownerOf_38 : decode cX6_ownerOf 38 = .ok (.getfield 9, 3) := by decide +kernel
theorem dX6_ownerOf_41 : decode cX6_ownerOf 41 = .ok (.iconst 1, 1) := by decide +kernel
theorem dX6_ownerOf_42 : decode cX6_ownerOf 42 = .ok (.iaload, 1) := by decide +kernel
theorem dX6_ownerOf_43 : decode cX6_ownerOf 43 = .ok (.if_icmp .ge 86, 3) := by decide +kernel
theorem dX6_ownerOf_46 : decode cX6_ownerOf 46 = .ok (.aload_n 0, 1) := by decide +kernel
theorem dX6_ownerOf_47 : decode cX6_ownerOf 47 = .ok (.iload 6, 2) := by decide +kernel
theorem dX6_ownerOf_49 : decode cX6_ownerOf 49 = .ok (.iconst 0, 1) := by decide +kernel
theorem dX6_ownerOf_50 : decode cX6_ownerOf 50 = .ok (.invokevirtual 57, 3) := by decide +kernel
theorem dX6_ownerOf_53 : decode cX6_ownerOf 53 = .ok (.iload_n 1, 1) := by decide +kernel
theorem dX6_ownerOf_54 : decode cX6_ownerOf 54 = .ok (.if_icmp .ne 7, 3) := by decide +kernel
theorem dX6_ownerOf_57 : decode cX6_ownerOf 57 = .ok (.iconst 1, 1) := by decide +kernel
theorem dX6_ownerOf_58 : decode cX6_ownerOf 58 = .ok (.goto 4, 3) := by decide +kernel
theorem dX6_ownerOf_61 : decode cX6_ownerOf 61 = .ok (.iconst 0, 1) := by decide +kernel
theorem dX6_ownerOf_62 : decode cX6_ownerOf 62 = .ok (.istore 7, 2) := by decide +kernel
theorem dX6_ownerOf_64 : decode cX6_ownerOf 64 = .ok (.iload_n 3, 1) := by decide +kernel
theorem dX6_ownerOf_65 : decode cX6_ownerOf 65 = .ok (.iload 7, 2) := by decide +kernel
theorem dX6_ownerOf_67 : decode cX6_ownerOf 67 = .ok (.ifCond .eq 10, 3) := by decide +kernel
theorem dX6_ownerOf_70 : decode cX6_ownerOf 70 = .ok (.iconst 1, 1) := by decide +kernel
theorem dX6_ownerOf_71 : decode cX6_ownerOf 71 = .ok (.iload 6, 2) := by decide +kernel
theorem dX6_ownerOf_73 : decode cX6_ownerOf 73 = .ok (.ishl, 1) := by decide +kernel
theorem dX6_ownerOf_74 : decode cX6_ownerOf 74 = .ok (.goto 4, 3) := by decide +kernel
theorem dX6_ownerOf_77 : decode cX6_ownerOf 77 = .ok (.iconst 0, 1) := by decide +kernel
theorem dX6_ownerOf_78 : decode cX6_ownerOf 78 = .ok (.ior, 1) := by decide +kernel
theorem dX6_ownerOf_79 : decode cX6_ownerOf 79 = .ok (.istore_n 3, 1) := by decide +kernel
theorem dX6_ownerOf_80 : decode cX6_ownerOf 80 = .ok (.iload 4, 2) := by decide +kernel
theorem dX6_ownerOf_82 : decode cX6_ownerOf 82 = .ok (.iload 7, 2) := by decide +kernel
theorem dX6_ownerOf_84 : decode cX6_ownerOf 84 = .ok (.ifCond .eq 15, 3) := by decide +kernel
theorem dX6_ownerOf_87 : decode cX6_ownerOf 87 = .ok (.iconst 1, 1) := by decide +kernel
theorem dX6_ownerOf_88 : decode cX6_ownerOf 88 = .ok (.aload_n 0, 1) := by decide +kernel
theorem dX6_ownerOf_89 : decode cX6_ownerOf 89 = .ok (.iload 6, 2) := by decide +kernel
theorem dX6_ownerOf_91 : decode cX6_ownerOf 91 = .ok (.iconst 2, 1) := by decide +kernel
theorem dX6_ownerOf_92 : decode cX6_ownerOf 92 = .ok (.invokevirtual 57, 3) := by decide +kernel
theorem dX6_ownerOf_95 : decode cX6_ownerOf 95 = .ok (.ishl, 1) := by decide +kernel
theorem dX6_ownerOf_96 : decode cX6_ownerOf 96 = .ok (.goto 4, 3) := by decide +kernel
theorem dX6_ownerOf_99 : decode cX6_ownerOf 99 = .ok (.iconst 0, 1) := by decide +kernel
theorem dX6_ownerOf_100 : decode cX6_ownerOf 100 = .ok (.ior, 1) := by decide +kernel
theorem dX6_ownerOf_101 : decode cX6_ownerOf 101 = .ok (.istore 4, 2) := by decide +kernel
theorem dX6_ownerOf_103 : decode cX6_ownerOf 103 = .ok (.iload 5, 2) := by decide +kernel
theorem dX6_ownerOf_105 : decode cX6_ownerOf 105 = .ok (.iload 7, 2) := by decide +kernel
theorem dX6_ownerOf_107 : decode cX6_ownerOf 107 = .ok (.ifCond .eq 12, 3) := by decide +kernel
theorem dX6_ownerOf_110 : decode cX6_ownerOf 110 = .ok (.aload_n 0, 1) := by decide +kernel
theorem dX6_ownerOf_111 : decode cX6_ownerOf 111 = .ok (.iload 6, 2) := by decide +kernel
theorem dX6_ownerOf_113 : decode cX6_ownerOf 113 = .ok (.invokevirtual 71, 3) := by decide +kernel
theorem dX6_ownerOf_116 : decode cX6_ownerOf 116 = .ok (.goto 4, 3) := by decide +kernel
theorem dX6_ownerOf_119 : decode cX6_ownerOf 119 = .ok (.iconst 0, 1) := by decide +kernel
theorem dX6_ownerOf_120 : decode cX6_ownerOf 120 = .ok (.iadd, 1) := by decide +kernel
theorem dX6_ownerOf_121 : decode cX6_ownerOf 121 = .ok (.istore 5, 2) := by decide +kernel
theorem dX6_ownerOf_123 : decode cX6_ownerOf 123 = .ok (.iinc 6 1, 3) := by decide +kernel
theorem dX6_ownerOf_126 : decode cX6_ownerOf 126 = .ok (.goto (-91), 3) := by decide +kernel
theorem dX6_ownerOf_129 : decode cX6_ownerOf 129 = .ok (.iload_n 2, 1) := by decide +kernel
theorem dX6_ownerOf_130 : decode cX6_ownerOf 130 = .ok (.ifCond .ne 14, 3) := by decide +kernel
theorem dX6_ownerOf_133 : decode cX6_ownerOf 133 = .ok (.aload_n 0, 1) := by decide +kernel
theorem dX6_ownerOf_134 : decode cX6_ownerOf 134 = .ok (.getfield 9, 3) := by decide +kernel
theorem dX6_ownerOf_137 : decode cX6_ownerOf 137 = .ok (.iconst 2, 1) := by decide +kernel
theorem dX6_ownerOf_138 : decode cX6_ownerOf 138 = .ok (.iload_n 1, 1) := by decide +kernel
theorem dX6_ownerOf_139 : decode cX6_ownerOf 139 = .ok (.iadd, 1) := by decide +kernel
theorem dX6_ownerOf_140 : decode cX6_ownerOf 140 = .ok (.iaload, 1) := by decide +kernel
theorem dX6_ownerOf_141 : decode cX6_ownerOf 141 = .ok (.goto 24, 3) := by decide +kernel
theorem dX6_ownerOf_144 : decode cX6_ownerOf 144 = .ok (.iload_n 2, 1) := by decide +kernel
theorem dX6_ownerOf_145 : decode cX6_ownerOf 145 = .ok (.iconst 1, 1) := by decide +kernel
theorem dX6_ownerOf_146 : decode cX6_ownerOf 146 = .ok (.if_icmp .ne 7, 3) := by decide +kernel
theorem dX6_ownerOf_149 : decode cX6_ownerOf 149 = .ok (.iload_n 3, 1) := by decide +kernel
theorem dX6_ownerOf_150 : decode cX6_ownerOf 150 = .ok (.goto 15, 3) := by decide +kernel
theorem dX6_ownerOf_153 : decode cX6_ownerOf 153 = .ok (.iload_n 2, 1) := by decide +kernel
theorem dX6_ownerOf_154 : decode cX6_ownerOf 154 = .ok (.iconst 2, 1) := by decide +kernel
theorem dX6_ownerOf_155 : decode cX6_ownerOf 155 = .ok (.if_icmp .ne 8, 3) := by decide +kernel
theorem dX6_ownerOf_158 : decode cX6_ownerOf 158 = .ok (.iload 4, 2) := by decide +kernel
theorem dX6_ownerOf_160 : decode cX6_ownerOf 160 = .ok (.goto 5, 3) := by decide +kernel
theorem dX6_ownerOf_163 : decode cX6_ownerOf 163 = .ok (.iload 5, 2) := by decide +kernel
theorem dX6_ownerOf_165 : decode cX6_ownerOf 165 = .ok (.ireturn, 1) := by decide +kernel
theorem dX6_comesAs_0 : decode cX6_comesAs 0 = .ok (.aload_n 0, 1) := by decide +kernel
theorem dX6_comesAs_1 : decode cX6_comesAs 1 = .ok (.getfield 9, 3) := by decide +kernel
theorem dX6_comesAs_4 : decode cX6_comesAs 4 = .ok (.iconst 1, 1) := by decide +kernel
theorem dX6_comesAs_5 : decode cX6_comesAs 5 = .ok (.iaload, 1) := by decide +kernel
theorem dX6_comesAs_6 : decode cX6_comesAs 6 = .ok (.istore 5, 2) := by decide +kernel
theorem dX6_comesAs_8 : decode cX6_comesAs 8 = .ok (.aload_n 0, 1) := by decide +kernel
theorem dX6_comesAs_9 : decode cX6_comesAs 9 = .ok (.getfield 9, 3) := by decide +kernel
theorem dX6_comesAs_12 : decode cX6_comesAs 12 = .ok (.iconst 1, 1) := by decide +kernel
theorem dX6_comesAs_13 : decode cX6_comesAs 13 = .ok (.dup2, 1) := by decide +kernel
theorem dX6_comesAs_14 : decode cX6_comesAs 14 = .ok (.iaload, 1) := by decide +kernel
theorem dX6_comesAs_15 : decode cX6_comesAs 15 = .ok (.iconst 1, 1) := by decide +kernel
theorem dX6_comesAs_16 : decode cX6_comesAs 16 = .ok (.iadd, 1) := by decide +kernel
theorem dX6_comesAs_17 : decode cX6_comesAs 17 = .ok (.iastore, 1) := by decide +kernel
theorem dX6_comesAs_18 : decode cX6_comesAs 18 = .ok (.aload_n 0, 1) := by decide +kernel
theorem dX6_comesAs_19 : decode cX6_comesAs 19 = .ok (.getfield 9, 3) := by decide +kernel
theorem dX6_comesAs_22 : decode cX6_comesAs 22 = .ok (.bipush 6, 2) := by decide +kernel
theorem dX6_comesAs_24 : decode cX6_comesAs 24 = .ok (.iconst 3, 1) := by decide +kernel
theorem dX6_comesAs_25 : decode cX6_comesAs 25 = .ok (.iload 5, 2) := by decide +kernel
theorem dX6_comesAs_27 : decode cX6_comesAs 27 = .ok (.imul, 1) := by decide +kernel
theorem dX6_comesAs_28 : decode cX6_comesAs 28 = .ok (.iadd, 1) := by decide +kernel
theorem dX6_comesAs_29 : decode cX6_comesAs 29 = .ok (.iload_n 2, 1) := by decide +kernel
theorem dX6_comesAs_30 : decode cX6_comesAs 30 = .ok (.iastore, 1) := by decide +kernel
theorem dX6_comesAs_31 : decode cX6_comesAs 31 = .ok (.aload_n 0, 1) := by decide +kernel
theorem dX6_comesAs_32 : decode cX6_comesAs 32 = .ok (.getfield 9, 3) := by decide +kernel
theorem dX6_comesAs_35 : decode cX6_comesAs 35 = .ok (.bipush 6, 2) := by decide +kernel
theorem dX6_comesAs_37 : decode cX6_comesAs 37 = .ok (.iconst 3, 1) := by decide +kernel
theorem dX6_comesAs_38 : decode cX6_comesAs 38 = .ok (.iload 5, 2) := by decide +kernel
theorem dX6_comesAs_40 : decode cX6_comesAs 40 = .ok (.imul, 1) := by decide +kernel
theorem dX6_comesAs_41 : decode cX6_comesAs 41 = .ok (.iadd, 1) := by decide +kernel
theorem dX6_comesAs_42 : decode cX6_comesAs 42 = .ok (.iconst 1, 1) := by decide +kernel
theorem dX6_comesAs_43 : decode cX6_comesAs 43 = .ok (.iadd, 1) := by decide +kernel
theorem dX6_comesAs_44 : decode cX6_comesAs 44 = .ok (.iload 4, 2) := by decide +kernel
theorem dX6_comesAs_46 : decode cX6_comesAs 46 = .ok (.iastore, 1) := by decide +kernel
theorem dX6_comesAs_47 : decode cX6_comesAs 47 = .ok (.aload_n 0, 1) := by decide +kernel
theorem dX6_comesAs_48 : decode cX6_comesAs 48 = .ok (.getfield 9, 3) := by decide +kernel
theorem dX6_comesAs_51 : decode cX6_comesAs 51 = .ok (.bipush 6, 2) := by decide +kernel
theorem dX6_comesAs_53 : decode cX6_comesAs 53 = .ok (.iconst 3, 1) := by decide +kernel
theorem dX6_comesAs_54 : decode cX6_comesAs 54 = .ok (.iload 5, 2) := by decide +kernel
theorem dX6_comesAs_56 : decode cX6_comesAs 56 = .ok (.imul, 1) := by decide +kernel
theorem dX6_comesAs_57 : decode cX6_comesAs 57 = .ok (.iadd, 1) := by decide +kernel
theorem dX6_comesAs_58 : decode cX6_comesAs 58 = .ok (.iconst 2, 1) := by decide +kernel
theorem dX6_comesAs_59 : decode cX6_comesAs 59 = .ok (.iadd, 1) := by decide +kernel
theorem dX6_comesAs_60 : decode cX6_comesAs 60 = .ok (.iload 5, 2) := by decide +kernel
theorem dX6_comesAs_62 : decode cX6_comesAs 62 = .ok (.iastore, 1) := by decide +kernel
theorem dX6_comesAs_63 : decode cX6_comesAs 63 = .ok (.aload_n 0, 1) := by decide +kernel
theorem dX6_comesAs_64 : decode cX6_comesAs 64 = .ok (.getfield 9, 3) := by decide +kernel
theorem dX6_comesAs_67 : decode cX6_comesAs 67 = .ok (.bipush 30, 2) := by decide +kernel
theorem dX6_comesAs_69 : decode cX6_comesAs 69 = .ok (.iconst 2, 1) := by decide +kernel
theorem dX6_comesAs_70 : decode cX6_comesAs 70 = .ok (.iload 5, 2) := by decide +kernel
theorem dX6_comesAs_72 : decode cX6_comesAs 72 = .ok (.imul, 1) := by decide +kernel
theorem dX6_comesAs_73 : decode cX6_comesAs 73 = .ok (.iadd, 1) := by decide +kernel
theorem dX6_comesAs_74 : decode cX6_comesAs 74 = .ok (.iload_n 1, 1) := by decide +kernel
theorem dX6_comesAs_75 : decode cX6_comesAs 75 = .ok (.iastore, 1) := by decide +kernel
theorem dX6_comesAs_76 : decode cX6_comesAs 76 = .ok (.aload_n 0, 1) := by decide +kernel
theorem dX6_comesAs_77 : decode cX6_comesAs 77 = .ok (.getfield 9, 3) := by decide +kernel
theorem dX6_comesAs_80 : decode cX6_comesAs 80 = .ok (.bipush 30, 2) := by decide +kernel
theorem dX6_comesAs_82 : decode cX6_comesAs 82 = .ok (.iconst 2, 1) := by decide +kernel
theorem dX6_comesAs_83 : decode cX6_comesAs 83 = .ok (.iload 5, 2) := by decide +kernel
theorem dX6_comesAs_85 : decode cX6_comesAs 85 = .ok (.imul, 1) := by decide +kernel
theorem dX6_comesAs_86 : decode cX6_comesAs 86 = .ok (.iadd, 1) := by decide +kernel
theorem dX6_comesAs_87 : decode cX6_comesAs 87 = .ok (.iconst 1, 1) := by decide +kernel
theorem dX6_comesAs_88 : decode cX6_comesAs 88 = .ok (.iadd, 1) := by decide +kernel
theorem dX6_comesAs_89 : decode cX6_comesAs 89 = .ok (.iload_n 3, 1) := by decide +kernel
theorem dX6_comesAs_90 : decode cX6_comesAs 90 = .ok (.iastore, 1) := by decide +kernel
theorem dX6_comesAs_91 : decode cX6_comesAs 91 = .ok (.iload 5, 2) := by decide +kernel
theorem dX6_comesAs_93 : decode cX6_comesAs 93 = .ok (.ireturn, 1) := by decide +kernel
theorem dX6_frame_0 : decode cX6_frame 0 = .ok (.iload_n 1, 1) := by decide +kernel
theorem dX6_frame_1 : decode cX6_frame 1 = .ok (.i2l, 1) := by decide +kernel
theorem dX6_frame_2 : decode cX6_frame 2 = .ok (.iconst 0, 1) := by decide +kernel
theorem dX6_frame_3 : decode cX6_frame 3 = .ok (.iconst 5, 1) := by decide +kernel
theorem dX6_frame_4 : decode cX6_frame 4 = .ok (.invokestatic 41, 3) := by decide +kernel
theorem dX6_frame_7 : decode cX6_frame 7 = .ok (.ifCond .eq 10, 3) := by decide +kernel
theorem dX6_frame_10 : decode cX6_frame 10 = .ok (.iload_n 2, 1) := by decide +kernel
theorem dX6_frame_11 : decode cX6_frame 11 = .ok (.invokestatic 63, 3) := by decide +kernel
theorem dX6_frame_14 : decode cX6_frame 14 = .ok (.ifCond .ne 10, 3) := by decide +kernel
theorem dX6_frame_17 : decode cX6_frame 17 = .ok (.aload_n 0, 1) := by decide +kernel
theorem dX6_frame_18 : decode cX6_frame 18 = .ok (.ldc 35, 2) := by decide +kernel
theorem dX6_frame_20 : decode cX6_frame 20 = .ok (.invokevirtual 37, 3) := by decide +kernel
theorem dX6_frame_23 : decode cX6_frame 23 = .ok (.ireturn, 1) := by decide +kernel
theorem dX6_frame_24 : decode cX6_frame 24 = .ok (.aload_n 0, 1) := by decide +kernel
theorem dX6_frame_25 : decode cX6_frame 25 = .ok (.getfield 9, 3) := by decide +kernel
theorem dX6_frame_28 : decode cX6_frame 28 = .ok (.iconst 1, 1) := by decide +kernel
theorem dX6_frame_29 : decode cX6_frame 29 = .ok (.iaload, 1) := by decide +kernel
theorem dX6_frame_30 : decode cX6_frame 30 = .ok (.bipush 8, 2) := by decide +kernel
theorem dX6_frame_32 : decode cX6_frame 32 = .ok (.if_icmp .ne 12, 3) := by decide +kernel
theorem dX6_frame_35 : decode cX6_frame 35 = .ok (.aload_n 0, 1) := by decide +kernel
theorem dX6_frame_36 : decode cX6_frame 36 = .ok (.ldc 74, 2) := by decide +kernel
theorem dX6_frame_38 : decode cX6_frame 38 = .ok (.invokevirtual 37, 3) := by decide +kernel
theorem dX6_frame_41 : decode cX6_frame 41 = .ok (.goto 12, 3) := by decide +kernel
theorem dX6_frame_44 : decode cX6_frame 44 = .ok (.aload_n 0, 1) := by decide +kernel
theorem dX6_frame_45 : decode cX6_frame 45 = .ok (.iload_n 1, 1) := by decide +kernel
theorem dX6_frame_46 : decode cX6_frame 46 = .ok (.iload_n 2, 1) := by decide +kernel
theorem dX6_frame_47 : decode cX6_frame 47 = .ok (.bipush 10, 2) := by decide +kernel
theorem dX6_frame_49 : decode cX6_frame 49 = .ok (.iconst 0, 1) := by decide +kernel
theorem dX6_frame_50 : decode cX6_frame 50 = .ok (.invokevirtual 75, 3) := by decide +kernel
theorem dX6_frame_53 : decode cX6_frame 53 = .ok (.ireturn, 1) := by decide +kernel
theorem dX6_frameOf_0 : decode cX6_frameOf 0 = .ok (.aload_n 0, 1) := by decide +kernel
theorem dX6_frameOf_1 : decode cX6_frameOf 1 = .ok (.iload_n 1, 1) := by decide +kernel
theorem dX6_frameOf_2 : decode cX6_frameOf 2 = .ok (.invokevirtual 79, 3) := by decide +kernel
theorem dX6_frameOf_5 : decode cX6_frameOf 5 = .ok (.ifCond .eq 13, 3) := by decide +kernel
theorem dX6_frameOf_8 : decode cX6_frameOf 8 = .ok (.iload_n 2, 1) := by decide +kernel
theorem dX6_frameOf_9 : decode cX6_frameOf 9 = .ok (.i2l, 1) := by decide +kernel
theorem dX6_frameOf_10 : decode cX6_frameOf 10 = .ok (.iconst 0, 1) := by decide +kernel
theorem dX6_frameOf_11 : decode cX6_frameOf 11 = .ok (.iconst 3, 1) := by decide +kernel
theorem dX6_frameOf_12 : decode cX6_frameOf 12 = .ok (.invokestatic 41, 3) := by decide +kernel
theorem dX6_frameOf_15 : decode cX6_frameOf 15 = .ok (.ifCond .ne 10, 3) := by decide +kernel
theorem dX6_frameOf_18 : decode cX6_frameOf 18 = .ok (.aload_n 0, 1) := by decide +kernel
theorem dX6_frameOf_19 : decode cX6_frameOf 19 = .ok (.ldc 35, 2) := by decide +kernel
theorem dX6_frameOf_21 : decode cX6_frameOf 21 = .ok (.invokevirtual 37, 3) := by decide +kernel
theorem dX6_frameOf_24 : decode cX6_frameOf 24 = .ok (.ireturn, 1) := by decide +kernel
theorem dX6_frameOf_25 : decode cX6_frameOf 25 = .ok (.iload_n 2, 1) := by decide +kernel
theorem dX6_frameOf_26 : decode cX6_frameOf 26 = .ok (.iconst 3, 1) := by decide +kernel
theorem dX6_frameOf_27 : decode cX6_frameOf 27 = .ok (.if_icmp .ge 12, 3) := by decide +kernel
theorem dX6_frameOf_30 : decode cX6_frameOf 30 = .ok (.aload_n 0, 1) := by decide +kernel
theorem dX6_frameOf_31 : decode cX6_frameOf 31 = .ok (.iload_n 1, 1) := by decide +kernel
theorem dX6_frameOf_32 : decode cX6_frameOf 32 = .ok (.iload_n 2, 1) := by decide +kernel
theorem dX6_frameOf_33 : decode cX6_frameOf 33 = .ok (.invokevirtual 57, 3) := by decide +kernel
theorem dX6_frameOf_36 : decode cX6_frameOf 36 = .ok (.goto 8, 3) := by decide +kernel
theorem dX6_frameOf_39 : decode cX6_frameOf 39 = .ok (.aload_n 0, 1) := by decide +kernel
theorem dX6_frameOf_40 : decode cX6_frameOf 40 = .ok (.iload_n 1, 1) := by decide +kernel
theorem dX6_frameOf_41 : decode cX6_frameOf 41 = .ok (.invokevirtual 71, 3) := by decide +kernel
theorem dX6_frameOf_44 : decode cX6_frameOf 44 = .ok (.ireturn, 1) := by decide +kernel
theorem dX6_set_0 : decode cX6_set 0 = .ok (.aload_n 0, 1) := by decide +kernel
theorem dX6_set_1 : decode cX6_set 1 = .ok (.iload_n 1, 1) := by decide +kernel
theorem dX6_set_2 : decode cX6_set 2 = .ok (.invokevirtual 79, 3) := by decide +kernel
theorem dX6_set_5 : decode cX6_set 5 = .ok (.ifCond .eq 35, 3) := by decide +kernel
theorem dX6_set_8 : decode cX6_set 8 = .ok (.iload_n 2, 1) := by decide +kernel
theorem dX6_set_9 : decode cX6_set 9 = .ok (.i2l, 1) := by decide +kernel
theorem dX6_set_10 : decode cX6_set 10 = .ok (.iconst 0, 1) := by decide +kernel
theorem dX6_set_11 : decode cX6_set 11 = .ok (.iconst 1, 1) := by decide +kernel
theorem dX6_set_12 : decode cX6_set 12 = .ok (.invokestatic 41, 3) := by decide +kernel
theorem dX6_set_15 : decode cX6_set 15 = .ok (.ifCond .eq 25, 3) := by decide +kernel
theorem dX6_set_18 : decode cX6_set 18 = .ok (.iload_n 3, 1) := by decide +kernel
theorem dX6_set_19 : decode cX6_set 19 = .ok (.i2l, 1) := by decide +kernel
theorem dX6_set_20 : decode cX6_set 20 = .ok (.iconst 0, 1) := by decide +kernel
theorem dX6_set_21 : decode cX6_set 21 = .ok (.iload_n 2, 1) := by decide +kernel
theorem dX6_set_22 : decode cX6_set 22 = .ok (.ifCond .ne 7, 3) := by decide +kernel
theorem dX6_set_25 : decode cX6_set 25 = .ok (.iconst 3, 1) := by decide +kernel
theorem dX6_set_26 : decode cX6_set 26 = .ok (.goto 4, 3) := by decide +kernel
theorem dX6_set_29 : decode cX6_set 29 = .ok (.iconst 1, 1) := by decide +kernel
theorem dX6_set_30 : decode cX6_set 30 = .ok (.invokestatic 41, 3) := by decide +kernel
theorem dX6_set_33 : decode cX6_set 33 = .ok (.ifCond .eq 7, 3) := by decide +kernel
theorem dX6_set_36 : decode cX6_set 36 = .ok (.iconst 1, 1) := by decide +kernel
theorem dX6_set_37 : decode cX6_set 37 = .ok (.goto 4, 3) := by decide +kernel
theorem dX6_set_40 : decode cX6_set 40 = .ok (.iconst 0, 1) := by decide +kernel
theorem dX6_set_41 : decode cX6_set 41 = .ok (.istore 4, 2) := by decide +kernel
theorem dX6_set_43 : decode cX6_set 43 = .ok (.iload 4, 2) := by decide +kernel
theorem dX6_set_45 : decode cX6_set 45 = .ok (.ifCond .eq 19, 3) := by decide +kernel
theorem dX6_set_48 : decode cX6_set 48 = .ok (.aload_n 0, 1) := by decide +kernel
theorem dX6_set_49 : decode cX6_set 49 = .ok (.bipush 6, 2) := by decide +kernel
theorem dX6_set_51 : decode cX6_set 51 = .ok (.iconst 3, 1) := by decide +kernel
theorem dX6_set_52 : decode cX6_set 52 = .ok (.iload_n 1, 1) := by decide +kernel
theorem dX6_set_53 : decode cX6_set 53 = .ok (.imul, 1) := by decide +kernel
theorem dX6_set_54 : decode cX6_set 54 = .ok (.iadd, 1) := by decide +kernel
theorem dX6_set_55 : decode cX6_set 55 = .ok (.iload_n 2, 1) := by decide +kernel
theorem dX6_set_56 : decode cX6_set 56 = .ok (.iadd, 1) := by decide +kernel
theorem dX6_set_57 : decode cX6_set 57 = .ok (.iload_n 3, 1) := by decide +kernel
theorem dX6_set_58 : decode cX6_set 58 = .ok (.invokevirtual 68, 3) := by decide +kernel
theorem dX6_set_61 : decode cX6_set 61 = .ok (.goto 9, 3) := by decide +kernel
theorem dX6_set_64 : decode cX6_set 64 = .ok (.aload_n 0, 1) := by decide +kernel
theorem dX6_set_65 : decode cX6_set 65 = .ok (.ldc 35, 2) := by decide +kernel
theorem dX6_set_67 : decode cX6_set 67 = .ok (.invokevirtual 37, 3) := by decide +kernel
theorem dX6_set_70 : decode cX6_set 70 = .ok (.ireturn, 1) := by decide +kernel
theorem dX6_frameWith_0 : decode cX6_frameWith 0 = .ok (.iconst 0, 1) := by decide +kernel
theorem dX6_frameWith_1 : decode cX6_frameWith 1 = .ok (.istore_n 2, 1) := by decide +kernel
theorem dX6_frameWith_2 : decode cX6_frameWith 2 = .ok (.aload_n 0, 1) := by decide +kernel
theorem dX6_frameWith_3 : decode cX6_frameWith 3 = .ok (.iload_n 2, 1) := by decide +kernel
theorem dX6_frameWith_4 : decode cX6_frameWith 4 = .ok (.iconst 2, 1) := by decide +kernel
theorem dX6_frameWith_5 : decode cX6_frameWith 5 = .ok (.invokevirtual 57, 3) := by decide +kernel
theorem dX6_frameWith_8 : decode cX6_frameWith 8 = .ok (.iload_n 1, 1) := by decide +kernel
theorem dX6_frameWith_9 : decode cX6_frameWith 9 = .ok (.if_icmp .eq 9, 3) := by decide +kernel
theorem dX6_frameWith_12 : decode cX6_frameWith 12 = .ok (.iinc 2 1, 3) := by decide +kernel
theorem dX6_frameWith_15 : decode cX6_frameWith 15 = .ok (.goto (-13), 3) := by decide +kernel
theorem dX6_frameWith_18 : decode cX6_frameWith 18 = .ok (.iload_n 2, 1) := by decide +kernel
theorem dX6_frameWith_19 : decode cX6_frameWith 19 = .ok (.ireturn, 1) := by decide +kernel
theorem dX6_of_0 : decode cX6_of 0 = .ok (.aload_n 0, 1) := by decide +kernel
theorem dX6_of_1 : decode cX6_of 1 = .ok (.iload_n 1, 1) := by decide +kernel
theorem dX6_of_2 : decode cX6_of 2 = .ok (.invokevirtual 79, 3) := by decide +kernel
theorem dX6_of_5 : decode cX6_of 5 = .ok (.ifCond .ne 10, 3) := by decide +kernel
theorem dX6_of_8 : decode cX6_of 8 = .ok (.aload_n 0, 1) := by decide +kernel
theorem dX6_of_9 : decode cX6_of 9 = .ok (.ldc 35, 2) := by decide +kernel
theorem dX6_of_11 : decode cX6_of 11 = .ok (.invokevirtual 37, 3) := by decide +kernel
theorem dX6_of_14 : decode cX6_of 14 = .ok (.ireturn, 1) := by decide +kernel
theorem dX6_of_15 : decode cX6_of 15 = .ok (.iload_n 2, 1) := by decide +kernel
theorem dX6_of_16 : decode cX6_of 16 = .ok (.tableswitch 71 0 5 #[40, 40, 47, 53, 59, 65], 40) := by decide +kernel
theorem dX6_of_56 : decode cX6_of 56 = .ok (.aload_n 0, 1) := by decide +kernel
theorem dX6_of_57 : decode cX6_of 57 = .ok (.iload_n 1, 1) := by decide +kernel
theorem dX6_of_58 : decode cX6_of 58 = .ok (.iload_n 2, 1) := by decide +kernel
theorem dX6_of_59 : decode cX6_of 59 = .ok (.invokevirtual 49, 3) := by decide +kernel
theorem dX6_of_62 : decode cX6_of 62 = .ok (.ireturn, 1) := by decide +kernel
theorem dX6_of_63 : decode cX6_of 63 = .ok (.aload_n 0, 1) := by decide +kernel
theorem dX6_of_64 : decode cX6_of 64 = .ok (.iload_n 1, 1) := by decide +kernel
theorem dX6_of_65 : decode cX6_of 65 = .ok (.invokevirtual 82, 3) := by decide +kernel
theorem dX6_of_68 : decode cX6_of 68 = .ok (.ireturn, 1) := by decide +kernel
theorem dX6_of_69 : decode cX6_of 69 = .ok (.aload_n 0, 1) := by decide +kernel
theorem dX6_of_70 : decode cX6_of 70 = .ok (.iload_n 1, 1) := by decide +kernel
theorem dX6_of_71 : decode cX6_of 71 = .ok (.invokevirtual 60, 3) := by decide +kernel
theorem dX6_of_74 : decode cX6_of 74 = .ok (.ireturn, 1) := by decide +kernel
theorem dX6_of_75 : decode cX6_of 75 = .ok (.aload_n 0, 1) := by decide +kernel
theorem dX6_of_76 : decode cX6_of 76 = .ok (.iload_n 1, 1) := by decide +kernel
theorem dX6_of_77 : decode cX6_of 77 = .ok (.invokevirtual 85, 3) := by decide +kernel
theorem dX6_of_80 : decode cX6_of 80 = .ok (.ireturn, 1) := by decide +kernel
theorem dX6_of_81 : decode cX6_of 81 = .ok (.aload_n 0, 1) := by decide +kernel
theorem dX6_of_82 : decode cX6_of 82 = .ok (.iload_n 1, 1) := by decide +kernel
theorem dX6_of_83 : decode cX6_of 83 = .ok (.invokevirtual 88, 3) := by decide +kernel
theorem dX6_of_86 : decode cX6_of 86 = .ok (.ireturn, 1) := by decide +kernel
theorem dX6_of_87 : decode cX6_of 87 = .ok (.aload_n 0, 1) := by decide +kernel
theorem dX6_of_88 : decode cX6_of 88 = .ok (.ldc 35, 2) := by decide +kernel
theorem dX6_of_90 : decode cX6_of 90 = .ok (.invokevirtual 37, 3) := by decide +kernel
theorem dX6_of_93 : decode cX6_of 93 = .ok (.ireturn, 1) := by decide +kernel
theorem dX6_fine_0 : decode cX6_fine 0 = .ok (.aload_n 0, 1) := by decide +kernel
theorem dX6_fine_1 : decode cX6_fine 1 = .ok (.iload_n 1, 1) := by decide +kernel
theorem dX6_fine_2 : decode cX6_fine 2 = .ok (.invokevirtual 79, 3) := by decide +kernel
theorem dX6_fine_5 : decode cX6_fine 5 = .ok (.ifCond .eq 30, 3) := by decide +kernel
theorem dX6_fine_8 : decode cX6_fine 8 = .ok (.iload_n 2, 1) := by decide +kernel
theorem dX6_fine_9 : decode cX6_fine 9 = .ok (.i2l, 1) := by decide +kernel
theorem dX6_fine_10 : decode cX6_fine 10 = .ok (.iconst 0, 1) := by decide +kernel
theorem dX6_fine_11 : decode cX6_fine 11 = .ok (.bipush 99, 2) := by decide +kernel
theorem dX6_fine_13 : decode cX6_fine 13 = .ok (.invokestatic 41, 3) := by decide +kernel
theorem dX6_fine_16 : decode cX6_fine 16 = .ok (.ifCond .eq 19, 3) := by decide +kernel
theorem dX6_fine_19 : decode cX6_fine 19 = .ok (.aload_n 0, 1) := by decide +kernel
theorem dX6_fine_20 : decode cX6_fine 20 = .ok (.bipush 30, 2) := by decide +kernel
theorem dX6_fine_22 : decode cX6_fine 22 = .ok (.iconst 2, 1) := by decide +kernel
theorem dX6_fine_23 : decode cX6_fine 23 = .ok (.iload_n 1, 1) := by decide +kernel
theorem dX6_fine_24 : decode cX6_fine 24 = .ok (.imul, 1) := by decide +kernel
theorem dX6_fine_25 : decode cX6_fine 25 = .ok (.iadd, 1) := by decide +kernel
theorem dX6_fine_26 : decode cX6_fine 26 = .ok (.iconst 1, 1) := by decide +kernel
theorem dX6_fine_27 : decode cX6_fine 27 = .ok (.iadd, 1) := by decide +kernel
theorem dX6_fine_28 : decode cX6_fine 28 = .ok (.iload_n 2, 1) := by decide +kernel
theorem dX6_fine_29 : decode cX6_fine 29 = .ok (.invokevirtual 68, 3) := by decide +kernel
theorem dX6_fine_32 : decode cX6_fine 32 = .ok (.goto 9, 3) := by decide +kernel
theorem dX6_fine_35 : decode cX6_fine 35 = .ok (.aload_n 0, 1) := by decide +kernel
theorem dX6_fine_36 : decode cX6_fine 36 = .ok (.ldc 35, 2) := by decide +kernel
theorem dX6_fine_38 : decode cX6_fine 38 = .ok (.invokevirtual 37, 3) := by decide +kernel
theorem dX6_fine_41 : decode cX6_fine 41 = .ok (.ireturn, 1) := by decide +kernel
theorem dX6_turn_0 : decode cX6_turn 0 = .ok (.aload_n 0, 1) := by decide +kernel
theorem dX6_turn_1 : decode cX6_turn 1 = .ok (.iload_n 1, 1) := by decide +kernel
theorem dX6_turn_2 : decode cX6_turn 2 = .ok (.invokevirtual 79, 3) := by decide +kernel
theorem dX6_turn_5 : decode cX6_turn 5 = .ok (.ifCond .eq 27, 3) := by decide +kernel
theorem dX6_turn_8 : decode cX6_turn 8 = .ok (.iload_n 2, 1) := by decide +kernel
theorem dX6_turn_9 : decode cX6_turn 9 = .ok (.i2l, 1) := by decide +kernel
theorem dX6_turn_10 : decode cX6_turn 10 = .ok (.iconst 0, 1) := by decide +kernel
theorem dX6_turn_11 : decode cX6_turn 11 = .ok (.iconst 5, 1) := by decide +kernel
theorem dX6_turn_12 : decode cX6_turn 12 = .ok (.invokestatic 41, 3) := by decide +kernel
theorem dX6_turn_15 : decode cX6_turn 15 = .ok (.ifCond .eq 17, 3) := by decide +kernel
theorem dX6_turn_18 : decode cX6_turn 18 = .ok (.aload_n 0, 1) := by decide +kernel
theorem dX6_turn_19 : decode cX6_turn 19 = .ok (.bipush 30, 2) := by decide +kernel
theorem dX6_turn_21 : decode cX6_turn 21 = .ok (.iconst 2, 1) := by decide +kernel
theorem dX6_turn_22 : decode cX6_turn 22 = .ok (.iload_n 1, 1) := by decide +kernel
theorem dX6_turn_23 : decode cX6_turn 23 = .ok (.imul, 1) := by decide +kernel
theorem dX6_turn_24 : decode cX6_turn 24 = .ok (.iadd, 1) := by decide +kernel
theorem dX6_turn_25 : decode cX6_turn 25 = .ok (.iload_n 2, 1) := by decide +kernel
theorem dX6_turn_26 : decode cX6_turn 26 = .ok (.invokevirtual 68, 3) := by decide +kernel
theorem dX6_turn_29 : decode cX6_turn 29 = .ok (.goto 9, 3) := by decide +kernel
theorem dX6_turn_32 : decode cX6_turn 32 = .ok (.aload_n 0, 1) := by decide +kernel
theorem dX6_turn_33 : decode cX6_turn 33 = .ok (.ldc 35, 2) := by decide +kernel
theorem dX6_turn_35 : decode cX6_turn 35 = .ok (.invokevirtual 37, 3) := by decide +kernel
theorem dX6_turn_38 : decode cX6_turn 38 = .ok (.ireturn, 1) := by decide +kernel
theorem dX6_as_0 : decode cX6_as 0 = .ok (.aload_n 0, 1) := by decide +kernel
theorem dX6_as_1 : decode cX6_as 1 = .ok (.iload_n 1, 1) := by decide +kernel
theorem dX6_as_2 : decode cX6_as 2 = .ok (.invokevirtual 79, 3) := by decide +kernel
theorem dX6_as_5 : decode cX6_as 5 = .ok (.ifCond .eq 13, 3) := by decide +kernel
theorem dX6_as_8 : decode cX6_as 8 = .ok (.iload_n 2, 1) := by decide +kernel
theorem dX6_as_9 : decode cX6_as 9 = .ok (.i2l, 1) := by decide +kernel
theorem dX6_as_10 : decode cX6_as 10 = .ok (.iconst 0, 1) := by decide +kernel
theorem dX6_as_11 : decode cX6_as 11 = .ok (.iconst 5, 1) := by decide +kernel
theorem dX6_as_12 : decode cX6_as 12 = .ok (.invokestatic 41, 3) := by decide +kernel
theorem dX6_as_15 : decode cX6_as 15 = .ok (.ifCond .ne 10, 3) := by decide +kernel
theorem dX6_as_18 : decode cX6_as 18 = .ok (.aload_n 0, 1) := by decide +kernel
theorem dX6_as_19 : decode cX6_as 19 = .ok (.ldc 35, 2) := by decide +kernel
theorem dX6_as_21 : decode cX6_as 21 = .ok (.invokevirtual 37, 3) := by decide +kernel
theorem dX6_as_24 : decode cX6_as 24 = .ok (.ireturn, 1) := by decide +kernel
theorem dX6_as_25 : decode cX6_as 25 = .ok (.aload_n 0, 1) := by decide +kernel
theorem dX6_as_26 : decode cX6_as 26 = .ok (.iload_n 1, 1) := by decide +kernel
theorem dX6_as_27 : decode cX6_as 27 = .ok (.iconst 0, 1) := by decide +kernel
theorem dX6_as_28 : decode cX6_as 28 = .ok (.invokevirtual 49, 3) := by decide +kernel
theorem dX6_as_31 : decode cX6_as 31 = .ok (.istore_n 3, 1) := by decide +kernel
theorem dX6_as_32 : decode cX6_as 32 = .ok (.iload_n 2, 1) := by decide +kernel
theorem dX6_as_33 : decode cX6_as 33 = .ok (.ifCond .eq 28, 3) := by decide +kernel
theorem dX6_as_36 : decode cX6_as 36 = .ok (.iload_n 2, 1) := by decide +kernel
theorem dX6_as_37 : decode cX6_as 37 = .ok (.iload_n 3, 1) := by decide +kernel
theorem dX6_as_38 : decode cX6_as 38 = .ok (.if_icmp .eq 23, 3) := by decide +kernel
theorem dX6_as_41 : decode cX6_as 41 = .ok (.iload_n 2, 1) := by decide +kernel
theorem dX6_as_42 : decode cX6_as 42 = .ok (.iconst 1, 1) := by decide +kernel
theorem dX6_as_43 : decode cX6_as 43 = .ok (.if_icmp .ne 8, 3) := by decide +kernel
theorem dX6_as_46 : decode cX6_as 46 = .ok (.iload_n 3, 1) := by decide +kernel
theorem dX6_as_47 : decode cX6_as 47 = .ok (.iconst 4, 1) := by decide +kernel
theorem dX6_as_48 : decode cX6_as 48 = .ok (.if_icmp .eq 13, 3) := by decide +kernel
theorem dX6_as_51 : decode cX6_as 51 = .ok (.iload_n 2, 1) := by decide +kernel
theorem dX6_as_52 : decode cX6_as 52 = .ok (.iconst 2, 1) := by decide +kernel
theorem dX6_as_53 : decode cX6_as 53 = .ok (.if_icmp .ne 12, 3) := by decide +kernel
theorem dX6_as_56 : decode cX6_as 56 = .ok (.iload_n 3, 1) := by decide +kernel
theorem dX6_as_57 : decode cX6_as 57 = .ok (.iconst 5, 1) := by decide +kernel
theorem dX6_as_58 : decode cX6_as 58 = .ok (.if_icmp .ne 7, 3) := by decide +kernel
theorem dX6_as_61 : decode cX6_as 61 = .ok (.iconst 1, 1) := by decide +kernel
theorem dX6_as_62 : decode cX6_as 62 = .ok (.goto 4, 3) := by decide +kernel
theorem dX6_as_65 : decode cX6_as 65 = .ok (.iconst 0, 1) := by decide +kernel
theorem dX6_as_66 : decode cX6_as 66 = .ok (.istore 4, 2) := by decide +kernel
theorem dX6_as_68 : decode cX6_as 68 = .ok (.iload 4, 2) := by decide +kernel
theorem dX6_as_70 : decode cX6_as 70 = .ok (.ifCond .eq 12, 3) := by decide +kernel
theorem dX6_as_73 : decode cX6_as 73 = .ok (.aload_n 0, 1) := by decide +kernel
theorem dX6_as_74 : decode cX6_as 74 = .ok (.iload_n 1, 1) := by decide +kernel
theorem dX6_as_75 : decode cX6_as 75 = .ok (.iconst 1, 1) := by decide +kernel
theorem dX6_as_76 : decode cX6_as 76 = .ok (.invokevirtual 49, 3) := by decide +kernel
theorem dX6_as_79 : decode cX6_as 79 = .ok (.goto 9, 3) := by decide +kernel
theorem dX6_as_82 : decode cX6_as 82 = .ok (.aload_n 0, 1) := by decide +kernel
theorem dX6_as_83 : decode cX6_as 83 = .ok (.ldc 91, 2) := by decide +kernel
theorem dX6_as_85 : decode cX6_as 85 = .ok (.invokevirtual 37, 3) := by decide +kernel
theorem dX6_as_88 : decode cX6_as 88 = .ok (.ireturn, 1) := by decide +kernel
theorem dX6_changes_0 : decode cX6_changes 0 = .ok (.aload_n 0, 1) := by decide +kernel
theorem dX6_changes_1 : decode cX6_changes 1 = .ok (.iload_n 1, 1) := by decide +kernel
theorem dX6_changes_2 : decode cX6_changes 2 = .ok (.iconst 2, 1) := by decide +kernel
theorem dX6_changes_3 : decode cX6_changes 3 = .ok (.invokevirtual 57, 3) := by decide +kernel
theorem dX6_changes_6 : decode cX6_changes 6 = .ok (.istore_n 3, 1) := by decide +kernel
theorem dX6_changes_7 : decode cX6_changes 7 = .ok (.aload_n 0, 1) := by decide +kernel
theorem dX6_changes_8 : decode cX6_changes 8 = .ok (.getfield 9, 3) := by decide +kernel
theorem dX6_changes_11 : decode cX6_changes 11 = .ok (.bipush 6, 2) := by decide +kernel
theorem dX6_changes_13 : decode cX6_changes 13 = .ok (.iconst 3, 1) := by decide +kernel
theorem dX6_changes_14 : decode cX6_changes 14 = .ok (.iload_n 1, 1) := by decide +kernel
theorem dX6_changes_15 : decode cX6_changes 15 = .ok (.imul, 1) := by decide +kernel
theorem dX6_changes_16 : decode cX6_changes 16 = .ok (.iadd, 1) := by decide +kernel
theorem dX6_changes_17 : decode cX6_changes 17 = .ok (.iconst 2, 1) := by decide +kernel
theorem dX6_changes_18 : decode cX6_changes 18 = .ok (.iadd, 1) := by decide +kernel
theorem dX6_changes_19 : decode cX6_changes 19 = .ok (.aload_n 0, 1) := by decide +kernel
theorem dX6_changes_20 : decode cX6_changes 20 = .ok (.iload_n 2, 1) := by decide +kernel
theorem dX6_changes_21 : decode cX6_changes 21 = .ok (.iconst 2, 1) := by decide +kernel
theorem dX6_changes_22 : decode cX6_changes 22 = .ok (.invokevirtual 57, 3) := by decide +kernel
theorem dX6_changes_25 : decode cX6_changes 25 = .ok (.iastore, 1) := by decide +kernel
theorem dX6_changes_26 : decode cX6_changes 26 = .ok (.aload_n 0, 1) := by decide +kernel
theorem dX6_changes_27 : decode cX6_changes 27 = .ok (.getfield 9, 3) := by decide +kernel
theorem dX6_changes_30 : decode cX6_changes 30 = .ok (.bipush 6, 2) := by decide +kernel
theorem dX6_changes_32 : decode cX6_changes 32 = .ok (.iconst 3, 1) := by decide +kernel
theorem dX6_changes_33 : decode cX6_changes 33 = .ok (.iload_n 2, 1) := by decide +kernel
theorem dX6_changes_34 : decode cX6_changes 34 = .ok (.imul, 1) := by decide +kernel
theorem dX6_changes_35 : decode cX6_changes 35 = .ok (.iadd, 1) := by decide +kernel
theorem dX6_changes_36 : decode cX6_changes 36 = .ok (.iconst 2, 1) := by decide +kernel
theorem dX6_changes_37 : decode cX6_changes 37 = .ok (.iadd, 1) := by decide +kernel
theorem dX6_changes_38 : decode cX6_changes 38 = .ok (.iload_n 3, 1) := by decide +kernel
theorem dX6_changes_39 : decode cX6_changes 39 = .ok (.iastore, 1) := by decide +kernel
theorem dX6_changes_40 : decode cX6_changes 40 = .ok (.return_, 1) := by decide +kernel
theorem dX6_earns_0 : decode cX6_earns 0 = .ok (.aload_n 0, 1) := by decide +kernel
theorem dX6_earns_1 : decode cX6_earns 1 = .ok (.getfield 9, 3) := by decide +kernel
theorem dX6_earns_4 : decode cX6_earns 4 = .ok (.iconst 2, 1) := by decide +kernel
theorem dX6_earns_5 : decode cX6_earns 5 = .ok (.iload_n 1, 1) := by decide +kernel
theorem dX6_earns_6 : decode cX6_earns 6 = .ok (.iadd, 1) := by decide +kernel
theorem dX6_earns_7 : decode cX6_earns 7 = .ok (.aload_n 0, 1) := by decide +kernel
theorem dX6_earns_8 : decode cX6_earns 8 = .ok (.getfield 9, 3) := by decide +kernel
theorem dX6_earns_11 : decode cX6_earns 11 = .ok (.iconst 2, 1) := by decide +kernel
theorem dX6_earns_12 : decode cX6_earns 12 = .ok (.iload_n 1, 1) := by decide +kernel
theorem dX6_earns_13 : decode cX6_earns 13 = .ok (.iadd, 1) := by decide +kernel
theorem dX6_earns_14 : decode cX6_earns 14 = .ok (.iaload, 1) := by decide +kernel
theorem dX6_earns_15 : decode cX6_earns 15 = .ok (.iload_n 2, 1) := by decide +kernel
theorem dX6_earns_16 : decode cX6_earns 16 = .ok (.iadd, 1) := by decide +kernel
theorem dX6_earns_17 : decode cX6_earns 17 = .ok (.iconst 0, 1) := by decide +kernel
theorem dX6_earns_18 : decode cX6_earns 18 = .ok (.ldc 67, 2) := by decide +kernel
theorem dX6_earns_20 : decode cX6_earns 20 = .ok (.invokestatic 92, 3) := by decide +kernel
theorem dX6_earns_23 : decode cX6_earns 23 = .ok (.iastore, 1) := by decide +kernel
theorem dX6_earns_24 : decode cX6_earns 24 = .ok (.return_, 1) := by decide +kernel
theorem dX6_price_0 : decode cX6_price 0 = .ok (.aload_n 0, 1) := by decide +kernel
theorem dX6_price_1 : decode cX6_price 1 = .ok (.aload_n 0, 1) := by decide +kernel
theorem dX6_price_2 : decode cX6_price 2 = .ok (.iload_n 1, 1) := by decide +kernel
theorem dX6_price_3 : decode cX6_price 3 = .ok (.iconst 2, 1) := by decide +kernel
theorem dX6_price_4 : decode cX6_price 4 = .ok (.invokevirtual 57, 3) := by decide +kernel
theorem dX6_price_7 : decode cX6_price 7 = .ok (.invokevirtual 88, 3) := by decide +kernel
theorem dX6_price_10 : decode cX6_price 10 = .ok (.aload_n 0, 1) := by decide +kernel
theorem dX6_price_11 : decode cX6_price 11 = .ok (.aload_n 0, 1) := by decide +kernel
theorem dX6_price_12 : decode cX6_price 12 = .ok (.iload_n 2, 1) := by decide +kernel
theorem dX6_price_13 : decode cX6_price 13 = .ok (.iconst 2, 1) := by decide +kernel
theorem dX6_price_14 : decode cX6_price 14 = .ok (.invokevirtual 57, 3) := by decide +kernel
theorem dX6_price_17 : decode cX6_price 17 = .ok (.invokevirtual 88, 3) := by decide +kernel
theorem dX6_price_20 : decode cX6_price 20 = .ok (.isub, 1) := by decide +kernel
theorem dX6_price_21 : decode cX6_price 21 = .ok (.istore_n 3, 1) := by decide +kernel
theorem dX6_price_22 : decode cX6_price 22 = .ok (.aload_n 0, 1) := by decide +kernel
theorem dX6_price_23 : decode cX6_price 23 = .ok (.iload_n 1, 1) := by decide +kernel
theorem dX6_price_24 : decode cX6_price 24 = .ok (.iconst 0, 1) := by decide +kernel
theorem dX6_price_25 : decode cX6_price 25 = .ok (.invokevirtual 57, 3) := by decide +kernel
theorem dX6_price_28 : decode cX6_price 28 = .ok (.aload_n 0, 1) := by decide +kernel
theorem dX6_price_29 : decode cX6_price 29 = .ok (.iload_n 2, 1) := by decide +kernel
theorem dX6_price_30 : decode cX6_price 30 = .ok (.iconst 0, 1) := by decide +kernel
theorem dX6_price_31 : decode cX6_price 31 = .ok (.invokevirtual 57, 3) := by decide +kernel
theorem dX6_price_34 : decode cX6_price 34 = .ok (.if_icmp .ne 7, 3) := by decide +kernel
theorem dX6_price_37 : decode cX6_price 37 = .ok (.iconst 0, 1) := by decide +kernel
theorem dX6_price_38 : decode cX6_price 38 = .ok (.goto 13, 3) := by decide +kernel
theorem dX6_price_41 : decode cX6_price 41 = .ok (.iload_n 3, 1) := by decide +kernel
theorem dX6_price_42 : decode cX6_price 42 = .ok (.ifCond .ge 8, 3) := by decide +kernel
theorem dX6_price_45 : decode cX6_price 45 = .ok (.iload_n 3, 1) := by decide +kernel
theorem dX6_price_46 : decode cX6_price 46 = .ok (.ineg, 1) := by decide +kernel
theorem dX6_price_47 : decode cX6_price 47 = .ok (.goto 4, 3) := by decide +kernel
theorem dX6_price_50 : decode cX6_price 50 = .ok (.iload_n 3, 1) := by decide +kernel
theorem dX6_price_51 : decode cX6_price 51 = .ok (.ireturn, 1) := by decide +kernel
theorem dX6_payer_0 : decode cX6_payer 0 = .ok (.aload_n 0, 1) := by decide +kernel
theorem dX6_payer_1 : decode cX6_payer 1 = .ok (.aload_n 0, 1) := by decide +kernel
theorem dX6_payer_2 : decode cX6_payer 2 = .ok (.iload_n 1, 1) := by decide +kernel
theorem dX6_payer_3 : decode cX6_payer 3 = .ok (.iconst 2, 1) := by decide +kernel
theorem dX6_payer_4 : decode cX6_payer 4 = .ok (.invokevirtual 57, 3) := by decide +kernel
theorem dX6_payer_7 : decode cX6_payer 7 = .ok (.invokevirtual 88, 3) := by decide +kernel
theorem dX6_payer_10 : decode cX6_payer 10 = .ok (.aload_n 0, 1) := by decide +kernel
theorem dX6_payer_11 : decode cX6_payer 11 = .ok (.aload_n 0, 1) := by decide +kernel
theorem dX6_payer_12 : decode cX6_payer 12 = .ok (.iload_n 2, 1) := by decide +kernel
theorem dX6_payer_13 : decode cX6_payer 13 = .ok (.iconst 2, 1) := by decide +kernel
theorem dX6_payer_14 : decode cX6_payer 14 = .ok (.invokevirtual 57, 3) := by decide +kernel
theorem dX6_payer_17 : decode cX6_payer 17 = .ok (.invokevirtual 88, 3) := by decide +kernel
theorem dX6_payer_20 : decode cX6_payer 20 = .ok (.if_icmp .le 7, 3) := by decide +kernel
theorem dX6_payer_23 : decode cX6_payer 23 = .ok (.iload_n 2, 1) := by decide +kernel
theorem dX6_payer_24 : decode cX6_payer 24 = .ok (.goto 4, 3) := by decide +kernel
theorem dX6_payer_27 : decode cX6_payer 27 = .ok (.iload_n 1, 1) := by decide +kernel
theorem dX6_payer_28 : decode cX6_payer 28 = .ok (.ireturn, 1) := by decide +kernel
theorem dX6_canTrade_0 : decode cX6_canTrade 0 = .ok (.aload_n 0, 1) := by decide +kernel
theorem dX6_canTrade_1 : decode cX6_canTrade 1 = .ok (.getfield 9, 3) := by decide +kernel
theorem dX6_canTrade_4 : decode cX6_canTrade 4 = .ok (.iconst 2, 1) := by decide +kernel
theorem dX6_canTrade_5 : decode cX6_canTrade 5 = .ok (.aload_n 0, 1) := by decide +kernel
theorem dX6_canTrade_6 : decode cX6_canTrade 6 = .ok (.aload_n 0, 1) := by decide +kernel
theorem dX6_canTrade_7 : decode cX6_canTrade 7 = .ok (.iload_n 1, 1) := by decide +kernel
theorem dX6_canTrade_8 : decode cX6_canTrade 8 = .ok (.iload_n 2, 1) := by decide +kernel
theorem dX6_canTrade_9 : decode cX6_canTrade 9 = .ok (.invokevirtual 96, 3) := by decide +kernel
theorem dX6_canTrade_12 : decode cX6_canTrade 12 = .ok (.iconst 0, 1) := by decide +kernel
theorem dX6_canTrade_13 : decode cX6_canTrade 13 = .ok (.invokevirtual 57, 3) := by decide +kernel
theorem dX6_canTrade_16 : decode cX6_canTrade 16 = .ok (.iadd, 1) := by decide +kernel
theorem dX6_canTrade_17 : decode cX6_canTrade 17 = .ok (.iaload, 1) := by decide +kernel
theorem dX6_canTrade_18 : decode cX6_canTrade 18 = .ok (.aload_n 0, 1) := by decide +kernel
theorem dX6_canTrade_19 : decode cX6_canTrade 19 = .ok (.iload_n 1, 1) := by decide +kernel
theorem dX6_canTrade_20 : decode cX6_canTrade 20 = .ok (.iload_n 2, 1) := by decide +kernel
theorem dX6_canTrade_21 : decode cX6_canTrade 21 = .ok (.invokevirtual 99, 3) := by decide +kernel
theorem dX6_canTrade_24 : decode cX6_canTrade 24 = .ok (.if_icmp .lt 7, 3) := by decide +kernel
theorem dX6_canTrade_27 : decode cX6_canTrade 27 = .ok (.iconst 1, 1) := by decide +kernel
theorem dX6_canTrade_28 : decode cX6_canTrade 28 = .ok (.goto 4, 3) := by decide +kernel
theorem dX6_canTrade_31 : decode cX6_canTrade 31 = .ok (.iconst 0, 1) := by decide +kernel
theorem dX6_canTrade_32 : decode cX6_canTrade 32 = .ok (.ireturn, 1) := by decide +kernel
theorem dX6_trades_0 : decode cX6_trades 0 = .ok (.aload_n 0, 1) := by decide +kernel
theorem dX6_trades_1 : decode cX6_trades 1 = .ok (.iload_n 1, 1) := by decide +kernel
theorem dX6_trades_2 : decode cX6_trades 2 = .ok (.iload_n 2, 1) := by decide +kernel
theorem dX6_trades_3 : decode cX6_trades 3 = .ok (.invokevirtual 99, 3) := by decide +kernel
theorem dX6_trades_6 : decode cX6_trades 6 = .ok (.istore_n 3, 1) := by decide +kernel
theorem dX6_trades_7 : decode cX6_trades 7 = .ok (.aload_n 0, 1) := by decide +kernel
theorem dX6_trades_8 : decode cX6_trades 8 = .ok (.iload_n 1, 1) := by decide +kernel
theorem dX6_trades_9 : decode cX6_trades 9 = .ok (.iload_n 2, 1) := by decide +kernel
theorem dX6_trades_10 : decode cX6_trades 10 = .ok (.invokevirtual 96, 3) := by decide +kernel
theorem dX6_trades_13 : decode cX6_trades 13 = .ok (.istore 4, 2) := by decide +kernel
theorem dX6_trades_15 : decode cX6_trades 15 = .ok (.iload 4, 2) := by decide +kernel
theorem dX6_trades_17 : decode cX6_trades 17 = .ok (.iload_n 1, 1) := by decide +kernel
theorem dX6_trades_18 : decode cX6_trades 18 = .ok (.if_icmp .ne 7, 3) := by decide +kernel
theorem dX6_trades_21 : decode cX6_trades 21 = .ok (.iload_n 2, 1) := by decide +kernel
theorem dX6_trades_22 : decode cX6_trades 22 = .ok (.goto 4, 3) := by decide +kernel
theorem dX6_trades_25 : decode cX6_trades 25 = .ok (.iload_n 1, 1) := by decide +kernel
theorem dX6_trades_26 : decode cX6_trades 26 = .ok (.istore 5, 2) := by decide +kernel
theorem dX6_trades_28 : decode cX6_trades 28 = .ok (.aload_n 0, 1) := by decide +kernel
theorem dX6_trades_29 : decode cX6_trades 29 = .ok (.getfield 9, 3) := by decide +kernel
theorem dX6_trades_32 : decode cX6_trades 32 = .ok (.iconst 2, 1) := by decide +kernel
theorem dX6_trades_33 : decode cX6_trades 33 = .ok (.aload_n 0, 1) := by decide +kernel
theorem dX6_trades_34 : decode cX6_trades 34 = .ok (.iload 4, 2) := by decide +kernel
theorem dX6_trades_36 : decode cX6_trades 36 = .ok (.iconst 0, 1) := by decide +kernel
theorem dX6_trades_37 : decode cX6_trades 37 = .ok (.invokevirtual 57, 3) := by decide +kernel
theorem dX6_trades_40 : decode cX6_trades 40 = .ok (.iadd, 1) := by decide +kernel
theorem dX6_trades_41 : decode cX6_trades 41 = .ok (.dup2, 1) := by decide +kernel
theorem dX6_trades_42 : decode cX6_trades 42 = .ok (.iaload, 1) := by decide +kernel
theorem dX6_trades_43 : decode cX6_trades 43 = .ok (.iload_n 3, 1) := by decide +kernel
theorem dX6_trades_44 : decode cX6_trades 44 = .ok (.isub, 1) := by decide +kernel
theorem dX6_trades_45 : decode cX6_trades 45 = .ok (.iastore, 1) := by decide +kernel
theorem dX6_trades_46 : decode cX6_trades 46 = .ok (.aload_n 0, 1) := by decide +kernel
theorem dX6_trades_47 : decode cX6_trades 47 = .ok (.aload_n 0, 1) := by decide +kernel
theorem dX6_trades_48 : decode cX6_trades 48 = .ok (.iload 5, 2) := by decide +kernel
theorem dX6_trades_50 : decode cX6_trades 50 = .ok (.iconst 0, 1) := by decide +kernel
theorem dX6_trades_51 : decode cX6_trades 51 = .ok (.invokevirtual 57, 3) := by decide +kernel
theorem dX6_trades_54 : decode cX6_trades 54 = .ok (.iload_n 3, 1) := by decide +kernel
theorem dX6_trades_55 : decode cX6_trades 55 = .ok (.invokevirtual 102, 3) := by decide +kernel
theorem dX6_trades_58 : decode cX6_trades 58 = .ok (.aload_n 0, 1) := by decide +kernel
theorem dX6_trades_59 : decode cX6_trades 59 = .ok (.iload_n 1, 1) := by decide +kernel
theorem dX6_trades_60 : decode cX6_trades 60 = .ok (.iload_n 2, 1) := by decide +kernel
theorem dX6_trades_61 : decode cX6_trades 61 = .ok (.invokevirtual 106, 3) := by decide +kernel
theorem dX6_trades_64 : decode cX6_trades 64 = .ok (.iload_n 3, 1) := by decide +kernel
theorem dX6_trades_65 : decode cX6_trades 65 = .ok (.ireturn, 1) := by decide +kernel
theorem dX6_trade_0 : decode cX6_trade 0 = .ok (.aload_n 0, 1) := by decide +kernel
theorem dX6_trade_1 : decode cX6_trade 1 = .ok (.iload_n 1, 1) := by decide +kernel
theorem dX6_trade_2 : decode cX6_trade 2 = .ok (.invokevirtual 79, 3) := by decide +kernel
theorem dX6_trade_5 : decode cX6_trade 5 = .ok (.ifCond .eq 16, 3) := by decide +kernel
theorem dX6_trade_8 : decode cX6_trade 8 = .ok (.aload_n 0, 1) := by decide +kernel
theorem dX6_trade_9 : decode cX6_trade 9 = .ok (.iload_n 2, 1) := by decide +kernel
theorem dX6_trade_10 : decode cX6_trade 10 = .ok (.invokevirtual 79, 3) := by decide +kernel
theorem dX6_trade_13 : decode cX6_trade 13 = .ok (.ifCond .eq 8, 3) := by decide +kernel
theorem dX6_trade_16 : decode cX6_trade 16 = .ok (.iload_n 1, 1) := by decide +kernel
theorem dX6_trade_17 : decode cX6_trade 17 = .ok (.iload_n 2, 1) := by decide +kernel
theorem dX6_trade_18 : decode cX6_trade 18 = .ok (.if_icmp .ne 10, 3) := by decide +kernel
theorem dX6_trade_21 : decode cX6_trade 21 = .ok (.aload_n 0, 1) := by decide +kernel
theorem dX6_trade_22 : decode cX6_trade 22 = .ok (.ldc 35, 2) := by decide +kernel
theorem dX6_trade_24 : decode cX6_trade 24 = .ok (.invokevirtual 37, 3) := by decide +kernel
theorem dX6_trade_27 : decode cX6_trade 27 = .ok (.ireturn, 1) := by decide +kernel
theorem dX6_trade_28 : decode cX6_trade 28 = .ok (.aload_n 0, 1) := by decide +kernel
theorem dX6_trade_29 : decode cX6_trade 29 = .ok (.iload_n 1, 1) := by decide +kernel
theorem dX6_trade_30 : decode cX6_trade 30 = .ok (.iload_n 2, 1) := by decide +kernel
theorem dX6_trade_31 : decode cX6_trade 31 = .ok (.invokevirtual 109, 3) := by decide +kernel
theorem dX6_trade_34 : decode cX6_trade 34 = .ok (.ifCond .eq 12, 3) := by decide +kernel
theorem dX6_trade_37 : decode cX6_trade 37 = .ok (.aload_n 0, 1) := by decide +kernel
theorem dX6_trade_38 : decode cX6_trade 38 = .ok (.iload_n 1, 1) := by decide +kernel
theorem dX6_trade_39 : decode cX6_trade 39 = .ok (.iload_n 2, 1) := by decide +kernel
theorem dX6_trade_40 : decode cX6_trade 40 = .ok (.invokevirtual 113, 3) := by decide +kernel
theorem dX6_trade_43 : decode cX6_trade 43 = .ok (.goto 9, 3) := by decide +kernel
theorem dX6_trade_46 : decode cX6_trade 46 = .ok (.aload_n 0, 1) := by decide +kernel
theorem dX6_trade_47 : decode cX6_trade 47 = .ok (.ldc 116, 2) := by decide +kernel
theorem dX6_trade_49 : decode cX6_trade 49 = .ok (.invokevirtual 37, 3) := by decide +kernel
theorem dX6_trade_52 : decode cX6_trade 52 = .ok (.ireturn, 1) := by decide +kernel
theorem dX6_shiftsOnce_0 : decode cX6_shiftsOnce 0 = .ok (.iconst 0, 1) := by decide +kernel
theorem dX6_shiftsOnce_1 : decode cX6_shiftsOnce 1 = .ok (.istore_n 1, 1) := by decide +kernel
theorem dX6_shiftsOnce_2 : decode cX6_shiftsOnce 2 = .ok (.iload_n 1, 1) := by decide +kernel
theorem dX6_shiftsOnce_3 : decode cX6_shiftsOnce 3 = .ok (.iconst 1, 1) := by decide +kernel
theorem dX6_shiftsOnce_4 : decode cX6_shiftsOnce 4 = .ok (.iadd, 1) := by decide +kernel
theorem dX6_shiftsOnce_5 : decode cX6_shiftsOnce 5 = .ok (.aload_n 0, 1) := by decide +kernel
theorem dX6_shiftsOnce_6 : decode cX6_shiftsOnce 6 = .ok (.getfield 9, 3) := by decide +kernel
theorem dX6_shiftsOnce_9 : decode cX6_shiftsOnce 9 = .ok (.iconst 1, 1) := by decide +kernel
theorem dX6_shiftsOnce_10 : decode cX6_shiftsOnce 10 = .ok (.iaload, 1) := by decide +kernel
theorem dX6_shiftsOnce_11 : decode cX6_shiftsOnce 11 = .ok (.if_icmp .ge 17, 3) := by decide +kernel
theorem dX6_shiftsOnce_14 : decode cX6_shiftsOnce 14 = .ok (.aload_n 0, 1) := by decide +kernel
theorem dX6_shiftsOnce_15 : decode cX6_shiftsOnce 15 = .ok (.iload_n 1, 1) := by decide +kernel
theorem dX6_shiftsOnce_16 : decode cX6_shiftsOnce 16 = .ok (.iload_n 1, 1) := by decide +kernel
theorem dX6_shiftsOnce_17 : decode cX6_shiftsOnce 17 = .ok (.iconst 1, 1) := by decide +kernel
theorem dX6_shiftsOnce_18 : decode cX6_shiftsOnce 18 = .ok (.iadd, 1) := by decide +kernel
theorem dX6_shiftsOnce_19 : decode cX6_shiftsOnce 19 = .ok (.invokevirtual 106, 3) := by decide +kernel
theorem dX6_shiftsOnce_22 : decode cX6_shiftsOnce 22 = .ok (.iinc 1 1, 3) := by decide +kernel
theorem dX6_shiftsOnce_25 : decode cX6_shiftsOnce 25 = .ok (.goto (-23), 3) := by decide +kernel
theorem dX6_shiftsOnce_28 : decode cX6_shiftsOnce 28 = .ok (.return_, 1) := by decide +kernel
theorem dX6_shift_0 : decode cX6_shift 0 = .ok (.aload_n 0, 1) := by decide +kernel
theorem dX6_shift_1 : decode cX6_shift 1 = .ok (.invokevirtual 117, 3) := by decide +kernel
theorem dX6_shift_4 : decode cX6_shift 4 = .ok (.aload_n 0, 1) := by decide +kernel
theorem dX6_shift_5 : decode cX6_shift 5 = .ok (.getfield 9, 3) := by decide +kernel
theorem dX6_shift_8 : decode cX6_shift 8 = .ok (.iconst 1, 1) := by decide +kernel
theorem dX6_shift_9 : decode cX6_shift 9 = .ok (.iaload, 1) := by decide +kernel
theorem dX6_shift_10 : decode cX6_shift 10 = .ok (.ireturn, 1) := by decide +kernel
theorem dX6_atHome_0 : decode cX6_atHome 0 = .ok (.iconst 0, 1) := by decide +kernel
theorem dX6_atHome_1 : decode cX6_atHome 1 = .ok (.istore_n 1, 1) := by decide +kernel
theorem dX6_atHome_2 : decode cX6_atHome 2 = .ok (.iconst 0, 1) := by decide +kernel
theorem dX6_atHome_3 : decode cX6_atHome 3 = .ok (.istore_n 2, 1) := by decide +kernel
theorem dX6_atHome_4 : decode cX6_atHome 4 = .ok (.iload_n 2, 1) := by decide +kernel
theorem dX6_atHome_5 : decode cX6_atHome 5 = .ok (.aload_n 0, 1) := by decide +kernel
theorem dX6_atHome_6 : decode cX6_atHome 6 = .ok (.getfield 9, 3) := by decide +kernel
theorem dX6_atHome_9 : decode cX6_atHome 9 = .ok (.iconst 1, 1) := by decide +kernel
theorem dX6_atHome_10 : decode cX6_atHome 10 = .ok (.iaload, 1) := by decide +kernel
theorem dX6_atHome_11 : decode cX6_atHome 11 = .ok (.if_icmp .ge 29, 3) := by decide +kernel
theorem dX6_atHome_14 : decode cX6_atHome 14 = .ok (.iload_n 1, 1) := by decide +kernel
theorem dX6_atHome_15 : decode cX6_atHome 15 = .ok (.aload_n 0, 1) := by decide +kernel
theorem dX6_atHome_16 : decode cX6_atHome 16 = .ok (.iload_n 2, 1) := by decide +kernel
theorem dX6_atHome_17 : decode cX6_atHome 17 = .ok (.iconst 2, 1) := by decide +kernel
theorem dX6_atHome_18 : decode cX6_atHome 18 = .ok (.invokevirtual 57, 3) := by decide +kernel
theorem dX6_atHome_21 : decode cX6_atHome 21 = .ok (.iload_n 2, 1) := by decide +kernel
theorem dX6_atHome_22 : decode cX6_atHome 22 = .ok (.if_icmp .ne 9, 3) := by decide +kernel
theorem dX6_atHome_25 : decode cX6_atHome 25 = .ok (.iconst 1, 1) := by decide +kernel
theorem dX6_atHome_26 : decode cX6_atHome 26 = .ok (.iload_n 2, 1) := by decide +kernel
theorem dX6_atHome_27 : decode cX6_atHome 27 = .ok (.ishl, 1) := by decide +kernel
theorem dX6_atHome_28 : decode cX6_atHome 28 = .ok (.goto 4, 3) := by decide +kernel
theorem dX6_atHome_31 : decode cX6_atHome 31 = .ok (.iconst 0, 1) := by decide +kernel
theorem dX6_atHome_32 : decode cX6_atHome 32 = .ok (.ior, 1) := by decide +kernel
theorem dX6_atHome_33 : decode cX6_atHome 33 = .ok (.istore_n 1, 1) := by decide +kernel
theorem dX6_atHome_34 : decode cX6_atHome 34 = .ok (.iinc 2 1, 3) := by decide +kernel
theorem dX6_atHome_37 : decode cX6_atHome 37 = .ok (.goto (-33), 3) := by decide +kernel
theorem dX6_atHome_40 : decode cX6_atHome 40 = .ok (.iload_n 1, 1) := by decide +kernel
theorem dX6_atHome_41 : decode cX6_atHome 41 = .ok (.ireturn, 1) := by decide +kernel
theorem dX6_back_0 : decode cX6_back 0 = .ok (.aload_n 0, 1) := by decide +kernel
theorem dX6_back_1 : decode cX6_back 1 = .ok (.invokevirtual 120, 3) := by decide +kernel
theorem dX6_back_4 : decode cX6_back 4 = .ok (.iconst 0, 1) := by decide +kernel
theorem dX6_back_5 : decode cX6_back 5 = .ok (.istore_n 1, 1) := by decide +kernel
theorem dX6_back_6 : decode cX6_back 6 = .ok (.iload_n 1, 1) := by decide +kernel
theorem dX6_back_7 : decode cX6_back 7 = .ok (.bipush 8, 2) := by decide +kernel
theorem dX6_back_9 : decode cX6_back 9 = .ok (.if_icmp .gt 30, 3) := by decide +kernel
theorem dX6_back_12 : decode cX6_back 12 = .ok (.aload_n 0, 1) := by decide +kernel
theorem dX6_back_13 : decode cX6_back 13 = .ok (.invokevirtual 123, 3) := by decide +kernel
theorem dX6_back_16 : decode cX6_back 16 = .ok (.iconst 1, 1) := by decide +kernel
theorem dX6_back_17 : decode cX6_back 17 = .ok (.aload_n 0, 1) := by decide +kernel
theorem dX6_back_18 : decode cX6_back 18 = .ok (.getfield 9, 3) := by decide +kernel
theorem dX6_back_21 : decode cX6_back 21 = .ok (.iconst 1, 1) := by decide +kernel
theorem dX6_back_22 : decode cX6_back 22 = .ok (.iaload, 1) := by decide +kernel
theorem dX6_back_23 : decode cX6_back 23 = .ok (.ishl, 1) := by decide +kernel
theorem dX6_back_24 : decode cX6_back 24 = .ok (.iconst 1, 1) := by decide +kernel
theorem dX6_back_25 : decode cX6_back 25 = .ok (.isub, 1) := by decide +kernel
theorem dX6_back_26 : decode cX6_back 26 = .ok (.if_icmp .eq 13, 3) := by decide +kernel
theorem dX6_back_29 : decode cX6_back 29 = .ok (.aload_n 0, 1) := by decide +kernel
theorem dX6_back_30 : decode cX6_back 30 = .ok (.invokevirtual 117, 3) := by decide +kernel
theorem dX6_back_33 : decode cX6_back 33 = .ok (.iinc 1 1, 3) := by decide +kernel
theorem dX6_back_36 : decode cX6_back 36 = .ok (.goto (-30), 3) := by decide +kernel
theorem dX6_back_39 : decode cX6_back 39 = .ok (.aload_n 0, 1) := by decide +kernel
theorem dX6_back_40 : decode cX6_back 40 = .ok (.invokevirtual 126, 3) := by decide +kernel
theorem dX6_back_43 : decode cX6_back 43 = .ok (.iload_n 1, 1) := by decide +kernel
theorem dX6_back_44 : decode cX6_back 44 = .ok (.bipush 8, 2) := by decide +kernel
theorem dX6_back_46 : decode cX6_back 46 = .ok (.if_icmp .le 12, 3) := by decide +kernel
theorem dX6_back_49 : decode cX6_back 49 = .ok (.aload_n 0, 1) := by decide +kernel
theorem dX6_back_50 : decode cX6_back 50 = .ok (.ldc 36, 2) := by decide +kernel
theorem dX6_back_52 : decode cX6_back 52 = .ok (.invokevirtual 37, 3) := by decide +kernel
theorem dX6_back_55 : decode cX6_back 55 = .ok (.goto 4, 3) := by decide +kernel
theorem dX6_back_58 : decode cX6_back 58 = .ok (.iload_n 1, 1) := by decide +kernel
theorem dX6_back_59 : decode cX6_back 59 = .ok (.ireturn, 1) := by decide +kernel
theorem dX6_stone_0 : decode cX6_stone 0 = .ok (.aload_n 0, 1) := by decide +kernel
theorem dX6_stone_1 : decode cX6_stone 1 = .ok (.iload_n 1, 1) := by decide +kernel
theorem dX6_stone_2 : decode cX6_stone 2 = .ok (.invokevirtual 79, 3) := by decide +kernel
theorem dX6_stone_5 : decode cX6_stone 5 = .ok (.ifCond .eq 14, 3) := by decide +kernel
theorem dX6_stone_8 : decode cX6_stone 8 = .ok (.iload_n 2, 1) := by decide +kernel
theorem dX6_stone_9 : decode cX6_stone 9 = .ok (.i2l, 1) := by decide +kernel
theorem dX6_stone_10 : decode cX6_stone 10 = .ok (.iconst 0, 1) := by decide +kernel
theorem dX6_stone_11 : decode cX6_stone 11 = .ok (.bipush 20, 2) := by decide +kernel
theorem dX6_stone_13 : decode cX6_stone 13 = .ok (.invokestatic 41, 3) := by decide +kernel
theorem dX6_stone_16 : decode cX6_stone 16 = .ok (.ifCond .ne 10, 3) := by decide +kernel
theorem dX6_stone_19 : decode cX6_stone 19 = .ok (.aload_n 0, 1) := by decide +kernel
theorem dX6_stone_20 : decode cX6_stone 20 = .ok (.ldc 35, 2) := by decide +kernel
theorem dX6_stone_22 : decode cX6_stone 22 = .ok (.invokevirtual 37, 3) := by decide +kernel
theorem dX6_stone_25 : decode cX6_stone 25 = .ok (.ireturn, 1) := by decide +kernel
theorem dX6_stone_26 : decode cX6_stone 26 = .ok (.iload_n 1, 1) := by decide +kernel
theorem dX6_stone_27 : decode cX6_stone 27 = .ok (.istore_n 3, 1) := by decide +kernel
theorem dX6_stone_28 : decode cX6_stone 28 = .ok (.iconst 0, 1) := by decide +kernel
theorem dX6_stone_29 : decode cX6_stone 29 = .ok (.istore 4, 2) := by decide +kernel
theorem dX6_stone_31 : decode cX6_stone 31 = .ok (.iload 4, 2) := by decide +kernel
theorem dX6_stone_33 : decode cX6_stone 33 = .ok (.iload_n 2, 1) := by decide +kernel
theorem dX6_stone_34 : decode cX6_stone 34 = .ok (.if_icmp .ge 16, 3) := by decide +kernel
theorem dX6_stone_37 : decode cX6_stone 37 = .ok (.aload_n 0, 1) := by decide +kernel
theorem dX6_stone_38 : decode cX6_stone 38 = .ok (.iload_n 3, 1) := by decide +kernel
theorem dX6_stone_39 : decode cX6_stone 39 = .ok (.iconst 2, 1) := by decide +kernel
theorem dX6_stone_40 : decode cX6_stone 40 = .ok (.invokevirtual 57, 3) := by decide +kernel
theorem dX6_stone_43 : decode cX6_stone 43 = .ok (.istore_n 3, 1) := by decide +kernel
theorem dX6_stone_44 : decode cX6_stone 44 = .ok (.iinc 4 1, 3) := by decide +kernel
theorem dX6_stone_47 : decode cX6_stone 47 = .ok (.goto (-16), 3) := by decide +kernel
theorem dX6_stone_50 : decode cX6_stone 50 = .ok (.iload_n 3, 1) := by decide +kernel
theorem dX6_stone_51 : decode cX6_stone 51 = .ok (.ireturn, 1) := by decide +kernel
theorem dX6_home_0 : decode cX6_home 0 = .ok (.iconst 0, 1) := by decide +kernel
theorem dX6_home_1 : decode cX6_home 1 = .ok (.istore_n 1, 1) := by decide +kernel
theorem dX6_home_2 : decode cX6_home 2 = .ok (.iconst 0, 1) := by decide +kernel
theorem dX6_home_3 : decode cX6_home 3 = .ok (.istore_n 2, 1) := by decide +kernel
theorem dX6_home_4 : decode cX6_home 4 = .ok (.iconst 0, 1) := by decide +kernel
theorem dX6_home_5 : decode cX6_home 5 = .ok (.istore_n 3, 1) := by decide +kernel
theorem dX6_home_6 : decode cX6_home 6 = .ok (.iload_n 3, 1) := by decide +kernel
theorem dX6_home_7 : decode cX6_home 7 = .ok (.aload_n 0, 1) := by decide +kernel
theorem dX6_home_8 : decode cX6_home 8 = .ok (.getfield 9, 3) := by decide +kernel
theorem dX6_home_11 : decode cX6_home 11 = .ok (.iconst 1, 1) := by decide +kernel
theorem dX6_home_12 : decode cX6_home 12 = .ok (.iaload, 1) := by decide +kernel
theorem dX6_home_13 : decode cX6_home 13 = .ok (.if_icmp .ge 57, 3) := by decide +kernel
theorem dX6_home_16 : decode cX6_home 16 = .ok (.iload_n 3, 1) := by decide +kernel
theorem dX6_home_17 : decode cX6_home 17 = .ok (.istore 4, 2) := by decide +kernel
theorem dX6_home_19 : decode cX6_home 19 = .ok (.iload_n 2, 1) := by decide +kernel
theorem dX6_home_20 : decode cX6_home 20 = .ok (.iload_n 1, 1) := by decide +kernel
theorem dX6_home_21 : decode cX6_home 21 = .ok (.iload_n 3, 1) := by decide +kernel
theorem dX6_home_22 : decode cX6_home 22 = .ok (.ishr, 1) := by decide +kernel
theorem dX6_home_23 : decode cX6_home 23 = .ok (.iconst 1, 1) := by decide +kernel
theorem dX6_home_24 : decode cX6_home 24 = .ok (.iand, 1) := by decide +kernel
theorem dX6_home_25 : decode cX6_home 25 = .ok (.iconst 1, 1) := by decide +kernel
theorem dX6_home_26 : decode cX6_home 26 = .ok (.if_icmp .ne 7, 3) := by decide +kernel
theorem dX6_home_29 : decode cX6_home 29 = .ok (.iconst 1, 1) := by decide +kernel
theorem dX6_home_30 : decode cX6_home 30 = .ok (.goto 4, 3) := by decide +kernel
theorem dX6_home_33 : decode cX6_home 33 = .ok (.iconst 0, 1) := by decide +kernel
theorem dX6_home_34 : decode cX6_home 34 = .ok (.iadd, 1) := by decide +kernel
theorem dX6_home_35 : decode cX6_home 35 = .ok (.istore_n 2, 1) := by decide +kernel
theorem dX6_home_36 : decode cX6_home 36 = .ok (.iload_n 1, 1) := by decide +kernel
theorem dX6_home_37 : decode cX6_home 37 = .ok (.iload 4, 2) := by decide +kernel
theorem dX6_home_39 : decode cX6_home 39 = .ok (.ishr, 1) := by decide +kernel
theorem dX6_home_40 : decode cX6_home 40 = .ok (.iconst 1, 1) := by decide +kernel
theorem dX6_home_41 : decode cX6_home 41 = .ok (.iand, 1) := by decide +kernel
theorem dX6_home_42 : decode cX6_home 42 = .ok (.ifCond .ne 22, 3) := by decide +kernel
theorem dX6_home_45 : decode cX6_home 45 = .ok (.iload_n 1, 1) := by decide +kernel
theorem dX6_home_46 : decode cX6_home 46 = .ok (.iconst 1, 1) := by decide +kernel
theorem dX6_home_47 : decode cX6_home 47 = .ok (.iload 4, 2) := by decide +kernel
theorem dX6_home_49 : decode cX6_home 49 = .ok (.ishl, 1) := by decide +kernel
theorem dX6_home_50 : decode cX6_home 50 = .ok (.ior, 1) := by decide +kernel
theorem dX6_home_51 : decode cX6_home 51 = .ok (.istore_n 1, 1) := by decide +kernel
theorem dX6_home_52 : decode cX6_home 52 = .ok (.aload_n 0, 1) := by decide +kernel
theorem dX6_home_53 : decode cX6_home 53 = .ok (.iload 4, 2) := by decide +kernel
theorem dX6_home_55 : decode cX6_home 55 = .ok (.iconst 2, 1) := by decide +kernel
theorem dX6_home_56 : decode cX6_home 56 = .ok (.invokevirtual 57, 3) := by decide +kernel
theorem dX6_home_59 : decode cX6_home 59 = .ok (.istore 4, 2) := by decide +kernel
theorem dX6_home_61 : decode cX6_home 61 = .ok (.goto (-25), 3) := by decide +kernel
theorem dX6_home_64 : decode cX6_home 64 = .ok (.iinc 3 1, 3) := by decide +kernel
theorem dX6_home_67 : decode cX6_home 67 = .ok (.goto (-61), 3) := by decide +kernel
theorem dX6_home_70 : decode cX6_home 70 = .ok (.iload_n 2, 1) := by decide +kernel
theorem dX6_home_71 : decode cX6_home 71 = .ok (.ireturn, 1) := by decide +kernel
theorem dX6_goes_0 : decode cX6_goes 0 = .ok (.iconst 0, 1) := by decide +kernel
theorem dX6_goes_1 : decode cX6_goes 1 = .ok (.istore_n 1, 1) := by decide +kernel
theorem dX6_goes_2 : decode cX6_goes 2 = .ok (.iload_n 1, 1) := by decide +kernel
theorem dX6_goes_3 : decode cX6_goes 3 = .ok (.aload_n 0, 1) := by decide +kernel
theorem dX6_goes_4 : decode cX6_goes 4 = .ok (.getfield 9, 3) := by decide +kernel
theorem dX6_goes_7 : decode cX6_goes 7 = .ok (.iconst 1, 1) := by decide +kernel
theorem dX6_goes_8 : decode cX6_goes 8 = .ok (.iaload, 1) := by decide +kernel
theorem dX6_goes_9 : decode cX6_goes 9 = .ok (.if_icmp .ge 24, 3) := by decide +kernel
theorem dX6_goes_12 : decode cX6_goes 12 = .ok (.aload_n 0, 1) := by decide +kernel
theorem dX6_goes_13 : decode cX6_goes 13 = .ok (.aload_n 0, 1) := by decide +kernel
theorem dX6_goes_14 : decode cX6_goes 14 = .ok (.iload_n 1, 1) := by decide +kernel
theorem dX6_goes_15 : decode cX6_goes 15 = .ok (.iconst 0, 1) := by decide +kernel
theorem dX6_goes_16 : decode cX6_goes 16 = .ok (.invokevirtual 57, 3) := by decide +kernel
theorem dX6_goes_19 : decode cX6_goes 19 = .ok (.aload_n 0, 1) := by decide +kernel
theorem dX6_goes_20 : decode cX6_goes 20 = .ok (.iload_n 1, 1) := by decide +kernel
theorem dX6_goes_21 : decode cX6_goes 21 = .ok (.invokevirtual 71, 3) := by decide +kernel
theorem dX6_goes_24 : decode cX6_goes 24 = .ok (.invokevirtual 102, 3) := by decide +kernel
theorem dX6_goes_27 : decode cX6_goes 27 = .ok (.iinc 1 1, 3) := by decide +kernel
theorem dX6_goes_30 : decode cX6_goes 30 = .ok (.goto (-28), 3) := by decide +kernel
theorem dX6_goes_33 : decode cX6_goes 33 = .ok (.iconst 0, 1) := by decide +kernel
theorem dX6_goes_34 : decode cX6_goes 34 = .ok (.istore_n 1, 1) := by decide +kernel
theorem dX6_goes_35 : decode cX6_goes 35 = .ok (.iload_n 1, 1) := by decide +kernel
theorem dX6_goes_36 : decode cX6_goes 36 = .ok (.aload_n 0, 1) := by decide +kernel
theorem dX6_goes_37 : decode cX6_goes 37 = .ok (.getfield 9, 3) := by decide +kernel
theorem dX6_goes_40 : decode cX6_goes 40 = .ok (.iconst 1, 1) := by decide +kernel
theorem dX6_goes_41 : decode cX6_goes 41 = .ok (.iaload, 1) := by decide +kernel
theorem dX6_goes_42 : decode cX6_goes 42 = .ok (.if_icmp .ge 47, 3) := by decide +kernel
theorem dX6_goes_45 : decode cX6_goes 45 = .ok (.aload_n 0, 1) := by decide +kernel
theorem dX6_goes_46 : decode cX6_goes 46 = .ok (.invokevirtual 45, 3) := by decide +kernel
theorem dX6_goes_49 : decode cX6_goes 49 = .ok (.ifCond .ne 40, 3) := by decide +kernel
theorem dX6_goes_52 : decode cX6_goes 52 = .ok (.aload_n 0, 1) := by decide +kernel
theorem dX6_goes_53 : decode cX6_goes 53 = .ok (.getfield 9, 3) := by decide +kernel
theorem dX6_goes_56 : decode cX6_goes 56 = .ok (.bipush 30, 2) := by decide +kernel
theorem dX6_goes_58 : decode cX6_goes 58 = .ok (.iconst 2, 1) := by decide +kernel
theorem dX6_goes_59 : decode cX6_goes 59 = .ok (.iload_n 1, 1) := by decide +kernel
theorem dX6_goes_60 : decode cX6_goes 60 = .ok (.imul, 1) := by decide +kernel
theorem dX6_goes_61 : decode cX6_goes 61 = .ok (.iadd, 1) := by decide +kernel
theorem dX6_goes_62 : decode cX6_goes 62 = .ok (.iconst 1, 1) := by decide +kernel
theorem dX6_goes_63 : decode cX6_goes 63 = .ok (.iadd, 1) := by decide +kernel
theorem dX6_goes_64 : decode cX6_goes 64 = .ok (.aload_n 0, 1) := by decide +kernel
theorem dX6_goes_65 : decode cX6_goes 65 = .ok (.iload_n 1, 1) := by decide +kernel
theorem dX6_goes_66 : decode cX6_goes 66 = .ok (.iconst 1, 1) := by decide +kernel
theorem dX6_goes_67 : decode cX6_goes 67 = .ok (.invokevirtual 49, 3) := by decide +kernel
theorem dX6_goes_70 : decode cX6_goes 70 = .ok (.aload_n 0, 1) := by decide +kernel
theorem dX6_goes_71 : decode cX6_goes 71 = .ok (.iload_n 1, 1) := by decide +kernel
theorem dX6_goes_72 : decode cX6_goes 72 = .ok (.invokevirtual 85, 3) := by decide +kernel
theorem dX6_goes_75 : decode cX6_goes 75 = .ok (.isub, 1) := by decide +kernel
theorem dX6_goes_76 : decode cX6_goes 76 = .ok (.iconst 0, 1) := by decide +kernel
theorem dX6_goes_77 : decode cX6_goes 77 = .ok (.bipush 99, 2) := by decide +kernel
theorem dX6_goes_79 : decode cX6_goes 79 = .ok (.invokestatic 92, 3) := by decide +kernel
theorem dX6_goes_82 : decode cX6_goes 82 = .ok (.iastore, 1) := by decide +kernel
theorem dX6_goes_83 : decode cX6_goes 83 = .ok (.iinc 1 1, 3) := by decide +kernel
theorem dX6_goes_86 : decode cX6_goes 86 = .ok (.goto (-51), 3) := by decide +kernel
theorem dX6_goes_89 : decode cX6_goes 89 = .ok (.aload_n 0, 1) := by decide +kernel
theorem dX6_goes_90 : decode cX6_goes 90 = .ok (.getfield 9, 3) := by decide +kernel
theorem dX6_goes_93 : decode cX6_goes 93 = .ok (.iconst 0, 1) := by decide +kernel
theorem dX6_goes_94 : decode cX6_goes 94 = .ok (.dup2, 1) := by decide +kernel
theorem dX6_goes_95 : decode cX6_goes 95 = .ok (.iaload, 1) := by decide +kernel
theorem dX6_goes_96 : decode cX6_goes 96 = .ok (.iconst 1, 1) := by decide +kernel
theorem dX6_goes_97 : decode cX6_goes 97 = .ok (.iadd, 1) := by decide +kernel
theorem dX6_goes_98 : decode cX6_goes 98 = .ok (.iastore, 1) := by decide +kernel
theorem dX6_goes_99 : decode cX6_goes 99 = .ok (.return_, 1) := by decide +kernel
theorem dX6_goesFor_0 : decode cX6_goesFor 0 = .ok (.iconst 0, 1) := by decide +kernel
theorem dX6_goesFor_1 : decode cX6_goesFor 1 = .ok (.istore_n 2, 1) := by decide +kernel
theorem dX6_goesFor_2 : decode cX6_goesFor 2 = .ok (.iload_n 2, 1) := by decide +kernel
theorem dX6_goesFor_3 : decode cX6_goesFor 3 = .ok (.iload_n 1, 1) := by decide +kernel
theorem dX6_goesFor_4 : decode cX6_goesFor 4 = .ok (.if_icmp .ge 13, 3) := by decide +kernel
theorem dX6_goesFor_7 : decode cX6_goesFor 7 = .ok (.aload_n 0, 1) := by decide +kernel
theorem dX6_goesFor_8 : decode cX6_goesFor 8 = .ok (.invokevirtual 129, 3) := by decide +kernel
theorem dX6_goesFor_11 : decode cX6_goesFor 11 = .ok (.iinc 2 1, 3) := by decide +kernel
theorem dX6_goesFor_14 : decode cX6_goesFor 14 = .ok (.goto (-12), 3) := by decide +kernel
theorem dX6_goesFor_17 : decode cX6_goesFor 17 = .ok (.return_, 1) := by decide +kernel
theorem dX6_allMoney_0 : decode cX6_allMoney 0 = .ok (.iconst 0, 1) := by decide +kernel
theorem dX6_allMoney_1 : decode cX6_allMoney 1 = .ok (.istore_n 1, 1) := by decide +kernel
theorem dX6_allMoney_2 : decode cX6_allMoney 2 = .ok (.iconst 0, 1) := by decide +kernel
theorem dX6_allMoney_3 : decode cX6_allMoney 3 = .ok (.istore_n 2, 1) := by decide +kernel
theorem dX6_allMoney_4 : decode cX6_allMoney 4 = .ok (.iload_n 2, 1) := by decide +kernel
theorem dX6_allMoney_5 : decode cX6_allMoney 5 = .ok (.iconst 4, 1) := by decide +kernel
theorem dX6_allMoney_6 : decode cX6_allMoney 6 = .ok (.if_icmp .ge 20, 3) := by decide +kernel
theorem dX6_allMoney_9 : decode cX6_allMoney 9 = .ok (.iload_n 1, 1) := by decide +kernel
theorem dX6_allMoney_10 : decode cX6_allMoney 10 = .ok (.aload_n 0, 1) := by decide +kernel
theorem dX6_allMoney_11 : decode cX6_allMoney 11 = .ok (.getfield 9, 3) := by decide +kernel
theorem dX6_allMoney_14 : decode cX6_allMoney 14 = .ok (.iconst 2, 1) := by decide +kernel
theorem dX6_allMoney_15 : decode cX6_allMoney 15 = .ok (.iload_n 2, 1) := by decide +kernel
theorem dX6_allMoney_16 : decode cX6_allMoney 16 = .ok (.iadd, 1) := by decide +kernel
theorem dX6_allMoney_17 : decode cX6_allMoney 17 = .ok (.iaload, 1) := by decide +kernel
theorem dX6_allMoney_18 : decode cX6_allMoney 18 = .ok (.iadd, 1) := by decide +kernel
theorem dX6_allMoney_19 : decode cX6_allMoney 19 = .ok (.istore_n 1, 1) := by decide +kernel
theorem dX6_allMoney_20 : decode cX6_allMoney 20 = .ok (.iinc 2 1, 3) := by decide +kernel
theorem dX6_allMoney_23 : decode cX6_allMoney 23 = .ok (.goto (-19), 3) := by decide +kernel
theorem dX6_allMoney_26 : decode cX6_allMoney 26 = .ok (.iload_n 1, 1) := by decide +kernel
theorem dX6_allMoney_27 : decode cX6_allMoney 27 = .ok (.ireturn, 1) := by decide +kernel
theorem dX6_hours_0 : decode cX6_hours 0 = .ok (.iload_n 1, 1) := by decide +kernel
theorem dX6_hours_1 : decode cX6_hours 1 = .ok (.i2l, 1) := by decide +kernel
theorem dX6_hours_2 : decode cX6_hours 2 = .ok (.iconst 1, 1) := by decide +kernel
theorem dX6_hours_3 : decode cX6_hours 3 = .ok (.sipush 200, 3) := by decide +kernel
theorem dX6_hours_6 : decode cX6_hours 6 = .ok (.invokestatic 41, 3) := by decide +kernel
theorem dX6_hours_9 : decode cX6_hours 9 = .ok (.ifCond .ne 10, 3) := by decide +kernel
theorem dX6_hours_12 : decode cX6_hours 12 = .ok (.aload_n 0, 1) := by decide +kernel
theorem dX6_hours_13 : decode cX6_hours 13 = .ok (.ldc 35, 2) := by decide +kernel
theorem dX6_hours_15 : decode cX6_hours 15 = .ok (.invokevirtual 37, 3) := by decide +kernel
theorem dX6_hours_18 : decode cX6_hours 18 = .ok (.ireturn, 1) := by decide +kernel
theorem dX6_hours_19 : decode cX6_hours 19 = .ok (.aload_n 0, 1) := by decide +kernel
theorem dX6_hours_20 : decode cX6_hours 20 = .ok (.getfield 9, 3) := by decide +kernel
theorem dX6_hours_23 : decode cX6_hours 23 = .ok (.iconst 0, 1) := by decide +kernel
theorem dX6_hours_24 : decode cX6_hours 24 = .ok (.iaload, 1) := by decide +kernel
theorem dX6_hours_25 : decode cX6_hours 25 = .ok (.iload_n 1, 1) := by decide +kernel
theorem dX6_hours_26 : decode cX6_hours 26 = .ok (.iadd, 1) := by decide +kernel
theorem dX6_hours_27 : decode cX6_hours 27 = .ok (.ldc 67, 2) := by decide +kernel
theorem dX6_hours_29 : decode cX6_hours 29 = .ok (.if_icmp .le 10, 3) := by decide +kernel
theorem dX6_hours_32 : decode cX6_hours 32 = .ok (.aload_n 0, 1) := by decide +kernel
theorem dX6_hours_33 : decode cX6_hours 33 = .ok (.ldc 116, 2) := by decide +kernel
theorem dX6_hours_35 : decode cX6_hours 35 = .ok (.invokevirtual 37, 3) := by decide +kernel
theorem dX6_hours_38 : decode cX6_hours 38 = .ok (.ireturn, 1) := by decide +kernel
theorem dX6_hours_39 : decode cX6_hours 39 = .ok (.aload_n 0, 1) := by decide +kernel
theorem dX6_hours_40 : decode cX6_hours 40 = .ok (.iload_n 1, 1) := by decide +kernel
theorem dX6_hours_41 : decode cX6_hours 41 = .ok (.invokevirtual 132, 3) := by decide +kernel
theorem dX6_hours_44 : decode cX6_hours 44 = .ok (.aload_n 0, 1) := by decide +kernel
theorem dX6_hours_45 : decode cX6_hours 45 = .ok (.invokevirtual 136, 3) := by decide +kernel
theorem dX6_hours_48 : decode cX6_hours 48 = .ok (.ireturn, 1) := by decide +kernel
theorem dX6_allFine_0 : decode cX6_allFine 0 = .ok (.iconst 0, 1) := by decide +kernel
theorem dX6_allFine_1 : decode cX6_allFine 1 = .ok (.istore_n 1, 1) := by decide +kernel
theorem dX6_allFine_2 : decode cX6_allFine 2 = .ok (.iconst 0, 1) := by decide +kernel
theorem dX6_allFine_3 : decode cX6_allFine 3 = .ok (.istore_n 2, 1) := by decide +kernel
theorem dX6_allFine_4 : decode cX6_allFine 4 = .ok (.iload_n 2, 1) := by decide +kernel
theorem dX6_allFine_5 : decode cX6_allFine 5 = .ok (.aload_n 0, 1) := by decide +kernel
theorem dX6_allFine_6 : decode cX6_allFine 6 = .ok (.getfield 9, 3) := by decide +kernel
theorem dX6_allFine_9 : decode cX6_allFine 9 = .ok (.iconst 1, 1) := by decide +kernel
theorem dX6_allFine_10 : decode cX6_allFine 10 = .ok (.iaload, 1) := by decide +kernel
theorem dX6_allFine_11 : decode cX6_allFine 11 = .ok (.if_icmp .ge 18, 3) := by decide +kernel
theorem dX6_allFine_14 : decode cX6_allFine 14 = .ok (.iload_n 1, 1) := by decide +kernel
theorem dX6_allFine_15 : decode cX6_allFine 15 = .ok (.aload_n 0, 1) := by decide +kernel
theorem dX6_allFine_16 : decode cX6_allFine 16 = .ok (.iload_n 2, 1) := by decide +kernel
theorem dX6_allFine_17 : decode cX6_allFine 17 = .ok (.iconst 1, 1) := by decide +kernel
theorem dX6_allFine_18 : decode cX6_allFine 18 = .ok (.invokevirtual 49, 3) := by decide +kernel
theorem dX6_allFine_21 : decode cX6_allFine 21 = .ok (.iadd, 1) := by decide +kernel
theorem dX6_allFine_22 : decode cX6_allFine 22 = .ok (.istore_n 1, 1) := by decide +kernel
theorem dX6_allFine_23 : decode cX6_allFine 23 = .ok (.iinc 2 1, 3) := by decide +kernel
theorem dX6_allFine_26 : decode cX6_allFine 26 = .ok (.goto (-22), 3) := by decide +kernel
theorem dX6_allFine_29 : decode cX6_allFine 29 = .ok (.iload_n 1, 1) := by decide +kernel
theorem dX6_allFine_30 : decode cX6_allFine 30 = .ok (.ireturn, 1) := by decide +kernel
theorem dX6_now_0 : decode cX6_now 0 = .ok (.iload_n 1, 1) := by decide +kernel
theorem dX6_now_1 : decode cX6_now 1 = .ok (.tableswitch 79 0 5 #[39, 46, 51, 64, 69, 74], 39) := by decide +kernel
theorem dX6_now_40 : decode cX6_now 40 = .ok (.aload_n 0, 1) := by decide +kernel
theorem dX6_now_41 : decode cX6_now 41 = .ok (.getfield 9, 3) := by decide +kernel
theorem dX6_now_44 : decode cX6_now 44 = .ok (.iconst 0, 1) := by decide +kernel
theorem dX6_now_45 : decode cX6_now 45 = .ok (.iaload, 1) := by decide +kernel
theorem dX6_now_46 : decode cX6_now 46 = .ok (.ireturn, 1) := by decide +kernel
theorem dX6_now_47 : decode cX6_now 47 = .ok (.aload_n 0, 1) := by decide +kernel
theorem dX6_now_48 : decode cX6_now 48 = .ok (.invokevirtual 45, 3) := by decide +kernel
theorem dX6_now_51 : decode cX6_now 51 = .ok (.ireturn, 1) := by decide +kernel
theorem dX6_now_52 : decode cX6_now 52 = .ok (.aload_n 0, 1) := by decide +kernel
theorem dX6_now_53 : decode cX6_now 53 = .ok (.invokevirtual 53, 3) := by decide +kernel
theorem dX6_now_56 : decode cX6_now 56 = .ok (.ifCond .eq 7, 3) := by decide +kernel
theorem dX6_now_59 : decode cX6_now 59 = .ok (.iconst 1, 1) := by decide +kernel
theorem dX6_now_60 : decode cX6_now 60 = .ok (.goto 4, 3) := by decide +kernel
theorem dX6_now_63 : decode cX6_now 63 = .ok (.iconst 0, 1) := by decide +kernel
theorem dX6_now_64 : decode cX6_now 64 = .ok (.ireturn, 1) := by decide +kernel
theorem dX6_now_65 : decode cX6_now 65 = .ok (.aload_n 0, 1) := by decide +kernel
theorem dX6_now_66 : decode cX6_now 66 = .ok (.invokevirtual 136, 3) := by decide +kernel
theorem dX6_now_69 : decode cX6_now 69 = .ok (.ireturn, 1) := by decide +kernel
theorem dX6_now_70 : decode cX6_now 70 = .ok (.aload_n 0, 1) := by decide +kernel
theorem dX6_now_71 : decode cX6_now 71 = .ok (.invokevirtual 123, 3) := by decide +kernel
theorem dX6_now_74 : decode cX6_now 74 = .ok (.ireturn, 1) := by decide +kernel
theorem dX6_now_75 : decode cX6_now 75 = .ok (.aload_n 0, 1) := by decide +kernel
theorem dX6_now_76 : decode cX6_now 76 = .ok (.invokevirtual 139, 3) := by decide +kernel
theorem dX6_now_79 : decode cX6_now 79 = .ok (.ireturn, 1) := by decide +kernel
theorem dX6_now_80 : decode cX6_now 80 = .ok (.aload_n 0, 1) := by decide +kernel
theorem dX6_now_81 : decode cX6_now 81 = .ok (.ldc 35, 2) := by decide +kernel
theorem dX6_now_83 : decode cX6_now 83 = .ok (.invokevirtual 37, 3) := by decide +kernel
theorem dX6_now_86 : decode cX6_now 86 = .ok (.ireturn, 1) := by decide +kernel
theorem dX6_thinks_0 : decode cX6_thinks 0 = .ok (.aload_n 0, 1) := by decide +kernel
theorem dX6_thinks_1 : decode cX6_thinks 1 = .ok (.getfield 9, 3) := by decide +kernel
theorem dX6_thinks_4 : decode cX6_thinks 4 = .ok (.aload_n 0, 1) := by decide +kernel
theorem dX6_thinks_5 : decode cX6_thinks 5 = .ok (.getfield 16, 3) := by decide +kernel
theorem dX6_thinks_8 : decode cX6_thinks 8 = .ok (.invokestatic 142, 3) := by decide +kernel
theorem dX6_thinks_11 : decode cX6_thinks 11 = .ok (.return_, 1) := by decide +kernel
theorem dX6_putsBack_0 : decode cX6_putsBack 0 = .ok (.aload_n 0, 1) := by decide +kernel
theorem dX6_putsBack_1 : decode cX6_putsBack 1 = .ok (.getfield 16, 3) := by decide +kernel
theorem dX6_putsBack_4 : decode cX6_putsBack 4 = .ok (.aload_n 0, 1) := by decide +kernel
theorem dX6_putsBack_5 : decode cX6_putsBack 5 = .ok (.getfield 9, 3) := by decide +kernel
theorem dX6_putsBack_8 : decode cX6_putsBack 8 = .ok (.invokestatic 142, 3) := by decide +kernel
theorem dX6_putsBack_11 : decode cX6_putsBack 11 = .ok (.return_, 1) := by decide +kernel
theorem dX6_on_0 : decode cX6_on 0 = .ok (.iload_n 1, 1) := by decide +kernel
theorem dX6_on_1 : decode cX6_on 1 = .ok (.invokestatic 63, 3) := by decide +kernel
theorem dX6_on_4 : decode cX6_on 4 = .ok (.ifCond .eq 15, 3) := by decide +kernel
theorem dX6_on_7 : decode cX6_on 7 = .ok (.iload_n 2, 1) := by decide +kernel
theorem dX6_on_8 : decode cX6_on 8 = .ok (.i2l, 1) := by decide +kernel
theorem dX6_on_9 : decode cX6_on 9 = .ok (.iconst 0, 1) := by decide +kernel
theorem dX6_on_10 : decode cX6_on 10 = .ok (.sipush 400, 3) := by decide +kernel
theorem dX6_on_13 : decode cX6_on 13 = .ok (.invokestatic 41, 3) := by decide +kernel
theorem dX6_on_16 : decode cX6_on 16 = .ok (.ifCond .ne 10, 3) := by decide +kernel
theorem dX6_on_19 : decode cX6_on 19 = .ok (.aload_n 0, 1) := by decide +kernel
theorem dX6_on_20 : decode cX6_on 20 = .ok (.ldc 35, 2) := by decide +kernel
theorem dX6_on_22 : decode cX6_on 22 = .ok (.invokevirtual 37, 3) := by decide +kernel
theorem dX6_on_25 : decode cX6_on 25 = .ok (.ireturn, 1) := by decide +kernel
theorem dX6_on_26 : decode cX6_on 26 = .ok (.aload_n 0, 1) := by decide +kernel
theorem dX6_on_27 : decode cX6_on 27 = .ok (.invokevirtual 120, 3) := by decide +kernel
theorem dX6_on_30 : decode cX6_on 30 = .ok (.aload_n 0, 1) := by decide +kernel
theorem dX6_on_31 : decode cX6_on 31 = .ok (.iload_n 1, 1) := by decide +kernel
theorem dX6_on_32 : decode cX6_on 32 = .ok (.iload_n 2, 1) := by decide +kernel
theorem dX6_on_33 : decode cX6_on 33 = .ok (.invokevirtual 146, 3) := by decide +kernel
theorem dX6_on_36 : decode cX6_on 36 = .ok (.ireturn, 1) := by decide +kernel
theorem dX6_then_0 : decode cX6_then 0 = .ok (.aload_n 0, 1) := by decide +kernel
theorem dX6_then_1 : decode cX6_then 1 = .ok (.iload_n 1, 1) := by decide +kernel
theorem dX6_then_2 : decode cX6_then 2 = .ok (.invokevirtual 79, 3) := by decide +kernel
theorem dX6_then_5 : decode cX6_then 5 = .ok (.ifCond .eq 25, 3) := by decide +kernel
theorem dX6_then_8 : decode cX6_then 8 = .ok (.iload_n 2, 1) := by decide +kernel
theorem dX6_then_9 : decode cX6_then 9 = .ok (.i2l, 1) := by decide +kernel
theorem dX6_then_10 : decode cX6_then 10 = .ok (.iconst 0, 1) := by decide +kernel
theorem dX6_then_11 : decode cX6_then 11 = .ok (.sipush 400, 3) := by decide +kernel
theorem dX6_then_14 : decode cX6_then 14 = .ok (.invokestatic 41, 3) := by decide +kernel
theorem dX6_then_17 : decode cX6_then 17 = .ok (.ifCond .eq 13, 3) := by decide +kernel
theorem dX6_then_20 : decode cX6_then 20 = .ok (.iload_n 3, 1) := by decide +kernel
theorem dX6_then_21 : decode cX6_then 21 = .ok (.i2l, 1) := by decide +kernel
theorem dX6_then_22 : decode cX6_then 22 = .ok (.iconst 0, 1) := by decide +kernel
theorem dX6_then_23 : decode cX6_then 23 = .ok (.iconst 1, 1) := by decide +kernel
theorem dX6_then_24 : decode cX6_then 24 = .ok (.invokestatic 41, 3) := by decide +kernel
theorem dX6_then_27 : decode cX6_then 27 = .ok (.ifCond .ne 10, 3) := by decide +kernel
theorem dX6_then_30 : decode cX6_then 30 = .ok (.aload_n 0, 1) := by decide +kernel
theorem dX6_then_31 : decode cX6_then 31 = .ok (.ldc 35, 2) := by decide +kernel
theorem dX6_then_33 : decode cX6_then 33 = .ok (.invokevirtual 37, 3) := by decide +kernel
theorem dX6_then_36 : decode cX6_then 36 = .ok (.ireturn, 1) := by decide +kernel
theorem dX6_then_37 : decode cX6_then 37 = .ok (.aload_n 0, 1) := by decide +kernel
theorem dX6_then_38 : decode cX6_then 38 = .ok (.invokevirtual 120, 3) := by decide +kernel
theorem dX6_then_41 : decode cX6_then 41 = .ok (.aload_n 0, 1) := by decide +kernel
theorem dX6_then_42 : decode cX6_then 42 = .ok (.iload_n 2, 1) := by decide +kernel
theorem dX6_then_43 : decode cX6_then 43 = .ok (.invokevirtual 132, 3) := by decide +kernel
theorem dX6_then_46 : decode cX6_then 46 = .ok (.iload_n 3, 1) := by decide +kernel
theorem dX6_then_47 : decode cX6_then 47 = .ok (.ifCond .ne 11, 3) := by decide +kernel
theorem dX6_then_50 : decode cX6_then 50 = .ok (.aload_n 0, 1) := by decide +kernel
theorem dX6_then_51 : decode cX6_then 51 = .ok (.iload_n 1, 1) := by decide +kernel
theorem dX6_then_52 : decode cX6_then 52 = .ok (.invokevirtual 71, 3) := by decide +kernel
theorem dX6_then_55 : decode cX6_then 55 = .ok (.goto 14, 3) := by decide +kernel
theorem dX6_then_58 : decode cX6_then 58 = .ok (.aload_n 0, 1) := by decide +kernel
theorem dX6_then_59 : decode cX6_then 59 = .ok (.aload_n 0, 1) := by decide +kernel
theorem dX6_then_60 : decode cX6_then 60 = .ok (.iload_n 1, 1) := by decide +kernel
theorem dX6_then_61 : decode cX6_then 61 = .ok (.iconst 2, 1) := by decide +kernel
theorem dX6_then_62 : decode cX6_then 62 = .ok (.invokevirtual 57, 3) := by decide +kernel
theorem dX6_then_65 : decode cX6_then 65 = .ok (.iconst 1, 1) := by decide +kernel
theorem dX6_then_66 : decode cX6_then 66 = .ok (.invokevirtual 49, 3) := by decide +kernel
theorem dX6_then_69 : decode cX6_then 69 = .ok (.istore 4, 2) := by decide +kernel
theorem dX6_then_71 : decode cX6_then 71 = .ok (.aload_n 0, 1) := by decide +kernel
theorem dX6_then_72 : decode cX6_then 72 = .ok (.invokevirtual 126, 3) := by decide +kernel
theorem dX6_then_75 : decode cX6_then 75 = .ok (.iload 4, 2) := by decide +kernel
theorem dX6_then_77 : decode cX6_then 77 = .ok (.ireturn, 1) := by decide +kernel
theorem dX6_rich_0 : decode cX6_rich 0 = .ok (.iload_n 1, 1) := by decide +kernel
theorem dX6_rich_1 : decode cX6_rich 1 = .ok (.invokestatic 63, 3) := by decide +kernel
theorem dX6_rich_4 : decode cX6_rich 4 = .ok (.ifCond .eq 14, 3) := by decide +kernel
theorem dX6_rich_7 : decode cX6_rich 7 = .ok (.iload_n 2, 1) := by decide +kernel
theorem dX6_rich_8 : decode cX6_rich 8 = .ok (.i2l, 1) := by decide +kernel
theorem dX6_rich_9 : decode cX6_rich 9 = .ok (.iconst 0, 1) := by decide +kernel
theorem dX6_rich_10 : decode cX6_rich 10 = .ok (.ldc 67, 2) := by decide +kernel
theorem dX6_rich_12 : decode cX6_rich 12 = .ok (.invokestatic 41, 3) := by decide +kernel
theorem dX6_rich_15 : decode cX6_rich 15 = .ok (.ifCond .ne 10, 3) := by decide +kernel
theorem dX6_rich_18 : decode cX6_rich 18 = .ok (.aload_n 0, 1) := by decide +kernel
theorem dX6_rich_19 : decode cX6_rich 19 = .ok (.ldc 35, 2) := by decide +kernel
theorem dX6_rich_21 : decode cX6_rich 21 = .ok (.invokevirtual 37, 3) := by decide +kernel
theorem dX6_rich_24 : decode cX6_rich 24 = .ok (.ireturn, 1) := by decide +kernel
theorem dX6_rich_25 : decode cX6_rich 25 = .ok (.aload_n 0, 1) := by decide +kernel
theorem dX6_rich_26 : decode cX6_rich 26 = .ok (.invokevirtual 120, 3) := by decide +kernel
theorem dX6_rich_29 : decode cX6_rich 29 = .ok (.iconst 0, 1) := by decide +kernel
theorem dX6_rich_30 : decode cX6_rich 30 = .ok (.istore_n 3, 1) := by decide +kernel
theorem dX6_rich_31 : decode cX6_rich 31 = .ok (.iload_n 3, 1) := by decide +kernel
theorem dX6_rich_32 : decode cX6_rich 32 = .ok (.sipush 400, 3) := by decide +kernel
theorem dX6_rich_35 : decode cX6_rich 35 = .ok (.if_icmp .gt 25, 3) := by decide +kernel
theorem dX6_rich_38 : decode cX6_rich 38 = .ok (.aload_n 0, 1) := by decide +kernel
theorem dX6_rich_39 : decode cX6_rich 39 = .ok (.getfield 9, 3) := by decide +kernel
theorem dX6_rich_42 : decode cX6_rich 42 = .ok (.iconst 2, 1) := by decide +kernel
theorem dX6_rich_43 : decode cX6_rich 43 = .ok (.iload_n 1, 1) := by decide +kernel
theorem dX6_rich_44 : decode cX6_rich 44 = .ok (.iadd, 1) := by decide +kernel
theorem dX6_rich_45 : decode cX6_rich 45 = .ok (.iaload, 1) := by decide +kernel
theorem dX6_rich_46 : decode cX6_rich 46 = .ok (.iload_n 2, 1) := by decide +kernel
theorem dX6_rich_47 : decode cX6_rich 47 = .ok (.if_icmp .ge 13, 3) := by decide +kernel
theorem dX6_rich_50 : decode cX6_rich 50 = .ok (.aload_n 0, 1) := by decide +kernel
theorem dX6_rich_51 : decode cX6_rich 51 = .ok (.invokevirtual 129, 3) := by decide +kernel
theorem dX6_rich_54 : decode cX6_rich 54 = .ok (.iinc 3 1, 3) := by decide +kernel
theorem dX6_rich_57 : decode cX6_rich 57 = .ok (.goto (-26), 3) := by decide +kernel
theorem dX6_rich_60 : decode cX6_rich 60 = .ok (.aload_n 0, 1) := by decide +kernel
theorem dX6_rich_61 : decode cX6_rich 61 = .ok (.invokevirtual 126, 3) := by decide +kernel
theorem dX6_rich_64 : decode cX6_rich 64 = .ok (.iload_n 3, 1) := by decide +kernel
theorem dX6_rich_65 : decode cX6_rich 65 = .ok (.sipush 400, 3) := by decide +kernel
theorem dX6_rich_68 : decode cX6_rich 68 = .ok (.if_icmp .le 12, 3) := by decide +kernel
theorem dX6_rich_71 : decode cX6_rich 71 = .ok (.aload_n 0, 1) := by decide +kernel
theorem dX6_rich_72 : decode cX6_rich 72 = .ok (.ldc 36, 2) := by decide +kernel
theorem dX6_rich_74 : decode cX6_rich 74 = .ok (.invokevirtual 37, 3) := by decide +kernel
theorem dX6_rich_77 : decode cX6_rich 77 = .ok (.goto 4, 3) := by decide +kernel
theorem dX6_rich_80 : decode cX6_rich 80 = .ok (.iload_n 3, 1) := by decide +kernel
theorem dX6_rich_81 : decode cX6_rich 81 = .ok (.ireturn, 1) := by decide +kernel
theorem dX6_hasOn_0 : decode cX6_hasOn 0 = .ok (.aload_n 0, 1) := by decide +kernel
theorem dX6_hasOn_1 : decode cX6_hasOn 1 = .ok (.iload_n 2, 1) := by decide +kernel
theorem dX6_hasOn_2 : decode cX6_hasOn 2 = .ok (.invokevirtual 132, 3) := by decide +kernel
theorem dX6_hasOn_5 : decode cX6_hasOn 5 = .ok (.aload_n 0, 1) := by decide +kernel
theorem dX6_hasOn_6 : decode cX6_hasOn 6 = .ok (.getfield 9, 3) := by decide +kernel
theorem dX6_hasOn_9 : decode cX6_hasOn 9 = .ok (.iconst 2, 1) := by decide +kernel
theorem dX6_hasOn_10 : decode cX6_hasOn 10 = .ok (.iload_n 1, 1) := by decide +kernel
theorem dX6_hasOn_11 : decode cX6_hasOn 11 = .ok (.iadd, 1) := by decide +kernel
theorem dX6_hasOn_12 : decode cX6_hasOn 12 = .ok (.iaload, 1) := by decide +kernel
theorem dX6_hasOn_13 : decode cX6_hasOn 13 = .ok (.istore_n 3, 1) := by decide +kernel
theorem dX6_hasOn_14 : decode cX6_hasOn 14 = .ok (.aload_n 0, 1) := by decide +kernel
theorem dX6_hasOn_15 : decode cX6_hasOn 15 = .ok (.invokevirtual 126, 3) := by decide +kernel
theorem dX6_hasOn_18 : decode cX6_hasOn 18 = .ok (.iload_n 3, 1) := by decide +kernel
theorem dX6_hasOn_19 : decode cX6_hasOn 19 = .ok (.ireturn, 1) := by decide +kernel
theorem dX6_best_0 : decode cX6_best 0 = .ok (.iload_n 1, 1) := by decide +kernel
theorem dX6_best_1 : decode cX6_best 1 = .ok (.invokestatic 63, 3) := by decide +kernel
theorem dX6_best_4 : decode cX6_best 4 = .ok (.ifCond .eq 15, 3) := by decide +kernel
theorem dX6_best_7 : decode cX6_best 7 = .ok (.iload_n 2, 1) := by decide +kernel
theorem dX6_best_8 : decode cX6_best 8 = .ok (.i2l, 1) := by decide +kernel
theorem dX6_best_9 : decode cX6_best 9 = .ok (.iconst 1, 1) := by decide +kernel
theorem dX6_best_10 : decode cX6_best 10 = .ok (.sipush 200, 3) := by decide +kernel
theorem dX6_best_13 : decode cX6_best 13 = .ok (.invokestatic 41, 3) := by decide +kernel
theorem dX6_best_16 : decode cX6_best 16 = .ok (.ifCond .ne 10, 3) := by decide +kernel
theorem dX6_best_19 : decode cX6_best 19 = .ok (.aload_n 0, 1) := by decide +kernel
theorem dX6_best_20 : decode cX6_best 20 = .ok (.ldc 35, 2) := by decide +kernel
theorem dX6_best_22 : decode cX6_best 22 = .ok (.invokevirtual 37, 3) := by decide +kernel
theorem dX6_best_25 : decode cX6_best 25 = .ok (.ireturn, 1) := by decide +kernel
theorem dX6_best_26 : decode cX6_best 26 = .ok (.aload_n 0, 1) := by decide +kernel
theorem dX6_best_27 : decode cX6_best 27 = .ok (.invokevirtual 120, 3) := by decide +kernel
theorem dX6_best_30 : decode cX6_best 30 = .ok (.aload_n 0, 1) := by decide +kernel
theorem dX6_best_31 : decode cX6_best 31 = .ok (.iload_n 1, 1) := by decide +kernel
theorem dX6_best_32 : decode cX6_best 32 = .ok (.iload_n 2, 1) := by decide +kernel
theorem dX6_best_33 : decode cX6_best 33 = .ok (.invokevirtual 146, 3) := by decide +kernel
theorem dX6_best_36 : decode cX6_best 36 = .ok (.istore_n 3, 1) := by decide +kernel
theorem dX6_best_37 : decode cX6_best 37 = .ok (.iconst (-1), 1) := by decide +kernel
theorem dX6_best_38 : decode cX6_best 38 = .ok (.istore 4, 2) := by decide +kernel
theorem dX6_best_40 : decode cX6_best 40 = .ok (.iconst 0, 1) := by decide +kernel
theorem dX6_best_41 : decode cX6_best 41 = .ok (.istore 5, 2) := by decide +kernel
theorem dX6_best_43 : decode cX6_best 43 = .ok (.iload 5, 2) := by decide +kernel
theorem dX6_best_45 : decode cX6_best 45 = .ok (.aload_n 0, 1) := by decide +kernel
theorem dX6_best_46 : decode cX6_best 46 = .ok (.getfield 9, 3) := by decide +kernel
theorem dX6_best_49 : decode cX6_best 49 = .ok (.iconst 1, 1) := by decide +kernel
theorem dX6_best_50 : decode cX6_best 50 = .ok (.iaload, 1) := by decide +kernel
theorem dX6_best_51 : decode cX6_best 51 = .ok (.if_icmp .ge 95, 3) := by decide +kernel
theorem dX6_best_54 : decode cX6_best 54 = .ok (.iload 5, 2) := by decide +kernel
theorem dX6_best_56 : decode cX6_best 56 = .ok (.iconst 1, 1) := by decide +kernel
theorem dX6_best_57 : decode cX6_best 57 = .ok (.iadd, 1) := by decide +kernel
theorem dX6_best_58 : decode cX6_best 58 = .ok (.istore 6, 2) := by decide +kernel
theorem dX6_best_60 : decode cX6_best 60 = .ok (.iload 6, 2) := by decide +kernel
theorem dX6_best_62 : decode cX6_best 62 = .ok (.aload_n 0, 1) := by decide +kernel
theorem dX6_best_63 : decode cX6_best 63 = .ok (.getfield 9, 3) := by decide +kernel
theorem dX6_best_66 : decode cX6_best 66 = .ok (.iconst 1, 1) := by decide +kernel
theorem dX6_best_67 : decode cX6_best 67 = .ok (.iaload, 1) := by decide +kernel
theorem dX6_best_68 : decode cX6_best 68 = .ok (.if_icmp .ge 72, 3) := by decide +kernel
theorem dX6_best_71 : decode cX6_best 71 = .ok (.aload_n 0, 1) := by decide +kernel
theorem dX6_best_72 : decode cX6_best 72 = .ok (.iload 5, 2) := by decide +kernel
theorem dX6_best_74 : decode cX6_best 74 = .ok (.iload 6, 2) := by decide +kernel
theorem dX6_best_76 : decode cX6_best 76 = .ok (.invokevirtual 109, 3) := by decide +kernel
theorem dX6_best_79 : decode cX6_best 79 = .ok (.ifCond .eq 55, 3) := by decide +kernel
theorem dX6_best_82 : decode cX6_best 82 = .ok (.aload_n 0, 1) := by decide +kernel
theorem dX6_best_83 : decode cX6_best 83 = .ok (.iload 5, 2) := by decide +kernel
theorem dX6_best_85 : decode cX6_best 85 = .ok (.iload 6, 2) := by decide +kernel
theorem dX6_best_87 : decode cX6_best 87 = .ok (.invokevirtual 113, 3) := by decide +kernel
theorem dX6_best_90 : decode cX6_best 90 = .ok (.istore 7, 2) := by decide +kernel
theorem dX6_best_92 : decode cX6_best 92 = .ok (.aload_n 0, 1) := by decide +kernel
theorem dX6_best_93 : decode cX6_best 93 = .ok (.iload_n 1, 1) := by decide +kernel
theorem dX6_best_94 : decode cX6_best 94 = .ok (.iload_n 2, 1) := by decide +kernel
theorem dX6_best_95 : decode cX6_best 95 = .ok (.invokevirtual 146, 3) := by decide +kernel
theorem dX6_best_98 : decode cX6_best 98 = .ok (.istore 8, 2) := by decide +kernel
theorem dX6_best_100 : decode cX6_best 100 = .ok (.iload 8, 2) := by decide +kernel
theorem dX6_best_102 : decode cX6_best 102 = .ok (.iload_n 3, 1) := by decide +kernel
theorem dX6_best_103 : decode cX6_best 103 = .ok (.if_icmp .le 14, 3) := by decide +kernel
theorem dX6_best_106 : decode cX6_best 106 = .ok (.bipush 10, 2) := by decide +kernel
theorem dX6_best_108 : decode cX6_best 108 = .ok (.iload 5, 2) := by decide +kernel
theorem dX6_best_110 : decode cX6_best 110 = .ok (.imul, 1) := by decide +kernel
theorem dX6_best_111 : decode cX6_best 111 = .ok (.iload 6, 2) := by decide +kernel
theorem dX6_best_113 : decode cX6_best 113 = .ok (.iadd, 1) := by decide +kernel
theorem dX6_best_114 : decode cX6_best 114 = .ok (.goto 5, 3) := by decide +kernel
theorem dX6_best_117 : decode cX6_best 117 = .ok (.iload 4, 2) := by decide +kernel
theorem dX6_best_119 : decode cX6_best 119 = .ok (.istore 4, 2) := by decide +kernel
theorem dX6_best_121 : decode cX6_best 121 = .ok (.iload 8, 2) := by decide +kernel
theorem dX6_best_123 : decode cX6_best 123 = .ok (.iload_n 3, 1) := by decide +kernel
theorem dX6_best_124 : decode cX6_best 124 = .ok (.if_icmp .le 8, 3) := by decide +kernel
theorem dX6_best_127 : decode cX6_best 127 = .ok (.iload 8, 2) := by decide +kernel
theorem dX6_best_129 : decode cX6_best 129 = .ok (.goto 4, 3) := by decide +kernel
theorem dX6_best_132 : decode cX6_best 132 = .ok (.iload_n 3, 1) := by decide +kernel
theorem dX6_best_133 : decode cX6_best 133 = .ok (.istore_n 3, 1) := by decide +kernel
theorem dX6_best_134 : decode cX6_best 134 = .ok (.iinc 6 1, 3) := by decide +kernel
theorem dX6_best_137 : decode cX6_best 137 = .ok (.goto (-77), 3) := by decide +kernel
theorem dX6_best_140 : decode cX6_best 140 = .ok (.iinc 5 1, 3) := by decide +kernel
theorem dX6_best_143 : decode cX6_best 143 = .ok (.goto (-100), 3) := by decide +kernel
theorem dX6_best_146 : decode cX6_best 146 = .ok (.aload_n 0, 1) := by decide +kernel
theorem dX6_best_147 : decode cX6_best 147 = .ok (.iload 4, 2) := by decide +kernel
theorem dX6_best_149 : decode cX6_best 149 = .ok (.invokevirtual 149, 3) := by decide +kernel
theorem dX6_best_152 : decode cX6_best 152 = .ok (.ireturn, 1) := by decide +kernel
theorem dX6_worthIn_0 : decode cX6_worthIn 0 = .ok (.iconst 0, 1) := by decide +kernel
theorem dX6_worthIn_1 : decode cX6_worthIn 1 = .ok (.istore_n 3, 1) := by decide +kernel
theorem dX6_worthIn_2 : decode cX6_worthIn 2 = .ok (.iconst 0, 1) := by decide +kernel
theorem dX6_worthIn_3 : decode cX6_worthIn 3 = .ok (.istore 4, 2) := by decide +kernel
theorem dX6_worthIn_5 : decode cX6_worthIn 5 = .ok (.iload 4, 2) := by decide +kernel
theorem dX6_worthIn_7 : decode cX6_worthIn 7 = .ok (.iload_n 2, 1) := by decide +kernel
theorem dX6_worthIn_8 : decode cX6_worthIn 8 = .ok (.if_icmp .ge 21, 3) := by decide +kernel
theorem dX6_worthIn_11 : decode cX6_worthIn 11 = .ok (.iload_n 3, 1) := by decide +kernel
theorem dX6_worthIn_12 : decode cX6_worthIn 12 = .ok (.aload_n 0, 1) := by decide +kernel
theorem dX6_worthIn_13 : decode cX6_worthIn 13 = .ok (.iload_n 1, 1) := by decide +kernel
theorem dX6_worthIn_14 : decode cX6_worthIn 14 = .ok (.invokevirtual 60, 3) := by decide +kernel
theorem dX6_worthIn_17 : decode cX6_worthIn 17 = .ok (.iadd, 1) := by decide +kernel
theorem dX6_worthIn_18 : decode cX6_worthIn 18 = .ok (.istore_n 3, 1) := by decide +kernel
theorem dX6_worthIn_19 : decode cX6_worthIn 19 = .ok (.aload_n 0, 1) := by decide +kernel
theorem dX6_worthIn_20 : decode cX6_worthIn 20 = .ok (.invokevirtual 129, 3) := by decide +kernel
theorem dX6_worthIn_23 : decode cX6_worthIn 23 = .ok (.iinc 4 1, 3) := by decide +kernel
theorem dX6_worthIn_26 : decode cX6_worthIn 26 = .ok (.goto (-21), 3) := by decide +kernel
theorem dX6_worthIn_29 : decode cX6_worthIn 29 = .ok (.aload_n 0, 1) := by decide +kernel
theorem dX6_worthIn_30 : decode cX6_worthIn 30 = .ok (.invokevirtual 126, 3) := by decide +kernel
theorem dX6_worthIn_33 : decode cX6_worthIn 33 = .ok (.iload_n 3, 1) := by decide +kernel
theorem dX6_worthIn_34 : decode cX6_worthIn 34 = .ok (.ireturn, 1) := by decide +kernel
theorem dX6_kind_0 : decode cX6_kind 0 = .ok (.aload_n 0, 1) := by decide +kernel
theorem dX6_kind_1 : decode cX6_kind 1 = .ok (.iload_n 1, 1) := by decide +kernel
theorem dX6_kind_2 : decode cX6_kind 2 = .ok (.invokevirtual 79, 3) := by decide +kernel
theorem dX6_kind_5 : decode cX6_kind 5 = .ok (.ifCond .eq 15, 3) := by decide +kernel
theorem dX6_kind_8 : decode cX6_kind 8 = .ok (.iload_n 2, 1) := by decide +kernel
theorem dX6_kind_9 : decode cX6_kind 9 = .ok (.i2l, 1) := by decide +kernel
theorem dX6_kind_10 : decode cX6_kind 10 = .ok (.iconst 1, 1) := by decide +kernel
theorem dX6_kind_11 : decode cX6_kind 11 = .ok (.sipush 200, 3) := by decide +kernel
theorem dX6_kind_14 : decode cX6_kind 14 = .ok (.invokestatic 41, 3) := by decide +kernel
theorem dX6_kind_17 : decode cX6_kind 17 = .ok (.ifCond .ne 10, 3) := by decide +kernel
theorem dX6_kind_20 : decode cX6_kind 20 = .ok (.aload_n 0, 1) := by decide +kernel
theorem dX6_kind_21 : decode cX6_kind 21 = .ok (.ldc 35, 2) := by decide +kernel
theorem dX6_kind_23 : decode cX6_kind 23 = .ok (.invokevirtual 37, 3) := by decide +kernel
theorem dX6_kind_26 : decode cX6_kind 26 = .ok (.ireturn, 1) := by decide +kernel
theorem dX6_kind_27 : decode cX6_kind 27 = .ok (.aload_n 0, 1) := by decide +kernel
theorem dX6_kind_28 : decode cX6_kind 28 = .ok (.invokevirtual 120, 3) := by decide +kernel
theorem dX6_kind_31 : decode cX6_kind 31 = .ok (.iconst 0, 1) := by decide +kernel
theorem dX6_kind_32 : decode cX6_kind 32 = .ok (.istore_n 3, 1) := by decide +kernel
theorem dX6_kind_33 : decode cX6_kind 33 = .ok (.iconst (-1), 1) := by decide +kernel
theorem dX6_kind_34 : decode cX6_kind 34 = .ok (.istore 4, 2) := by decide +kernel
theorem dX6_kind_36 : decode cX6_kind 36 = .ok (.iconst 0, 1) := by decide +kernel
theorem dX6_kind_37 : decode cX6_kind 37 = .ok (.istore 5, 2) := by decide +kernel
theorem dX6_kind_39 : decode cX6_kind 39 = .ok (.iload 5, 2) := by decide +kernel
theorem dX6_kind_41 : decode cX6_kind 41 = .ok (.iconst 5, 1) := by decide +kernel
theorem dX6_kind_42 : decode cX6_kind 42 = .ok (.if_icmp .gt 60, 3) := by decide +kernel
theorem dX6_kind_45 : decode cX6_kind 45 = .ok (.aload_n 0, 1) := by decide +kernel
theorem dX6_kind_46 : decode cX6_kind 46 = .ok (.getfield 9, 3) := by decide +kernel
theorem dX6_kind_49 : decode cX6_kind 49 = .ok (.bipush 30, 2) := by decide +kernel
theorem dX6_kind_51 : decode cX6_kind 51 = .ok (.iconst 2, 1) := by decide +kernel
theorem dX6_kind_52 : decode cX6_kind 52 = .ok (.iload_n 1, 1) := by decide +kernel
theorem dX6_kind_53 : decode cX6_kind 53 = .ok (.imul, 1) := by decide +kernel
theorem dX6_kind_54 : decode cX6_kind 54 = .ok (.iadd, 1) := by decide +kernel
theorem dX6_kind_55 : decode cX6_kind 55 = .ok (.iload 5, 2) := by decide +kernel
theorem dX6_kind_57 : decode cX6_kind 57 = .ok (.iastore, 1) := by decide +kernel
theorem dX6_kind_58 : decode cX6_kind 58 = .ok (.aload_n 0, 1) := by decide +kernel
theorem dX6_kind_59 : decode cX6_kind 59 = .ok (.iload_n 1, 1) := by decide +kernel
theorem dX6_kind_60 : decode cX6_kind 60 = .ok (.iload_n 2, 1) := by decide +kernel
theorem dX6_kind_61 : decode cX6_kind 61 = .ok (.invokevirtual 152, 3) := by decide +kernel
theorem dX6_kind_64 : decode cX6_kind 64 = .ok (.istore 6, 2) := by decide +kernel
theorem dX6_kind_66 : decode cX6_kind 66 = .ok (.iload 6, 2) := by decide +kernel
theorem dX6_kind_68 : decode cX6_kind 68 = .ok (.iload 4, 2) := by decide +kernel
theorem dX6_kind_70 : decode cX6_kind 70 = .ok (.if_icmp .le 8, 3) := by decide +kernel
theorem dX6_kind_73 : decode cX6_kind 73 = .ok (.iload 5, 2) := by decide +kernel
theorem dX6_kind_75 : decode cX6_kind 75 = .ok (.goto 4, 3) := by decide +kernel
theorem dX6_kind_78 : decode cX6_kind 78 = .ok (.iload_n 3, 1) := by decide +kernel
theorem dX6_kind_79 : decode cX6_kind 79 = .ok (.istore_n 3, 1) := by decide +kernel
theorem dX6_kind_80 : decode cX6_kind 80 = .ok (.iload 6, 2) := by decide +kernel
theorem dX6_kind_82 : decode cX6_kind 82 = .ok (.iload 4, 2) := by decide +kernel
theorem dX6_kind_84 : decode cX6_kind 84 = .ok (.if_icmp .le 8, 3) := by decide +kernel
theorem dX6_kind_87 : decode cX6_kind 87 = .ok (.iload 6, 2) := by decide +kernel
theorem dX6_kind_89 : decode cX6_kind 89 = .ok (.goto 5, 3) := by decide +kernel
theorem dX6_kind_92 : decode cX6_kind 92 = .ok (.iload 4, 2) := by decide +kernel
theorem dX6_kind_94 : decode cX6_kind 94 = .ok (.istore 4, 2) := by decide +kernel
theorem dX6_kind_96 : decode cX6_kind 96 = .ok (.iinc 5 1, 3) := by decide +kernel
theorem dX6_kind_99 : decode cX6_kind 99 = .ok (.goto (-60), 3) := by decide +kernel
theorem dX6_kind_102 : decode cX6_kind 102 = .ok (.iload_n 3, 1) := by decide +kernel
theorem dX6_kind_103 : decode cX6_kind 103 = .ok (.ireturn, 1) := by decide +kernel
theorem dX6_shifts_0 : decode cX6_shifts 0 = .ok (.iload_n 1, 1) := by decide +kernel
theorem dX6_shifts_1 : decode cX6_shifts 1 = .ok (.invokestatic 63, 3) := by decide +kernel
theorem dX6_shifts_4 : decode cX6_shifts 4 = .ok (.ifCond .eq 15, 3) := by decide +kernel
theorem dX6_shifts_7 : decode cX6_shifts 7 = .ok (.iload_n 2, 1) := by decide +kernel
theorem dX6_shifts_8 : decode cX6_shifts 8 = .ok (.i2l, 1) := by decide +kernel
theorem dX6_shifts_9 : decode cX6_shifts 9 = .ok (.iconst 1, 1) := by decide +kernel
theorem dX6_shifts_10 : decode cX6_shifts 10 = .ok (.sipush 200, 3) := by decide +kernel
theorem dX6_shifts_13 : decode cX6_shifts 13 = .ok (.invokestatic 41, 3) := by decide +kernel
theorem dX6_shifts_16 : decode cX6_shifts 16 = .ok (.ifCond .ne 10, 3) := by decide +kernel
theorem dX6_shifts_19 : decode cX6_shifts 19 = .ok (.aload_n 0, 1) := by decide +kernel
theorem dX6_shifts_20 : decode cX6_shifts 20 = .ok (.ldc 35, 2) := by decide +kernel
theorem dX6_shifts_22 : decode cX6_shifts 22 = .ok (.invokevirtual 37, 3) := by decide +kernel
theorem dX6_shifts_25 : decode cX6_shifts 25 = .ok (.ireturn, 1) := by decide +kernel
theorem dX6_shifts_26 : decode cX6_shifts 26 = .ok (.aload_n 0, 1) := by decide +kernel
theorem dX6_shifts_27 : decode cX6_shifts 27 = .ok (.invokevirtual 120, 3) := by decide +kernel
theorem dX6_shifts_30 : decode cX6_shifts 30 = .ok (.iconst 0, 1) := by decide +kernel
theorem dX6_shifts_31 : decode cX6_shifts 31 = .ok (.istore_n 3, 1) := by decide +kernel
theorem dX6_shifts_32 : decode cX6_shifts 32 = .ok (.iconst (-1), 1) := by decide +kernel
theorem dX6_shifts_33 : decode cX6_shifts 33 = .ok (.istore 4, 2) := by decide +kernel
theorem dX6_shifts_35 : decode cX6_shifts 35 = .ok (.iconst 0, 1) := by decide +kernel
theorem dX6_shifts_36 : decode cX6_shifts 36 = .ok (.istore 5, 2) := by decide +kernel
theorem dX6_shifts_38 : decode cX6_shifts 38 = .ok (.iload 5, 2) := by decide +kernel
theorem dX6_shifts_40 : decode cX6_shifts 40 = .ok (.bipush 8, 2) := by decide +kernel
theorem dX6_shifts_42 : decode cX6_shifts 42 = .ok (.if_icmp .ge 67, 3) := by decide +kernel
theorem dX6_shifts_45 : decode cX6_shifts 45 = .ok (.iconst 0, 1) := by decide +kernel
theorem dX6_shifts_46 : decode cX6_shifts 46 = .ok (.istore 6, 2) := by decide +kernel
theorem dX6_shifts_48 : decode cX6_shifts 48 = .ok (.iload 6, 2) := by decide +kernel
theorem dX6_shifts_50 : decode cX6_shifts 50 = .ok (.iload 5, 2) := by decide +kernel
theorem dX6_shifts_52 : decode cX6_shifts 52 = .ok (.if_icmp .ge 13, 3) := by decide +kernel
theorem dX6_shifts_55 : decode cX6_shifts 55 = .ok (.aload_n 0, 1) := by decide +kernel
theorem dX6_shifts_56 : decode cX6_shifts 56 = .ok (.invokevirtual 117, 3) := by decide +kernel
theorem dX6_shifts_59 : decode cX6_shifts 59 = .ok (.iinc 6 1, 3) := by decide +kernel
theorem dX6_shifts_62 : decode cX6_shifts 62 = .ok (.goto (-14), 3) := by decide +kernel
theorem dX6_shifts_65 : decode cX6_shifts 65 = .ok (.aload_n 0, 1) := by decide +kernel
theorem dX6_shifts_66 : decode cX6_shifts 66 = .ok (.iload_n 1, 1) := by decide +kernel
theorem dX6_shifts_67 : decode cX6_shifts 67 = .ok (.iload_n 2, 1) := by decide +kernel
theorem dX6_shifts_68 : decode cX6_shifts 68 = .ok (.invokevirtual 146, 3) := by decide +kernel
theorem dX6_shifts_71 : decode cX6_shifts 71 = .ok (.istore 6, 2) := by decide +kernel
theorem dX6_shifts_73 : decode cX6_shifts 73 = .ok (.iload 6, 2) := by decide +kernel
theorem dX6_shifts_75 : decode cX6_shifts 75 = .ok (.iload 4, 2) := by decide +kernel
theorem dX6_shifts_77 : decode cX6_shifts 77 = .ok (.if_icmp .le 8, 3) := by decide +kernel
theorem dX6_shifts_80 : decode cX6_shifts 80 = .ok (.iload 5, 2) := by decide +kernel
theorem dX6_shifts_82 : decode cX6_shifts 82 = .ok (.goto 4, 3) := by decide +kernel
theorem dX6_shifts_85 : decode cX6_shifts 85 = .ok (.iload_n 3, 1) := by decide +kernel
theorem dX6_shifts_86 : decode cX6_shifts 86 = .ok (.istore_n 3, 1) := by decide +kernel
theorem dX6_shifts_87 : decode cX6_shifts 87 = .ok (.iload 6, 2) := by decide +kernel
theorem dX6_shifts_89 : decode cX6_shifts 89 = .ok (.iload 4, 2) := by decide +kernel
theorem dX6_shifts_91 : decode cX6_shifts 91 = .ok (.if_icmp .le 8, 3) := by decide +kernel
theorem dX6_shifts_94 : decode cX6_shifts 94 = .ok (.iload 6, 2) := by decide +kernel
theorem dX6_shifts_96 : decode cX6_shifts 96 = .ok (.goto 5, 3) := by decide +kernel
theorem dX6_shifts_99 : decode cX6_shifts 99 = .ok (.iload 4, 2) := by decide +kernel
theorem dX6_shifts_101 : decode cX6_shifts 101 = .ok (.istore 4, 2) := by decide +kernel
theorem dX6_shifts_103 : decode cX6_shifts 103 = .ok (.iinc 5 1, 3) := by decide +kernel
theorem dX6_shifts_106 : decode cX6_shifts 106 = .ok (.goto (-68), 3) := by decide +kernel
theorem dX6_shifts_109 : decode cX6_shifts 109 = .ok (.iload_n 3, 1) := by decide +kernel
theorem dX6_shifts_110 : decode cX6_shifts 110 = .ok (.ireturn, 1) := by decide +kernel
theorem dX6_least_0 : decode cX6_least 0 = .ok (.aload_n 0, 1) := by decide +kernel
theorem dX6_least_1 : decode cX6_least 1 = .ok (.iload_n 1, 1) := by decide +kernel
theorem dX6_least_2 : decode cX6_least 2 = .ok (.invokevirtual 79, 3) := by decide +kernel
theorem dX6_least_5 : decode cX6_least 5 = .ok (.ifCond .eq 34, 3) := by decide +kernel
theorem dX6_least_8 : decode cX6_least 8 = .ok (.iload_n 2, 1) := by decide +kernel
theorem dX6_least_9 : decode cX6_least 9 = .ok (.invokestatic 63, 3) := by decide +kernel
theorem dX6_least_12 : decode cX6_least 12 = .ok (.ifCond .eq 27, 3) := by decide +kernel
theorem dX6_least_15 : decode cX6_least 15 = .ok (.iload_n 3, 1) := by decide +kernel
theorem dX6_least_16 : decode cX6_least 16 = .ok (.i2l, 1) := by decide +kernel
theorem dX6_least_17 : decode cX6_least 17 = .ok (.iconst 1, 1) := by decide +kernel
theorem dX6_least_18 : decode cX6_least 18 = .ok (.sipush 200, 3) := by decide +kernel
theorem dX6_least_21 : decode cX6_least 21 = .ok (.invokestatic 41, 3) := by decide +kernel
theorem dX6_least_24 : decode cX6_least 24 = .ok (.ifCond .eq 15, 3) := by decide +kernel
theorem dX6_least_27 : decode cX6_least 27 = .ok (.iload 4, 2) := by decide +kernel
theorem dX6_least_29 : decode cX6_least 29 = .ok (.i2l, 1) := by decide +kernel
theorem dX6_least_30 : decode cX6_least 30 = .ok (.iconst 0, 1) := by decide +kernel
theorem dX6_least_31 : decode cX6_least 31 = .ok (.ldc 67, 2) := by decide +kernel
theorem dX6_least_33 : decode cX6_least 33 = .ok (.invokestatic 41, 3) := by decide +kernel
theorem dX6_least_36 : decode cX6_least 36 = .ok (.ifCond .ne 10, 3) := by decide +kernel
theorem dX6_least_39 : decode cX6_least 39 = .ok (.aload_n 0, 1) := by decide +kernel
theorem dX6_least_40 : decode cX6_least 40 = .ok (.ldc 35, 2) := by decide +kernel
theorem dX6_least_42 : decode cX6_least 42 = .ok (.invokevirtual 37, 3) := by decide +kernel
theorem dX6_least_45 : decode cX6_least 45 = .ok (.ireturn, 1) := by decide +kernel
theorem dX6_least_46 : decode cX6_least 46 = .ok (.aload_n 0, 1) := by decide +kernel
theorem dX6_least_47 : decode cX6_least 47 = .ok (.invokevirtual 120, 3) := by decide +kernel
theorem dX6_least_50 : decode cX6_least 50 = .ok (.iconst (-1), 1) := by decide +kernel
theorem dX6_least_51 : decode cX6_least 51 = .ok (.istore 5, 2) := by decide +kernel
theorem dX6_least_53 : decode cX6_least 53 = .ok (.iconst 0, 1) := by decide +kernel
theorem dX6_least_54 : decode cX6_least 54 = .ok (.istore 6, 2) := by decide +kernel
theorem dX6_least_56 : decode cX6_least 56 = .ok (.iload 6, 2) := by decide +kernel
theorem dX6_least_58 : decode cX6_least 58 = .ok (.bipush 99, 2) := by decide +kernel
theorem dX6_least_60 : decode cX6_least 60 = .ok (.if_icmp .gt 48, 3) := by decide +kernel
theorem dX6_least_63 : decode cX6_least 63 = .ok (.iload 5, 2) := by decide +kernel
theorem dX6_least_65 : decode cX6_least 65 = .ok (.ifCond .ge 43, 3) := by decide +kernel
theorem dX6_least_68 : decode cX6_least 68 = .ok (.aload_n 0, 1) := by decide +kernel
theorem dX6_least_69 : decode cX6_least 69 = .ok (.getfield 9, 3) := by decide +kernel
theorem dX6_least_72 : decode cX6_least 72 = .ok (.bipush 30, 2) := by decide +kernel
theorem dX6_least_74 : decode cX6_least 74 = .ok (.iconst 2, 1) := by decide +kernel
theorem dX6_least_75 : decode cX6_least 75 = .ok (.iload_n 1, 1) := by decide +kernel
theorem dX6_least_76 : decode cX6_least 76 = .ok (.imul, 1) := by decide +kernel
theorem dX6_least_77 : decode cX6_least 77 = .ok (.iadd, 1) := by decide +kernel
theorem dX6_least_78 : decode cX6_least 78 = .ok (.iconst 1, 1) := by decide +kernel
theorem dX6_least_79 : decode cX6_least 79 = .ok (.iadd, 1) := by decide +kernel
theorem dX6_least_80 : decode cX6_least 80 = .ok (.iload 6, 2) := by decide +kernel
theorem dX6_least_82 : decode cX6_least 82 = .ok (.iastore, 1) := by decide +kernel
theorem dX6_least_83 : decode cX6_least 83 = .ok (.aload_n 0, 1) := by decide +kernel
theorem dX6_least_84 : decode cX6_least 84 = .ok (.iload_n 2, 1) := by decide +kernel
theorem dX6_least_85 : decode cX6_least 85 = .ok (.iload_n 3, 1) := by decide +kernel
theorem dX6_least_86 : decode cX6_least 86 = .ok (.invokevirtual 146, 3) := by decide +kernel
theorem dX6_least_89 : decode cX6_least 89 = .ok (.iload 4, 2) := by decide +kernel
theorem dX6_least_91 : decode cX6_least 91 = .ok (.if_icmp .lt 8, 3) := by decide +kernel
theorem dX6_least_94 : decode cX6_least 94 = .ok (.iload 6, 2) := by decide +kernel
theorem dX6_least_96 : decode cX6_least 96 = .ok (.goto 4, 3) := by decide +kernel
theorem dX6_least_99 : decode cX6_least 99 = .ok (.iconst (-1), 1) := by decide +kernel
theorem dX6_least_100 : decode cX6_least 100 = .ok (.istore 5, 2) := by decide +kernel
theorem dX6_least_102 : decode cX6_least 102 = .ok (.iinc 6 1, 3) := by decide +kernel
theorem dX6_least_105 : decode cX6_least 105 = .ok (.goto (-49), 3) := by decide +kernel
theorem dX6_least_108 : decode cX6_least 108 = .ok (.aload_n 0, 1) := by decide +kernel
theorem dX6_least_109 : decode cX6_least 109 = .ok (.iload 5, 2) := by decide +kernel
theorem dX6_least_111 : decode cX6_least 111 = .ok (.invokevirtual 149, 3) := by decide +kernel
theorem dX6_least_114 : decode cX6_least 114 = .ok (.ireturn, 1) := by decide +kernel
theorem dX6_draw_0 : decode cX6_draw 0 = .ok (.iload_n 1, 1) := by decide +kernel
theorem dX6_draw_1 : decode cX6_draw 1 = .ok (.i2l, 1) := by decide +kernel
theorem dX6_draw_2 : decode cX6_draw 2 = .ok (.iconst 1, 1) := by decide +kernel
theorem dX6_draw_3 : decode cX6_draw 3 = .ok (.sipush 200, 3) := by decide +kernel
theorem dX6_draw_6 : decode cX6_draw 6 = .ok (.invokestatic 41, 3) := by decide +kernel
theorem dX6_draw_9 : decode cX6_draw 9 = .ok (.ifCond .ne 10, 3) := by decide +kernel
theorem dX6_draw_12 : decode cX6_draw 12 = .ok (.aload_n 0, 1) := by decide +kernel
theorem dX6_draw_13 : decode cX6_draw 13 = .ok (.ldc 35, 2) := by decide +kernel
theorem dX6_draw_15 : decode cX6_draw 15 = .ok (.invokevirtual 37, 3) := by decide +kernel
theorem dX6_draw_18 : decode cX6_draw 18 = .ok (.ireturn, 1) := by decide +kernel
theorem dX6_draw_19 : decode cX6_draw 19 = .ok (.aload_n 0, 1) := by decide +kernel
theorem dX6_draw_20 : decode cX6_draw 20 = .ok (.invokevirtual 120, 3) := by decide +kernel
theorem dX6_draw_23 : decode cX6_draw 23 = .ok (.iconst (-1), 1) := by decide +kernel
theorem dX6_draw_24 : decode cX6_draw 24 = .ok (.istore_n 2, 1) := by decide +kernel
theorem dX6_draw_25 : decode cX6_draw 25 = .ok (.iconst 0, 1) := by decide +kernel
theorem dX6_draw_26 : decode cX6_draw 26 = .ok (.istore_n 3, 1) := by decide +kernel
theorem dX6_draw_27 : decode cX6_draw 27 = .ok (.iconst 0, 1) := by decide +kernel
theorem dX6_draw_28 : decode cX6_draw 28 = .ok (.istore 4, 2) := by decide +kernel
theorem dX6_draw_30 : decode cX6_draw 30 = .ok (.iload 4, 2) := by decide +kernel
theorem dX6_draw_32 : decode cX6_draw 32 = .ok (.aload_n 0, 1) := by decide +kernel
theorem dX6_draw_33 : decode cX6_draw 33 = .ok (.getfield 9, 3) := by decide +kernel
theorem dX6_draw_36 : decode cX6_draw 36 = .ok (.iconst 1, 1) := by decide +kernel
theorem dX6_draw_37 : decode cX6_draw 37 = .ok (.iaload, 1) := by decide +kernel
theorem dX6_draw_38 : decode cX6_draw 38 = .ok (.if_icmp .ge 105, 3) := by decide +kernel
theorem dX6_draw_41 : decode cX6_draw 41 = .ok (.aload_n 0, 1) := by decide +kernel
theorem dX6_draw_42 : decode cX6_draw 42 = .ok (.iload 4, 2) := by decide +kernel
theorem dX6_draw_44 : decode cX6_draw 44 = .ok (.iconst 1, 1) := by decide +kernel
theorem dX6_draw_45 : decode cX6_draw 45 = .ok (.invokevirtual 57, 3) := by decide +kernel
theorem dX6_draw_48 : decode cX6_draw 48 = .ok (.ifCond .ne 89, 3) := by decide +kernel
theorem dX6_draw_51 : decode cX6_draw 51 = .ok (.aload_n 0, 1) := by decide +kernel
theorem dX6_draw_52 : decode cX6_draw 52 = .ok (.iload 4, 2) := by decide +kernel
theorem dX6_draw_54 : decode cX6_draw 54 = .ok (.iconst 0, 1) := by decide +kernel
theorem dX6_draw_55 : decode cX6_draw 55 = .ok (.invokevirtual 57, 3) := by decide +kernel
theorem dX6_draw_58 : decode cX6_draw 58 = .ok (.istore 5, 2) := by decide +kernel
theorem dX6_draw_60 : decode cX6_draw 60 = .ok (.aload_n 0, 1) := by decide +kernel
theorem dX6_draw_61 : decode cX6_draw 61 = .ok (.iload 5, 2) := by decide +kernel
theorem dX6_draw_63 : decode cX6_draw 63 = .ok (.iload_n 1, 1) := by decide +kernel
theorem dX6_draw_64 : decode cX6_draw 64 = .ok (.invokevirtual 146, 3) := by decide +kernel
theorem dX6_draw_67 : decode cX6_draw 67 = .ok (.istore 6, 2) := by decide +kernel
theorem dX6_draw_69 : decode cX6_draw 69 = .ok (.aload_n 0, 1) := by decide +kernel
theorem dX6_draw_70 : decode cX6_draw 70 = .ok (.getfield 9, 3) := by decide +kernel
theorem dX6_draw_73 : decode cX6_draw 73 = .ok (.bipush 6, 2) := by decide +kernel
theorem dX6_draw_75 : decode cX6_draw 75 = .ok (.iconst 3, 1) := by decide +kernel
theorem dX6_draw_76 : decode cX6_draw 76 = .ok (.iload 4, 2) := by decide +kernel
theorem dX6_draw_78 : decode cX6_draw 78 = .ok (.imul, 1) := by decide +kernel
theorem dX6_draw_79 : decode cX6_draw 79 = .ok (.iadd, 1) := by decide +kernel
theorem dX6_draw_80 : decode cX6_draw 80 = .ok (.iconst 1, 1) := by decide +kernel
theorem dX6_draw_81 : decode cX6_draw 81 = .ok (.iadd, 1) := by decide +kernel
theorem dX6_draw_82 : decode cX6_draw 82 = .ok (.iconst 1, 1) := by decide +kernel
theorem dX6_draw_83 : decode cX6_draw 83 = .ok (.iastore, 1) := by decide +kernel
theorem dX6_draw_84 : decode cX6_draw 84 = .ok (.iload 6, 2) := by decide +kernel
theorem dX6_draw_86 : decode cX6_draw 86 = .ok (.aload_n 0, 1) := by decide +kernel
theorem dX6_draw_87 : decode cX6_draw 87 = .ok (.iload 5, 2) := by decide +kernel
theorem dX6_draw_89 : decode cX6_draw 89 = .ok (.iload_n 1, 1) := by decide +kernel
theorem dX6_draw_90 : decode cX6_draw 90 = .ok (.invokevirtual 146, 3) := by decide +kernel
theorem dX6_draw_93 : decode cX6_draw 93 = .ok (.isub, 1) := by decide +kernel
theorem dX6_draw_94 : decode cX6_draw 94 = .ok (.istore 6, 2) := by decide +kernel
theorem dX6_draw_96 : decode cX6_draw 96 = .ok (.iload_n 2, 1) := by decide +kernel
theorem dX6_draw_97 : decode cX6_draw 97 = .ok (.ifCond .lt 9, 3) := by decide +kernel
theorem dX6_draw_100 : decode cX6_draw 100 = .ok (.iload 6, 2) := by decide +kernel
theorem dX6_draw_102 : decode cX6_draw 102 = .ok (.iload_n 3, 1) := by decide +kernel
theorem dX6_draw_103 : decode cX6_draw 103 = .ok (.if_icmp .ge 7, 3) := by decide +kernel
theorem dX6_draw_106 : decode cX6_draw 106 = .ok (.iconst 1, 1) := by decide +kernel
theorem dX6_draw_107 : decode cX6_draw 107 = .ok (.goto 4, 3) := by decide +kernel
theorem dX6_draw_110 : decode cX6_draw 110 = .ok (.iconst 0, 1) := by decide +kernel
theorem dX6_draw_111 : decode cX6_draw 111 = .ok (.istore 7, 2) := by decide +kernel
theorem dX6_draw_113 : decode cX6_draw 113 = .ok (.iload 7, 2) := by decide +kernel
theorem dX6_draw_115 : decode cX6_draw 115 = .ok (.ifCond .eq 8, 3) := by decide +kernel
theorem dX6_draw_118 : decode cX6_draw 118 = .ok (.iload 4, 2) := by decide +kernel
theorem dX6_draw_120 : decode cX6_draw 120 = .ok (.goto 4, 3) := by decide +kernel
theorem dX6_draw_123 : decode cX6_draw 123 = .ok (.iload_n 2, 1) := by decide +kernel
theorem dX6_draw_124 : decode cX6_draw 124 = .ok (.istore_n 2, 1) := by decide +kernel
theorem dX6_draw_125 : decode cX6_draw 125 = .ok (.iload 7, 2) := by decide +kernel
theorem dX6_draw_127 : decode cX6_draw 127 = .ok (.ifCond .eq 8, 3) := by decide +kernel
theorem dX6_draw_130 : decode cX6_draw 130 = .ok (.iload 6, 2) := by decide +kernel
theorem dX6_draw_132 : decode cX6_draw 132 = .ok (.goto 4, 3) := by decide +kernel
theorem dX6_draw_135 : decode cX6_draw 135 = .ok (.iload_n 3, 1) := by decide +kernel
theorem dX6_draw_136 : decode cX6_draw 136 = .ok (.istore_n 3, 1) := by decide +kernel
theorem dX6_draw_137 : decode cX6_draw 137 = .ok (.iinc 4 1, 3) := by decide +kernel
theorem dX6_draw_140 : decode cX6_draw 140 = .ok (.goto (-110), 3) := by decide +kernel
theorem dX6_draw_143 : decode cX6_draw 143 = .ok (.aload_n 0, 1) := by decide +kernel
theorem dX6_draw_144 : decode cX6_draw 144 = .ok (.iload_n 2, 1) := by decide +kernel
theorem dX6_draw_145 : decode cX6_draw 145 = .ok (.invokevirtual 149, 3) := by decide +kernel
theorem dX6_draw_148 : decode cX6_draw 148 = .ok (.ireturn, 1) := by decide +kernel
theorem dX6_richest_0 : decode cX6_richest 0 = .ok (.iload_n 1, 1) := by decide +kernel
theorem dX6_richest_1 : decode cX6_richest 1 = .ok (.i2l, 1) := by decide +kernel
theorem dX6_richest_2 : decode cX6_richest 2 = .ok (.iconst 0, 1) := by decide +kernel
theorem dX6_richest_3 : decode cX6_richest 3 = .ok (.sipush 400, 3) := by decide +kernel
theorem dX6_richest_6 : decode cX6_richest 6 = .ok (.invokestatic 41, 3) := by decide +kernel
theorem dX6_richest_9 : decode cX6_richest 9 = .ok (.ifCond .ne 10, 3) := by decide +kernel
theorem dX6_richest_12 : decode cX6_richest 12 = .ok (.aload_n 0, 1) := by decide +kernel
theorem dX6_richest_13 : decode cX6_richest 13 = .ok (.ldc 35, 2) := by decide +kernel
theorem dX6_richest_15 : decode cX6_richest 15 = .ok (.invokevirtual 37, 3) := by decide +kernel
theorem dX6_richest_18 : decode cX6_richest 18 = .ok (.ireturn, 1) := by decide +kernel
theorem dX6_richest_19 : decode cX6_richest 19 = .ok (.aload_n 0, 1) := by decide +kernel
theorem dX6_richest_20 : decode cX6_richest 20 = .ok (.invokevirtual 120, 3) := by decide +kernel
theorem dX6_richest_23 : decode cX6_richest 23 = .ok (.aload_n 0, 1) := by decide +kernel
theorem dX6_richest_24 : decode cX6_richest 24 = .ok (.iload_n 1, 1) := by decide +kernel
theorem dX6_richest_25 : decode cX6_richest 25 = .ok (.invokevirtual 132, 3) := by decide +kernel
theorem dX6_richest_28 : decode cX6_richest 28 = .ok (.iconst 0, 1) := by decide +kernel
theorem dX6_richest_29 : decode cX6_richest 29 = .ok (.istore_n 2, 1) := by decide +kernel
theorem dX6_richest_30 : decode cX6_richest 30 = .ok (.iconst 1, 1) := by decide +kernel
theorem dX6_richest_31 : decode cX6_richest 31 = .ok (.istore_n 3, 1) := by decide +kernel
theorem dX6_richest_32 : decode cX6_richest 32 = .ok (.iload_n 3, 1) := by decide +kernel
theorem dX6_richest_33 : decode cX6_richest 33 = .ok (.iconst 4, 1) := by decide +kernel
theorem dX6_richest_34 : decode cX6_richest 34 = .ok (.if_icmp .ge 34, 3) := by decide +kernel
theorem dX6_richest_37 : decode cX6_richest 37 = .ok (.aload_n 0, 1) := by decide +kernel
theorem dX6_richest_38 : decode cX6_richest 38 = .ok (.getfield 9, 3) := by decide +kernel
theorem dX6_richest_41 : decode cX6_richest 41 = .ok (.iconst 2, 1) := by decide +kernel
theorem dX6_richest_42 : decode cX6_richest 42 = .ok (.iload_n 3, 1) := by decide +kernel
theorem dX6_richest_43 : decode cX6_richest 43 = .ok (.iadd, 1) := by decide +kernel
theorem dX6_richest_44 : decode cX6_richest 44 = .ok (.iaload, 1) := by decide +kernel
theorem dX6_richest_45 : decode cX6_richest 45 = .ok (.aload_n 0, 1) := by decide +kernel
theorem dX6_richest_46 : decode cX6_richest 46 = .ok (.getfield 9, 3) := by decide +kernel
theorem dX6_richest_49 : decode cX6_richest 49 = .ok (.iconst 2, 1) := by decide +kernel
theorem dX6_richest_50 : decode cX6_richest 50 = .ok (.iload_n 2, 1) := by decide +kernel
theorem dX6_richest_51 : decode cX6_richest 51 = .ok (.iadd, 1) := by decide +kernel
theorem dX6_richest_52 : decode cX6_richest 52 = .ok (.iaload, 1) := by decide +kernel
theorem dX6_richest_53 : decode cX6_richest 53 = .ok (.if_icmp .le 7, 3) := by decide +kernel
theorem dX6_richest_56 : decode cX6_richest 56 = .ok (.iload_n 3, 1) := by decide +kernel
theorem dX6_richest_57 : decode cX6_richest 57 = .ok (.goto 4, 3) := by decide +kernel
theorem dX6_richest_60 : decode cX6_richest 60 = .ok (.iload_n 2, 1) := by decide +kernel
theorem dX6_richest_61 : decode cX6_richest 61 = .ok (.istore_n 2, 1) := by decide +kernel
theorem dX6_richest_62 : decode cX6_richest 62 = .ok (.iinc 3 1, 3) := by decide +kernel
theorem dX6_richest_65 : decode cX6_richest 65 = .ok (.goto (-33), 3) := by decide +kernel
theorem dX6_richest_68 : decode cX6_richest 68 = .ok (.aload_n 0, 1) := by decide +kernel
theorem dX6_richest_69 : decode cX6_richest 69 = .ok (.invokevirtual 126, 3) := by decide +kernel
theorem dX6_richest_72 : decode cX6_richest 72 = .ok (.iload_n 2, 1) := by decide +kernel
theorem dX6_richest_73 : decode cX6_richest 73 = .ok (.ireturn, 1) := by decide +kernel
theorem dX6_feed_0 : decode cX6_feed 0 = .ok (.iload_n 2, 1) := by decide +kernel
theorem dX6_feed_1 : decode cX6_feed 1 = .ok (.i2l, 1) := by decide +kernel
theorem dX6_feed_2 : decode cX6_feed 2 = .ok (.iconst 1, 1) := by decide +kernel
theorem dX6_feed_3 : decode cX6_feed 3 = .ok (.iconst 4, 1) := by decide +kernel
theorem dX6_feed_4 : decode cX6_feed 4 = .ok (.invokestatic 41, 3) := by decide +kernel
theorem dX6_feed_7 : decode cX6_feed 7 = .ok (.ifCond .ne 10, 3) := by decide +kernel
theorem dX6_feed_10 : decode cX6_feed 10 = .ok (.aload_n 0, 1) := by decide +kernel
theorem dX6_feed_11 : decode cX6_feed 11 = .ok (.ldc 35, 2) := by decide +kernel
theorem dX6_feed_13 : decode cX6_feed 13 = .ok (.invokevirtual 37, 3) := by decide +kernel
theorem dX6_feed_16 : decode cX6_feed 16 = .ok (.ireturn, 1) := by decide +kernel
theorem dX6_feed_17 : decode cX6_feed 17 = .ok (.aload_n 0, 1) := by decide +kernel
theorem dX6_feed_18 : decode cX6_feed 18 = .ok (.getfield 155, 3) := by decide +kernel
theorem dX6_feed_21 : decode cX6_feed 21 = .ok (.iload_n 2, 1) := by decide +kernel
theorem dX6_feed_22 : decode cX6_feed 22 = .ok (.iadd, 1) := by decide +kernel
theorem dX6_feed_23 : decode cX6_feed 23 = .ok (.bipush 120, 2) := by decide +kernel
theorem dX6_feed_25 : decode cX6_feed 25 = .ok (.if_icmp .le 10, 3) := by decide +kernel
theorem dX6_feed_28 : decode cX6_feed 28 = .ok (.aload_n 0, 1) := by decide +kernel
theorem dX6_feed_29 : decode cX6_feed 29 = .ok (.ldc 74, 2) := by decide +kernel
theorem dX6_feed_31 : decode cX6_feed 31 = .ok (.invokevirtual 37, 3) := by decide +kernel
theorem dX6_feed_34 : decode cX6_feed 34 = .ok (.ireturn, 1) := by decide +kernel
theorem dX6_feed_35 : decode cX6_feed 35 = .ok (.iload_n 2, 1) := by decide +kernel
theorem dX6_feed_36 : decode cX6_feed 36 = .ok (.iconst 1, 1) := by decide +kernel
theorem dX6_feed_37 : decode cX6_feed 37 = .ok (.isub, 1) := by decide +kernel
theorem dX6_feed_38 : decode cX6_feed 38 = .ok (.istore_n 3, 1) := by decide +kernel
theorem dX6_feed_39 : decode cX6_feed 39 = .ok (.iload_n 3, 1) := by decide +kernel
theorem dX6_feed_40 : decode cX6_feed 40 = .ok (.ifCond .lt 38, 3) := by decide +kernel
theorem dX6_feed_43 : decode cX6_feed 43 = .ok (.aload_n 0, 1) := by decide +kernel
theorem dX6_feed_44 : decode cX6_feed 44 = .ok (.getfield 22, 3) := by decide +kernel
theorem dX6_feed_47 : decode cX6_feed 47 = .ok (.aload_n 0, 1) := by decide +kernel
theorem dX6_feed_48 : decode cX6_feed 48 = .ok (.getfield 155, 3) := by decide +kernel
theorem dX6_feed_51 : decode cX6_feed 51 = .ok (.iload_n 1, 1) := by decide +kernel
theorem dX6_feed_52 : decode cX6_feed 52 = .ok (.bipush 8, 2) := by decide +kernel
theorem dX6_feed_54 : decode cX6_feed 54 = .ok (.iload_n 3, 1) := by decide +kernel
theorem dX6_feed_55 : decode cX6_feed 55 = .ok (.imul, 1) := by decide +kernel
theorem dX6_feed_56 : decode cX6_feed 56 = .ok (.ishr, 1) := by decide +kernel
theorem dX6_feed_57 : decode cX6_feed 57 = .ok (.sipush 255, 3) := by decide +kernel
theorem dX6_feed_60 : decode cX6_feed 60 = .ok (.iand, 1) := by decide +kernel
theorem dX6_feed_61 : decode cX6_feed 61 = .ok (.iastore, 1) := by decide +kernel
theorem dX6_feed_62 : decode cX6_feed 62 = .ok (.aload_n 0, 1) := by decide +kernel
theorem dX6_feed_63 : decode cX6_feed 63 = .ok (.dup, 1) := by decide +kernel
theorem dX6_feed_64 : decode cX6_feed 64 = .ok (.getfield 155, 3) := by decide +kernel
theorem dX6_feed_67 : decode cX6_feed 67 = .ok (.iconst 1, 1) := by decide +kernel
theorem dX6_feed_68 : decode cX6_feed 68 = .ok (.iadd, 1) := by decide +kernel
theorem dX6_feed_69 : decode cX6_feed 69 = .ok (.putfield 155, 3) := by decide +kernel
theorem dX6_feed_72 : decode cX6_feed 72 = .ok (.iinc 3 (-1), 3) := by decide +kernel
theorem dX6_feed_75 : decode cX6_feed 75 = .ok (.goto (-36), 3) := by decide +kernel
theorem dX6_feed_78 : decode cX6_feed 78 = .ok (.aload_n 0, 1) := by decide +kernel
theorem dX6_feed_79 : decode cX6_feed 79 = .ok (.getfield 155, 3) := by decide +kernel
theorem dX6_feed_82 : decode cX6_feed 82 = .ok (.ireturn, 1) := by decide +kernel
theorem dX6_wipe_0 : decode cX6_wipe 0 = .ok (.aload_n 0, 1) := by decide +kernel
theorem dX6_wipe_1 : decode cX6_wipe 1 = .ok (.getfield 155, 3) := by decide +kernel
theorem dX6_wipe_4 : decode cX6_wipe 4 = .ok (.istore_n 1, 1) := by decide +kernel
theorem dX6_wipe_5 : decode cX6_wipe 5 = .ok (.aload_n 0, 1) := by decide +kernel
theorem dX6_wipe_6 : decode cX6_wipe 6 = .ok (.iconst 0, 1) := by decide +kernel
theorem dX6_wipe_7 : decode cX6_wipe 7 = .ok (.putfield 155, 3) := by decide +kernel
theorem dX6_wipe_10 : decode cX6_wipe 10 = .ok (.iload_n 1, 1) := by decide +kernel
theorem dX6_wipe_11 : decode cX6_wipe 11 = .ok (.ireturn, 1) := by decide +kernel
theorem dX6_isByte_0 : decode cX6_isByte 0 = .ok (.iload_n 1, 1) := by decide +kernel
theorem dX6_isByte_1 : decode cX6_isByte 1 = .ok (.aload_n 0, 1) := by decide +kernel
theorem dX6_isByte_2 : decode cX6_isByte 2 = .ok (.getfield 155, 3) := by decide +kernel
theorem dX6_isByte_5 : decode cX6_isByte 5 = .ok (.if_icmp .ge 22, 3) := by decide +kernel
theorem dX6_isByte_8 : decode cX6_isByte 8 = .ok (.aload_n 0, 1) := by decide +kernel
theorem dX6_isByte_9 : decode cX6_isByte 9 = .ok (.getfield 22, 3) := by decide +kernel
theorem dX6_isByte_12 : decode cX6_isByte 12 = .ok (.iload_n 1, 1) := by decide +kernel
theorem dX6_isByte_13 : decode cX6_isByte 13 = .ok (.iaload, 1) := by decide +kernel
theorem dX6_isByte_14 : decode cX6_isByte 14 = .ok (.i2l, 1) := by decide +kernel
theorem dX6_isByte_15 : decode cX6_isByte 15 = .ok (.iload_n 2, 1) := by decide +kernel
theorem dX6_isByte_16 : decode cX6_isByte 16 = .ok (.iload_n 3, 1) := by decide +kernel
theorem dX6_isByte_17 : decode cX6_isByte 17 = .ok (.invokestatic 41, 3) := by decide +kernel
theorem dX6_isByte_20 : decode cX6_isByte 20 = .ok (.ifCond .eq 7, 3) := by decide +kernel
theorem dX6_isByte_23 : decode cX6_isByte 23 = .ok (.iconst 1, 1) := by decide +kernel
theorem dX6_isByte_24 : decode cX6_isByte 24 = .ok (.goto 4, 3) := by decide +kernel
theorem dX6_isByte_27 : decode cX6_isByte 27 = .ok (.iconst 0, 1) := by decide +kernel
theorem dX6_isByte_28 : decode cX6_isByte 28 = .ok (.ireturn, 1) := by decide +kernel
theorem dX6_isName_0 : decode cX6_isName 0 = .ok (.iload_n 2, 1) := by decide +kernel
theorem dX6_isName_1 : decode cX6_isName 1 = .ok (.bipush 7, 2) := by decide +kernel
theorem dX6_isName_3 : decode cX6_isName 3 = .ok (.if_icmp .gt 26, 3) := by decide +kernel
theorem dX6_isName_6 : decode cX6_isName 6 = .ok (.iload_n 2, 1) := by decide +kernel
theorem dX6_isName_7 : decode cX6_isName 7 = .ok (.bipush 7, 2) := by decide +kernel
theorem dX6_isName_9 : decode cX6_isName 9 = .ok (.if_icmp .eq 16, 3) := by decide +kernel
theorem dX6_isName_12 : decode cX6_isName 12 = .ok (.getstatic 159, 3) := by decide +kernel
theorem dX6_isName_15 : decode cX6_isName 15 = .ok (.bipush 7, 2) := by decide +kernel
theorem dX6_isName_17 : decode cX6_isName 17 = .ok (.iload_n 1, 1) := by decide +kernel
theorem dX6_isName_18 : decode cX6_isName 18 = .ok (.imul, 1) := by decide +kernel
theorem dX6_isName_19 : decode cX6_isName 19 = .ok (.iload_n 2, 1) := by decide +kernel
theorem dX6_isName_20 : decode cX6_isName 20 = .ok (.iadd, 1) := by decide +kernel
theorem dX6_isName_21 : decode cX6_isName 21 = .ok (.iaload, 1) := by decide +kernel
theorem dX6_isName_22 : decode cX6_isName 22 = .ok (.ifCond .ne 7, 3) := by decide +kernel
theorem dX6_isName_25 : decode cX6_isName 25 = .ok (.iconst 1, 1) := by decide +kernel
theorem dX6_isName_26 : decode cX6_isName 26 = .ok (.goto 4, 3) := by decide +kernel
theorem dX6_isName_29 : decode cX6_isName 29 = .ok (.iconst 0, 1) := by decide +kernel
theorem dX6_isName_30 : decode cX6_isName 30 = .ok (.istore_n 3, 1) := by decide +kernel
theorem dX6_isName_31 : decode cX6_isName 31 = .ok (.iconst 0, 1) := by decide +kernel
theorem dX6_isName_32 : decode cX6_isName 32 = .ok (.istore 4, 2) := by decide +kernel
theorem dX6_isName_34 : decode cX6_isName 34 = .ok (.iload 4, 2) := by decide +kernel
theorem dX6_isName_36 : decode cX6_isName 36 = .ok (.iload_n 2, 1) := by decide +kernel
theorem dX6_isName_37 : decode cX6_isName 37 = .ok (.if_icmp .ge 45, 3) := by decide +kernel
theorem dX6_isName_40 : decode cX6_isName 40 = .ok (.iload_n 3, 1) := by decide +kernel
theorem dX6_isName_41 : decode cX6_isName 41 = .ok (.ifCond .eq 41, 3) := by decide +kernel
theorem dX6_isName_44 : decode cX6_isName 44 = .ok (.getstatic 159, 3) := by decide +kernel
theorem dX6_isName_47 : decode cX6_isName 47 = .ok (.bipush 7, 2) := by decide +kernel
theorem dX6_isName_49 : decode cX6_isName 49 = .ok (.iload_n 1, 1) := by decide +kernel
theorem dX6_isName_50 : decode cX6_isName 50 = .ok (.imul, 1) := by decide +kernel
theorem dX6_isName_51 : decode cX6_isName 51 = .ok (.iload 4, 2) := by decide +kernel
theorem dX6_isName_53 : decode cX6_isName 53 = .ok (.iadd, 1) := by decide +kernel
theorem dX6_isName_54 : decode cX6_isName 54 = .ok (.iaload, 1) := by decide +kernel
theorem dX6_isName_55 : decode cX6_isName 55 = .ok (.aload_n 0, 1) := by decide +kernel
theorem dX6_isName_56 : decode cX6_isName 56 = .ok (.getfield 22, 3) := by decide +kernel
theorem dX6_isName_59 : decode cX6_isName 59 = .ok (.aload_n 0, 1) := by decide +kernel
theorem dX6_isName_60 : decode cX6_isName 60 = .ok (.getfield 162, 3) := by decide +kernel
theorem dX6_isName_63 : decode cX6_isName 63 = .ok (.iload 4, 2) := by decide +kernel
theorem dX6_isName_65 : decode cX6_isName 65 = .ok (.iadd, 1) := by decide +kernel
theorem dX6_isName_66 : decode cX6_isName 66 = .ok (.iaload, 1) := by decide +kernel
theorem dX6_isName_67 : decode cX6_isName 67 = .ok (.if_icmp .ne 7, 3) := by decide +kernel
theorem dX6_isName_70 : decode cX6_isName 70 = .ok (.iconst 1, 1) := by decide +kernel
theorem dX6_isName_71 : decode cX6_isName 71 = .ok (.goto 4, 3) := by decide +kernel
theorem dX6_isName_74 : decode cX6_isName 74 = .ok (.iconst 0, 1) := by decide +kernel
theorem dX6_isName_75 : decode cX6_isName 75 = .ok (.istore_n 3, 1) := by decide +kernel
theorem dX6_isName_76 : decode cX6_isName 76 = .ok (.iinc 4 1, 3) := by decide +kernel
theorem dX6_isName_79 : decode cX6_isName 79 = .ok (.goto (-45), 3) := by decide +kernel
theorem dX6_isName_82 : decode cX6_isName 82 = .ok (.iload_n 3, 1) := by decide +kernel
theorem dX6_isName_83 : decode cX6_isName 83 = .ok (.ireturn, 1) := by decide +kernel
theorem dX6_wordHere_0 : decode cX6_wordHere 0 = .ok (.iconst 0, 1) := by decide +kernel
theorem dX6_wordHere_1 : decode cX6_wordHere 1 = .ok (.istore_n 1, 1) := by decide +kernel
theorem dX6_wordHere_2 : decode cX6_wordHere 2 = .ok (.iload_n 1, 1) := by decide +kernel
theorem dX6_wordHere_3 : decode cX6_wordHere 3 = .ok (.bipush 10, 2) := by decide +kernel
theorem dX6_wordHere_5 : decode cX6_wordHere 5 = .ok (.if_icmp .ge 26, 3) := by decide +kernel
theorem dX6_wordHere_8 : decode cX6_wordHere 8 = .ok (.aload_n 0, 1) := by decide +kernel
theorem dX6_wordHere_9 : decode cX6_wordHere 9 = .ok (.iload_n 1, 1) := by decide +kernel
theorem dX6_wordHere_10 : decode cX6_wordHere 10 = .ok (.aload_n 0, 1) := by decide +kernel
theorem dX6_wordHere_11 : decode cX6_wordHere 11 = .ok (.getfield 165, 3) := by decide +kernel
theorem dX6_wordHere_14 : decode cX6_wordHere 14 = .ok (.aload_n 0, 1) := by decide +kernel
theorem dX6_wordHere_15 : decode cX6_wordHere 15 = .ok (.getfield 162, 3) := by decide +kernel
theorem dX6_wordHere_18 : decode cX6_wordHere 18 = .ok (.isub, 1) := by decide +kernel
theorem dX6_wordHere_19 : decode cX6_wordHere 19 = .ok (.invokevirtual 168, 3) := by decide +kernel
theorem dX6_wordHere_22 : decode cX6_wordHere 22 = .ok (.ifCond .ne 9, 3) := by decide +kernel
theorem dX6_wordHere_25 : decode cX6_wordHere 25 = .ok (.iinc 1 1, 3) := by decide +kernel
theorem dX6_wordHere_28 : decode cX6_wordHere 28 = .ok (.goto (-26), 3) := by decide +kernel
theorem dX6_wordHere_31 : decode cX6_wordHere 31 = .ok (.iload_n 1, 1) := by decide +kernel
theorem dX6_wordHere_32 : decode cX6_wordHere 32 = .ok (.bipush 10, 2) := by decide +kernel
theorem dX6_wordHere_34 : decode cX6_wordHere 34 = .ok (.if_icmp .ge 7, 3) := by decide +kernel
theorem dX6_wordHere_37 : decode cX6_wordHere 37 = .ok (.iload_n 1, 1) := by decide +kernel
theorem dX6_wordHere_38 : decode cX6_wordHere 38 = .ok (.goto 5, 3) := by decide +kernel
theorem dX6_wordHere_41 : decode cX6_wordHere 41 = .ok (.bipush 23, 2) := by decide +kernel
theorem dX6_wordHere_43 : decode cX6_wordHere 43 = .ok (.ireturn, 1) := by decide +kernel
theorem dX6_reads_0 : decode cX6_reads 0 = .ok (.aload_n 0, 1) := by decide +kernel
theorem dX6_reads_1 : decode cX6_reads 1 = .ok (.aload_n 0, 1) := by decide +kernel
theorem dX6_reads_2 : decode cX6_reads 2 = .ok (.getfield 165, 3) := by decide +kernel
theorem dX6_reads_5 : decode cX6_reads 5 = .ok (.bipush 32, 2) := by decide +kernel
theorem dX6_reads_7 : decode cX6_reads 7 = .ok (.bipush 32, 2) := by decide +kernel
theorem dX6_reads_9 : decode cX6_reads 9 = .ok (.invokevirtual 171, 3) := by decide +kernel
theorem dX6_reads_12 : decode cX6_reads 12 = .ok (.ifCond .eq 16, 3) := by decide +kernel
theorem dX6_reads_15 : decode cX6_reads 15 = .ok (.aload_n 0, 1) := by decide +kernel
theorem dX6_reads_16 : decode cX6_reads 16 = .ok (.dup, 1) := by decide +kernel
theorem dX6_reads_17 : decode cX6_reads 17 = .ok (.getfield 165, 3) := by decide +kernel
theorem dX6_reads_20 : decode cX6_reads 20 = .ok (.iconst 1, 1) := by decide +kernel
theorem dX6_reads_21 : decode cX6_reads 21 = .ok (.iadd, 1) := by decide +kernel
theorem dX6_reads_22 : decode cX6_reads 22 = .ok (.putfield 165, 3) := by decide +kernel
theorem dX6_reads_25 : decode cX6_reads 25 = .ok (.goto (-25), 3) := by decide +kernel
theorem dX6_reads_28 : decode cX6_reads 28 = .ok (.aload_n 0, 1) := by decide +kernel
theorem dX6_reads_29 : decode cX6_reads 29 = .ok (.aload_n 0, 1) := by decide +kernel
theorem dX6_reads_30 : decode cX6_reads 30 = .ok (.getfield 165, 3) := by decide +kernel
theorem dX6_reads_33 : decode cX6_reads 33 = .ok (.putfield 162, 3) := by decide +kernel
theorem dX6_reads_36 : decode cX6_reads 36 = .ok (.aload_n 0, 1) := by decide +kernel
theorem dX6_reads_37 : decode cX6_reads 37 = .ok (.iconst 0, 1) := by decide +kernel
theorem dX6_reads_38 : decode cX6_reads 38 = .ok (.putfield 175, 3) := by decide +kernel
theorem dX6_reads_41 : decode cX6_reads 41 = .ok (.aload_n 0, 1) := by decide +kernel
theorem dX6_reads_42 : decode cX6_reads 42 = .ok (.getfield 165, 3) := by decide +kernel
theorem dX6_reads_45 : decode cX6_reads 45 = .ok (.aload_n 0, 1) := by decide +kernel
theorem dX6_reads_46 : decode cX6_reads 46 = .ok (.getfield 155, 3) := by decide +kernel
theorem dX6_reads_49 : decode cX6_reads 49 = .ok (.if_icmp .ne 12, 3) := by decide +kernel
theorem dX6_reads_52 : decode cX6_reads 52 = .ok (.aload_n 0, 1) := by decide +kernel
theorem dX6_reads_53 : decode cX6_reads 53 = .ok (.bipush 22, 2) := by decide +kernel
theorem dX6_reads_55 : decode cX6_reads 55 = .ok (.putfield 178, 3) := by decide +kernel
theorem dX6_reads_58 : decode cX6_reads 58 = .ok (.goto 186, 3) := by decide +kernel
theorem dX6_reads_61 : decode cX6_reads 61 = .ok (.aload_n 0, 1) := by decide +kernel
theorem dX6_reads_62 : decode cX6_reads 62 = .ok (.aload_n 0, 1) := by decide +kernel
theorem dX6_reads_63 : decode cX6_reads 63 = .ok (.getfield 165, 3) := by decide +kernel
theorem dX6_reads_66 : decode cX6_reads 66 = .ok (.bipush 97, 2) := by decide +kernel
theorem dX6_reads_68 : decode cX6_reads 68 = .ok (.bipush 122, 2) := by decide +kernel
theorem dX6_reads_70 : decode cX6_reads 70 = .ok (.invokevirtual 171, 3) := by decide +kernel
theorem dX6_reads_73 : decode cX6_reads 73 = .ok (.ifCond .eq 42, 3) := by decide +kernel
theorem dX6_reads_76 : decode cX6_reads 76 = .ok (.aload_n 0, 1) := by decide +kernel
theorem dX6_reads_77 : decode cX6_reads 77 = .ok (.aload_n 0, 1) := by decide +kernel
theorem dX6_reads_78 : decode cX6_reads 78 = .ok (.getfield 165, 3) := by decide +kernel
theorem dX6_reads_81 : decode cX6_reads 81 = .ok (.bipush 97, 2) := by decide +kernel
theorem dX6_reads_83 : decode cX6_reads 83 = .ok (.bipush 122, 2) := by decide +kernel
theorem dX6_reads_85 : decode cX6_reads 85 = .ok (.invokevirtual 171, 3) := by decide +kernel
theorem dX6_reads_88 : decode cX6_reads 88 = .ok (.ifCond .eq 16, 3) := by decide +kernel
theorem dX6_reads_91 : decode cX6_reads 91 = .ok (.aload_n 0, 1) := by decide +kernel
theorem dX6_reads_92 : decode cX6_reads 92 = .ok (.dup, 1) := by decide +kernel
theorem dX6_reads_93 : decode cX6_reads 93 = .ok (.getfield 165, 3) := by decide +kernel
theorem dX6_reads_96 : decode cX6_reads 96 = .ok (.iconst 1, 1) := by decide +kernel
theorem dX6_reads_97 : decode cX6_reads 97 = .ok (.iadd, 1) := by decide +kernel
theorem dX6_reads_98 : decode cX6_reads 98 = .ok (.putfield 165, 3) := by decide +kernel
theorem dX6_reads_101 : decode cX6_reads 101 = .ok (.goto (-25), 3) := by decide +kernel
theorem dX6_reads_104 : decode cX6_reads 104 = .ok (.aload_n 0, 1) := by decide +kernel
theorem dX6_reads_105 : decode cX6_reads 105 = .ok (.aload_n 0, 1) := by decide +kernel
theorem dX6_reads_106 : decode cX6_reads 106 = .ok (.invokevirtual 181, 3) := by decide +kernel
theorem dX6_reads_109 : decode cX6_reads 109 = .ok (.putfield 178, 3) := by decide +kernel
theorem dX6_reads_112 : decode cX6_reads 112 = .ok (.goto 132, 3) := by decide +kernel
theorem dX6_reads_115 : decode cX6_reads 115 = .ok (.aload_n 0, 1) := by decide +kernel
theorem dX6_reads_116 : decode cX6_reads 116 = .ok (.aload_n 0, 1) := by decide +kernel
theorem dX6_reads_117 : decode cX6_reads 117 = .ok (.getfield 165, 3) := by decide +kernel
theorem dX6_reads_120 : decode cX6_reads 120 = .ok (.bipush 48, 2) := by decide +kernel
theorem dX6_reads_122 : decode cX6_reads 122 = .ok (.bipush 57, 2) := by decide +kernel
theorem dX6_reads_124 : decode cX6_reads 124 = .ok (.invokevirtual 171, 3) := by decide +kernel
theorem dX6_reads_127 : decode cX6_reads 127 = .ok (.ifCond .eq 81, 3) := by decide +kernel
theorem dX6_reads_130 : decode cX6_reads 130 = .ok (.aload_n 0, 1) := by decide +kernel
theorem dX6_reads_131 : decode cX6_reads 131 = .ok (.aload_n 0, 1) := by decide +kernel
theorem dX6_reads_132 : decode cX6_reads 132 = .ok (.getfield 165, 3) := by decide +kernel
theorem dX6_reads_135 : decode cX6_reads 135 = .ok (.bipush 48, 2) := by decide +kernel
theorem dX6_reads_137 : decode cX6_reads 137 = .ok (.bipush 57, 2) := by decide +kernel
theorem dX6_reads_139 : decode cX6_reads 139 = .ok (.invokevirtual 171, 3) := by decide +kernel
theorem dX6_reads_142 : decode cX6_reads 142 = .ok (.ifCond .eq 57, 3) := by decide +kernel
theorem dX6_reads_145 : decode cX6_reads 145 = .ok (.aload_n 0, 1) := by decide +kernel
theorem dX6_reads_146 : decode cX6_reads 146 = .ok (.aload_n 0, 1) := by decide +kernel
theorem dX6_reads_147 : decode cX6_reads 147 = .ok (.getfield 175, 3) := by decide +kernel
theorem dX6_reads_150 : decode cX6_reads 150 = .ok (.sipush 9999, 3) := by decide +kernel
theorem dX6_reads_153 : decode cX6_reads 153 = .ok (.if_icmp .le 10, 3) := by decide +kernel
theorem dX6_reads_156 : decode cX6_reads 156 = .ok (.aload_n 0, 1) := by decide +kernel
theorem dX6_reads_157 : decode cX6_reads 157 = .ok (.getfield 175, 3) := by decide +kernel
theorem dX6_reads_160 : decode cX6_reads 160 = .ok (.goto 23, 3) := by decide +kernel
theorem dX6_reads_163 : decode cX6_reads 163 = .ok (.bipush 10, 2) := by decide +kernel
theorem dX6_reads_165 : decode cX6_reads 165 = .ok (.aload_n 0, 1) := by decide +kernel
theorem dX6_reads_166 : decode cX6_reads 166 = .ok (.getfield 175, 3) := by decide +kernel
theorem dX6_reads_169 : decode cX6_reads 169 = .ok (.imul, 1) := by decide +kernel
theorem dX6_reads_170 : decode cX6_reads 170 = .ok (.aload_n 0, 1) := by decide +kernel
theorem dX6_reads_171 : decode cX6_reads 171 = .ok (.getfield 22, 3) := by decide +kernel
theorem dX6_reads_174 : decode cX6_reads 174 = .ok (.aload_n 0, 1) := by decide +kernel
theorem dX6_reads_175 : decode cX6_reads 175 = .ok (.getfield 165, 3) := by decide +kernel
theorem dX6_reads_178 : decode cX6_reads 178 = .ok (.iaload, 1) := by decide +kernel
theorem dX6_reads_179 : decode cX6_reads 179 = .ok (.iadd, 1) := by decide +kernel
theorem dX6_reads_180 : decode cX6_reads 180 = .ok (.bipush 48, 2) := by decide +kernel
theorem dX6_reads_182 : decode cX6_reads 182 = .ok (.isub, 1) := by decide +kernel
theorem dX6_reads_183 : decode cX6_reads 183 = .ok (.putfield 175, 3) := by decide +kernel
theorem dX6_reads_186 : decode cX6_reads 186 = .ok (.aload_n 0, 1) := by decide +kernel
theorem dX6_reads_187 : decode cX6_reads 187 = .ok (.dup, 1) := by decide +kernel
theorem dX6_reads_188 : decode cX6_reads 188 = .ok (.getfield 165, 3) := by decide +kernel
theorem dX6_reads_191 : decode cX6_reads 191 = .ok (.iconst 1, 1) := by decide +kernel
theorem dX6_reads_192 : decode cX6_reads 192 = .ok (.iadd, 1) := by decide +kernel
theorem dX6_reads_193 : decode cX6_reads 193 = .ok (.putfield 165, 3) := by decide +kernel
theorem dX6_reads_196 : decode cX6_reads 196 = .ok (.goto (-66), 3) := by decide +kernel
theorem dX6_reads_199 : decode cX6_reads 199 = .ok (.aload_n 0, 1) := by decide +kernel
theorem dX6_reads_200 : decode cX6_reads 200 = .ok (.bipush 20, 2) := by decide +kernel
theorem dX6_reads_202 : decode cX6_reads 202 = .ok (.putfield 178, 3) := by decide +kernel
theorem dX6_reads_205 : decode cX6_reads 205 = .ok (.goto 39, 3) := by decide +kernel
theorem dX6_reads_208 : decode cX6_reads 208 = .ok (.aload_n 0, 1) := by decide +kernel
theorem dX6_reads_209 : decode cX6_reads 209 = .ok (.aload_n 0, 1) := by decide +kernel
theorem dX6_reads_210 : decode cX6_reads 210 = .ok (.aload_n 0, 1) := by decide +kernel
theorem dX6_reads_211 : decode cX6_reads 211 = .ok (.getfield 165, 3) := by decide +kernel
theorem dX6_reads_214 : decode cX6_reads 214 = .ok (.bipush 59, 2) := by decide +kernel
theorem dX6_reads_216 : decode cX6_reads 216 = .ok (.bipush 59, 2) := by decide +kernel
theorem dX6_reads_218 : decode cX6_reads 218 = .ok (.invokevirtual 171, 3) := by decide +kernel
theorem dX6_reads_221 : decode cX6_reads 221 = .ok (.ifCond .eq 8, 3) := by decide +kernel
theorem dX6_reads_224 : decode cX6_reads 224 = .ok (.bipush 21, 2) := by decide +kernel
theorem dX6_reads_226 : decode cX6_reads 226 = .ok (.goto 5, 3) := by decide +kernel
theorem dX6_reads_229 : decode cX6_reads 229 = .ok (.bipush 23, 2) := by decide +kernel
theorem dX6_reads_231 : decode cX6_reads 231 = .ok (.putfield 178, 3) := by decide +kernel
theorem dX6_reads_234 : decode cX6_reads 234 = .ok (.aload_n 0, 1) := by decide +kernel
theorem dX6_reads_235 : decode cX6_reads 235 = .ok (.dup, 1) := by decide +kernel
theorem dX6_reads_236 : decode cX6_reads 236 = .ok (.getfield 165, 3) := by decide +kernel
theorem dX6_reads_239 : decode cX6_reads 239 = .ok (.iconst 1, 1) := by decide +kernel
theorem dX6_reads_240 : decode cX6_reads 240 = .ok (.iadd, 1) := by decide +kernel
theorem dX6_reads_241 : decode cX6_reads 241 = .ok (.putfield 165, 3) := by decide +kernel
theorem dX6_reads_244 : decode cX6_reads 244 = .ok (.return_, 1) := by decide +kernel
theorem dX6_passes_0 : decode cX6_passes 0 = .ok (.aload_n 0, 1) := by decide +kernel
theorem dX6_passes_1 : decode cX6_passes 1 = .ok (.getfield 184, 3) := by decide +kernel
theorem dX6_passes_4 : decode cX6_passes 4 = .ok (.ifCond .ne 11, 3) := by decide +kernel
theorem dX6_passes_7 : decode cX6_passes 7 = .ok (.aload_n 0, 1) := by decide +kernel
theorem dX6_passes_8 : decode cX6_passes 8 = .ok (.getfield 178, 3) := by decide +kernel
theorem dX6_passes_11 : decode cX6_passes 11 = .ok (.iload_n 1, 1) := by decide +kernel
theorem dX6_passes_12 : decode cX6_passes 12 = .ok (.if_icmp .eq 5, 3) := by decide +kernel
theorem dX6_passes_15 : decode cX6_passes 15 = .ok (.iconst 0, 1) := by decide +kernel
theorem dX6_passes_16 : decode cX6_passes 16 = .ok (.ireturn, 1) := by decide +kernel
theorem dX6_passes_17 : decode cX6_passes 17 = .ok (.aload_n 0, 1) := by decide +kernel
theorem dX6_passes_18 : decode cX6_passes 18 = .ok (.invokevirtual 188, 3) := by decide +kernel
theorem dX6_passes_21 : decode cX6_passes 21 = .ok (.iconst 1, 1) := by decide +kernel
theorem dX6_passes_22 : decode cX6_passes 22 = .ok (.ireturn, 1) := by decide +kernel
theorem dX6_number_0 : decode cX6_number 0 = .ok (.aload_n 0, 1) := by decide +kernel
theorem dX6_number_1 : decode cX6_number 1 = .ok (.getfield 175, 3) := by decide +kernel
theorem dX6_number_4 : decode cX6_number 4 = .ok (.istore_n 3, 1) := by decide +kernel
theorem dX6_number_5 : decode cX6_number 5 = .ok (.aload_n 0, 1) := by decide +kernel
theorem dX6_number_6 : decode cX6_number 6 = .ok (.aload_n 0, 1) := by decide +kernel
theorem dX6_number_7 : decode cX6_number 7 = .ok (.getfield 184, 3) := by decide +kernel
theorem dX6_number_10 : decode cX6_number 10 = .ok (.ifCond .ne 22, 3) := by decide +kernel
theorem dX6_number_13 : decode cX6_number 13 = .ok (.aload_n 0, 1) := by decide +kernel
theorem dX6_number_14 : decode cX6_number 14 = .ok (.getfield 178, 3) := by decide +kernel
theorem dX6_number_17 : decode cX6_number 17 = .ok (.bipush 20, 2) := by decide +kernel
theorem dX6_number_19 : decode cX6_number 19 = .ok (.if_icmp .ne 13, 3) := by decide +kernel
theorem dX6_number_22 : decode cX6_number 22 = .ok (.iload_n 3, 1) := by decide +kernel
theorem dX6_number_23 : decode cX6_number 23 = .ok (.i2l, 1) := by decide +kernel
theorem dX6_number_24 : decode cX6_number 24 = .ok (.iload_n 1, 1) := by decide +kernel
theorem dX6_number_25 : decode cX6_number 25 = .ok (.iload_n 2, 1) := by decide +kernel
theorem dX6_number_26 : decode cX6_number 26 = .ok (.invokestatic 41, 3) := by decide +kernel
theorem dX6_number_29 : decode cX6_number 29 = .ok (.ifCond .ne 7, 3) := by decide +kernel
theorem dX6_number_32 : decode cX6_number 32 = .ok (.iconst 1, 1) := by decide +kernel
theorem dX6_number_33 : decode cX6_number 33 = .ok (.goto 4, 3) := by decide +kernel
theorem dX6_number_36 : decode cX6_number 36 = .ok (.iconst 0, 1) := by decide +kernel
theorem dX6_number_37 : decode cX6_number 37 = .ok (.putfield 184, 3) := by decide +kernel
theorem dX6_number_40 : decode cX6_number 40 = .ok (.aload_n 0, 1) := by decide +kernel
theorem dX6_number_41 : decode cX6_number 41 = .ok (.getfield 184, 3) := by decide +kernel
theorem dX6_number_44 : decode cX6_number 44 = .ok (.ifCond .ne 7, 3) := by decide +kernel
theorem dX6_number_47 : decode cX6_number 47 = .ok (.aload_n 0, 1) := by decide +kernel
theorem dX6_number_48 : decode cX6_number 48 = .ok (.invokevirtual 188, 3) := by decide +kernel
theorem dX6_number_51 : decode cX6_number 51 = .ok (.iload_n 3, 1) := by decide +kernel
theorem dX6_number_52 : decode cX6_number 52 = .ok (.ireturn, 1) := by decide +kernel
theorem dX6_perhaps_0 : decode cX6_perhaps 0 = .ok (.aload_n 0, 1) := by decide +kernel
theorem dX6_perhaps_1 : decode cX6_perhaps 1 = .ok (.iload_n 1, 1) := by decide +kernel
theorem dX6_perhaps_2 : decode cX6_perhaps 2 = .ok (.invokevirtual 191, 3) := by decide +kernel
theorem dX6_perhaps_5 : decode cX6_perhaps 5 = .ok (.ifCond .eq 12, 3) := by decide +kernel
theorem dX6_perhaps_8 : decode cX6_perhaps 8 = .ok (.aload_n 0, 1) := by decide +kernel
theorem dX6_perhaps_9 : decode cX6_perhaps 9 = .ok (.iload_n 2, 1) := by decide +kernel
theorem dX6_perhaps_10 : decode cX6_perhaps 10 = .ok (.iload_n 3, 1) := by decide +kernel
theorem dX6_perhaps_11 : decode cX6_perhaps 11 = .ok (.invokevirtual 194, 3) := by decide +kernel
theorem dX6_perhaps_14 : decode cX6_perhaps 14 = .ok (.goto 5, 3) := by decide +kernel
theorem dX6_perhaps_17 : decode cX6_perhaps 17 = .ok (.iload 4, 2) := by decide +kernel
theorem dX6_perhaps_19 : decode cX6_perhaps 19 = .ok (.ireturn, 1) := by decide +kernel
theorem dX6_frameItem_0 : decode cX6_frameItem 0 = .ok (.aload_n 0, 1) := by decide +kernel
theorem dX6_frameItem_1 : decode cX6_frameItem 1 = .ok (.getfield 178, 3) := by decide +kernel
theorem dX6_frameItem_4 : decode cX6_frameItem 4 = .ok (.istore_n 1, 1) := by decide +kernel
theorem dX6_frameItem_5 : decode cX6_frameItem 5 = .ok (.aload_n 0, 1) := by decide +kernel
theorem dX6_frameItem_6 : decode cX6_frameItem 6 = .ok (.aload_n 0, 1) := by decide +kernel
theorem dX6_frameItem_7 : decode cX6_frameItem 7 = .ok (.getfield 9, 3) := by decide +kernel
theorem dX6_frameItem_10 : decode cX6_frameItem 10 = .ok (.iconst 1, 1) := by decide +kernel
theorem dX6_frameItem_11 : decode cX6_frameItem 11 = .ok (.iaload, 1) := by decide +kernel
theorem dX6_frameItem_12 : decode cX6_frameItem 12 = .ok (.bipush 8, 2) := by decide +kernel
theorem dX6_frameItem_14 : decode cX6_frameItem 14 = .ok (.if_icmp .ne 7, 3) := by decide +kernel
theorem dX6_frameItem_17 : decode cX6_frameItem 17 = .ok (.iconst 1, 1) := by decide +kernel
theorem dX6_frameItem_18 : decode cX6_frameItem 18 = .ok (.goto 4, 3) := by decide +kernel
theorem dX6_frameItem_21 : decode cX6_frameItem 21 = .ok (.iconst 0, 1) := by decide +kernel
theorem dX6_frameItem_22 : decode cX6_frameItem 22 = .ok (.putfield 184, 3) := by decide +kernel
theorem dX6_frameItem_25 : decode cX6_frameItem 25 = .ok (.aload_n 0, 1) := by decide +kernel
theorem dX6_frameItem_26 : decode cX6_frameItem 26 = .ok (.getfield 184, 3) := by decide +kernel
theorem dX6_frameItem_29 : decode cX6_frameItem 29 = .ok (.ifCond .eq 4, 3) := by decide +kernel
theorem dX6_frameItem_32 : decode cX6_frameItem 32 = .ok (.return_, 1) := by decide +kernel
theorem dX6_frameItem_33 : decode cX6_frameItem 33 = .ok (.aload_n 0, 1) := by decide +kernel
theorem dX6_frameItem_34 : decode cX6_frameItem 34 = .ok (.invokevirtual 188, 3) := by decide +kernel
theorem dX6_frameItem_37 : decode cX6_frameItem 37 = .ok (.aload_n 0, 1) := by decide +kernel
theorem dX6_frameItem_38 : decode cX6_frameItem 38 = .ok (.iconst 0, 1) := by decide +kernel
theorem dX6_frameItem_39 : decode cX6_frameItem 39 = .ok (.iconst 3, 1) := by decide +kernel
theorem dX6_frameItem_40 : decode cX6_frameItem 40 = .ok (.invokevirtual 194, 3) := by decide +kernel
theorem dX6_frameItem_43 : decode cX6_frameItem 43 = .ok (.istore_n 2, 1) := by decide +kernel
theorem dX6_frameItem_44 : decode cX6_frameItem 44 = .ok (.aload_n 0, 1) := by decide +kernel
theorem dX6_frameItem_45 : decode cX6_frameItem 45 = .ok (.bipush 6, 2) := by decide +kernel
theorem dX6_frameItem_47 : decode cX6_frameItem 47 = .ok (.iconst 0, 1) := by decide +kernel
theorem dX6_frameItem_48 : decode cX6_frameItem 48 = .ok (.bipush 99, 2) := by decide +kernel
theorem dX6_frameItem_50 : decode cX6_frameItem 50 = .ok (.bipush 10, 2) := by decide +kernel
theorem dX6_frameItem_52 : decode cX6_frameItem 52 = .ok (.invokevirtual 197, 3) := by decide +kernel
theorem dX6_frameItem_55 : decode cX6_frameItem 55 = .ok (.istore_n 3, 1) := by decide +kernel
theorem dX6_frameItem_56 : decode cX6_frameItem 56 = .ok (.aload_n 0, 1) := by decide +kernel
theorem dX6_frameItem_57 : decode cX6_frameItem 57 = .ok (.bipush 7, 2) := by decide +kernel
theorem dX6_frameItem_59 : decode cX6_frameItem 59 = .ok (.invokevirtual 191, 3) := by decide +kernel
theorem dX6_frameItem_62 : decode cX6_frameItem 62 = .ok (.ifCond .eq 7, 3) := by decide +kernel
theorem dX6_frameItem_65 : decode cX6_frameItem 65 = .ok (.iconst 1, 1) := by decide +kernel
theorem dX6_frameItem_66 : decode cX6_frameItem 66 = .ok (.goto 4, 3) := by decide +kernel
theorem dX6_frameItem_69 : decode cX6_frameItem 69 = .ok (.iconst 0, 1) := by decide +kernel
theorem dX6_frameItem_70 : decode cX6_frameItem 70 = .ok (.istore 4, 2) := by decide +kernel
theorem dX6_frameItem_72 : decode cX6_frameItem 72 = .ok (.aload_n 0, 1) := by decide +kernel
theorem dX6_frameItem_73 : decode cX6_frameItem 73 = .ok (.getfield 184, 3) := by decide +kernel
theorem dX6_frameItem_76 : decode cX6_frameItem 76 = .ok (.ifCond .ne 14, 3) := by decide +kernel
theorem dX6_frameItem_79 : decode cX6_frameItem 79 = .ok (.aload_n 0, 1) := by decide +kernel
theorem dX6_frameItem_80 : decode cX6_frameItem 80 = .ok (.iload_n 1, 1) := by decide +kernel
theorem dX6_frameItem_81 : decode cX6_frameItem 81 = .ok (.iload_n 2, 1) := by decide +kernel
theorem dX6_frameItem_82 : decode cX6_frameItem 82 = .ok (.iload_n 3, 1) := by decide +kernel
theorem dX6_frameItem_83 : decode cX6_frameItem 83 = .ok (.iload 4, 2) := by decide +kernel
theorem dX6_frameItem_85 : decode cX6_frameItem 85 = .ok (.invokevirtual 75, 3) := by decide +kernel
theorem dX6_frameItem_88 : decode cX6_frameItem 88 = .ok (.istore 5, 2) := by decide +kernel
theorem dX6_frameItem_90 : decode cX6_frameItem 90 = .ok (.return_, 1) := by decide +kernel
theorem dX6_tradeItem_0 : decode cX6_tradeItem 0 = .ok (.aload_n 0, 1) := by decide +kernel
theorem dX6_tradeItem_1 : decode cX6_tradeItem 1 = .ok (.iconst 0, 1) := by decide +kernel
theorem dX6_tradeItem_2 : decode cX6_tradeItem 2 = .ok (.aload_n 0, 1) := by decide +kernel
theorem dX6_tradeItem_3 : decode cX6_tradeItem 3 = .ok (.getfield 9, 3) := by decide +kernel
theorem dX6_tradeItem_6 : decode cX6_tradeItem 6 = .ok (.iconst 1, 1) := by decide +kernel
theorem dX6_tradeItem_7 : decode cX6_tradeItem 7 = .ok (.iaload, 1) := by decide +kernel
theorem dX6_tradeItem_8 : decode cX6_tradeItem 8 = .ok (.iconst 1, 1) := by decide +kernel
theorem dX6_tradeItem_9 : decode cX6_tradeItem 9 = .ok (.isub, 1) := by decide +kernel
theorem dX6_tradeItem_10 : decode cX6_tradeItem 10 = .ok (.invokevirtual 194, 3) := by decide +kernel
theorem dX6_tradeItem_13 : decode cX6_tradeItem 13 = .ok (.istore_n 1, 1) := by decide +kernel
theorem dX6_tradeItem_14 : decode cX6_tradeItem 14 = .ok (.aload_n 0, 1) := by decide +kernel
theorem dX6_tradeItem_15 : decode cX6_tradeItem 15 = .ok (.aload_n 0, 1) := by decide +kernel
theorem dX6_tradeItem_16 : decode cX6_tradeItem 16 = .ok (.getfield 184, 3) := by decide +kernel
theorem dX6_tradeItem_19 : decode cX6_tradeItem 19 = .ok (.ifCond .ne 20, 3) := by decide +kernel
theorem dX6_tradeItem_22 : decode cX6_tradeItem 22 = .ok (.aload_n 0, 1) := by decide +kernel
theorem dX6_tradeItem_23 : decode cX6_tradeItem 23 = .ok (.getfield 178, 3) := by decide +kernel
theorem dX6_tradeItem_26 : decode cX6_tradeItem 26 = .ok (.bipush 20, 2) := by decide +kernel
theorem dX6_tradeItem_28 : decode cX6_tradeItem 28 = .ok (.if_icmp .ne 15, 3) := by decide +kernel
theorem dX6_tradeItem_31 : decode cX6_tradeItem 31 = .ok (.aload_n 0, 1) := by decide +kernel
theorem dX6_tradeItem_32 : decode cX6_tradeItem 32 = .ok (.getfield 175, 3) := by decide +kernel
theorem dX6_tradeItem_35 : decode cX6_tradeItem 35 = .ok (.iload_n 1, 1) := by decide +kernel
theorem dX6_tradeItem_36 : decode cX6_tradeItem 36 = .ok (.if_icmp .ne 7, 3) := by decide +kernel
theorem dX6_tradeItem_39 : decode cX6_tradeItem 39 = .ok (.iconst 1, 1) := by decide +kernel
theorem dX6_tradeItem_40 : decode cX6_tradeItem 40 = .ok (.goto 4, 3) := by decide +kernel
theorem dX6_tradeItem_43 : decode cX6_tradeItem 43 = .ok (.iconst 0, 1) := by decide +kernel
theorem dX6_tradeItem_44 : decode cX6_tradeItem 44 = .ok (.putfield 184, 3) := by decide +kernel
theorem dX6_tradeItem_47 : decode cX6_tradeItem 47 = .ok (.aload_n 0, 1) := by decide +kernel
theorem dX6_tradeItem_48 : decode cX6_tradeItem 48 = .ok (.iconst 0, 1) := by decide +kernel
theorem dX6_tradeItem_49 : decode cX6_tradeItem 49 = .ok (.aload_n 0, 1) := by decide +kernel
theorem dX6_tradeItem_50 : decode cX6_tradeItem 50 = .ok (.getfield 9, 3) := by decide +kernel
theorem dX6_tradeItem_53 : decode cX6_tradeItem 53 = .ok (.iconst 1, 1) := by decide +kernel
theorem dX6_tradeItem_54 : decode cX6_tradeItem 54 = .ok (.iaload, 1) := by decide +kernel
theorem dX6_tradeItem_55 : decode cX6_tradeItem 55 = .ok (.iconst 1, 1) := by decide +kernel
theorem dX6_tradeItem_56 : decode cX6_tradeItem 56 = .ok (.isub, 1) := by decide +kernel
theorem dX6_tradeItem_57 : decode cX6_tradeItem 57 = .ok (.invokevirtual 194, 3) := by decide +kernel
theorem dX6_tradeItem_60 : decode cX6_tradeItem 60 = .ok (.istore_n 2, 1) := by decide +kernel
theorem dX6_tradeItem_61 : decode cX6_tradeItem 61 = .ok (.aload_n 0, 1) := by decide +kernel
theorem dX6_tradeItem_62 : decode cX6_tradeItem 62 = .ok (.getfield 184, 3) := by decide +kernel
theorem dX6_tradeItem_65 : decode cX6_tradeItem 65 = .ok (.ifCond .ne 9, 3) := by decide +kernel
theorem dX6_tradeItem_68 : decode cX6_tradeItem 68 = .ok (.aload_n 0, 1) := by decide +kernel
theorem dX6_tradeItem_69 : decode cX6_tradeItem 69 = .ok (.iload_n 1, 1) := by decide +kernel
theorem dX6_tradeItem_70 : decode cX6_tradeItem 70 = .ok (.iload_n 2, 1) := by decide +kernel
theorem dX6_tradeItem_71 : decode cX6_tradeItem 71 = .ok (.invokevirtual 106, 3) := by decide +kernel
theorem dX6_tradeItem_74 : decode cX6_tradeItem 74 = .ok (.return_, 1) := by decide +kernel
theorem dX6_item_0 : decode cX6_item 0 = .ok (.aload_n 0, 1) := by decide +kernel
theorem dX6_item_1 : decode cX6_item 1 = .ok (.getfield 178, 3) := by decide +kernel
theorem dX6_item_4 : decode cX6_item 4 = .ok (.iconst 5, 1) := by decide +kernel
theorem dX6_item_5 : decode cX6_item 5 = .ok (.if_icmp .gt 10, 3) := by decide +kernel
theorem dX6_item_8 : decode cX6_item 8 = .ok (.aload_n 0, 1) := by decide +kernel
theorem dX6_item_9 : decode cX6_item 9 = .ok (.invokevirtual 200, 3) := by decide +kernel
theorem dX6_item_12 : decode cX6_item 12 = .ok (.goto 68, 3) := by decide +kernel
theorem dX6_item_15 : decode cX6_item 15 = .ok (.aload_n 0, 1) := by decide +kernel
theorem dX6_item_16 : decode cX6_item 16 = .ok (.bipush 8, 2) := by decide +kernel
theorem dX6_item_18 : decode cX6_item 18 = .ok (.invokevirtual 191, 3) := by decide +kernel
theorem dX6_item_21 : decode cX6_item 21 = .ok (.ifCond .eq 10, 3) := by decide +kernel
theorem dX6_item_24 : decode cX6_item 24 = .ok (.aload_n 0, 1) := by decide +kernel
theorem dX6_item_25 : decode cX6_item 25 = .ok (.invokevirtual 203, 3) := by decide +kernel
theorem dX6_item_28 : decode cX6_item 28 = .ok (.goto 52, 3) := by decide +kernel
theorem dX6_item_31 : decode cX6_item 31 = .ok (.aload_n 0, 1) := by decide +kernel
theorem dX6_item_32 : decode cX6_item 32 = .ok (.bipush 9, 2) := by decide +kernel
theorem dX6_item_34 : decode cX6_item 34 = .ok (.invokevirtual 191, 3) := by decide +kernel
theorem dX6_item_37 : decode cX6_item 37 = .ok (.ifCond .eq 38, 3) := by decide +kernel
theorem dX6_item_40 : decode cX6_item 40 = .ok (.aload_n 0, 1) := by decide +kernel
theorem dX6_item_41 : decode cX6_item 41 = .ok (.iconst 0, 1) := by decide +kernel
theorem dX6_item_42 : decode cX6_item 42 = .ok (.iconst 3, 1) := by decide +kernel
theorem dX6_item_43 : decode cX6_item 43 = .ok (.invokevirtual 194, 3) := by decide +kernel
theorem dX6_item_46 : decode cX6_item 46 = .ok (.istore_n 1, 1) := by decide +kernel
theorem dX6_item_47 : decode cX6_item 47 = .ok (.aload_n 0, 1) := by decide +kernel
theorem dX6_item_48 : decode cX6_item 48 = .ok (.iconst 0, 1) := by decide +kernel
theorem dX6_item_49 : decode cX6_item 49 = .ok (.sipush 9999, 3) := by decide +kernel
theorem dX6_item_52 : decode cX6_item 52 = .ok (.invokevirtual 194, 3) := by decide +kernel
theorem dX6_item_55 : decode cX6_item 55 = .ok (.istore_n 2, 1) := by decide +kernel
theorem dX6_item_56 : decode cX6_item 56 = .ok (.aload_n 0, 1) := by decide +kernel
theorem dX6_item_57 : decode cX6_item 57 = .ok (.getfield 184, 3) := by decide +kernel
theorem dX6_item_60 : decode cX6_item 60 = .ok (.ifCond .ne 12, 3) := by decide +kernel
theorem dX6_item_63 : decode cX6_item 63 = .ok (.aload_n 0, 1) := by decide +kernel
theorem dX6_item_64 : decode cX6_item 64 = .ok (.getfield 9, 3) := by decide +kernel
theorem dX6_item_67 : decode cX6_item 67 = .ok (.iconst 2, 1) := by decide +kernel
theorem dX6_item_68 : decode cX6_item 68 = .ok (.iload_n 1, 1) := by decide +kernel
theorem dX6_item_69 : decode cX6_item 69 = .ok (.iadd, 1) := by decide +kernel
theorem dX6_item_70 : decode cX6_item 70 = .ok (.iload_n 2, 1) := by decide +kernel
theorem dX6_item_71 : decode cX6_item 71 = .ok (.iastore, 1) := by decide +kernel
theorem dX6_item_72 : decode cX6_item 72 = .ok (.goto 8, 3) := by decide +kernel
theorem dX6_item_75 : decode cX6_item 75 = .ok (.aload_n 0, 1) := by decide +kernel
theorem dX6_item_76 : decode cX6_item 76 = .ok (.iconst 1, 1) := by decide +kernel
theorem dX6_item_77 : decode cX6_item 77 = .ok (.putfield 184, 3) := by decide +kernel
theorem dX6_item_80 : decode cX6_item 80 = .ok (.return_, 1) := by decide +kernel
theorem dX6_city_0 : decode cX6_city 0 = .ok (.aload_n 0, 1) := by decide +kernel
theorem dX6_city_1 : decode cX6_city 1 = .ok (.invokevirtual 120, 3) := by decide +kernel
theorem dX6_city_4 : decode cX6_city 4 = .ok (.aload_n 0, 1) := by decide +kernel
theorem dX6_city_5 : decode cX6_city 5 = .ok (.iconst 0, 1) := by decide +kernel
theorem dX6_city_6 : decode cX6_city 6 = .ok (.putfield 165, 3) := by decide +kernel
theorem dX6_city_9 : decode cX6_city 9 = .ok (.aload_n 0, 1) := by decide +kernel
theorem dX6_city_10 : decode cX6_city 10 = .ok (.iconst 0, 1) := by decide +kernel
theorem dX6_city_11 : decode cX6_city 11 = .ok (.putfield 184, 3) := by decide +kernel
theorem dX6_city_14 : decode cX6_city 14 = .ok (.aload_n 0, 1) := by decide +kernel
theorem dX6_city_15 : decode cX6_city 15 = .ok (.invokevirtual 188, 3) := by decide +kernel
theorem dX6_city_18 : decode cX6_city 18 = .ok (.aload_n 0, 1) := by decide +kernel
theorem dX6_city_19 : decode cX6_city 19 = .ok (.invokevirtual 206, 3) := by decide +kernel
theorem dX6_city_22 : decode cX6_city 22 = .ok (.iconst 1, 1) := by decide +kernel
theorem dX6_city_23 : decode cX6_city 23 = .ok (.istore_n 1, 1) := by decide +kernel
theorem dX6_city_24 : decode cX6_city 24 = .ok (.aload_n 0, 1) := by decide +kernel
theorem dX6_city_25 : decode cX6_city 25 = .ok (.bipush 21, 2) := by decide +kernel
theorem dX6_city_27 : decode cX6_city 27 = .ok (.invokevirtual 191, 3) := by decide +kernel
theorem dX6_city_30 : decode cX6_city 30 = .ok (.ifCond .eq 13, 3) := by decide +kernel
theorem dX6_city_33 : decode cX6_city 33 = .ok (.aload_n 0, 1) := by decide +kernel
theorem dX6_city_34 : decode cX6_city 34 = .ok (.invokevirtual 206, 3) := by decide +kernel
theorem dX6_city_37 : decode cX6_city 37 = .ok (.iinc 1 1, 3) := by decide +kernel
theorem dX6_city_40 : decode cX6_city 40 = .ok (.goto (-16), 3) := by decide +kernel
theorem dX6_city_43 : decode cX6_city 43 = .ok (.aload_n 0, 1) := by decide +kernel
theorem dX6_city_44 : decode cX6_city 44 = .ok (.aload_n 0, 1) := by decide +kernel
theorem dX6_city_45 : decode cX6_city 45 = .ok (.getfield 184, 3) := by decide +kernel
theorem dX6_city_48 : decode cX6_city 48 = .ok (.ifCond .ne 12, 3) := by decide +kernel
theorem dX6_city_51 : decode cX6_city 51 = .ok (.aload_n 0, 1) := by decide +kernel
theorem dX6_city_52 : decode cX6_city 52 = .ok (.getfield 178, 3) := by decide +kernel
theorem dX6_city_55 : decode cX6_city 55 = .ok (.bipush 22, 2) := by decide +kernel
theorem dX6_city_57 : decode cX6_city 57 = .ok (.if_icmp .eq 7, 3) := by decide +kernel
theorem dX6_city_60 : decode cX6_city 60 = .ok (.iconst 1, 1) := by decide +kernel
theorem dX6_city_61 : decode cX6_city 61 = .ok (.goto 4, 3) := by decide +kernel
theorem dX6_city_64 : decode cX6_city 64 = .ok (.iconst 0, 1) := by decide +kernel
theorem dX6_city_65 : decode cX6_city 65 = .ok (.putfield 184, 3) := by decide +kernel
theorem dX6_city_68 : decode cX6_city 68 = .ok (.aload_n 0, 1) := by decide +kernel
theorem dX6_city_69 : decode cX6_city 69 = .ok (.iconst 0, 1) := by decide +kernel
theorem dX6_city_70 : decode cX6_city 70 = .ok (.putfield 155, 3) := by decide +kernel
theorem dX6_city_73 : decode cX6_city 73 = .ok (.aload_n 0, 1) := by decide +kernel
theorem dX6_city_74 : decode cX6_city 74 = .ok (.getfield 184, 3) := by decide +kernel
theorem dX6_city_77 : decode cX6_city 77 = .ok (.ifCond .ne 5, 3) := by decide +kernel
theorem dX6_city_80 : decode cX6_city 80 = .ok (.iload_n 1, 1) := by decide +kernel
theorem dX6_city_81 : decode cX6_city 81 = .ok (.ireturn, 1) := by decide +kernel
theorem dX6_city_82 : decode cX6_city 82 = .ok (.aload_n 0, 1) := by decide +kernel
theorem dX6_city_83 : decode cX6_city 83 = .ok (.invokevirtual 126, 3) := by decide +kernel
theorem dX6_city_86 : decode cX6_city 86 = .ok (.iconst (-1), 1) := by decide +kernel
theorem dX6_city_87 : decode cX6_city 87 = .ok (.aload_n 0, 1) := by decide +kernel
theorem dX6_city_88 : decode cX6_city 88 = .ok (.getfield 162, 3) := by decide +kernel
theorem dX6_city_91 : decode cX6_city 91 = .ok (.isub, 1) := by decide +kernel
theorem dX6_city_92 : decode cX6_city 92 = .ok (.ireturn, 1) := by decide +kernel
theorem dX6_isSheet_0 : decode cX6_isSheet 0 = .ok (.iload_n 0, 1) := by decide +kernel
theorem dX6_isSheet_1 : decode cX6_isSheet 1 = .ok (.i2l, 1) := by decide +kernel
theorem dX6_isSheet_2 : decode cX6_isSheet 2 = .ok (.iconst 0, 1) := by decide +kernel
theorem dX6_isSheet_3 : decode cX6_isSheet 3 = .ok (.iconst 3, 1) := by decide +kernel
theorem dX6_isSheet_4 : decode cX6_isSheet 4 = .ok (.invokestatic 41, 3) := by decide +kernel
theorem dX6_isSheet_7 : decode cX6_isSheet 7 = .ok (.ireturn, 1) := by decide +kernel
theorem dX6_sheet_0 : decode cX6_sheet 0 = .ok (.iload_n 1, 1) := by decide +kernel
theorem dX6_sheet_1 : decode cX6_sheet 1 = .ok (.invokestatic 209, 3) := by decide +kernel
theorem dX6_sheet_4 : decode cX6_sheet 4 = .ok (.ifCond .eq 25, 3) := by decide +kernel
theorem dX6_sheet_7 : decode cX6_sheet 7 = .ok (.iload_n 2, 1) := by decide +kernel
theorem dX6_sheet_8 : decode cX6_sheet 8 = .ok (.ifCond .eq 28, 3) := by decide +kernel
theorem dX6_sheet_11 : decode cX6_sheet 11 = .ok (.iload_n 2, 1) := by decide +kernel
theorem dX6_sheet_12 : decode cX6_sheet 12 = .ok (.bipush 8, 2) := by decide +kernel
theorem dX6_sheet_14 : decode cX6_sheet 14 = .ok (.if_icmp .eq 22, 3) := by decide +kernel
theorem dX6_sheet_17 : decode cX6_sheet 17 = .ok (.iload_n 2, 1) := by decide +kernel
theorem dX6_sheet_18 : decode cX6_sheet 18 = .ok (.bipush 16, 2) := by decide +kernel
theorem dX6_sheet_20 : decode cX6_sheet 20 = .ok (.if_icmp .eq 16, 3) := by decide +kernel
theorem dX6_sheet_23 : decode cX6_sheet 23 = .ok (.iload_n 2, 1) := by decide +kernel
theorem dX6_sheet_24 : decode cX6_sheet 24 = .ok (.bipush 64, 2) := by decide +kernel
theorem dX6_sheet_26 : decode cX6_sheet 26 = .ok (.if_icmp .eq 10, 3) := by decide +kernel
theorem dX6_sheet_29 : decode cX6_sheet 29 = .ok (.aload_n 0, 1) := by decide +kernel
theorem dX6_sheet_30 : decode cX6_sheet 30 = .ok (.ldc 35, 2) := by decide +kernel
theorem dX6_sheet_32 : decode cX6_sheet 32 = .ok (.invokevirtual 37, 3) := by decide +kernel
theorem dX6_sheet_35 : decode cX6_sheet 35 = .ok (.ireturn, 1) := by decide +kernel
theorem dX6_sheet_36 : decode cX6_sheet 36 = .ok (.iload_n 3, 1) := by decide +kernel
theorem dX6_sheet_37 : decode cX6_sheet 37 = .ok (.ifCond .ge 10, 3) := by decide +kernel
theorem dX6_sheet_40 : decode cX6_sheet 40 = .ok (.aload_n 0, 1) := by decide +kernel
theorem dX6_sheet_41 : decode cX6_sheet 41 = .ok (.ldc 212, 2) := by decide +kernel
theorem dX6_sheet_43 : decode cX6_sheet 43 = .ok (.invokevirtual 37, 3) := by decide +kernel
theorem dX6_sheet_46 : decode cX6_sheet 46 = .ok (.ireturn, 1) := by decide +kernel
theorem dX6_sheet_47 : decode cX6_sheet 47 = .ok (.iload_n 3, 1) := by decide +kernel
theorem dX6_sheet_48 : decode cX6_sheet 48 = .ok (.bipush 40, 2) := by decide +kernel
theorem dX6_sheet_50 : decode cX6_sheet 50 = .ok (.if_icmp .le 10, 3) := by decide +kernel
theorem dX6_sheet_53 : decode cX6_sheet 53 = .ok (.aload_n 0, 1) := by decide +kernel
theorem dX6_sheet_54 : decode cX6_sheet 54 = .ok (.ldc 35, 2) := by decide +kernel
theorem dX6_sheet_56 : decode cX6_sheet 56 = .ok (.invokevirtual 37, 3) := by decide +kernel
theorem dX6_sheet_59 : decode cX6_sheet 59 = .ok (.ireturn, 1) := by decide +kernel
theorem dX6_sheet_60 : decode cX6_sheet 60 = .ok (.aload_n 0, 1) := by decide +kernel
theorem dX6_sheet_61 : decode cX6_sheet 61 = .ok (.getfield 25, 3) := by decide +kernel
theorem dX6_sheet_64 : decode cX6_sheet 64 = .ok (.iload_n 1, 1) := by decide +kernel
theorem dX6_sheet_65 : decode cX6_sheet 65 = .ok (.iload_n 2, 1) := by decide +kernel
theorem dX6_sheet_66 : decode cX6_sheet 66 = .ok (.iastore, 1) := by decide +kernel
theorem dX6_sheet_67 : decode cX6_sheet 67 = .ok (.aload_n 0, 1) := by decide +kernel
theorem dX6_sheet_68 : decode cX6_sheet 68 = .ok (.getfield 28, 3) := by decide +kernel
theorem dX6_sheet_71 : decode cX6_sheet 71 = .ok (.iload_n 1, 1) := by decide +kernel
theorem dX6_sheet_72 : decode cX6_sheet 72 = .ok (.iload_n 2, 1) := by decide +kernel
theorem dX6_sheet_73 : decode cX6_sheet 73 = .ok (.ifCond .ne 7, 3) := by decide +kernel
theorem dX6_sheet_76 : decode cX6_sheet 76 = .ok (.iconst 0, 1) := by decide +kernel
theorem dX6_sheet_77 : decode cX6_sheet 77 = .ok (.goto 4, 3) := by decide +kernel
theorem dX6_sheet_80 : decode cX6_sheet 80 = .ok (.iload_n 3, 1) := by decide +kernel
theorem dX6_sheet_81 : decode cX6_sheet 81 = .ok (.iastore, 1) := by decide +kernel
theorem dX6_sheet_82 : decode cX6_sheet 82 = .ok (.iconst 0, 1) := by decide +kernel
theorem dX6_sheet_83 : decode cX6_sheet 83 = .ok (.istore 4, 2) := by decide +kernel
theorem dX6_sheet_85 : decode cX6_sheet 85 = .ok (.iload 4, 2) := by decide +kernel
theorem dX6_sheet_87 : decode cX6_sheet 87 = .ok (.bipush 40, 2) := by decide +kernel
theorem dX6_sheet_89 : decode cX6_sheet 89 = .ok (.if_icmp .ge 22, 3) := by decide +kernel
theorem dX6_sheet_92 : decode cX6_sheet 92 = .ok (.aload_n 0, 1) := by decide +kernel
theorem dX6_sheet_93 : decode cX6_sheet 93 = .ok (.getfield 31, 3) := by decide +kernel
theorem dX6_sheet_96 : decode cX6_sheet 96 = .ok (.bipush 40, 2) := by decide +kernel
theorem dX6_sheet_98 : decode cX6_sheet 98 = .ok (.iload_n 1, 1) := by decide +kernel
theorem dX6_sheet_99 : decode cX6_sheet 99 = .ok (.imul, 1) := by decide +kernel
theorem dX6_sheet_100 : decode cX6_sheet 100 = .ok (.iload 4, 2) := by decide +kernel
theorem dX6_sheet_102 : decode cX6_sheet 102 = .ok (.iadd, 1) := by decide +kernel
theorem dX6_sheet_103 : decode cX6_sheet 103 = .ok (.lconst 0, 1) := by decide +kernel
theorem dX6_sheet_104 : decode cX6_sheet 104 = .ok (.lastore, 1) := by decide +kernel
theorem dX6_sheet_105 : decode cX6_sheet 105 = .ok (.iinc 4 1, 3) := by decide +kernel
theorem dX6_sheet_108 : decode cX6_sheet 108 = .ok (.goto (-23), 3) := by decide +kernel
theorem dX6_sheet_111 : decode cX6_sheet 111 = .ok (.aload_n 0, 1) := by decide +kernel
theorem dX6_sheet_112 : decode cX6_sheet 112 = .ok (.getfield 28, 3) := by decide +kernel
theorem dX6_sheet_115 : decode cX6_sheet 115 = .ok (.iload_n 1, 1) := by decide +kernel
theorem dX6_sheet_116 : decode cX6_sheet 116 = .ok (.iaload, 1) := by decide +kernel
theorem dX6_sheet_117 : decode cX6_sheet 117 = .ok (.ireturn, 1) := by decide +kernel
theorem dX6_notThere_0 : decode cX6_notThere 0 = .ok (.iload_n 1, 1) := by decide +kernel
theorem dX6_notThere_1 : decode cX6_notThere 1 = .ok (.invokestatic 209, 3) := by decide +kernel
theorem dX6_notThere_4 : decode cX6_notThere 4 = .ok (.ifCond .ne 8, 3) := by decide +kernel
theorem dX6_notThere_7 : decode cX6_notThere 7 = .ok (.ldc 35, 2) := by decide +kernel
theorem dX6_notThere_9 : decode cX6_notThere 9 = .ok (.goto 18, 3) := by decide +kernel
theorem dX6_notThere_12 : decode cX6_notThere 12 = .ok (.aload_n 0, 1) := by decide +kernel
theorem dX6_notThere_13 : decode cX6_notThere 13 = .ok (.getfield 25, 3) := by decide +kernel
theorem dX6_notThere_16 : decode cX6_notThere 16 = .ok (.iload_n 1, 1) := by decide +kernel
theorem dX6_notThere_17 : decode cX6_notThere 17 = .ok (.iaload, 1) := by decide +kernel
theorem dX6_notThere_18 : decode cX6_notThere 18 = .ok (.ifCond .ne 8, 3) := by decide +kernel
theorem dX6_notThere_21 : decode cX6_notThere 21 = .ok (.ldc 213, 2) := by decide +kernel
theorem dX6_notThere_23 : decode cX6_notThere 23 = .ok (.goto 4, 3) := by decide +kernel
theorem dX6_notThere_26 : decode cX6_notThere 26 = .ok (.iconst 0, 1) := by decide +kernel
theorem dX6_notThere_27 : decode cX6_notThere 27 = .ok (.ireturn, 1) := by decide +kernel
theorem dX6_cutTo_0 : decode cX6_cutTo 0 = .ok (.iload_n 0, 1) := by decide +kernel
theorem dX6_cutTo_1 : decode cX6_cutTo 1 = .ok (.bipush 8, 2) := by decide +kernel
theorem dX6_cutTo_3 : decode cX6_cutTo 3 = .ok (.if_icmp .ne 10, 3) := by decide +kernel
theorem dX6_cutTo_6 : decode cX6_cutTo 6 = .ok (.lload_n 1, 1) := by decide +kernel
theorem dX6_cutTo_7 : decode cX6_cutTo 7 = .ok (.l2i, 1) := by decide +kernel
theorem dX6_cutTo_8 : decode cX6_cutTo 8 = .ok (.i2b, 1) := by decide +kernel
theorem dX6_cutTo_9 : decode cX6_cutTo 9 = .ok (.i2l, 1) := by decide +kernel
theorem dX6_cutTo_10 : decode cX6_cutTo 10 = .ok (.goto 17, 3) := by decide +kernel
theorem dX6_cutTo_13 : decode cX6_cutTo 13 = .ok (.iload_n 0, 1) := by decide +kernel
theorem dX6_cutTo_14 : decode cX6_cutTo 14 = .ok (.bipush 16, 2) := by decide +kernel
theorem dX6_cutTo_16 : decode cX6_cutTo 16 = .ok (.if_icmp .ne 10, 3) := by decide +kernel
theorem dX6_cutTo_19 : decode cX6_cutTo 19 = .ok (.lload_n 1, 1) := by decide +kernel
theorem dX6_cutTo_20 : decode cX6_cutTo 20 = .ok (.l2i, 1) := by decide +kernel
theorem dX6_cutTo_21 : decode cX6_cutTo 21 = .ok (.i2s, 1) := by decide +kernel
theorem dX6_cutTo_22 : decode cX6_cutTo 22 = .ok (.i2l, 1) := by decide +kernel
theorem dX6_cutTo_23 : decode cX6_cutTo 23 = .ok (.goto 4, 3) := by decide +kernel
theorem dX6_cutTo_26 : decode cX6_cutTo 26 = .ok (.lload_n 1, 1) := by decide +kernel
theorem dX6_cutTo_27 : decode cX6_cutTo 27 = .ok (.lreturn, 1) := by decide +kernel
theorem dX6_write_0 : decode cX6_write 0 = .ok (.aload_n 0, 1) := by decide +kernel
theorem dX6_write_1 : decode cX6_write 1 = .ok (.iload_n 1, 1) := by decide +kernel
theorem dX6_write_2 : decode cX6_write 2 = .ok (.invokevirtual 214, 3) := by decide +kernel
theorem dX6_write_5 : decode cX6_write 5 = .ok (.istore 5, 2) := by decide +kernel
theorem dX6_write_7 : decode cX6_write 7 = .ok (.iload 5, 2) := by decide +kernel
theorem dX6_write_9 : decode cX6_write 9 = .ok (.ifCond .ne 24, 3) := by decide +kernel
theorem dX6_write_12 : decode cX6_write 12 = .ok (.iload_n 2, 1) := by decide +kernel
theorem dX6_write_13 : decode cX6_write 13 = .ok (.i2l, 1) := by decide +kernel
theorem dX6_write_14 : decode cX6_write 14 = .ok (.iconst 0, 1) := by decide +kernel
theorem dX6_write_15 : decode cX6_write 15 = .ok (.aload_n 0, 1) := by decide +kernel
theorem dX6_write_16 : decode cX6_write 16 = .ok (.getfield 28, 3) := by decide +kernel
theorem dX6_write_19 : decode cX6_write 19 = .ok (.iload_n 1, 1) := by decide +kernel
theorem dX6_write_20 : decode cX6_write 20 = .ok (.iaload, 1) := by decide +kernel
theorem dX6_write_21 : decode cX6_write 21 = .ok (.iconst 1, 1) := by decide +kernel
theorem dX6_write_22 : decode cX6_write 22 = .ok (.isub, 1) := by decide +kernel
theorem dX6_write_23 : decode cX6_write 23 = .ok (.invokestatic 41, 3) := by decide +kernel
theorem dX6_write_26 : decode cX6_write 26 = .ok (.ifCond .ne 7, 3) := by decide +kernel
theorem dX6_write_29 : decode cX6_write 29 = .ok (.ldc 35, 2) := by decide +kernel
theorem dX6_write_31 : decode cX6_write 31 = .ok (.istore 5, 2) := by decide +kernel
theorem dX6_write_33 : decode cX6_write 33 = .ok (.iload 5, 2) := by decide +kernel
theorem dX6_write_35 : decode cX6_write 35 = .ok (.ifCond .eq 11, 3) := by decide +kernel
theorem dX6_write_38 : decode cX6_write 38 = .ok (.aload_n 0, 1) := by decide +kernel
theorem dX6_write_39 : decode cX6_write 39 = .ok (.iload 5, 2) := by decide +kernel
theorem dX6_write_41 : decode cX6_write 41 = .ok (.invokevirtual 37, 3) := by decide +kernel
theorem dX6_write_44 : decode cX6_write 44 = .ok (.i2l, 1) := by decide +kernel
theorem dX6_write_45 : decode cX6_write 45 = .ok (.lreturn, 1) := by decide +kernel
theorem dX6_write_46 : decode cX6_write 46 = .ok (.aload_n 0, 1) := by decide +kernel
theorem dX6_write_47 : decode cX6_write 47 = .ok (.getfield 31, 3) := by decide +kernel
theorem dX6_write_50 : decode cX6_write 50 = .ok (.bipush 40, 2) := by decide +kernel
theorem dX6_write_52 : decode cX6_write 52 = .ok (.iload_n 1, 1) := by decide +kernel
theorem dX6_write_53 : decode cX6_write 53 = .ok (.imul, 1) := by decide +kernel
theorem dX6_write_54 : decode cX6_write 54 = .ok (.iload_n 2, 1) := by decide +kernel
theorem dX6_write_55 : decode cX6_write 55 = .ok (.iadd, 1) := by decide +kernel
theorem dX6_write_56 : decode cX6_write 56 = .ok (.laload, 1) := by decide +kernel
theorem dX6_write_57 : decode cX6_write 57 = .ok (.lstore 6, 2) := by decide +kernel
theorem dX6_write_59 : decode cX6_write 59 = .ok (.aload_n 0, 1) := by decide +kernel
theorem dX6_write_60 : decode cX6_write 60 = .ok (.getfield 31, 3) := by decide +kernel
theorem dX6_write_63 : decode cX6_write 63 = .ok (.bipush 40, 2) := by decide +kernel
theorem dX6_write_65 : decode cX6_write 65 = .ok (.iload_n 1, 1) := by decide +kernel
theorem dX6_write_66 : decode cX6_write 66 = .ok (.imul, 1) := by decide +kernel
theorem dX6_write_67 : decode cX6_write 67 = .ok (.iload_n 2, 1) := by decide +kernel
theorem dX6_write_68 : decode cX6_write 68 = .ok (.iadd, 1) := by decide +kernel
theorem dX6_write_69 : decode cX6_write 69 = .ok (.aload_n 0, 1) := by decide +kernel
theorem dX6_write_70 : decode cX6_write 70 = .ok (.getfield 25, 3) := by decide +kernel
theorem dX6_write_73 : decode cX6_write 73 = .ok (.iload_n 1, 1) := by decide +kernel
theorem dX6_write_74 : decode cX6_write 74 = .ok (.iaload, 1) := by decide +kernel
theorem dX6_write_75 : decode cX6_write 75 = .ok (.lload_n 3, 1) := by decide +kernel
theorem dX6_write_76 : decode cX6_write 76 = .ok (.invokestatic 217, 3) := by decide +kernel
theorem dX6_write_79 : decode cX6_write 79 = .ok (.lastore, 1) := by decide +kernel
theorem dX6_write_80 : decode cX6_write 80 = .ok (.lload 6, 2) := by decide +kernel
theorem dX6_write_82 : decode cX6_write 82 = .ok (.lreturn, 1) := by decide +kernel
theorem dX6_notCopied_0 : decode cX6_notCopied 0 = .ok (.iload_n 1, 1) := by decide +kernel
theorem dX6_notCopied_1 : decode cX6_notCopied 1 = .ok (.invokestatic 209, 3) := by decide +kernel
theorem dX6_notCopied_4 : decode cX6_notCopied 4 = .ok (.ifCond .eq 10, 3) := by decide +kernel
theorem dX6_notCopied_7 : decode cX6_notCopied 7 = .ok (.iload_n 3, 1) := by decide +kernel
theorem dX6_notCopied_8 : decode cX6_notCopied 8 = .ok (.invokestatic 209, 3) := by decide +kernel
theorem dX6_notCopied_11 : decode cX6_notCopied 11 = .ok (.ifCond .ne 6, 3) := by decide +kernel
theorem dX6_notCopied_14 : decode cX6_notCopied 14 = .ok (.ldc 35, 2) := by decide +kernel
theorem dX6_notCopied_16 : decode cX6_notCopied 16 = .ok (.ireturn, 1) := by decide +kernel
theorem dX6_notCopied_17 : decode cX6_notCopied 17 = .ok (.aload_n 0, 1) := by decide +kernel
theorem dX6_notCopied_18 : decode cX6_notCopied 18 = .ok (.getfield 25, 3) := by decide +kernel
theorem dX6_notCopied_21 : decode cX6_notCopied 21 = .ok (.iload_n 1, 1) := by decide +kernel
theorem dX6_notCopied_22 : decode cX6_notCopied 22 = .ok (.iaload, 1) := by decide +kernel
theorem dX6_notCopied_23 : decode cX6_notCopied 23 = .ok (.ifCond .eq 12, 3) := by decide +kernel
theorem dX6_notCopied_26 : decode cX6_notCopied 26 = .ok (.aload_n 0, 1) := by decide +kernel
theorem dX6_notCopied_27 : decode cX6_notCopied 27 = .ok (.getfield 25, 3) := by decide +kernel
theorem dX6_notCopied_30 : decode cX6_notCopied 30 = .ok (.iload_n 3, 1) := by decide +kernel
theorem dX6_notCopied_31 : decode cX6_notCopied 31 = .ok (.iaload, 1) := by decide +kernel
theorem dX6_notCopied_32 : decode cX6_notCopied 32 = .ok (.ifCond .ne 6, 3) := by decide +kernel
theorem dX6_notCopied_35 : decode cX6_notCopied 35 = .ok (.ldc 213, 2) := by decide +kernel
theorem dX6_notCopied_37 : decode cX6_notCopied 37 = .ok (.ireturn, 1) := by decide +kernel
theorem dX6_notCopied_38 : decode cX6_notCopied 38 = .ok (.aload_n 0, 1) := by decide +kernel
theorem dX6_notCopied_39 : decode cX6_notCopied 39 = .ok (.getfield 25, 3) := by decide +kernel
theorem dX6_notCopied_42 : decode cX6_notCopied 42 = .ok (.iload_n 1, 1) := by decide +kernel
theorem dX6_notCopied_43 : decode cX6_notCopied 43 = .ok (.iaload, 1) := by decide +kernel
theorem dX6_notCopied_44 : decode cX6_notCopied 44 = .ok (.aload_n 0, 1) := by decide +kernel
theorem dX6_notCopied_45 : decode cX6_notCopied 45 = .ok (.getfield 25, 3) := by decide +kernel
theorem dX6_notCopied_48 : decode cX6_notCopied 48 = .ok (.iload_n 3, 1) := by decide +kernel
theorem dX6_notCopied_49 : decode cX6_notCopied 49 = .ok (.iaload, 1) := by decide +kernel
theorem dX6_notCopied_50 : decode cX6_notCopied 50 = .ok (.if_icmp .eq 6, 3) := by decide +kernel
theorem dX6_notCopied_53 : decode cX6_notCopied 53 = .ok (.ldc 91, 2) := by decide +kernel
theorem dX6_notCopied_55 : decode cX6_notCopied 55 = .ok (.ireturn, 1) := by decide +kernel
theorem dX6_notCopied_56 : decode cX6_notCopied 56 = .ok (.iload 5, 2) := by decide +kernel
theorem dX6_notCopied_58 : decode cX6_notCopied 58 = .ok (.ifCond .lt 43, 3) := by decide +kernel
theorem dX6_notCopied_61 : decode cX6_notCopied 61 = .ok (.iload_n 2, 1) := by decide +kernel
theorem dX6_notCopied_62 : decode cX6_notCopied 62 = .ok (.ifCond .lt 39, 3) := by decide +kernel
theorem dX6_notCopied_65 : decode cX6_notCopied 65 = .ok (.iload 4, 2) := by decide +kernel
theorem dX6_notCopied_67 : decode cX6_notCopied 67 = .ok (.ifCond .lt 34, 3) := by decide +kernel
theorem dX6_notCopied_70 : decode cX6_notCopied 70 = .ok (.iload 5, 2) := by decide +kernel
theorem dX6_notCopied_72 : decode cX6_notCopied 72 = .ok (.aload_n 0, 1) := by decide +kernel
theorem dX6_notCopied_73 : decode cX6_notCopied 73 = .ok (.getfield 28, 3) := by decide +kernel
theorem dX6_notCopied_76 : decode cX6_notCopied 76 = .ok (.iload_n 1, 1) := by decide +kernel
theorem dX6_notCopied_77 : decode cX6_notCopied 77 = .ok (.iaload, 1) := by decide +kernel
theorem dX6_notCopied_78 : decode cX6_notCopied 78 = .ok (.iload_n 2, 1) := by decide +kernel
theorem dX6_notCopied_79 : decode cX6_notCopied 79 = .ok (.isub, 1) := by decide +kernel
theorem dX6_notCopied_80 : decode cX6_notCopied 80 = .ok (.if_icmp .gt 21, 3) := by decide +kernel
theorem dX6_notCopied_83 : decode cX6_notCopied 83 = .ok (.iload 5, 2) := by decide +kernel
theorem dX6_notCopied_85 : decode cX6_notCopied 85 = .ok (.aload_n 0, 1) := by decide +kernel
theorem dX6_notCopied_86 : decode cX6_notCopied 86 = .ok (.getfield 28, 3) := by decide +kernel
theorem dX6_notCopied_89 : decode cX6_notCopied 89 = .ok (.iload_n 3, 1) := by decide +kernel
theorem dX6_notCopied_90 : decode cX6_notCopied 90 = .ok (.iaload, 1) := by decide +kernel
theorem dX6_notCopied_91 : decode cX6_notCopied 91 = .ok (.iload 4, 2) := by decide +kernel
theorem dX6_notCopied_93 : decode cX6_notCopied 93 = .ok (.isub, 1) := by decide +kernel
theorem dX6_notCopied_94 : decode cX6_notCopied 94 = .ok (.if_icmp .gt 7, 3) := by decide +kernel
theorem dX6_notCopied_97 : decode cX6_notCopied 97 = .ok (.iconst 1, 1) := by decide +kernel
theorem dX6_notCopied_98 : decode cX6_notCopied 98 = .ok (.goto 4, 3) := by decide +kernel
theorem dX6_notCopied_101 : decode cX6_notCopied 101 = .ok (.iconst 0, 1) := by decide +kernel
theorem dX6_notCopied_102 : decode cX6_notCopied 102 = .ok (.istore 6, 2) := by decide +kernel
theorem dX6_notCopied_104 : decode cX6_notCopied 104 = .ok (.iload 6, 2) := by decide +kernel
theorem dX6_notCopied_106 : decode cX6_notCopied 106 = .ok (.ifCond .eq 7, 3) := by decide +kernel
theorem dX6_notCopied_109 : decode cX6_notCopied 109 = .ok (.iconst 0, 1) := by decide +kernel
theorem dX6_notCopied_110 : decode cX6_notCopied 110 = .ok (.goto 5, 3) := by decide +kernel
theorem dX6_notCopied_113 : decode cX6_notCopied 113 = .ok (.ldc 35, 2) := by decide +kernel
theorem dX6_notCopied_115 : decode cX6_notCopied 115 = .ok (.ireturn, 1) := by decide +kernel
theorem dX6_copy_0 : decode cX6_copy 0 = .ok (.aload_n 0, 1) := by decide +kernel
theorem dX6_copy_1 : decode cX6_copy 1 = .ok (.iload_n 1, 1) := by decide +kernel
theorem dX6_copy_2 : decode cX6_copy 2 = .ok (.iload_n 2, 1) := by decide +kernel
theorem dX6_copy_3 : decode cX6_copy 3 = .ok (.iload_n 3, 1) := by decide +kernel
theorem dX6_copy_4 : decode cX6_copy 4 = .ok (.iload 4, 2) := by decide +kernel
theorem dX6_copy_6 : decode cX6_copy 6 = .ok (.iload 5, 2) := by decide +kernel
theorem dX6_copy_8 : decode cX6_copy 8 = .ok (.invokevirtual 221, 3) := by decide +kernel
theorem dX6_copy_11 : decode cX6_copy 11 = .ok (.istore 6, 2) := by decide +kernel
theorem dX6_copy_13 : decode cX6_copy 13 = .ok (.iload 6, 2) := by decide +kernel
theorem dX6_copy_15 : decode cX6_copy 15 = .ok (.ifCond .eq 10, 3) := by decide +kernel
theorem dX6_copy_18 : decode cX6_copy 18 = .ok (.aload_n 0, 1) := by decide +kernel
theorem dX6_copy_19 : decode cX6_copy 19 = .ok (.iload 6, 2) := by decide +kernel
theorem dX6_copy_21 : decode cX6_copy 21 = .ok (.invokevirtual 37, 3) := by decide +kernel
theorem dX6_copy_24 : decode cX6_copy 24 = .ok (.ireturn, 1) := by decide +kernel
theorem dX6_copy_25 : decode cX6_copy 25 = .ok (.iconst 0, 1) := by decide +kernel
theorem dX6_copy_26 : decode cX6_copy 26 = .ok (.istore 7, 2) := by decide +kernel
theorem dX6_copy_28 : decode cX6_copy 28 = .ok (.iload 7, 2) := by decide +kernel
theorem dX6_copy_30 : decode cX6_copy 30 = .ok (.iload 5, 2) := by decide +kernel
theorem dX6_copy_32 : decode cX6_copy 32 = .ok (.if_icmp .ge 58, 3) := by decide +kernel
theorem dX6_copy_35 : decode cX6_copy 35 = .ok (.iload_n 2, 1) := by decide +kernel
theorem dX6_copy_36 : decode cX6_copy 36 = .ok (.iload 4, 2) := by decide +kernel
theorem dX6_copy_38 : decode cX6_copy 38 = .ok (.if_icmp .ge 13, 3) := by decide +kernel
theorem dX6_copy_41 : decode cX6_copy 41 = .ok (.iload 5, 2) := by decide +kernel
theorem dX6_copy_43 : decode cX6_copy 43 = .ok (.iconst 1, 1) := by decide +kernel
theorem dX6_copy_44 : decode cX6_copy 44 = .ok (.isub, 1) := by decide +kernel
theorem dX6_copy_45 : decode cX6_copy 45 = .ok (.iload 7, 2) := by decide +kernel
theorem dX6_copy_47 : decode cX6_copy 47 = .ok (.isub, 1) := by decide +kernel
theorem dX6_copy_48 : decode cX6_copy 48 = .ok (.goto 5, 3) := by decide +kernel
theorem dX6_copy_51 : decode cX6_copy 51 = .ok (.iload 7, 2) := by decide +kernel
theorem dX6_copy_53 : decode cX6_copy 53 = .ok (.istore 8, 2) := by decide +kernel
theorem dX6_copy_55 : decode cX6_copy 55 = .ok (.aload_n 0, 1) := by decide +kernel
theorem dX6_copy_56 : decode cX6_copy 56 = .ok (.getfield 31, 3) := by decide +kernel
theorem dX6_copy_59 : decode cX6_copy 59 = .ok (.bipush 40, 2) := by decide +kernel
theorem dX6_copy_61 : decode cX6_copy 61 = .ok (.iload_n 3, 1) := by decide +kernel
theorem dX6_copy_62 : decode cX6_copy 62 = .ok (.imul, 1) := by decide +kernel
theorem dX6_copy_63 : decode cX6_copy 63 = .ok (.iload 4, 2) := by decide +kernel
theorem dX6_copy_65 : decode cX6_copy 65 = .ok (.iadd, 1) := by decide +kernel
theorem dX6_copy_66 : decode cX6_copy 66 = .ok (.iload 8, 2) := by decide +kernel
theorem dX6_copy_68 : decode cX6_copy 68 = .ok (.iadd, 1) := by decide +kernel
theorem dX6_copy_69 : decode cX6_copy 69 = .ok (.aload_n 0, 1) := by decide +kernel
theorem dX6_copy_70 : decode cX6_copy 70 = .ok (.getfield 31, 3) := by decide +kernel
theorem dX6_copy_73 : decode cX6_copy 73 = .ok (.bipush 40, 2) := by decide +kernel
theorem dX6_copy_75 : decode cX6_copy 75 = .ok (.iload_n 1, 1) := by decide +kernel
theorem dX6_copy_76 : decode cX6_copy 76 = .ok (.imul, 1) := by decide +kernel
theorem dX6_copy_77 : decode cX6_copy 77 = .ok (.iload_n 2, 1) := by decide +kernel
theorem dX6_copy_78 : decode cX6_copy 78 = .ok (.iadd, 1) := by decide +kernel
theorem dX6_copy_79 : decode cX6_copy 79 = .ok (.iload 8, 2) := by decide +kernel
theorem dX6_copy_81 : decode cX6_copy 81 = .ok (.iadd, 1) := by decide +kernel
theorem dX6_copy_82 : decode cX6_copy 82 = .ok (.laload, 1) := by decide +kernel
theorem dX6_copy_83 : decode cX6_copy 83 = .ok (.lastore, 1) := by decide +kernel
theorem dX6_copy_84 : decode cX6_copy 84 = .ok (.iinc 7 1, 3) := by decide +kernel
theorem dX6_copy_87 : decode cX6_copy 87 = .ok (.goto (-59), 3) := by decide +kernel
theorem dX6_copy_90 : decode cX6_copy 90 = .ok (.iload 5, 2) := by decide +kernel
theorem dX6_copy_92 : decode cX6_copy 92 = .ok (.ireturn, 1) := by decide +kernel
theorem dX6_lays_0 : decode cX6_lays 0 = .ok (.aload_n 0, 1) := by decide +kernel
theorem dX6_lays_1 : decode cX6_lays 1 = .ok (.iload_n 1, 1) := by decide +kernel
theorem dX6_lays_2 : decode cX6_lays 2 = .ok (.invokevirtual 214, 3) := by decide +kernel
theorem dX6_lays_5 : decode cX6_lays 5 = .ok (.istore_n 2, 1) := by decide +kernel
theorem dX6_lays_6 : decode cX6_lays 6 = .ok (.iload_n 2, 1) := by decide +kernel
theorem dX6_lays_7 : decode cX6_lays 7 = .ok (.ifCond .eq 9, 3) := by decide +kernel
theorem dX6_lays_10 : decode cX6_lays 10 = .ok (.aload_n 0, 1) := by decide +kernel
theorem dX6_lays_11 : decode cX6_lays 11 = .ok (.iload_n 2, 1) := by decide +kernel
theorem dX6_lays_12 : decode cX6_lays 12 = .ok (.invokevirtual 37, 3) := by decide +kernel
theorem dX6_lays_15 : decode cX6_lays 15 = .ok (.ireturn, 1) := by decide +kernel
theorem dX6_lays_16 : decode cX6_lays 16 = .ok (.iconst 0, 1) := by decide +kernel
theorem dX6_lays_17 : decode cX6_lays 17 = .ok (.istore_n 3, 1) := by decide +kernel
theorem dX6_lays_18 : decode cX6_lays 18 = .ok (.iconst 0, 1) := by decide +kernel
theorem dX6_lays_19 : decode cX6_lays 19 = .ok (.istore 4, 2) := by decide +kernel
theorem dX6_lays_21 : decode cX6_lays 21 = .ok (.iload 4, 2) := by decide +kernel
theorem dX6_lays_23 : decode cX6_lays 23 = .ok (.aload_n 0, 1) := by decide +kernel
theorem dX6_lays_24 : decode cX6_lays 24 = .ok (.getfield 28, 3) := by decide +kernel
theorem dX6_lays_27 : decode cX6_lays 27 = .ok (.iload_n 1, 1) := by decide +kernel
theorem dX6_lays_28 : decode cX6_lays 28 = .ok (.iaload, 1) := by decide +kernel
theorem dX6_lays_29 : decode cX6_lays 29 = .ok (.if_icmp .ge 71, 3) := by decide +kernel
theorem dX6_lays_32 : decode cX6_lays 32 = .ok (.iload 4, 2) := by decide +kernel
theorem dX6_lays_34 : decode cX6_lays 34 = .ok (.aload_n 0, 1) := by decide +kernel
theorem dX6_lays_35 : decode cX6_lays 35 = .ok (.getfield 9, 3) := by decide +kernel
theorem dX6_lays_38 : decode cX6_lays 38 = .ok (.iconst 1, 1) := by decide +kernel
theorem dX6_lays_39 : decode cX6_lays 39 = .ok (.iaload, 1) := by decide +kernel
theorem dX6_lays_40 : decode cX6_lays 40 = .ok (.if_icmp .ge 60, 3) := by decide +kernel
theorem dX6_lays_43 : decode cX6_lays 43 = .ok (.aload_n 0, 1) := by decide +kernel
theorem dX6_lays_44 : decode cX6_lays 44 = .ok (.getfield 31, 3) := by decide +kernel
theorem dX6_lays_47 : decode cX6_lays 47 = .ok (.bipush 40, 2) := by decide +kernel
theorem dX6_lays_49 : decode cX6_lays 49 = .ok (.iload_n 1, 1) := by decide +kernel
theorem dX6_lays_50 : decode cX6_lays 50 = .ok (.imul, 1) := by decide +kernel
theorem dX6_lays_51 : decode cX6_lays 51 = .ok (.iload 4, 2) := by decide +kernel
theorem dX6_lays_53 : decode cX6_lays 53 = .ok (.iadd, 1) := by decide +kernel
theorem dX6_lays_54 : decode cX6_lays 54 = .ok (.laload, 1) := by decide +kernel
theorem dX6_lays_55 : decode cX6_lays 55 = .ok (.iconst 0, 1) := by decide +kernel
theorem dX6_lays_56 : decode cX6_lays 56 = .ok (.bipush 99, 2) := by decide +kernel
theorem dX6_lays_58 : decode cX6_lays 58 = .ok (.invokestatic 41, 3) := by decide +kernel
theorem dX6_lays_61 : decode cX6_lays 61 = .ok (.ifCond .eq 33, 3) := by decide +kernel
theorem dX6_lays_64 : decode cX6_lays 64 = .ok (.aload_n 0, 1) := by decide +kernel
theorem dX6_lays_65 : decode cX6_lays 65 = .ok (.getfield 9, 3) := by decide +kernel
theorem dX6_lays_68 : decode cX6_lays 68 = .ok (.bipush 30, 2) := by decide +kernel
theorem dX6_lays_70 : decode cX6_lays 70 = .ok (.iconst 2, 1) := by decide +kernel
theorem dX6_lays_71 : decode cX6_lays 71 = .ok (.iload 4, 2) := by decide +kernel
theorem dX6_lays_73 : decode cX6_lays 73 = .ok (.imul, 1) := by decide +kernel
theorem dX6_lays_74 : decode cX6_lays 74 = .ok (.iadd, 1) := by decide +kernel
theorem dX6_lays_75 : decode cX6_lays 75 = .ok (.iconst 1, 1) := by decide +kernel
theorem dX6_lays_76 : decode cX6_lays 76 = .ok (.iadd, 1) := by decide +kernel
theorem dX6_lays_77 : decode cX6_lays 77 = .ok (.aload_n 0, 1) := by decide +kernel
theorem dX6_lays_78 : decode cX6_lays 78 = .ok (.getfield 31, 3) := by decide +kernel
theorem dX6_lays_81 : decode cX6_lays 81 = .ok (.bipush 40, 2) := by decide +kernel
theorem dX6_lays_83 : decode cX6_lays 83 = .ok (.iload_n 1, 1) := by decide +kernel
theorem dX6_lays_84 : decode cX6_lays 84 = .ok (.imul, 1) := by decide +kernel
theorem dX6_lays_85 : decode cX6_lays 85 = .ok (.iload 4, 2) := by decide +kernel
theorem dX6_lays_87 : decode cX6_lays 87 = .ok (.iadd, 1) := by decide +kernel
theorem dX6_lays_88 : decode cX6_lays 88 = .ok (.laload, 1) := by decide +kernel
theorem dX6_lays_89 : decode cX6_lays 89 = .ok (.l2i, 1) := by decide +kernel
theorem dX6_lays_90 : decode cX6_lays 90 = .ok (.iastore, 1) := by decide +kernel
theorem dX6_lays_91 : decode cX6_lays 91 = .ok (.iinc 3 1, 3) := by decide +kernel
theorem dX6_lays_94 : decode cX6_lays 94 = .ok (.iinc 4 1, 3) := by decide +kernel
theorem dX6_lays_97 : decode cX6_lays 97 = .ok (.goto (-76), 3) := by decide +kernel
theorem dX6_lays_100 : decode cX6_lays 100 = .ok (.iload_n 3, 1) := by decide +kernel
theorem dX6_lays_101 : decode cX6_lays 101 = .ok (.ireturn, 1) := by decide +kernel
theorem dX6_book_0 : decode cX6_book 0 = .ok (.aload_n 0, 1) := by decide +kernel
theorem dX6_book_1 : decode cX6_book 1 = .ok (.iload_n 1, 1) := by decide +kernel
theorem dX6_book_2 : decode cX6_book 2 = .ok (.invokevirtual 214, 3) := by decide +kernel
theorem dX6_book_5 : decode cX6_book 5 = .ok (.istore_n 3, 1) := by decide +kernel
theorem dX6_book_6 : decode cX6_book 6 = .ok (.iload_n 3, 1) := by decide +kernel
theorem dX6_book_7 : decode cX6_book 7 = .ok (.ifCond .ne 15, 3) := by decide +kernel
theorem dX6_book_10 : decode cX6_book 10 = .ok (.iload_n 2, 1) := by decide +kernel
theorem dX6_book_11 : decode cX6_book 11 = .ok (.invokestatic 63, 3) := by decide +kernel
theorem dX6_book_14 : decode cX6_book 14 = .ok (.ifCond .ne 8, 3) := by decide +kernel
theorem dX6_book_17 : decode cX6_book 17 = .ok (.ldc 35, 2) := by decide +kernel
theorem dX6_book_19 : decode cX6_book 19 = .ok (.goto 4, 3) := by decide +kernel
theorem dX6_book_22 : decode cX6_book 22 = .ok (.iload_n 3, 1) := by decide +kernel
theorem dX6_book_23 : decode cX6_book 23 = .ok (.istore_n 3, 1) := by decide +kernel
theorem dX6_book_24 : decode cX6_book 24 = .ok (.iload_n 3, 1) := by decide +kernel
theorem dX6_book_25 : decode cX6_book 25 = .ok (.ifCond .eq 9, 3) := by decide +kernel
theorem dX6_book_28 : decode cX6_book 28 = .ok (.aload_n 0, 1) := by decide +kernel
theorem dX6_book_29 : decode cX6_book 29 = .ok (.iload_n 3, 1) := by decide +kernel
theorem dX6_book_30 : decode cX6_book 30 = .ok (.invokevirtual 37, 3) := by decide +kernel
theorem dX6_book_33 : decode cX6_book 33 = .ok (.ireturn, 1) := by decide +kernel
theorem dX6_book_34 : decode cX6_book 34 = .ok (.aload_n 0, 1) := by decide +kernel
theorem dX6_book_35 : decode cX6_book 35 = .ok (.invokevirtual 120, 3) := by decide +kernel
theorem dX6_book_38 : decode cX6_book 38 = .ok (.iconst 0, 1) := by decide +kernel
theorem dX6_book_39 : decode cX6_book 39 = .ok (.istore 4, 2) := by decide +kernel
theorem dX6_book_41 : decode cX6_book 41 = .ok (.iload 4, 2) := by decide +kernel
theorem dX6_book_43 : decode cX6_book 43 = .ok (.aload_n 0, 1) := by decide +kernel
theorem dX6_book_44 : decode cX6_book 44 = .ok (.getfield 28, 3) := by decide +kernel
theorem dX6_book_47 : decode cX6_book 47 = .ok (.iload_n 1, 1) := by decide +kernel
theorem dX6_book_48 : decode cX6_book 48 = .ok (.iaload, 1) := by decide +kernel
theorem dX6_book_49 : decode cX6_book 49 = .ok (.if_icmp .ge 43, 3) := by decide +kernel
theorem dX6_book_52 : decode cX6_book 52 = .ok (.aload_n 0, 1) := by decide +kernel
theorem dX6_book_53 : decode cX6_book 53 = .ok (.getfield 31, 3) := by decide +kernel
theorem dX6_book_56 : decode cX6_book 56 = .ok (.bipush 40, 2) := by decide +kernel
theorem dX6_book_58 : decode cX6_book 58 = .ok (.iload_n 1, 1) := by decide +kernel
theorem dX6_book_59 : decode cX6_book 59 = .ok (.imul, 1) := by decide +kernel
theorem dX6_book_60 : decode cX6_book 60 = .ok (.iload 4, 2) := by decide +kernel
theorem dX6_book_62 : decode cX6_book 62 = .ok (.iadd, 1) := by decide +kernel
theorem dX6_book_63 : decode cX6_book 63 = .ok (.aload_n 0, 1) := by decide +kernel
theorem dX6_book_64 : decode cX6_book 64 = .ok (.getfield 25, 3) := by decide +kernel
theorem dX6_book_67 : decode cX6_book 67 = .ok (.iload_n 1, 1) := by decide +kernel
theorem dX6_book_68 : decode cX6_book 68 = .ok (.iaload, 1) := by decide +kernel
theorem dX6_book_69 : decode cX6_book 69 = .ok (.aload_n 0, 1) := by decide +kernel
theorem dX6_book_70 : decode cX6_book 70 = .ok (.getfield 9, 3) := by decide +kernel
theorem dX6_book_73 : decode cX6_book 73 = .ok (.iconst 2, 1) := by decide +kernel
theorem dX6_book_74 : decode cX6_book 74 = .ok (.iload_n 2, 1) := by decide +kernel
theorem dX6_book_75 : decode cX6_book 75 = .ok (.iadd, 1) := by decide +kernel
theorem dX6_book_76 : decode cX6_book 76 = .ok (.iaload, 1) := by decide +kernel
theorem dX6_book_77 : decode cX6_book 77 = .ok (.i2l, 1) := by decide +kernel
theorem dX6_book_78 : decode cX6_book 78 = .ok (.invokestatic 217, 3) := by decide +kernel
theorem dX6_book_81 : decode cX6_book 81 = .ok (.lastore, 1) := by decide +kernel
theorem dX6_book_82 : decode cX6_book 82 = .ok (.aload_n 0, 1) := by decide +kernel
theorem dX6_book_83 : decode cX6_book 83 = .ok (.invokevirtual 129, 3) := by decide +kernel
theorem dX6_book_86 : decode cX6_book 86 = .ok (.iinc 4 1, 3) := by decide +kernel
theorem dX6_book_89 : decode cX6_book 89 = .ok (.goto (-48), 3) := by decide +kernel
theorem dX6_book_92 : decode cX6_book 92 = .ok (.aload_n 0, 1) := by decide +kernel
theorem dX6_book_93 : decode cX6_book 93 = .ok (.invokevirtual 126, 3) := by decide +kernel
theorem dX6_book_96 : decode cX6_book 96 = .ok (.aload_n 0, 1) := by decide +kernel
theorem dX6_book_97 : decode cX6_book 97 = .ok (.getfield 28, 3) := by decide +kernel
theorem dX6_book_100 : decode cX6_book 100 = .ok (.iload_n 1, 1) := by decide +kernel
theorem dX6_book_101 : decode cX6_book 101 = .ok (.iaload, 1) := by decide +kernel
theorem dX6_book_102 : decode cX6_book 102 = .ok (.ireturn, 1) := by decide +kernel
theorem dX6_isBook_0 : decode cX6_isBook 0 = .ok (.iconst 1, 1) := by decide +kernel
theorem dX6_isBook_1 : decode cX6_isBook 1 = .ok (.istore_n 3, 1) := by decide +kernel
theorem dX6_isBook_2 : decode cX6_isBook 2 = .ok (.iconst 0, 1) := by decide +kernel
theorem dX6_isBook_3 : decode cX6_isBook 3 = .ok (.istore 4, 2) := by decide +kernel
theorem dX6_isBook_5 : decode cX6_isBook 5 = .ok (.iload 4, 2) := by decide +kernel
theorem dX6_isBook_7 : decode cX6_isBook 7 = .ok (.aload_n 0, 1) := by decide +kernel
theorem dX6_isBook_8 : decode cX6_isBook 8 = .ok (.getfield 28, 3) := by decide +kernel
theorem dX6_isBook_11 : decode cX6_isBook 11 = .ok (.iload_n 1, 1) := by decide +kernel
theorem dX6_isBook_12 : decode cX6_isBook 12 = .ok (.iaload, 1) := by decide +kernel
theorem dX6_isBook_13 : decode cX6_isBook 13 = .ok (.if_icmp .ge 48, 3) := by decide +kernel
theorem dX6_isBook_16 : decode cX6_isBook 16 = .ok (.iload_n 3, 1) := by decide +kernel
theorem dX6_isBook_17 : decode cX6_isBook 17 = .ok (.ifCond .eq 44, 3) := by decide +kernel
theorem dX6_isBook_20 : decode cX6_isBook 20 = .ok (.aload_n 0, 1) := by decide +kernel
theorem dX6_isBook_21 : decode cX6_isBook 21 = .ok (.getfield 31, 3) := by decide +kernel
theorem dX6_isBook_24 : decode cX6_isBook 24 = .ok (.bipush 40, 2) := by decide +kernel
theorem dX6_isBook_26 : decode cX6_isBook 26 = .ok (.iload_n 1, 1) := by decide +kernel
theorem dX6_isBook_27 : decode cX6_isBook 27 = .ok (.imul, 1) := by decide +kernel
theorem dX6_isBook_28 : decode cX6_isBook 28 = .ok (.iload 4, 2) := by decide +kernel
theorem dX6_isBook_30 : decode cX6_isBook 30 = .ok (.iadd, 1) := by decide +kernel
theorem dX6_isBook_31 : decode cX6_isBook 31 = .ok (.laload, 1) := by decide +kernel
theorem dX6_isBook_32 : decode cX6_isBook 32 = .ok (.aload_n 0, 1) := by decide +kernel
theorem dX6_isBook_33 : decode cX6_isBook 33 = .ok (.getfield 9, 3) := by decide +kernel
theorem dX6_isBook_36 : decode cX6_isBook 36 = .ok (.iconst 2, 1) := by decide +kernel
theorem dX6_isBook_37 : decode cX6_isBook 37 = .ok (.iload_n 2, 1) := by decide +kernel
theorem dX6_isBook_38 : decode cX6_isBook 38 = .ok (.iadd, 1) := by decide +kernel
theorem dX6_isBook_39 : decode cX6_isBook 39 = .ok (.iaload, 1) := by decide +kernel
theorem dX6_isBook_40 : decode cX6_isBook 40 = .ok (.i2l, 1) := by decide +kernel
theorem dX6_isBook_41 : decode cX6_isBook 41 = .ok (.lcmp, 1) := by decide +kernel
theorem dX6_isBook_42 : decode cX6_isBook 42 = .ok (.ifCond .ne 7, 3) := by decide +kernel
theorem dX6_isBook_45 : decode cX6_isBook 45 = .ok (.iconst 1, 1) := by decide +kernel
theorem dX6_isBook_46 : decode cX6_isBook 46 = .ok (.goto 4, 3) := by decide +kernel
theorem dX6_isBook_49 : decode cX6_isBook 49 = .ok (.iconst 0, 1) := by decide +kernel
theorem dX6_isBook_50 : decode cX6_isBook 50 = .ok (.istore_n 3, 1) := by decide +kernel
theorem dX6_isBook_51 : decode cX6_isBook 51 = .ok (.aload_n 0, 1) := by decide +kernel
theorem dX6_isBook_52 : decode cX6_isBook 52 = .ok (.invokevirtual 129, 3) := by decide +kernel
theorem dX6_isBook_55 : decode cX6_isBook 55 = .ok (.iinc 4 1, 3) := by decide +kernel
theorem dX6_isBook_58 : decode cX6_isBook 58 = .ok (.goto (-53), 3) := by decide +kernel
theorem dX6_isBook_61 : decode cX6_isBook 61 = .ok (.aload_n 0, 1) := by decide +kernel
theorem dX6_isBook_62 : decode cX6_isBook 62 = .ok (.invokevirtual 126, 3) := by decide +kernel
theorem dX6_isBook_65 : decode cX6_isBook 65 = .ok (.iload_n 3, 1) := by decide +kernel
theorem dX6_isBook_66 : decode cX6_isBook 66 = .ok (.ireturn, 1) := by decide +kernel
theorem dX6_read_0 : decode cX6_read 0 = .ok (.aload_n 0, 1) := by decide +kernel
theorem dX6_read_1 : decode cX6_read 1 = .ok (.iload_n 1, 1) := by decide +kernel
theorem dX6_read_2 : decode cX6_read 2 = .ok (.invokevirtual 214, 3) := by decide +kernel
theorem dX6_read_5 : decode cX6_read 5 = .ok (.istore 4, 2) := by decide +kernel
theorem dX6_read_7 : decode cX6_read 7 = .ok (.iload 4, 2) := by decide +kernel
theorem dX6_read_9 : decode cX6_read 9 = .ok (.ifCond .ne 23, 3) := by decide +kernel
theorem dX6_read_12 : decode cX6_read 12 = .ok (.iload_n 2, 1) := by decide +kernel
theorem dX6_read_13 : decode cX6_read 13 = .ok (.invokestatic 63, 3) := by decide +kernel
theorem dX6_read_16 : decode cX6_read 16 = .ok (.ifCond .eq 11, 3) := by decide +kernel
theorem dX6_read_19 : decode cX6_read 19 = .ok (.aload_n 0, 1) := by decide +kernel
theorem dX6_read_20 : decode cX6_read 20 = .ok (.iload_n 3, 1) := by decide +kernel
theorem dX6_read_21 : decode cX6_read 21 = .ok (.invokevirtual 79, 3) := by decide +kernel
theorem dX6_read_24 : decode cX6_read 24 = .ok (.ifCond .ne 8, 3) := by decide +kernel
theorem dX6_read_27 : decode cX6_read 27 = .ok (.ldc 35, 2) := by decide +kernel
theorem dX6_read_29 : decode cX6_read 29 = .ok (.goto 5, 3) := by decide +kernel
theorem dX6_read_32 : decode cX6_read 32 = .ok (.iload 4, 2) := by decide +kernel
theorem dX6_read_34 : decode cX6_read 34 = .ok (.istore 4, 2) := by decide +kernel
theorem dX6_read_36 : decode cX6_read 36 = .ok (.iload 4, 2) := by decide +kernel
theorem dX6_read_38 : decode cX6_read 38 = .ok (.ifCond .eq 10, 3) := by decide +kernel
theorem dX6_read_41 : decode cX6_read 41 = .ok (.aload_n 0, 1) := by decide +kernel
theorem dX6_read_42 : decode cX6_read 42 = .ok (.iload 4, 2) := by decide +kernel
theorem dX6_read_44 : decode cX6_read 44 = .ok (.invokevirtual 37, 3) := by decide +kernel
theorem dX6_read_47 : decode cX6_read 47 = .ok (.ireturn, 1) := by decide +kernel
theorem dX6_read_48 : decode cX6_read 48 = .ok (.aload_n 0, 1) := by decide +kernel
theorem dX6_read_49 : decode cX6_read 49 = .ok (.invokevirtual 120, 3) := by decide +kernel
theorem dX6_read_52 : decode cX6_read 52 = .ok (.iconst 0, 1) := by decide +kernel
theorem dX6_read_53 : decode cX6_read 53 = .ok (.istore 5, 2) := by decide +kernel
theorem dX6_read_55 : decode cX6_read 55 = .ok (.iconst 0, 1) := by decide +kernel
theorem dX6_read_56 : decode cX6_read 56 = .ok (.istore 6, 2) := by decide +kernel
theorem dX6_read_58 : decode cX6_read 58 = .ok (.iload 6, 2) := by decide +kernel
theorem dX6_read_60 : decode cX6_read 60 = .ok (.sipush 600, 3) := by decide +kernel
theorem dX6_read_63 : decode cX6_read 63 = .ok (.if_icmp .ge 62, 3) := by decide +kernel
theorem dX6_read_66 : decode cX6_read 66 = .ok (.aload_n 0, 1) := by decide +kernel
theorem dX6_read_67 : decode cX6_read 67 = .ok (.getfield 9, 3) := by decide +kernel
theorem dX6_read_70 : decode cX6_read 70 = .ok (.bipush 30, 2) := by decide +kernel
theorem dX6_read_72 : decode cX6_read 72 = .ok (.iconst 2, 1) := by decide +kernel
theorem dX6_read_73 : decode cX6_read 73 = .ok (.iload_n 3, 1) := by decide +kernel
theorem dX6_read_74 : decode cX6_read 74 = .ok (.imul, 1) := by decide +kernel
theorem dX6_read_75 : decode cX6_read 75 = .ok (.iadd, 1) := by decide +kernel
theorem dX6_read_76 : decode cX6_read 76 = .ok (.iload 6, 2) := by decide +kernel
theorem dX6_read_78 : decode cX6_read 78 = .ok (.bipush 100, 2) := by decide +kernel
theorem dX6_read_80 : decode cX6_read 80 = .ok (.idiv, 1) := by decide +kernel
theorem dX6_read_81 : decode cX6_read 81 = .ok (.iastore, 1) := by decide +kernel
theorem dX6_read_82 : decode cX6_read 82 = .ok (.aload_n 0, 1) := by decide +kernel
theorem dX6_read_83 : decode cX6_read 83 = .ok (.getfield 9, 3) := by decide +kernel
theorem dX6_read_86 : decode cX6_read 86 = .ok (.bipush 30, 2) := by decide +kernel
theorem dX6_read_88 : decode cX6_read 88 = .ok (.iconst 2, 1) := by decide +kernel
theorem dX6_read_89 : decode cX6_read 89 = .ok (.iload_n 3, 1) := by decide +kernel
theorem dX6_read_90 : decode cX6_read 90 = .ok (.imul, 1) := by decide +kernel
theorem dX6_read_91 : decode cX6_read 91 = .ok (.iadd, 1) := by decide +kernel
theorem dX6_read_92 : decode cX6_read 92 = .ok (.iconst 1, 1) := by decide +kernel
theorem dX6_read_93 : decode cX6_read 93 = .ok (.iadd, 1) := by decide +kernel
theorem dX6_read_94 : decode cX6_read 94 = .ok (.iload 6, 2) := by decide +kernel
theorem dX6_read_96 : decode cX6_read 96 = .ok (.bipush 100, 2) := by decide +kernel
theorem dX6_read_98 : decode cX6_read 98 = .ok (.irem, 1) := by decide +kernel
theorem dX6_read_99 : decode cX6_read 99 = .ok (.iastore, 1) := by decide +kernel
theorem dX6_read_100 : decode cX6_read 100 = .ok (.iload 5, 2) := by decide +kernel
theorem dX6_read_102 : decode cX6_read 102 = .ok (.aload_n 0, 1) := by decide +kernel
theorem dX6_read_103 : decode cX6_read 103 = .ok (.iload_n 1, 1) := by decide +kernel
theorem dX6_read_104 : decode cX6_read 104 = .ok (.iload_n 2, 1) := by decide +kernel
theorem dX6_read_105 : decode cX6_read 105 = .ok (.invokevirtual 225, 3) := by decide +kernel
theorem dX6_read_108 : decode cX6_read 108 = .ok (.ifCond .eq 7, 3) := by decide +kernel
theorem dX6_read_111 : decode cX6_read 111 = .ok (.iconst 1, 1) := by decide +kernel
theorem dX6_read_112 : decode cX6_read 112 = .ok (.goto 4, 3) := by decide +kernel
theorem dX6_read_115 : decode cX6_read 115 = .ok (.iconst 0, 1) := by decide +kernel
theorem dX6_read_116 : decode cX6_read 116 = .ok (.iadd, 1) := by decide +kernel
theorem dX6_read_117 : decode cX6_read 117 = .ok (.istore 5, 2) := by decide +kernel
theorem dX6_read_119 : decode cX6_read 119 = .ok (.iinc 6 1, 3) := by decide +kernel
theorem dX6_read_122 : decode cX6_read 122 = .ok (.goto (-64), 3) := by decide +kernel
theorem dX6_read_125 : decode cX6_read 125 = .ok (.iload 5, 2) := by decide +kernel
theorem dX6_read_127 : decode cX6_read 127 = .ok (.ireturn, 1) := by decide +kernel
theorem dX6_image_0 : decode cX6_image 0 = .ok (.aload_n 0, 1) := by decide +kernel
theorem dX6_image_1 : decode cX6_image 1 = .ok (.getfield 9, 3) := by decide +kernel
theorem dX6_image_4 : decode cX6_image 4 = .ok (.aload_n 0, 1) := by decide +kernel
theorem dX6_image_5 : decode cX6_image 5 = .ok (.getfield 13, 3) := by decide +kernel
theorem dX6_image_8 : decode cX6_image 8 = .ok (.invokestatic 142, 3) := by decide +kernel
theorem dX6_image_11 : decode cX6_image 11 = .ok (.aload_n 0, 1) := by decide +kernel
theorem dX6_image_12 : decode cX6_image 12 = .ok (.iconst 1, 1) := by decide +kernel
theorem dX6_image_13 : decode cX6_image 13 = .ok (.putfield 228, 3) := by decide +kernel
theorem dX6_image_16 : decode cX6_image 16 = .ok (.iconst 1, 1) := by decide +kernel
theorem dX6_image_17 : decode cX6_image 17 = .ok (.ireturn, 1) := by decide +kernel
theorem dX6_undo_0 : decode cX6_undo 0 = .ok (.aload_n 0, 1) := by decide +kernel
theorem dX6_undo_1 : decode cX6_undo 1 = .ok (.getfield 228, 3) := by decide +kernel
theorem dX6_undo_4 : decode cX6_undo 4 = .ok (.ifCond .ne 10, 3) := by decide +kernel
theorem dX6_undo_7 : decode cX6_undo 7 = .ok (.aload_n 0, 1) := by decide +kernel
theorem dX6_undo_8 : decode cX6_undo 8 = .ok (.ldc 36, 2) := by decide +kernel
theorem dX6_undo_10 : decode cX6_undo 10 = .ok (.invokevirtual 37, 3) := by decide +kernel
theorem dX6_undo_13 : decode cX6_undo 13 = .ok (.ireturn, 1) := by decide +kernel
theorem dX6_undo_14 : decode cX6_undo 14 = .ok (.aload_n 0, 1) := by decide +kernel
theorem dX6_undo_15 : decode cX6_undo 15 = .ok (.getfield 13, 3) := by decide +kernel
theorem dX6_undo_18 : decode cX6_undo 18 = .ok (.aload_n 0, 1) := by decide +kernel
theorem dX6_undo_19 : decode cX6_undo 19 = .ok (.getfield 9, 3) := by decide +kernel
theorem dX6_undo_22 : decode cX6_undo 22 = .ok (.invokestatic 142, 3) := by decide +kernel
theorem dX6_undo_25 : decode cX6_undo 25 = .ok (.aload_n 0, 1) := by decide +kernel
theorem dX6_undo_26 : decode cX6_undo 26 = .ok (.getfield 9, 3) := by decide +kernel
theorem dX6_undo_29 : decode cX6_undo 29 = .ok (.iconst 1, 1) := by decide +kernel
theorem dX6_undo_30 : decode cX6_undo 30 = .ok (.iaload, 1) := by decide +kernel
theorem dX6_undo_31 : decode cX6_undo 31 = .ok (.ireturn, 1) := by decide +kernel
theorem dX6_tear_0 : decode cX6_tear 0 = .ok (.aload_n 0, 1) := by decide +kernel
theorem dX6_tear_1 : decode cX6_tear 1 = .ok (.getfield 228, 3) := by decide +kernel
theorem dX6_tear_4 : decode cX6_tear 4 = .ok (.ifCond .eq 7, 3) := by decide +kernel
theorem dX6_tear_7 : decode cX6_tear 7 = .ok (.iconst 1, 1) := by decide +kernel
theorem dX6_tear_8 : decode cX6_tear 8 = .ok (.goto 4, 3) := by decide +kernel
theorem dX6_tear_11 : decode cX6_tear 11 = .ok (.iconst 0, 1) := by decide +kernel
theorem dX6_tear_12 : decode cX6_tear 12 = .ok (.istore_n 1, 1) := by decide +kernel
theorem dX6_tear_13 : decode cX6_tear 13 = .ok (.aload_n 0, 1) := by decide +kernel
theorem dX6_tear_14 : decode cX6_tear 14 = .ok (.iconst 0, 1) := by decide +kernel
theorem dX6_tear_15 : decode cX6_tear 15 = .ok (.putfield 228, 3) := by decide +kernel
theorem dX6_tear_18 : decode cX6_tear 18 = .ok (.iload_n 1, 1) := by decide +kernel
theorem dX6_tear_19 : decode cX6_tear 19 = .ok (.ireturn, 1) := by decide +kernel
theorem dX6_drawnOnes_0 : decode cX6_drawnOnes 0 = .ok (.iconst 0, 1) := by decide +kernel
theorem dX6_drawnOnes_1 : decode cX6_drawnOnes 1 = .ok (.istore_n 1, 1) := by decide +kernel
theorem dX6_drawnOnes_2 : decode cX6_drawnOnes 2 = .ok (.iconst 0, 1) := by decide +kernel
theorem dX6_drawnOnes_3 : decode cX6_drawnOnes 3 = .ok (.istore_n 2, 1) := by decide +kernel
theorem dX6_drawnOnes_4 : decode cX6_drawnOnes 4 = .ok (.iload_n 2, 1) := by decide +kernel
theorem dX6_drawnOnes_5 : decode cX6_drawnOnes 5 = .ok (.aload_n 0, 1) := by decide +kernel
theorem dX6_drawnOnes_6 : decode cX6_drawnOnes 6 = .ok (.getfield 9, 3) := by decide +kernel
theorem dX6_drawnOnes_9 : decode cX6_drawnOnes 9 = .ok (.iconst 1, 1) := by decide +kernel
theorem dX6_drawnOnes_10 : decode cX6_drawnOnes 10 = .ok (.iaload, 1) := by decide +kernel
theorem dX6_drawnOnes_11 : decode cX6_drawnOnes 11 = .ok (.if_icmp .ge 18, 3) := by decide +kernel
theorem dX6_drawnOnes_14 : decode cX6_drawnOnes 14 = .ok (.iload_n 1, 1) := by decide +kernel
theorem dX6_drawnOnes_15 : decode cX6_drawnOnes 15 = .ok (.aload_n 0, 1) := by decide +kernel
theorem dX6_drawnOnes_16 : decode cX6_drawnOnes 16 = .ok (.iload_n 2, 1) := by decide +kernel
theorem dX6_drawnOnes_17 : decode cX6_drawnOnes 17 = .ok (.iconst 1, 1) := by decide +kernel
theorem dX6_drawnOnes_18 : decode cX6_drawnOnes 18 = .ok (.invokevirtual 57, 3) := by decide +kernel
theorem dX6_drawnOnes_21 : decode cX6_drawnOnes 21 = .ok (.iadd, 1) := by decide +kernel
theorem dX6_drawnOnes_22 : decode cX6_drawnOnes 22 = .ok (.istore_n 1, 1) := by decide +kernel
theorem dX6_drawnOnes_23 : decode cX6_drawnOnes 23 = .ok (.iinc 2 1, 3) := by decide +kernel
theorem dX6_drawnOnes_26 : decode cX6_drawnOnes 26 = .ok (.goto (-22), 3) := by decide +kernel
theorem dX6_drawnOnes_29 : decode cX6_drawnOnes 29 = .ok (.iload_n 1, 1) := by decide +kernel
theorem dX6_drawnOnes_30 : decode cX6_drawnOnes 30 = .ok (.ireturn, 1) := by decide +kernel
theorem dX6_count_0 : decode cX6_count 0 = .ok (.iload_n 1, 1) := by decide +kernel
theorem dX6_count_1 : decode cX6_count 1 = .ok (.tableswitch 53 0 3 #[31, 38, 43, 48], 31) := by decide +kernel
theorem dX6_count_32 : decode cX6_count 32 = .ok (.aload_n 0, 1) := by decide +kernel
theorem dX6_count_33 : decode cX6_count 33 = .ok (.getfield 9, 3) := by decide +kernel
theorem dX6_count_36 : decode cX6_count 36 = .ok (.iconst 1, 1) := by decide +kernel
theorem dX6_count_37 : decode cX6_count 37 = .ok (.iaload, 1) := by decide +kernel
theorem dX6_count_38 : decode cX6_count 38 = .ok (.ireturn, 1) := by decide +kernel
theorem dX6_count_39 : decode cX6_count 39 = .ok (.aload_n 0, 1) := by decide +kernel
theorem dX6_count_40 : decode cX6_count 40 = .ok (.getfield 155, 3) := by decide +kernel
theorem dX6_count_43 : decode cX6_count 43 = .ok (.ireturn, 1) := by decide +kernel
theorem dX6_count_44 : decode cX6_count 44 = .ok (.aload_n 0, 1) := by decide +kernel
theorem dX6_count_45 : decode cX6_count 45 = .ok (.invokevirtual 231, 3) := by decide +kernel
theorem dX6_count_48 : decode cX6_count 48 = .ok (.ireturn, 1) := by decide +kernel
theorem dX6_count_49 : decode cX6_count 49 = .ok (.aload_n 0, 1) := by decide +kernel
theorem dX6_count_50 : decode cX6_count 50 = .ok (.invokevirtual 139, 3) := by decide +kernel
theorem dX6_count_53 : decode cX6_count 53 = .ok (.ireturn, 1) := by decide +kernel
theorem dX6_count_54 : decode cX6_count 54 = .ok (.aload_n 0, 1) := by decide +kernel
theorem dX6_count_55 : decode cX6_count 55 = .ok (.ldc 35, 2) := by decide +kernel
theorem dX6_count_57 : decode cX6_count 57 = .ok (.invokevirtual 37, 3) := by decide +kernel
theorem dX6_count_60 : decode cX6_count 60 = .ok (.ireturn, 1) := by decide +kernel
theorem dX6_status_0 : decode cX6_status 0 = .ok (.iload_n 1, 1) := by decide +kernel
theorem dX6_status_1 : decode cX6_status 1 = .ok (.i2l, 1) := by decide +kernel
theorem dX6_status_2 : decode cX6_status 2 = .ok (.iconst (-1), 1) := by decide +kernel
theorem dX6_status_3 : decode cX6_status 3 = .ok (.bipush 6, 2) := by decide +kernel
theorem dX6_status_5 : decode cX6_status 5 = .ok (.invokestatic 41, 3) := by decide +kernel
theorem dX6_status_8 : decode cX6_status 8 = .ok (.ifCond .ne 10, 3) := by decide +kernel
theorem dX6_status_11 : decode cX6_status 11 = .ok (.aload_n 0, 1) := by decide +kernel
theorem dX6_status_12 : decode cX6_status 12 = .ok (.ldc 35, 2) := by decide +kernel
theorem dX6_status_14 : decode cX6_status 14 = .ok (.invokevirtual 37, 3) := by decide +kernel
theorem dX6_status_17 : decode cX6_status 17 = .ok (.ireturn, 1) := by decide +kernel
theorem dX6_status_18 : decode cX6_status 18 = .ok (.iconst 0, 1) := by decide +kernel
theorem dX6_status_19 : decode cX6_status 19 = .ok (.istore_n 2, 1) := by decide +kernel
theorem dX6_status_20 : decode cX6_status 20 = .ok (.iconst 0, 1) := by decide +kernel
theorem dX6_status_21 : decode cX6_status 21 = .ok (.istore_n 3, 1) := by decide +kernel
theorem dX6_status_22 : decode cX6_status 22 = .ok (.iload_n 3, 1) := by decide +kernel
theorem dX6_status_23 : decode cX6_status 23 = .ok (.bipush 7, 2) := by decide +kernel
theorem dX6_status_25 : decode cX6_status 25 = .ok (.if_icmp .ge 31, 3) := by decide +kernel
theorem dX6_status_28 : decode cX6_status 28 = .ok (.iload_n 2, 1) := by decide +kernel
theorem dX6_status_29 : decode cX6_status 29 = .ok (.iload_n 1, 1) := by decide +kernel
theorem dX6_status_30 : decode cX6_status 30 = .ok (.ifCond .lt 8, 3) := by decide +kernel
theorem dX6_status_33 : decode cX6_status 33 = .ok (.iload_n 1, 1) := by decide +kernel
theorem dX6_status_34 : decode cX6_status 34 = .ok (.iload_n 3, 1) := by decide +kernel
theorem dX6_status_35 : decode cX6_status 35 = .ok (.if_icmp .ne 12, 3) := by decide +kernel
theorem dX6_status_38 : decode cX6_status 38 = .ok (.aload_n 0, 1) := by decide +kernel
theorem dX6_status_39 : decode cX6_status 39 = .ok (.getfield 19, 3) := by decide +kernel
theorem dX6_status_42 : decode cX6_status 42 = .ok (.iload_n 3, 1) := by decide +kernel
theorem dX6_status_43 : decode cX6_status 43 = .ok (.iaload, 1) := by decide +kernel
theorem dX6_status_44 : decode cX6_status 44 = .ok (.goto 4, 3) := by decide +kernel
theorem dX6_status_47 : decode cX6_status 47 = .ok (.iconst 0, 1) := by decide +kernel
theorem dX6_status_48 : decode cX6_status 48 = .ok (.iadd, 1) := by decide +kernel
theorem dX6_status_49 : decode cX6_status 49 = .ok (.istore_n 2, 1) := by decide +kernel
theorem dX6_status_50 : decode cX6_status 50 = .ok (.iinc 3 1, 3) := by decide +kernel
theorem dX6_status_53 : decode cX6_status 53 = .ok (.goto (-31), 3) := by decide +kernel
theorem dX6_status_56 : decode cX6_status 56 = .ok (.iload_n 2, 1) := by decide +kernel
theorem dX6_status_57 : decode cX6_status 57 = .ok (.ireturn, 1) := by decide +kernel
theorem dJ6_bitCount_0f7a4_0 : decode cJ6_bitCount_0f7a4 0 = .ok (.iload_n 0, 1) := by decide +kernel
theorem dJ6_bitCount_0f7a4_1 : decode cJ6_bitCount_0f7a4 1 = .ok (.iload_n 0, 1) := by decide +kernel
theorem dJ6_bitCount_0f7a4_2 : decode cJ6_bitCount_0f7a4 2 = .ok (.iconst 1, 1) := by decide +kernel
theorem dJ6_bitCount_0f7a4_3 : decode cJ6_bitCount_0f7a4 3 = .ok (.iushr, 1) := by decide +kernel
theorem dJ6_bitCount_0f7a4_4 : decode cJ6_bitCount_0f7a4 4 = .ok (.ldc_w 265, 3) := by decide +kernel
theorem dJ6_bitCount_0f7a4_7 : decode cJ6_bitCount_0f7a4 7 = .ok (.iand, 1) := by decide +kernel
theorem dJ6_bitCount_0f7a4_8 : decode cJ6_bitCount_0f7a4 8 = .ok (.isub, 1) := by decide +kernel
theorem dJ6_bitCount_0f7a4_9 : decode cJ6_bitCount_0f7a4 9 = .ok (.istore_n 0, 1) := by decide +kernel
theorem dJ6_bitCount_0f7a4_10 : decode cJ6_bitCount_0f7a4 10 = .ok (.iload_n 0, 1) := by decide +kernel
theorem dJ6_bitCount_0f7a4_11 : decode cJ6_bitCount_0f7a4 11 = .ok (.ldc_w 266, 3) := by decide +kernel
theorem dJ6_bitCount_0f7a4_14 : decode cJ6_bitCount_0f7a4 14 = .ok (.iand, 1) := by decide +kernel
theorem dJ6_bitCount_0f7a4_15 : decode cJ6_bitCount_0f7a4 15 = .ok (.iload_n 0, 1) := by decide +kernel
theorem dJ6_bitCount_0f7a4_16 : decode cJ6_bitCount_0f7a4 16 = .ok (.iconst 2, 1) := by decide +kernel
theorem dJ6_bitCount_0f7a4_17 : decode cJ6_bitCount_0f7a4 17 = .ok (.iushr, 1) := by decide +kernel
theorem dJ6_bitCount_0f7a4_18 : decode cJ6_bitCount_0f7a4 18 = .ok (.ldc_w 266, 3) := by decide +kernel
theorem dJ6_bitCount_0f7a4_21 : decode cJ6_bitCount_0f7a4 21 = .ok (.iand, 1) := by decide +kernel
theorem dJ6_bitCount_0f7a4_22 : decode cJ6_bitCount_0f7a4 22 = .ok (.iadd, 1) := by decide +kernel
theorem dJ6_bitCount_0f7a4_23 : decode cJ6_bitCount_0f7a4 23 = .ok (.istore_n 0, 1) := by decide +kernel
theorem dJ6_bitCount_0f7a4_24 : decode cJ6_bitCount_0f7a4 24 = .ok (.iload_n 0, 1) := by decide +kernel
theorem dJ6_bitCount_0f7a4_25 : decode cJ6_bitCount_0f7a4 25 = .ok (.iload_n 0, 1) := by decide +kernel
theorem dJ6_bitCount_0f7a4_26 : decode cJ6_bitCount_0f7a4 26 = .ok (.iconst 4, 1) := by decide +kernel
theorem dJ6_bitCount_0f7a4_27 : decode cJ6_bitCount_0f7a4 27 = .ok (.iushr, 1) := by decide +kernel
theorem dJ6_bitCount_0f7a4_28 : decode cJ6_bitCount_0f7a4 28 = .ok (.iadd, 1) := by decide +kernel
theorem dJ6_bitCount_0f7a4_29 : decode cJ6_bitCount_0f7a4 29 = .ok (.ldc_w 267, 3) := by decide +kernel
theorem dJ6_bitCount_0f7a4_32 : decode cJ6_bitCount_0f7a4 32 = .ok (.iand, 1) := by decide +kernel
theorem dJ6_bitCount_0f7a4_33 : decode cJ6_bitCount_0f7a4 33 = .ok (.istore_n 0, 1) := by decide +kernel
theorem dJ6_bitCount_0f7a4_34 : decode cJ6_bitCount_0f7a4 34 = .ok (.iload_n 0, 1) := by decide +kernel
theorem dJ6_bitCount_0f7a4_35 : decode cJ6_bitCount_0f7a4 35 = .ok (.iload_n 0, 1) := by decide +kernel
theorem dJ6_bitCount_0f7a4_36 : decode cJ6_bitCount_0f7a4 36 = .ok (.bipush 8, 2) := by decide +kernel
theorem dJ6_bitCount_0f7a4_38 : decode cJ6_bitCount_0f7a4 38 = .ok (.iushr, 1) := by decide +kernel
theorem dJ6_bitCount_0f7a4_39 : decode cJ6_bitCount_0f7a4 39 = .ok (.iadd, 1) := by decide +kernel
theorem dJ6_bitCount_0f7a4_40 : decode cJ6_bitCount_0f7a4 40 = .ok (.istore_n 0, 1) := by decide +kernel
theorem dJ6_bitCount_0f7a4_41 : decode cJ6_bitCount_0f7a4 41 = .ok (.iload_n 0, 1) := by decide +kernel
theorem dJ6_bitCount_0f7a4_42 : decode cJ6_bitCount_0f7a4 42 = .ok (.iload_n 0, 1) := by decide +kernel
theorem dJ6_bitCount_0f7a4_43 : decode cJ6_bitCount_0f7a4 43 = .ok (.bipush 16, 2) := by decide +kernel
theorem dJ6_bitCount_0f7a4_45 : decode cJ6_bitCount_0f7a4 45 = .ok (.iushr, 1) := by decide +kernel
theorem dJ6_bitCount_0f7a4_46 : decode cJ6_bitCount_0f7a4 46 = .ok (.iadd, 1) := by decide +kernel
theorem dJ6_bitCount_0f7a4_47 : decode cJ6_bitCount_0f7a4 47 = .ok (.istore_n 0, 1) := by decide +kernel
theorem dJ6_bitCount_0f7a4_48 : decode cJ6_bitCount_0f7a4 48 = .ok (.iload_n 0, 1) := by decide +kernel
theorem dJ6_bitCount_0f7a4_49 : decode cJ6_bitCount_0f7a4 49 = .ok (.bipush 63, 2) := by decide +kernel
theorem dJ6_bitCount_0f7a4_51 : decode cJ6_bitCount_0f7a4 51 = .ok (.iand, 1) := by decide +kernel
theorem dJ6_bitCount_0f7a4_52 : decode cJ6_bitCount_0f7a4 52 = .ok (.ireturn, 1) := by decide +kernel
theorem dJ9_abs_0f7a4_0 : decode cJ9_abs_0f7a4 0 = .ok (.iload_n 0, 1) := by decide +kernel
theorem dJ9_abs_0f7a4_1 : decode cJ9_abs_0f7a4 1 = .ok (.ifCond .ge 8, 3) := by decide +kernel
theorem dJ9_abs_0f7a4_4 : decode cJ9_abs_0f7a4 4 = .ok (.iload_n 0, 1) := by decide +kernel
theorem dJ9_abs_0f7a4_5 : decode cJ9_abs_0f7a4 5 = .ok (.ineg, 1) := by decide +kernel
theorem dJ9_abs_0f7a4_6 : decode cJ9_abs_0f7a4 6 = .ok (.goto 4, 3) := by decide +kernel
theorem dJ9_abs_0f7a4_9 : decode cJ9_abs_0f7a4 9 = .ok (.iload_n 0, 1) := by decide +kernel
theorem dJ9_abs_0f7a4_10 : decode cJ9_abs_0f7a4 10 = .ok (.ireturn, 1) := by decide +kernel
theorem dJ9_max_7cf53_0 : decode cJ9_max_7cf53 0 = .ok (.iload_n 0, 1) := by decide +kernel
theorem dJ9_max_7cf53_1 : decode cJ9_max_7cf53 1 = .ok (.iload_n 1, 1) := by decide +kernel
theorem dJ9_max_7cf53_2 : decode cJ9_max_7cf53 2 = .ok (.if_icmp .lt 7, 3) := by decide +kernel
theorem dJ9_max_7cf53_5 : decode cJ9_max_7cf53 5 = .ok (.iload_n 0, 1) := by decide +kernel
theorem dJ9_max_7cf53_6 : decode cJ9_max_7cf53 6 = .ok (.goto 4, 3) := by decide +kernel
theorem dJ9_max_7cf53_9 : decode cJ9_max_7cf53 9 = .ok (.iload_n 1, 1) := by decide +kernel
theorem dJ9_max_7cf53_10 : decode cJ9_max_7cf53 10 = .ok (.ireturn, 1) := by decide +kernel
theorem dJ9_min_7cf53_0 : decode cJ9_min_7cf53 0 = .ok (.iload_n 0, 1) := by decide +kernel
theorem dJ9_min_7cf53_1 : decode cJ9_min_7cf53 1 = .ok (.iload_n 1, 1) := by decide +kernel
theorem dJ9_min_7cf53_2 : decode cJ9_min_7cf53 2 = .ok (.if_icmp .gt 7, 3) := by decide +kernel
theorem dJ9_min_7cf53_5 : decode cJ9_min_7cf53 5 = .ok (.iload_n 0, 1) := by decide +kernel
theorem dJ9_min_7cf53_6 : decode cJ9_min_7cf53 6 = .ok (.goto 4, 3) := by decide +kernel
theorem dJ9_min_7cf53_9 : decode cJ9_min_7cf53 9 = .ok (.iload_n 1, 1) := by decide +kernel
theorem dJ9_min_7cf53_10 : decode cJ9_min_7cf53 10 = .ok (.ireturn, 1) := by decide +kernel
theorem dJ0_length_8abf5_0 : decode cJ0_length_8abf5 0 = .ok (.aload_n 0, 1) := by decide +kernel
theorem dJ0_length_8abf5_1 : decode cJ0_length_8abf5 1 = .ok (.getfield 9, 3) := by decide +kernel
theorem dJ0_length_8abf5_4 : decode cJ0_length_8abf5 4 = .ok (.arraylength, 1) := by decide +kernel
theorem dJ0_length_8abf5_5 : decode cJ0_length_8abf5 5 = .ok (.aload_n 0, 1) := by decide +kernel
theorem dJ0_length_8abf5_6 : decode cJ0_length_8abf5 6 = .ok (.invokevirtual 335, 3) := by decide +kernel
theorem dJ0_length_8abf5_9 : decode cJ0_length_8abf5 9 = .ok (.ishr, 1) := by decide +kernel
theorem dJ0_length_8abf5_10 : decode cJ0_length_8abf5 10 = .ok (.ireturn, 1) := by decide +kernel
theorem dJ0_charAt_5068e_0 : decode cJ0_charAt_5068e 0 = .ok (.aload_n 0, 1) := by decide +kernel
theorem dJ0_charAt_5068e_1 : decode cJ0_charAt_5068e 1 = .ok (.invokevirtual 492, 3) := by decide +kernel
theorem dJ0_charAt_5068e_4 : decode cJ0_charAt_5068e 4 = .ok (.ifCond .eq 12, 3) := by decide +kernel
theorem dJ0_charAt_5068e_7 : decode cJ0_charAt_5068e 7 = .ok (.aload_n 0, 1) := by decide +kernel
theorem dJ0_charAt_5068e_8 : decode cJ0_charAt_5068e 8 = .ok (.getfield 9, 3) := by decide +kernel
theorem dJ0_charAt_5068e_11 : decode cJ0_charAt_5068e 11 = .ok (.iload_n 1, 1) := by decide +kernel
theorem dJ0_charAt_5068e_12 : decode cJ0_charAt_5068e 12 = .ok (.invokestatic 495, 3) := by decide +kernel
theorem dJ0_charAt_5068e_15 : decode cJ0_charAt_5068e 15 = .ok (.ireturn, 1) := by decide +kernel
theorem dJ0_charAt_5068e_16 : decode cJ0_charAt_5068e 16 = .ok (.aload_n 0, 1) := by decide +kernel
theorem dJ0_charAt_5068e_17 : decode cJ0_charAt_5068e 17 = .ok (.getfield 9, 3) := by decide +kernel
theorem dJ0_charAt_5068e_20 : decode cJ0_charAt_5068e 20 = .ok (.iload_n 1, 1) := by decide +kernel
theorem dJ0_charAt_5068e_21 : decode cJ0_charAt_5068e 21 = .ok (.invokestatic 498, 3) := by decide +kernel
theorem dJ0_charAt_5068e_24 : decode cJ0_charAt_5068e 24 = .ok (.ireturn, 1) := by decide +kernel
theorem dJ0_coder_7d493_0 : decode cJ0_coder_7d493 0 = .ok (.getstatic 38, 3) := by decide +kernel
theorem dJ0_coder_7d493_3 : decode cJ0_coder_7d493 3 = .ok (.ifCond .eq 10, 3) := by decide +kernel
theorem dJ0_coder_7d493_6 : decode cJ0_coder_7d493 6 = .ok (.aload_n 0, 1) := by decide +kernel
theorem dJ0_coder_7d493_7 : decode cJ0_coder_7d493 7 = .ok (.getfield 15, 3) := by decide +kernel
theorem dJ0_coder_7d493_10 : decode cJ0_coder_7d493 10 = .ok (.goto 4, 3) := by decide +kernel
theorem dJ0_coder_7d493_13 : decode cJ0_coder_7d493 13 = .ok (.iconst 1, 1) := by decide +kernel
theorem dJ0_coder_7d493_14 : decode cJ0_coder_7d493 14 = .ok (.ireturn, 1) := by decide +kernel
theorem dJ0_isLatin1_aae02_0 : decode cJ0_isLatin1_aae02 0 = .ok (.getstatic 38, 3) := by decide +kernel
theorem dJ0_isLatin1_aae02_3 : decode cJ0_isLatin1_aae02 3 = .ok (.ifCond .eq 14, 3) := by decide +kernel
theorem dJ0_isLatin1_aae02_6 : decode cJ0_isLatin1_aae02 6 = .ok (.aload_n 0, 1) := by decide +kernel
theorem dJ0_isLatin1_aae02_7 : decode cJ0_isLatin1_aae02 7 = .ok (.getfield 15, 3) := by decide +kernel
theorem dJ0_isLatin1_aae02_10 : decode cJ0_isLatin1_aae02 10 = .ok (.ifCond .ne 7, 3) := by decide +kernel
theorem dJ0_isLatin1_aae02_13 : decode cJ0_isLatin1_aae02 13 = .ok (.iconst 1, 1) := by decide +kernel
theorem dJ0_isLatin1_aae02_14 : decode cJ0_isLatin1_aae02 14 = .ok (.goto 4, 3) := by decide +kernel
theorem dJ0_isLatin1_aae02_17 : decode cJ0_isLatin1_aae02 17 = .ok (.iconst 0, 1) := by decide +kernel
theorem dJ0_isLatin1_aae02_18 : decode cJ0_isLatin1_aae02 18 = .ok (.ireturn, 1) := by decide +kernel
theorem dJ0_checkIndex_df160_0 : decode cJ0_checkIndex_df160 0 = .ok (.iload_n 0, 1) := by decide +kernel
theorem dJ0_checkIndex_df160_1 : decode cJ0_checkIndex_df160 1 = .ok (.iload_n 1, 1) := by decide +kernel
theorem dJ0_checkIndex_df160_2 : decode cJ0_checkIndex_df160 2 = .ok (.getstatic 1053, 3) := by decide +kernel
theorem dJ0_checkIndex_df160_5 : decode cJ0_checkIndex_df160 5 = .ok (.invokestatic 1059, 3) := by decide +kernel
theorem dJ0_checkIndex_df160_8 : decode cJ0_checkIndex_df160 8 = .ok (.pop, 1) := by decide +kernel
theorem dJ0_checkIndex_df160_9 : decode cJ0_checkIndex_df160 9 = .ok (.return_, 1) := by decide +kernel
theorem dJ1_charAt_3b067_0 : decode cJ1_charAt_3b067 0 = .ok (.iload_n 1, 1) := by decide +kernel
theorem dJ1_charAt_3b067_1 : decode cJ1_charAt_3b067 1 = .ok (.aload_n 0, 1) := by decide +kernel
theorem dJ1_charAt_3b067_2 : decode cJ1_charAt_3b067 2 = .ok (.arraylength, 1) := by decide +kernel
theorem dJ1_charAt_3b067_3 : decode cJ1_charAt_3b067 3 = .ok (.invokestatic 9, 3) := by decide +kernel
theorem dJ1_charAt_3b067_6 : decode cJ1_charAt_3b067 6 = .ok (.aload_n 0, 1) := by decide +kernel
theorem dJ1_charAt_3b067_7 : decode cJ1_charAt_3b067 7 = .ok (.iload_n 1, 1) := by decide +kernel
theorem dJ1_charAt_3b067_8 : decode cJ1_charAt_3b067 8 = .ok (.baload, 1) := by decide +kernel
theorem dJ1_charAt_3b067_9 : decode cJ1_charAt_3b067 9 = .ok (.sipush 255, 3) := by decide +kernel
theorem dJ1_charAt_3b067_12 : decode cJ1_charAt_3b067 12 = .ok (.iand, 1) := by decide +kernel
theorem dJ1_charAt_3b067_13 : decode cJ1_charAt_3b067 13 = .ok (.i2c, 1) := by decide +kernel
theorem dJ1_charAt_3b067_14 : decode cJ1_charAt_3b067 14 = .ok (.ireturn, 1) := by decide +kernel
theorem dJ2_getChar_3b067_0 : decode cJ2_getChar_3b067 0 = .ok (.getstatic 44, 3) := by decide +kernel
theorem dJ2_getChar_3b067_3 : decode cJ2_getChar_3b067 3 = .ok (.ifCond .ne 25, 3) := by decide +kernel
theorem dJ2_getChar_3b067_6 : decode cJ2_getChar_3b067 6 = .ok (.iload_n 1, 1) := by decide +kernel
theorem dJ2_getChar_3b067_7 : decode cJ2_getChar_3b067 7 = .ok (.ifCond .lt 11, 3) := by decide +kernel
theorem dJ2_getChar_3b067_10 : decode cJ2_getChar_3b067 10 = .ok (.iload_n 1, 1) := by decide +kernel
theorem dJ2_getChar_3b067_11 : decode cJ2_getChar_3b067 11 = .ok (.aload_n 0, 1) := by decide +kernel
theorem dJ2_getChar_3b067_12 : decode cJ2_getChar_3b067 12 = .ok (.invokestatic 48, 3) := by decide +kernel
theorem dJ2_getChar_3b067_15 : decode cJ2_getChar_3b067 15 = .ok (.if_icmp .lt 13, 3) := by decide +kernel
theorem dJ2_getChar_3b067_18 : decode cJ2_getChar_3b067 18 = .ok (.new 52, 3) := by decide +kernel
theorem dJ2_getChar_3b067_21 : decode cJ2_getChar_3b067 21 = .ok (.dup, 1) := by decide +kernel
theorem dJ2_getChar_3b067_22 : decode cJ2_getChar_3b067 22 = .ok (.ldc 54, 2) := by decide +kernel
theorem dJ2_getChar_3b067_24 : decode cJ2_getChar_3b067 24 = .ok (.invokespecial 56, 3) := by decide +kernel
theorem dJ2_getChar_3b067_27 : decode cJ2_getChar_3b067 27 = .ok (.athrow, 1) := by decide +kernel
theorem dJ2_getChar_3b067_28 : decode cJ2_getChar_3b067 28 = .ok (.iload_n 1, 1) := by decide +kernel
theorem dJ2_getChar_3b067_29 : decode cJ2_getChar_3b067 29 = .ok (.iconst 1, 1) := by decide +kernel
theorem dJ2_getChar_3b067_30 : decode cJ2_getChar_3b067 30 = .ok (.ishl, 1) := by decide +kernel
theorem dJ2_getChar_3b067_31 : decode cJ2_getChar_3b067 31 = .ok (.istore_n 1, 1) := by decide +kernel
theorem dJ2_getChar_3b067_32 : decode cJ2_getChar_3b067 32 = .ok (.aload_n 0, 1) := by decide +kernel
theorem dJ2_getChar_3b067_33 : decode cJ2_getChar_3b067 33 = .ok (.iload_n 1, 1) := by decide +kernel
theorem dJ2_getChar_3b067_34 : decode cJ2_getChar_3b067 34 = .ok (.iinc 1 1, 3) := by decide +kernel
theorem dJ2_getChar_3b067_37 : decode cJ2_getChar_3b067 37 = .ok (.baload, 1) := by decide +kernel
theorem dJ2_getChar_3b067_38 : decode cJ2_getChar_3b067 38 = .ok (.sipush 255, 3) := by decide +kernel
theorem dJ2_getChar_3b067_41 : decode cJ2_getChar_3b067 41 = .ok (.iand, 1) := by decide +kernel
theorem dJ2_getChar_3b067_42 : decode cJ2_getChar_3b067 42 = .ok (.getstatic 59, 3) := by decide +kernel
theorem dJ2_getChar_3b067_45 : decode cJ2_getChar_3b067 45 = .ok (.ishl, 1) := by decide +kernel
theorem dJ2_getChar_3b067_46 : decode cJ2_getChar_3b067 46 = .ok (.aload_n 0, 1) := by decide +kernel
theorem dJ2_getChar_3b067_47 : decode cJ2_getChar_3b067 47 = .ok (.iload_n 1, 1) := by decide +kernel
theorem dJ2_getChar_3b067_48 : decode cJ2_getChar_3b067 48 = .ok (.baload, 1) := by decide +kernel
theorem dJ2_getChar_3b067_49 : decode cJ2_getChar_3b067 49 = .ok (.sipush 255, 3) := by decide +kernel
theorem dJ2_getChar_3b067_52 : decode cJ2_getChar_3b067 52 = .ok (.iand, 1) := by decide +kernel
theorem dJ2_getChar_3b067_53 : decode cJ2_getChar_3b067 53 = .ok (.getstatic 63, 3) := by decide +kernel
theorem dJ2_getChar_3b067_56 : decode cJ2_getChar_3b067 56 = .ok (.ishl, 1) := by decide +kernel
theorem dJ2_getChar_3b067_57 : decode cJ2_getChar_3b067 57 = .ok (.ior, 1) := by decide +kernel
theorem dJ2_getChar_3b067_58 : decode cJ2_getChar_3b067 58 = .ok (.i2c, 1) := by decide +kernel
theorem dJ2_getChar_3b067_59 : decode cJ2_getChar_3b067 59 = .ok (.ireturn, 1) := by decide +kernel
theorem dJ2_length_9d52b_0 : decode cJ2_length_9d52b 0 = .ok (.aload_n 0, 1) := by decide +kernel
theorem dJ2_length_9d52b_1 : decode cJ2_length_9d52b 1 = .ok (.arraylength, 1) := by decide +kernel
theorem dJ2_length_9d52b_2 : decode cJ2_length_9d52b 2 = .ok (.iconst 1, 1) := by decide +kernel
theorem dJ2_length_9d52b_3 : decode cJ2_length_9d52b 3 = .ok (.ishr, 1) := by decide +kernel
theorem dJ2_length_9d52b_4 : decode cJ2_length_9d52b 4 = .ok (.ireturn, 1) := by decide +kernel
theorem dJ2_charAt_3b067_0 : decode cJ2_charAt_3b067 0 = .ok (.iload_n 1, 1) := by decide +kernel
theorem dJ2_charAt_3b067_1 : decode cJ2_charAt_3b067 1 = .ok (.aload_n 0, 1) := by decide +kernel
theorem dJ2_charAt_3b067_2 : decode cJ2_charAt_3b067 2 = .ok (.invokestatic 67, 3) := by decide +kernel
theorem dJ2_charAt_3b067_5 : decode cJ2_charAt_3b067 5 = .ok (.aload_n 0, 1) := by decide +kernel
theorem dJ2_charAt_3b067_6 : decode cJ2_charAt_3b067 6 = .ok (.iload_n 1, 1) := by decide +kernel
theorem dJ2_charAt_3b067_7 : decode cJ2_charAt_3b067 7 = .ok (.invokestatic 71, 3) := by decide +kernel
theorem dJ2_charAt_3b067_10 : decode cJ2_charAt_3b067 10 = .ok (.ireturn, 1) := by decide +kernel
theorem dJ2_checkIndex_2214a_0 : decode cJ2_checkIndex_2214a 0 = .ok (.iload_n 0, 1) := by decide +kernel
theorem dJ2_checkIndex_2214a_1 : decode cJ2_checkIndex_2214a 1 = .ok (.aload_n 1, 1) := by decide +kernel
theorem dJ2_checkIndex_2214a_2 : decode cJ2_checkIndex_2214a 2 = .ok (.invokestatic 48, 3) := by decide +kernel
theorem dJ2_checkIndex_2214a_5 : decode cJ2_checkIndex_2214a 5 = .ok (.invokestatic 414, 3) := by decide +kernel
theorem dJ2_checkIndex_2214a_8 : decode cJ2_checkIndex_2214a 8 = .ok (.return_, 1) := by decide +kernel
theorem dJ3_checkIndex_8e157_0 : decode cJ3_checkIndex_8e157 0 = .ok (.iload_n 0, 1) := by decide +kernel
theorem dJ3_checkIndex_8e157_1 : decode cJ3_checkIndex_8e157 1 = .ok (.ifCond .lt 8, 3) := by decide +kernel
theorem dJ3_checkIndex_8e157_4 : decode cJ3_checkIndex_8e157 4 = .ok (.iload_n 0, 1) := by decide +kernel
theorem dJ3_checkIndex_8e157_5 : decode cJ3_checkIndex_8e157 5 = .ok (.iload_n 1, 1) := by decide +kernel
theorem dJ3_checkIndex_8e157_6 : decode cJ3_checkIndex_8e157 6 = .ok (.if_icmp .lt 10, 3) := by decide +kernel
theorem dJ3_checkIndex_8e157_9 : decode cJ3_checkIndex_8e157 9 = .ok (.aload_n 2, 1) := by decide +kernel
theorem dJ3_checkIndex_8e157_10 : decode cJ3_checkIndex_8e157 10 = .ok (.iload_n 0, 1) := by decide +kernel
theorem dJ3_checkIndex_8e157_11 : decode cJ3_checkIndex_8e157 11 = .ok (.iload_n 1, 1) := by decide +kernel
theorem dJ3_checkIndex_8e157_12 : decode cJ3_checkIndex_8e157 12 = .ok (.invokestatic 95, 3) := by decide +kernel
theorem dJ3_checkIndex_8e157_15 : decode cJ3_checkIndex_8e157 15 = .ok (.athrow, 1) := by decide +kernel
theorem dJ3_checkIndex_8e157_16 : decode cJ3_checkIndex_8e157 16 = .ok (.iload_n 0, 1) := by decide +kernel
theorem dJ3_checkIndex_8e157_17 : decode cJ3_checkIndex_8e157 17 = .ok (.ireturn, 1) := by decide +kernel
