theorem dX4_init_0 : decode cX4_init 0 = .ok (.aload_n 0, 1) := by decide +kernel
theorem dX4_init_1 : decode cX4_init 1 = .ok (.invokespecial 1, 3) := by decide +kernel
theorem dX4_init_4 : decode cX4_init 4 = .ok (.aload_n 0, 1) := by decide +kernel
theorem dX4_init_5 : decode cX4_init 5 = .ok (.sipush 3567, 3) := by decide +kernel
theorem dX4_init_8 : decode cX4_init 8 = .ok (.newarray .int, 2) := by decide +kernel
theorem dX4_init_10 : decode cX4_init 10 = .ok (.putfield 7, 3) := by decide +kernel
theorem dX4_init_13 : decode cX4_init 13 = .ok (.aload_n 0, 1) := by decide +kernel
theorem dX4_init_14 : decode cX4_init 14 = .ok (.iconst 2, 1) := by decide +kernel
theorem dX4_init_15 : decode cX4_init 15 = .ok (.newarray .boolean, 2) := by decide +kernel
theorem dX4_init_17 : decode cX4_init 17 = .ok (.putfield 13, 3) := by decide +kernel
theorem dX4_init_20 : decode cX4_init 20 = .ok (.aload_n 0, 1) := by decide +kernel
theorem dX4_init_21 : decode cX4_init 21 = .ok (.sipush 150, 3) := by decide +kernel
theorem dX4_init_24 : decode cX4_init 24 = .ok (.newarray .int, 2) := by decide +kernel
theorem dX4_init_26 : decode cX4_init 26 = .ok (.putfield 17, 3) := by decide +kernel
theorem dX4_init_29 : decode cX4_init 29 = .ok (.aload_n 0, 1) := by decide +kernel
theorem dX4_init_30 : decode cX4_init 30 = .ok (.iconst 3, 1) := by decide +kernel
theorem dX4_init_31 : decode cX4_init 31 = .ok (.newarray .int, 2) := by decide +kernel
theorem dX4_init_33 : decode cX4_init 33 = .ok (.putfield 20, 3) := by decide +kernel
theorem dX4_init_36 : decode cX4_init 36 = .ok (.aload_n 0, 1) := by decide +kernel
theorem dX4_init_37 : decode cX4_init 37 = .ok (.lconst 1, 1) := by decide +kernel
theorem dX4_init_38 : decode cX4_init 38 = .ok (.putfield 23, 3) := by decide +kernel
theorem dX4_init_41 : decode cX4_init 41 = .ok (.aload_n 0, 1) := by decide +kernel
theorem dX4_init_42 : decode cX4_init 42 = .ok (.iconst 4, 1) := by decide +kernel
theorem dX4_init_43 : decode cX4_init 43 = .ok (.newarray .int, 2) := by decide +kernel
theorem dX4_init_45 : decode cX4_init 45 = .ok (.putfield 27, 3) := by decide +kernel
theorem dX4_init_48 : decode cX4_init 48 = .ok (.aload_n 0, 1) := by decide +kernel
theorem dX4_init_49 : decode cX4_init 49 = .ok (.sipush 279, 3) := by decide +kernel
theorem dX4_init_52 : decode cX4_init 52 = .ok (.newarray .int, 2) := by decide +kernel
theorem dX4_init_54 : decode cX4_init 54 = .ok (.putfield 30, 3) := by decide +kernel
theorem dX4_init_57 : decode cX4_init 57 = .ok (.aload_n 0, 1) := by decide +kernel
theorem dX4_init_58 : decode cX4_init 58 = .ok (.bipush 27, 2) := by decide +kernel
theorem dX4_init_60 : decode cX4_init 60 = .ok (.newarray .int, 2) := by decide +kernel
theorem dX4_init_62 : decode cX4_init 62 = .ok (.putfield 33, 3) := by decide +kernel
theorem dX4_init_65 : decode cX4_init 65 = .ok (.aload_n 0, 1) := by decide +kernel
theorem dX4_init_66 : decode cX4_init 66 = .ok (.bipush 64, 2) := by decide +kernel
theorem dX4_init_68 : decode cX4_init 68 = .ok (.newarray .int, 2) := by decide +kernel
theorem dX4_init_70 : decode cX4_init 70 = .ok (.putfield 36, 3) := by decide +kernel
theorem dX4_init_73 : decode cX4_init 73 = .ok (.aload_n 0, 1) := by decide +kernel
theorem dX4_init_74 : decode cX4_init 74 = .ok (.iconst 0, 1) := by decide +kernel
theorem dX4_init_75 : decode cX4_init 75 = .ok (.iconst 0, 1) := by decide +kernel
theorem dX4_init_76 : decode cX4_init 76 = .ok (.invokevirtual 39, 3) := by decide +kernel
theorem dX4_init_79 : decode cX4_init 79 = .ok (.return_, 1) := by decide +kernel
theorem dX4_in_0 : decode cX4_in 0 = .ok (.lload_n 0, 1) := by decide +kernel
theorem dX4_in_1 : decode cX4_in 1 = .ok (.lload_n 2, 1) := by decide +kernel
theorem dX4_in_2 : decode cX4_in 2 = .ok (.lcmp, 1) := by decide +kernel
theorem dX4_in_3 : decode cX4_in 3 = .ok (.ifCond .lt 14, 3) := by decide +kernel
theorem dX4_in_6 : decode cX4_in 6 = .ok (.lload_n 0, 1) := by decide +kernel
theorem dX4_in_7 : decode cX4_in 7 = .ok (.lload 4, 2) := by decide +kernel
theorem dX4_in_9 : decode cX4_in 9 = .ok (.lcmp, 1) := by decide +kernel
theorem dX4_in_10 : decode cX4_in 10 = .ok (.ifCond .gt 7, 3) := by decide +kernel
theorem dX4_in_13 : decode cX4_in 13 = .ok (.iconst 1, 1) := by decide +kernel
theorem dX4_in_14 : decode cX4_in 14 = .ok (.goto 4, 3) := by decide +kernel
theorem dX4_in_17 : decode cX4_in 17 = .ok (.iconst 0, 1) := by decide +kernel
theorem dX4_in_18 : decode cX4_in 18 = .ok (.ireturn, 1) := by decide +kernel
theorem dX4_has_0 : decode cX4_has 0 = .ok (.iload_n 0, 1) := by decide +kernel
theorem dX4_has_1 : decode cX4_has 1 = .ok (.iload_n 1, 1) := by decide +kernel
theorem dX4_has_2 : decode cX4_has 2 = .ok (.ishr, 1) := by decide +kernel
theorem dX4_has_3 : decode cX4_has 3 = .ok (.iconst 1, 1) := by decide +kernel
theorem dX4_has_4 : decode cX4_has 4 = .ok (.iand, 1) := by decide +kernel
theorem dX4_has_5 : decode cX4_has 5 = .ok (.iconst 1, 1) := by decide +kernel
theorem dX4_has_6 : decode cX4_has 6 = .ok (.if_icmp .ne 7, 3) := by decide +kernel
theorem dX4_has_9 : decode cX4_has 9 = .ok (.iconst 1, 1) := by decide +kernel
theorem dX4_has_10 : decode cX4_has 10 = .ok (.goto 4, 3) := by decide +kernel
theorem dX4_has_13 : decode cX4_has 13 = .ok (.iconst 0, 1) := by decide +kernel
theorem dX4_has_14 : decode cX4_has 14 = .ok (.ireturn, 1) := by decide +kernel
theorem dX4_bad_0 : decode cX4_bad 0 = .ok (.aload_n 0, 1) := by decide +kernel
theorem dX4_bad_1 : decode cX4_bad 1 = .ok (.getfield 20, 3) := by decide +kernel
theorem dX4_bad_4 : decode cX4_bad 4 = .ok (.iconst 0, 1) := by decide +kernel
theorem dX4_bad_5 : decode cX4_bad 5 = .ok (.dup2, 1) := by decide +kernel
theorem dX4_bad_6 : decode cX4_bad 6 = .ok (.iaload, 1) := by decide +kernel
theorem dX4_bad_7 : decode cX4_bad 7 = .ok (.iconst 1, 1) := by decide +kernel
theorem dX4_bad_8 : decode cX4_bad 8 = .ok (.iadd, 1) := by decide +kernel
theorem dX4_bad_9 : decode cX4_bad 9 = .ok (.iastore, 1) := by decide +kernel
theorem dX4_bad_10 : decode cX4_bad 10 = .ok (.bipush (-2), 2) := by decide +kernel
theorem dX4_bad_12 : decode cX4_bad 12 = .ok (.ireturn, 1) := by decide +kernel
theorem dX4_badAs_0 : decode cX4_badAs 0 = .ok (.aload_n 0, 1) := by decide +kernel
theorem dX4_badAs_1 : decode cX4_badAs 1 = .ok (.getfield 20, 3) := by decide +kernel
theorem dX4_badAs_4 : decode cX4_badAs 4 = .ok (.iconst 0, 1) := by decide +kernel
theorem dX4_badAs_5 : decode cX4_badAs 5 = .ok (.dup2, 1) := by decide +kernel
theorem dX4_badAs_6 : decode cX4_badAs 6 = .ok (.iaload, 1) := by decide +kernel
theorem dX4_badAs_7 : decode cX4_badAs 7 = .ok (.iconst 1, 1) := by decide +kernel
theorem dX4_badAs_8 : decode cX4_badAs 8 = .ok (.iadd, 1) := by decide +kernel
theorem dX4_badAs_9 : decode cX4_badAs 9 = .ok (.iastore, 1) := by decide +kernel
theorem dX4_badAs_10 : decode cX4_badAs 10 = .ok (.iload_n 1, 1) := by decide +kernel
theorem dX4_badAs_11 : decode cX4_badAs 11 = .ok (.ireturn, 1) := by decide +kernel
theorem dX4_no_0 : decode cX4_no 0 = .ok (.aload_n 0, 1) := by decide +kernel
theorem dX4_no_1 : decode cX4_no 1 = .ok (.getfield 20, 3) := by decide +kernel
theorem dX4_no_4 : decode cX4_no 4 = .ok (.iconst 1, 1) := by decide +kernel
theorem dX4_no_5 : decode cX4_no 5 = .ok (.dup2, 1) := by decide +kernel
theorem dX4_no_6 : decode cX4_no 6 = .ok (.iaload, 1) := by decide +kernel
theorem dX4_no_7 : decode cX4_no 7 = .ok (.iconst 1, 1) := by decide +kernel
theorem dX4_no_8 : decode cX4_no 8 = .ok (.iadd, 1) := by decide +kernel
theorem dX4_no_9 : decode cX4_no 9 = .ok (.iastore, 1) := by decide +kernel
theorem dX4_no_10 : decode cX4_no 10 = .ok (.bipush (-3), 2) := by decide +kernel
theorem dX4_no_12 : decode cX4_no 12 = .ok (.ireturn, 1) := by decide +kernel
theorem dX4_full_0 : decode cX4_full 0 = .ok (.aload_n 0, 1) := by decide +kernel
theorem dX4_full_1 : decode cX4_full 1 = .ok (.getfield 20, 3) := by decide +kernel
theorem dX4_full_4 : decode cX4_full 4 = .ok (.iconst 2, 1) := by decide +kernel
theorem dX4_full_5 : decode cX4_full 5 = .ok (.dup2, 1) := by decide +kernel
theorem dX4_full_6 : decode cX4_full 6 = .ok (.iaload, 1) := by decide +kernel
theorem dX4_full_7 : decode cX4_full 7 = .ok (.iconst 1, 1) := by decide +kernel
theorem dX4_full_8 : decode cX4_full 8 = .ok (.iadd, 1) := by decide +kernel
theorem dX4_full_9 : decode cX4_full 9 = .ok (.iastore, 1) := by decide +kernel
theorem dX4_full_10 : decode cX4_full 10 = .ok (.bipush (-4), 2) := by decide +kernel
theorem dX4_full_12 : decode cX4_full 12 = .ok (.ireturn, 1) := by decide +kernel
theorem dX4_copy_0 : decode cX4_copy 0 = .ok (.iconst 0, 1) := by decide +kernel
theorem dX4_copy_1 : decode cX4_copy 1 = .ok (.istore 4, 2) := by decide +kernel
theorem dX4_copy_3 : decode cX4_copy 3 = .ok (.iload 4, 2) := by decide +kernel
theorem dX4_copy_5 : decode cX4_copy 5 = .ok (.iload_n 3, 1) := by decide +kernel
theorem dX4_copy_6 : decode cX4_copy 6 = .ok (.if_icmp .ge 27, 3) := by decide +kernel
theorem dX4_copy_9 : decode cX4_copy 9 = .ok (.aload_n 0, 1) := by decide +kernel
theorem dX4_copy_10 : decode cX4_copy 10 = .ok (.getfield 7, 3) := by decide +kernel
theorem dX4_copy_13 : decode cX4_copy 13 = .ok (.iload_n 2, 1) := by decide +kernel
theorem dX4_copy_14 : decode cX4_copy 14 = .ok (.iload 4, 2) := by decide +kernel
theorem dX4_copy_16 : decode cX4_copy 16 = .ok (.iadd, 1) := by decide +kernel
theorem dX4_copy_17 : decode cX4_copy 17 = .ok (.aload_n 0, 1) := by decide +kernel
theorem dX4_copy_18 : decode cX4_copy 18 = .ok (.getfield 7, 3) := by decide +kernel
theorem dX4_copy_21 : decode cX4_copy 21 = .ok (.iload_n 1, 1) := by decide +kernel
theorem dX4_copy_22 : decode cX4_copy 22 = .ok (.iload 4, 2) := by decide +kernel
theorem dX4_copy_24 : decode cX4_copy 24 = .ok (.iadd, 1) := by decide +kernel
theorem dX4_copy_25 : decode cX4_copy 25 = .ok (.iaload, 1) := by decide +kernel
theorem dX4_copy_26 : decode cX4_copy 26 = .ok (.iastore, 1) := by decide +kernel
theorem dX4_copy_27 : decode cX4_copy 27 = .ok (.iinc 4 1, 3) := by decide +kernel
theorem dX4_copy_30 : decode cX4_copy 30 = .ok (.goto (-27), 3) := by decide +kernel
theorem dX4_copy_33 : decode cX4_copy 33 = .ok (.return_, 1) := by decide +kernel
theorem dX4_begins_0 : decode cX4_begins 0 = .ok (.iconst 0, 1) := by decide +kernel
theorem dX4_begins_1 : decode cX4_begins 1 = .ok (.istore_n 3, 1) := by decide +kernel
theorem dX4_begins_2 : decode cX4_begins 2 = .ok (.iload_n 3, 1) := by decide +kernel
theorem dX4_begins_3 : decode cX4_begins 3 = .ok (.sipush 147, 3) := by decide +kernel
theorem dX4_begins_6 : decode cX4_begins 6 = .ok (.if_icmp .ge 18, 3) := by decide +kernel
theorem dX4_begins_9 : decode cX4_begins 9 = .ok (.aload_n 0, 1) := by decide +kernel
theorem dX4_begins_10 : decode cX4_begins 10 = .ok (.getfield 7, 3) := by decide +kernel
theorem dX4_begins_13 : decode cX4_begins 13 = .ok (.iload_n 1, 1) := by decide +kernel
theorem dX4_begins_14 : decode cX4_begins 14 = .ok (.iload_n 3, 1) := by decide +kernel
theorem dX4_begins_15 : decode cX4_begins 15 = .ok (.iadd, 1) := by decide +kernel
theorem dX4_begins_16 : decode cX4_begins 16 = .ok (.iconst 0, 1) := by decide +kernel
theorem dX4_begins_17 : decode cX4_begins 17 = .ok (.iastore, 1) := by decide +kernel
theorem dX4_begins_18 : decode cX4_begins 18 = .ok (.iinc 3 1, 3) := by decide +kernel
theorem dX4_begins_21 : decode cX4_begins 21 = .ok (.goto (-19), 3) := by decide +kernel
theorem dX4_begins_24 : decode cX4_begins 24 = .ok (.aload_n 0, 1) := by decide +kernel
theorem dX4_begins_25 : decode cX4_begins 25 = .ok (.getfield 7, 3) := by decide +kernel
theorem dX4_begins_28 : decode cX4_begins 28 = .ok (.iload_n 1, 1) := by decide +kernel
theorem dX4_begins_29 : decode cX4_begins 29 = .ok (.iconst 0, 1) := by decide +kernel
theorem dX4_begins_30 : decode cX4_begins 30 = .ok (.iadd, 1) := by decide +kernel
theorem dX4_begins_31 : decode cX4_begins 31 = .ok (.iload_n 2, 1) := by decide +kernel
theorem dX4_begins_32 : decode cX4_begins 32 = .ok (.iastore, 1) := by decide +kernel
theorem dX4_begins_33 : decode cX4_begins 33 = .ok (.iconst 0, 1) := by decide +kernel
theorem dX4_begins_34 : decode cX4_begins 34 = .ok (.istore_n 3, 1) := by decide +kernel
theorem dX4_begins_35 : decode cX4_begins 35 = .ok (.iload_n 3, 1) := by decide +kernel
theorem dX4_begins_36 : decode cX4_begins 36 = .ok (.bipush 9, 2) := by decide +kernel
theorem dX4_begins_38 : decode cX4_begins 38 = .ok (.if_icmp .ge 21, 3) := by decide +kernel
theorem dX4_begins_41 : decode cX4_begins 41 = .ok (.aload_n 0, 1) := by decide +kernel
theorem dX4_begins_42 : decode cX4_begins 42 = .ok (.getfield 7, 3) := by decide +kernel
theorem dX4_begins_45 : decode cX4_begins 45 = .ok (.iload_n 1, 1) := by decide +kernel
theorem dX4_begins_46 : decode cX4_begins 46 = .ok (.bipush 118, 2) := by decide +kernel
theorem dX4_begins_48 : decode cX4_begins 48 = .ok (.iadd, 1) := by decide +kernel
theorem dX4_begins_49 : decode cX4_begins 49 = .ok (.iload_n 3, 1) := by decide +kernel
theorem dX4_begins_50 : decode cX4_begins 50 = .ok (.iadd, 1) := by decide +kernel
theorem dX4_begins_51 : decode cX4_begins 51 = .ok (.iconst 1, 1) := by decide +kernel
theorem dX4_begins_52 : decode cX4_begins 52 = .ok (.iastore, 1) := by decide +kernel
theorem dX4_begins_53 : decode cX4_begins 53 = .ok (.iinc 3 1, 3) := by decide +kernel
theorem dX4_begins_56 : decode cX4_begins 56 = .ok (.goto (-21), 3) := by decide +kernel
theorem dX4_begins_59 : decode cX4_begins 59 = .ok (.return_, 1) := by decide +kernel
theorem dX4_isCell_0 : decode cX4_isCell 0 = .ok (.iload_n 0, 1) := by decide +kernel
theorem dX4_isCell_1 : decode cX4_isCell 1 = .ok (.i2l, 1) := by decide +kernel
theorem dX4_isCell_2 : decode cX4_isCell 2 = .ok (.lconst 0, 1) := by decide +kernel
theorem dX4_isCell_3 : decode cX4_isCell 3 = .ok (.ldc2_w 43, 3) := by decide +kernel
theorem dX4_isCell_6 : decode cX4_isCell 6 = .ok (.invokestatic 45, 3) := by decide +kernel
theorem dX4_isCell_9 : decode cX4_isCell 9 = .ok (.ireturn, 1) := by decide +kernel
theorem dX4_isDarn_0 : decode cX4_isDarn 0 = .ok (.iload_n 0, 1) := by decide +kernel
theorem dX4_isDarn_1 : decode cX4_isDarn 1 = .ok (.invokestatic 49, 3) := by decide +kernel
theorem dX4_isDarn_4 : decode cX4_isDarn 4 = .ok (.ifCond .eq 43, 3) := by decide +kernel
theorem dX4_isDarn_7 : decode cX4_isDarn 7 = .ok (.iload_n 1, 1) := by decide +kernel
theorem dX4_isDarn_8 : decode cX4_isDarn 8 = .ok (.i2l, 1) := by decide +kernel
theorem dX4_isDarn_9 : decode cX4_isDarn 9 = .ok (.lconst 0, 1) := by decide +kernel
theorem dX4_isDarn_10 : decode cX4_isDarn 10 = .ok (.ldc2_w 53, 3) := by decide +kernel
theorem dX4_isDarn_13 : decode cX4_isDarn 13 = .ok (.invokestatic 45, 3) := by decide +kernel
theorem dX4_isDarn_16 : decode cX4_isDarn 16 = .ok (.ifCond .eq 31, 3) := by decide +kernel
theorem dX4_isDarn_19 : decode cX4_isDarn 19 = .ok (.iload_n 2, 1) := by decide +kernel
theorem dX4_isDarn_20 : decode cX4_isDarn 20 = .ok (.i2l, 1) := by decide +kernel
theorem dX4_isDarn_21 : decode cX4_isDarn 21 = .ok (.lconst 0, 1) := by decide +kernel
theorem dX4_isDarn_22 : decode cX4_isDarn 22 = .ok (.ldc2_w 55, 3) := by decide +kernel
theorem dX4_isDarn_25 : decode cX4_isDarn 25 = .ok (.invokestatic 45, 3) := by decide +kernel
theorem dX4_isDarn_28 : decode cX4_isDarn 28 = .ok (.ifCond .eq 19, 3) := by decide +kernel
theorem dX4_isDarn_31 : decode cX4_isDarn 31 = .ok (.iload_n 3, 1) := by decide +kernel
theorem dX4_isDarn_32 : decode cX4_isDarn 32 = .ok (.i2l, 1) := by decide +kernel
theorem dX4_isDarn_33 : decode cX4_isDarn 33 = .ok (.lconst 1, 1) := by decide +kernel
theorem dX4_isDarn_34 : decode cX4_isDarn 34 = .ok (.ldc2_w 57, 3) := by decide +kernel
theorem dX4_isDarn_37 : decode cX4_isDarn 37 = .ok (.invokestatic 45, 3) := by decide +kernel
theorem dX4_isDarn_40 : decode cX4_isDarn 40 = .ok (.ifCond .eq 7, 3) := by decide +kernel
theorem dX4_isDarn_43 : decode cX4_isDarn 43 = .ok (.iconst 1, 1) := by decide +kernel
theorem dX4_isDarn_44 : decode cX4_isDarn 44 = .ok (.goto 4, 3) := by decide +kernel
theorem dX4_isDarn_47 : decode cX4_isDarn 47 = .ok (.iconst 0, 1) := by decide +kernel
theorem dX4_isDarn_48 : decode cX4_isDarn 48 = .ok (.ireturn, 1) := by decide +kernel
theorem dX4_placeOf_0 : decode cX4_placeOf 0 = .ok (.bipush 10, 2) := by decide +kernel
theorem dX4_placeOf_2 : decode cX4_placeOf 2 = .ok (.bipush 12, 2) := by decide +kernel
theorem dX4_placeOf_4 : decode cX4_placeOf 4 = .ok (.iload_n 0, 1) := by decide +kernel
theorem dX4_placeOf_5 : decode cX4_placeOf 5 = .ok (.imul, 1) := by decide +kernel
theorem dX4_placeOf_6 : decode cX4_placeOf 6 = .ok (.iadd, 1) := by decide +kernel
theorem dX4_placeOf_7 : decode cX4_placeOf 7 = .ok (.iconst 4, 1) := by decide +kernel
theorem dX4_placeOf_8 : decode cX4_placeOf 8 = .ok (.iload_n 1, 1) := by decide +kernel
theorem dX4_placeOf_9 : decode cX4_placeOf 9 = .ok (.imul, 1) := by decide +kernel
theorem dX4_placeOf_10 : decode cX4_placeOf 10 = .ok (.iadd, 1) := by decide +kernel
theorem dX4_placeOf_11 : decode cX4_placeOf 11 = .ok (.ireturn, 1) := by decide +kernel
theorem dX4_topOf_0 : decode cX4_topOf 0 = .ok (.aload_n 0, 1) := by decide +kernel
theorem dX4_topOf_1 : decode cX4_topOf 1 = .ok (.getfield 7, 3) := by decide +kernel
theorem dX4_topOf_4 : decode cX4_topOf 4 = .ok (.iload_n 1, 1) := by decide +kernel
theorem dX4_topOf_5 : decode cX4_topOf 5 = .ok (.iconst 1, 1) := by decide +kernel
theorem dX4_topOf_6 : decode cX4_topOf 6 = .ok (.iadd, 1) := by decide +kernel
theorem dX4_topOf_7 : decode cX4_topOf 7 = .ok (.iload_n 2, 1) := by decide +kernel
theorem dX4_topOf_8 : decode cX4_topOf 8 = .ok (.iadd, 1) := by decide +kernel
theorem dX4_topOf_9 : decode cX4_topOf 9 = .ok (.iaload, 1) := by decide +kernel
theorem dX4_topOf_10 : decode cX4_topOf 10 = .ok (.istore_n 3, 1) := by decide +kernel
theorem dX4_topOf_11 : decode cX4_topOf 11 = .ok (.iload_n 3, 1) := by decide +kernel
theorem dX4_topOf_12 : decode cX4_topOf 12 = .ok (.ifCond .ne 7, 3) := by decide +kernel
theorem dX4_topOf_15 : decode cX4_topOf 15 = .ok (.iconst (-1), 1) := by decide +kernel
theorem dX4_topOf_16 : decode cX4_topOf 16 = .ok (.goto 12, 3) := by decide +kernel
theorem dX4_topOf_19 : decode cX4_topOf 19 = .ok (.iload_n 1, 1) := by decide +kernel
theorem dX4_topOf_20 : decode cX4_topOf 20 = .ok (.iload_n 2, 1) := by decide +kernel
theorem dX4_topOf_21 : decode cX4_topOf 21 = .ok (.iload_n 3, 1) := by decide +kernel
theorem dX4_topOf_22 : decode cX4_topOf 22 = .ok (.iconst 1, 1) := by decide +kernel
theorem dX4_topOf_23 : decode cX4_topOf 23 = .ok (.isub, 1) := by decide +kernel
theorem dX4_topOf_24 : decode cX4_topOf 24 = .ok (.invokestatic 59, 3) := by decide +kernel
theorem dX4_topOf_27 : decode cX4_topOf 27 = .ok (.iadd, 1) := by decide +kernel
theorem dX4_topOf_28 : decode cX4_topOf 28 = .ok (.ireturn, 1) := by decide +kernel
theorem dX4_puts_0 : decode cX4_puts 0 = .ok (.iload_n 1, 1) := by decide +kernel
theorem dX4_puts_1 : decode cX4_puts 1 = .ok (.iload_n 2, 1) := by decide +kernel
theorem dX4_puts_2 : decode cX4_puts 2 = .ok (.aload_n 0, 1) := by decide +kernel
theorem dX4_puts_3 : decode cX4_puts 3 = .ok (.getfield 7, 3) := by decide +kernel
theorem dX4_puts_6 : decode cX4_puts 6 = .ok (.iload_n 1, 1) := by decide +kernel
theorem dX4_puts_7 : decode cX4_puts 7 = .ok (.iconst 1, 1) := by decide +kernel
theorem dX4_puts_8 : decode cX4_puts 8 = .ok (.iadd, 1) := by decide +kernel
theorem dX4_puts_9 : decode cX4_puts 9 = .ok (.iload_n 2, 1) := by decide +kernel
theorem dX4_puts_10 : decode cX4_puts 10 = .ok (.iadd, 1) := by decide +kernel
theorem dX4_puts_11 : decode cX4_puts 11 = .ok (.iaload, 1) := by decide +kernel
theorem dX4_puts_12 : decode cX4_puts 12 = .ok (.invokestatic 59, 3) := by decide +kernel
theorem dX4_puts_15 : decode cX4_puts 15 = .ok (.iadd, 1) := by decide +kernel
theorem dX4_puts_16 : decode cX4_puts 16 = .ok (.istore 6, 2) := by decide +kernel
theorem dX4_puts_18 : decode cX4_puts 18 = .ok (.aload_n 0, 1) := by decide +kernel
theorem dX4_puts_19 : decode cX4_puts 19 = .ok (.getfield 7, 3) := by decide +kernel
theorem dX4_puts_22 : decode cX4_puts 22 = .ok (.iload 6, 2) := by decide +kernel
theorem dX4_puts_24 : decode cX4_puts 24 = .ok (.iload_n 3, 1) := by decide +kernel
theorem dX4_puts_25 : decode cX4_puts 25 = .ok (.iastore, 1) := by decide +kernel
theorem dX4_puts_26 : decode cX4_puts 26 = .ok (.aload_n 0, 1) := by decide +kernel
theorem dX4_puts_27 : decode cX4_puts 27 = .ok (.getfield 7, 3) := by decide +kernel
theorem dX4_puts_30 : decode cX4_puts 30 = .ok (.iload 6, 2) := by decide +kernel
theorem dX4_puts_32 : decode cX4_puts 32 = .ok (.iconst 1, 1) := by decide +kernel
theorem dX4_puts_33 : decode cX4_puts 33 = .ok (.iadd, 1) := by decide +kernel
theorem dX4_puts_34 : decode cX4_puts 34 = .ok (.iload 4, 2) := by decide +kernel
theorem dX4_puts_36 : decode cX4_puts 36 = .ok (.iastore, 1) := by decide +kernel
theorem dX4_puts_37 : decode cX4_puts 37 = .ok (.aload_n 0, 1) := by decide +kernel
theorem dX4_puts_38 : decode cX4_puts 38 = .ok (.getfield 7, 3) := by decide +kernel
theorem dX4_puts_41 : decode cX4_puts 41 = .ok (.iload 6, 2) := by decide +kernel
theorem dX4_puts_43 : decode cX4_puts 43 = .ok (.iconst 2, 1) := by decide +kernel
theorem dX4_puts_44 : decode cX4_puts 44 = .ok (.iadd, 1) := by decide +kernel
theorem dX4_puts_45 : decode cX4_puts 45 = .ok (.iload 5, 2) := by decide +kernel
theorem dX4_puts_47 : decode cX4_puts 47 = .ok (.iastore, 1) := by decide +kernel
theorem dX4_puts_48 : decode cX4_puts 48 = .ok (.aload_n 0, 1) := by decide +kernel
theorem dX4_puts_49 : decode cX4_puts 49 = .ok (.getfield 7, 3) := by decide +kernel
theorem dX4_puts_52 : decode cX4_puts 52 = .ok (.iload 6, 2) := by decide +kernel
theorem dX4_puts_54 : decode cX4_puts 54 = .ok (.iconst 3, 1) := by decide +kernel
theorem dX4_puts_55 : decode cX4_puts 55 = .ok (.iadd, 1) := by decide +kernel
theorem dX4_puts_56 : decode cX4_puts 56 = .ok (.aload_n 0, 1) := by decide +kernel
theorem dX4_puts_57 : decode cX4_puts 57 = .ok (.getfield 7, 3) := by decide +kernel
theorem dX4_puts_60 : decode cX4_puts 60 = .ok (.iload_n 1, 1) := by decide +kernel
theorem dX4_puts_61 : decode cX4_puts 61 = .ok (.iconst 0, 1) := by decide +kernel
theorem dX4_puts_62 : decode cX4_puts 62 = .ok (.iadd, 1) := by decide +kernel
theorem dX4_puts_63 : decode cX4_puts 63 = .ok (.iaload, 1) := by decide +kernel
theorem dX4_puts_64 : decode cX4_puts 64 = .ok (.iastore, 1) := by decide +kernel
theorem dX4_puts_65 : decode cX4_puts 65 = .ok (.aload_n 0, 1) := by decide +kernel
theorem dX4_puts_66 : decode cX4_puts 66 = .ok (.getfield 7, 3) := by decide +kernel
theorem dX4_puts_69 : decode cX4_puts 69 = .ok (.iload_n 1, 1) := by decide +kernel
theorem dX4_puts_70 : decode cX4_puts 70 = .ok (.iconst 1, 1) := by decide +kernel
theorem dX4_puts_71 : decode cX4_puts 71 = .ok (.iadd, 1) := by decide +kernel
theorem dX4_puts_72 : decode cX4_puts 72 = .ok (.iload_n 2, 1) := by decide +kernel
theorem dX4_puts_73 : decode cX4_puts 73 = .ok (.iadd, 1) := by decide +kernel
theorem dX4_puts_74 : decode cX4_puts 74 = .ok (.dup2, 1) := by decide +kernel
theorem dX4_puts_75 : decode cX4_puts 75 = .ok (.iaload, 1) := by decide +kernel
theorem dX4_puts_76 : decode cX4_puts 76 = .ok (.iconst 1, 1) := by decide +kernel
theorem dX4_puts_77 : decode cX4_puts 77 = .ok (.iadd, 1) := by decide +kernel
theorem dX4_puts_78 : decode cX4_puts 78 = .ok (.iastore, 1) := by decide +kernel
theorem dX4_puts_79 : decode cX4_puts 79 = .ok (.return_, 1) := by decide +kernel
theorem dX4_darnsIn_0 : decode cX4_darnsIn 0 = .ok (.iconst 0, 1) := by decide +kernel
theorem dX4_darnsIn_1 : decode cX4_darnsIn 1 = .ok (.istore_n 2, 1) := by decide +kernel
theorem dX4_darnsIn_2 : decode cX4_darnsIn 2 = .ok (.iconst 0, 1) := by decide +kernel
theorem dX4_darnsIn_3 : decode cX4_darnsIn 3 = .ok (.istore_n 3, 1) := by decide +kernel
theorem dX4_darnsIn_4 : decode cX4_darnsIn 4 = .ok (.iload_n 3, 1) := by decide +kernel
theorem dX4_darnsIn_5 : decode cX4_darnsIn 5 = .ok (.bipush 9, 2) := by decide +kernel
theorem dX4_darnsIn_7 : decode cX4_darnsIn 7 = .ok (.if_icmp .ge 22, 3) := by decide +kernel
theorem dX4_darnsIn_10 : decode cX4_darnsIn 10 = .ok (.iload_n 2, 1) := by decide +kernel
theorem dX4_darnsIn_11 : decode cX4_darnsIn 11 = .ok (.aload_n 0, 1) := by decide +kernel
theorem dX4_darnsIn_12 : decode cX4_darnsIn 12 = .ok (.getfield 7, 3) := by decide +kernel
theorem dX4_darnsIn_15 : decode cX4_darnsIn 15 = .ok (.iload_n 1, 1) := by decide +kernel
theorem dX4_darnsIn_16 : decode cX4_darnsIn 16 = .ok (.iconst 1, 1) := by decide +kernel
theorem dX4_darnsIn_17 : decode cX4_darnsIn 17 = .ok (.iadd, 1) := by decide +kernel
theorem dX4_darnsIn_18 : decode cX4_darnsIn 18 = .ok (.iload_n 3, 1) := by decide +kernel
theorem dX4_darnsIn_19 : decode cX4_darnsIn 19 = .ok (.iadd, 1) := by decide +kernel
theorem dX4_darnsIn_20 : decode cX4_darnsIn 20 = .ok (.iaload, 1) := by decide +kernel
theorem dX4_darnsIn_21 : decode cX4_darnsIn 21 = .ok (.iadd, 1) := by decide +kernel
theorem dX4_darnsIn_22 : decode cX4_darnsIn 22 = .ok (.istore_n 2, 1) := by decide +kernel
theorem dX4_darnsIn_23 : decode cX4_darnsIn 23 = .ok (.iinc 3 1, 3) := by decide +kernel
theorem dX4_darnsIn_26 : decode cX4_darnsIn 26 = .ok (.goto (-22), 3) := by decide +kernel
theorem dX4_darnsIn_29 : decode cX4_darnsIn 29 = .ok (.iload_n 2, 1) := by decide +kernel
theorem dX4_darnsIn_30 : decode cX4_darnsIn 30 = .ok (.ireturn, 1) := by decide +kernel
theorem dX4_holesIn_0 : decode cX4_holesIn 0 = .ok (.iconst 0, 1) := by decide +kernel
theorem dX4_holesIn_1 : decode cX4_holesIn 1 = .ok (.istore_n 2, 1) := by decide +kernel
theorem dX4_holesIn_2 : decode cX4_holesIn 2 = .ok (.iconst 0, 1) := by decide +kernel
theorem dX4_holesIn_3 : decode cX4_holesIn 3 = .ok (.istore_n 3, 1) := by decide +kernel
theorem dX4_holesIn_4 : decode cX4_holesIn 4 = .ok (.iload_n 3, 1) := by decide +kernel
theorem dX4_holesIn_5 : decode cX4_holesIn 5 = .ok (.bipush 9, 2) := by decide +kernel
theorem dX4_holesIn_7 : decode cX4_holesIn 7 = .ok (.if_icmp .ge 32, 3) := by decide +kernel
theorem dX4_holesIn_10 : decode cX4_holesIn 10 = .ok (.iload_n 2, 1) := by decide +kernel
theorem dX4_holesIn_11 : decode cX4_holesIn 11 = .ok (.aload_n 0, 1) := by decide +kernel
theorem dX4_holesIn_12 : decode cX4_holesIn 12 = .ok (.getfield 7, 3) := by decide +kernel
theorem dX4_holesIn_15 : decode cX4_holesIn 15 = .ok (.iload_n 1, 1) := by decide +kernel
theorem dX4_holesIn_16 : decode cX4_holesIn 16 = .ok (.iconst 1, 1) := by decide +kernel
theorem dX4_holesIn_17 : decode cX4_holesIn 17 = .ok (.iadd, 1) := by decide +kernel
theorem dX4_holesIn_18 : decode cX4_holesIn 18 = .ok (.iload_n 3, 1) := by decide +kernel
theorem dX4_holesIn_19 : decode cX4_holesIn 19 = .ok (.iadd, 1) := by decide +kernel
theorem dX4_holesIn_20 : decode cX4_holesIn 20 = .ok (.iaload, 1) := by decide +kernel
theorem dX4_holesIn_21 : decode cX4_holesIn 21 = .ok (.ifCond .ne 9, 3) := by decide +kernel
theorem dX4_holesIn_24 : decode cX4_holesIn 24 = .ok (.iconst 1, 1) := by decide +kernel
theorem dX4_holesIn_25 : decode cX4_holesIn 25 = .ok (.iload_n 3, 1) := by decide +kernel
theorem dX4_holesIn_26 : decode cX4_holesIn 26 = .ok (.ishl, 1) := by decide +kernel
theorem dX4_holesIn_27 : decode cX4_holesIn 27 = .ok (.goto 4, 3) := by decide +kernel
theorem dX4_holesIn_30 : decode cX4_holesIn 30 = .ok (.iconst 0, 1) := by decide +kernel
theorem dX4_holesIn_31 : decode cX4_holesIn 31 = .ok (.ior, 1) := by decide +kernel
theorem dX4_holesIn_32 : decode cX4_holesIn 32 = .ok (.istore_n 2, 1) := by decide +kernel
theorem dX4_holesIn_33 : decode cX4_holesIn 33 = .ok (.iinc 3 1, 3) := by decide +kernel
theorem dX4_holesIn_36 : decode cX4_holesIn 36 = .ok (.goto (-32), 3) := by decide +kernel
theorem dX4_holesIn_39 : decode cX4_holesIn 39 = .ok (.iload_n 2, 1) := by decide +kernel
theorem dX4_holesIn_40 : decode cX4_holesIn 40 = .ok (.ireturn, 1) := by decide +kernel
theorem dX4_ones_0 : decode cX4_ones 0 = .ok (.iconst 0, 1) := by decide +kernel
theorem dX4_ones_1 : decode cX4_ones 1 = .ok (.istore_n 1, 1) := by decide +kernel
theorem dX4_ones_2 : decode cX4_ones 2 = .ok (.iconst 0, 1) := by decide +kernel
theorem dX4_ones_3 : decode cX4_ones 3 = .ok (.istore_n 2, 1) := by decide +kernel
theorem dX4_ones_4 : decode cX4_ones 4 = .ok (.iload_n 2, 1) := by decide +kernel
theorem dX4_ones_5 : decode cX4_ones 5 = .ok (.bipush 9, 2) := by decide +kernel
theorem dX4_ones_7 : decode cX4_ones 7 = .ok (.if_icmp .ge 17, 3) := by decide +kernel
theorem dX4_ones_10 : decode cX4_ones 10 = .ok (.iload_n 1, 1) := by decide +kernel
theorem dX4_ones_11 : decode cX4_ones 11 = .ok (.iload_n 0, 1) := by decide +kernel
theorem dX4_ones_12 : decode cX4_ones 12 = .ok (.iload_n 2, 1) := by decide +kernel
theorem dX4_ones_13 : decode cX4_ones 13 = .ok (.ishr, 1) := by decide +kernel
theorem dX4_ones_14 : decode cX4_ones 14 = .ok (.iconst 1, 1) := by decide +kernel
theorem dX4_ones_15 : decode cX4_ones 15 = .ok (.iand, 1) := by decide +kernel
theorem dX4_ones_16 : decode cX4_ones 16 = .ok (.iadd, 1) := by decide +kernel
theorem dX4_ones_17 : decode cX4_ones 17 = .ok (.istore_n 1, 1) := by decide +kernel
theorem dX4_ones_18 : decode cX4_ones 18 = .ok (.iinc 2 1, 3) := by decide +kernel
theorem dX4_ones_21 : decode cX4_ones 21 = .ok (.goto (-17), 3) := by decide +kernel
theorem dX4_ones_24 : decode cX4_ones 24 = .ok (.iload_n 1, 1) := by decide +kernel
theorem dX4_ones_25 : decode cX4_ones 25 = .ok (.ireturn, 1) := by decide +kernel
theorem dX4_sock_0 : decode cX4_sock 0 = .ok (.iload_n 1, 1) := by decide +kernel
theorem dX4_sock_1 : decode cX4_sock 1 = .ok (.i2l, 1) := by decide +kernel
theorem dX4_sock_2 : decode cX4_sock 2 = .ok (.lconst 0, 1) := by decide +kernel
theorem dX4_sock_3 : decode cX4_sock 3 = .ok (.ldc2_w 63, 3) := by decide +kernel
theorem dX4_sock_6 : decode cX4_sock 6 = .ok (.invokestatic 45, 3) := by decide +kernel
theorem dX4_sock_9 : decode cX4_sock 9 = .ok (.ifCond .ne 8, 3) := by decide +kernel
theorem dX4_sock_12 : decode cX4_sock 12 = .ok (.aload_n 0, 1) := by decide +kernel
theorem dX4_sock_13 : decode cX4_sock 13 = .ok (.invokevirtual 65, 3) := by decide +kernel
theorem dX4_sock_16 : decode cX4_sock 16 = .ok (.ireturn, 1) := by decide +kernel
theorem dX4_sock_17 : decode cX4_sock 17 = .ok (.aload_n 0, 1) := by decide +kernel
theorem dX4_sock_18 : decode cX4_sock 18 = .ok (.iconst 0, 1) := by decide +kernel
theorem dX4_sock_19 : decode cX4_sock 19 = .ok (.invokevirtual 69, 3) := by decide +kernel
theorem dX4_sock_22 : decode cX4_sock 22 = .ok (.istore_n 2, 1) := by decide +kernel
theorem dX4_sock_23 : decode cX4_sock 23 = .ok (.aload_n 0, 1) := by decide +kernel
theorem dX4_sock_24 : decode cX4_sock 24 = .ok (.iconst 0, 1) := by decide +kernel
theorem dX4_sock_25 : decode cX4_sock 25 = .ok (.iload_n 1, 1) := by decide +kernel
theorem dX4_sock_26 : decode cX4_sock 26 = .ok (.invokevirtual 39, 3) := by decide +kernel
theorem dX4_sock_29 : decode cX4_sock 29 = .ok (.iload_n 2, 1) := by decide +kernel
theorem dX4_sock_30 : decode cX4_sock 30 = .ok (.ireturn, 1) := by decide +kernel
theorem dX4_wear_0 : decode cX4_wear 0 = .ok (.iload_n 1, 1) := by decide +kernel
theorem dX4_wear_1 : decode cX4_wear 1 = .ok (.invokestatic 49, 3) := by decide +kernel
theorem dX4_wear_4 : decode cX4_wear 4 = .ok (.ifCond .eq 15, 3) := by decide +kernel
theorem dX4_wear_7 : decode cX4_wear 7 = .ok (.iload_n 2, 1) := by decide +kernel
theorem dX4_wear_8 : decode cX4_wear 8 = .ok (.i2l, 1) := by decide +kernel
theorem dX4_wear_9 : decode cX4_wear 9 = .ok (.lconst 0, 1) := by decide +kernel
theorem dX4_wear_10 : decode cX4_wear 10 = .ok (.ldc2_w 53, 3) := by decide +kernel
theorem dX4_wear_13 : decode cX4_wear 13 = .ok (.invokestatic 45, 3) := by decide +kernel
theorem dX4_wear_16 : decode cX4_wear 16 = .ok (.ifCond .ne 8, 3) := by decide +kernel
theorem dX4_wear_19 : decode cX4_wear 19 = .ok (.aload_n 0, 1) := by decide +kernel
theorem dX4_wear_20 : decode cX4_wear 20 = .ok (.invokevirtual 65, 3) := by decide +kernel
theorem dX4_wear_23 : decode cX4_wear 23 = .ok (.ireturn, 1) := by decide +kernel
theorem dX4_wear_24 : decode cX4_wear 24 = .ok (.aload_n 0, 1) := by decide +kernel
theorem dX4_wear_25 : decode cX4_wear 25 = .ok (.getfield 7, 3) := by decide +kernel
theorem dX4_wear_28 : decode cX4_wear 28 = .ok (.bipush 118, 2) := by decide +kernel
theorem dX4_wear_30 : decode cX4_wear 30 = .ok (.iload_n 1, 1) := by decide +kernel
theorem dX4_wear_31 : decode cX4_wear 31 = .ok (.iadd, 1) := by decide +kernel
theorem dX4_wear_32 : decode cX4_wear 32 = .ok (.iaload, 1) := by decide +kernel
theorem dX4_wear_33 : decode cX4_wear 33 = .ok (.istore_n 3, 1) := by decide +kernel
theorem dX4_wear_34 : decode cX4_wear 34 = .ok (.aload_n 0, 1) := by decide +kernel
theorem dX4_wear_35 : decode cX4_wear 35 = .ok (.getfield 7, 3) := by decide +kernel
theorem dX4_wear_38 : decode cX4_wear 38 = .ok (.bipush 118, 2) := by decide +kernel
theorem dX4_wear_40 : decode cX4_wear 40 = .ok (.iload_n 1, 1) := by decide +kernel
theorem dX4_wear_41 : decode cX4_wear 41 = .ok (.iadd, 1) := by decide +kernel
theorem dX4_wear_42 : decode cX4_wear 42 = .ok (.iload_n 2, 1) := by decide +kernel
theorem dX4_wear_43 : decode cX4_wear 43 = .ok (.iastore, 1) := by decide +kernel
theorem dX4_wear_44 : decode cX4_wear 44 = .ok (.iload_n 3, 1) := by decide +kernel
theorem dX4_wear_45 : decode cX4_wear 45 = .ok (.ireturn, 1) := by decide +kernel
theorem dX4_minds_0 : decode cX4_minds 0 = .ok (.aload_n 0, 1) := by decide +kernel
theorem dX4_minds_1 : decode cX4_minds 1 = .ok (.getfield 7, 3) := by decide +kernel
theorem dX4_minds_4 : decode cX4_minds 4 = .ok (.sipush 146, 3) := by decide +kernel
theorem dX4_minds_7 : decode cX4_minds 7 = .ok (.iaload, 1) := by decide +kernel
theorem dX4_minds_8 : decode cX4_minds 8 = .ok (.bipush 8, 2) := by decide +kernel
theorem dX4_minds_10 : decode cX4_minds 10 = .ok (.if_icmp .ne 28, 3) := by decide +kernel
theorem dX4_minds_13 : decode cX4_minds 13 = .ok (.aload_n 0, 1) := by decide +kernel
theorem dX4_minds_14 : decode cX4_minds 14 = .ok (.sipush 265, 3) := by decide +kernel
theorem dX4_minds_17 : decode cX4_minds 17 = .ok (.sipush 147, 3) := by decide +kernel
theorem dX4_minds_20 : decode cX4_minds 20 = .ok (.sipush 826, 3) := by decide +kernel
theorem dX4_minds_23 : decode cX4_minds 23 = .ok (.invokevirtual 73, 3) := by decide +kernel
theorem dX4_minds_26 : decode cX4_minds 26 = .ok (.aload_n 0, 1) := by decide +kernel
theorem dX4_minds_27 : decode cX4_minds 27 = .ok (.getfield 7, 3) := by decide +kernel
theorem dX4_minds_30 : decode cX4_minds 30 = .ok (.sipush 146, 3) := by decide +kernel
theorem dX4_minds_33 : decode cX4_minds 33 = .ok (.dup2, 1) := by decide +kernel
theorem dX4_minds_34 : decode cX4_minds 34 = .ok (.iaload, 1) := by decide +kernel
theorem dX4_minds_35 : decode cX4_minds 35 = .ok (.iconst 1, 1) := by decide +kernel
theorem dX4_minds_36 : decode cX4_minds 36 = .ok (.isub, 1) := by decide +kernel
theorem dX4_minds_37 : decode cX4_minds 37 = .ok (.iastore, 1) := by decide +kernel
theorem dX4_minds_38 : decode cX4_minds 38 = .ok (.aload_n 0, 1) := by decide +kernel
theorem dX4_minds_39 : decode cX4_minds 39 = .ok (.iconst 0, 1) := by decide +kernel
theorem dX4_minds_40 : decode cX4_minds 40 = .ok (.sipush 147, 3) := by decide +kernel
theorem dX4_minds_43 : decode cX4_minds 43 = .ok (.bipush 118, 2) := by decide +kernel
theorem dX4_minds_45 : decode cX4_minds 45 = .ok (.aload_n 0, 1) := by decide +kernel
theorem dX4_minds_46 : decode cX4_minds 46 = .ok (.getfield 7, 3) := by decide +kernel
theorem dX4_minds_49 : decode cX4_minds 49 = .ok (.sipush 146, 3) := by decide +kernel
theorem dX4_minds_52 : decode cX4_minds 52 = .ok (.iaload, 1) := by decide +kernel
theorem dX4_minds_53 : decode cX4_minds 53 = .ok (.imul, 1) := by decide +kernel
theorem dX4_minds_54 : decode cX4_minds 54 = .ok (.iadd, 1) := by decide +kernel
theorem dX4_minds_55 : decode cX4_minds 55 = .ok (.bipush 118, 2) := by decide +kernel
theorem dX4_minds_57 : decode cX4_minds 57 = .ok (.invokevirtual 73, 3) := by decide +kernel
theorem dX4_minds_60 : decode cX4_minds 60 = .ok (.aload_n 0, 1) := by decide +kernel
theorem dX4_minds_61 : decode cX4_minds 61 = .ok (.getfield 7, 3) := by decide +kernel
theorem dX4_minds_64 : decode cX4_minds 64 = .ok (.sipush 146, 3) := by decide +kernel
theorem dX4_minds_67 : decode cX4_minds 67 = .ok (.dup2, 1) := by decide +kernel
theorem dX4_minds_68 : decode cX4_minds 68 = .ok (.iaload, 1) := by decide +kernel
theorem dX4_minds_69 : decode cX4_minds 69 = .ok (.iconst 1, 1) := by decide +kernel
theorem dX4_minds_70 : decode cX4_minds 70 = .ok (.iadd, 1) := by decide +kernel
theorem dX4_minds_71 : decode cX4_minds 71 = .ok (.iastore, 1) := by decide +kernel
theorem dX4_minds_72 : decode cX4_minds 72 = .ok (.return_, 1) := by decide +kernel
theorem dX4_darn_0 : decode cX4_darn 0 = .ok (.iload_n 1, 1) := by decide +kernel
theorem dX4_darn_1 : decode cX4_darn 1 = .ok (.iload_n 2, 1) := by decide +kernel
theorem dX4_darn_2 : decode cX4_darn 2 = .ok (.iload_n 3, 1) := by decide +kernel
theorem dX4_darn_3 : decode cX4_darn 3 = .ok (.iload 4, 2) := by decide +kernel
theorem dX4_darn_5 : decode cX4_darn 5 = .ok (.invokestatic 77, 3) := by decide +kernel
theorem dX4_darn_8 : decode cX4_darn 8 = .ok (.ifCond .ne 8, 3) := by decide +kernel
theorem dX4_darn_11 : decode cX4_darn 11 = .ok (.aload_n 0, 1) := by decide +kernel
theorem dX4_darn_12 : decode cX4_darn 12 = .ok (.invokevirtual 65, 3) := by decide +kernel
theorem dX4_darn_15 : decode cX4_darn 15 = .ok (.ireturn, 1) := by decide +kernel
theorem dX4_darn_16 : decode cX4_darn 16 = .ok (.aload_n 0, 1) := by decide +kernel
theorem dX4_darn_17 : decode cX4_darn 17 = .ok (.getfield 7, 3) := by decide +kernel
theorem dX4_darn_20 : decode cX4_darn 20 = .ok (.iconst 1, 1) := by decide +kernel
theorem dX4_darn_21 : decode cX4_darn 21 = .ok (.iload_n 1, 1) := by decide +kernel
theorem dX4_darn_22 : decode cX4_darn 22 = .ok (.iadd, 1) := by decide +kernel
theorem dX4_darn_23 : decode cX4_darn 23 = .ok (.iaload, 1) := by decide +kernel
theorem dX4_darn_24 : decode cX4_darn 24 = .ok (.iconst 3, 1) := by decide +kernel
theorem dX4_darn_25 : decode cX4_darn 25 = .ok (.if_icmp .ne 8, 3) := by decide +kernel
theorem dX4_darn_28 : decode cX4_darn 28 = .ok (.aload_n 0, 1) := by decide +kernel
theorem dX4_darn_29 : decode cX4_darn 29 = .ok (.invokevirtual 81, 3) := by decide +kernel
theorem dX4_darn_32 : decode cX4_darn 32 = .ok (.ireturn, 1) := by decide +kernel
theorem dX4_darn_33 : decode cX4_darn 33 = .ok (.aload_n 0, 1) := by decide +kernel
theorem dX4_darn_34 : decode cX4_darn 34 = .ok (.invokevirtual 84, 3) := by decide +kernel
theorem dX4_darn_37 : decode cX4_darn 37 = .ok (.aload_n 0, 1) := by decide +kernel
theorem dX4_darn_38 : decode cX4_darn 38 = .ok (.iconst 0, 1) := by decide +kernel
theorem dX4_darn_39 : decode cX4_darn 39 = .ok (.iload_n 1, 1) := by decide +kernel
theorem dX4_darn_40 : decode cX4_darn 40 = .ok (.iload_n 2, 1) := by decide +kernel
theorem dX4_darn_41 : decode cX4_darn 41 = .ok (.iload_n 3, 1) := by decide +kernel
theorem dX4_darn_42 : decode cX4_darn 42 = .ok (.iload 4, 2) := by decide +kernel
theorem dX4_darn_44 : decode cX4_darn 44 = .ok (.invokevirtual 87, 3) := by decide +kernel
theorem dX4_darn_47 : decode cX4_darn 47 = .ok (.aload_n 0, 1) := by decide +kernel
theorem dX4_darn_48 : decode cX4_darn 48 = .ok (.getfield 7, 3) := by decide +kernel
theorem dX4_darn_51 : decode cX4_darn 51 = .ok (.iconst 1, 1) := by decide +kernel
theorem dX4_darn_52 : decode cX4_darn 52 = .ok (.iload_n 1, 1) := by decide +kernel
theorem dX4_darn_53 : decode cX4_darn 53 = .ok (.iadd, 1) := by decide +kernel
theorem dX4_darn_54 : decode cX4_darn 54 = .ok (.iaload, 1) := by decide +kernel
theorem dX4_darn_55 : decode cX4_darn 55 = .ok (.ireturn, 1) := by decide +kernel
theorem dX4_unpick_0 : decode cX4_unpick 0 = .ok (.iload_n 1, 1) := by decide +kernel
theorem dX4_unpick_1 : decode cX4_unpick 1 = .ok (.invokestatic 49, 3) := by decide +kernel
theorem dX4_unpick_4 : decode cX4_unpick 4 = .ok (.ifCond .ne 8, 3) := by decide +kernel
theorem dX4_unpick_7 : decode cX4_unpick 7 = .ok (.aload_n 0, 1) := by decide +kernel
theorem dX4_unpick_8 : decode cX4_unpick 8 = .ok (.invokevirtual 65, 3) := by decide +kernel
theorem dX4_unpick_11 : decode cX4_unpick 11 = .ok (.ireturn, 1) := by decide +kernel
theorem dX4_unpick_12 : decode cX4_unpick 12 = .ok (.aload_n 0, 1) := by decide +kernel
theorem dX4_unpick_13 : decode cX4_unpick 13 = .ok (.getfield 7, 3) := by decide +kernel
theorem dX4_unpick_16 : decode cX4_unpick 16 = .ok (.iconst 1, 1) := by decide +kernel
theorem dX4_unpick_17 : decode cX4_unpick 17 = .ok (.iload_n 1, 1) := by decide +kernel
theorem dX4_unpick_18 : decode cX4_unpick 18 = .ok (.iadd, 1) := by decide +kernel
theorem dX4_unpick_19 : decode cX4_unpick 19 = .ok (.iaload, 1) := by decide +kernel
theorem dX4_unpick_20 : decode cX4_unpick 20 = .ok (.ifCond .ne 8, 3) := by decide +kernel
theorem dX4_unpick_23 : decode cX4_unpick 23 = .ok (.aload_n 0, 1) := by decide +kernel
theorem dX4_unpick_24 : decode cX4_unpick 24 = .ok (.invokevirtual 91, 3) := by decide +kernel
theorem dX4_unpick_27 : decode cX4_unpick 27 = .ok (.ireturn, 1) := by decide +kernel
theorem dX4_unpick_28 : decode cX4_unpick 28 = .ok (.aload_n 0, 1) := by decide +kernel
theorem dX4_unpick_29 : decode cX4_unpick 29 = .ok (.invokevirtual 84, 3) := by decide +kernel
theorem dX4_unpick_32 : decode cX4_unpick 32 = .ok (.aload_n 0, 1) := by decide +kernel
theorem dX4_unpick_33 : decode cX4_unpick 33 = .ok (.getfield 7, 3) := by decide +kernel
theorem dX4_unpick_36 : decode cX4_unpick 36 = .ok (.aload_n 0, 1) := by decide +kernel
theorem dX4_unpick_37 : decode cX4_unpick 37 = .ok (.iconst 0, 1) := by decide +kernel
theorem dX4_unpick_38 : decode cX4_unpick 38 = .ok (.iload_n 1, 1) := by decide +kernel
theorem dX4_unpick_39 : decode cX4_unpick 39 = .ok (.invokevirtual 94, 3) := by decide +kernel
theorem dX4_unpick_42 : decode cX4_unpick 42 = .ok (.iconst 2, 1) := by decide +kernel
theorem dX4_unpick_43 : decode cX4_unpick 43 = .ok (.iadd, 1) := by decide +kernel
theorem dX4_unpick_44 : decode cX4_unpick 44 = .ok (.iaload, 1) := by decide +kernel
theorem dX4_unpick_45 : decode cX4_unpick 45 = .ok (.istore_n 2, 1) := by decide +kernel
theorem dX4_unpick_46 : decode cX4_unpick 46 = .ok (.aload_n 0, 1) := by decide +kernel
theorem dX4_unpick_47 : decode cX4_unpick 47 = .ok (.getfield 7, 3) := by decide +kernel
theorem dX4_unpick_50 : decode cX4_unpick 50 = .ok (.iconst 1, 1) := by decide +kernel
theorem dX4_unpick_51 : decode cX4_unpick 51 = .ok (.iload_n 1, 1) := by decide +kernel
theorem dX4_unpick_52 : decode cX4_unpick 52 = .ok (.iadd, 1) := by decide +kernel
theorem dX4_unpick_53 : decode cX4_unpick 53 = .ok (.dup2, 1) := by decide +kernel
theorem dX4_unpick_54 : decode cX4_unpick 54 = .ok (.iaload, 1) := by decide +kernel
theorem dX4_unpick_55 : decode cX4_unpick 55 = .ok (.iconst 1, 1) := by decide +kernel
theorem dX4_unpick_56 : decode cX4_unpick 56 = .ok (.isub, 1) := by decide +kernel
theorem dX4_unpick_57 : decode cX4_unpick 57 = .ok (.iastore, 1) := by decide +kernel
theorem dX4_unpick_58 : decode cX4_unpick 58 = .ok (.iload_n 2, 1) := by decide +kernel
theorem dX4_unpick_59 : decode cX4_unpick 59 = .ok (.ireturn, 1) := by decide +kernel
theorem dX4_loses_0 : decode cX4_loses 0 = .ok (.iload_n 0, 1) := by decide +kernel
theorem dX4_loses_1 : decode cX4_loses 1 = .ok (.tableswitch 59 1 4 #[31, 37, 31, 41], 31) := by decide +kernel
theorem dX4_loses_32 : decode cX4_loses 32 = .ok (.iload_n 1, 1) := by decide +kernel
theorem dX4_loses_33 : decode cX4_loses 33 = .ok (.iconst 1, 1) := by decide +kernel
theorem dX4_loses_34 : decode cX4_loses 34 = .ok (.iadd, 1) := by decide +kernel
theorem dX4_loses_35 : decode cX4_loses 35 = .ok (.iconst 2, 1) := by decide +kernel
theorem dX4_loses_36 : decode cX4_loses 36 = .ok (.idiv, 1) := by decide +kernel
theorem dX4_loses_37 : decode cX4_loses 37 = .ok (.ireturn, 1) := by decide +kernel
theorem dX4_loses_38 : decode cX4_loses 38 = .ok (.iload_n 1, 1) := by decide +kernel
theorem dX4_loses_39 : decode cX4_loses 39 = .ok (.iconst 1, 1) := by decide +kernel
theorem dX4_loses_40 : decode cX4_loses 40 = .ok (.iadd, 1) := by decide +kernel
theorem dX4_loses_41 : decode cX4_loses 41 = .ok (.ireturn, 1) := by decide +kernel
theorem dX4_loses_42 : decode cX4_loses 42 = .ok (.iload_n 2, 1) := by decide +kernel
theorem dX4_loses_43 : decode cX4_loses 43 = .ok (.iconst 3, 1) := by decide +kernel
theorem dX4_loses_44 : decode cX4_loses 44 = .ok (.irem, 1) := by decide +kernel
theorem dX4_loses_45 : decode cX4_loses 45 = .ok (.ifCond .ne 9, 3) := by decide +kernel
theorem dX4_loses_48 : decode cX4_loses 48 = .ok (.iload_n 1, 1) := by decide +kernel
theorem dX4_loses_49 : decode cX4_loses 49 = .ok (.iconst 1, 1) := by decide +kernel
theorem dX4_loses_50 : decode cX4_loses 50 = .ok (.iadd, 1) := by decide +kernel
theorem dX4_loses_51 : decode cX4_loses 51 = .ok (.goto 8, 3) := by decide +kernel
theorem dX4_loses_54 : decode cX4_loses 54 = .ok (.iconst 2, 1) := by decide +kernel
theorem dX4_loses_55 : decode cX4_loses 55 = .ok (.iload_n 1, 1) := by decide +kernel
theorem dX4_loses_56 : decode cX4_loses 56 = .ok (.iconst 1, 1) := by decide +kernel
theorem dX4_loses_57 : decode cX4_loses 57 = .ok (.iadd, 1) := by decide +kernel
theorem dX4_loses_58 : decode cX4_loses 58 = .ok (.imul, 1) := by decide +kernel
theorem dX4_loses_59 : decode cX4_loses 59 = .ok (.ireturn, 1) := by decide +kernel
theorem dX4_loses_60 : decode cX4_loses 60 = .ok (.iload_n 1, 1) := by decide +kernel
theorem dX4_loses_61 : decode cX4_loses 61 = .ok (.ireturn, 1) := by decide +kernel
theorem dX4_passes_0 : decode cX4_passes 0 = .ok (.iconst 0, 1) := by decide +kernel
theorem dX4_passes_1 : decode cX4_passes 1 = .ok (.istore_n 3, 1) := by decide +kernel
theorem dX4_passes_2 : decode cX4_passes 2 = .ok (.iload_n 3, 1) := by decide +kernel
theorem dX4_passes_3 : decode cX4_passes 3 = .ok (.bipush 9, 2) := by decide +kernel
theorem dX4_passes_5 : decode cX4_passes 5 = .ok (.if_icmp .ge 97, 3) := by decide +kernel
theorem dX4_passes_8 : decode cX4_passes 8 = .ok (.iload_n 2, 1) := by decide +kernel
theorem dX4_passes_9 : decode cX4_passes 9 = .ok (.ifCond .eq 93, 3) := by decide +kernel
theorem dX4_passes_12 : decode cX4_passes 12 = .ok (.aload_n 0, 1) := by decide +kernel
theorem dX4_passes_13 : decode cX4_passes 13 = .ok (.iload_n 1, 1) := by decide +kernel
theorem dX4_passes_14 : decode cX4_passes 14 = .ok (.iload_n 3, 1) := by decide +kernel
theorem dX4_passes_15 : decode cX4_passes 15 = .ok (.invokevirtual 94, 3) := by decide +kernel
theorem dX4_passes_18 : decode cX4_passes 18 = .ok (.istore 4, 2) := by decide +kernel
theorem dX4_passes_20 : decode cX4_passes 20 = .ok (.iload 4, 2) := by decide +kernel
theorem dX4_passes_22 : decode cX4_passes 22 = .ok (.ifCond .lt 74, 3) := by decide +kernel
theorem dX4_passes_25 : decode cX4_passes 25 = .ok (.aload_n 0, 1) := by decide +kernel
theorem dX4_passes_26 : decode cX4_passes 26 = .ok (.getfield 7, 3) := by decide +kernel
theorem dX4_passes_29 : decode cX4_passes 29 = .ok (.iload 4, 2) := by decide +kernel
theorem dX4_passes_31 : decode cX4_passes 31 = .ok (.iconst 2, 1) := by decide +kernel
theorem dX4_passes_32 : decode cX4_passes 32 = .ok (.iadd, 1) := by decide +kernel
theorem dX4_passes_33 : decode cX4_passes 33 = .ok (.dup2, 1) := by decide +kernel
theorem dX4_passes_34 : decode cX4_passes 34 = .ok (.iaload, 1) := by decide +kernel
theorem dX4_passes_35 : decode cX4_passes 35 = .ok (.aload_n 0, 1) := by decide +kernel
theorem dX4_passes_36 : decode cX4_passes 36 = .ok (.getfield 7, 3) := by decide +kernel
theorem dX4_passes_39 : decode cX4_passes 39 = .ok (.iload 4, 2) := by decide +kernel
theorem dX4_passes_41 : decode cX4_passes 41 = .ok (.iaload, 1) := by decide +kernel
theorem dX4_passes_42 : decode cX4_passes 42 = .ok (.aload_n 0, 1) := by decide +kernel
theorem dX4_passes_43 : decode cX4_passes 43 = .ok (.getfield 7, 3) := by decide +kernel
theorem dX4_passes_46 : decode cX4_passes 46 = .ok (.iload_n 1, 1) := by decide +kernel
theorem dX4_passes_47 : decode cX4_passes 47 = .ok (.bipush 118, 2) := by decide +kernel
theorem dX4_passes_49 : decode cX4_passes 49 = .ok (.iadd, 1) := by decide +kernel
theorem dX4_passes_50 : decode cX4_passes 50 = .ok (.iload_n 3, 1) := by decide +kernel
theorem dX4_passes_51 : decode cX4_passes 51 = .ok (.iadd, 1) := by decide +kernel
theorem dX4_passes_52 : decode cX4_passes 52 = .ok (.iaload, 1) := by decide +kernel
theorem dX4_passes_53 : decode cX4_passes 53 = .ok (.aload_n 0, 1) := by decide +kernel
theorem dX4_passes_54 : decode cX4_passes 54 = .ok (.getfield 7, 3) := by decide +kernel
theorem dX4_passes_57 : decode cX4_passes 57 = .ok (.iload_n 1, 1) := by decide +kernel
theorem dX4_passes_58 : decode cX4_passes 58 = .ok (.iconst 0, 1) := by decide +kernel
theorem dX4_passes_59 : decode cX4_passes 59 = .ok (.iadd, 1) := by decide +kernel
theorem dX4_passes_60 : decode cX4_passes 60 = .ok (.iaload, 1) := by decide +kernel
theorem dX4_passes_61 : decode cX4_passes 61 = .ok (.invokestatic 97, 3) := by decide +kernel
theorem dX4_passes_64 : decode cX4_passes 64 = .ok (.isub, 1) := by decide +kernel
theorem dX4_passes_65 : decode cX4_passes 65 = .ok (.iastore, 1) := by decide +kernel
theorem dX4_passes_66 : decode cX4_passes 66 = .ok (.aload_n 0, 1) := by decide +kernel
theorem dX4_passes_67 : decode cX4_passes 67 = .ok (.getfield 7, 3) := by decide +kernel
theorem dX4_passes_70 : decode cX4_passes 70 = .ok (.iload_n 1, 1) := by decide +kernel
theorem dX4_passes_71 : decode cX4_passes 71 = .ok (.iconst 1, 1) := by decide +kernel
theorem dX4_passes_72 : decode cX4_passes 72 = .ok (.iadd, 1) := by decide +kernel
theorem dX4_passes_73 : decode cX4_passes 73 = .ok (.iload_n 3, 1) := by decide +kernel
theorem dX4_passes_74 : decode cX4_passes 74 = .ok (.iadd, 1) := by decide +kernel
theorem dX4_passes_75 : decode cX4_passes 75 = .ok (.dup2, 1) := by decide +kernel
theorem dX4_passes_76 : decode cX4_passes 76 = .ok (.iaload, 1) := by decide +kernel
theorem dX4_passes_77 : decode cX4_passes 77 = .ok (.aload_n 0, 1) := by decide +kernel
theorem dX4_passes_78 : decode cX4_passes 78 = .ok (.getfield 7, 3) := by decide +kernel
theorem dX4_passes_81 : decode cX4_passes 81 = .ok (.iload 4, 2) := by decide +kernel
theorem dX4_passes_83 : decode cX4_passes 83 = .ok (.iconst 2, 1) := by decide +kernel
theorem dX4_passes_84 : decode cX4_passes 84 = .ok (.iadd, 1) := by decide +kernel
theorem dX4_passes_85 : decode cX4_passes 85 = .ok (.iaload, 1) := by decide +kernel
theorem dX4_passes_86 : decode cX4_passes 86 = .ok (.ifCond .gt 7, 3) := by decide +kernel
theorem dX4_passes_89 : decode cX4_passes 89 = .ok (.iconst 1, 1) := by decide +kernel
theorem dX4_passes_90 : decode cX4_passes 90 = .ok (.goto 4, 3) := by decide +kernel
theorem dX4_passes_93 : decode cX4_passes 93 = .ok (.iconst 0, 1) := by decide +kernel
theorem dX4_passes_94 : decode cX4_passes 94 = .ok (.isub, 1) := by decide +kernel
theorem dX4_passes_95 : decode cX4_passes 95 = .ok (.iastore, 1) := by decide +kernel
theorem dX4_passes_96 : decode cX4_passes 96 = .ok (.iinc 3 1, 3) := by decide +kernel
theorem dX4_passes_99 : decode cX4_passes 99 = .ok (.goto (-97), 3) := by decide +kernel
theorem dX4_passes_102 : decode cX4_passes 102 = .ok (.aload_n 0, 1) := by decide +kernel
theorem dX4_passes_103 : decode cX4_passes 103 = .ok (.getfield 7, 3) := by decide +kernel
theorem dX4_passes_106 : decode cX4_passes 106 = .ok (.iload_n 1, 1) := by decide +kernel
theorem dX4_passes_107 : decode cX4_passes 107 = .ok (.iconst 0, 1) := by decide +kernel
theorem dX4_passes_108 : decode cX4_passes 108 = .ok (.iadd, 1) := by decide +kernel
theorem dX4_passes_109 : decode cX4_passes 109 = .ok (.dup2, 1) := by decide +kernel
theorem dX4_passes_110 : decode cX4_passes 110 = .ok (.iaload, 1) := by decide +kernel
theorem dX4_passes_111 : decode cX4_passes 111 = .ok (.iconst 1, 1) := by decide +kernel
theorem dX4_passes_112 : decode cX4_passes 112 = .ok (.iadd, 1) := by decide +kernel
theorem dX4_passes_113 : decode cX4_passes 113 = .ok (.iastore, 1) := by decide +kernel
theorem dX4_passes_114 : decode cX4_passes 114 = .ok (.return_, 1) := by decide +kernel
theorem dX4_tries_0 : decode cX4_tries 0 = .ok (.aload_n 0, 1) := by decide +kernel
theorem dX4_tries_1 : decode cX4_tries 1 = .ok (.iconst 0, 1) := by decide +kernel
theorem dX4_tries_2 : decode cX4_tries 2 = .ok (.sipush 3273, 3) := by decide +kernel
theorem dX4_tries_5 : decode cX4_tries 5 = .ok (.sipush 147, 3) := by decide +kernel
theorem dX4_tries_8 : decode cX4_tries 8 = .ok (.invokevirtual 73, 3) := by decide +kernel
theorem dX4_tries_11 : decode cX4_tries 11 = .ok (.return_, 1) := by decide +kernel
theorem dX4_years_0 : decode cX4_years 0 = .ok (.iload_n 1, 1) := by decide +kernel
theorem dX4_years_1 : decode cX4_years 1 = .ok (.i2l, 1) := by decide +kernel
theorem dX4_years_2 : decode cX4_years 2 = .ok (.lconst 1, 1) := by decide +kernel
theorem dX4_years_3 : decode cX4_years 3 = .ok (.ldc2_w 101, 3) := by decide +kernel
theorem dX4_years_6 : decode cX4_years 6 = .ok (.invokestatic 45, 3) := by decide +kernel
theorem dX4_years_9 : decode cX4_years 9 = .ok (.ifCond .ne 8, 3) := by decide +kernel
theorem dX4_years_12 : decode cX4_years 12 = .ok (.aload_n 0, 1) := by decide +kernel
theorem dX4_years_13 : decode cX4_years 13 = .ok (.invokevirtual 65, 3) := by decide +kernel
theorem dX4_years_16 : decode cX4_years 16 = .ok (.ireturn, 1) := by decide +kernel
theorem dX4_years_17 : decode cX4_years 17 = .ok (.iconst 0, 1) := by decide +kernel
theorem dX4_years_18 : decode cX4_years 18 = .ok (.istore_n 2, 1) := by decide +kernel
theorem dX4_years_19 : decode cX4_years 19 = .ok (.iload_n 2, 1) := by decide +kernel
theorem dX4_years_20 : decode cX4_years 20 = .ok (.iload_n 1, 1) := by decide +kernel
theorem dX4_years_21 : decode cX4_years 21 = .ok (.if_icmp .ge 19, 3) := by decide +kernel
theorem dX4_years_24 : decode cX4_years 24 = .ok (.aload_n 0, 1) := by decide +kernel
theorem dX4_years_25 : decode cX4_years 25 = .ok (.invokevirtual 84, 3) := by decide +kernel
theorem dX4_years_28 : decode cX4_years 28 = .ok (.aload_n 0, 1) := by decide +kernel
theorem dX4_years_29 : decode cX4_years 29 = .ok (.iconst 0, 1) := by decide +kernel
theorem dX4_years_30 : decode cX4_years 30 = .ok (.iconst 1, 1) := by decide +kernel
theorem dX4_years_31 : decode cX4_years 31 = .ok (.invokevirtual 103, 3) := by decide +kernel
theorem dX4_years_34 : decode cX4_years 34 = .ok (.iinc 2 1, 3) := by decide +kernel
theorem dX4_years_37 : decode cX4_years 37 = .ok (.goto (-18), 3) := by decide +kernel
theorem dX4_years_40 : decode cX4_years 40 = .ok (.aload_n 0, 1) := by decide +kernel
theorem dX4_years_41 : decode cX4_years 41 = .ok (.iconst 0, 1) := by decide +kernel
theorem dX4_years_42 : decode cX4_years 42 = .ok (.invokevirtual 107, 3) := by decide +kernel
theorem dX4_years_45 : decode cX4_years 45 = .ok (.invokestatic 110, 3) := by decide +kernel
theorem dX4_years_48 : decode cX4_years 48 = .ok (.ireturn, 1) := by decide +kernel
theorem dX4_undo_0 : decode cX4_undo 0 = .ok (.aload_n 0, 1) := by decide +kernel
theorem dX4_undo_1 : decode cX4_undo 1 = .ok (.getfield 7, 3) := by decide +kernel
theorem dX4_undo_4 : decode cX4_undo 4 = .ok (.sipush 146, 3) := by decide +kernel
theorem dX4_undo_7 : decode cX4_undo 7 = .ok (.iaload, 1) := by decide +kernel
theorem dX4_undo_8 : decode cX4_undo 8 = .ok (.ifCond .ne 8, 3) := by decide +kernel
theorem dX4_undo_11 : decode cX4_undo 11 = .ok (.aload_n 0, 1) := by decide +kernel
theorem dX4_undo_12 : decode cX4_undo 12 = .ok (.invokevirtual 91, 3) := by decide +kernel
theorem dX4_undo_15 : decode cX4_undo 15 = .ok (.ireturn, 1) := by decide +kernel
theorem dX4_undo_16 : decode cX4_undo 16 = .ok (.aload_n 0, 1) := by decide +kernel
theorem dX4_undo_17 : decode cX4_undo 17 = .ok (.getfield 7, 3) := by decide +kernel
theorem dX4_undo_20 : decode cX4_undo 20 = .ok (.sipush 146, 3) := by decide +kernel
theorem dX4_undo_23 : decode cX4_undo 23 = .ok (.dup2, 1) := by decide +kernel
theorem dX4_undo_24 : decode cX4_undo 24 = .ok (.iaload, 1) := by decide +kernel
theorem dX4_undo_25 : decode cX4_undo 25 = .ok (.iconst 1, 1) := by decide +kernel
theorem dX4_undo_26 : decode cX4_undo 26 = .ok (.isub, 1) := by decide +kernel
theorem dX4_undo_27 : decode cX4_undo 27 = .ok (.iastore, 1) := by decide +kernel
theorem dX4_undo_28 : decode cX4_undo 28 = .ok (.aload_n 0, 1) := by decide +kernel
theorem dX4_undo_29 : decode cX4_undo 29 = .ok (.sipush 147, 3) := by decide +kernel
theorem dX4_undo_32 : decode cX4_undo 32 = .ok (.bipush 118, 2) := by decide +kernel
theorem dX4_undo_34 : decode cX4_undo 34 = .ok (.aload_n 0, 1) := by decide +kernel
theorem dX4_undo_35 : decode cX4_undo 35 = .ok (.getfield 7, 3) := by decide +kernel
theorem dX4_undo_38 : decode cX4_undo 38 = .ok (.sipush 146, 3) := by decide +kernel
theorem dX4_undo_41 : decode cX4_undo 41 = .ok (.iaload, 1) := by decide +kernel
theorem dX4_undo_42 : decode cX4_undo 42 = .ok (.imul, 1) := by decide +kernel
theorem dX4_undo_43 : decode cX4_undo 43 = .ok (.iadd, 1) := by decide +kernel
theorem dX4_undo_44 : decode cX4_undo 44 = .ok (.iconst 0, 1) := by decide +kernel
theorem dX4_undo_45 : decode cX4_undo 45 = .ok (.bipush 118, 2) := by decide +kernel
theorem dX4_undo_47 : decode cX4_undo 47 = .ok (.invokevirtual 73, 3) := by decide +kernel
theorem dX4_undo_50 : decode cX4_undo 50 = .ok (.aload_n 0, 1) := by decide +kernel
theorem dX4_undo_51 : decode cX4_undo 51 = .ok (.iconst 0, 1) := by decide +kernel
theorem dX4_undo_52 : decode cX4_undo 52 = .ok (.invokevirtual 69, 3) := by decide +kernel
theorem dX4_undo_55 : decode cX4_undo 55 = .ok (.ireturn, 1) := by decide +kernel
theorem dX4_type_0 : decode cX4_type 0 = .ok (.iload_n 1, 1) := by decide +kernel
theorem dX4_type_1 : decode cX4_type 1 = .ok (.i2l, 1) := by decide +kernel
theorem dX4_type_2 : decode cX4_type 2 = .ok (.lconst 0, 1) := by decide +kernel
theorem dX4_type_3 : decode cX4_type 3 = .ok (.ldc2_w 113, 3) := by decide +kernel
theorem dX4_type_6 : decode cX4_type 6 = .ok (.invokestatic 45, 3) := by decide +kernel
theorem dX4_type_9 : decode cX4_type 9 = .ok (.ifCond .ne 8, 3) := by decide +kernel
theorem dX4_type_12 : decode cX4_type 12 = .ok (.aload_n 0, 1) := by decide +kernel
theorem dX4_type_13 : decode cX4_type 13 = .ok (.invokevirtual 65, 3) := by decide +kernel
theorem dX4_type_16 : decode cX4_type 16 = .ok (.ireturn, 1) := by decide +kernel
theorem dX4_type_17 : decode cX4_type 17 = .ok (.aload_n 0, 1) := by decide +kernel
theorem dX4_type_18 : decode cX4_type 18 = .ok (.getfield 115, 3) := by decide +kernel
theorem dX4_type_21 : decode cX4_type 21 = .ok (.sipush 150, 3) := by decide +kernel
theorem dX4_type_24 : decode cX4_type 24 = .ok (.if_icmp .ne 8, 3) := by decide +kernel
theorem dX4_type_27 : decode cX4_type 27 = .ok (.aload_n 0, 1) := by decide +kernel
theorem dX4_type_28 : decode cX4_type 28 = .ok (.invokevirtual 81, 3) := by decide +kernel
theorem dX4_type_31 : decode cX4_type 31 = .ok (.ireturn, 1) := by decide +kernel
theorem dX4_type_32 : decode cX4_type 32 = .ok (.aload_n 0, 1) := by decide +kernel
theorem dX4_type_33 : decode cX4_type 33 = .ok (.getfield 17, 3) := by decide +kernel
theorem dX4_type_36 : decode cX4_type 36 = .ok (.aload_n 0, 1) := by decide +kernel
theorem dX4_type_37 : decode cX4_type 37 = .ok (.getfield 115, 3) := by decide +kernel
theorem dX4_type_40 : decode cX4_type 40 = .ok (.iload_n 1, 1) := by decide +kernel
theorem dX4_type_41 : decode cX4_type 41 = .ok (.iastore, 1) := by decide +kernel
theorem dX4_type_42 : decode cX4_type 42 = .ok (.aload_n 0, 1) := by decide +kernel
theorem dX4_type_43 : decode cX4_type 43 = .ok (.dup, 1) := by decide +kernel
theorem dX4_type_44 : decode cX4_type 44 = .ok (.getfield 115, 3) := by decide +kernel
theorem dX4_type_47 : decode cX4_type 47 = .ok (.iconst 1, 1) := by decide +kernel
theorem dX4_type_48 : decode cX4_type 48 = .ok (.iadd, 1) := by decide +kernel
theorem dX4_type_49 : decode cX4_type 49 = .ok (.putfield 115, 3) := by decide +kernel
theorem dX4_type_52 : decode cX4_type 52 = .ok (.aload_n 0, 1) := by decide +kernel
theorem dX4_type_53 : decode cX4_type 53 = .ok (.getfield 115, 3) := by decide +kernel
theorem dX4_type_56 : decode cX4_type 56 = .ok (.ireturn, 1) := by decide +kernel
theorem dX4_clear_0 : decode cX4_clear 0 = .ok (.aload_n 0, 1) := by decide +kernel
theorem dX4_clear_1 : decode cX4_clear 1 = .ok (.getfield 115, 3) := by decide +kernel
theorem dX4_clear_4 : decode cX4_clear 4 = .ok (.istore_n 1, 1) := by decide +kernel
theorem dX4_clear_5 : decode cX4_clear 5 = .ok (.aload_n 0, 1) := by decide +kernel
theorem dX4_clear_6 : decode cX4_clear 6 = .ok (.iconst 0, 1) := by decide +kernel
theorem dX4_clear_7 : decode cX4_clear 7 = .ok (.putfield 115, 3) := by decide +kernel
theorem dX4_clear_10 : decode cX4_clear 10 = .ok (.iload_n 1, 1) := by decide +kernel
theorem dX4_clear_11 : decode cX4_clear 11 = .ok (.ireturn, 1) := by decide +kernel
theorem dX4_byteAt_0 : decode cX4_byteAt 0 = .ok (.iload_n 1, 1) := by decide +kernel
theorem dX4_byteAt_1 : decode cX4_byteAt 1 = .ok (.aload_n 0, 1) := by decide +kernel
theorem dX4_byteAt_2 : decode cX4_byteAt 2 = .ok (.getfield 115, 3) := by decide +kernel
theorem dX4_byteAt_5 : decode cX4_byteAt 5 = .ok (.if_icmp .ge 12, 3) := by decide +kernel
theorem dX4_byteAt_8 : decode cX4_byteAt 8 = .ok (.aload_n 0, 1) := by decide +kernel
theorem dX4_byteAt_9 : decode cX4_byteAt 9 = .ok (.getfield 17, 3) := by decide +kernel
theorem dX4_byteAt_12 : decode cX4_byteAt 12 = .ok (.iload_n 1, 1) := by decide +kernel
theorem dX4_byteAt_13 : decode cX4_byteAt 13 = .ok (.iaload, 1) := by decide +kernel
theorem dX4_byteAt_14 : decode cX4_byteAt 14 = .ok (.goto 4, 3) := by decide +kernel
theorem dX4_byteAt_17 : decode cX4_byteAt 17 = .ok (.iconst (-1), 1) := by decide +kernel
theorem dX4_byteAt_18 : decode cX4_byteAt 18 = .ok (.ireturn, 1) := by decide +kernel
theorem dX4_token_0 : decode cX4_token 0 = .ok (.aload_n 0, 1) := by decide +kernel
theorem dX4_token_1 : decode cX4_token 1 = .ok (.aload_n 0, 1) := by decide +kernel
theorem dX4_token_2 : decode cX4_token 2 = .ok (.getfield 119, 3) := by decide +kernel
theorem dX4_token_5 : decode cX4_token 5 = .ok (.invokevirtual 122, 3) := by decide +kernel
theorem dX4_token_8 : decode cX4_token 8 = .ok (.bipush 32, 2) := by decide +kernel
theorem dX4_token_10 : decode cX4_token 10 = .ok (.if_icmp .ne 16, 3) := by decide +kernel
theorem dX4_token_13 : decode cX4_token 13 = .ok (.aload_n 0, 1) := by decide +kernel
theorem dX4_token_14 : decode cX4_token 14 = .ok (.dup, 1) := by decide +kernel
theorem dX4_token_15 : decode cX4_token 15 = .ok (.getfield 119, 3) := by decide +kernel
theorem dX4_token_18 : decode cX4_token 18 = .ok (.iconst 1, 1) := by decide +kernel
theorem dX4_token_19 : decode cX4_token 19 = .ok (.iadd, 1) := by decide +kernel
theorem dX4_token_20 : decode cX4_token 20 = .ok (.putfield 119, 3) := by decide +kernel
theorem dX4_token_23 : decode cX4_token 23 = .ok (.goto (-23), 3) := by decide +kernel
theorem dX4_token_26 : decode cX4_token 26 = .ok (.aload_n 0, 1) := by decide +kernel
theorem dX4_token_27 : decode cX4_token 27 = .ok (.aload_n 0, 1) := by decide +kernel
theorem dX4_token_28 : decode cX4_token 28 = .ok (.getfield 119, 3) := by decide +kernel
theorem dX4_token_31 : decode cX4_token 31 = .ok (.putfield 125, 3) := by decide +kernel
theorem dX4_token_34 : decode cX4_token 34 = .ok (.aload_n 0, 1) := by decide +kernel
theorem dX4_token_35 : decode cX4_token 35 = .ok (.aload_n 0, 1) := by decide +kernel
theorem dX4_token_36 : decode cX4_token 36 = .ok (.aload_n 0, 1) := by decide +kernel
theorem dX4_token_37 : decode cX4_token 37 = .ok (.getfield 119, 3) := by decide +kernel
theorem dX4_token_40 : decode cX4_token 40 = .ok (.invokevirtual 122, 3) := by decide +kernel
theorem dX4_token_43 : decode cX4_token 43 = .ok (.i2l, 1) := by decide +kernel
theorem dX4_token_44 : decode cX4_token 44 = .ok (.ldc2_w 128, 3) := by decide +kernel
theorem dX4_token_47 : decode cX4_token 47 = .ok (.ldc2_w 130, 3) := by decide +kernel
theorem dX4_token_50 : decode cX4_token 50 = .ok (.invokestatic 45, 3) := by decide +kernel
theorem dX4_token_53 : decode cX4_token 53 = .ok (.putfield 132, 3) := by decide +kernel
theorem dX4_token_56 : decode cX4_token 56 = .ok (.aload_n 0, 1) := by decide +kernel
theorem dX4_token_57 : decode cX4_token 57 = .ok (.aload_n 0, 1) := by decide +kernel
theorem dX4_token_58 : decode cX4_token 58 = .ok (.aload_n 0, 1) := by decide +kernel
theorem dX4_token_59 : decode cX4_token 59 = .ok (.getfield 119, 3) := by decide +kernel
theorem dX4_token_62 : decode cX4_token 62 = .ok (.invokevirtual 122, 3) := by decide +kernel
theorem dX4_token_65 : decode cX4_token 65 = .ok (.i2l, 1) := by decide +kernel
theorem dX4_token_66 : decode cX4_token 66 = .ok (.ldc2_w 136, 3) := by decide +kernel
theorem dX4_token_69 : decode cX4_token 69 = .ok (.ldc2_w 138, 3) := by decide +kernel
theorem dX4_token_72 : decode cX4_token 72 = .ok (.invokestatic 45, 3) := by decide +kernel
theorem dX4_token_75 : decode cX4_token 75 = .ok (.putfield 140, 3) := by decide +kernel
theorem dX4_token_78 : decode cX4_token 78 = .ok (.aload_n 0, 1) := by decide +kernel
theorem dX4_token_79 : decode cX4_token 79 = .ok (.dup, 1) := by decide +kernel
theorem dX4_token_80 : decode cX4_token 80 = .ok (.getfield 119, 3) := by decide +kernel
theorem dX4_token_83 : decode cX4_token 83 = .ok (.aload_n 0, 1) := by decide +kernel
theorem dX4_token_84 : decode cX4_token 84 = .ok (.getfield 119, 3) := by decide +kernel
theorem dX4_token_87 : decode cX4_token 87 = .ok (.aload_n 0, 1) := by decide +kernel
theorem dX4_token_88 : decode cX4_token 88 = .ok (.getfield 115, 3) := by decide +kernel
theorem dX4_token_91 : decode cX4_token 91 = .ok (.if_icmp .ge 7, 3) := by decide +kernel
theorem dX4_token_94 : decode cX4_token 94 = .ok (.iconst 1, 1) := by decide +kernel
theorem dX4_token_95 : decode cX4_token 95 = .ok (.goto 4, 3) := by decide +kernel
theorem dX4_token_98 : decode cX4_token 98 = .ok (.iconst 0, 1) := by decide +kernel
theorem dX4_token_99 : decode cX4_token 99 = .ok (.iadd, 1) := by decide +kernel
theorem dX4_token_100 : decode cX4_token 100 = .ok (.putfield 119, 3) := by decide +kernel
theorem dX4_token_103 : decode cX4_token 103 = .ok (.aload_n 0, 1) := by decide +kernel
theorem dX4_token_104 : decode cX4_token 104 = .ok (.getfield 132, 3) := by decide +kernel
theorem dX4_token_107 : decode cX4_token 107 = .ok (.ifCond .eq 24, 3) := by decide +kernel
theorem dX4_token_110 : decode cX4_token 110 = .ok (.aload_n 0, 1) := by decide +kernel
theorem dX4_token_111 : decode cX4_token 111 = .ok (.aload_n 0, 1) := by decide +kernel
theorem dX4_token_112 : decode cX4_token 112 = .ok (.getfield 119, 3) := by decide +kernel
theorem dX4_token_115 : decode cX4_token 115 = .ok (.invokevirtual 122, 3) := by decide +kernel
theorem dX4_token_118 : decode cX4_token 118 = .ok (.i2l, 1) := by decide +kernel
theorem dX4_token_119 : decode cX4_token 119 = .ok (.ldc2_w 128, 3) := by decide +kernel
theorem dX4_token_122 : decode cX4_token 122 = .ok (.ldc2_w 130, 3) := by decide +kernel
theorem dX4_token_125 : decode cX4_token 125 = .ok (.invokestatic 45, 3) := by decide +kernel
theorem dX4_token_128 : decode cX4_token 128 = .ok (.ifCond .ne 31, 3) := by decide +kernel
theorem dX4_token_131 : decode cX4_token 131 = .ok (.aload_n 0, 1) := by decide +kernel
theorem dX4_token_132 : decode cX4_token 132 = .ok (.getfield 140, 3) := by decide +kernel
theorem dX4_token_135 : decode cX4_token 135 = .ok (.ifCond .eq 37, 3) := by decide +kernel
theorem dX4_token_138 : decode cX4_token 138 = .ok (.aload_n 0, 1) := by decide +kernel
theorem dX4_token_139 : decode cX4_token 139 = .ok (.aload_n 0, 1) := by decide +kernel
theorem dX4_token_140 : decode cX4_token 140 = .ok (.getfield 119, 3) := by decide +kernel
theorem dX4_token_143 : decode cX4_token 143 = .ok (.invokevirtual 122, 3) := by decide +kernel
theorem dX4_token_146 : decode cX4_token 146 = .ok (.i2l, 1) := by decide +kernel
theorem dX4_token_147 : decode cX4_token 147 = .ok (.ldc2_w 136, 3) := by decide +kernel
theorem dX4_token_150 : decode cX4_token 150 = .ok (.ldc2_w 138, 3) := by decide +kernel
theorem dX4_token_153 : decode cX4_token 153 = .ok (.invokestatic 45, 3) := by decide +kernel
theorem dX4_token_156 : decode cX4_token 156 = .ok (.ifCond .eq 16, 3) := by decide +kernel
theorem dX4_token_159 : decode cX4_token 159 = .ok (.aload_n 0, 1) := by decide +kernel
theorem dX4_token_160 : decode cX4_token 160 = .ok (.dup, 1) := by decide +kernel
theorem dX4_token_161 : decode cX4_token 161 = .ok (.getfield 119, 3) := by decide +kernel
theorem dX4_token_164 : decode cX4_token 164 = .ok (.iconst 1, 1) := by decide +kernel
theorem dX4_token_165 : decode cX4_token 165 = .ok (.iadd, 1) := by decide +kernel
theorem dX4_token_166 : decode cX4_token 166 = .ok (.putfield 119, 3) := by decide +kernel
theorem dX4_token_169 : decode cX4_token 169 = .ok (.goto (-66), 3) := by decide +kernel
theorem dX4_token_172 : decode cX4_token 172 = .ok (.return_, 1) := by decide +kernel
theorem dX4_isNamed_0 : decode cX4_isNamed 0 = .ok (.aload_n 0, 1) := by decide +kernel
theorem dX4_isNamed_1 : decode cX4_isNamed 1 = .ok (.getfield 132, 3) := by decide +kernel
theorem dX4_isNamed_4 : decode cX4_isNamed 4 = .ok (.ifCond .eq 75, 3) := by decide +kernel
theorem dX4_isNamed_7 : decode cX4_isNamed 7 = .ok (.aload_n 0, 1) := by decide +kernel
theorem dX4_isNamed_8 : decode cX4_isNamed 8 = .ok (.getfield 119, 3) := by decide +kernel
theorem dX4_isNamed_11 : decode cX4_isNamed 11 = .ok (.aload_n 0, 1) := by decide +kernel
theorem dX4_isNamed_12 : decode cX4_isNamed 12 = .ok (.getfield 125, 3) := by decide +kernel
theorem dX4_isNamed_15 : decode cX4_isNamed 15 = .ok (.isub, 1) := by decide +kernel
theorem dX4_isNamed_16 : decode cX4_isNamed 16 = .ok (.iconst 4, 1) := by decide +kernel
theorem dX4_isNamed_17 : decode cX4_isNamed 17 = .ok (.if_icmp .ne 62, 3) := by decide +kernel
theorem dX4_isNamed_20 : decode cX4_isNamed 20 = .ok (.aload_n 0, 1) := by decide +kernel
theorem dX4_isNamed_21 : decode cX4_isNamed 21 = .ok (.aload_n 0, 1) := by decide +kernel
theorem dX4_isNamed_22 : decode cX4_isNamed 22 = .ok (.getfield 125, 3) := by decide +kernel
theorem dX4_isNamed_25 : decode cX4_isNamed 25 = .ok (.invokevirtual 122, 3) := by decide +kernel
theorem dX4_isNamed_28 : decode cX4_isNamed 28 = .ok (.iload_n 1, 1) := by decide +kernel
theorem dX4_isNamed_29 : decode cX4_isNamed 29 = .ok (.if_icmp .ne 50, 3) := by decide +kernel
theorem dX4_isNamed_32 : decode cX4_isNamed 32 = .ok (.aload_n 0, 1) := by decide +kernel
theorem dX4_isNamed_33 : decode cX4_isNamed 33 = .ok (.aload_n 0, 1) := by decide +kernel
theorem dX4_isNamed_34 : decode cX4_isNamed 34 = .ok (.getfield 125, 3) := by decide +kernel
theorem dX4_isNamed_37 : decode cX4_isNamed 37 = .ok (.iconst 1, 1) := by decide +kernel
theorem dX4_isNamed_38 : decode cX4_isNamed 38 = .ok (.iadd, 1) := by decide +kernel
theorem dX4_isNamed_39 : decode cX4_isNamed 39 = .ok (.invokevirtual 122, 3) := by decide +kernel
theorem dX4_isNamed_42 : decode cX4_isNamed 42 = .ok (.iload_n 2, 1) := by decide +kernel
theorem dX4_isNamed_43 : decode cX4_isNamed 43 = .ok (.if_icmp .ne 36, 3) := by decide +kernel
theorem dX4_isNamed_46 : decode cX4_isNamed 46 = .ok (.aload_n 0, 1) := by decide +kernel
theorem dX4_isNamed_47 : decode cX4_isNamed 47 = .ok (.aload_n 0, 1) := by decide +kernel
theorem dX4_isNamed_48 : decode cX4_isNamed 48 = .ok (.getfield 125, 3) := by decide +kernel
theorem dX4_isNamed_51 : decode cX4_isNamed 51 = .ok (.iconst 2, 1) := by decide +kernel
theorem dX4_isNamed_52 : decode cX4_isNamed 52 = .ok (.iadd, 1) := by decide +kernel
theorem dX4_isNamed_53 : decode cX4_isNamed 53 = .ok (.invokevirtual 122, 3) := by decide +kernel
theorem dX4_isNamed_56 : decode cX4_isNamed 56 = .ok (.iload_n 3, 1) := by decide +kernel
theorem dX4_isNamed_57 : decode cX4_isNamed 57 = .ok (.if_icmp .ne 22, 3) := by decide +kernel
theorem dX4_isNamed_60 : decode cX4_isNamed 60 = .ok (.aload_n 0, 1) := by decide +kernel
theorem dX4_isNamed_61 : decode cX4_isNamed 61 = .ok (.aload_n 0, 1) := by decide +kernel
theorem dX4_isNamed_62 : decode cX4_isNamed 62 = .ok (.getfield 125, 3) := by decide +kernel
theorem dX4_isNamed_65 : decode cX4_isNamed 65 = .ok (.iconst 3, 1) := by decide +kernel
theorem dX4_isNamed_66 : decode cX4_isNamed 66 = .ok (.iadd, 1) := by decide +kernel
theorem dX4_isNamed_67 : decode cX4_isNamed 67 = .ok (.invokevirtual 122, 3) := by decide +kernel
theorem dX4_isNamed_70 : decode cX4_isNamed 70 = .ok (.iload 4, 2) := by decide +kernel
theorem dX4_isNamed_72 : decode cX4_isNamed 72 = .ok (.if_icmp .ne 7, 3) := by decide +kernel
theorem dX4_isNamed_75 : decode cX4_isNamed 75 = .ok (.iconst 1, 1) := by decide +kernel
theorem dX4_isNamed_76 : decode cX4_isNamed 76 = .ok (.goto 4, 3) := by decide +kernel
theorem dX4_isNamed_79 : decode cX4_isNamed 79 = .ok (.iconst 0, 1) := by decide +kernel
theorem dX4_isNamed_80 : decode cX4_isNamed 80 = .ok (.ireturn, 1) := by decide +kernel
theorem dX4_wordNow_0 : decode cX4_wordNow 0 = .ok (.aload_n 0, 1) := by decide +kernel
theorem dX4_wordNow_1 : decode cX4_wordNow 1 = .ok (.bipush 115, 2) := by decide +kernel
theorem dX4_wordNow_3 : decode cX4_wordNow 3 = .ok (.bipush 111, 2) := by decide +kernel
theorem dX4_wordNow_5 : decode cX4_wordNow 5 = .ok (.bipush 99, 2) := by decide +kernel
theorem dX4_wordNow_7 : decode cX4_wordNow 7 = .ok (.bipush 107, 2) := by decide +kernel
theorem dX4_wordNow_9 : decode cX4_wordNow 9 = .ok (.invokevirtual 143, 3) := by decide +kernel
theorem dX4_wordNow_12 : decode cX4_wordNow 12 = .ok (.ifCond .eq 5, 3) := by decide +kernel
theorem dX4_wordNow_15 : decode cX4_wordNow 15 = .ok (.iconst 0, 1) := by decide +kernel
theorem dX4_wordNow_16 : decode cX4_wordNow 16 = .ok (.ireturn, 1) := by decide +kernel
theorem dX4_wordNow_17 : decode cX4_wordNow 17 = .ok (.aload_n 0, 1) := by decide +kernel
theorem dX4_wordNow_18 : decode cX4_wordNow 18 = .ok (.bipush 119, 2) := by decide +kernel
theorem dX4_wordNow_20 : decode cX4_wordNow 20 = .ok (.bipush 101, 2) := by decide +kernel
theorem dX4_wordNow_22 : decode cX4_wordNow 22 = .ok (.bipush 97, 2) := by decide +kernel
theorem dX4_wordNow_24 : decode cX4_wordNow 24 = .ok (.bipush 114, 2) := by decide +kernel
theorem dX4_wordNow_26 : decode cX4_wordNow 26 = .ok (.invokevirtual 143, 3) := by decide +kernel
theorem dX4_wordNow_29 : decode cX4_wordNow 29 = .ok (.ifCond .eq 7, 3) := by decide +kernel
theorem dX4_wordNow_32 : decode cX4_wordNow 32 = .ok (.iconst 1, 1) := by decide +kernel
theorem dX4_wordNow_33 : decode cX4_wordNow 33 = .ok (.goto 23, 3) := by decide +kernel
theorem dX4_wordNow_36 : decode cX4_wordNow 36 = .ok (.aload_n 0, 1) := by decide +kernel
theorem dX4_wordNow_37 : decode cX4_wordNow 37 = .ok (.bipush 100, 2) := by decide +kernel
theorem dX4_wordNow_39 : decode cX4_wordNow 39 = .ok (.bipush 97, 2) := by decide +kernel
theorem dX4_wordNow_41 : decode cX4_wordNow 41 = .ok (.bipush 114, 2) := by decide +kernel
theorem dX4_wordNow_43 : decode cX4_wordNow 43 = .ok (.bipush 110, 2) := by decide +kernel
theorem dX4_wordNow_45 : decode cX4_wordNow 45 = .ok (.invokevirtual 143, 3) := by decide +kernel
theorem dX4_wordNow_48 : decode cX4_wordNow 48 = .ok (.ifCond .eq 7, 3) := by decide +kernel
theorem dX4_wordNow_51 : decode cX4_wordNow 51 = .ok (.iconst 2, 1) := by decide +kernel
theorem dX4_wordNow_52 : decode cX4_wordNow 52 = .ok (.goto 4, 3) := by decide +kernel
theorem dX4_wordNow_55 : decode cX4_wordNow 55 = .ok (.iconst (-1), 1) := by decide +kernel
theorem dX4_wordNow_56 : decode cX4_wordNow 56 = .ok (.ireturn, 1) := by decide +kernel
theorem dX4_takesNumber_0 : decode cX4_takesNumber 0 = .ok (.aload_n 0, 1) := by decide +kernel
theorem dX4_takesNumber_1 : decode cX4_takesNumber 1 = .ok (.invokevirtual 146, 3) := by decide +kernel
theorem dX4_takesNumber_4 : decode cX4_takesNumber 4 = .ok (.aload_n 0, 1) := by decide +kernel
theorem dX4_takesNumber_5 : decode cX4_takesNumber 5 = .ok (.getfield 140, 3) := by decide +kernel
theorem dX4_takesNumber_8 : decode cX4_takesNumber 8 = .ok (.ifCond .eq 16, 3) := by decide +kernel
theorem dX4_takesNumber_11 : decode cX4_takesNumber 11 = .ok (.aload_n 0, 1) := by decide +kernel
theorem dX4_takesNumber_12 : decode cX4_takesNumber 12 = .ok (.getfield 119, 3) := by decide +kernel
theorem dX4_takesNumber_15 : decode cX4_takesNumber 15 = .ok (.aload_n 0, 1) := by decide +kernel
theorem dX4_takesNumber_16 : decode cX4_takesNumber 16 = .ok (.getfield 125, 3) := by decide +kernel
theorem dX4_takesNumber_19 : decode cX4_takesNumber 19 = .ok (.isub, 1) := by decide +kernel
theorem dX4_takesNumber_20 : decode cX4_takesNumber 20 = .ok (.iconst 2, 1) := by decide +kernel
theorem dX4_takesNumber_21 : decode cX4_takesNumber 21 = .ok (.if_icmp .le 5, 3) := by decide +kernel
theorem dX4_takesNumber_24 : decode cX4_takesNumber 24 = .ok (.iconst 0, 1) := by decide +kernel
theorem dX4_takesNumber_25 : decode cX4_takesNumber 25 = .ok (.ireturn, 1) := by decide +kernel
theorem dX4_takesNumber_26 : decode cX4_takesNumber 26 = .ok (.aload_n 0, 1) := by decide +kernel
theorem dX4_takesNumber_27 : decode cX4_takesNumber 27 = .ok (.getfield 27, 3) := by decide +kernel
theorem dX4_takesNumber_30 : decode cX4_takesNumber 30 = .ok (.iload_n 1, 1) := by decide +kernel
theorem dX4_takesNumber_31 : decode cX4_takesNumber 31 = .ok (.iconst 0, 1) := by decide +kernel
theorem dX4_takesNumber_32 : decode cX4_takesNumber 32 = .ok (.iastore, 1) := by decide +kernel
theorem dX4_takesNumber_33 : decode cX4_takesNumber 33 = .ok (.aload_n 0, 1) := by decide +kernel
theorem dX4_takesNumber_34 : decode cX4_takesNumber 34 = .ok (.getfield 125, 3) := by decide +kernel
theorem dX4_takesNumber_37 : decode cX4_takesNumber 37 = .ok (.istore_n 2, 1) := by decide +kernel
theorem dX4_takesNumber_38 : decode cX4_takesNumber 38 = .ok (.iload_n 2, 1) := by decide +kernel
theorem dX4_takesNumber_39 : decode cX4_takesNumber 39 = .ok (.aload_n 0, 1) := by decide +kernel
theorem dX4_takesNumber_40 : decode cX4_takesNumber 40 = .ok (.getfield 119, 3) := by decide +kernel
theorem dX4_takesNumber_43 : decode cX4_takesNumber 43 = .ok (.if_icmp .ge 33, 3) := by decide +kernel
theorem dX4_takesNumber_46 : decode cX4_takesNumber 46 = .ok (.aload_n 0, 1) := by decide +kernel
theorem dX4_takesNumber_47 : decode cX4_takesNumber 47 = .ok (.getfield 27, 3) := by decide +kernel
theorem dX4_takesNumber_50 : decode cX4_takesNumber 50 = .ok (.iload_n 1, 1) := by decide +kernel
theorem dX4_takesNumber_51 : decode cX4_takesNumber 51 = .ok (.bipush 10, 2) := by decide +kernel
theorem dX4_takesNumber_53 : decode cX4_takesNumber 53 = .ok (.aload_n 0, 1) := by decide +kernel
theorem dX4_takesNumber_54 : decode cX4_takesNumber 54 = .ok (.getfield 27, 3) := by decide +kernel
theorem dX4_takesNumber_57 : decode cX4_takesNumber 57 = .ok (.iload_n 1, 1) := by decide +kernel
theorem dX4_takesNumber_58 : decode cX4_takesNumber 58 = .ok (.iaload, 1) := by decide +kernel
theorem dX4_takesNumber_59 : decode cX4_takesNumber 59 = .ok (.imul, 1) := by decide +kernel
theorem dX4_takesNumber_60 : decode cX4_takesNumber 60 = .ok (.aload_n 0, 1) := by decide +kernel
theorem dX4_takesNumber_61 : decode cX4_takesNumber 61 = .ok (.iload_n 2, 1) := by decide +kernel
theorem dX4_takesNumber_62 : decode cX4_takesNumber 62 = .ok (.invokevirtual 122, 3) := by decide +kernel
theorem dX4_takesNumber_65 : decode cX4_takesNumber 65 = .ok (.iadd, 1) := by decide +kernel
theorem dX4_takesNumber_66 : decode cX4_takesNumber 66 = .ok (.bipush 48, 2) := by decide +kernel
theorem dX4_takesNumber_68 : decode cX4_takesNumber 68 = .ok (.isub, 1) := by decide +kernel
theorem dX4_takesNumber_69 : decode cX4_takesNumber 69 = .ok (.iastore, 1) := by decide +kernel
theorem dX4_takesNumber_70 : decode cX4_takesNumber 70 = .ok (.iinc 2 1, 3) := by decide +kernel
theorem dX4_takesNumber_73 : decode cX4_takesNumber 73 = .ok (.goto (-35), 3) := by decide +kernel
theorem dX4_takesNumber_76 : decode cX4_takesNumber 76 = .ok (.iconst 1, 1) := by decide +kernel
theorem dX4_takesNumber_77 : decode cX4_takesNumber 77 = .ok (.ireturn, 1) := by decide +kernel
theorem dX4_tellsItem_0 : decode cX4_tellsItem 0 = .ok (.iload_n 1, 1) := by decide +kernel
theorem dX4_tellsItem_1 : decode cX4_tellsItem 1 = .ok (.ifCond .ne 18, 3) := by decide +kernel
theorem dX4_tellsItem_4 : decode cX4_tellsItem 4 = .ok (.aload_n 0, 1) := by decide +kernel
theorem dX4_tellsItem_5 : decode cX4_tellsItem 5 = .ok (.sipush 3420, 3) := by decide +kernel
theorem dX4_tellsItem_8 : decode cX4_tellsItem 8 = .ok (.aload_n 0, 1) := by decide +kernel
theorem dX4_tellsItem_9 : decode cX4_tellsItem 9 = .ok (.getfield 27, 3) := by decide +kernel
theorem dX4_tellsItem_12 : decode cX4_tellsItem 12 = .ok (.iconst 0, 1) := by decide +kernel
theorem dX4_tellsItem_13 : decode cX4_tellsItem 13 = .ok (.iaload, 1) := by decide +kernel
theorem dX4_tellsItem_14 : decode cX4_tellsItem 14 = .ok (.invokevirtual 39, 3) := by decide +kernel
theorem dX4_tellsItem_17 : decode cX4_tellsItem 17 = .ok (.iconst 1, 1) := by decide +kernel
theorem dX4_tellsItem_18 : decode cX4_tellsItem 18 = .ok (.ireturn, 1) := by decide +kernel
theorem dX4_tellsItem_19 : decode cX4_tellsItem 19 = .ok (.iload_n 1, 1) := by decide +kernel
theorem dX4_tellsItem_20 : decode cX4_tellsItem 20 = .ok (.iconst 1, 1) := by decide +kernel
theorem dX4_tellsItem_21 : decode cX4_tellsItem 21 = .ok (.if_icmp .ne 70, 3) := by decide +kernel
theorem dX4_tellsItem_24 : decode cX4_tellsItem 24 = .ok (.aload_n 0, 1) := by decide +kernel
theorem dX4_tellsItem_25 : decode cX4_tellsItem 25 = .ok (.getfield 27, 3) := by decide +kernel
theorem dX4_tellsItem_28 : decode cX4_tellsItem 28 = .ok (.iconst 0, 1) := by decide +kernel
theorem dX4_tellsItem_29 : decode cX4_tellsItem 29 = .ok (.iaload, 1) := by decide +kernel
theorem dX4_tellsItem_30 : decode cX4_tellsItem 30 = .ok (.invokestatic 49, 3) := by decide +kernel
theorem dX4_tellsItem_33 : decode cX4_tellsItem 33 = .ok (.ifCond .eq 17, 3) := by decide +kernel
theorem dX4_tellsItem_36 : decode cX4_tellsItem 36 = .ok (.aload_n 0, 1) := by decide +kernel
theorem dX4_tellsItem_37 : decode cX4_tellsItem 37 = .ok (.getfield 27, 3) := by decide +kernel
theorem dX4_tellsItem_40 : decode cX4_tellsItem 40 = .ok (.iconst 1, 1) := by decide +kernel
theorem dX4_tellsItem_41 : decode cX4_tellsItem 41 = .ok (.iaload, 1) := by decide +kernel
theorem dX4_tellsItem_42 : decode cX4_tellsItem 42 = .ok (.iconst 5, 1) := by decide +kernel
theorem dX4_tellsItem_43 : decode cX4_tellsItem 43 = .ok (.if_icmp .gt 7, 3) := by decide +kernel
theorem dX4_tellsItem_46 : decode cX4_tellsItem 46 = .ok (.iconst 1, 1) := by decide +kernel
theorem dX4_tellsItem_47 : decode cX4_tellsItem 47 = .ok (.goto 4, 3) := by decide +kernel
theorem dX4_tellsItem_50 : decode cX4_tellsItem 50 = .ok (.iconst 0, 1) := by decide +kernel
theorem dX4_tellsItem_51 : decode cX4_tellsItem 51 = .ok (.istore_n 2, 1) := by decide +kernel
theorem dX4_tellsItem_52 : decode cX4_tellsItem 52 = .ok (.aload_n 0, 1) := by decide +kernel
theorem dX4_tellsItem_53 : decode cX4_tellsItem 53 = .ok (.getfield 7, 3) := by decide +kernel
theorem dX4_tellsItem_56 : decode cX4_tellsItem 56 = .ok (.sipush 3538, 3) := by decide +kernel
theorem dX4_tellsItem_59 : decode cX4_tellsItem 59 = .ok (.iload_n 2, 1) := by decide +kernel
theorem dX4_tellsItem_60 : decode cX4_tellsItem 60 = .ok (.ifCond .eq 12, 3) := by decide +kernel
theorem dX4_tellsItem_63 : decode cX4_tellsItem 63 = .ok (.aload_n 0, 1) := by decide +kernel
theorem dX4_tellsItem_64 : decode cX4_tellsItem 64 = .ok (.getfield 27, 3) := by decide +kernel
theorem dX4_tellsItem_67 : decode cX4_tellsItem 67 = .ok (.iconst 0, 1) := by decide +kernel
theorem dX4_tellsItem_68 : decode cX4_tellsItem 68 = .ok (.iaload, 1) := by decide +kernel
theorem dX4_tellsItem_69 : decode cX4_tellsItem 69 = .ok (.goto 4, 3) := by decide +kernel
theorem dX4_tellsItem_72 : decode cX4_tellsItem 72 = .ok (.iconst 0, 1) := by decide +kernel
theorem dX4_tellsItem_73 : decode cX4_tellsItem 73 = .ok (.iadd, 1) := by decide +kernel
theorem dX4_tellsItem_74 : decode cX4_tellsItem 74 = .ok (.iload_n 2, 1) := by decide +kernel
theorem dX4_tellsItem_75 : decode cX4_tellsItem 75 = .ok (.ifCond .eq 12, 3) := by decide +kernel
theorem dX4_tellsItem_78 : decode cX4_tellsItem 78 = .ok (.aload_n 0, 1) := by decide +kernel
theorem dX4_tellsItem_79 : decode cX4_tellsItem 79 = .ok (.getfield 27, 3) := by decide +kernel
theorem dX4_tellsItem_82 : decode cX4_tellsItem 82 = .ok (.iconst 1, 1) := by decide +kernel
theorem dX4_tellsItem_83 : decode cX4_tellsItem 83 = .ok (.iaload, 1) := by decide +kernel
theorem dX4_tellsItem_84 : decode cX4_tellsItem 84 = .ok (.goto 4, 3) := by decide +kernel
theorem dX4_tellsItem_87 : decode cX4_tellsItem 87 = .ok (.iconst 1, 1) := by decide +kernel
theorem dX4_tellsItem_88 : decode cX4_tellsItem 88 = .ok (.iastore, 1) := by decide +kernel
theorem dX4_tellsItem_89 : decode cX4_tellsItem 89 = .ok (.iload_n 2, 1) := by decide +kernel
theorem dX4_tellsItem_90 : decode cX4_tellsItem 90 = .ok (.ireturn, 1) := by decide +kernel
theorem dX4_tellsItem_91 : decode cX4_tellsItem 91 = .ok (.aload_n 0, 1) := by decide +kernel
theorem dX4_tellsItem_92 : decode cX4_tellsItem 92 = .ok (.getfield 27, 3) := by decide +kernel
theorem dX4_tellsItem_95 : decode cX4_tellsItem 95 = .ok (.iconst 0, 1) := by decide +kernel
theorem dX4_tellsItem_96 : decode cX4_tellsItem 96 = .ok (.iaload, 1) := by decide +kernel
theorem dX4_tellsItem_97 : decode cX4_tellsItem 97 = .ok (.aload_n 0, 1) := by decide +kernel
theorem dX4_tellsItem_98 : decode cX4_tellsItem 98 = .ok (.getfield 27, 3) := by decide +kernel
theorem dX4_tellsItem_101 : decode cX4_tellsItem 101 = .ok (.iconst 1, 1) := by decide +kernel
theorem dX4_tellsItem_102 : decode cX4_tellsItem 102 = .ok (.iaload, 1) := by decide +kernel
theorem dX4_tellsItem_103 : decode cX4_tellsItem 103 = .ok (.aload_n 0, 1) := by decide +kernel
theorem dX4_tellsItem_104 : decode cX4_tellsItem 104 = .ok (.getfield 27, 3) := by decide +kernel
theorem dX4_tellsItem_107 : decode cX4_tellsItem 107 = .ok (.iconst 2, 1) := by decide +kernel
theorem dX4_tellsItem_108 : decode cX4_tellsItem 108 = .ok (.iaload, 1) := by decide +kernel
theorem dX4_tellsItem_109 : decode cX4_tellsItem 109 = .ok (.aload_n 0, 1) := by decide +kernel
theorem dX4_tellsItem_110 : decode cX4_tellsItem 110 = .ok (.getfield 27, 3) := by decide +kernel
theorem dX4_tellsItem_113 : decode cX4_tellsItem 113 = .ok (.iconst 3, 1) := by decide +kernel
theorem dX4_tellsItem_114 : decode cX4_tellsItem 114 = .ok (.iaload, 1) := by decide +kernel
theorem dX4_tellsItem_115 : decode cX4_tellsItem 115 = .ok (.invokestatic 77, 3) := by decide +kernel
theorem dX4_tellsItem_118 : decode cX4_tellsItem 118 = .ok (.ifCond .eq 26, 3) := by decide +kernel
theorem dX4_tellsItem_121 : decode cX4_tellsItem 121 = .ok (.aload_n 0, 1) := by decide +kernel
theorem dX4_tellsItem_122 : decode cX4_tellsItem 122 = .ok (.getfield 7, 3) := by decide +kernel
theorem dX4_tellsItem_125 : decode cX4_tellsItem 125 = .ok (.sipush 3421, 3) := by decide +kernel
theorem dX4_tellsItem_128 : decode cX4_tellsItem 128 = .ok (.aload_n 0, 1) := by decide +kernel
theorem dX4_tellsItem_129 : decode cX4_tellsItem 129 = .ok (.getfield 27, 3) := by decide +kernel
theorem dX4_tellsItem_132 : decode cX4_tellsItem 132 = .ok (.iconst 0, 1) := by decide +kernel
theorem dX4_tellsItem_133 : decode cX4_tellsItem 133 = .ok (.iaload, 1) := by decide +kernel
theorem dX4_tellsItem_134 : decode cX4_tellsItem 134 = .ok (.iadd, 1) := by decide +kernel
theorem dX4_tellsItem_135 : decode cX4_tellsItem 135 = .ok (.iaload, 1) := by decide +kernel
theorem dX4_tellsItem_136 : decode cX4_tellsItem 136 = .ok (.iconst 3, 1) := by decide +kernel
theorem dX4_tellsItem_137 : decode cX4_tellsItem 137 = .ok (.if_icmp .ge 7, 3) := by decide +kernel
theorem dX4_tellsItem_140 : decode cX4_tellsItem 140 = .ok (.iconst 1, 1) := by decide +kernel
theorem dX4_tellsItem_141 : decode cX4_tellsItem 141 = .ok (.goto 4, 3) := by decide +kernel
theorem dX4_tellsItem_144 : decode cX4_tellsItem 144 = .ok (.iconst 0, 1) := by decide +kernel
theorem dX4_tellsItem_145 : decode cX4_tellsItem 145 = .ok (.istore_n 2, 1) := by decide +kernel
theorem dX4_tellsItem_146 : decode cX4_tellsItem 146 = .ok (.iload_n 2, 1) := by decide +kernel
theorem dX4_tellsItem_147 : decode cX4_tellsItem 147 = .ok (.ifCond .eq 34, 3) := by decide +kernel
theorem dX4_tellsItem_150 : decode cX4_tellsItem 150 = .ok (.aload_n 0, 1) := by decide +kernel
theorem dX4_tellsItem_151 : decode cX4_tellsItem 151 = .ok (.sipush 3420, 3) := by decide +kernel
theorem dX4_tellsItem_154 : decode cX4_tellsItem 154 = .ok (.aload_n 0, 1) := by decide +kernel
theorem dX4_tellsItem_155 : decode cX4_tellsItem 155 = .ok (.getfield 27, 3) := by decide +kernel
theorem dX4_tellsItem_158 : decode cX4_tellsItem 158 = .ok (.iconst 0, 1) := by decide +kernel
theorem dX4_tellsItem_159 : decode cX4_tellsItem 159 = .ok (.iaload, 1) := by decide +kernel
theorem dX4_tellsItem_160 : decode cX4_tellsItem 160 = .ok (.aload_n 0, 1) := by decide +kernel
theorem dX4_tellsItem_161 : decode cX4_tellsItem 161 = .ok (.getfield 27, 3) := by decide +kernel
theorem dX4_tellsItem_164 : decode cX4_tellsItem 164 = .ok (.iconst 1, 1) := by decide +kernel
theorem dX4_tellsItem_165 : decode cX4_tellsItem 165 = .ok (.iaload, 1) := by decide +kernel
theorem dX4_tellsItem_166 : decode cX4_tellsItem 166 = .ok (.aload_n 0, 1) := by decide +kernel
theorem dX4_tellsItem_167 : decode cX4_tellsItem 167 = .ok (.getfield 27, 3) := by decide +kernel
theorem dX4_tellsItem_170 : decode cX4_tellsItem 170 = .ok (.iconst 2, 1) := by decide +kernel
theorem dX4_tellsItem_171 : decode cX4_tellsItem 171 = .ok (.iaload, 1) := by decide +kernel
theorem dX4_tellsItem_172 : decode cX4_tellsItem 172 = .ok (.aload_n 0, 1) := by decide +kernel
theorem dX4_tellsItem_173 : decode cX4_tellsItem 173 = .ok (.getfield 27, 3) := by decide +kernel
theorem dX4_tellsItem_176 : decode cX4_tellsItem 176 = .ok (.iconst 3, 1) := by decide +kernel
theorem dX4_tellsItem_177 : decode cX4_tellsItem 177 = .ok (.iaload, 1) := by decide +kernel
theorem dX4_tellsItem_178 : decode cX4_tellsItem 178 = .ok (.invokevirtual 87, 3) := by decide +kernel
theorem dX4_tellsItem_181 : decode cX4_tellsItem 181 = .ok (.iload_n 2, 1) := by decide +kernel
theorem dX4_tellsItem_182 : decode cX4_tellsItem 182 = .ok (.ireturn, 1) := by decide +kernel
theorem dX4_takesItem_0 : decode cX4_takesItem 0 = .ok (.aload_n 0, 1) := by decide +kernel
theorem dX4_takesItem_1 : decode cX4_takesItem 1 = .ok (.invokevirtual 149, 3) := by decide +kernel
theorem dX4_takesItem_4 : decode cX4_takesItem 4 = .ok (.istore_n 2, 1) := by decide +kernel
theorem dX4_takesItem_5 : decode cX4_takesItem 5 = .ok (.iload_n 2, 1) := by decide +kernel
theorem dX4_takesItem_6 : decode cX4_takesItem 6 = .ok (.iconst (-1), 1) := by decide +kernel
theorem dX4_takesItem_7 : decode cX4_takesItem 7 = .ok (.if_icmp .eq 24, 3) := by decide +kernel
theorem dX4_takesItem_10 : decode cX4_takesItem 10 = .ok (.iload_n 2, 1) := by decide +kernel
theorem dX4_takesItem_11 : decode cX4_takesItem 11 = .ok (.ifCond .ne 7, 3) := by decide +kernel
theorem dX4_takesItem_14 : decode cX4_takesItem 14 = .ok (.iconst 1, 1) := by decide +kernel
theorem dX4_takesItem_15 : decode cX4_takesItem 15 = .ok (.goto 4, 3) := by decide +kernel
theorem dX4_takesItem_18 : decode cX4_takesItem 18 = .ok (.iconst 0, 1) := by decide +kernel
theorem dX4_takesItem_19 : decode cX4_takesItem 19 = .ok (.iload_n 1, 1) := by decide +kernel
theorem dX4_takesItem_20 : decode cX4_takesItem 20 = .ok (.ifCond .ne 7, 3) := by decide +kernel
theorem dX4_takesItem_23 : decode cX4_takesItem 23 = .ok (.iconst 1, 1) := by decide +kernel
theorem dX4_takesItem_24 : decode cX4_takesItem 24 = .ok (.goto 4, 3) := by decide +kernel
theorem dX4_takesItem_27 : decode cX4_takesItem 27 = .ok (.iconst 0, 1) := by decide +kernel
theorem dX4_takesItem_28 : decode cX4_takesItem 28 = .ok (.if_icmp .eq 5, 3) := by decide +kernel
theorem dX4_takesItem_31 : decode cX4_takesItem 31 = .ok (.iconst 0, 1) := by decide +kernel
theorem dX4_takesItem_32 : decode cX4_takesItem 32 = .ok (.ireturn, 1) := by decide +kernel
theorem dX4_takesItem_33 : decode cX4_takesItem 33 = .ok (.iload_n 2, 1) := by decide +kernel
theorem dX4_takesItem_34 : decode cX4_takesItem 34 = .ok (.ifCond .ne 7, 3) := by decide +kernel
theorem dX4_takesItem_37 : decode cX4_takesItem 37 = .ok (.iconst 1, 1) := by decide +kernel
theorem dX4_takesItem_38 : decode cX4_takesItem 38 = .ok (.goto 13, 3) := by decide +kernel
theorem dX4_takesItem_41 : decode cX4_takesItem 41 = .ok (.iload_n 2, 1) := by decide +kernel
theorem dX4_takesItem_42 : decode cX4_takesItem 42 = .ok (.iconst 1, 1) := by decide +kernel
theorem dX4_takesItem_43 : decode cX4_takesItem 43 = .ok (.if_icmp .ne 7, 3) := by decide +kernel
theorem dX4_takesItem_46 : decode cX4_takesItem 46 = .ok (.iconst 2, 1) := by decide +kernel
theorem dX4_takesItem_47 : decode cX4_takesItem 47 = .ok (.goto 4, 3) := by decide +kernel
theorem dX4_takesItem_50 : decode cX4_takesItem 50 = .ok (.iconst 4, 1) := by decide +kernel
theorem dX4_takesItem_51 : decode cX4_takesItem 51 = .ok (.istore_n 3, 1) := by decide +kernel
theorem dX4_takesItem_52 : decode cX4_takesItem 52 = .ok (.iconst 0, 1) := by decide +kernel
theorem dX4_takesItem_53 : decode cX4_takesItem 53 = .ok (.istore 4, 2) := by decide +kernel
theorem dX4_takesItem_55 : decode cX4_takesItem 55 = .ok (.iload 4, 2) := by decide +kernel
theorem dX4_takesItem_57 : decode cX4_takesItem 57 = .ok (.iload_n 3, 1) := by decide +kernel
theorem dX4_takesItem_58 : decode cX4_takesItem 58 = .ok (.if_icmp .ge 20, 3) := by decide +kernel
theorem dX4_takesItem_61 : decode cX4_takesItem 61 = .ok (.aload_n 0, 1) := by decide +kernel
theorem dX4_takesItem_62 : decode cX4_takesItem 62 = .ok (.iload 4, 2) := by decide +kernel
theorem dX4_takesItem_64 : decode cX4_takesItem 64 = .ok (.invokevirtual 152, 3) := by decide +kernel
theorem dX4_takesItem_67 : decode cX4_takesItem 67 = .ok (.ifCond .ne 5, 3) := by decide +kernel
theorem dX4_takesItem_70 : decode cX4_takesItem 70 = .ok (.iconst 0, 1) := by decide +kernel
theorem dX4_takesItem_71 : decode cX4_takesItem 71 = .ok (.ireturn, 1) := by decide +kernel
theorem dX4_takesItem_72 : decode cX4_takesItem 72 = .ok (.iinc 4 1, 3) := by decide +kernel
theorem dX4_takesItem_75 : decode cX4_takesItem 75 = .ok (.goto (-20), 3) := by decide +kernel
theorem dX4_takesItem_78 : decode cX4_takesItem 78 = .ok (.aload_n 0, 1) := by decide +kernel
theorem dX4_takesItem_79 : decode cX4_takesItem 79 = .ok (.invokevirtual 146, 3) := by decide +kernel
theorem dX4_takesItem_82 : decode cX4_takesItem 82 = .ok (.aload_n 0, 1) := by decide +kernel
theorem dX4_takesItem_83 : decode cX4_takesItem 83 = .ok (.aload_n 0, 1) := by decide +kernel
theorem dX4_takesItem_84 : decode cX4_takesItem 84 = .ok (.getfield 125, 3) := by decide +kernel
theorem dX4_takesItem_87 : decode cX4_takesItem 87 = .ok (.invokevirtual 122, 3) := by decide +kernel
theorem dX4_takesItem_90 : decode cX4_takesItem 90 = .ok (.bipush 59, 2) := by decide +kernel
theorem dX4_takesItem_92 : decode cX4_takesItem 92 = .ok (.if_icmp .eq 5, 3) := by decide +kernel
theorem dX4_takesItem_95 : decode cX4_takesItem 95 = .ok (.iconst 0, 1) := by decide +kernel
theorem dX4_takesItem_96 : decode cX4_takesItem 96 = .ok (.ireturn, 1) := by decide +kernel
theorem dX4_takesItem_97 : decode cX4_takesItem 97 = .ok (.aload_n 0, 1) := by decide +kernel
theorem dX4_takesItem_98 : decode cX4_takesItem 98 = .ok (.getfield 155, 3) := by decide +kernel
theorem dX4_takesItem_101 : decode cX4_takesItem 101 = .ok (.iconst (-1), 1) := by decide +kernel
theorem dX4_takesItem_102 : decode cX4_takesItem 102 = .ok (.if_icmp .ne 16, 3) := by decide +kernel
theorem dX4_takesItem_105 : decode cX4_takesItem 105 = .ok (.aload_n 0, 1) := by decide +kernel
theorem dX4_takesItem_106 : decode cX4_takesItem 106 = .ok (.iload_n 2, 1) := by decide +kernel
theorem dX4_takesItem_107 : decode cX4_takesItem 107 = .ok (.invokevirtual 158, 3) := by decide +kernel
theorem dX4_takesItem_110 : decode cX4_takesItem 110 = .ok (.ifCond .ne 8, 3) := by decide +kernel
theorem dX4_takesItem_113 : decode cX4_takesItem 113 = .ok (.aload_n 0, 1) := by decide +kernel
theorem dX4_takesItem_114 : decode cX4_takesItem 114 = .ok (.iload_n 1, 1) := by decide +kernel
theorem dX4_takesItem_115 : decode cX4_takesItem 115 = .ok (.putfield 155, 3) := by decide +kernel
theorem dX4_takesItem_118 : decode cX4_takesItem 118 = .ok (.iconst 1, 1) := by decide +kernel
theorem dX4_takesItem_119 : decode cX4_takesItem 119 = .ok (.ireturn, 1) := by decide +kernel
theorem dX4_read_0 : decode cX4_read 0 = .ok (.aload_n 0, 1) := by decide +kernel
theorem dX4_read_1 : decode cX4_read 1 = .ok (.iconst 0, 1) := by decide +kernel
theorem dX4_read_2 : decode cX4_read 2 = .ok (.putfield 119, 3) := by decide +kernel
theorem dX4_read_5 : decode cX4_read 5 = .ok (.iconst 0, 1) := by decide +kernel
theorem dX4_read_6 : decode cX4_read 6 = .ok (.istore_n 1, 1) := by decide +kernel
theorem dX4_read_7 : decode cX4_read 7 = .ok (.aload_n 0, 1) := by decide +kernel
theorem dX4_read_8 : decode cX4_read 8 = .ok (.iconst (-1), 1) := by decide +kernel
theorem dX4_read_9 : decode cX4_read 9 = .ok (.putfield 155, 3) := by decide +kernel
theorem dX4_read_12 : decode cX4_read 12 = .ok (.aload_n 0, 1) := by decide +kernel
theorem dX4_read_13 : decode cX4_read 13 = .ok (.sipush 3420, 3) := by decide +kernel
theorem dX4_read_16 : decode cX4_read 16 = .ok (.iconst 0, 1) := by decide +kernel
theorem dX4_read_17 : decode cX4_read 17 = .ok (.invokevirtual 39, 3) := by decide +kernel
theorem dX4_read_20 : decode cX4_read 20 = .ok (.aload_n 0, 1) := by decide +kernel
theorem dX4_read_21 : decode cX4_read 21 = .ok (.invokevirtual 146, 3) := by decide +kernel
theorem dX4_read_24 : decode cX4_read 24 = .ok (.aload_n 0, 1) := by decide +kernel
theorem dX4_read_25 : decode cX4_read 25 = .ok (.getfield 125, 3) := by decide +kernel
theorem dX4_read_28 : decode cX4_read 28 = .ok (.aload_n 0, 1) := by decide +kernel
theorem dX4_read_29 : decode cX4_read 29 = .ok (.getfield 115, 3) := by decide +kernel
theorem dX4_read_32 : decode cX4_read 32 = .ok (.if_icmp .lt 7, 3) := by decide +kernel
theorem dX4_read_35 : decode cX4_read 35 = .ok (.iload_n 1, 1) := by decide +kernel
theorem dX4_read_36 : decode cX4_read 36 = .ok (.ifCond .ne 29, 3) := by decide +kernel
theorem dX4_read_39 : decode cX4_read 39 = .ok (.aload_n 0, 1) := by decide +kernel
theorem dX4_read_40 : decode cX4_read 40 = .ok (.iload_n 1, 1) := by decide +kernel
theorem dX4_read_41 : decode cX4_read 41 = .ok (.invokevirtual 161, 3) := by decide +kernel
theorem dX4_read_44 : decode cX4_read 44 = .ok (.ifCond .ne 11, 3) := by decide +kernel
theorem dX4_read_47 : decode cX4_read 47 = .ok (.bipush (-10), 2) := by decide +kernel
theorem dX4_read_49 : decode cX4_read 49 = .ok (.aload_n 0, 1) := by decide +kernel
theorem dX4_read_50 : decode cX4_read 50 = .ok (.getfield 125, 3) := by decide +kernel
theorem dX4_read_53 : decode cX4_read 53 = .ok (.isub, 1) := by decide +kernel
theorem dX4_read_54 : decode cX4_read 54 = .ok (.ireturn, 1) := by decide +kernel
theorem dX4_read_55 : decode cX4_read 55 = .ok (.iinc 1 1, 3) := by decide +kernel
theorem dX4_read_58 : decode cX4_read 58 = .ok (.aload_n 0, 1) := by decide +kernel
theorem dX4_read_59 : decode cX4_read 59 = .ok (.invokevirtual 146, 3) := by decide +kernel
theorem dX4_read_62 : decode cX4_read 62 = .ok (.goto (-38), 3) := by decide +kernel
theorem dX4_read_65 : decode cX4_read 65 = .ok (.aload_n 0, 1) := by decide +kernel
theorem dX4_read_66 : decode cX4_read 66 = .ok (.getfield 155, 3) := by decide +kernel
theorem dX4_read_69 : decode cX4_read 69 = .ok (.iconst (-1), 1) := by decide +kernel
theorem dX4_read_70 : decode cX4_read 70 = .ok (.if_icmp .eq 12, 3) := by decide +kernel
theorem dX4_read_73 : decode cX4_read 73 = .ok (.sipush (-1000), 3) := by decide +kernel
theorem dX4_read_76 : decode cX4_read 76 = .ok (.aload_n 0, 1) := by decide +kernel
theorem dX4_read_77 : decode cX4_read 77 = .ok (.getfield 155, 3) := by decide +kernel
theorem dX4_read_80 : decode cX4_read 80 = .ok (.isub, 1) := by decide +kernel
theorem dX4_read_81 : decode cX4_read 81 = .ok (.ireturn, 1) := by decide +kernel
theorem dX4_read_82 : decode cX4_read 82 = .ok (.aload_n 0, 1) := by decide +kernel
theorem dX4_read_83 : decode cX4_read 83 = .ok (.sipush 3420, 3) := by decide +kernel
theorem dX4_read_86 : decode cX4_read 86 = .ok (.iconst 0, 1) := by decide +kernel
theorem dX4_read_87 : decode cX4_read 87 = .ok (.sipush 147, 3) := by decide +kernel
theorem dX4_read_90 : decode cX4_read 90 = .ok (.invokevirtual 73, 3) := by decide +kernel
theorem dX4_read_93 : decode cX4_read 93 = .ok (.iload_n 1, 1) := by decide +kernel
theorem dX4_read_94 : decode cX4_read 94 = .ok (.ireturn, 1) := by decide +kernel
theorem dX4_countsOf_0 : decode cX4_countsOf 0 = .ok (.iconst 0, 1) := by decide +kernel
theorem dX4_countsOf_1 : decode cX4_countsOf 1 = .ok (.istore 4, 2) := by decide +kernel
theorem dX4_countsOf_3 : decode cX4_countsOf 3 = .ok (.iconst 0, 1) := by decide +kernel
theorem dX4_countsOf_4 : decode cX4_countsOf 4 = .ok (.istore 5, 2) := by decide +kernel
theorem dX4_countsOf_6 : decode cX4_countsOf 6 = .ok (.iload 5, 2) := by decide +kernel
theorem dX4_countsOf_8 : decode cX4_countsOf 8 = .ok (.iload_n 3, 1) := by decide +kernel
theorem dX4_countsOf_9 : decode cX4_countsOf 9 = .ok (.if_icmp .gt 145, 3) := by decide +kernel
theorem dX4_countsOf_12 : decode cX4_countsOf 12 = .ok (.iload_n 1, 1) := by decide +kernel
theorem dX4_countsOf_13 : decode cX4_countsOf 13 = .ok (.iload_n 2, 1) := by decide +kernel
theorem dX4_countsOf_14 : decode cX4_countsOf 14 = .ok (.iload 5, 2) := by decide +kernel
theorem dX4_countsOf_16 : decode cX4_countsOf 16 = .ok (.invokestatic 59, 3) := by decide +kernel
theorem dX4_countsOf_19 : decode cX4_countsOf 19 = .ok (.iadd, 1) := by decide +kernel
theorem dX4_countsOf_20 : decode cX4_countsOf 20 = .ok (.istore 6, 2) := by decide +kernel
theorem dX4_countsOf_22 : decode cX4_countsOf 22 = .ok (.aload_n 0, 1) := by decide +kernel
theorem dX4_countsOf_23 : decode cX4_countsOf 23 = .ok (.getfield 7, 3) := by decide +kernel
theorem dX4_countsOf_26 : decode cX4_countsOf 26 = .ok (.iload 6, 2) := by decide +kernel
theorem dX4_countsOf_28 : decode cX4_countsOf 28 = .ok (.iconst 2, 1) := by decide +kernel
theorem dX4_countsOf_29 : decode cX4_countsOf 29 = .ok (.iadd, 1) := by decide +kernel
theorem dX4_countsOf_30 : decode cX4_countsOf 30 = .ok (.iaload, 1) := by decide +kernel
theorem dX4_countsOf_31 : decode cX4_countsOf 31 = .ok (.istore 7, 2) := by decide +kernel
theorem dX4_countsOf_33 : decode cX4_countsOf 33 = .ok (.aload_n 0, 1) := by decide +kernel
theorem dX4_countsOf_34 : decode cX4_countsOf 34 = .ok (.getfield 7, 3) := by decide +kernel
theorem dX4_countsOf_37 : decode cX4_countsOf 37 = .ok (.iload 6, 2) := by decide +kernel
theorem dX4_countsOf_39 : decode cX4_countsOf 39 = .ok (.iaload, 1) := by decide +kernel
theorem dX4_countsOf_40 : decode cX4_countsOf 40 = .ok (.tableswitch 104 1 5 #[36, 45, 54, 45, 92], 36) := by decide +kernel
theorem dX4_countsOf_76 : decode cX4_countsOf 76 = .ok (.iconst 2, 1) := by decide +kernel
theorem dX4_countsOf_77 : decode cX4_countsOf 77 = .ok (.iload 7, 2) := by decide +kernel
theorem dX4_countsOf_79 : decode cX4_countsOf 79 = .ok (.imul, 1) := by decide +kernel
theorem dX4_countsOf_80 : decode cX4_countsOf 80 = .ok (.istore 4, 2) := by decide +kernel
theorem dX4_countsOf_82 : decode cX4_countsOf 82 = .ok (.goto 66, 3) := by decide +kernel
theorem dX4_countsOf_85 : decode cX4_countsOf 85 = .ok (.iload 7, 2) := by decide +kernel
theorem dX4_countsOf_87 : decode cX4_countsOf 87 = .ok (.iconst 2, 1) := by decide +kernel
theorem dX4_countsOf_88 : decode cX4_countsOf 88 = .ok (.idiv, 1) := by decide +kernel
theorem dX4_countsOf_89 : decode cX4_countsOf 89 = .ok (.istore 4, 2) := by decide +kernel
theorem dX4_countsOf_91 : decode cX4_countsOf 91 = .ok (.goto 57, 3) := by decide +kernel
theorem dX4_countsOf_94 : decode cX4_countsOf 94 = .ok (.iconst 2, 1) := by decide +kernel
theorem dX4_countsOf_95 : decode cX4_countsOf 95 = .ok (.iload 7, 2) := by decide +kernel
theorem dX4_countsOf_97 : decode cX4_countsOf 97 = .ok (.imul, 1) := by decide +kernel
theorem dX4_countsOf_98 : decode cX4_countsOf 98 = .ok (.aload_n 0, 1) := by decide +kernel
theorem dX4_countsOf_99 : decode cX4_countsOf 99 = .ok (.getfield 7, 3) := by decide +kernel
theorem dX4_countsOf_102 : decode cX4_countsOf 102 = .ok (.iload_n 1, 1) := by decide +kernel
theorem dX4_countsOf_103 : decode cX4_countsOf 103 = .ok (.iconst 0, 1) := by decide +kernel
theorem dX4_countsOf_104 : decode cX4_countsOf 104 = .ok (.iadd, 1) := by decide +kernel
theorem dX4_countsOf_105 : decode cX4_countsOf 105 = .ok (.iaload, 1) := by decide +kernel
theorem dX4_countsOf_106 : decode cX4_countsOf 106 = .ok (.aload_n 0, 1) := by decide +kernel
theorem dX4_countsOf_107 : decode cX4_countsOf 107 = .ok (.getfield 7, 3) := by decide +kernel
theorem dX4_countsOf_110 : decode cX4_countsOf 110 = .ok (.iload 6, 2) := by decide +kernel
theorem dX4_countsOf_112 : decode cX4_countsOf 112 = .ok (.iconst 3, 1) := by decide +kernel
theorem dX4_countsOf_113 : decode cX4_countsOf 113 = .ok (.iadd, 1) := by decide +kernel
theorem dX4_countsOf_114 : decode cX4_countsOf 114 = .ok (.iaload, 1) := by decide +kernel
theorem dX4_countsOf_115 : decode cX4_countsOf 115 = .ok (.isub, 1) := by decide +kernel
theorem dX4_countsOf_116 : decode cX4_countsOf 116 = .ok (.bipush 10, 2) := by decide +kernel
theorem dX4_countsOf_118 : decode cX4_countsOf 118 = .ok (.if_icmp .lt 7, 3) := by decide +kernel
theorem dX4_countsOf_121 : decode cX4_countsOf 121 = .ok (.iconst 3, 1) := by decide +kernel
theorem dX4_countsOf_122 : decode cX4_countsOf 122 = .ok (.goto 4, 3) := by decide +kernel
theorem dX4_countsOf_125 : decode cX4_countsOf 125 = .ok (.iconst 0, 1) := by decide +kernel
theorem dX4_countsOf_126 : decode cX4_countsOf 126 = .ok (.iadd, 1) := by decide +kernel
theorem dX4_countsOf_127 : decode cX4_countsOf 127 = .ok (.istore 4, 2) := by decide +kernel
theorem dX4_countsOf_129 : decode cX4_countsOf 129 = .ok (.goto 19, 3) := by decide +kernel
theorem dX4_countsOf_132 : decode cX4_countsOf 132 = .ok (.iload 7, 2) := by decide +kernel
theorem dX4_countsOf_134 : decode cX4_countsOf 134 = .ok (.iload 4, 2) := by decide +kernel
theorem dX4_countsOf_136 : decode cX4_countsOf 136 = .ok (.iconst 2, 1) := by decide +kernel
theorem dX4_countsOf_137 : decode cX4_countsOf 137 = .ok (.idiv, 1) := by decide +kernel
theorem dX4_countsOf_138 : decode cX4_countsOf 138 = .ok (.iadd, 1) := by decide +kernel
theorem dX4_countsOf_139 : decode cX4_countsOf 139 = .ok (.istore 4, 2) := by decide +kernel
theorem dX4_countsOf_141 : decode cX4_countsOf 141 = .ok (.goto 7, 3) := by decide +kernel
theorem dX4_countsOf_144 : decode cX4_countsOf 144 = .ok (.iload 7, 2) := by decide +kernel
theorem dX4_countsOf_146 : decode cX4_countsOf 146 = .ok (.istore 4, 2) := by decide +kernel
theorem dX4_countsOf_148 : decode cX4_countsOf 148 = .ok (.iinc 5 1, 3) := by decide +kernel
theorem dX4_countsOf_151 : decode cX4_countsOf 151 = .ok (.goto (-145), 3) := by decide +kernel
theorem dX4_countsOf_154 : decode cX4_countsOf 154 = .ok (.iload 4, 2) := by decide +kernel
theorem dX4_countsOf_156 : decode cX4_countsOf 156 = .ok (.ireturn, 1) := by decide +kernel
theorem dX4_of_0 : decode cX4_of 0 = .ok (.iload_n 1, 1) := by decide +kernel
theorem dX4_of_1 : decode cX4_of 1 = .ok (.invokestatic 49, 3) := by decide +kernel
theorem dX4_of_4 : decode cX4_of 4 = .ok (.ifCond .eq 27, 3) := by decide +kernel
theorem dX4_of_7 : decode cX4_of 7 = .ok (.iload_n 2, 1) := by decide +kernel
theorem dX4_of_8 : decode cX4_of 8 = .ok (.i2l, 1) := by decide +kernel
theorem dX4_of_9 : decode cX4_of 9 = .ok (.lconst 0, 1) := by decide +kernel
theorem dX4_of_10 : decode cX4_of 10 = .ok (.ldc2_w 55, 3) := by decide +kernel
theorem dX4_of_13 : decode cX4_of 13 = .ok (.invokestatic 45, 3) := by decide +kernel
theorem dX4_of_16 : decode cX4_of 16 = .ok (.ifCond .eq 15, 3) := by decide +kernel
theorem dX4_of_19 : decode cX4_of 19 = .ok (.iload_n 3, 1) := by decide +kernel
theorem dX4_of_20 : decode cX4_of 20 = .ok (.i2l, 1) := by decide +kernel
theorem dX4_of_21 : decode cX4_of 21 = .ok (.lconst 0, 1) := by decide +kernel
theorem dX4_of_22 : decode cX4_of 22 = .ok (.ldc2_w 53, 3) := by decide +kernel
theorem dX4_of_25 : decode cX4_of 25 = .ok (.invokestatic 45, 3) := by decide +kernel
theorem dX4_of_28 : decode cX4_of 28 = .ok (.ifCond .ne 8, 3) := by decide +kernel
theorem dX4_of_31 : decode cX4_of 31 = .ok (.aload_n 0, 1) := by decide +kernel
theorem dX4_of_32 : decode cX4_of 32 = .ok (.invokevirtual 65, 3) := by decide +kernel
theorem dX4_of_35 : decode cX4_of 35 = .ok (.ireturn, 1) := by decide +kernel
theorem dX4_of_36 : decode cX4_of 36 = .ok (.iload_n 2, 1) := by decide +kernel
theorem dX4_of_37 : decode cX4_of 37 = .ok (.aload_n 0, 1) := by decide +kernel
theorem dX4_of_38 : decode cX4_of 38 = .ok (.getfield 7, 3) := by decide +kernel
theorem dX4_of_41 : decode cX4_of 41 = .ok (.iconst 1, 1) := by decide +kernel
theorem dX4_of_42 : decode cX4_of 42 = .ok (.iload_n 1, 1) := by decide +kernel
theorem dX4_of_43 : decode cX4_of 43 = .ok (.iadd, 1) := by decide +kernel
theorem dX4_of_44 : decode cX4_of 44 = .ok (.iaload, 1) := by decide +kernel
theorem dX4_of_45 : decode cX4_of 45 = .ok (.if_icmp .lt 5, 3) := by decide +kernel
theorem dX4_of_48 : decode cX4_of 48 = .ok (.iconst (-1), 1) := by decide +kernel
theorem dX4_of_49 : decode cX4_of 49 = .ok (.ireturn, 1) := by decide +kernel
theorem dX4_of_50 : decode cX4_of 50 = .ok (.iload_n 1, 1) := by decide +kernel
theorem dX4_of_51 : decode cX4_of 51 = .ok (.iload_n 2, 1) := by decide +kernel
theorem dX4_of_52 : decode cX4_of 52 = .ok (.invokestatic 59, 3) := by decide +kernel
theorem dX4_of_55 : decode cX4_of 55 = .ok (.istore 4, 2) := by decide +kernel
theorem dX4_of_57 : decode cX4_of 57 = .ok (.iload_n 3, 1) := by decide +kernel
theorem dX4_of_58 : decode cX4_of 58 = .ok (.iconst 4, 1) := by decide +kernel
theorem dX4_of_59 : decode cX4_of 59 = .ok (.if_icmp .ge 15, 3) := by decide +kernel
theorem dX4_of_62 : decode cX4_of 62 = .ok (.aload_n 0, 1) := by decide +kernel
theorem dX4_of_63 : decode cX4_of 63 = .ok (.getfield 7, 3) := by decide +kernel
theorem dX4_of_66 : decode cX4_of 66 = .ok (.iload 4, 2) := by decide +kernel
theorem dX4_of_68 : decode cX4_of 68 = .ok (.iload_n 3, 1) := by decide +kernel
theorem dX4_of_69 : decode cX4_of 69 = .ok (.iadd, 1) := by decide +kernel
theorem dX4_of_70 : decode cX4_of 70 = .ok (.iaload, 1) := by decide +kernel
theorem dX4_of_71 : decode cX4_of 71 = .ok (.goto 43, 3) := by decide +kernel
theorem dX4_of_74 : decode cX4_of 74 = .ok (.iload_n 3, 1) := by decide +kernel
theorem dX4_of_75 : decode cX4_of 75 = .ok (.iconst 4, 1) := by decide +kernel
theorem dX4_of_76 : decode cX4_of 76 = .ok (.if_icmp .ne 13, 3) := by decide +kernel
theorem dX4_of_79 : decode cX4_of 79 = .ok (.aload_n 0, 1) := by decide +kernel
theorem dX4_of_80 : decode cX4_of 80 = .ok (.iconst 0, 1) := by decide +kernel
theorem dX4_of_81 : decode cX4_of 81 = .ok (.iload_n 1, 1) := by decide +kernel
theorem dX4_of_82 : decode cX4_of 82 = .ok (.iload_n 2, 1) := by decide +kernel
theorem dX4_of_83 : decode cX4_of 83 = .ok (.invokevirtual 164, 3) := by decide +kernel
theorem dX4_of_86 : decode cX4_of 86 = .ok (.goto 28, 3) := by decide +kernel
theorem dX4_of_89 : decode cX4_of 89 = .ok (.aload_n 0, 1) := by decide +kernel
theorem dX4_of_90 : decode cX4_of 90 = .ok (.getfield 7, 3) := by decide +kernel
theorem dX4_of_93 : decode cX4_of 93 = .ok (.iload 4, 2) := by decide +kernel
theorem dX4_of_95 : decode cX4_of 95 = .ok (.iaload, 1) := by decide +kernel
theorem dX4_of_96 : decode cX4_of 96 = .ok (.aload_n 0, 1) := by decide +kernel
theorem dX4_of_97 : decode cX4_of 97 = .ok (.getfield 7, 3) := by decide +kernel
theorem dX4_of_100 : decode cX4_of 100 = .ok (.bipush 118, 2) := by decide +kernel
theorem dX4_of_102 : decode cX4_of 102 = .ok (.iload_n 1, 1) := by decide +kernel
theorem dX4_of_103 : decode cX4_of 103 = .ok (.iadd, 1) := by decide +kernel
theorem dX4_of_104 : decode cX4_of 104 = .ok (.iaload, 1) := by decide +kernel
theorem dX4_of_105 : decode cX4_of 105 = .ok (.aload_n 0, 1) := by decide +kernel
theorem dX4_of_106 : decode cX4_of 106 = .ok (.getfield 7, 3) := by decide +kernel
theorem dX4_of_109 : decode cX4_of 109 = .ok (.iconst 0, 1) := by decide +kernel
theorem dX4_of_110 : decode cX4_of 110 = .ok (.iaload, 1) := by decide +kernel
theorem dX4_of_111 : decode cX4_of 111 = .ok (.invokestatic 97, 3) := by decide +kernel
theorem dX4_of_114 : decode cX4_of 114 = .ok (.ireturn, 1) := by decide +kernel
theorem dX4_cell_0 : decode cX4_cell 0 = .ok (.iload_n 1, 1) := by decide +kernel
theorem dX4_cell_1 : decode cX4_cell 1 = .ok (.invokestatic 49, 3) := by decide +kernel
theorem dX4_cell_4 : decode cX4_cell 4 = .ok (.ifCond .eq 13, 3) := by decide +kernel
theorem dX4_cell_7 : decode cX4_cell 7 = .ok (.iload_n 2, 1) := by decide +kernel
theorem dX4_cell_8 : decode cX4_cell 8 = .ok (.i2l, 1) := by decide +kernel
theorem dX4_cell_9 : decode cX4_cell 9 = .ok (.lconst 0, 1) := by decide +kernel
theorem dX4_cell_10 : decode cX4_cell 10 = .ok (.lconst 1, 1) := by decide +kernel
theorem dX4_cell_11 : decode cX4_cell 11 = .ok (.invokestatic 45, 3) := by decide +kernel
theorem dX4_cell_14 : decode cX4_cell 14 = .ok (.ifCond .ne 8, 3) := by decide +kernel
theorem dX4_cell_17 : decode cX4_cell 17 = .ok (.aload_n 0, 1) := by decide +kernel
theorem dX4_cell_18 : decode cX4_cell 18 = .ok (.invokevirtual 65, 3) := by decide +kernel
theorem dX4_cell_21 : decode cX4_cell 21 = .ok (.ireturn, 1) := by decide +kernel
theorem dX4_cell_22 : decode cX4_cell 22 = .ok (.iload_n 2, 1) := by decide +kernel
theorem dX4_cell_23 : decode cX4_cell 23 = .ok (.ifCond .ne 15, 3) := by decide +kernel
theorem dX4_cell_26 : decode cX4_cell 26 = .ok (.aload_n 0, 1) := by decide +kernel
theorem dX4_cell_27 : decode cX4_cell 27 = .ok (.getfield 7, 3) := by decide +kernel
theorem dX4_cell_30 : decode cX4_cell 30 = .ok (.bipush 118, 2) := by decide +kernel
theorem dX4_cell_32 : decode cX4_cell 32 = .ok (.iload_n 1, 1) := by decide +kernel
theorem dX4_cell_33 : decode cX4_cell 33 = .ok (.iadd, 1) := by decide +kernel
theorem dX4_cell_34 : decode cX4_cell 34 = .ok (.iaload, 1) := by decide +kernel
theorem dX4_cell_35 : decode cX4_cell 35 = .ok (.goto 11, 3) := by decide +kernel
theorem dX4_cell_38 : decode cX4_cell 38 = .ok (.aload_n 0, 1) := by decide +kernel
theorem dX4_cell_39 : decode cX4_cell 39 = .ok (.getfield 7, 3) := by decide +kernel
theorem dX4_cell_42 : decode cX4_cell 42 = .ok (.iconst 1, 1) := by decide +kernel
theorem dX4_cell_43 : decode cX4_cell 43 = .ok (.iload_n 1, 1) := by decide +kernel
theorem dX4_cell_44 : decode cX4_cell 44 = .ok (.iadd, 1) := by decide +kernel
theorem dX4_cell_45 : decode cX4_cell 45 = .ok (.iaload, 1) := by decide +kernel
theorem dX4_cell_46 : decode cX4_cell 46 = .ok (.ireturn, 1) := by decide +kernel
theorem dX4_familyAt_0 : decode cX4_familyAt 0 = .ok (.aload_n 0, 1) := by decide +kernel
theorem dX4_familyAt_1 : decode cX4_familyAt 1 = .ok (.iload_n 1, 1) := by decide +kernel
theorem dX4_familyAt_2 : decode cX4_familyAt 2 = .ok (.iload_n 2, 1) := by decide +kernel
theorem dX4_familyAt_3 : decode cX4_familyAt 3 = .ok (.invokevirtual 94, 3) := by decide +kernel
theorem dX4_familyAt_6 : decode cX4_familyAt 6 = .ok (.istore_n 3, 1) := by decide +kernel
theorem dX4_familyAt_7 : decode cX4_familyAt 7 = .ok (.iload_n 3, 1) := by decide +kernel
theorem dX4_familyAt_8 : decode cX4_familyAt 8 = .ok (.ifCond .ge 7, 3) := by decide +kernel
theorem dX4_familyAt_11 : decode cX4_familyAt 11 = .ok (.iconst (-1), 1) := by decide +kernel
theorem dX4_familyAt_12 : decode cX4_familyAt 12 = .ok (.goto 11, 3) := by decide +kernel
theorem dX4_familyAt_15 : decode cX4_familyAt 15 = .ok (.aload_n 0, 1) := by decide +kernel
theorem dX4_familyAt_16 : decode cX4_familyAt 16 = .ok (.getfield 7, 3) := by decide +kernel
theorem dX4_familyAt_19 : decode cX4_familyAt 19 = .ok (.iload_n 3, 1) := by decide +kernel
theorem dX4_familyAt_20 : decode cX4_familyAt 20 = .ok (.iconst 1, 1) := by decide +kernel
theorem dX4_familyAt_21 : decode cX4_familyAt 21 = .ok (.iadd, 1) := by decide +kernel
theorem dX4_familyAt_22 : decode cX4_familyAt 22 = .ok (.iaload, 1) := by decide +kernel
theorem dX4_familyAt_23 : decode cX4_familyAt 23 = .ok (.ireturn, 1) := by decide +kernel
theorem dX4_linesOf_0 : decode cX4_linesOf 0 = .ok (.iconst 0, 1) := by decide +kernel
theorem dX4_linesOf_1 : decode cX4_linesOf 1 = .ok (.istore_n 3, 1) := by decide +kernel
theorem dX4_linesOf_2 : decode cX4_linesOf 2 = .ok (.iconst 0, 1) := by decide +kernel
theorem dX4_linesOf_3 : decode cX4_linesOf 3 = .ok (.istore 4, 2) := by decide +kernel
theorem dX4_linesOf_5 : decode cX4_linesOf 5 = .ok (.iload 4, 2) := by decide +kernel
theorem dX4_linesOf_7 : decode cX4_linesOf 7 = .ok (.bipush 9, 2) := by decide +kernel
theorem dX4_linesOf_9 : decode cX4_linesOf 9 = .ok (.if_icmp .ge 31, 3) := by decide +kernel
theorem dX4_linesOf_12 : decode cX4_linesOf 12 = .ok (.iload_n 3, 1) := by decide +kernel
theorem dX4_linesOf_13 : decode cX4_linesOf 13 = .ok (.aload_n 0, 1) := by decide +kernel
theorem dX4_linesOf_14 : decode cX4_linesOf 14 = .ok (.iload_n 1, 1) := by decide +kernel
theorem dX4_linesOf_15 : decode cX4_linesOf 15 = .ok (.iload 4, 2) := by decide +kernel
theorem dX4_linesOf_17 : decode cX4_linesOf 17 = .ok (.invokevirtual 167, 3) := by decide +kernel
theorem dX4_linesOf_20 : decode cX4_linesOf 20 = .ok (.iload_n 2, 1) := by decide +kernel
theorem dX4_linesOf_21 : decode cX4_linesOf 21 = .ok (.if_icmp .ne 10, 3) := by decide +kernel
theorem dX4_linesOf_24 : decode cX4_linesOf 24 = .ok (.iconst 1, 1) := by decide +kernel
theorem dX4_linesOf_25 : decode cX4_linesOf 25 = .ok (.iload 4, 2) := by decide +kernel
theorem dX4_linesOf_27 : decode cX4_linesOf 27 = .ok (.ishl, 1) := by decide +kernel
theorem dX4_linesOf_28 : decode cX4_linesOf 28 = .ok (.goto 4, 3) := by decide +kernel
theorem dX4_linesOf_31 : decode cX4_linesOf 31 = .ok (.iconst 0, 1) := by decide +kernel
theorem dX4_linesOf_32 : decode cX4_linesOf 32 = .ok (.ior, 1) := by decide +kernel
theorem dX4_linesOf_33 : decode cX4_linesOf 33 = .ok (.istore_n 3, 1) := by decide +kernel
theorem dX4_linesOf_34 : decode cX4_linesOf 34 = .ok (.iinc 4 1, 3) := by decide +kernel
theorem dX4_linesOf_37 : decode cX4_linesOf 37 = .ok (.goto (-32), 3) := by decide +kernel
theorem dX4_linesOf_40 : decode cX4_linesOf 40 = .ok (.iconst 0, 1) := by decide +kernel
theorem dX4_linesOf_41 : decode cX4_linesOf 41 = .ok (.istore 4, 2) := by decide +kernel
theorem dX4_linesOf_43 : decode cX4_linesOf 43 = .ok (.iconst 0, 1) := by decide +kernel
theorem dX4_linesOf_44 : decode cX4_linesOf 44 = .ok (.istore 5, 2) := by decide +kernel
theorem dX4_linesOf_46 : decode cX4_linesOf 46 = .ok (.iload 5, 2) := by decide +kernel
theorem dX4_linesOf_48 : decode cX4_linesOf 48 = .ok (.iconst 3, 1) := by decide +kernel
theorem dX4_linesOf_49 : decode cX4_linesOf 49 = .ok (.if_icmp .ge 55, 3) := by decide +kernel
theorem dX4_linesOf_52 : decode cX4_linesOf 52 = .ok (.iload 4, 2) := by decide +kernel
theorem dX4_linesOf_54 : decode cX4_linesOf 54 = .ok (.iload_n 3, 1) := by decide +kernel
theorem dX4_linesOf_55 : decode cX4_linesOf 55 = .ok (.iconst 3, 1) := by decide +kernel
theorem dX4_linesOf_56 : decode cX4_linesOf 56 = .ok (.iload 5, 2) := by decide +kernel
theorem dX4_linesOf_58 : decode cX4_linesOf 58 = .ok (.imul, 1) := by decide +kernel
theorem dX4_linesOf_59 : decode cX4_linesOf 59 = .ok (.ishr, 1) := by decide +kernel
theorem dX4_linesOf_60 : decode cX4_linesOf 60 = .ok (.bipush 7, 2) := by decide +kernel
theorem dX4_linesOf_62 : decode cX4_linesOf 62 = .ok (.iand, 1) := by decide +kernel
theorem dX4_linesOf_63 : decode cX4_linesOf 63 = .ok (.bipush 7, 2) := by decide +kernel
theorem dX4_linesOf_65 : decode cX4_linesOf 65 = .ok (.if_icmp .ne 7, 3) := by decide +kernel
theorem dX4_linesOf_68 : decode cX4_linesOf 68 = .ok (.iconst 1, 1) := by decide +kernel
theorem dX4_linesOf_69 : decode cX4_linesOf 69 = .ok (.goto 4, 3) := by decide +kernel
theorem dX4_linesOf_72 : decode cX4_linesOf 72 = .ok (.iconst 0, 1) := by decide +kernel
theorem dX4_linesOf_73 : decode cX4_linesOf 73 = .ok (.iadd, 1) := by decide +kernel
theorem dX4_linesOf_74 : decode cX4_linesOf 74 = .ok (.istore 4, 2) := by decide +kernel
theorem dX4_linesOf_76 : decode cX4_linesOf 76 = .ok (.iload 4, 2) := by decide +kernel
theorem dX4_linesOf_78 : decode cX4_linesOf 78 = .ok (.iload_n 3, 1) := by decide +kernel
theorem dX4_linesOf_79 : decode cX4_linesOf 79 = .ok (.iload 5, 2) := by decide +kernel
theorem dX4_linesOf_81 : decode cX4_linesOf 81 = .ok (.ishr, 1) := by decide +kernel
theorem dX4_linesOf_82 : decode cX4_linesOf 82 = .ok (.bipush 73, 2) := by decide +kernel
theorem dX4_linesOf_84 : decode cX4_linesOf 84 = .ok (.iand, 1) := by decide +kernel
theorem dX4_linesOf_85 : decode cX4_linesOf 85 = .ok (.bipush 73, 2) := by decide +kernel
theorem dX4_linesOf_87 : decode cX4_linesOf 87 = .ok (.if_icmp .ne 7, 3) := by decide +kernel
theorem dX4_linesOf_90 : decode cX4_linesOf 90 = .ok (.iconst 1, 1) := by decide +kernel
theorem dX4_linesOf_91 : decode cX4_linesOf 91 = .ok (.goto 4, 3) := by decide +kernel
theorem dX4_linesOf_94 : decode cX4_linesOf 94 = .ok (.iconst 0, 1) := by decide +kernel
theorem dX4_linesOf_95 : decode cX4_linesOf 95 = .ok (.iadd, 1) := by decide +kernel
theorem dX4_linesOf_96 : decode cX4_linesOf 96 = .ok (.istore 4, 2) := by decide +kernel
theorem dX4_linesOf_98 : decode cX4_linesOf 98 = .ok (.iinc 5 1, 3) := by decide +kernel
theorem dX4_linesOf_101 : decode cX4_linesOf 101 = .ok (.goto (-55), 3) := by decide +kernel
theorem dX4_linesOf_104 : decode cX4_linesOf 104 = .ok (.iload 4, 2) := by decide +kernel
theorem dX4_linesOf_106 : decode cX4_linesOf 106 = .ok (.iload_n 3, 1) := by decide +kernel
theorem dX4_linesOf_107 : decode cX4_linesOf 107 = .ok (.sipush 273, 3) := by decide +kernel
theorem dX4_linesOf_110 : decode cX4_linesOf 110 = .ok (.iand, 1) := by decide +kernel
theorem dX4_linesOf_111 : decode cX4_linesOf 111 = .ok (.sipush 273, 3) := by decide +kernel
theorem dX4_linesOf_114 : decode cX4_linesOf 114 = .ok (.if_icmp .ne 7, 3) := by decide +kernel
theorem dX4_linesOf_117 : decode cX4_linesOf 117 = .ok (.iconst 1, 1) := by decide +kernel
theorem dX4_linesOf_118 : decode cX4_linesOf 118 = .ok (.goto 4, 3) := by decide +kernel
theorem dX4_linesOf_121 : decode cX4_linesOf 121 = .ok (.iconst 0, 1) := by decide +kernel
theorem dX4_linesOf_122 : decode cX4_linesOf 122 = .ok (.iadd, 1) := by decide +kernel
theorem dX4_linesOf_123 : decode cX4_linesOf 123 = .ok (.iload_n 3, 1) := by decide +kernel
theorem dX4_linesOf_124 : decode cX4_linesOf 124 = .ok (.bipush 84, 2) := by decide +kernel
theorem dX4_linesOf_126 : decode cX4_linesOf 126 = .ok (.iand, 1) := by decide +kernel
theorem dX4_linesOf_127 : decode cX4_linesOf 127 = .ok (.bipush 84, 2) := by decide +kernel
theorem dX4_linesOf_129 : decode cX4_linesOf 129 = .ok (.if_icmp .ne 7, 3) := by decide +kernel
theorem dX4_linesOf_132 : decode cX4_linesOf 132 = .ok (.iconst 1, 1) := by decide +kernel
theorem dX4_linesOf_133 : decode cX4_linesOf 133 = .ok (.goto 4, 3) := by decide +kernel
theorem dX4_linesOf_136 : decode cX4_linesOf 136 = .ok (.iconst 0, 1) := by decide +kernel
theorem dX4_linesOf_137 : decode cX4_linesOf 137 = .ok (.iadd, 1) := by decide +kernel
theorem dX4_linesOf_138 : decode cX4_linesOf 138 = .ok (.ireturn, 1) := by decide +kernel
theorem dX4_claimsIn_0 : decode cX4_claimsIn 0 = .ok (.iload_n 3, 1) := by decide +kernel
theorem dX4_claimsIn_1 : decode cX4_claimsIn 1 = .ok (.iconst 2, 1) := by decide +kernel
theorem dX4_claimsIn_2 : decode cX4_claimsIn 2 = .ok (.if_icmp .ne 10, 3) := by decide +kernel
theorem dX4_claimsIn_5 : decode cX4_claimsIn 5 = .ok (.aload_n 0, 1) := by decide +kernel
theorem dX4_claimsIn_6 : decode cX4_claimsIn 6 = .ok (.iload_n 1, 1) := by decide +kernel
theorem dX4_claimsIn_7 : decode cX4_claimsIn 7 = .ok (.iload_n 2, 1) := by decide +kernel
theorem dX4_claimsIn_8 : decode cX4_claimsIn 8 = .ok (.invokevirtual 170, 3) := by decide +kernel
theorem dX4_claimsIn_11 : decode cX4_claimsIn 11 = .ok (.ireturn, 1) := by decide +kernel
theorem dX4_claimsIn_12 : decode cX4_claimsIn 12 = .ok (.iconst 0, 1) := by decide +kernel
theorem dX4_claimsIn_13 : decode cX4_claimsIn 13 = .ok (.istore 4, 2) := by decide +kernel
theorem dX4_claimsIn_15 : decode cX4_claimsIn 15 = .ok (.iconst 0, 1) := by decide +kernel
theorem dX4_claimsIn_16 : decode cX4_claimsIn 16 = .ok (.istore 5, 2) := by decide +kernel
theorem dX4_claimsIn_18 : decode cX4_claimsIn 18 = .ok (.iload 5, 2) := by decide +kernel
theorem dX4_claimsIn_20 : decode cX4_claimsIn 20 = .ok (.bipush 9, 2) := by decide +kernel
theorem dX4_claimsIn_22 : decode cX4_claimsIn 22 = .ok (.if_icmp .ge 166, 3) := by decide +kernel
theorem dX4_claimsIn_25 : decode cX4_claimsIn 25 = .ok (.iload 4, 2) := by decide +kernel
theorem dX4_claimsIn_27 : decode cX4_claimsIn 27 = .ok (.iload_n 3, 1) := by decide +kernel
theorem dX4_claimsIn_28 : decode cX4_claimsIn 28 = .ok (.iconst 1, 1) := by decide +kernel
theorem dX4_claimsIn_29 : decode cX4_claimsIn 29 = .ok (.if_icmp .ne 18, 3) := by decide +kernel
theorem dX4_claimsIn_32 : decode cX4_claimsIn 32 = .ok (.aload_n 0, 1) := by decide +kernel
theorem dX4_claimsIn_33 : decode cX4_claimsIn 33 = .ok (.iload_n 1, 1) := by decide +kernel
theorem dX4_claimsIn_34 : decode cX4_claimsIn 34 = .ok (.iload 5, 2) := by decide +kernel
theorem dX4_claimsIn_36 : decode cX4_claimsIn 36 = .ok (.invokevirtual 167, 3) := by decide +kernel
theorem dX4_claimsIn_39 : decode cX4_claimsIn 39 = .ok (.iload_n 2, 1) := by decide +kernel
theorem dX4_claimsIn_40 : decode cX4_claimsIn 40 = .ok (.if_icmp .ne 7, 3) := by decide +kernel
theorem dX4_claimsIn_43 : decode cX4_claimsIn 43 = .ok (.iconst 1, 1) := by decide +kernel
theorem dX4_claimsIn_44 : decode cX4_claimsIn 44 = .ok (.goto 4, 3) := by decide +kernel
theorem dX4_claimsIn_47 : decode cX4_claimsIn 47 = .ok (.iconst 0, 1) := by decide +kernel
theorem dX4_claimsIn_48 : decode cX4_claimsIn 48 = .ok (.iadd, 1) := by decide +kernel
theorem dX4_claimsIn_49 : decode cX4_claimsIn 49 = .ok (.istore 4, 2) := by decide +kernel
theorem dX4_claimsIn_51 : decode cX4_claimsIn 51 = .ok (.iconst 0, 1) := by decide +kernel
theorem dX4_claimsIn_52 : decode cX4_claimsIn 52 = .ok (.istore 6, 2) := by decide +kernel
theorem dX4_claimsIn_54 : decode cX4_claimsIn 54 = .ok (.iload 6, 2) := by decide +kernel
theorem dX4_claimsIn_56 : decode cX4_claimsIn 56 = .ok (.aload_n 0, 1) := by decide +kernel
theorem dX4_claimsIn_57 : decode cX4_claimsIn 57 = .ok (.getfield 7, 3) := by decide +kernel
theorem dX4_claimsIn_60 : decode cX4_claimsIn 60 = .ok (.iload_n 1, 1) := by decide +kernel
theorem dX4_claimsIn_61 : decode cX4_claimsIn 61 = .ok (.iconst 1, 1) := by decide +kernel
theorem dX4_claimsIn_62 : decode cX4_claimsIn 62 = .ok (.iadd, 1) := by decide +kernel
theorem dX4_claimsIn_63 : decode cX4_claimsIn 63 = .ok (.iload 5, 2) := by decide +kernel
theorem dX4_claimsIn_65 : decode cX4_claimsIn 65 = .ok (.iadd, 1) := by decide +kernel
theorem dX4_claimsIn_66 : decode cX4_claimsIn 66 = .ok (.iaload, 1) := by decide +kernel
theorem dX4_claimsIn_67 : decode cX4_claimsIn 67 = .ok (.if_icmp .ge 115, 3) := by decide +kernel
theorem dX4_claimsIn_70 : decode cX4_claimsIn 70 = .ok (.iload_n 1, 1) := by decide +kernel
theorem dX4_claimsIn_71 : decode cX4_claimsIn 71 = .ok (.iload 5, 2) := by decide +kernel
theorem dX4_claimsIn_73 : decode cX4_claimsIn 73 = .ok (.iload 6, 2) := by decide +kernel
theorem dX4_claimsIn_75 : decode cX4_claimsIn 75 = .ok (.invokestatic 59, 3) := by decide +kernel
theorem dX4_claimsIn_78 : decode cX4_claimsIn 78 = .ok (.iadd, 1) := by decide +kernel
theorem dX4_claimsIn_79 : decode cX4_claimsIn 79 = .ok (.istore 7, 2) := by decide +kernel
theorem dX4_claimsIn_81 : decode cX4_claimsIn 81 = .ok (.aload_n 0, 1) := by decide +kernel
theorem dX4_claimsIn_82 : decode cX4_claimsIn 82 = .ok (.getfield 7, 3) := by decide +kernel
theorem dX4_claimsIn_85 : decode cX4_claimsIn 85 = .ok (.iload_n 1, 1) := by decide +kernel
theorem dX4_claimsIn_86 : decode cX4_claimsIn 86 = .ok (.iconst 0, 1) := by decide +kernel
theorem dX4_claimsIn_87 : decode cX4_claimsIn 87 = .ok (.iadd, 1) := by decide +kernel
theorem dX4_claimsIn_88 : decode cX4_claimsIn 88 = .ok (.iaload, 1) := by decide +kernel
theorem dX4_claimsIn_89 : decode cX4_claimsIn 89 = .ok (.aload_n 0, 1) := by decide +kernel
theorem dX4_claimsIn_90 : decode cX4_claimsIn 90 = .ok (.getfield 7, 3) := by decide +kernel
theorem dX4_claimsIn_93 : decode cX4_claimsIn 93 = .ok (.iload 7, 2) := by decide +kernel
theorem dX4_claimsIn_95 : decode cX4_claimsIn 95 = .ok (.iconst 3, 1) := by decide +kernel
theorem dX4_claimsIn_96 : decode cX4_claimsIn 96 = .ok (.iadd, 1) := by decide +kernel
theorem dX4_claimsIn_97 : decode cX4_claimsIn 97 = .ok (.iaload, 1) := by decide +kernel
theorem dX4_claimsIn_98 : decode cX4_claimsIn 98 = .ok (.isub, 1) := by decide +kernel
theorem dX4_claimsIn_99 : decode cX4_claimsIn 99 = .ok (.iconst 1, 1) := by decide +kernel
theorem dX4_claimsIn_100 : decode cX4_claimsIn 100 = .ok (.iadd, 1) := by decide +kernel
theorem dX4_claimsIn_101 : decode cX4_claimsIn 101 = .ok (.istore 8, 2) := by decide +kernel
theorem dX4_claimsIn_103 : decode cX4_claimsIn 103 = .ok (.aload_n 0, 1) := by decide +kernel
theorem dX4_claimsIn_104 : decode cX4_claimsIn 104 = .ok (.getfield 7, 3) := by decide +kernel
theorem dX4_claimsIn_107 : decode cX4_claimsIn 107 = .ok (.iload 7, 2) := by decide +kernel
theorem dX4_claimsIn_109 : decode cX4_claimsIn 109 = .ok (.iconst 1, 1) := by decide +kernel
theorem dX4_claimsIn_110 : decode cX4_claimsIn 110 = .ok (.iadd, 1) := by decide +kernel
theorem dX4_claimsIn_111 : decode cX4_claimsIn 111 = .ok (.iaload, 1) := by decide +kernel
theorem dX4_claimsIn_112 : decode cX4_claimsIn 112 = .ok (.iload_n 2, 1) := by decide +kernel
theorem dX4_claimsIn_113 : decode cX4_claimsIn 113 = .ok (.if_icmp .ne 7, 3) := by decide +kernel
theorem dX4_claimsIn_116 : decode cX4_claimsIn 116 = .ok (.iconst 1, 1) := by decide +kernel
theorem dX4_claimsIn_117 : decode cX4_claimsIn 117 = .ok (.goto 4, 3) := by decide +kernel
theorem dX4_claimsIn_120 : decode cX4_claimsIn 120 = .ok (.iconst 0, 1) := by decide +kernel
theorem dX4_claimsIn_121 : decode cX4_claimsIn 121 = .ok (.istore 9, 2) := by decide +kernel
theorem dX4_claimsIn_123 : decode cX4_claimsIn 123 = .ok (.iload 4, 2) := by decide +kernel
theorem dX4_claimsIn_125 : decode cX4_claimsIn 125 = .ok (.iload 9, 2) := by decide +kernel
theorem dX4_claimsIn_127 : decode cX4_claimsIn 127 = .ok (.ifCond .eq 19, 3) := by decide +kernel
theorem dX4_claimsIn_130 : decode cX4_claimsIn 130 = .ok (.iload_n 3, 1) := by decide +kernel
theorem dX4_claimsIn_131 : decode cX4_claimsIn 131 = .ok (.ifCond .ne 15, 3) := by decide +kernel
theorem dX4_claimsIn_134 : decode cX4_claimsIn 134 = .ok (.aload_n 0, 1) := by decide +kernel
theorem dX4_claimsIn_135 : decode cX4_claimsIn 135 = .ok (.iload_n 1, 1) := by decide +kernel
theorem dX4_claimsIn_136 : decode cX4_claimsIn 136 = .ok (.iload 5, 2) := by decide +kernel
theorem dX4_claimsIn_138 : decode cX4_claimsIn 138 = .ok (.iload 6, 2) := by decide +kernel
theorem dX4_claimsIn_140 : decode cX4_claimsIn 140 = .ok (.invokevirtual 164, 3) := by decide +kernel
theorem dX4_claimsIn_143 : decode cX4_claimsIn 143 = .ok (.goto 4, 3) := by decide +kernel
theorem dX4_claimsIn_146 : decode cX4_claimsIn 146 = .ok (.iconst 0, 1) := by decide +kernel
theorem dX4_claimsIn_147 : decode cX4_claimsIn 147 = .ok (.iadd, 1) := by decide +kernel
theorem dX4_claimsIn_148 : decode cX4_claimsIn 148 = .ok (.istore 4, 2) := by decide +kernel
theorem dX4_claimsIn_150 : decode cX4_claimsIn 150 = .ok (.iload 9, 2) := by decide +kernel
theorem dX4_claimsIn_152 : decode cX4_claimsIn 152 = .ok (.ifCond .eq 20, 3) := by decide +kernel
theorem dX4_claimsIn_155 : decode cX4_claimsIn 155 = .ok (.iload_n 3, 1) := by decide +kernel
theorem dX4_claimsIn_156 : decode cX4_claimsIn 156 = .ok (.iconst 3, 1) := by decide +kernel
theorem dX4_claimsIn_157 : decode cX4_claimsIn 157 = .ok (.if_icmp .ne 15, 3) := by decide +kernel
theorem dX4_claimsIn_160 : decode cX4_claimsIn 160 = .ok (.iload 8, 2) := by decide +kernel
theorem dX4_claimsIn_162 : decode cX4_claimsIn 162 = .ok (.iload 4, 2) := by decide +kernel
theorem dX4_claimsIn_164 : decode cX4_claimsIn 164 = .ok (.if_icmp .le 8, 3) := by decide +kernel
theorem dX4_claimsIn_167 : decode cX4_claimsIn 167 = .ok (.iload 8, 2) := by decide +kernel
theorem dX4_claimsIn_169 : decode cX4_claimsIn 169 = .ok (.goto 5, 3) := by decide +kernel
theorem dX4_claimsIn_172 : decode cX4_claimsIn 172 = .ok (.iload 4, 2) := by decide +kernel
theorem dX4_claimsIn_174 : decode cX4_claimsIn 174 = .ok (.istore 4, 2) := by decide +kernel
theorem dX4_claimsIn_176 : decode cX4_claimsIn 176 = .ok (.iinc 6 1, 3) := by decide +kernel
theorem dX4_claimsIn_179 : decode cX4_claimsIn 179 = .ok (.goto (-125), 3) := by decide +kernel
theorem dX4_claimsIn_182 : decode cX4_claimsIn 182 = .ok (.iinc 5 1, 3) := by decide +kernel
theorem dX4_claimsIn_185 : decode cX4_claimsIn 185 = .ok (.goto (-167), 3) := by decide +kernel
theorem dX4_claimsIn_188 : decode cX4_claimsIn 188 = .ok (.iload 4, 2) := by decide +kernel
theorem dX4_claimsIn_190 : decode cX4_claimsIn 190 = .ok (.ireturn, 1) := by decide +kernel
theorem dX4_ownerIn_0 : decode cX4_ownerIn 0 = .ok (.iconst 0, 1) := by decide +kernel
theorem dX4_ownerIn_1 : decode cX4_ownerIn 1 = .ok (.istore_n 3, 1) := by decide +kernel
theorem dX4_ownerIn_2 : decode cX4_ownerIn 2 = .ok (.iconst 0, 1) := by decide +kernel
theorem dX4_ownerIn_3 : decode cX4_ownerIn 3 = .ok (.istore 4, 2) := by decide +kernel
theorem dX4_ownerIn_5 : decode cX4_ownerIn 5 = .ok (.iconst 1, 1) := by decide +kernel
theorem dX4_ownerIn_6 : decode cX4_ownerIn 6 = .ok (.istore 5, 2) := by decide +kernel
theorem dX4_ownerIn_8 : decode cX4_ownerIn 8 = .ok (.iconst 0, 1) := by decide +kernel
theorem dX4_ownerIn_9 : decode cX4_ownerIn 9 = .ok (.istore 6, 2) := by decide +kernel
theorem dX4_ownerIn_11 : decode cX4_ownerIn 11 = .ok (.iload 6, 2) := by decide +kernel
theorem dX4_ownerIn_13 : decode cX4_ownerIn 13 = .ok (.iconst 3, 1) := by decide +kernel
theorem dX4_ownerIn_14 : decode cX4_ownerIn 14 = .ok (.if_icmp .ge 75, 3) := by decide +kernel
theorem dX4_ownerIn_17 : decode cX4_ownerIn 17 = .ok (.aload_n 0, 1) := by decide +kernel
theorem dX4_ownerIn_18 : decode cX4_ownerIn 18 = .ok (.iload_n 1, 1) := by decide +kernel
theorem dX4_ownerIn_19 : decode cX4_ownerIn 19 = .ok (.iload 6, 2) := by decide +kernel
theorem dX4_ownerIn_21 : decode cX4_ownerIn 21 = .ok (.iload_n 2, 1) := by decide +kernel
theorem dX4_ownerIn_22 : decode cX4_ownerIn 22 = .ok (.invokevirtual 173, 3) := by decide +kernel
theorem dX4_ownerIn_25 : decode cX4_ownerIn 25 = .ok (.istore 7, 2) := by decide +kernel
theorem dX4_ownerIn_27 : decode cX4_ownerIn 27 = .ok (.iload 7, 2) := by decide +kernel
theorem dX4_ownerIn_29 : decode cX4_ownerIn 29 = .ok (.iload 4, 2) := by decide +kernel
theorem dX4_ownerIn_31 : decode cX4_ownerIn 31 = .ok (.if_icmp .eq 15, 3) := by decide +kernel
theorem dX4_ownerIn_34 : decode cX4_ownerIn 34 = .ok (.iload 5, 2) := by decide +kernel
theorem dX4_ownerIn_36 : decode cX4_ownerIn 36 = .ok (.ifCond .eq 14, 3) := by decide +kernel
theorem dX4_ownerIn_39 : decode cX4_ownerIn 39 = .ok (.iload 7, 2) := by decide +kernel
theorem dX4_ownerIn_41 : decode cX4_ownerIn 41 = .ok (.iload 4, 2) := by decide +kernel
theorem dX4_ownerIn_43 : decode cX4_ownerIn 43 = .ok (.if_icmp .ge 7, 3) := by decide +kernel
theorem dX4_ownerIn_46 : decode cX4_ownerIn 46 = .ok (.iconst 1, 1) := by decide +kernel
theorem dX4_ownerIn_47 : decode cX4_ownerIn 47 = .ok (.goto 4, 3) := by decide +kernel
theorem dX4_ownerIn_50 : decode cX4_ownerIn 50 = .ok (.iconst 0, 1) := by decide +kernel
theorem dX4_ownerIn_51 : decode cX4_ownerIn 51 = .ok (.istore 5, 2) := by decide +kernel
theorem dX4_ownerIn_53 : decode cX4_ownerIn 53 = .ok (.iload 7, 2) := by decide +kernel
theorem dX4_ownerIn_55 : decode cX4_ownerIn 55 = .ok (.iload 4, 2) := by decide +kernel
theorem dX4_ownerIn_57 : decode cX4_ownerIn 57 = .ok (.if_icmp .le 8, 3) := by decide +kernel
theorem dX4_ownerIn_60 : decode cX4_ownerIn 60 = .ok (.iload 6, 2) := by decide +kernel
theorem dX4_ownerIn_62 : decode cX4_ownerIn 62 = .ok (.goto 4, 3) := by decide +kernel
theorem dX4_ownerIn_65 : decode cX4_ownerIn 65 = .ok (.iload_n 3, 1) := by decide +kernel
theorem dX4_ownerIn_66 : decode cX4_ownerIn 66 = .ok (.istore_n 3, 1) := by decide +kernel
theorem dX4_ownerIn_67 : decode cX4_ownerIn 67 = .ok (.iload 7, 2) := by decide +kernel
theorem dX4_ownerIn_69 : decode cX4_ownerIn 69 = .ok (.iload 4, 2) := by decide +kernel
theorem dX4_ownerIn_71 : decode cX4_ownerIn 71 = .ok (.if_icmp .le 8, 3) := by decide +kernel
theorem dX4_ownerIn_74 : decode cX4_ownerIn 74 = .ok (.iload 7, 2) := by decide +kernel
theorem dX4_ownerIn_76 : decode cX4_ownerIn 76 = .ok (.goto 5, 3) := by decide +kernel
theorem dX4_ownerIn_79 : decode cX4_ownerIn 79 = .ok (.iload 4, 2) := by decide +kernel
theorem dX4_ownerIn_81 : decode cX4_ownerIn 81 = .ok (.istore 4, 2) := by decide +kernel
theorem dX4_ownerIn_83 : decode cX4_ownerIn 83 = .ok (.iinc 6 1, 3) := by decide +kernel
theorem dX4_ownerIn_86 : decode cX4_ownerIn 86 = .ok (.goto (-75), 3) := by decide +kernel
