theorem dX3_init_0 : decode cX3_init 0 = .ok (.aload_n 0, 1) := by decide +kernel
theorem dX3_init_1 : decode cX3_init 1 = .ok (.invokespecial 3, 3) := by decide +kernel
theorem dX3_init_4 : decode cX3_init 4 = .ok (.aload_n 0, 1) := by decide +kernel
theorem dX3_init_5 : decode cX3_init 5 = .ok (.new 9, 3) := by decide +kernel
theorem dX3_init_8 : decode cX3_init 8 = .ok (.dup, 1) := by decide +kernel
theorem dX3_init_9 : decode cX3_init 9 = .ok (.invokespecial 11, 3) := by decide +kernel
theorem dX3_init_12 : decode cX3_init 12 = .ok (.putfield 12, 3) := by decide +kernel
theorem dX3_init_15 : decode cX3_init 15 = .ok (.aload_n 0, 1) := by decide +kernel
theorem dX3_init_16 : decode cX3_init 16 = .ok (.iconst 2, 1) := by decide +kernel
theorem dX3_init_17 : decode cX3_init 17 = .ok (.anewarray 9, 3) := by decide +kernel
theorem dX3_init_20 : decode cX3_init 20 = .ok (.putfield 16, 3) := by decide +kernel
theorem dX3_init_23 : decode cX3_init 23 = .ok (.aload_n 0, 1) := by decide +kernel
theorem dX3_init_24 : decode cX3_init 24 = .ok (.new 20, 3) := by decide +kernel
theorem dX3_init_27 : decode cX3_init 27 = .ok (.dup, 1) := by decide +kernel
theorem dX3_init_28 : decode cX3_init 28 = .ok (.invokespecial 22, 3) := by decide +kernel
theorem dX3_init_31 : decode cX3_init 31 = .ok (.putfield 23, 3) := by decide +kernel
theorem dX3_init_34 : decode cX3_init 34 = .ok (.aload_n 0, 1) := by decide +kernel
theorem dX3_init_35 : decode cX3_init 35 = .ok (.new 27, 3) := by decide +kernel
theorem dX3_init_38 : decode cX3_init 38 = .ok (.dup, 1) := by decide +kernel
theorem dX3_init_39 : decode cX3_init 39 = .ok (.invokespecial 29, 3) := by decide +kernel
theorem dX3_init_42 : decode cX3_init 42 = .ok (.putfield 30, 3) := by decide +kernel
theorem dX3_init_45 : decode cX3_init 45 = .ok (.aload_n 0, 1) := by decide +kernel
theorem dX3_init_46 : decode cX3_init 46 = .ok (.bipush 9, 2) := by decide +kernel
theorem dX3_init_48 : decode cX3_init 48 = .ok (.newarray .int, 2) := by decide +kernel
theorem dX3_init_50 : decode cX3_init 50 = .ok (.putfield 34, 3) := by decide +kernel
theorem dX3_init_53 : decode cX3_init 53 = .ok (.aload_n 0, 1) := by decide +kernel
theorem dX3_init_54 : decode cX3_init 54 = .ok (.sipush 270, 3) := by decide +kernel
theorem dX3_init_57 : decode cX3_init 57 = .ok (.newarray .int, 2) := by decide +kernel
theorem dX3_init_59 : decode cX3_init 59 = .ok (.putfield 38, 3) := by decide +kernel
theorem dX3_init_62 : decode cX3_init 62 = .ok (.aload_n 0, 1) := by decide +kernel
theorem dX3_init_63 : decode cX3_init 63 = .ok (.bipush 6, 2) := by decide +kernel
theorem dX3_init_65 : decode cX3_init 65 = .ok (.newarray .int, 2) := by decide +kernel
theorem dX3_init_67 : decode cX3_init 67 = .ok (.putfield 41, 3) := by decide +kernel
theorem dX3_init_70 : decode cX3_init 70 = .ok (.aload_n 0, 1) := by decide +kernel
theorem dX3_init_71 : decode cX3_init 71 = .ok (.bipush 6, 2) := by decide +kernel
theorem dX3_init_73 : decode cX3_init 73 = .ok (.newarray .int, 2) := by decide +kernel
theorem dX3_init_75 : decode cX3_init 75 = .ok (.putfield 44, 3) := by decide +kernel
theorem dX3_init_78 : decode cX3_init 78 = .ok (.aload_n 0, 1) := by decide +kernel
theorem dX3_init_79 : decode cX3_init 79 = .ok (.lconst 0, 1) := by decide +kernel
theorem dX3_init_80 : decode cX3_init 80 = .ok (.putfield 47, 3) := by decide +kernel
theorem dX3_init_83 : decode cX3_init 83 = .ok (.aload_n 0, 1) := by decide +kernel
theorem dX3_init_84 : decode cX3_init 84 = .ok (.lconst 1, 1) := by decide +kernel
theorem dX3_init_85 : decode cX3_init 85 = .ok (.putfield 51, 3) := by decide +kernel
theorem dX3_init_88 : decode cX3_init 88 = .ok (.return_, 1) := by decide +kernel
theorem dX3_sock_0 : decode cX3_sock 0 = .ok (.iload_n 1, 1) := by decide +kernel
theorem dX3_sock_1 : decode cX3_sock 1 = .ok (.bipush 100, 2) := by decide +kernel
theorem dX3_sock_3 : decode cX3_sock 3 = .ok (.invokestatic 54, 3) := by decide +kernel
theorem dX3_sock_6 : decode cX3_sock 6 = .ok (.ifCond .ne 10, 3) := by decide +kernel
theorem dX3_sock_9 : decode cX3_sock 9 = .ok (.aload_n 0, 1) := by decide +kernel
theorem dX3_sock_10 : decode cX3_sock 10 = .ok (.bipush (-2), 2) := by decide +kernel
theorem dX3_sock_12 : decode cX3_sock 12 = .ok (.invokevirtual 58, 3) := by decide +kernel
theorem dX3_sock_15 : decode cX3_sock 15 = .ok (.ireturn, 1) := by decide +kernel
theorem dX3_sock_16 : decode cX3_sock 16 = .ok (.aload_n 0, 1) := by decide +kernel
theorem dX3_sock_17 : decode cX3_sock 17 = .ok (.getfield 12, 3) := by decide +kernel
theorem dX3_sock_20 : decode cX3_sock 20 = .ok (.getfield 62, 3) := by decide +kernel
theorem dX3_sock_23 : decode cX3_sock 23 = .ok (.invokevirtual 65, 3) := by decide +kernel
theorem dX3_sock_26 : decode cX3_sock 26 = .ok (.istore_n 2, 1) := by decide +kernel
theorem dX3_sock_27 : decode cX3_sock 27 = .ok (.aload_n 0, 1) := by decide +kernel
theorem dX3_sock_28 : decode cX3_sock 28 = .ok (.getfield 12, 3) := by decide +kernel
theorem dX3_sock_31 : decode cX3_sock 31 = .ok (.iload_n 1, 1) := by decide +kernel
theorem dX3_sock_32 : decode cX3_sock 32 = .ok (.invokevirtual 69, 3) := by decide +kernel
theorem dX3_sock_35 : decode cX3_sock 35 = .ok (.iload_n 2, 1) := by decide +kernel
theorem dX3_sock_36 : decode cX3_sock 36 = .ok (.ireturn, 1) := by decide +kernel
theorem dX3_wear_0 : decode cX3_wear 0 = .ok (.iload_n 1, 1) := by decide +kernel
theorem dX3_wear_1 : decode cX3_wear 1 = .ok (.iload_n 2, 1) := by decide +kernel
theorem dX3_wear_2 : decode cX3_wear 2 = .ok (.invokestatic 73, 3) := by decide +kernel
theorem dX3_wear_5 : decode cX3_wear 5 = .ok (.ifCond .ne 10, 3) := by decide +kernel
theorem dX3_wear_8 : decode cX3_wear 8 = .ok (.aload_n 0, 1) := by decide +kernel
theorem dX3_wear_9 : decode cX3_wear 9 = .ok (.bipush (-2), 2) := by decide +kernel
theorem dX3_wear_11 : decode cX3_wear 11 = .ok (.invokevirtual 58, 3) := by decide +kernel
theorem dX3_wear_14 : decode cX3_wear 14 = .ok (.ireturn, 1) := by decide +kernel
theorem dX3_wear_15 : decode cX3_wear 15 = .ok (.aload_n 0, 1) := by decide +kernel
theorem dX3_wear_16 : decode cX3_wear 16 = .ok (.getfield 12, 3) := by decide +kernel
theorem dX3_wear_19 : decode cX3_wear 19 = .ok (.getfield 62, 3) := by decide +kernel
theorem dX3_wear_22 : decode cX3_wear 22 = .ok (.getfield 76, 3) := by decide +kernel
theorem dX3_wear_25 : decode cX3_wear 25 = .ok (.iload_n 1, 1) := by decide +kernel
theorem dX3_wear_26 : decode cX3_wear 26 = .ok (.iaload, 1) := by decide +kernel
theorem dX3_wear_27 : decode cX3_wear 27 = .ok (.istore_n 3, 1) := by decide +kernel
theorem dX3_wear_28 : decode cX3_wear 28 = .ok (.aload_n 0, 1) := by decide +kernel
theorem dX3_wear_29 : decode cX3_wear 29 = .ok (.getfield 12, 3) := by decide +kernel
theorem dX3_wear_32 : decode cX3_wear 32 = .ok (.getfield 62, 3) := by decide +kernel
theorem dX3_wear_35 : decode cX3_wear 35 = .ok (.getfield 76, 3) := by decide +kernel
theorem dX3_wear_38 : decode cX3_wear 38 = .ok (.iload_n 1, 1) := by decide +kernel
theorem dX3_wear_39 : decode cX3_wear 39 = .ok (.iload_n 2, 1) := by decide +kernel
theorem dX3_wear_40 : decode cX3_wear 40 = .ok (.iastore, 1) := by decide +kernel
theorem dX3_wear_41 : decode cX3_wear 41 = .ok (.iload_n 3, 1) := by decide +kernel
theorem dX3_wear_42 : decode cX3_wear 42 = .ok (.ireturn, 1) := by decide +kernel
theorem dX3_darn_0 : decode cX3_darn 0 = .ok (.aload_n 0, 1) := by decide +kernel
theorem dX3_darn_1 : decode cX3_darn 1 = .ok (.getfield 12, 3) := by decide +kernel
theorem dX3_darn_4 : decode cX3_darn 4 = .ok (.getfield 62, 3) := by decide +kernel
theorem dX3_darn_7 : decode cX3_darn 7 = .ok (.iload_n 1, 1) := by decide +kernel
theorem dX3_darn_8 : decode cX3_darn 8 = .ok (.iload_n 2, 1) := by decide +kernel
theorem dX3_darn_9 : decode cX3_darn 9 = .ok (.iload_n 3, 1) := by decide +kernel
theorem dX3_darn_10 : decode cX3_darn 10 = .ok (.iload 4, 2) := by decide +kernel
theorem dX3_darn_12 : decode cX3_darn 12 = .ok (.invokevirtual 79, 3) := by decide +kernel
theorem dX3_darn_15 : decode cX3_darn 15 = .ok (.istore 5, 2) := by decide +kernel
theorem dX3_darn_17 : decode cX3_darn 17 = .ok (.iload 5, 2) := by decide +kernel
theorem dX3_darn_19 : decode cX3_darn 19 = .ok (.ifCond .eq 10, 3) := by decide +kernel
theorem dX3_darn_22 : decode cX3_darn 22 = .ok (.aload_n 0, 1) := by decide +kernel
theorem dX3_darn_23 : decode cX3_darn 23 = .ok (.iload 5, 2) := by decide +kernel
theorem dX3_darn_25 : decode cX3_darn 25 = .ok (.invokevirtual 58, 3) := by decide +kernel
theorem dX3_darn_28 : decode cX3_darn 28 = .ok (.ireturn, 1) := by decide +kernel
theorem dX3_darn_29 : decode cX3_darn 29 = .ok (.aload_n 0, 1) := by decide +kernel
theorem dX3_darn_30 : decode cX3_darn 30 = .ok (.getfield 12, 3) := by decide +kernel
theorem dX3_darn_33 : decode cX3_darn 33 = .ok (.invokevirtual 83, 3) := by decide +kernel
theorem dX3_darn_36 : decode cX3_darn 36 = .ok (.aload_n 0, 1) := by decide +kernel
theorem dX3_darn_37 : decode cX3_darn 37 = .ok (.getfield 12, 3) := by decide +kernel
theorem dX3_darn_40 : decode cX3_darn 40 = .ok (.getfield 62, 3) := by decide +kernel
theorem dX3_darn_43 : decode cX3_darn 43 = .ok (.iload_n 1, 1) := by decide +kernel
theorem dX3_darn_44 : decode cX3_darn 44 = .ok (.iload_n 2, 1) := by decide +kernel
theorem dX3_darn_45 : decode cX3_darn 45 = .ok (.iload_n 3, 1) := by decide +kernel
theorem dX3_darn_46 : decode cX3_darn 46 = .ok (.iload 4, 2) := by decide +kernel
theorem dX3_darn_48 : decode cX3_darn 48 = .ok (.invokevirtual 86, 3) := by decide +kernel
theorem dX3_darn_51 : decode cX3_darn 51 = .ok (.ireturn, 1) := by decide +kernel
theorem dX3_unpick_0 : decode cX3_unpick 0 = .ok (.iload_n 1, 1) := by decide +kernel
theorem dX3_unpick_1 : decode cX3_unpick 1 = .ok (.bipush 9, 2) := by decide +kernel
theorem dX3_unpick_3 : decode cX3_unpick 3 = .ok (.invokestatic 54, 3) := by decide +kernel
theorem dX3_unpick_6 : decode cX3_unpick 6 = .ok (.ifCond .ne 10, 3) := by decide +kernel
theorem dX3_unpick_9 : decode cX3_unpick 9 = .ok (.aload_n 0, 1) := by decide +kernel
theorem dX3_unpick_10 : decode cX3_unpick 10 = .ok (.bipush (-2), 2) := by decide +kernel
theorem dX3_unpick_12 : decode cX3_unpick 12 = .ok (.invokevirtual 58, 3) := by decide +kernel
theorem dX3_unpick_15 : decode cX3_unpick 15 = .ok (.ireturn, 1) := by decide +kernel
theorem dX3_unpick_16 : decode cX3_unpick 16 = .ok (.aload_n 0, 1) := by decide +kernel
theorem dX3_unpick_17 : decode cX3_unpick 17 = .ok (.getfield 12, 3) := by decide +kernel
theorem dX3_unpick_20 : decode cX3_unpick 20 = .ok (.getfield 62, 3) := by decide +kernel
theorem dX3_unpick_23 : decode cX3_unpick 23 = .ok (.iload_n 1, 1) := by decide +kernel
theorem dX3_unpick_24 : decode cX3_unpick 24 = .ok (.invokevirtual 89, 3) := by decide +kernel
theorem dX3_unpick_27 : decode cX3_unpick 27 = .ok (.ifCond .eq 10, 3) := by decide +kernel
theorem dX3_unpick_30 : decode cX3_unpick 30 = .ok (.aload_n 0, 1) := by decide +kernel
theorem dX3_unpick_31 : decode cX3_unpick 31 = .ok (.bipush (-3), 2) := by decide +kernel
theorem dX3_unpick_33 : decode cX3_unpick 33 = .ok (.invokevirtual 58, 3) := by decide +kernel
theorem dX3_unpick_36 : decode cX3_unpick 36 = .ok (.ireturn, 1) := by decide +kernel
theorem dX3_unpick_37 : decode cX3_unpick 37 = .ok (.aload_n 0, 1) := by decide +kernel
theorem dX3_unpick_38 : decode cX3_unpick 38 = .ok (.getfield 12, 3) := by decide +kernel
theorem dX3_unpick_41 : decode cX3_unpick 41 = .ok (.invokevirtual 83, 3) := by decide +kernel
theorem dX3_unpick_44 : decode cX3_unpick 44 = .ok (.aload_n 0, 1) := by decide +kernel
theorem dX3_unpick_45 : decode cX3_unpick 45 = .ok (.getfield 12, 3) := by decide +kernel
theorem dX3_unpick_48 : decode cX3_unpick 48 = .ok (.getfield 62, 3) := by decide +kernel
theorem dX3_unpick_51 : decode cX3_unpick 51 = .ok (.iload_n 1, 1) := by decide +kernel
theorem dX3_unpick_52 : decode cX3_unpick 52 = .ok (.invokevirtual 93, 3) := by decide +kernel
theorem dX3_unpick_55 : decode cX3_unpick 55 = .ok (.ireturn, 1) := by decide +kernel
theorem dX3_years_0 : decode cX3_years 0 = .ok (.iload_n 1, 1) := by decide +kernel
theorem dX3_years_1 : decode cX3_years 1 = .ok (.iconst 1, 1) := by decide +kernel
theorem dX3_years_2 : decode cX3_years 2 = .ok (.bipush 20, 2) := by decide +kernel
theorem dX3_years_4 : decode cX3_years 4 = .ok (.invokestatic 96, 3) := by decide +kernel
theorem dX3_years_7 : decode cX3_years 7 = .ok (.ifCond .ne 10, 3) := by decide +kernel
theorem dX3_years_10 : decode cX3_years 10 = .ok (.aload_n 0, 1) := by decide +kernel
theorem dX3_years_11 : decode cX3_years 11 = .ok (.bipush (-2), 2) := by decide +kernel
theorem dX3_years_13 : decode cX3_years 13 = .ok (.invokevirtual 58, 3) := by decide +kernel
theorem dX3_years_16 : decode cX3_years 16 = .ok (.ireturn, 1) := by decide +kernel
theorem dX3_years_17 : decode cX3_years 17 = .ok (.iconst 0, 1) := by decide +kernel
theorem dX3_years_18 : decode cX3_years 18 = .ok (.istore_n 2, 1) := by decide +kernel
theorem dX3_years_19 : decode cX3_years 19 = .ok (.iload_n 2, 1) := by decide +kernel
theorem dX3_years_20 : decode cX3_years 20 = .ok (.iload_n 1, 1) := by decide +kernel
theorem dX3_years_21 : decode cX3_years 21 = .ok (.if_icmp .ge 26, 3) := by decide +kernel
theorem dX3_years_24 : decode cX3_years 24 = .ok (.aload_n 0, 1) := by decide +kernel
theorem dX3_years_25 : decode cX3_years 25 = .ok (.getfield 12, 3) := by decide +kernel
theorem dX3_years_28 : decode cX3_years 28 = .ok (.invokevirtual 83, 3) := by decide +kernel
theorem dX3_years_31 : decode cX3_years 31 = .ok (.aload_n 0, 1) := by decide +kernel
theorem dX3_years_32 : decode cX3_years 32 = .ok (.getfield 12, 3) := by decide +kernel
theorem dX3_years_35 : decode cX3_years 35 = .ok (.getfield 62, 3) := by decide +kernel
theorem dX3_years_38 : decode cX3_years 38 = .ok (.invokevirtual 100, 3) := by decide +kernel
theorem dX3_years_41 : decode cX3_years 41 = .ok (.iinc 2 1, 3) := by decide +kernel
theorem dX3_years_44 : decode cX3_years 44 = .ok (.goto (-25), 3) := by decide +kernel
theorem dX3_years_47 : decode cX3_years 47 = .ok (.aload_n 0, 1) := by decide +kernel
theorem dX3_years_48 : decode cX3_years 48 = .ok (.getfield 12, 3) := by decide +kernel
theorem dX3_years_51 : decode cX3_years 51 = .ok (.getfield 62, 3) := by decide +kernel
theorem dX3_years_54 : decode cX3_years 54 = .ok (.invokevirtual 103, 3) := by decide +kernel
theorem dX3_years_57 : decode cX3_years 57 = .ok (.invokestatic 106, 3) := by decide +kernel
theorem dX3_years_60 : decode cX3_years 60 = .ok (.ireturn, 1) := by decide +kernel
theorem dX3_undo_0 : decode cX3_undo 0 = .ok (.aload_n 0, 1) := by decide +kernel
theorem dX3_undo_1 : decode cX3_undo 1 = .ok (.getfield 12, 3) := by decide +kernel
theorem dX3_undo_4 : decode cX3_undo 4 = .ok (.getfield 111, 3) := by decide +kernel
theorem dX3_undo_7 : decode cX3_undo 7 = .ok (.ifCond .gt 10, 3) := by decide +kernel
theorem dX3_undo_10 : decode cX3_undo 10 = .ok (.aload_n 0, 1) := by decide +kernel
theorem dX3_undo_11 : decode cX3_undo 11 = .ok (.bipush (-3), 2) := by decide +kernel
theorem dX3_undo_13 : decode cX3_undo 13 = .ok (.invokevirtual 58, 3) := by decide +kernel
theorem dX3_undo_16 : decode cX3_undo 16 = .ok (.ireturn, 1) := by decide +kernel
theorem dX3_undo_17 : decode cX3_undo 17 = .ok (.aload_n 0, 1) := by decide +kernel
theorem dX3_undo_18 : decode cX3_undo 18 = .ok (.getfield 12, 3) := by decide +kernel
theorem dX3_undo_21 : decode cX3_undo 21 = .ok (.invokevirtual 115, 3) := by decide +kernel
theorem dX3_undo_24 : decode cX3_undo 24 = .ok (.aload_n 0, 1) := by decide +kernel
theorem dX3_undo_25 : decode cX3_undo 25 = .ok (.getfield 12, 3) := by decide +kernel
theorem dX3_undo_28 : decode cX3_undo 28 = .ok (.getfield 62, 3) := by decide +kernel
theorem dX3_undo_31 : decode cX3_undo 31 = .ok (.invokevirtual 65, 3) := by decide +kernel
theorem dX3_undo_34 : decode cX3_undo 34 = .ok (.ireturn, 1) := by decide +kernel
theorem dX3_type_0 : decode cX3_type 0 = .ok (.iload_n 1, 1) := by decide +kernel
theorem dX3_type_1 : decode cX3_type 1 = .ok (.iconst 0, 1) := by decide +kernel
theorem dX3_type_2 : decode cX3_type 2 = .ok (.bipush 127, 2) := by decide +kernel
theorem dX3_type_4 : decode cX3_type 4 = .ok (.invokestatic 96, 3) := by decide +kernel
theorem dX3_type_7 : decode cX3_type 7 = .ok (.ifCond .ne 10, 3) := by decide +kernel
theorem dX3_type_10 : decode cX3_type 10 = .ok (.aload_n 0, 1) := by decide +kernel
theorem dX3_type_11 : decode cX3_type 11 = .ok (.bipush (-2), 2) := by decide +kernel
theorem dX3_type_13 : decode cX3_type 13 = .ok (.invokevirtual 58, 3) := by decide +kernel
theorem dX3_type_16 : decode cX3_type 16 = .ok (.ireturn, 1) := by decide +kernel
theorem dX3_type_17 : decode cX3_type 17 = .ok (.aload_n 0, 1) := by decide +kernel
theorem dX3_type_18 : decode cX3_type 18 = .ok (.getfield 30, 3) := by decide +kernel
theorem dX3_type_21 : decode cX3_type 21 = .ok (.getfield 118, 3) := by decide +kernel
theorem dX3_type_24 : decode cX3_type 24 = .ok (.sipush 150, 3) := by decide +kernel
theorem dX3_type_27 : decode cX3_type 27 = .ok (.if_icmp .lt 10, 3) := by decide +kernel
theorem dX3_type_30 : decode cX3_type 30 = .ok (.aload_n 0, 1) := by decide +kernel
theorem dX3_type_31 : decode cX3_type 31 = .ok (.bipush (-4), 2) := by decide +kernel
theorem dX3_type_33 : decode cX3_type 33 = .ok (.invokevirtual 58, 3) := by decide +kernel
theorem dX3_type_36 : decode cX3_type 36 = .ok (.ireturn, 1) := by decide +kernel
theorem dX3_type_37 : decode cX3_type 37 = .ok (.aload_n 0, 1) := by decide +kernel
theorem dX3_type_38 : decode cX3_type 38 = .ok (.getfield 30, 3) := by decide +kernel
theorem dX3_type_41 : decode cX3_type 41 = .ok (.getfield 121, 3) := by decide +kernel
theorem dX3_type_44 : decode cX3_type 44 = .ok (.aload_n 0, 1) := by decide +kernel
theorem dX3_type_45 : decode cX3_type 45 = .ok (.getfield 30, 3) := by decide +kernel
theorem dX3_type_48 : decode cX3_type 48 = .ok (.getfield 118, 3) := by decide +kernel
theorem dX3_type_51 : decode cX3_type 51 = .ok (.iload_n 1, 1) := by decide +kernel
theorem dX3_type_52 : decode cX3_type 52 = .ok (.iastore, 1) := by decide +kernel
theorem dX3_type_53 : decode cX3_type 53 = .ok (.aload_n 0, 1) := by decide +kernel
theorem dX3_type_54 : decode cX3_type 54 = .ok (.getfield 30, 3) := by decide +kernel
theorem dX3_type_57 : decode cX3_type 57 = .ok (.dup, 1) := by decide +kernel
theorem dX3_type_58 : decode cX3_type 58 = .ok (.getfield 118, 3) := by decide +kernel
theorem dX3_type_61 : decode cX3_type 61 = .ok (.iconst 1, 1) := by decide +kernel
theorem dX3_type_62 : decode cX3_type 62 = .ok (.iadd, 1) := by decide +kernel
theorem dX3_type_63 : decode cX3_type 63 = .ok (.putfield 118, 3) := by decide +kernel
theorem dX3_type_66 : decode cX3_type 66 = .ok (.aload_n 0, 1) := by decide +kernel
theorem dX3_type_67 : decode cX3_type 67 = .ok (.getfield 30, 3) := by decide +kernel
theorem dX3_type_70 : decode cX3_type 70 = .ok (.getfield 118, 3) := by decide +kernel
theorem dX3_type_73 : decode cX3_type 73 = .ok (.ireturn, 1) := by decide +kernel
theorem dX3_clear_0 : decode cX3_clear 0 = .ok (.aload_n 0, 1) := by decide +kernel
theorem dX3_clear_1 : decode cX3_clear 1 = .ok (.getfield 30, 3) := by decide +kernel
theorem dX3_clear_4 : decode cX3_clear 4 = .ok (.getfield 118, 3) := by decide +kernel
theorem dX3_clear_7 : decode cX3_clear 7 = .ok (.istore_n 1, 1) := by decide +kernel
theorem dX3_clear_8 : decode cX3_clear 8 = .ok (.aload_n 0, 1) := by decide +kernel
theorem dX3_clear_9 : decode cX3_clear 9 = .ok (.getfield 30, 3) := by decide +kernel
theorem dX3_clear_12 : decode cX3_clear 12 = .ok (.iconst 0, 1) := by decide +kernel
theorem dX3_clear_13 : decode cX3_clear 13 = .ok (.putfield 118, 3) := by decide +kernel
theorem dX3_clear_16 : decode cX3_clear 16 = .ok (.iload_n 1, 1) := by decide +kernel
theorem dX3_clear_17 : decode cX3_clear 17 = .ok (.ireturn, 1) := by decide +kernel
theorem dX3_read_0 : decode cX3_read 0 = .ok (.aload_n 0, 1) := by decide +kernel
theorem dX3_read_1 : decode cX3_read 1 = .ok (.getfield 30, 3) := by decide +kernel
theorem dX3_read_4 : decode cX3_read 4 = .ok (.invokevirtual 124, 3) := by decide +kernel
theorem dX3_read_7 : decode cX3_read 7 = .ok (.istore_n 1, 1) := by decide +kernel
theorem dX3_read_8 : decode cX3_read 8 = .ok (.iload_n 1, 1) := by decide +kernel
theorem dX3_read_9 : decode cX3_read 9 = .ok (.iconst (-1), 1) := by decide +kernel
theorem dX3_read_10 : decode cX3_read 10 = .ok (.if_icmp .eq 8, 3) := by decide +kernel
theorem dX3_read_13 : decode cX3_read 13 = .ok (.bipush (-10), 2) := by decide +kernel
theorem dX3_read_15 : decode cX3_read 15 = .ok (.iload_n 1, 1) := by decide +kernel
theorem dX3_read_16 : decode cX3_read 16 = .ok (.isub, 1) := by decide +kernel
theorem dX3_read_17 : decode cX3_read 17 = .ok (.ireturn, 1) := by decide +kernel
theorem dX3_read_18 : decode cX3_read 18 = .ok (.aload_n 0, 1) := by decide +kernel
theorem dX3_read_19 : decode cX3_read 19 = .ok (.getfield 30, 3) := by decide +kernel
theorem dX3_read_22 : decode cX3_read 22 = .ok (.aload_n 0, 1) := by decide +kernel
theorem dX3_read_23 : decode cX3_read 23 = .ok (.getfield 23, 3) := by decide +kernel
theorem dX3_read_26 : decode cX3_read 26 = .ok (.invokevirtual 127, 3) := by decide +kernel
theorem dX3_read_29 : decode cX3_read 29 = .ok (.istore_n 2, 1) := by decide +kernel
theorem dX3_read_30 : decode cX3_read 30 = .ok (.iload_n 2, 1) := by decide +kernel
theorem dX3_read_31 : decode cX3_read 31 = .ok (.iconst (-1), 1) := by decide +kernel
theorem dX3_read_32 : decode cX3_read 32 = .ok (.if_icmp .eq 9, 3) := by decide +kernel
theorem dX3_read_35 : decode cX3_read 35 = .ok (.sipush (-1000), 3) := by decide +kernel
theorem dX3_read_38 : decode cX3_read 38 = .ok (.iload_n 2, 1) := by decide +kernel
theorem dX3_read_39 : decode cX3_read 39 = .ok (.isub, 1) := by decide +kernel
theorem dX3_read_40 : decode cX3_read 40 = .ok (.ireturn, 1) := by decide +kernel
theorem dX3_read_41 : decode cX3_read 41 = .ok (.aload_n 0, 1) := by decide +kernel
theorem dX3_read_42 : decode cX3_read 42 = .ok (.getfield 12, 3) := by decide +kernel
theorem dX3_read_45 : decode cX3_read 45 = .ok (.iconst 0, 1) := by decide +kernel
theorem dX3_read_46 : decode cX3_read 46 = .ok (.invokevirtual 69, 3) := by decide +kernel
theorem dX3_read_49 : decode cX3_read 49 = .ok (.aload_n 0, 1) := by decide +kernel
theorem dX3_read_50 : decode cX3_read 50 = .ok (.getfield 12, 3) := by decide +kernel
theorem dX3_read_53 : decode cX3_read 53 = .ok (.getfield 62, 3) := by decide +kernel
theorem dX3_read_56 : decode cX3_read 56 = .ok (.aload_n 0, 1) := by decide +kernel
theorem dX3_read_57 : decode cX3_read 57 = .ok (.getfield 23, 3) := by decide +kernel
theorem dX3_read_60 : decode cX3_read 60 = .ok (.invokevirtual 131, 3) := by decide +kernel
theorem dX3_read_63 : decode cX3_read 63 = .ok (.aload_n 0, 1) := by decide +kernel
theorem dX3_read_64 : decode cX3_read 64 = .ok (.getfield 30, 3) := by decide +kernel
theorem dX3_read_67 : decode cX3_read 67 = .ok (.getfield 135, 3) := by decide +kernel
theorem dX3_read_70 : decode cX3_read 70 = .ok (.ireturn, 1) := by decide +kernel
theorem dX3_of_0 : decode cX3_of 0 = .ok (.iload_n 1, 1) := by decide +kernel
theorem dX3_of_1 : decode cX3_of 1 = .ok (.bipush 9, 2) := by decide +kernel
theorem dX3_of_3 : decode cX3_of 3 = .ok (.invokestatic 54, 3) := by decide +kernel
theorem dX3_of_6 : decode cX3_of 6 = .ok (.ifCond .eq 20, 3) := by decide +kernel
theorem dX3_of_9 : decode cX3_of 9 = .ok (.iload_n 2, 1) := by decide +kernel
theorem dX3_of_10 : decode cX3_of 10 = .ok (.iconst 3, 1) := by decide +kernel
theorem dX3_of_11 : decode cX3_of 11 = .ok (.invokestatic 54, 3) := by decide +kernel
theorem dX3_of_14 : decode cX3_of 14 = .ok (.ifCond .eq 12, 3) := by decide +kernel
theorem dX3_of_17 : decode cX3_of 17 = .ok (.iload_n 3, 1) := by decide +kernel
theorem dX3_of_18 : decode cX3_of 18 = .ok (.iconst 0, 1) := by decide +kernel
theorem dX3_of_19 : decode cX3_of 19 = .ok (.iconst 5, 1) := by decide +kernel
theorem dX3_of_20 : decode cX3_of 20 = .ok (.invokestatic 96, 3) := by decide +kernel
theorem dX3_of_23 : decode cX3_of 23 = .ok (.ifCond .ne 10, 3) := by decide +kernel
theorem dX3_of_26 : decode cX3_of 26 = .ok (.aload_n 0, 1) := by decide +kernel
theorem dX3_of_27 : decode cX3_of 27 = .ok (.bipush (-2), 2) := by decide +kernel
theorem dX3_of_29 : decode cX3_of 29 = .ok (.invokevirtual 58, 3) := by decide +kernel
theorem dX3_of_32 : decode cX3_of 32 = .ok (.ireturn, 1) := by decide +kernel
theorem dX3_of_33 : decode cX3_of 33 = .ok (.iload_n 2, 1) := by decide +kernel
theorem dX3_of_34 : decode cX3_of 34 = .ok (.aload_n 0, 1) := by decide +kernel
theorem dX3_of_35 : decode cX3_of 35 = .ok (.getfield 12, 3) := by decide +kernel
theorem dX3_of_38 : decode cX3_of 38 = .ok (.getfield 62, 3) := by decide +kernel
theorem dX3_of_41 : decode cX3_of 41 = .ok (.iload_n 1, 1) := by decide +kernel
theorem dX3_of_42 : decode cX3_of 42 = .ok (.invokevirtual 138, 3) := by decide +kernel
theorem dX3_of_45 : decode cX3_of 45 = .ok (.if_icmp .lt 5, 3) := by decide +kernel
theorem dX3_of_48 : decode cX3_of 48 = .ok (.iconst (-1), 1) := by decide +kernel
theorem dX3_of_49 : decode cX3_of 49 = .ok (.ireturn, 1) := by decide +kernel
theorem dX3_of_50 : decode cX3_of 50 = .ok (.iload_n 3, 1) := by decide +kernel
theorem dX3_of_51 : decode cX3_of 51 = .ok (.iconst 4, 1) := by decide +kernel
theorem dX3_of_52 : decode cX3_of 52 = .ok (.if_icmp .ne 16, 3) := by decide +kernel
theorem dX3_of_55 : decode cX3_of 55 = .ok (.aload_n 0, 1) := by decide +kernel
theorem dX3_of_56 : decode cX3_of 56 = .ok (.getfield 12, 3) := by decide +kernel
theorem dX3_of_59 : decode cX3_of 59 = .ok (.getfield 62, 3) := by decide +kernel
theorem dX3_of_62 : decode cX3_of 62 = .ok (.iload_n 1, 1) := by decide +kernel
theorem dX3_of_63 : decode cX3_of 63 = .ok (.iload_n 2, 1) := by decide +kernel
theorem dX3_of_64 : decode cX3_of 64 = .ok (.invokevirtual 141, 3) := by decide +kernel
theorem dX3_of_67 : decode cX3_of 67 = .ok (.ireturn, 1) := by decide +kernel
theorem dX3_of_68 : decode cX3_of 68 = .ok (.iload_n 3, 1) := by decide +kernel
theorem dX3_of_69 : decode cX3_of 69 = .ok (.iconst 5, 1) := by decide +kernel
theorem dX3_of_70 : decode cX3_of 70 = .ok (.if_icmp .ne 42, 3) := by decide +kernel
theorem dX3_of_73 : decode cX3_of 73 = .ok (.aload_n 0, 1) := by decide +kernel
theorem dX3_of_74 : decode cX3_of 74 = .ok (.getfield 12, 3) := by decide +kernel
theorem dX3_of_77 : decode cX3_of 77 = .ok (.getfield 62, 3) := by decide +kernel
theorem dX3_of_80 : decode cX3_of 80 = .ok (.iload_n 1, 1) := by decide +kernel
theorem dX3_of_81 : decode cX3_of 81 = .ok (.iload_n 2, 1) := by decide +kernel
theorem dX3_of_82 : decode cX3_of 82 = .ok (.iconst 0, 1) := by decide +kernel
theorem dX3_of_83 : decode cX3_of 83 = .ok (.invokevirtual 145, 3) := by decide +kernel
theorem dX3_of_86 : decode cX3_of 86 = .ok (.aload_n 0, 1) := by decide +kernel
theorem dX3_of_87 : decode cX3_of 87 = .ok (.getfield 12, 3) := by decide +kernel
theorem dX3_of_90 : decode cX3_of 90 = .ok (.getfield 62, 3) := by decide +kernel
theorem dX3_of_93 : decode cX3_of 93 = .ok (.getfield 76, 3) := by decide +kernel
theorem dX3_of_96 : decode cX3_of 96 = .ok (.iload_n 1, 1) := by decide +kernel
theorem dX3_of_97 : decode cX3_of 97 = .ok (.iaload, 1) := by decide +kernel
theorem dX3_of_98 : decode cX3_of 98 = .ok (.aload_n 0, 1) := by decide +kernel
theorem dX3_of_99 : decode cX3_of 99 = .ok (.getfield 12, 3) := by decide +kernel
theorem dX3_of_102 : decode cX3_of 102 = .ok (.getfield 62, 3) := by decide +kernel
theorem dX3_of_105 : decode cX3_of 105 = .ok (.invokevirtual 149, 3) := by decide +kernel
theorem dX3_of_108 : decode cX3_of 108 = .ok (.invokestatic 152, 3) := by decide +kernel
theorem dX3_of_111 : decode cX3_of 111 = .ok (.ireturn, 1) := by decide +kernel
theorem dX3_of_112 : decode cX3_of 112 = .ok (.aload_n 0, 1) := by decide +kernel
theorem dX3_of_113 : decode cX3_of 113 = .ok (.getfield 12, 3) := by decide +kernel
theorem dX3_of_116 : decode cX3_of 116 = .ok (.getfield 62, 3) := by decide +kernel
theorem dX3_of_119 : decode cX3_of 119 = .ok (.iload_n 1, 1) := by decide +kernel
theorem dX3_of_120 : decode cX3_of 120 = .ok (.iload_n 2, 1) := by decide +kernel
theorem dX3_of_121 : decode cX3_of 121 = .ok (.iload_n 3, 1) := by decide +kernel
theorem dX3_of_122 : decode cX3_of 122 = .ok (.invokevirtual 145, 3) := by decide +kernel
theorem dX3_of_125 : decode cX3_of 125 = .ok (.ireturn, 1) := by decide +kernel
theorem dX3_cell_0 : decode cX3_cell 0 = .ok (.iload_n 1, 1) := by decide +kernel
theorem dX3_cell_1 : decode cX3_cell 1 = .ok (.bipush 9, 2) := by decide +kernel
theorem dX3_cell_3 : decode cX3_cell 3 = .ok (.invokestatic 54, 3) := by decide +kernel
theorem dX3_cell_6 : decode cX3_cell 6 = .ok (.ifCond .eq 12, 3) := by decide +kernel
theorem dX3_cell_9 : decode cX3_cell 9 = .ok (.iload_n 2, 1) := by decide +kernel
theorem dX3_cell_10 : decode cX3_cell 10 = .ok (.iconst 0, 1) := by decide +kernel
theorem dX3_cell_11 : decode cX3_cell 11 = .ok (.iconst 1, 1) := by decide +kernel
theorem dX3_cell_12 : decode cX3_cell 12 = .ok (.invokestatic 96, 3) := by decide +kernel
theorem dX3_cell_15 : decode cX3_cell 15 = .ok (.ifCond .ne 10, 3) := by decide +kernel
theorem dX3_cell_18 : decode cX3_cell 18 = .ok (.aload_n 0, 1) := by decide +kernel
theorem dX3_cell_19 : decode cX3_cell 19 = .ok (.bipush (-2), 2) := by decide +kernel
theorem dX3_cell_21 : decode cX3_cell 21 = .ok (.invokevirtual 58, 3) := by decide +kernel
theorem dX3_cell_24 : decode cX3_cell 24 = .ok (.ireturn, 1) := by decide +kernel
theorem dX3_cell_25 : decode cX3_cell 25 = .ok (.iload_n 2, 1) := by decide +kernel
theorem dX3_cell_26 : decode cX3_cell 26 = .ok (.ifCond .ne 18, 3) := by decide +kernel
theorem dX3_cell_29 : decode cX3_cell 29 = .ok (.aload_n 0, 1) := by decide +kernel
theorem dX3_cell_30 : decode cX3_cell 30 = .ok (.getfield 12, 3) := by decide +kernel
theorem dX3_cell_33 : decode cX3_cell 33 = .ok (.getfield 62, 3) := by decide +kernel
theorem dX3_cell_36 : decode cX3_cell 36 = .ok (.getfield 76, 3) := by decide +kernel
theorem dX3_cell_39 : decode cX3_cell 39 = .ok (.iload_n 1, 1) := by decide +kernel
theorem dX3_cell_40 : decode cX3_cell 40 = .ok (.iaload, 1) := by decide +kernel
theorem dX3_cell_41 : decode cX3_cell 41 = .ok (.goto 14, 3) := by decide +kernel
theorem dX3_cell_44 : decode cX3_cell 44 = .ok (.aload_n 0, 1) := by decide +kernel
theorem dX3_cell_45 : decode cX3_cell 45 = .ok (.getfield 12, 3) := by decide +kernel
theorem dX3_cell_48 : decode cX3_cell 48 = .ok (.getfield 62, 3) := by decide +kernel
theorem dX3_cell_51 : decode cX3_cell 51 = .ok (.iload_n 1, 1) := by decide +kernel
theorem dX3_cell_52 : decode cX3_cell 52 = .ok (.invokevirtual 138, 3) := by decide +kernel
theorem dX3_cell_55 : decode cX3_cell 55 = .ok (.ireturn, 1) := by decide +kernel
theorem dX3_claims_0 : decode cX3_claims 0 = .ok (.iload_n 1, 1) := by decide +kernel
theorem dX3_claims_1 : decode cX3_claims 1 = .ok (.iconst 3, 1) := by decide +kernel
theorem dX3_claims_2 : decode cX3_claims 2 = .ok (.invokestatic 54, 3) := by decide +kernel
theorem dX3_claims_5 : decode cX3_claims 5 = .ok (.ifCond .eq 11, 3) := by decide +kernel
theorem dX3_claims_8 : decode cX3_claims 8 = .ok (.iload_n 2, 1) := by decide +kernel
theorem dX3_claims_9 : decode cX3_claims 9 = .ok (.iconst 4, 1) := by decide +kernel
theorem dX3_claims_10 : decode cX3_claims 10 = .ok (.invokestatic 54, 3) := by decide +kernel
theorem dX3_claims_13 : decode cX3_claims 13 = .ok (.ifCond .ne 10, 3) := by decide +kernel
theorem dX3_claims_16 : decode cX3_claims 16 = .ok (.aload_n 0, 1) := by decide +kernel
theorem dX3_claims_17 : decode cX3_claims 17 = .ok (.bipush (-2), 2) := by decide +kernel
theorem dX3_claims_19 : decode cX3_claims 19 = .ok (.invokevirtual 58, 3) := by decide +kernel
theorem dX3_claims_22 : decode cX3_claims 22 = .ok (.ireturn, 1) := by decide +kernel
theorem dX3_claims_23 : decode cX3_claims 23 = .ok (.aload_n 0, 1) := by decide +kernel
theorem dX3_claims_24 : decode cX3_claims 24 = .ok (.getfield 12, 3) := by decide +kernel
theorem dX3_claims_27 : decode cX3_claims 27 = .ok (.getfield 62, 3) := by decide +kernel
theorem dX3_claims_30 : decode cX3_claims 30 = .ok (.iload_n 1, 1) := by decide +kernel
theorem dX3_claims_31 : decode cX3_claims 31 = .ok (.iload_n 2, 1) := by decide +kernel
theorem dX3_claims_32 : decode cX3_claims 32 = .ok (.invokevirtual 155, 3) := by decide +kernel
theorem dX3_claims_35 : decode cX3_claims 35 = .ok (.ireturn, 1) := by decide +kernel
theorem dX3_owner_0 : decode cX3_owner 0 = .ok (.iload_n 1, 1) := by decide +kernel
theorem dX3_owner_1 : decode cX3_owner 1 = .ok (.iconst 4, 1) := by decide +kernel
theorem dX3_owner_2 : decode cX3_owner 2 = .ok (.invokestatic 54, 3) := by decide +kernel
theorem dX3_owner_5 : decode cX3_owner 5 = .ok (.ifCond .eq 12, 3) := by decide +kernel
theorem dX3_owner_8 : decode cX3_owner 8 = .ok (.iload_n 2, 1) := by decide +kernel
theorem dX3_owner_9 : decode cX3_owner 9 = .ok (.bipush 41, 2) := by decide +kernel
theorem dX3_owner_11 : decode cX3_owner 11 = .ok (.invokestatic 54, 3) := by decide +kernel
theorem dX3_owner_14 : decode cX3_owner 14 = .ok (.ifCond .ne 10, 3) := by decide +kernel
theorem dX3_owner_17 : decode cX3_owner 17 = .ok (.aload_n 0, 1) := by decide +kernel
theorem dX3_owner_18 : decode cX3_owner 18 = .ok (.bipush (-2), 2) := by decide +kernel
theorem dX3_owner_20 : decode cX3_owner 20 = .ok (.invokevirtual 58, 3) := by decide +kernel
theorem dX3_owner_23 : decode cX3_owner 23 = .ok (.ireturn, 1) := by decide +kernel
theorem dX3_owner_24 : decode cX3_owner 24 = .ok (.aload_n 0, 1) := by decide +kernel
theorem dX3_owner_25 : decode cX3_owner 25 = .ok (.iload_n 2, 1) := by decide +kernel
theorem dX3_owner_26 : decode cX3_owner 26 = .ok (.invokevirtual 158, 3) := by decide +kernel
theorem dX3_owner_29 : decode cX3_owner 29 = .ok (.aload_n 0, 1) := by decide +kernel
theorem dX3_owner_30 : decode cX3_owner 30 = .ok (.getfield 23, 3) := by decide +kernel
theorem dX3_owner_33 : decode cX3_owner 33 = .ok (.iload_n 1, 1) := by decide +kernel
theorem dX3_owner_34 : decode cX3_owner 34 = .ok (.invokevirtual 161, 3) := by decide +kernel
theorem dX3_owner_37 : decode cX3_owner 37 = .ok (.ireturn, 1) := by decide +kernel
theorem dX3_laws_0 : decode cX3_laws 0 = .ok (.iload_n 1, 1) := by decide +kernel
theorem dX3_laws_1 : decode cX3_laws 1 = .ok (.iconst 3, 1) := by decide +kernel
theorem dX3_laws_2 : decode cX3_laws 2 = .ok (.invokestatic 54, 3) := by decide +kernel
theorem dX3_laws_5 : decode cX3_laws 5 = .ok (.ifCond .ne 10, 3) := by decide +kernel
theorem dX3_laws_8 : decode cX3_laws 8 = .ok (.aload_n 0, 1) := by decide +kernel
theorem dX3_laws_9 : decode cX3_laws 9 = .ok (.bipush (-2), 2) := by decide +kernel
theorem dX3_laws_11 : decode cX3_laws 11 = .ok (.invokevirtual 58, 3) := by decide +kernel
theorem dX3_laws_14 : decode cX3_laws 14 = .ok (.ireturn, 1) := by decide +kernel
theorem dX3_laws_15 : decode cX3_laws 15 = .ok (.iconst 0, 1) := by decide +kernel
theorem dX3_laws_16 : decode cX3_laws 16 = .ok (.istore_n 2, 1) := by decide +kernel
theorem dX3_laws_17 : decode cX3_laws 17 = .ok (.iconst 0, 1) := by decide +kernel
theorem dX3_laws_18 : decode cX3_laws 18 = .ok (.istore_n 3, 1) := by decide +kernel
theorem dX3_laws_19 : decode cX3_laws 19 = .ok (.iload_n 3, 1) := by decide +kernel
theorem dX3_laws_20 : decode cX3_laws 20 = .ok (.iconst 4, 1) := by decide +kernel
theorem dX3_laws_21 : decode cX3_laws 21 = .ok (.if_icmp .ge 30, 3) := by decide +kernel
theorem dX3_laws_24 : decode cX3_laws 24 = .ok (.aload_n 0, 1) := by decide +kernel
theorem dX3_laws_25 : decode cX3_laws 25 = .ok (.getfield 12, 3) := by decide +kernel
theorem dX3_laws_28 : decode cX3_laws 28 = .ok (.getfield 62, 3) := by decide +kernel
theorem dX3_laws_31 : decode cX3_laws 31 = .ok (.iload_n 3, 1) := by decide +kernel
theorem dX3_laws_32 : decode cX3_laws 32 = .ok (.invokevirtual 161, 3) := by decide +kernel
theorem dX3_laws_35 : decode cX3_laws 35 = .ok (.iload_n 1, 1) := by decide +kernel
theorem dX3_laws_36 : decode cX3_laws 36 = .ok (.if_icmp .ne 9, 3) := by decide +kernel
theorem dX3_laws_39 : decode cX3_laws 39 = .ok (.iload_n 2, 1) := by decide +kernel
theorem dX3_laws_40 : decode cX3_laws 40 = .ok (.iconst 1, 1) := by decide +kernel
theorem dX3_laws_41 : decode cX3_laws 41 = .ok (.iload_n 3, 1) := by decide +kernel
theorem dX3_laws_42 : decode cX3_laws 42 = .ok (.ishl, 1) := by decide +kernel
theorem dX3_laws_43 : decode cX3_laws 43 = .ok (.ior, 1) := by decide +kernel
theorem dX3_laws_44 : decode cX3_laws 44 = .ok (.istore_n 2, 1) := by decide +kernel
theorem dX3_laws_45 : decode cX3_laws 45 = .ok (.iinc 3 1, 3) := by decide +kernel
theorem dX3_laws_48 : decode cX3_laws 48 = .ok (.goto (-29), 3) := by decide +kernel
theorem dX3_laws_51 : decode cX3_laws 51 = .ok (.iload_n 2, 1) := by decide +kernel
theorem dX3_laws_52 : decode cX3_laws 52 = .ok (.ireturn, 1) := by decide +kernel
theorem dX3_share_0 : decode cX3_share 0 = .ok (.iload_n 1, 1) := by decide +kernel
theorem dX3_share_1 : decode cX3_share 1 = .ok (.iconst 3, 1) := by decide +kernel
theorem dX3_share_2 : decode cX3_share 2 = .ok (.invokestatic 54, 3) := by decide +kernel
theorem dX3_share_5 : decode cX3_share 5 = .ok (.ifCond .ne 10, 3) := by decide +kernel
theorem dX3_share_8 : decode cX3_share 8 = .ok (.aload_n 0, 1) := by decide +kernel
theorem dX3_share_9 : decode cX3_share 9 = .ok (.bipush (-2), 2) := by decide +kernel
theorem dX3_share_11 : decode cX3_share 11 = .ok (.invokevirtual 58, 3) := by decide +kernel
theorem dX3_share_14 : decode cX3_share 14 = .ok (.ireturn, 1) := by decide +kernel
theorem dX3_share_15 : decode cX3_share 15 = .ok (.aload_n 0, 1) := by decide +kernel
theorem dX3_share_16 : decode cX3_share 16 = .ok (.aload_n 0, 1) := by decide +kernel
theorem dX3_share_17 : decode cX3_share 17 = .ok (.getfield 12, 3) := by decide +kernel
theorem dX3_share_20 : decode cX3_share 20 = .ok (.getfield 62, 3) := by decide +kernel
theorem dX3_share_23 : decode cX3_share 23 = .ok (.iload_n 1, 1) := by decide +kernel
theorem dX3_share_24 : decode cX3_share 24 = .ok (.iconst 0, 1) := by decide +kernel
theorem dX3_share_25 : decode cX3_share 25 = .ok (.invokevirtual 155, 3) := by decide +kernel
theorem dX3_share_28 : decode cX3_share 28 = .ok (.i2l, 1) := by decide +kernel
theorem dX3_share_29 : decode cX3_share 29 = .ok (.aload_n 0, 1) := by decide +kernel
theorem dX3_share_30 : decode cX3_share 30 = .ok (.getfield 12, 3) := by decide +kernel
theorem dX3_share_33 : decode cX3_share 33 = .ok (.getfield 62, 3) := by decide +kernel
theorem dX3_share_36 : decode cX3_share 36 = .ok (.iconst 0, 1) := by decide +kernel
theorem dX3_share_37 : decode cX3_share 37 = .ok (.invokevirtual 164, 3) := by decide +kernel
theorem dX3_share_40 : decode cX3_share 40 = .ok (.i2l, 1) := by decide +kernel
theorem dX3_share_41 : decode cX3_share 41 = .ok (.invokevirtual 167, 3) := by decide +kernel
theorem dX3_share_44 : decode cX3_share 44 = .ok (.iconst 1, 1) := by decide +kernel
theorem dX3_share_45 : decode cX3_share 45 = .ok (.ireturn, 1) := by decide +kernel
theorem dX3_twos_0 : decode cX3_twos 0 = .ok (.iload_n 1, 1) := by decide +kernel
theorem dX3_twos_1 : decode cX3_twos 1 = .ok (.iconst 4, 1) := by decide +kernel
theorem dX3_twos_2 : decode cX3_twos 2 = .ok (.invokestatic 54, 3) := by decide +kernel
theorem dX3_twos_5 : decode cX3_twos 5 = .ok (.ifCond .ne 10, 3) := by decide +kernel
theorem dX3_twos_8 : decode cX3_twos 8 = .ok (.aload_n 0, 1) := by decide +kernel
theorem dX3_twos_9 : decode cX3_twos 9 = .ok (.bipush (-2), 2) := by decide +kernel
theorem dX3_twos_11 : decode cX3_twos 11 = .ok (.invokevirtual 58, 3) := by decide +kernel
theorem dX3_twos_14 : decode cX3_twos 14 = .ok (.ireturn, 1) := by decide +kernel
theorem dX3_twos_15 : decode cX3_twos 15 = .ok (.aload_n 0, 1) := by decide +kernel
theorem dX3_twos_16 : decode cX3_twos 16 = .ok (.getfield 23, 3) := by decide +kernel
theorem dX3_twos_19 : decode cX3_twos 19 = .ok (.aload_n 0, 1) := by decide +kernel
theorem dX3_twos_20 : decode cX3_twos 20 = .ok (.getfield 12, 3) := by decide +kernel
theorem dX3_twos_23 : decode cX3_twos 23 = .ok (.getfield 62, 3) := by decide +kernel
theorem dX3_twos_26 : decode cX3_twos 26 = .ok (.invokevirtual 131, 3) := by decide +kernel
theorem dX3_twos_29 : decode cX3_twos 29 = .ok (.iconst 0, 1) := by decide +kernel
theorem dX3_twos_30 : decode cX3_twos 30 = .ok (.istore_n 2, 1) := by decide +kernel
theorem dX3_twos_31 : decode cX3_twos 31 = .ok (.iload_n 2, 1) := by decide +kernel
theorem dX3_twos_32 : decode cX3_twos 32 = .ok (.bipush 41, 2) := by decide +kernel
theorem dX3_twos_34 : decode cX3_twos 34 = .ok (.if_icmp .ge 29, 3) := by decide +kernel
theorem dX3_twos_37 : decode cX3_twos 37 = .ok (.aload_n 0, 1) := by decide +kernel
theorem dX3_twos_38 : decode cX3_twos 38 = .ok (.getfield 23, 3) := by decide +kernel
theorem dX3_twos_41 : decode cX3_twos 41 = .ok (.iload_n 1, 1) := by decide +kernel
theorem dX3_twos_42 : decode cX3_twos 42 = .ok (.invokevirtual 171, 3) := by decide +kernel
theorem dX3_twos_45 : decode cX3_twos 45 = .ok (.ifCond .eq 5, 3) := by decide +kernel
theorem dX3_twos_48 : decode cX3_twos 48 = .ok (.iload_n 2, 1) := by decide +kernel
theorem dX3_twos_49 : decode cX3_twos 49 = .ok (.ireturn, 1) := by decide +kernel
theorem dX3_twos_50 : decode cX3_twos 50 = .ok (.aload_n 0, 1) := by decide +kernel
theorem dX3_twos_51 : decode cX3_twos 51 = .ok (.getfield 23, 3) := by decide +kernel
theorem dX3_twos_54 : decode cX3_twos 54 = .ok (.invokevirtual 100, 3) := by decide +kernel
theorem dX3_twos_57 : decode cX3_twos 57 = .ok (.iinc 2 1, 3) := by decide +kernel
theorem dX3_twos_60 : decode cX3_twos 60 = .ok (.goto (-29), 3) := by decide +kernel
theorem dX3_twos_63 : decode cX3_twos 63 = .ok (.iconst (-1), 1) := by decide +kernel
theorem dX3_twos_64 : decode cX3_twos 64 = .ok (.ireturn, 1) := by decide +kernel
theorem dX3_whole_0 : decode cX3_whole 0 = .ok (.aload_n 0, 1) := by decide +kernel
theorem dX3_whole_1 : decode cX3_whole 1 = .ok (.invokevirtual 174, 3) := by decide +kernel
theorem dX3_whole_4 : decode cX3_whole 4 = .ok (.aload_n 0, 1) := by decide +kernel
theorem dX3_whole_5 : decode cX3_whole 5 = .ok (.iconst (-1), 1) := by decide +kernel
theorem dX3_whole_6 : decode cX3_whole 6 = .ok (.iconst (-1), 1) := by decide +kernel
theorem dX3_whole_7 : decode cX3_whole 7 = .ok (.invokevirtual 177, 3) := by decide +kernel
theorem dX3_whole_10 : decode cX3_whole 10 = .ok (.ireturn, 1) := by decide +kernel
theorem dX3_holes_0 : decode cX3_holes 0 = .ok (.iload_n 1, 1) := by decide +kernel
theorem dX3_holes_1 : decode cX3_holes 1 = .ok (.bipush 41, 2) := by decide +kernel
theorem dX3_holes_3 : decode cX3_holes 3 = .ok (.invokestatic 54, 3) := by decide +kernel
theorem dX3_holes_6 : decode cX3_holes 6 = .ok (.ifCond .ne 10, 3) := by decide +kernel
theorem dX3_holes_9 : decode cX3_holes 9 = .ok (.aload_n 0, 1) := by decide +kernel
theorem dX3_holes_10 : decode cX3_holes 10 = .ok (.bipush (-2), 2) := by decide +kernel
theorem dX3_holes_12 : decode cX3_holes 12 = .ok (.invokevirtual 58, 3) := by decide +kernel
theorem dX3_holes_15 : decode cX3_holes 15 = .ok (.ireturn, 1) := by decide +kernel
theorem dX3_holes_16 : decode cX3_holes 16 = .ok (.aload_n 0, 1) := by decide +kernel
theorem dX3_holes_17 : decode cX3_holes 17 = .ok (.iload_n 1, 1) := by decide +kernel
theorem dX3_holes_18 : decode cX3_holes 18 = .ok (.invokevirtual 158, 3) := by decide +kernel
theorem dX3_holes_21 : decode cX3_holes 21 = .ok (.aload_n 0, 1) := by decide +kernel
theorem dX3_holes_22 : decode cX3_holes 22 = .ok (.getfield 23, 3) := by decide +kernel
theorem dX3_holes_25 : decode cX3_holes 25 = .ok (.invokevirtual 103, 3) := by decide +kernel
theorem dX3_holes_28 : decode cX3_holes 28 = .ok (.ireturn, 1) := by decide +kernel
theorem dX3_best_0 : decode cX3_best 0 = .ok (.iload_n 1, 1) := by decide +kernel
theorem dX3_best_1 : decode cX3_best 1 = .ok (.iconst 1, 1) := by decide +kernel
theorem dX3_best_2 : decode cX3_best 2 = .ok (.bipush 30, 2) := by decide +kernel
theorem dX3_best_4 : decode cX3_best 4 = .ok (.invokestatic 96, 3) := by decide +kernel
theorem dX3_best_7 : decode cX3_best 7 = .ok (.ifCond .eq 21, 3) := by decide +kernel
theorem dX3_best_10 : decode cX3_best 10 = .ok (.iload_n 2, 1) := by decide +kernel
theorem dX3_best_11 : decode cX3_best 11 = .ok (.bipush 6, 2) := by decide +kernel
theorem dX3_best_13 : decode cX3_best 13 = .ok (.invokestatic 54, 3) := by decide +kernel
theorem dX3_best_16 : decode cX3_best 16 = .ok (.ifCond .eq 12, 3) := by decide +kernel
theorem dX3_best_19 : decode cX3_best 19 = .ok (.iload_n 3, 1) := by decide +kernel
theorem dX3_best_20 : decode cX3_best 20 = .ok (.iconst 0, 1) := by decide +kernel
theorem dX3_best_21 : decode cX3_best 21 = .ok (.iconst 1, 1) := by decide +kernel
theorem dX3_best_22 : decode cX3_best 22 = .ok (.invokestatic 96, 3) := by decide +kernel
theorem dX3_best_25 : decode cX3_best 25 = .ok (.ifCond .ne 10, 3) := by decide +kernel
theorem dX3_best_28 : decode cX3_best 28 = .ok (.aload_n 0, 1) := by decide +kernel
theorem dX3_best_29 : decode cX3_best 29 = .ok (.bipush (-2), 2) := by decide +kernel
theorem dX3_best_31 : decode cX3_best 31 = .ok (.invokevirtual 58, 3) := by decide +kernel
theorem dX3_best_34 : decode cX3_best 34 = .ok (.ireturn, 1) := by decide +kernel
theorem dX3_best_35 : decode cX3_best 35 = .ok (.aload_n 0, 1) := by decide +kernel
theorem dX3_best_36 : decode cX3_best 36 = .ok (.invokevirtual 174, 3) := by decide +kernel
theorem dX3_best_39 : decode cX3_best 39 = .ok (.iconst (-1), 1) := by decide +kernel
theorem dX3_best_40 : decode cX3_best 40 = .ok (.istore 4, 2) := by decide +kernel
theorem dX3_best_42 : decode cX3_best 42 = .ok (.iconst (-1), 1) := by decide +kernel
theorem dX3_best_43 : decode cX3_best 43 = .ok (.istore 5, 2) := by decide +kernel
theorem dX3_best_45 : decode cX3_best 45 = .ok (.iconst 0, 1) := by decide +kernel
theorem dX3_best_46 : decode cX3_best 46 = .ok (.istore 6, 2) := by decide +kernel
theorem dX3_best_48 : decode cX3_best 48 = .ok (.iload 6, 2) := by decide +kernel
theorem dX3_best_50 : decode cX3_best 50 = .ok (.bipush 9, 2) := by decide +kernel
theorem dX3_best_52 : decode cX3_best 52 = .ok (.if_icmp .ge 69, 3) := by decide +kernel
theorem dX3_best_55 : decode cX3_best 55 = .ok (.aload_n 0, 1) := by decide +kernel
theorem dX3_best_56 : decode cX3_best 56 = .ok (.getfield 12, 3) := by decide +kernel
theorem dX3_best_59 : decode cX3_best 59 = .ok (.getfield 62, 3) := by decide +kernel
theorem dX3_best_62 : decode cX3_best 62 = .ok (.iload 6, 2) := by decide +kernel
theorem dX3_best_64 : decode cX3_best 64 = .ok (.invokevirtual 180, 3) := by decide +kernel
theorem dX3_best_67 : decode cX3_best 67 = .ok (.ifCond .ne 6, 3) := by decide +kernel
theorem dX3_best_70 : decode cX3_best 70 = .ok (.goto 45, 3) := by decide +kernel
theorem dX3_best_73 : decode cX3_best 73 = .ok (.aload_n 0, 1) := by decide +kernel
theorem dX3_best_74 : decode cX3_best 74 = .ok (.iload 6, 2) := by decide +kernel
theorem dX3_best_76 : decode cX3_best 76 = .ok (.iload 6, 2) := by decide +kernel
theorem dX3_best_78 : decode cX3_best 78 = .ok (.invokevirtual 177, 3) := by decide +kernel
theorem dX3_best_81 : decode cX3_best 81 = .ok (.aload_n 0, 1) := by decide +kernel
theorem dX3_best_82 : decode cX3_best 82 = .ok (.getfield 12, 3) := by decide +kernel
theorem dX3_best_85 : decode cX3_best 85 = .ok (.getfield 62, 3) := by decide +kernel
theorem dX3_best_88 : decode cX3_best 88 = .ok (.iload 6, 2) := by decide +kernel
theorem dX3_best_90 : decode cX3_best 90 = .ok (.iload_n 2, 1) := by decide +kernel
theorem dX3_best_91 : decode cX3_best 91 = .ok (.iload_n 1, 1) := by decide +kernel
theorem dX3_best_92 : decode cX3_best 92 = .ok (.invokevirtual 183, 3) := by decide +kernel
theorem dX3_best_95 : decode cX3_best 95 = .ok (.invokestatic 186, 3) := by decide +kernel
theorem dX3_best_98 : decode cX3_best 98 = .ok (.istore 7, 2) := by decide +kernel
theorem dX3_best_100 : decode cX3_best 100 = .ok (.iload 7, 2) := by decide +kernel
theorem dX3_best_102 : decode cX3_best 102 = .ok (.iload 5, 2) := by decide +kernel
theorem dX3_best_104 : decode cX3_best 104 = .ok (.if_icmp .le 11, 3) := by decide +kernel
theorem dX3_best_107 : decode cX3_best 107 = .ok (.iload 6, 2) := by decide +kernel
theorem dX3_best_109 : decode cX3_best 109 = .ok (.istore 4, 2) := by decide +kernel
theorem dX3_best_111 : decode cX3_best 111 = .ok (.iload 7, 2) := by decide +kernel
theorem dX3_best_113 : decode cX3_best 113 = .ok (.istore 5, 2) := by decide +kernel
theorem dX3_best_115 : decode cX3_best 115 = .ok (.iinc 6 1, 3) := by decide +kernel
theorem dX3_best_118 : decode cX3_best 118 = .ok (.goto (-70), 3) := by decide +kernel
theorem dX3_best_121 : decode cX3_best 121 = .ok (.iload_n 3, 1) := by decide +kernel
theorem dX3_best_122 : decode cX3_best 122 = .ok (.ifCond .ne 8, 3) := by decide +kernel
theorem dX3_best_125 : decode cX3_best 125 = .ok (.iload 4, 2) := by decide +kernel
theorem dX3_best_127 : decode cX3_best 127 = .ok (.goto 5, 3) := by decide +kernel
theorem dX3_best_130 : decode cX3_best 130 = .ok (.iload 5, 2) := by decide +kernel
theorem dX3_best_132 : decode cX3_best 132 = .ok (.ireturn, 1) := by decide +kernel
theorem dX3_split_0 : decode cX3_split 0 = .ok (.iload_n 1, 1) := by decide +kernel
theorem dX3_split_1 : decode cX3_split 1 = .ok (.iconst 2, 1) := by decide +kernel
theorem dX3_split_2 : decode cX3_split 2 = .ok (.bipush 30, 2) := by decide +kernel
theorem dX3_split_4 : decode cX3_split 4 = .ok (.invokestatic 96, 3) := by decide +kernel
theorem dX3_split_7 : decode cX3_split 7 = .ok (.ifCond .eq 21, 3) := by decide +kernel
theorem dX3_split_10 : decode cX3_split 10 = .ok (.iload_n 2, 1) := by decide +kernel
theorem dX3_split_11 : decode cX3_split 11 = .ok (.bipush 6, 2) := by decide +kernel
theorem dX3_split_13 : decode cX3_split 13 = .ok (.invokestatic 54, 3) := by decide +kernel
theorem dX3_split_16 : decode cX3_split 16 = .ok (.ifCond .eq 12, 3) := by decide +kernel
theorem dX3_split_19 : decode cX3_split 19 = .ok (.iload_n 3, 1) := by decide +kernel
theorem dX3_split_20 : decode cX3_split 20 = .ok (.iconst 0, 1) := by decide +kernel
theorem dX3_split_21 : decode cX3_split 21 = .ok (.iconst 2, 1) := by decide +kernel
theorem dX3_split_22 : decode cX3_split 22 = .ok (.invokestatic 96, 3) := by decide +kernel
theorem dX3_split_25 : decode cX3_split 25 = .ok (.ifCond .ne 10, 3) := by decide +kernel
theorem dX3_split_28 : decode cX3_split 28 = .ok (.aload_n 0, 1) := by decide +kernel
theorem dX3_split_29 : decode cX3_split 29 = .ok (.bipush (-2), 2) := by decide +kernel
theorem dX3_split_31 : decode cX3_split 31 = .ok (.invokevirtual 58, 3) := by decide +kernel
theorem dX3_split_34 : decode cX3_split 34 = .ok (.ireturn, 1) := by decide +kernel
theorem dX3_split_35 : decode cX3_split 35 = .ok (.aload_n 0, 1) := by decide +kernel
theorem dX3_split_36 : decode cX3_split 36 = .ok (.invokevirtual 174, 3) := by decide +kernel
theorem dX3_split_39 : decode cX3_split 39 = .ok (.aload_n 0, 1) := by decide +kernel
theorem dX3_split_40 : decode cX3_split 40 = .ok (.iload_n 1, 1) := by decide +kernel
theorem dX3_split_41 : decode cX3_split 41 = .ok (.iload_n 2, 1) := by decide +kernel
theorem dX3_split_42 : decode cX3_split 42 = .ok (.invokevirtual 191, 3) := by decide +kernel
theorem dX3_split_45 : decode cX3_split 45 = .ok (.iconst (-1), 1) := by decide +kernel
theorem dX3_split_46 : decode cX3_split 46 = .ok (.istore 4, 2) := by decide +kernel
theorem dX3_split_48 : decode cX3_split 48 = .ok (.iconst (-1), 1) := by decide +kernel
theorem dX3_split_49 : decode cX3_split 49 = .ok (.istore 5, 2) := by decide +kernel
theorem dX3_split_51 : decode cX3_split 51 = .ok (.iconst (-1), 1) := by decide +kernel
theorem dX3_split_52 : decode cX3_split 52 = .ok (.istore 6, 2) := by decide +kernel
theorem dX3_split_54 : decode cX3_split 54 = .ok (.iconst 0, 1) := by decide +kernel
theorem dX3_split_55 : decode cX3_split 55 = .ok (.istore 7, 2) := by decide +kernel
theorem dX3_split_57 : decode cX3_split 57 = .ok (.iload 7, 2) := by decide +kernel
theorem dX3_split_59 : decode cX3_split 59 = .ok (.bipush 9, 2) := by decide +kernel
theorem dX3_split_61 : decode cX3_split 61 = .ok (.if_icmp .ge 124, 3) := by decide +kernel
theorem dX3_split_64 : decode cX3_split 64 = .ok (.iload 7, 2) := by decide +kernel
theorem dX3_split_66 : decode cX3_split 66 = .ok (.iconst 1, 1) := by decide +kernel
theorem dX3_split_67 : decode cX3_split 67 = .ok (.iadd, 1) := by decide +kernel
theorem dX3_split_68 : decode cX3_split 68 = .ok (.istore 8, 2) := by decide +kernel
theorem dX3_split_70 : decode cX3_split 70 = .ok (.iload 8, 2) := by decide +kernel
theorem dX3_split_72 : decode cX3_split 72 = .ok (.bipush 9, 2) := by decide +kernel
theorem dX3_split_74 : decode cX3_split 74 = .ok (.if_icmp .ge 105, 3) := by decide +kernel
theorem dX3_split_77 : decode cX3_split 77 = .ok (.aload_n 0, 1) := by decide +kernel
theorem dX3_split_78 : decode cX3_split 78 = .ok (.getfield 12, 3) := by decide +kernel
theorem dX3_split_81 : decode cX3_split 81 = .ok (.getfield 62, 3) := by decide +kernel
theorem dX3_split_84 : decode cX3_split 84 = .ok (.iload 7, 2) := by decide +kernel
theorem dX3_split_86 : decode cX3_split 86 = .ok (.invokevirtual 180, 3) := by decide +kernel
theorem dX3_split_89 : decode cX3_split 89 = .ok (.ifCond .eq 84, 3) := by decide +kernel
theorem dX3_split_92 : decode cX3_split 92 = .ok (.aload_n 0, 1) := by decide +kernel
theorem dX3_split_93 : decode cX3_split 93 = .ok (.getfield 12, 3) := by decide +kernel
theorem dX3_split_96 : decode cX3_split 96 = .ok (.getfield 62, 3) := by decide +kernel
theorem dX3_split_99 : decode cX3_split 99 = .ok (.iload 8, 2) := by decide +kernel
theorem dX3_split_101 : decode cX3_split 101 = .ok (.invokevirtual 180, 3) := by decide +kernel
theorem dX3_split_104 : decode cX3_split 104 = .ok (.ifCond .ne 6, 3) := by decide +kernel
theorem dX3_split_107 : decode cX3_split 107 = .ok (.goto 66, 3) := by decide +kernel
theorem dX3_split_110 : decode cX3_split 110 = .ok (.aload_n 0, 1) := by decide +kernel
theorem dX3_split_111 : decode cX3_split 111 = .ok (.iload 7, 2) := by decide +kernel
theorem dX3_split_113 : decode cX3_split 113 = .ok (.iload 8, 2) := by decide +kernel
theorem dX3_split_115 : decode cX3_split 115 = .ok (.invokevirtual 177, 3) := by decide +kernel
theorem dX3_split_118 : decode cX3_split 118 = .ok (.istore 9, 2) := by decide +kernel
theorem dX3_split_120 : decode cX3_split 120 = .ok (.aload_n 0, 1) := by decide +kernel
theorem dX3_split_121 : decode cX3_split 121 = .ok (.iload 7, 2) := by decide +kernel
theorem dX3_split_123 : decode cX3_split 123 = .ok (.iload 8, 2) := by decide +kernel
theorem dX3_split_125 : decode cX3_split 125 = .ok (.iload_n 1, 1) := by decide +kernel
theorem dX3_split_126 : decode cX3_split 126 = .ok (.iload 9, 2) := by decide +kernel
theorem dX3_split_128 : decode cX3_split 128 = .ok (.invokevirtual 195, 3) := by decide +kernel
theorem dX3_split_131 : decode cX3_split 131 = .ok (.istore 10, 2) := by decide +kernel
theorem dX3_split_133 : decode cX3_split 133 = .ok (.aload_n 0, 1) := by decide +kernel
theorem dX3_split_134 : decode cX3_split 134 = .ok (.iload 7, 2) := by decide +kernel
theorem dX3_split_136 : decode cX3_split 136 = .ok (.iload 8, 2) := by decide +kernel
theorem dX3_split_138 : decode cX3_split 138 = .ok (.iload_n 1, 1) := by decide +kernel
theorem dX3_split_139 : decode cX3_split 139 = .ok (.iload 10, 2) := by decide +kernel
theorem dX3_split_141 : decode cX3_split 141 = .ok (.iload 9, 2) := by decide +kernel
theorem dX3_split_143 : decode cX3_split 143 = .ok (.invokevirtual 198, 3) := by decide +kernel
theorem dX3_split_146 : decode cX3_split 146 = .ok (.istore 11, 2) := by decide +kernel
theorem dX3_split_148 : decode cX3_split 148 = .ok (.iload 11, 2) := by decide +kernel
theorem dX3_split_150 : decode cX3_split 150 = .ok (.iload 6, 2) := by decide +kernel
theorem dX3_split_152 : decode cX3_split 152 = .ok (.if_icmp .le 21, 3) := by decide +kernel
theorem dX3_split_155 : decode cX3_split 155 = .ok (.bipush 10, 2) := by decide +kernel
theorem dX3_split_157 : decode cX3_split 157 = .ok (.iload 7, 2) := by decide +kernel
theorem dX3_split_159 : decode cX3_split 159 = .ok (.imul, 1) := by decide +kernel
theorem dX3_split_160 : decode cX3_split 160 = .ok (.iload 8, 2) := by decide +kernel
theorem dX3_split_162 : decode cX3_split 162 = .ok (.iadd, 1) := by decide +kernel
theorem dX3_split_163 : decode cX3_split 163 = .ok (.istore 4, 2) := by decide +kernel
theorem dX3_split_165 : decode cX3_split 165 = .ok (.iload 10, 2) := by decide +kernel
theorem dX3_split_167 : decode cX3_split 167 = .ok (.istore 5, 2) := by decide +kernel
theorem dX3_split_169 : decode cX3_split 169 = .ok (.iload 11, 2) := by decide +kernel
theorem dX3_split_171 : decode cX3_split 171 = .ok (.istore 6, 2) := by decide +kernel
theorem dX3_split_173 : decode cX3_split 173 = .ok (.iinc 8 1, 3) := by decide +kernel
theorem dX3_split_176 : decode cX3_split 176 = .ok (.goto (-106), 3) := by decide +kernel
theorem dX3_split_179 : decode cX3_split 179 = .ok (.iinc 7 1, 3) := by decide +kernel
theorem dX3_split_182 : decode cX3_split 182 = .ok (.goto (-125), 3) := by decide +kernel
theorem dX3_split_185 : decode cX3_split 185 = .ok (.iload_n 3, 1) := by decide +kernel
theorem dX3_split_186 : decode cX3_split 186 = .ok (.ifCond .ne 8, 3) := by decide +kernel
theorem dX3_split_189 : decode cX3_split 189 = .ok (.iload 4, 2) := by decide +kernel
theorem dX3_split_191 : decode cX3_split 191 = .ok (.goto 15, 3) := by decide +kernel
theorem dX3_split_194 : decode cX3_split 194 = .ok (.iload_n 3, 1) := by decide +kernel
theorem dX3_split_195 : decode cX3_split 195 = .ok (.iconst 1, 1) := by decide +kernel
theorem dX3_split_196 : decode cX3_split 196 = .ok (.if_icmp .ne 8, 3) := by decide +kernel
theorem dX3_split_199 : decode cX3_split 199 = .ok (.iload 5, 2) := by decide +kernel
theorem dX3_split_201 : decode cX3_split 201 = .ok (.goto 5, 3) := by decide +kernel
theorem dX3_split_204 : decode cX3_split 204 = .ok (.iload 6, 2) := by decide +kernel
theorem dX3_split_206 : decode cX3_split 206 = .ok (.ireturn, 1) := by decide +kernel
theorem dX3_reading_0 : decode cX3_reading 0 = .ok (.iload_n 1, 1) := by decide +kernel
theorem dX3_reading_1 : decode cX3_reading 1 = .ok (.bipush 9, 2) := by decide +kernel
theorem dX3_reading_3 : decode cX3_reading 3 = .ok (.invokestatic 54, 3) := by decide +kernel
theorem dX3_reading_6 : decode cX3_reading 6 = .ok (.ifCond .eq 22, 3) := by decide +kernel
theorem dX3_reading_9 : decode cX3_reading 9 = .ok (.iload_n 2, 1) := by decide +kernel
theorem dX3_reading_10 : decode cX3_reading 10 = .ok (.bipush 21, 2) := by decide +kernel
theorem dX3_reading_12 : decode cX3_reading 12 = .ok (.invokestatic 54, 3) := by decide +kernel
theorem dX3_reading_15 : decode cX3_reading 15 = .ok (.ifCond .eq 13, 3) := by decide +kernel
theorem dX3_reading_18 : decode cX3_reading 18 = .ok (.iload_n 3, 1) := by decide +kernel
theorem dX3_reading_19 : decode cX3_reading 19 = .ok (.iconst 0, 1) := by decide +kernel
theorem dX3_reading_20 : decode cX3_reading 20 = .ok (.bipush 30, 2) := by decide +kernel
theorem dX3_reading_22 : decode cX3_reading 22 = .ok (.invokestatic 96, 3) := by decide +kernel
theorem dX3_reading_25 : decode cX3_reading 25 = .ok (.ifCond .ne 10, 3) := by decide +kernel
theorem dX3_reading_28 : decode cX3_reading 28 = .ok (.aload_n 0, 1) := by decide +kernel
theorem dX3_reading_29 : decode cX3_reading 29 = .ok (.bipush (-2), 2) := by decide +kernel
theorem dX3_reading_31 : decode cX3_reading 31 = .ok (.invokevirtual 58, 3) := by decide +kernel
theorem dX3_reading_34 : decode cX3_reading 34 = .ok (.ireturn, 1) := by decide +kernel
theorem dX3_reading_35 : decode cX3_reading 35 = .ok (.aload_n 0, 1) := by decide +kernel
theorem dX3_reading_36 : decode cX3_reading 36 = .ok (.getfield 12, 3) := by decide +kernel
theorem dX3_reading_39 : decode cX3_reading 39 = .ok (.getfield 202, 3) := by decide +kernel
theorem dX3_reading_42 : decode cX3_reading 42 = .ok (.bipush 6, 2) := by decide +kernel
theorem dX3_reading_44 : decode cX3_reading 44 = .ok (.if_icmp .lt 10, 3) := by decide +kernel
theorem dX3_reading_47 : decode cX3_reading 47 = .ok (.aload_n 0, 1) := by decide +kernel
theorem dX3_reading_48 : decode cX3_reading 48 = .ok (.bipush (-4), 2) := by decide +kernel
theorem dX3_reading_50 : decode cX3_reading 50 = .ok (.invokevirtual 58, 3) := by decide +kernel
theorem dX3_reading_53 : decode cX3_reading 53 = .ok (.ireturn, 1) := by decide +kernel
theorem dX3_reading_54 : decode cX3_reading 54 = .ok (.aload_n 0, 1) := by decide +kernel
theorem dX3_reading_55 : decode cX3_reading 55 = .ok (.getfield 12, 3) := by decide +kernel
theorem dX3_reading_58 : decode cX3_reading 58 = .ok (.iload_n 1, 1) := by decide +kernel
theorem dX3_reading_59 : decode cX3_reading 59 = .ok (.iload_n 2, 1) := by decide +kernel
theorem dX3_reading_60 : decode cX3_reading 60 = .ok (.iload_n 3, 1) := by decide +kernel
theorem dX3_reading_61 : decode cX3_reading 61 = .ok (.invokevirtual 205, 3) := by decide +kernel
theorem dX3_reading_64 : decode cX3_reading 64 = .ok (.ireturn, 1) := by decide +kernel
theorem dX3_forget_0 : decode cX3_forget 0 = .ok (.aload_n 0, 1) := by decide +kernel
theorem dX3_forget_1 : decode cX3_forget 1 = .ok (.getfield 12, 3) := by decide +kernel
theorem dX3_forget_4 : decode cX3_forget 4 = .ok (.getfield 202, 3) := by decide +kernel
theorem dX3_forget_7 : decode cX3_forget 7 = .ok (.istore_n 1, 1) := by decide +kernel
theorem dX3_forget_8 : decode cX3_forget 8 = .ok (.aload_n 0, 1) := by decide +kernel
theorem dX3_forget_9 : decode cX3_forget 9 = .ok (.getfield 12, 3) := by decide +kernel
theorem dX3_forget_12 : decode cX3_forget 12 = .ok (.iconst 0, 1) := by decide +kernel
theorem dX3_forget_13 : decode cX3_forget 13 = .ok (.putfield 202, 3) := by decide +kernel
theorem dX3_forget_16 : decode cX3_forget 16 = .ok (.iload_n 1, 1) := by decide +kernel
theorem dX3_forget_17 : decode cX3_forget 17 = .ok (.ireturn, 1) := by decide +kernel
theorem dX3_may_0 : decode cX3_may 0 = .ok (.iload_n 1, 1) := by decide +kernel
theorem dX3_may_1 : decode cX3_may 1 = .ok (.bipush 9, 2) := by decide +kernel
theorem dX3_may_3 : decode cX3_may 3 = .ok (.invokestatic 54, 3) := by decide +kernel
theorem dX3_may_6 : decode cX3_may 6 = .ok (.ifCond .ne 10, 3) := by decide +kernel
theorem dX3_may_9 : decode cX3_may 9 = .ok (.aload_n 0, 1) := by decide +kernel
theorem dX3_may_10 : decode cX3_may 10 = .ok (.bipush (-2), 2) := by decide +kernel
theorem dX3_may_12 : decode cX3_may 12 = .ok (.invokevirtual 58, 3) := by decide +kernel
theorem dX3_may_15 : decode cX3_may 15 = .ok (.ireturn, 1) := by decide +kernel
theorem dX3_may_16 : decode cX3_may 16 = .ok (.aload_n 0, 1) := by decide +kernel
theorem dX3_may_17 : decode cX3_may 17 = .ok (.getfield 12, 3) := by decide +kernel
theorem dX3_may_20 : decode cX3_may 20 = .ok (.iload_n 1, 1) := by decide +kernel
theorem dX3_may_21 : decode cX3_may 21 = .ok (.invokevirtual 208, 3) := by decide +kernel
theorem dX3_may_24 : decode cX3_may 24 = .ok (.ireturn, 1) := by decide +kernel
theorem dX3_look_0 : decode cX3_look 0 = .ok (.iload_n 1, 1) := by decide +kernel
theorem dX3_look_1 : decode cX3_look 1 = .ok (.bipush 9, 2) := by decide +kernel
theorem dX3_look_3 : decode cX3_look 3 = .ok (.invokestatic 54, 3) := by decide +kernel
theorem dX3_look_6 : decode cX3_look 6 = .ok (.ifCond .ne 10, 3) := by decide +kernel
theorem dX3_look_9 : decode cX3_look 9 = .ok (.aload_n 0, 1) := by decide +kernel
theorem dX3_look_10 : decode cX3_look 10 = .ok (.bipush (-2), 2) := by decide +kernel
theorem dX3_look_12 : decode cX3_look 12 = .ok (.invokevirtual 58, 3) := by decide +kernel
theorem dX3_look_15 : decode cX3_look 15 = .ok (.ireturn, 1) := by decide +kernel
theorem dX3_look_16 : decode cX3_look 16 = .ok (.aload_n 0, 1) := by decide +kernel
theorem dX3_look_17 : decode cX3_look 17 = .ok (.getfield 12, 3) := by decide +kernel
theorem dX3_look_20 : decode cX3_look 20 = .ok (.iload_n 1, 1) := by decide +kernel
theorem dX3_look_21 : decode cX3_look 21 = .ok (.invokevirtual 208, 3) := by decide +kernel
theorem dX3_look_24 : decode cX3_look 24 = .ok (.istore_n 2, 1) := by decide +kernel
theorem dX3_look_25 : decode cX3_look 25 = .ok (.iload_n 2, 1) := by decide +kernel
theorem dX3_look_26 : decode cX3_look 26 = .ok (.ifCond .ne 5, 3) := by decide +kernel
theorem dX3_look_29 : decode cX3_look 29 = .ok (.iconst (-1), 1) := by decide +kernel
theorem dX3_look_30 : decode cX3_look 30 = .ok (.ireturn, 1) := by decide +kernel
theorem dX3_look_31 : decode cX3_look 31 = .ok (.iconst (-1), 1) := by decide +kernel
theorem dX3_look_32 : decode cX3_look 32 = .ok (.istore_n 3, 1) := by decide +kernel
theorem dX3_look_33 : decode cX3_look 33 = .ok (.bipush 7, 2) := by decide +kernel
theorem dX3_look_35 : decode cX3_look 35 = .ok (.istore 4, 2) := by decide +kernel
theorem dX3_look_37 : decode cX3_look 37 = .ok (.iconst 0, 1) := by decide +kernel
theorem dX3_look_38 : decode cX3_look 38 = .ok (.istore 5, 2) := by decide +kernel
theorem dX3_look_40 : decode cX3_look 40 = .ok (.iload 5, 2) := by decide +kernel
theorem dX3_look_42 : decode cX3_look 42 = .ok (.bipush 21, 2) := by decide +kernel
theorem dX3_look_44 : decode cX3_look 44 = .ok (.if_icmp .ge 33, 3) := by decide +kernel
theorem dX3_look_47 : decode cX3_look 47 = .ok (.aload_n 0, 1) := by decide +kernel
theorem dX3_look_48 : decode cX3_look 48 = .ok (.iload_n 1, 1) := by decide +kernel
theorem dX3_look_49 : decode cX3_look 49 = .ok (.iload_n 2, 1) := by decide +kernel
theorem dX3_look_50 : decode cX3_look 50 = .ok (.iload 5, 2) := by decide +kernel
theorem dX3_look_52 : decode cX3_look 52 = .ok (.invokevirtual 211, 3) := by decide +kernel
theorem dX3_look_55 : decode cX3_look 55 = .ok (.istore 6, 2) := by decide +kernel
theorem dX3_look_57 : decode cX3_look 57 = .ok (.iload 6, 2) := by decide +kernel
theorem dX3_look_59 : decode cX3_look 59 = .ok (.iload 4, 2) := by decide +kernel
theorem dX3_look_61 : decode cX3_look 61 = .ok (.if_icmp .ge 10, 3) := by decide +kernel
theorem dX3_look_64 : decode cX3_look 64 = .ok (.iload 5, 2) := by decide +kernel
theorem dX3_look_66 : decode cX3_look 66 = .ok (.istore_n 3, 1) := by decide +kernel
theorem dX3_look_67 : decode cX3_look 67 = .ok (.iload 6, 2) := by decide +kernel
theorem dX3_look_69 : decode cX3_look 69 = .ok (.istore 4, 2) := by decide +kernel
theorem dX3_look_71 : decode cX3_look 71 = .ok (.iinc 5 1, 3) := by decide +kernel
theorem dX3_look_74 : decode cX3_look 74 = .ok (.goto (-34), 3) := by decide +kernel
theorem dX3_look_77 : decode cX3_look 77 = .ok (.iload_n 3, 1) := by decide +kernel
theorem dX3_look_78 : decode cX3_look 78 = .ok (.ireturn, 1) := by decide +kernel
theorem dX3_orders_0 : decode cX3_orders 0 = .ok (.iload_n 1, 1) := by decide +kernel
theorem dX3_orders_1 : decode cX3_orders 1 = .ok (.sipush 512, 3) := by decide +kernel
theorem dX3_orders_4 : decode cX3_orders 4 = .ok (.invokestatic 54, 3) := by decide +kernel
theorem dX3_orders_7 : decode cX3_orders 7 = .ok (.ifCond .eq 8, 3) := by decide +kernel
theorem dX3_orders_10 : decode cX3_orders 10 = .ok (.iload_n 2, 1) := by decide +kernel
theorem dX3_orders_11 : decode cX3_orders 11 = .ok (.iconst (-1), 1) := by decide +kernel
theorem dX3_orders_12 : decode cX3_orders 12 = .ok (.if_icmp .ge 13, 3) := by decide +kernel
theorem dX3_orders_15 : decode cX3_orders 15 = .ok (.aload_n 0, 1) := by decide +kernel
theorem dX3_orders_16 : decode cX3_orders 16 = .ok (.bipush (-2), 2) := by decide +kernel
theorem dX3_orders_18 : decode cX3_orders 18 = .ok (.invokevirtual 58, 3) := by decide +kernel
theorem dX3_orders_21 : decode cX3_orders 21 = .ok (.pop, 1) := by decide +kernel
theorem dX3_orders_22 : decode cX3_orders 22 = .ok (.bipush (-10), 2) := by decide +kernel
theorem dX3_orders_24 : decode cX3_orders 24 = .ok (.ireturn, 1) := by decide +kernel
theorem dX3_orders_25 : decode cX3_orders 25 = .ok (.aload_n 0, 1) := by decide +kernel
theorem dX3_orders_26 : decode cX3_orders 26 = .ok (.getfield 12, 3) := by decide +kernel
theorem dX3_orders_29 : decode cX3_orders 29 = .ok (.getfield 62, 3) := by decide +kernel
theorem dX3_orders_32 : decode cX3_orders 32 = .ok (.iload_n 1, 1) := by decide +kernel
theorem dX3_orders_33 : decode cX3_orders 33 = .ok (.invokevirtual 214, 3) := by decide +kernel
theorem dX3_orders_36 : decode cX3_orders 36 = .ok (.istore_n 3, 1) := by decide +kernel
theorem dX3_orders_37 : decode cX3_orders 37 = .ok (.iload_n 3, 1) := by decide +kernel
theorem dX3_orders_38 : decode cX3_orders 38 = .ok (.bipush 6, 2) := by decide +kernel
theorem dX3_orders_40 : decode cX3_orders 40 = .ok (.if_icmp .le 13, 3) := by decide +kernel
theorem dX3_orders_43 : decode cX3_orders 43 = .ok (.aload_n 0, 1) := by decide +kernel
theorem dX3_orders_44 : decode cX3_orders 44 = .ok (.bipush (-3), 2) := by decide +kernel
theorem dX3_orders_46 : decode cX3_orders 46 = .ok (.invokevirtual 58, 3) := by decide +kernel
theorem dX3_orders_49 : decode cX3_orders 49 = .ok (.pop, 1) := by decide +kernel
theorem dX3_orders_50 : decode cX3_orders 50 = .ok (.bipush (-20), 2) := by decide +kernel
theorem dX3_orders_52 : decode cX3_orders 52 = .ok (.ireturn, 1) := by decide +kernel
theorem dX3_orders_53 : decode cX3_orders 53 = .ok (.iload_n 2, 1) := by decide +kernel
theorem dX3_orders_54 : decode cX3_orders 54 = .ok (.iload_n 3, 1) := by decide +kernel
theorem dX3_orders_55 : decode cX3_orders 55 = .ok (.if_icmp .lt 6, 3) := by decide +kernel
theorem dX3_orders_58 : decode cX3_orders 58 = .ok (.bipush (-5), 2) := by decide +kernel
theorem dX3_orders_60 : decode cX3_orders 60 = .ok (.ireturn, 1) := by decide +kernel
theorem dX3_orders_61 : decode cX3_orders 61 = .ok (.aload_n 0, 1) := by decide +kernel
theorem dX3_orders_62 : decode cX3_orders 62 = .ok (.iload_n 1, 1) := by decide +kernel
theorem dX3_orders_63 : decode cX3_orders 63 = .ok (.iload_n 3, 1) := by decide +kernel
theorem dX3_orders_64 : decode cX3_orders 64 = .ok (.invokevirtual 217, 3) := by decide +kernel
theorem dX3_orders_67 : decode cX3_orders 67 = .ok (.iload_n 2, 1) := by decide +kernel
theorem dX3_orders_68 : decode cX3_orders 68 = .ok (.iconst (-1), 1) := by decide +kernel
theorem dX3_orders_69 : decode cX3_orders 69 = .ok (.if_icmp .ne 11, 3) := by decide +kernel
theorem dX3_orders_72 : decode cX3_orders 72 = .ok (.aload_n 0, 1) := by decide +kernel
theorem dX3_orders_73 : decode cX3_orders 73 = .ok (.iload_n 3, 1) := by decide +kernel
theorem dX3_orders_74 : decode cX3_orders 74 = .ok (.invokevirtual 220, 3) := by decide +kernel
theorem dX3_orders_77 : decode cX3_orders 77 = .ok (.goto 9, 3) := by decide +kernel
theorem dX3_orders_80 : decode cX3_orders 80 = .ok (.aload_n 0, 1) := by decide +kernel
theorem dX3_orders_81 : decode cX3_orders 81 = .ok (.getfield 44, 3) := by decide +kernel
theorem dX3_orders_84 : decode cX3_orders 84 = .ok (.iload_n 2, 1) := by decide +kernel
theorem dX3_orders_85 : decode cX3_orders 85 = .ok (.iaload, 1) := by decide +kernel
theorem dX3_orders_86 : decode cX3_orders 86 = .ok (.ireturn, 1) := by decide +kernel
theorem dX3_odds_0 : decode cX3_odds 0 = .ok (.iload_n 1, 1) := by decide +kernel
theorem dX3_odds_1 : decode cX3_odds 1 = .ok (.bipush 9, 2) := by decide +kernel
theorem dX3_odds_3 : decode cX3_odds 3 = .ok (.invokestatic 54, 3) := by decide +kernel
theorem dX3_odds_6 : decode cX3_odds 6 = .ok (.ifCond .eq 23, 3) := by decide +kernel
theorem dX3_odds_9 : decode cX3_odds 9 = .ok (.iload_n 2, 1) := by decide +kernel
theorem dX3_odds_10 : decode cX3_odds 10 = .ok (.iconst 0, 1) := by decide +kernel
theorem dX3_odds_11 : decode cX3_odds 11 = .ok (.bipush 8, 2) := by decide +kernel
theorem dX3_odds_13 : decode cX3_odds 13 = .ok (.invokestatic 96, 3) := by decide +kernel
theorem dX3_odds_16 : decode cX3_odds 16 = .ok (.ifCond .eq 13, 3) := by decide +kernel
theorem dX3_odds_19 : decode cX3_odds 19 = .ok (.iload_n 3, 1) := by decide +kernel
theorem dX3_odds_20 : decode cX3_odds 20 = .ok (.iconst 0, 1) := by decide +kernel
theorem dX3_odds_21 : decode cX3_odds 21 = .ok (.bipush 10, 2) := by decide +kernel
theorem dX3_odds_23 : decode cX3_odds 23 = .ok (.invokestatic 96, 3) := by decide +kernel
theorem dX3_odds_26 : decode cX3_odds 26 = .ok (.ifCond .ne 10, 3) := by decide +kernel
theorem dX3_odds_29 : decode cX3_odds 29 = .ok (.aload_n 0, 1) := by decide +kernel
theorem dX3_odds_30 : decode cX3_odds 30 = .ok (.bipush (-2), 2) := by decide +kernel
theorem dX3_odds_32 : decode cX3_odds 32 = .ok (.invokevirtual 58, 3) := by decide +kernel
theorem dX3_odds_35 : decode cX3_odds 35 = .ok (.ireturn, 1) := by decide +kernel
theorem dX3_odds_36 : decode cX3_odds 36 = .ok (.aload_n 0, 1) := by decide +kernel
theorem dX3_odds_37 : decode cX3_odds 37 = .ok (.aload_n 0, 1) := by decide +kernel
theorem dX3_odds_38 : decode cX3_odds 38 = .ok (.getfield 12, 3) := by decide +kernel
theorem dX3_odds_41 : decode cX3_odds 41 = .ok (.getfield 62, 3) := by decide +kernel
theorem dX3_odds_44 : decode cX3_odds 44 = .ok (.iload_n 1, 1) := by decide +kernel
theorem dX3_odds_45 : decode cX3_odds 45 = .ok (.iload_n 2, 1) := by decide +kernel
theorem dX3_odds_46 : decode cX3_odds 46 = .ok (.iload_n 3, 1) := by decide +kernel
theorem dX3_odds_47 : decode cX3_odds 47 = .ok (.invokevirtual 223, 3) := by decide +kernel
theorem dX3_odds_50 : decode cX3_odds 50 = .ok (.iload_n 2, 1) := by decide +kernel
theorem dX3_odds_51 : decode cX3_odds 51 = .ok (.invokestatic 227, 3) := by decide +kernel
theorem dX3_odds_54 : decode cX3_odds 54 = .ok (.invokevirtual 167, 3) := by decide +kernel
theorem dX3_odds_57 : decode cX3_odds 57 = .ok (.iconst 1, 1) := by decide +kernel
theorem dX3_odds_58 : decode cX3_odds 58 = .ok (.ireturn, 1) := by decide +kernel
theorem dX3_drawn_0 : decode cX3_drawn 0 = .ok (.iload_n 1, 1) := by decide +kernel
theorem dX3_drawn_1 : decode cX3_drawn 1 = .ok (.iconst 0, 1) := by decide +kernel
theorem dX3_drawn_2 : decode cX3_drawn 2 = .ok (.ldc 231, 2) := by decide +kernel
theorem dX3_drawn_4 : decode cX3_drawn 4 = .ok (.invokestatic 96, 3) := by decide +kernel
theorem dX3_drawn_7 : decode cX3_drawn 7 = .ok (.ifCond .eq 13, 3) := by decide +kernel
theorem dX3_drawn_10 : decode cX3_drawn 10 = .ok (.iload_n 2, 1) := by decide +kernel
theorem dX3_drawn_11 : decode cX3_drawn 11 = .ok (.iconst 0, 1) := by decide +kernel
theorem dX3_drawn_12 : decode cX3_drawn 12 = .ok (.bipush 20, 2) := by decide +kernel
theorem dX3_drawn_14 : decode cX3_drawn 14 = .ok (.invokestatic 96, 3) := by decide +kernel
theorem dX3_drawn_17 : decode cX3_drawn 17 = .ok (.ifCond .ne 10, 3) := by decide +kernel
theorem dX3_drawn_20 : decode cX3_drawn 20 = .ok (.aload_n 0, 1) := by decide +kernel
theorem dX3_drawn_21 : decode cX3_drawn 21 = .ok (.bipush (-2), 2) := by decide +kernel
theorem dX3_drawn_23 : decode cX3_drawn 23 = .ok (.invokevirtual 58, 3) := by decide +kernel
theorem dX3_drawn_26 : decode cX3_drawn 26 = .ok (.ireturn, 1) := by decide +kernel
theorem dX3_drawn_27 : decode cX3_drawn 27 = .ok (.aload_n 0, 1) := by decide +kernel
theorem dX3_drawn_28 : decode cX3_drawn 28 = .ok (.getfield 23, 3) := by decide +kernel
theorem dX3_drawn_31 : decode cX3_drawn 31 = .ok (.aload_n 0, 1) := by decide +kernel
theorem dX3_drawn_32 : decode cX3_drawn 32 = .ok (.getfield 12, 3) := by decide +kernel
theorem dX3_drawn_35 : decode cX3_drawn 35 = .ok (.getfield 62, 3) := by decide +kernel
theorem dX3_drawn_38 : decode cX3_drawn 38 = .ok (.invokevirtual 131, 3) := by decide +kernel
theorem dX3_drawn_41 : decode cX3_drawn 41 = .ok (.iload_n 1, 1) := by decide +kernel
theorem dX3_drawn_42 : decode cX3_drawn 42 = .ok (.i2l, 1) := by decide +kernel
theorem dX3_drawn_43 : decode cX3_drawn 43 = .ok (.lstore_n 3, 1) := by decide +kernel
theorem dX3_drawn_44 : decode cX3_drawn 44 = .ok (.iconst 0, 1) := by decide +kernel
theorem dX3_drawn_45 : decode cX3_drawn 45 = .ok (.istore 5, 2) := by decide +kernel
theorem dX3_drawn_47 : decode cX3_drawn 47 = .ok (.iload 5, 2) := by decide +kernel
theorem dX3_drawn_49 : decode cX3_drawn 49 = .ok (.iload_n 2, 1) := by decide +kernel
theorem dX3_drawn_50 : decode cX3_drawn 50 = .ok (.if_icmp .ge 66, 3) := by decide +kernel
theorem dX3_drawn_53 : decode cX3_drawn 53 = .ok (.iconst 0, 1) := by decide +kernel
theorem dX3_drawn_54 : decode cX3_drawn 54 = .ok (.istore 6, 2) := by decide +kernel
theorem dX3_drawn_56 : decode cX3_drawn 56 = .ok (.iload 6, 2) := by decide +kernel
theorem dX3_drawn_58 : decode cX3_drawn 58 = .ok (.bipush 9, 2) := by decide +kernel
theorem dX3_drawn_60 : decode cX3_drawn 60 = .ok (.if_icmp .ge 43, 3) := by decide +kernel
theorem dX3_drawn_63 : decode cX3_drawn 63 = .ok (.lload_n 3, 1) := by decide +kernel
theorem dX3_drawn_64 : decode cX3_drawn 64 = .ok (.ldc2_w 232, 3) := by decide +kernel
theorem dX3_drawn_67 : decode cX3_drawn 67 = .ok (.lmul, 1) := by decide +kernel
theorem dX3_drawn_68 : decode cX3_drawn 68 = .ok (.ldc2_w 234, 3) := by decide +kernel
theorem dX3_drawn_71 : decode cX3_drawn 71 = .ok (.ladd, 1) := by decide +kernel
theorem dX3_drawn_72 : decode cX3_drawn 72 = .ok (.ldc2_w 236, 3) := by decide +kernel
theorem dX3_drawn_75 : decode cX3_drawn 75 = .ok (.lrem, 1) := by decide +kernel
theorem dX3_drawn_76 : decode cX3_drawn 76 = .ok (.lstore_n 3, 1) := by decide +kernel
theorem dX3_drawn_77 : decode cX3_drawn 77 = .ok (.aload_n 0, 1) := by decide +kernel
theorem dX3_drawn_78 : decode cX3_drawn 78 = .ok (.getfield 23, 3) := by decide +kernel
theorem dX3_drawn_81 : decode cX3_drawn 81 = .ok (.getfield 76, 3) := by decide +kernel
theorem dX3_drawn_84 : decode cX3_drawn 84 = .ok (.iload 6, 2) := by decide +kernel
theorem dX3_drawn_86 : decode cX3_drawn 86 = .ok (.lload_n 3, 1) := by decide +kernel
theorem dX3_drawn_87 : decode cX3_drawn 87 = .ok (.ldc2_w 238, 3) := by decide +kernel
theorem dX3_drawn_90 : decode cX3_drawn 90 = .ok (.ldiv, 1) := by decide +kernel
theorem dX3_drawn_91 : decode cX3_drawn 91 = .ok (.ldc2_w 240, 3) := by decide +kernel
theorem dX3_drawn_94 : decode cX3_drawn 94 = .ok (.lrem, 1) := by decide +kernel
theorem dX3_drawn_95 : decode cX3_drawn 95 = .ok (.l2i, 1) := by decide +kernel
theorem dX3_drawn_96 : decode cX3_drawn 96 = .ok (.iastore, 1) := by decide +kernel
theorem dX3_drawn_97 : decode cX3_drawn 97 = .ok (.iinc 6 1, 3) := by decide +kernel
theorem dX3_drawn_100 : decode cX3_drawn 100 = .ok (.goto (-44), 3) := by decide +kernel
theorem dX3_drawn_103 : decode cX3_drawn 103 = .ok (.aload_n 0, 1) := by decide +kernel
theorem dX3_drawn_104 : decode cX3_drawn 104 = .ok (.getfield 23, 3) := by decide +kernel
theorem dX3_drawn_107 : decode cX3_drawn 107 = .ok (.invokevirtual 100, 3) := by decide +kernel
theorem dX3_drawn_110 : decode cX3_drawn 110 = .ok (.iinc 5 1, 3) := by decide +kernel
theorem dX3_drawn_113 : decode cX3_drawn 113 = .ok (.goto (-66), 3) := by decide +kernel
theorem dX3_drawn_116 : decode cX3_drawn 116 = .ok (.aload_n 0, 1) := by decide +kernel
theorem dX3_drawn_117 : decode cX3_drawn 117 = .ok (.getfield 23, 3) := by decide +kernel
theorem dX3_drawn_120 : decode cX3_drawn 120 = .ok (.invokevirtual 103, 3) := by decide +kernel
theorem dX3_drawn_123 : decode cX3_drawn 123 = .ok (.invokestatic 106, 3) := by decide +kernel
theorem dX3_drawn_126 : decode cX3_drawn 126 = .ok (.ireturn, 1) := by decide +kernel
theorem dX3_part_0 : decode cX3_part 0 = .ok (.iload_n 1, 1) := by decide +kernel
theorem dX3_part_1 : decode cX3_part 1 = .ok (.iconst 0, 1) := by decide +kernel
theorem dX3_part_2 : decode cX3_part 2 = .ok (.iconst 1, 1) := by decide +kernel
theorem dX3_part_3 : decode cX3_part 3 = .ok (.invokestatic 96, 3) := by decide +kernel
theorem dX3_part_6 : decode cX3_part 6 = .ok (.ifCond .ne 11, 3) := by decide +kernel
theorem dX3_part_9 : decode cX3_part 9 = .ok (.aload_n 0, 1) := by decide +kernel
theorem dX3_part_10 : decode cX3_part 10 = .ok (.bipush (-2), 2) := by decide +kernel
theorem dX3_part_12 : decode cX3_part 12 = .ok (.invokevirtual 58, 3) := by decide +kernel
theorem dX3_part_15 : decode cX3_part 15 = .ok (.i2l, 1) := by decide +kernel
theorem dX3_part_16 : decode cX3_part 16 = .ok (.lreturn, 1) := by decide +kernel
theorem dX3_part_17 : decode cX3_part 17 = .ok (.iload_n 1, 1) := by decide +kernel
theorem dX3_part_18 : decode cX3_part 18 = .ok (.ifCond .ne 10, 3) := by decide +kernel
theorem dX3_part_21 : decode cX3_part 21 = .ok (.aload_n 0, 1) := by decide +kernel
theorem dX3_part_22 : decode cX3_part 22 = .ok (.getfield 47, 3) := by decide +kernel
theorem dX3_part_25 : decode cX3_part 25 = .ok (.goto 7, 3) := by decide +kernel
theorem dX3_part_28 : decode cX3_part 28 = .ok (.aload_n 0, 1) := by decide +kernel
theorem dX3_part_29 : decode cX3_part 29 = .ok (.getfield 51, 3) := by decide +kernel
theorem dX3_part_32 : decode cX3_part 32 = .ok (.lreturn, 1) := by decide +kernel
theorem dX3_image_0 : decode cX3_image 0 = .ok (.iload_n 1, 1) := by decide +kernel
theorem dX3_image_1 : decode cX3_image 1 = .ok (.iconst 2, 1) := by decide +kernel
theorem dX3_image_2 : decode cX3_image 2 = .ok (.invokestatic 54, 3) := by decide +kernel
theorem dX3_image_5 : decode cX3_image 5 = .ok (.ifCond .ne 10, 3) := by decide +kernel
theorem dX3_image_8 : decode cX3_image 8 = .ok (.aload_n 0, 1) := by decide +kernel
theorem dX3_image_9 : decode cX3_image 9 = .ok (.bipush (-2), 2) := by decide +kernel
theorem dX3_image_11 : decode cX3_image 11 = .ok (.invokevirtual 58, 3) := by decide +kernel
theorem dX3_image_14 : decode cX3_image 14 = .ok (.ireturn, 1) := by decide +kernel
theorem dX3_image_15 : decode cX3_image 15 = .ok (.aload_n 0, 1) := by decide +kernel
theorem dX3_image_16 : decode cX3_image 16 = .ok (.getfield 16, 3) := by decide +kernel
theorem dX3_image_19 : decode cX3_image 19 = .ok (.iload_n 1, 1) := by decide +kernel
theorem dX3_image_20 : decode cX3_image 20 = .ok (.aaload, 1) := by decide +kernel
theorem dX3_image_21 : decode cX3_image 21 = .ok (.astore_n 2, 1) := by decide +kernel
theorem dX3_image_22 : decode cX3_image 22 = .ok (.aload_n 2, 1) := by decide +kernel
theorem dX3_image_23 : decode cX3_image 23 = .ok (.ifnonnull 18, 3) := by decide +kernel
theorem dX3_image_26 : decode cX3_image 26 = .ok (.new 9, 3) := by decide +kernel
theorem dX3_image_29 : decode cX3_image 29 = .ok (.dup, 1) := by decide +kernel
theorem dX3_image_30 : decode cX3_image 30 = .ok (.invokespecial 11, 3) := by decide +kernel
theorem dX3_image_33 : decode cX3_image 33 = .ok (.astore_n 2, 1) := by decide +kernel
theorem dX3_image_34 : decode cX3_image 34 = .ok (.aload_n 0, 1) := by decide +kernel
theorem dX3_image_35 : decode cX3_image 35 = .ok (.getfield 16, 3) := by decide +kernel
theorem dX3_image_38 : decode cX3_image 38 = .ok (.iload_n 1, 1) := by decide +kernel
theorem dX3_image_39 : decode cX3_image 39 = .ok (.aload_n 2, 1) := by decide +kernel
theorem dX3_image_40 : decode cX3_image 40 = .ok (.aastore, 1) := by decide +kernel
theorem dX3_image_41 : decode cX3_image 41 = .ok (.aload_n 2, 1) := by decide +kernel
theorem dX3_image_42 : decode cX3_image 42 = .ok (.aload_n 0, 1) := by decide +kernel
theorem dX3_image_43 : decode cX3_image 43 = .ok (.getfield 12, 3) := by decide +kernel
theorem dX3_image_46 : decode cX3_image 46 = .ok (.invokevirtual 242, 3) := by decide +kernel
theorem dX3_image_49 : decode cX3_image 49 = .ok (.iconst 1, 1) := by decide +kernel
theorem dX3_image_50 : decode cX3_image 50 = .ok (.ireturn, 1) := by decide +kernel
theorem dX3_from_0 : decode cX3_from 0 = .ok (.iload_n 1, 1) := by decide +kernel
theorem dX3_from_1 : decode cX3_from 1 = .ok (.iconst 2, 1) := by decide +kernel
theorem dX3_from_2 : decode cX3_from 2 = .ok (.invokestatic 54, 3) := by decide +kernel
theorem dX3_from_5 : decode cX3_from 5 = .ok (.ifCond .ne 10, 3) := by decide +kernel
theorem dX3_from_8 : decode cX3_from 8 = .ok (.aload_n 0, 1) := by decide +kernel
theorem dX3_from_9 : decode cX3_from 9 = .ok (.bipush (-2), 2) := by decide +kernel
theorem dX3_from_11 : decode cX3_from 11 = .ok (.invokevirtual 58, 3) := by decide +kernel
theorem dX3_from_14 : decode cX3_from 14 = .ok (.ireturn, 1) := by decide +kernel
theorem dX3_from_15 : decode cX3_from 15 = .ok (.aload_n 0, 1) := by decide +kernel
theorem dX3_from_16 : decode cX3_from 16 = .ok (.getfield 16, 3) := by decide +kernel
theorem dX3_from_19 : decode cX3_from 19 = .ok (.iload_n 1, 1) := by decide +kernel
theorem dX3_from_20 : decode cX3_from 20 = .ok (.aaload, 1) := by decide +kernel
theorem dX3_from_21 : decode cX3_from 21 = .ok (.astore_n 2, 1) := by decide +kernel
theorem dX3_from_22 : decode cX3_from 22 = .ok (.aload_n 2, 1) := by decide +kernel
theorem dX3_from_23 : decode cX3_from 23 = .ok (.ifnonnull 10, 3) := by decide +kernel
theorem dX3_from_26 : decode cX3_from 26 = .ok (.aload_n 0, 1) := by decide +kernel
theorem dX3_from_27 : decode cX3_from 27 = .ok (.bipush (-3), 2) := by decide +kernel
theorem dX3_from_29 : decode cX3_from 29 = .ok (.invokevirtual 58, 3) := by decide +kernel
theorem dX3_from_32 : decode cX3_from 32 = .ok (.ireturn, 1) := by decide +kernel
theorem dX3_from_33 : decode cX3_from 33 = .ok (.aload_n 0, 1) := by decide +kernel
theorem dX3_from_34 : decode cX3_from 34 = .ok (.getfield 12, 3) := by decide +kernel
theorem dX3_from_37 : decode cX3_from 37 = .ok (.aload_n 2, 1) := by decide +kernel
theorem dX3_from_38 : decode cX3_from 38 = .ok (.invokevirtual 242, 3) := by decide +kernel
theorem dX3_from_41 : decode cX3_from 41 = .ok (.iconst 1, 1) := by decide +kernel
theorem dX3_from_42 : decode cX3_from 42 = .ok (.ireturn, 1) := by decide +kernel
theorem dX3_status_0 : decode cX3_status 0 = .ok (.iload_n 1, 1) := by decide +kernel
theorem dX3_status_1 : decode cX3_status 1 = .ok (.tableswitch 42 0 2 #[27, 32, 37], 27) := by decide +kernel
theorem dX3_status_28 : decode cX3_status 28 = .ok (.aload_n 0, 1) := by decide +kernel
theorem dX3_status_29 : decode cX3_status 29 = .ok (.getfield 245, 3) := by decide +kernel
theorem dX3_status_32 : decode cX3_status 32 = .ok (.ireturn, 1) := by decide +kernel
theorem dX3_status_33 : decode cX3_status 33 = .ok (.aload_n 0, 1) := by decide +kernel
theorem dX3_status_34 : decode cX3_status 34 = .ok (.getfield 248, 3) := by decide +kernel
theorem dX3_status_37 : decode cX3_status 37 = .ok (.ireturn, 1) := by decide +kernel
theorem dX3_status_38 : decode cX3_status 38 = .ok (.aload_n 0, 1) := by decide +kernel
theorem dX3_status_39 : decode cX3_status 39 = .ok (.getfield 251, 3) := by decide +kernel
theorem dX3_status_42 : decode cX3_status 42 = .ok (.ireturn, 1) := by decide +kernel
theorem dX3_status_43 : decode cX3_status 43 = .ok (.aload_n 0, 1) := by decide +kernel
theorem dX3_status_44 : decode cX3_status 44 = .ok (.bipush (-2), 2) := by decide +kernel
theorem dX3_status_46 : decode cX3_status 46 = .ok (.invokevirtual 58, 3) := by decide +kernel
theorem dX3_status_49 : decode cX3_status 49 = .ok (.pop, 1) := by decide +kernel
theorem dX3_status_50 : decode cX3_status 50 = .ok (.iconst (-1), 1) := by decide +kernel
theorem dX3_status_51 : decode cX3_status 51 = .ok (.ireturn, 1) := by decide +kernel
theorem dX3_count_0 : decode cX3_count 0 = .ok (.iload_n 1, 1) := by decide +kernel
theorem dX3_count_1 : decode cX3_count 1 = .ok (.iconst 0, 1) := by decide +kernel
theorem dX3_count_2 : decode cX3_count 2 = .ok (.iconst 5, 1) := by decide +kernel
theorem dX3_count_3 : decode cX3_count 3 = .ok (.invokestatic 96, 3) := by decide +kernel
theorem dX3_count_6 : decode cX3_count 6 = .ok (.ifCond .ne 10, 3) := by decide +kernel
theorem dX3_count_9 : decode cX3_count 9 = .ok (.aload_n 0, 1) := by decide +kernel
theorem dX3_count_10 : decode cX3_count 10 = .ok (.bipush (-2), 2) := by decide +kernel
theorem dX3_count_12 : decode cX3_count 12 = .ok (.invokevirtual 58, 3) := by decide +kernel
theorem dX3_count_15 : decode cX3_count 15 = .ok (.ireturn, 1) := by decide +kernel
theorem dX3_count_16 : decode cX3_count 16 = .ok (.aload_n 0, 1) := by decide +kernel
theorem dX3_count_17 : decode cX3_count 17 = .ok (.iload_n 1, 1) := by decide +kernel
theorem dX3_count_18 : decode cX3_count 18 = .ok (.invokevirtual 254, 3) := by decide +kernel
theorem dX3_count_21 : decode cX3_count 21 = .ok (.ireturn, 1) := by decide +kernel
theorem dX3_digest_0 : decode cX3_digest 0 = .ok (.ldc2_w 257, 3) := by decide +kernel
theorem dX3_digest_3 : decode cX3_digest 3 = .ok (.lstore_n 1, 1) := by decide +kernel
theorem dX3_digest_4 : decode cX3_digest 4 = .ok (.iconst 0, 1) := by decide +kernel
theorem dX3_digest_5 : decode cX3_digest 5 = .ok (.istore_n 3, 1) := by decide +kernel
theorem dX3_digest_6 : decode cX3_digest 6 = .ok (.iload_n 3, 1) := by decide +kernel
theorem dX3_digest_7 : decode cX3_digest 7 = .ok (.iconst 5, 1) := by decide +kernel
theorem dX3_digest_8 : decode cX3_digest 8 = .ok (.if_icmp .gt 22, 3) := by decide +kernel
theorem dX3_digest_11 : decode cX3_digest 11 = .ok (.ldc2_w 259, 3) := by decide +kernel
theorem dX3_digest_14 : decode cX3_digest 14 = .ok (.lload_n 1, 1) := by decide +kernel
theorem dX3_digest_15 : decode cX3_digest 15 = .ok (.lmul, 1) := by decide +kernel
theorem dX3_digest_16 : decode cX3_digest 16 = .ok (.aload_n 0, 1) := by decide +kernel
theorem dX3_digest_17 : decode cX3_digest 17 = .ok (.iload_n 3, 1) := by decide +kernel
theorem dX3_digest_18 : decode cX3_digest 18 = .ok (.invokevirtual 254, 3) := by decide +kernel
theorem dX3_digest_21 : decode cX3_digest 21 = .ok (.i2l, 1) := by decide +kernel
theorem dX3_digest_22 : decode cX3_digest 22 = .ok (.ladd, 1) := by decide +kernel
theorem dX3_digest_23 : decode cX3_digest 23 = .ok (.lstore_n 1, 1) := by decide +kernel
theorem dX3_digest_24 : decode cX3_digest 24 = .ok (.iinc 3 1, 3) := by decide +kernel
theorem dX3_digest_27 : decode cX3_digest 27 = .ok (.goto (-21), 3) := by decide +kernel
theorem dX3_digest_30 : decode cX3_digest 30 = .ok (.aload_n 0, 1) := by decide +kernel
theorem dX3_digest_31 : decode cX3_digest 31 = .ok (.getfield 12, 3) := by decide +kernel
theorem dX3_digest_34 : decode cX3_digest 34 = .ok (.getfield 62, 3) := by decide +kernel
theorem dX3_digest_37 : decode cX3_digest 37 = .ok (.lload_n 1, 1) := by decide +kernel
theorem dX3_digest_38 : decode cX3_digest 38 = .ok (.invokevirtual 261, 3) := by decide +kernel
theorem dX3_digest_41 : decode cX3_digest 41 = .ok (.lstore_n 1, 1) := by decide +kernel
theorem dX3_digest_42 : decode cX3_digest 42 = .ok (.aload_n 0, 1) := by decide +kernel
theorem dX3_digest_43 : decode cX3_digest 43 = .ok (.getfield 12, 3) := by decide +kernel
theorem dX3_digest_46 : decode cX3_digest 46 = .ok (.lload_n 1, 1) := by decide +kernel
theorem dX3_digest_47 : decode cX3_digest 47 = .ok (.invokevirtual 265, 3) := by decide +kernel
theorem dX3_digest_50 : decode cX3_digest 50 = .ok (.lstore_n 1, 1) := by decide +kernel
theorem dX3_digest_51 : decode cX3_digest 51 = .ok (.ldc2_w 259, 3) := by decide +kernel
theorem dX3_digest_54 : decode cX3_digest 54 = .ok (.lload_n 1, 1) := by decide +kernel
theorem dX3_digest_55 : decode cX3_digest 55 = .ok (.lmul, 1) := by decide +kernel
theorem dX3_digest_56 : decode cX3_digest 56 = .ok (.aload_n 0, 1) := by decide +kernel
theorem dX3_digest_57 : decode cX3_digest 57 = .ok (.getfield 47, 3) := by decide +kernel
theorem dX3_digest_60 : decode cX3_digest 60 = .ok (.ladd, 1) := by decide +kernel
theorem dX3_digest_61 : decode cX3_digest 61 = .ok (.lstore_n 1, 1) := by decide +kernel
theorem dX3_digest_62 : decode cX3_digest 62 = .ok (.ldc2_w 259, 3) := by decide +kernel
theorem dX3_digest_65 : decode cX3_digest 65 = .ok (.lload_n 1, 1) := by decide +kernel
theorem dX3_digest_66 : decode cX3_digest 66 = .ok (.lmul, 1) := by decide +kernel
theorem dX3_digest_67 : decode cX3_digest 67 = .ok (.aload_n 0, 1) := by decide +kernel
theorem dX3_digest_68 : decode cX3_digest 68 = .ok (.getfield 51, 3) := by decide +kernel
theorem dX3_digest_71 : decode cX3_digest 71 = .ok (.ladd, 1) := by decide +kernel
theorem dX3_digest_72 : decode cX3_digest 72 = .ok (.lreturn, 1) := by decide +kernel
theorem dX3_within_0 : decode cX3_within 0 = .ok (.iload_n 0, 1) := by decide +kernel
theorem dX3_within_1 : decode cX3_within 1 = .ok (.ifCond .lt 12, 3) := by decide +kernel
theorem dX3_within_4 : decode cX3_within 4 = .ok (.iload_n 0, 1) := by decide +kernel
theorem dX3_within_5 : decode cX3_within 5 = .ok (.iload_n 1, 1) := by decide +kernel
theorem dX3_within_6 : decode cX3_within 6 = .ok (.if_icmp .ge 7, 3) := by decide +kernel
theorem dX3_within_9 : decode cX3_within 9 = .ok (.iconst 1, 1) := by decide +kernel
theorem dX3_within_10 : decode cX3_within 10 = .ok (.goto 4, 3) := by decide +kernel
theorem dX3_within_13 : decode cX3_within 13 = .ok (.iconst 0, 1) := by decide +kernel
theorem dX3_within_14 : decode cX3_within 14 = .ok (.ireturn, 1) := by decide +kernel
theorem dX3_between_0 : decode cX3_between 0 = .ok (.iload_n 0, 1) := by decide +kernel
theorem dX3_between_1 : decode cX3_between 1 = .ok (.iload_n 1, 1) := by decide +kernel
theorem dX3_between_2 : decode cX3_between 2 = .ok (.if_icmp .lt 12, 3) := by decide +kernel
theorem dX3_between_5 : decode cX3_between 5 = .ok (.iload_n 0, 1) := by decide +kernel
theorem dX3_between_6 : decode cX3_between 6 = .ok (.iload_n 2, 1) := by decide +kernel
theorem dX3_between_7 : decode cX3_between 7 = .ok (.if_icmp .gt 7, 3) := by decide +kernel
theorem dX3_between_10 : decode cX3_between 10 = .ok (.iconst 1, 1) := by decide +kernel
theorem dX3_between_11 : decode cX3_between 11 = .ok (.goto 4, 3) := by decide +kernel
theorem dX3_between_14 : decode cX3_between 14 = .ok (.iconst 0, 1) := by decide +kernel
theorem dX3_between_15 : decode cX3_between 15 = .ok (.ireturn, 1) := by decide +kernel
theorem dX3_wearsAsTold_0 : decode cX3_wearsAsTold 0 = .ok (.iload_n 0, 1) := by decide +kernel
theorem dX3_wearsAsTold_1 : decode cX3_wearsAsTold 1 = .ok (.bipush 9, 2) := by decide +kernel
theorem dX3_wearsAsTold_3 : decode cX3_wearsAsTold 3 = .ok (.invokestatic 54, 3) := by decide +kernel
theorem dX3_wearsAsTold_6 : decode cX3_wearsAsTold 6 = .ok (.ifCond .eq 16, 3) := by decide +kernel
theorem dX3_wearsAsTold_9 : decode cX3_wearsAsTold 9 = .ok (.iload_n 1, 1) := by decide +kernel
theorem dX3_wearsAsTold_10 : decode cX3_wearsAsTold 10 = .ok (.iconst 0, 1) := by decide +kernel
theorem dX3_wearsAsTold_11 : decode cX3_wearsAsTold 11 = .ok (.iconst 5, 1) := by decide +kernel
theorem dX3_wearsAsTold_12 : decode cX3_wearsAsTold 12 = .ok (.invokestatic 96, 3) := by decide +kernel
theorem dX3_wearsAsTold_15 : decode cX3_wearsAsTold 15 = .ok (.ifCond .eq 7, 3) := by decide +kernel
theorem dX3_wearsAsTold_18 : decode cX3_wearsAsTold 18 = .ok (.iconst 1, 1) := by decide +kernel
theorem dX3_wearsAsTold_19 : decode cX3_wearsAsTold 19 = .ok (.goto 4, 3) := by decide +kernel
theorem dX3_wearsAsTold_22 : decode cX3_wearsAsTold 22 = .ok (.iconst 0, 1) := by decide +kernel
theorem dX3_wearsAsTold_23 : decode cX3_wearsAsTold 23 = .ok (.ireturn, 1) := by decide +kernel
theorem dX3_refuse_0 : decode cX3_refuse 0 = .ok (.iload_n 1, 1) := by decide +kernel
theorem dX3_refuse_1 : decode cX3_refuse 1 = .ok (.bipush (-2), 2) := by decide +kernel
theorem dX3_refuse_3 : decode cX3_refuse 3 = .ok (.if_icmp .ne 16, 3) := by decide +kernel
theorem dX3_refuse_6 : decode cX3_refuse 6 = .ok (.aload_n 0, 1) := by decide +kernel
theorem dX3_refuse_7 : decode cX3_refuse 7 = .ok (.dup, 1) := by decide +kernel
theorem dX3_refuse_8 : decode cX3_refuse 8 = .ok (.getfield 245, 3) := by decide +kernel
theorem dX3_refuse_11 : decode cX3_refuse 11 = .ok (.iconst 1, 1) := by decide +kernel
theorem dX3_refuse_12 : decode cX3_refuse 12 = .ok (.iadd, 1) := by decide +kernel
theorem dX3_refuse_13 : decode cX3_refuse 13 = .ok (.putfield 245, 3) := by decide +kernel
theorem dX3_refuse_16 : decode cX3_refuse 16 = .ok (.goto 38, 3) := by decide +kernel
theorem dX3_refuse_19 : decode cX3_refuse 19 = .ok (.iload_n 1, 1) := by decide +kernel
theorem dX3_refuse_20 : decode cX3_refuse 20 = .ok (.bipush (-3), 2) := by decide +kernel
theorem dX3_refuse_22 : decode cX3_refuse 22 = .ok (.if_icmp .ne 16, 3) := by decide +kernel
theorem dX3_refuse_25 : decode cX3_refuse 25 = .ok (.aload_n 0, 1) := by decide +kernel
theorem dX3_refuse_26 : decode cX3_refuse 26 = .ok (.dup, 1) := by decide +kernel
theorem dX3_refuse_27 : decode cX3_refuse 27 = .ok (.getfield 248, 3) := by decide +kernel
theorem dX3_refuse_30 : decode cX3_refuse 30 = .ok (.iconst 1, 1) := by decide +kernel
theorem dX3_refuse_31 : decode cX3_refuse 31 = .ok (.iadd, 1) := by decide +kernel
theorem dX3_refuse_32 : decode cX3_refuse 32 = .ok (.putfield 248, 3) := by decide +kernel
theorem dX3_refuse_35 : decode cX3_refuse 35 = .ok (.goto 19, 3) := by decide +kernel
theorem dX3_refuse_38 : decode cX3_refuse 38 = .ok (.iload_n 1, 1) := by decide +kernel
theorem dX3_refuse_39 : decode cX3_refuse 39 = .ok (.bipush (-4), 2) := by decide +kernel
theorem dX3_refuse_41 : decode cX3_refuse 41 = .ok (.if_icmp .ne 13, 3) := by decide +kernel
theorem dX3_refuse_44 : decode cX3_refuse 44 = .ok (.aload_n 0, 1) := by decide +kernel
theorem dX3_refuse_45 : decode cX3_refuse 45 = .ok (.dup, 1) := by decide +kernel
theorem dX3_refuse_46 : decode cX3_refuse 46 = .ok (.getfield 251, 3) := by decide +kernel
theorem dX3_refuse_49 : decode cX3_refuse 49 = .ok (.iconst 1, 1) := by decide +kernel
theorem dX3_refuse_50 : decode cX3_refuse 50 = .ok (.iadd, 1) := by decide +kernel
theorem dX3_refuse_51 : decode cX3_refuse 51 = .ok (.putfield 251, 3) := by decide +kernel
theorem dX3_refuse_54 : decode cX3_refuse 54 = .ok (.iload_n 1, 1) := by decide +kernel
theorem dX3_refuse_55 : decode cX3_refuse 55 = .ok (.ireturn, 1) := by decide +kernel
theorem dX3_howMany_0 : decode cX3_howMany 0 = .ok (.iload_n 1, 1) := by decide +kernel
theorem dX3_howMany_1 : decode cX3_howMany 1 = .ok (.tableswitch 87 0 4 #[35, 46, 60, 71, 79], 35) := by decide +kernel
theorem dX3_howMany_36 : decode cX3_howMany 36 = .ok (.aload_n 0, 1) := by decide +kernel
theorem dX3_howMany_37 : decode cX3_howMany 37 = .ok (.getfield 12, 3) := by decide +kernel
theorem dX3_howMany_40 : decode cX3_howMany 40 = .ok (.getfield 62, 3) := by decide +kernel
theorem dX3_howMany_43 : decode cX3_howMany 43 = .ok (.invokevirtual 65, 3) := by decide +kernel
theorem dX3_howMany_46 : decode cX3_howMany 46 = .ok (.ireturn, 1) := by decide +kernel
theorem dX3_howMany_47 : decode cX3_howMany 47 = .ok (.aload_n 0, 1) := by decide +kernel
theorem dX3_howMany_48 : decode cX3_howMany 48 = .ok (.getfield 12, 3) := by decide +kernel
theorem dX3_howMany_51 : decode cX3_howMany 51 = .ok (.getfield 62, 3) := by decide +kernel
theorem dX3_howMany_54 : decode cX3_howMany 54 = .ok (.invokevirtual 103, 3) := by decide +kernel
theorem dX3_howMany_57 : decode cX3_howMany 57 = .ok (.invokestatic 106, 3) := by decide +kernel
theorem dX3_howMany_60 : decode cX3_howMany 60 = .ok (.ireturn, 1) := by decide +kernel
theorem dX3_howMany_61 : decode cX3_howMany 61 = .ok (.aload_n 0, 1) := by decide +kernel
theorem dX3_howMany_62 : decode cX3_howMany 62 = .ok (.getfield 12, 3) := by decide +kernel
theorem dX3_howMany_65 : decode cX3_howMany 65 = .ok (.getfield 62, 3) := by decide +kernel
theorem dX3_howMany_68 : decode cX3_howMany 68 = .ok (.invokevirtual 149, 3) := by decide +kernel
theorem dX3_howMany_71 : decode cX3_howMany 71 = .ok (.ireturn, 1) := by decide +kernel
theorem dX3_howMany_72 : decode cX3_howMany 72 = .ok (.aload_n 0, 1) := by decide +kernel
theorem dX3_howMany_73 : decode cX3_howMany 73 = .ok (.getfield 12, 3) := by decide +kernel
theorem dX3_howMany_76 : decode cX3_howMany 76 = .ok (.getfield 202, 3) := by decide +kernel
theorem dX3_howMany_79 : decode cX3_howMany 79 = .ok (.ireturn, 1) := by decide +kernel
theorem dX3_howMany_80 : decode cX3_howMany 80 = .ok (.aload_n 0, 1) := by decide +kernel
theorem dX3_howMany_81 : decode cX3_howMany 81 = .ok (.getfield 12, 3) := by decide +kernel
theorem dX3_howMany_84 : decode cX3_howMany 84 = .ok (.getfield 111, 3) := by decide +kernel
theorem dX3_howMany_87 : decode cX3_howMany 87 = .ok (.ireturn, 1) := by decide +kernel
theorem dX3_howMany_88 : decode cX3_howMany 88 = .ok (.aload_n 0, 1) := by decide +kernel
theorem dX3_howMany_89 : decode cX3_howMany 89 = .ok (.getfield 30, 3) := by decide +kernel
theorem dX3_howMany_92 : decode cX3_howMany 92 = .ok (.getfield 118, 3) := by decide +kernel
theorem dX3_howMany_95 : decode cX3_howMany 95 = .ok (.ireturn, 1) := by decide +kernel
theorem dX3_loss_0 : decode cX3_loss 0 = .ok (.iload_n 0, 1) := by decide +kernel
theorem dX3_loss_1 : decode cX3_loss 1 = .ok (.tableswitch 59 1 4 #[31, 37, 31, 41], 31) := by decide +kernel
theorem dX3_loss_32 : decode cX3_loss 32 = .ok (.iload_n 1, 1) := by decide +kernel
theorem dX3_loss_33 : decode cX3_loss 33 = .ok (.iconst 1, 1) := by decide +kernel
theorem dX3_loss_34 : decode cX3_loss 34 = .ok (.iadd, 1) := by decide +kernel
theorem dX3_loss_35 : decode cX3_loss 35 = .ok (.iconst 2, 1) := by decide +kernel
theorem dX3_loss_36 : decode cX3_loss 36 = .ok (.idiv, 1) := by decide +kernel
theorem dX3_loss_37 : decode cX3_loss 37 = .ok (.ireturn, 1) := by decide +kernel
theorem dX3_loss_38 : decode cX3_loss 38 = .ok (.iload_n 1, 1) := by decide +kernel
theorem dX3_loss_39 : decode cX3_loss 39 = .ok (.iconst 1, 1) := by decide +kernel
theorem dX3_loss_40 : decode cX3_loss 40 = .ok (.iadd, 1) := by decide +kernel
theorem dX3_loss_41 : decode cX3_loss 41 = .ok (.ireturn, 1) := by decide +kernel
theorem dX3_loss_42 : decode cX3_loss 42 = .ok (.iload_n 2, 1) := by decide +kernel
theorem dX3_loss_43 : decode cX3_loss 43 = .ok (.iconst 3, 1) := by decide +kernel
theorem dX3_loss_44 : decode cX3_loss 44 = .ok (.irem, 1) := by decide +kernel
theorem dX3_loss_45 : decode cX3_loss 45 = .ok (.ifCond .ne 9, 3) := by decide +kernel
theorem dX3_loss_48 : decode cX3_loss 48 = .ok (.iload_n 1, 1) := by decide +kernel
theorem dX3_loss_49 : decode cX3_loss 49 = .ok (.iconst 1, 1) := by decide +kernel
theorem dX3_loss_50 : decode cX3_loss 50 = .ok (.iadd, 1) := by decide +kernel
theorem dX3_loss_51 : decode cX3_loss 51 = .ok (.goto 8, 3) := by decide +kernel
theorem dX3_loss_54 : decode cX3_loss 54 = .ok (.iconst 2, 1) := by decide +kernel
theorem dX3_loss_55 : decode cX3_loss 55 = .ok (.iload_n 1, 1) := by decide +kernel
theorem dX3_loss_56 : decode cX3_loss 56 = .ok (.iconst 1, 1) := by decide +kernel
theorem dX3_loss_57 : decode cX3_loss 57 = .ok (.iadd, 1) := by decide +kernel
theorem dX3_loss_58 : decode cX3_loss 58 = .ok (.imul, 1) := by decide +kernel
theorem dX3_loss_59 : decode cX3_loss 59 = .ok (.ireturn, 1) := by decide +kernel
theorem dX3_loss_60 : decode cX3_loss 60 = .ok (.iload_n 1, 1) := by decide +kernel
theorem dX3_loss_61 : decode cX3_loss 61 = .ok (.ireturn, 1) := by decide +kernel
theorem dX3_tryYears_0 : decode cX3_tryYears 0 = .ok (.aload_n 0, 1) := by decide +kernel
theorem dX3_tryYears_1 : decode cX3_tryYears 1 = .ok (.getfield 23, 3) := by decide +kernel
theorem dX3_tryYears_4 : decode cX3_tryYears 4 = .ok (.aload_n 0, 1) := by decide +kernel
theorem dX3_tryYears_5 : decode cX3_tryYears 5 = .ok (.getfield 12, 3) := by decide +kernel
theorem dX3_tryYears_8 : decode cX3_tryYears 8 = .ok (.getfield 62, 3) := by decide +kernel
theorem dX3_tryYears_11 : decode cX3_tryYears 11 = .ok (.invokevirtual 131, 3) := by decide +kernel
theorem dX3_tryYears_14 : decode cX3_tryYears 14 = .ok (.iconst 0, 1) := by decide +kernel
theorem dX3_tryYears_15 : decode cX3_tryYears 15 = .ok (.istore_n 2, 1) := by decide +kernel
theorem dX3_tryYears_16 : decode cX3_tryYears 16 = .ok (.iload_n 2, 1) := by decide +kernel
theorem dX3_tryYears_17 : decode cX3_tryYears 17 = .ok (.iload_n 1, 1) := by decide +kernel
theorem dX3_tryYears_18 : decode cX3_tryYears 18 = .ok (.if_icmp .ge 16, 3) := by decide +kernel
theorem dX3_tryYears_21 : decode cX3_tryYears 21 = .ok (.aload_n 0, 1) := by decide +kernel
theorem dX3_tryYears_22 : decode cX3_tryYears 22 = .ok (.getfield 23, 3) := by decide +kernel
theorem dX3_tryYears_25 : decode cX3_tryYears 25 = .ok (.invokevirtual 100, 3) := by decide +kernel
theorem dX3_tryYears_28 : decode cX3_tryYears 28 = .ok (.iinc 2 1, 3) := by decide +kernel
theorem dX3_tryYears_31 : decode cX3_tryYears 31 = .ok (.goto (-15), 3) := by decide +kernel
theorem dX3_tryYears_34 : decode cX3_tryYears 34 = .ok (.return_, 1) := by decide +kernel
theorem dX3_setFraction_0 : decode cX3_setFraction 0 = .ok (.lload_n 1, 1) := by decide +kernel
theorem dX3_setFraction_1 : decode cX3_setFraction 1 = .ok (.lconst 0, 1) := by decide +kernel
theorem dX3_setFraction_2 : decode cX3_setFraction 2 = .ok (.lcmp, 1) := by decide +kernel
theorem dX3_setFraction_3 : decode cX3_setFraction 3 = .ok (.ifCond .le 9, 3) := by decide +kernel
theorem dX3_setFraction_6 : decode cX3_setFraction 6 = .ok (.lload_n 3, 1) := by decide +kernel
theorem dX3_setFraction_7 : decode cX3_setFraction 7 = .ok (.lconst 0, 1) := by decide +kernel
theorem dX3_setFraction_8 : decode cX3_setFraction 8 = .ok (.lcmp, 1) := by decide +kernel
theorem dX3_setFraction_9 : decode cX3_setFraction 9 = .ok (.ifCond .gt 14, 3) := by decide +kernel
theorem dX3_setFraction_12 : decode cX3_setFraction 12 = .ok (.aload_n 0, 1) := by decide +kernel
theorem dX3_setFraction_13 : decode cX3_setFraction 13 = .ok (.lconst 0, 1) := by decide +kernel
theorem dX3_setFraction_14 : decode cX3_setFraction 14 = .ok (.putfield 47, 3) := by decide +kernel
theorem dX3_setFraction_17 : decode cX3_setFraction 17 = .ok (.aload_n 0, 1) := by decide +kernel
theorem dX3_setFraction_18 : decode cX3_setFraction 18 = .ok (.lconst 1, 1) := by decide +kernel
theorem dX3_setFraction_19 : decode cX3_setFraction 19 = .ok (.putfield 51, 3) := by decide +kernel
theorem dX3_setFraction_22 : decode cX3_setFraction 22 = .ok (.return_, 1) := by decide +kernel
theorem dX3_setFraction_23 : decode cX3_setFraction 23 = .ok (.lload_n 1, 1) := by decide +kernel
theorem dX3_setFraction_24 : decode cX3_setFraction 24 = .ok (.lload_n 3, 1) := by decide +kernel
theorem dX3_setFraction_25 : decode cX3_setFraction 25 = .ok (.invokestatic 268, 3) := by decide +kernel
theorem dX3_setFraction_28 : decode cX3_setFraction 28 = .ok (.lstore 5, 2) := by decide +kernel
theorem dX3_setFraction_30 : decode cX3_setFraction 30 = .ok (.aload_n 0, 1) := by decide +kernel
theorem dX3_setFraction_31 : decode cX3_setFraction 31 = .ok (.lload_n 1, 1) := by decide +kernel
theorem dX3_setFraction_32 : decode cX3_setFraction 32 = .ok (.lload 5, 2) := by decide +kernel
theorem dX3_setFraction_34 : decode cX3_setFraction 34 = .ok (.ldiv, 1) := by decide +kernel
theorem dX3_setFraction_35 : decode cX3_setFraction 35 = .ok (.putfield 47, 3) := by decide +kernel
theorem dX3_setFraction_38 : decode cX3_setFraction 38 = .ok (.aload_n 0, 1) := by decide +kernel
theorem dX3_setFraction_39 : decode cX3_setFraction 39 = .ok (.lload_n 3, 1) := by decide +kernel
theorem dX3_setFraction_40 : decode cX3_setFraction 40 = .ok (.lload 5, 2) := by decide +kernel
theorem dX3_setFraction_42 : decode cX3_setFraction 42 = .ok (.ldiv, 1) := by decide +kernel
theorem dX3_setFraction_43 : decode cX3_setFraction 43 = .ok (.putfield 51, 3) := by decide +kernel
theorem dX3_setFraction_46 : decode cX3_setFraction 46 = .ok (.return_, 1) := by decide +kernel
theorem dX3_commonDivisor_0 : decode cX3_commonDivisor 0 = .ok (.iconst 0, 1) := by decide +kernel
theorem dX3_commonDivisor_1 : decode cX3_commonDivisor 1 = .ok (.istore 4, 2) := by decide +kernel
theorem dX3_commonDivisor_3 : decode cX3_commonDivisor 3 = .ok (.iload 4, 2) := by decide +kernel
theorem dX3_commonDivisor_5 : decode cX3_commonDivisor 5 = .ok (.bipush 100, 2) := by decide +kernel
theorem dX3_commonDivisor_7 : decode cX3_commonDivisor 7 = .ok (.if_icmp .ge 25, 3) := by decide +kernel
theorem dX3_commonDivisor_10 : decode cX3_commonDivisor 10 = .ok (.lload_n 2, 1) := by decide +kernel
theorem dX3_commonDivisor_11 : decode cX3_commonDivisor 11 = .ok (.lconst 0, 1) := by decide +kernel
theorem dX3_commonDivisor_12 : decode cX3_commonDivisor 12 = .ok (.lcmp, 1) := by decide +kernel
theorem dX3_commonDivisor_13 : decode cX3_commonDivisor 13 = .ok (.ifCond .eq 19, 3) := by decide +kernel
theorem dX3_commonDivisor_16 : decode cX3_commonDivisor 16 = .ok (.lload_n 0, 1) := by decide +kernel
theorem dX3_commonDivisor_17 : decode cX3_commonDivisor 17 = .ok (.lload_n 2, 1) := by decide +kernel
theorem dX3_commonDivisor_18 : decode cX3_commonDivisor 18 = .ok (.lrem, 1) := by decide +kernel
theorem dX3_commonDivisor_19 : decode cX3_commonDivisor 19 = .ok (.lstore 5, 2) := by decide +kernel
theorem dX3_commonDivisor_21 : decode cX3_commonDivisor 21 = .ok (.lload_n 2, 1) := by decide +kernel
theorem dX3_commonDivisor_22 : decode cX3_commonDivisor 22 = .ok (.lstore_n 0, 1) := by decide +kernel
theorem dX3_commonDivisor_23 : decode cX3_commonDivisor 23 = .ok (.lload 5, 2) := by decide +kernel
theorem dX3_commonDivisor_25 : decode cX3_commonDivisor 25 = .ok (.lstore_n 2, 1) := by decide +kernel
theorem dX3_commonDivisor_26 : decode cX3_commonDivisor 26 = .ok (.iinc 4 1, 3) := by decide +kernel
theorem dX3_commonDivisor_29 : decode cX3_commonDivisor 29 = .ok (.goto (-26), 3) := by decide +kernel
theorem dX3_commonDivisor_32 : decode cX3_commonDivisor 32 = .ok (.lload_n 0, 1) := by decide +kernel
theorem dX3_commonDivisor_33 : decode cX3_commonDivisor 33 = .ok (.lconst 0, 1) := by decide +kernel
theorem dX3_commonDivisor_34 : decode cX3_commonDivisor 34 = .ok (.lcmp, 1) := by decide +kernel
theorem dX3_commonDivisor_35 : decode cX3_commonDivisor 35 = .ok (.ifCond .le 7, 3) := by decide +kernel
theorem dX3_commonDivisor_38 : decode cX3_commonDivisor 38 = .ok (.lload_n 0, 1) := by decide +kernel
theorem dX3_commonDivisor_39 : decode cX3_commonDivisor 39 = .ok (.goto 4, 3) := by decide +kernel
theorem dX3_commonDivisor_42 : decode cX3_commonDivisor 42 = .ok (.lconst 1, 1) := by decide +kernel
theorem dX3_commonDivisor_43 : decode cX3_commonDivisor 43 = .ok (.lreturn, 1) := by decide +kernel
theorem dX3_powerOfTen_0 : decode cX3_powerOfTen 0 = .ok (.lconst 1, 1) := by decide +kernel
theorem dX3_powerOfTen_1 : decode cX3_powerOfTen 1 = .ok (.lstore_n 1, 1) := by decide +kernel
theorem dX3_powerOfTen_2 : decode cX3_powerOfTen 2 = .ok (.iconst 0, 1) := by decide +kernel
theorem dX3_powerOfTen_3 : decode cX3_powerOfTen 3 = .ok (.istore_n 3, 1) := by decide +kernel
theorem dX3_powerOfTen_4 : decode cX3_powerOfTen 4 = .ok (.iload_n 3, 1) := by decide +kernel
theorem dX3_powerOfTen_5 : decode cX3_powerOfTen 5 = .ok (.iload_n 0, 1) := by decide +kernel
theorem dX3_powerOfTen_6 : decode cX3_powerOfTen 6 = .ok (.if_icmp .ge 15, 3) := by decide +kernel
theorem dX3_powerOfTen_9 : decode cX3_powerOfTen 9 = .ok (.lload_n 1, 1) := by decide +kernel
theorem dX3_powerOfTen_10 : decode cX3_powerOfTen 10 = .ok (.ldc2_w 272, 3) := by decide +kernel
theorem dX3_powerOfTen_13 : decode cX3_powerOfTen 13 = .ok (.lmul, 1) := by decide +kernel
theorem dX3_powerOfTen_14 : decode cX3_powerOfTen 14 = .ok (.lstore_n 1, 1) := by decide +kernel
theorem dX3_powerOfTen_15 : decode cX3_powerOfTen 15 = .ok (.iinc 3 1, 3) := by decide +kernel
theorem dX3_powerOfTen_18 : decode cX3_powerOfTen 18 = .ok (.goto (-14), 3) := by decide +kernel
theorem dX3_powerOfTen_21 : decode cX3_powerOfTen 21 = .ok (.lload_n 1, 1) := by decide +kernel
theorem dX3_powerOfTen_22 : decode cX3_powerOfTen 22 = .ok (.lreturn, 1) := by decide +kernel
theorem dX3_findSpans_0 : decode cX3_findSpans 0 = .ok (.iconst 0, 1) := by decide +kernel
theorem dX3_findSpans_1 : decode cX3_findSpans 1 = .ok (.istore_n 1, 1) := by decide +kernel
theorem dX3_findSpans_2 : decode cX3_findSpans 2 = .ok (.iload_n 1, 1) := by decide +kernel
theorem dX3_findSpans_3 : decode cX3_findSpans 3 = .ok (.bipush 9, 2) := by decide +kernel
theorem dX3_findSpans_5 : decode cX3_findSpans 5 = .ok (.if_icmp .ge 28, 3) := by decide +kernel
theorem dX3_findSpans_8 : decode cX3_findSpans 8 = .ok (.aload_n 0, 1) := by decide +kernel
theorem dX3_findSpans_9 : decode cX3_findSpans 9 = .ok (.getfield 34, 3) := by decide +kernel
theorem dX3_findSpans_12 : decode cX3_findSpans 12 = .ok (.iload_n 1, 1) := by decide +kernel
theorem dX3_findSpans_13 : decode cX3_findSpans 13 = .ok (.aload_n 0, 1) := by decide +kernel
theorem dX3_findSpans_14 : decode cX3_findSpans 14 = .ok (.getfield 12, 3) := by decide +kernel
theorem dX3_findSpans_17 : decode cX3_findSpans 17 = .ok (.getfield 62, 3) := by decide +kernel
theorem dX3_findSpans_20 : decode cX3_findSpans 20 = .ok (.iload_n 1, 1) := by decide +kernel
theorem dX3_findSpans_21 : decode cX3_findSpans 21 = .ok (.iconst 0, 1) := by decide +kernel
theorem dX3_findSpans_22 : decode cX3_findSpans 22 = .ok (.iconst 0, 1) := by decide +kernel
theorem dX3_findSpans_23 : decode cX3_findSpans 23 = .ok (.invokevirtual 183, 3) := by decide +kernel
theorem dX3_findSpans_26 : decode cX3_findSpans 26 = .ok (.iastore, 1) := by decide +kernel
theorem dX3_findSpans_27 : decode cX3_findSpans 27 = .ok (.iinc 1 1, 3) := by decide +kernel
theorem dX3_findSpans_30 : decode cX3_findSpans 30 = .ok (.goto (-28), 3) := by decide +kernel
theorem dX3_findSpans_33 : decode cX3_findSpans 33 = .ok (.return_, 1) := by decide +kernel
theorem dX3_leastSpanBut_0 : decode cX3_leastSpanBut 0 = .ok (.bipush 41, 2) := by decide +kernel
theorem dX3_leastSpanBut_2 : decode cX3_leastSpanBut 2 = .ok (.istore_n 3, 1) := by decide +kernel
theorem dX3_leastSpanBut_3 : decode cX3_leastSpanBut 3 = .ok (.iconst 0, 1) := by decide +kernel
theorem dX3_leastSpanBut_4 : decode cX3_leastSpanBut 4 = .ok (.istore 4, 2) := by decide +kernel
theorem dX3_leastSpanBut_6 : decode cX3_leastSpanBut 6 = .ok (.iload 4, 2) := by decide +kernel
theorem dX3_leastSpanBut_8 : decode cX3_leastSpanBut 8 = .ok (.bipush 9, 2) := by decide +kernel
theorem dX3_leastSpanBut_10 : decode cX3_leastSpanBut 10 = .ok (.if_icmp .ge 33, 3) := by decide +kernel
theorem dX3_leastSpanBut_13 : decode cX3_leastSpanBut 13 = .ok (.iload 4, 2) := by decide +kernel
theorem dX3_leastSpanBut_15 : decode cX3_leastSpanBut 15 = .ok (.iload_n 1, 1) := by decide +kernel
theorem dX3_leastSpanBut_16 : decode cX3_leastSpanBut 16 = .ok (.if_icmp .eq 21, 3) := by decide +kernel
theorem dX3_leastSpanBut_19 : decode cX3_leastSpanBut 19 = .ok (.iload 4, 2) := by decide +kernel
theorem dX3_leastSpanBut_21 : decode cX3_leastSpanBut 21 = .ok (.iload_n 2, 1) := by decide +kernel
theorem dX3_leastSpanBut_22 : decode cX3_leastSpanBut 22 = .ok (.if_icmp .eq 15, 3) := by decide +kernel
theorem dX3_leastSpanBut_25 : decode cX3_leastSpanBut 25 = .ok (.iload_n 3, 1) := by decide +kernel
theorem dX3_leastSpanBut_26 : decode cX3_leastSpanBut 26 = .ok (.aload_n 0, 1) := by decide +kernel
theorem dX3_leastSpanBut_27 : decode cX3_leastSpanBut 27 = .ok (.getfield 34, 3) := by decide +kernel
theorem dX3_leastSpanBut_30 : decode cX3_leastSpanBut 30 = .ok (.iload 4, 2) := by decide +kernel
theorem dX3_leastSpanBut_32 : decode cX3_leastSpanBut 32 = .ok (.iaload, 1) := by decide +kernel
theorem dX3_leastSpanBut_33 : decode cX3_leastSpanBut 33 = .ok (.invokestatic 186, 3) := by decide +kernel
theorem dX3_leastSpanBut_36 : decode cX3_leastSpanBut 36 = .ok (.istore_n 3, 1) := by decide +kernel
theorem dX3_leastSpanBut_37 : decode cX3_leastSpanBut 37 = .ok (.iinc 4 1, 3) := by decide +kernel
theorem dX3_leastSpanBut_40 : decode cX3_leastSpanBut 40 = .ok (.goto (-34), 3) := by decide +kernel
theorem dX3_leastSpanBut_43 : decode cX3_leastSpanBut 43 = .ok (.iload_n 3, 1) := by decide +kernel
theorem dX3_leastSpanBut_44 : decode cX3_leastSpanBut 44 = .ok (.ireturn, 1) := by decide +kernel
theorem dX3_findSplitSpans_0 : decode cX3_findSplitSpans 0 = .ok (.iconst 0, 1) := by decide +kernel
theorem dX3_findSplitSpans_1 : decode cX3_findSplitSpans 1 = .ok (.istore_n 3, 1) := by decide +kernel
theorem dX3_findSplitSpans_2 : decode cX3_findSplitSpans 2 = .ok (.iload_n 3, 1) := by decide +kernel
theorem dX3_findSplitSpans_3 : decode cX3_findSplitSpans 3 = .ok (.bipush 9, 2) := by decide +kernel
theorem dX3_findSplitSpans_5 : decode cX3_findSplitSpans 5 = .ok (.if_icmp .ge 67, 3) := by decide +kernel
theorem dX3_findSplitSpans_8 : decode cX3_findSplitSpans 8 = .ok (.aload_n 0, 1) := by decide +kernel
theorem dX3_findSplitSpans_9 : decode cX3_findSplitSpans 9 = .ok (.getfield 12, 3) := by decide +kernel
theorem dX3_findSplitSpans_12 : decode cX3_findSplitSpans 12 = .ok (.getfield 62, 3) := by decide +kernel
theorem dX3_findSplitSpans_15 : decode cX3_findSplitSpans 15 = .ok (.iload_n 3, 1) := by decide +kernel
theorem dX3_findSplitSpans_16 : decode cX3_findSplitSpans 16 = .ok (.invokevirtual 180, 3) := by decide +kernel
theorem dX3_findSplitSpans_19 : decode cX3_findSplitSpans 19 = .ok (.ifCond .ne 6, 3) := by decide +kernel
theorem dX3_findSplitSpans_22 : decode cX3_findSplitSpans 22 = .ok (.goto 44, 3) := by decide +kernel
theorem dX3_findSplitSpans_25 : decode cX3_findSplitSpans 25 = .ok (.iconst 1, 1) := by decide +kernel
theorem dX3_findSplitSpans_26 : decode cX3_findSplitSpans 26 = .ok (.istore 4, 2) := by decide +kernel
theorem dX3_findSplitSpans_28 : decode cX3_findSplitSpans 28 = .ok (.iload 4, 2) := by decide +kernel
theorem dX3_findSplitSpans_30 : decode cX3_findSplitSpans 30 = .ok (.iload_n 1, 1) := by decide +kernel
theorem dX3_findSplitSpans_31 : decode cX3_findSplitSpans 31 = .ok (.if_icmp .ge 35, 3) := by decide +kernel
theorem dX3_findSplitSpans_34 : decode cX3_findSplitSpans 34 = .ok (.aload_n 0, 1) := by decide +kernel
theorem dX3_findSplitSpans_35 : decode cX3_findSplitSpans 35 = .ok (.getfield 38, 3) := by decide +kernel
theorem dX3_findSplitSpans_38 : decode cX3_findSplitSpans 38 = .ok (.iload_n 3, 1) := by decide +kernel
theorem dX3_findSplitSpans_39 : decode cX3_findSplitSpans 39 = .ok (.bipush 30, 2) := by decide +kernel
theorem dX3_findSplitSpans_41 : decode cX3_findSplitSpans 41 = .ok (.imul, 1) := by decide +kernel
theorem dX3_findSplitSpans_42 : decode cX3_findSplitSpans 42 = .ok (.iload 4, 2) := by decide +kernel
theorem dX3_findSplitSpans_44 : decode cX3_findSplitSpans 44 = .ok (.iadd, 1) := by decide +kernel
theorem dX3_findSplitSpans_45 : decode cX3_findSplitSpans 45 = .ok (.aload_n 0, 1) := by decide +kernel
theorem dX3_findSplitSpans_46 : decode cX3_findSplitSpans 46 = .ok (.getfield 12, 3) := by decide +kernel
theorem dX3_findSplitSpans_49 : decode cX3_findSplitSpans 49 = .ok (.getfield 62, 3) := by decide +kernel
theorem dX3_findSplitSpans_52 : decode cX3_findSplitSpans 52 = .ok (.iload_n 3, 1) := by decide +kernel
theorem dX3_findSplitSpans_53 : decode cX3_findSplitSpans 53 = .ok (.iload_n 2, 1) := by decide +kernel
theorem dX3_findSplitSpans_54 : decode cX3_findSplitSpans 54 = .ok (.iload 4, 2) := by decide +kernel
theorem dX3_findSplitSpans_56 : decode cX3_findSplitSpans 56 = .ok (.invokevirtual 183, 3) := by decide +kernel
theorem dX3_findSplitSpans_59 : decode cX3_findSplitSpans 59 = .ok (.iastore, 1) := by decide +kernel
theorem dX3_findSplitSpans_60 : decode cX3_findSplitSpans 60 = .ok (.iinc 4 1, 3) := by decide +kernel
theorem dX3_findSplitSpans_63 : decode cX3_findSplitSpans 63 = .ok (.goto (-35), 3) := by decide +kernel
theorem dX3_findSplitSpans_66 : decode cX3_findSplitSpans 66 = .ok (.iinc 3 1, 3) := by decide +kernel
theorem dX3_findSplitSpans_69 : decode cX3_findSplitSpans 69 = .ok (.goto (-67), 3) := by decide +kernel
theorem dX3_findSplitSpans_72 : decode cX3_findSplitSpans 72 = .ok (.return_, 1) := by decide +kernel
theorem dX3_splitSpan_0 : decode cX3_splitSpan 0 = .ok (.aload_n 0, 1) := by decide +kernel
theorem dX3_splitSpan_1 : decode cX3_splitSpan 1 = .ok (.getfield 38, 3) := by decide +kernel
theorem dX3_splitSpan_4 : decode cX3_splitSpan 4 = .ok (.iload_n 1, 1) := by decide +kernel
theorem dX3_splitSpan_5 : decode cX3_splitSpan 5 = .ok (.bipush 30, 2) := by decide +kernel
theorem dX3_splitSpan_7 : decode cX3_splitSpan 7 = .ok (.imul, 1) := by decide +kernel
theorem dX3_splitSpan_8 : decode cX3_splitSpan 8 = .ok (.iload 4, 2) := by decide +kernel
theorem dX3_splitSpan_10 : decode cX3_splitSpan 10 = .ok (.iadd, 1) := by decide +kernel
theorem dX3_splitSpan_11 : decode cX3_splitSpan 11 = .ok (.iaload, 1) := by decide +kernel
theorem dX3_splitSpan_12 : decode cX3_splitSpan 12 = .ok (.aload_n 0, 1) := by decide +kernel
theorem dX3_splitSpan_13 : decode cX3_splitSpan 13 = .ok (.getfield 38, 3) := by decide +kernel
theorem dX3_splitSpan_16 : decode cX3_splitSpan 16 = .ok (.iload_n 2, 1) := by decide +kernel
theorem dX3_splitSpan_17 : decode cX3_splitSpan 17 = .ok (.bipush 30, 2) := by decide +kernel
theorem dX3_splitSpan_19 : decode cX3_splitSpan 19 = .ok (.imul, 1) := by decide +kernel
theorem dX3_splitSpan_20 : decode cX3_splitSpan 20 = .ok (.iload_n 3, 1) := by decide +kernel
theorem dX3_splitSpan_21 : decode cX3_splitSpan 21 = .ok (.iadd, 1) := by decide +kernel
theorem dX3_splitSpan_22 : decode cX3_splitSpan 22 = .ok (.iload 4, 2) := by decide +kernel
theorem dX3_splitSpan_24 : decode cX3_splitSpan 24 = .ok (.isub, 1) := by decide +kernel
theorem dX3_splitSpan_25 : decode cX3_splitSpan 25 = .ok (.iaload, 1) := by decide +kernel
theorem dX3_splitSpan_26 : decode cX3_splitSpan 26 = .ok (.invokestatic 186, 3) := by decide +kernel
theorem dX3_splitSpan_29 : decode cX3_splitSpan 29 = .ok (.istore 6, 2) := by decide +kernel
theorem dX3_splitSpan_31 : decode cX3_splitSpan 31 = .ok (.iload 6, 2) := by decide +kernel
theorem dX3_splitSpan_33 : decode cX3_splitSpan 33 = .ok (.iload 5, 2) := by decide +kernel
theorem dX3_splitSpan_35 : decode cX3_splitSpan 35 = .ok (.invokestatic 186, 3) := by decide +kernel
theorem dX3_splitSpan_38 : decode cX3_splitSpan 38 = .ok (.ireturn, 1) := by decide +kernel
theorem dX3_bestSplit_0 : decode cX3_bestSplit 0 = .ok (.iconst 1, 1) := by decide +kernel
theorem dX3_bestSplit_1 : decode cX3_bestSplit 1 = .ok (.istore 5, 2) := by decide +kernel
theorem dX3_bestSplit_3 : decode cX3_bestSplit 3 = .ok (.iconst 2, 1) := by decide +kernel
theorem dX3_bestSplit_4 : decode cX3_bestSplit 4 = .ok (.istore 6, 2) := by decide +kernel
theorem dX3_bestSplit_6 : decode cX3_bestSplit 6 = .ok (.iload 6, 2) := by decide +kernel
theorem dX3_bestSplit_8 : decode cX3_bestSplit 8 = .ok (.iload_n 3, 1) := by decide +kernel
theorem dX3_bestSplit_9 : decode cX3_bestSplit 9 = .ok (.if_icmp .ge 38, 3) := by decide +kernel
theorem dX3_bestSplit_12 : decode cX3_bestSplit 12 = .ok (.aload_n 0, 1) := by decide +kernel
theorem dX3_bestSplit_13 : decode cX3_bestSplit 13 = .ok (.iload_n 1, 1) := by decide +kernel
theorem dX3_bestSplit_14 : decode cX3_bestSplit 14 = .ok (.iload_n 2, 1) := by decide +kernel
theorem dX3_bestSplit_15 : decode cX3_bestSplit 15 = .ok (.iload_n 3, 1) := by decide +kernel
theorem dX3_bestSplit_16 : decode cX3_bestSplit 16 = .ok (.iload 6, 2) := by decide +kernel
theorem dX3_bestSplit_18 : decode cX3_bestSplit 18 = .ok (.iload 4, 2) := by decide +kernel
theorem dX3_bestSplit_20 : decode cX3_bestSplit 20 = .ok (.invokevirtual 198, 3) := by decide +kernel
theorem dX3_bestSplit_23 : decode cX3_bestSplit 23 = .ok (.aload_n 0, 1) := by decide +kernel
theorem dX3_bestSplit_24 : decode cX3_bestSplit 24 = .ok (.iload_n 1, 1) := by decide +kernel
theorem dX3_bestSplit_25 : decode cX3_bestSplit 25 = .ok (.iload_n 2, 1) := by decide +kernel
theorem dX3_bestSplit_26 : decode cX3_bestSplit 26 = .ok (.iload_n 3, 1) := by decide +kernel
theorem dX3_bestSplit_27 : decode cX3_bestSplit 27 = .ok (.iload 5, 2) := by decide +kernel
theorem dX3_bestSplit_29 : decode cX3_bestSplit 29 = .ok (.iload 4, 2) := by decide +kernel
theorem dX3_bestSplit_31 : decode cX3_bestSplit 31 = .ok (.invokevirtual 198, 3) := by decide +kernel
theorem dX3_bestSplit_34 : decode cX3_bestSplit 34 = .ok (.if_icmp .le 7, 3) := by decide +kernel
theorem dX3_bestSplit_37 : decode cX3_bestSplit 37 = .ok (.iload 6, 2) := by decide +kernel
theorem dX3_bestSplit_39 : decode cX3_bestSplit 39 = .ok (.istore 5, 2) := by decide +kernel
theorem dX3_bestSplit_41 : decode cX3_bestSplit 41 = .ok (.iinc 6 1, 3) := by decide +kernel
theorem dX3_bestSplit_44 : decode cX3_bestSplit 44 = .ok (.goto (-38), 3) := by decide +kernel
theorem dX3_bestSplit_47 : decode cX3_bestSplit 47 = .ok (.iload 5, 2) := by decide +kernel
theorem dX3_bestSplit_49 : decode cX3_bestSplit 49 = .ok (.ireturn, 1) := by decide +kernel
theorem dX3_mostAlike_0 : decode cX3_mostAlike 0 = .ok (.iconst 0, 1) := by decide +kernel
theorem dX3_mostAlike_1 : decode cX3_mostAlike 1 = .ok (.istore 4, 2) := by decide +kernel
theorem dX3_mostAlike_3 : decode cX3_mostAlike 3 = .ok (.iload 4, 2) := by decide +kernel
theorem dX3_mostAlike_5 : decode cX3_mostAlike 5 = .ok (.bipush 6, 2) := by decide +kernel
theorem dX3_mostAlike_7 : decode cX3_mostAlike 7 = .ok (.if_icmp .ge 30, 3) := by decide +kernel
theorem dX3_mostAlike_10 : decode cX3_mostAlike 10 = .ok (.aload_n 0, 1) := by decide +kernel
theorem dX3_mostAlike_11 : decode cX3_mostAlike 11 = .ok (.getfield 41, 3) := by decide +kernel
theorem dX3_mostAlike_14 : decode cX3_mostAlike 14 = .ok (.iload 4, 2) := by decide +kernel
theorem dX3_mostAlike_16 : decode cX3_mostAlike 16 = .ok (.aload_n 0, 1) := by decide +kernel
theorem dX3_mostAlike_17 : decode cX3_mostAlike 17 = .ok (.getfield 12, 3) := by decide +kernel
theorem dX3_mostAlike_20 : decode cX3_mostAlike 20 = .ok (.getfield 62, 3) := by decide +kernel
theorem dX3_mostAlike_23 : decode cX3_mostAlike 23 = .ok (.iload_n 1, 1) := by decide +kernel
theorem dX3_mostAlike_24 : decode cX3_mostAlike 24 = .ok (.iload 4, 2) := by decide +kernel
theorem dX3_mostAlike_26 : decode cX3_mostAlike 26 = .ok (.iload_n 3, 1) := by decide +kernel
theorem dX3_mostAlike_27 : decode cX3_mostAlike 27 = .ok (.invokevirtual 274, 3) := by decide +kernel
theorem dX3_mostAlike_30 : decode cX3_mostAlike 30 = .ok (.iastore, 1) := by decide +kernel
theorem dX3_mostAlike_31 : decode cX3_mostAlike 31 = .ok (.iinc 4 1, 3) := by decide +kernel
theorem dX3_mostAlike_34 : decode cX3_mostAlike 34 = .ok (.goto (-31), 3) := by decide +kernel
theorem dX3_mostAlike_37 : decode cX3_mostAlike 37 = .ok (.iconst 0, 1) := by decide +kernel
theorem dX3_mostAlike_38 : decode cX3_mostAlike 38 = .ok (.istore 4, 2) := by decide +kernel
theorem dX3_mostAlike_40 : decode cX3_mostAlike 40 = .ok (.iconst 0, 1) := by decide +kernel
theorem dX3_mostAlike_41 : decode cX3_mostAlike 41 = .ok (.istore 5, 2) := by decide +kernel
theorem dX3_mostAlike_43 : decode cX3_mostAlike 43 = .ok (.iload 5, 2) := by decide +kernel
theorem dX3_mostAlike_45 : decode cX3_mostAlike 45 = .ok (.bipush 6, 2) := by decide +kernel
theorem dX3_mostAlike_47 : decode cX3_mostAlike 47 = .ok (.if_icmp .ge 78, 3) := by decide +kernel
theorem dX3_mostAlike_50 : decode cX3_mostAlike 50 = .ok (.iload_n 2, 1) := by decide +kernel
theorem dX3_mostAlike_51 : decode cX3_mostAlike 51 = .ok (.iload 5, 2) := by decide +kernel
theorem dX3_mostAlike_53 : decode cX3_mostAlike 53 = .ok (.ishr, 1) := by decide +kernel
theorem dX3_mostAlike_54 : decode cX3_mostAlike 54 = .ok (.iconst 1, 1) := by decide +kernel
theorem dX3_mostAlike_55 : decode cX3_mostAlike 55 = .ok (.iand, 1) := by decide +kernel
theorem dX3_mostAlike_56 : decode cX3_mostAlike 56 = .ok (.ifCond .ne 6, 3) := by decide +kernel
theorem dX3_mostAlike_59 : decode cX3_mostAlike 59 = .ok (.goto 60, 3) := by decide +kernel
theorem dX3_mostAlike_62 : decode cX3_mostAlike 62 = .ok (.iconst 0, 1) := by decide +kernel
theorem dX3_mostAlike_63 : decode cX3_mostAlike 63 = .ok (.istore 6, 2) := by decide +kernel
theorem dX3_mostAlike_65 : decode cX3_mostAlike 65 = .ok (.iconst 0, 1) := by decide +kernel
theorem dX3_mostAlike_66 : decode cX3_mostAlike 66 = .ok (.istore 7, 2) := by decide +kernel
theorem dX3_mostAlike_68 : decode cX3_mostAlike 68 = .ok (.iload 7, 2) := by decide +kernel
theorem dX3_mostAlike_70 : decode cX3_mostAlike 70 = .ok (.bipush 6, 2) := by decide +kernel
theorem dX3_mostAlike_72 : decode cX3_mostAlike 72 = .ok (.if_icmp .ge 38, 3) := by decide +kernel
theorem dX3_mostAlike_75 : decode cX3_mostAlike 75 = .ok (.iload_n 2, 1) := by decide +kernel
theorem dX3_mostAlike_76 : decode cX3_mostAlike 76 = .ok (.iload 7, 2) := by decide +kernel
theorem dX3_mostAlike_78 : decode cX3_mostAlike 78 = .ok (.ishr, 1) := by decide +kernel
theorem dX3_mostAlike_79 : decode cX3_mostAlike 79 = .ok (.iconst 1, 1) := by decide +kernel
theorem dX3_mostAlike_80 : decode cX3_mostAlike 80 = .ok (.iand, 1) := by decide +kernel
theorem dX3_mostAlike_81 : decode cX3_mostAlike 81 = .ok (.ifCond .eq 23, 3) := by decide +kernel
theorem dX3_mostAlike_84 : decode cX3_mostAlike 84 = .ok (.aload_n 0, 1) := by decide +kernel
theorem dX3_mostAlike_85 : decode cX3_mostAlike 85 = .ok (.getfield 41, 3) := by decide +kernel
theorem dX3_mostAlike_88 : decode cX3_mostAlike 88 = .ok (.iload 7, 2) := by decide +kernel
theorem dX3_mostAlike_90 : decode cX3_mostAlike 90 = .ok (.iaload, 1) := by decide +kernel
theorem dX3_mostAlike_91 : decode cX3_mostAlike 91 = .ok (.aload_n 0, 1) := by decide +kernel
theorem dX3_mostAlike_92 : decode cX3_mostAlike 92 = .ok (.getfield 41, 3) := by decide +kernel
theorem dX3_mostAlike_95 : decode cX3_mostAlike 95 = .ok (.iload 5, 2) := by decide +kernel
theorem dX3_mostAlike_97 : decode cX3_mostAlike 97 = .ok (.iaload, 1) := by decide +kernel
theorem dX3_mostAlike_98 : decode cX3_mostAlike 98 = .ok (.if_icmp .ne 6, 3) := by decide +kernel
theorem dX3_mostAlike_101 : decode cX3_mostAlike 101 = .ok (.iinc 6 1, 3) := by decide +kernel
theorem dX3_mostAlike_104 : decode cX3_mostAlike 104 = .ok (.iinc 7 1, 3) := by decide +kernel
theorem dX3_mostAlike_107 : decode cX3_mostAlike 107 = .ok (.goto (-39), 3) := by decide +kernel
theorem dX3_mostAlike_110 : decode cX3_mostAlike 110 = .ok (.iload 4, 2) := by decide +kernel
theorem dX3_mostAlike_112 : decode cX3_mostAlike 112 = .ok (.iload 6, 2) := by decide +kernel
theorem dX3_mostAlike_114 : decode cX3_mostAlike 114 = .ok (.invokestatic 277, 3) := by decide +kernel
theorem dX3_mostAlike_117 : decode cX3_mostAlike 117 = .ok (.istore 4, 2) := by decide +kernel
theorem dX3_mostAlike_119 : decode cX3_mostAlike 119 = .ok (.iinc 5 1, 3) := by decide +kernel
theorem dX3_mostAlike_122 : decode cX3_mostAlike 122 = .ok (.goto (-79), 3) := by decide +kernel
theorem dX3_mostAlike_125 : decode cX3_mostAlike 125 = .ok (.iload 4, 2) := by decide +kernel
theorem dX3_mostAlike_127 : decode cX3_mostAlike 127 = .ok (.ireturn, 1) := by decide +kernel
theorem dX3_findFirstOrder_0 : decode cX3_findFirstOrder 0 = .ok (.iconst 0, 1) := by decide +kernel
theorem dX3_findFirstOrder_1 : decode cX3_findFirstOrder 1 = .ok (.istore_n 3, 1) := by decide +kernel
theorem dX3_findFirstOrder_2 : decode cX3_findFirstOrder 2 = .ok (.iconst (-1), 1) := by decide +kernel
theorem dX3_findFirstOrder_3 : decode cX3_findFirstOrder 3 = .ok (.istore 4, 2) := by decide +kernel
theorem dX3_findFirstOrder_5 : decode cX3_findFirstOrder 5 = .ok (.iconst 0, 1) := by decide +kernel
theorem dX3_findFirstOrder_6 : decode cX3_findFirstOrder 6 = .ok (.istore 5, 2) := by decide +kernel
theorem dX3_findFirstOrder_8 : decode cX3_findFirstOrder 8 = .ok (.iload 5, 2) := by decide +kernel
theorem dX3_findFirstOrder_10 : decode cX3_findFirstOrder 10 = .ok (.bipush 6, 2) := by decide +kernel
theorem dX3_findFirstOrder_12 : decode cX3_findFirstOrder 12 = .ok (.if_icmp .ge 129, 3) := by decide +kernel
theorem dX3_findFirstOrder_15 : decode cX3_findFirstOrder 15 = .ok (.iload_n 3, 1) := by decide +kernel
theorem dX3_findFirstOrder_16 : decode cX3_findFirstOrder 16 = .ok (.iload_n 2, 1) := by decide +kernel
theorem dX3_findFirstOrder_17 : decode cX3_findFirstOrder 17 = .ok (.if_icmp .ge 124, 3) := by decide +kernel
theorem dX3_findFirstOrder_20 : decode cX3_findFirstOrder 20 = .ok (.aload_n 0, 1) := by decide +kernel
theorem dX3_findFirstOrder_21 : decode cX3_findFirstOrder 21 = .ok (.getfield 12, 3) := by decide +kernel
theorem dX3_findFirstOrder_24 : decode cX3_findFirstOrder 24 = .ok (.getfield 62, 3) := by decide +kernel
theorem dX3_findFirstOrder_27 : decode cX3_findFirstOrder 27 = .ok (.iload_n 1, 1) := by decide +kernel
theorem dX3_findFirstOrder_28 : decode cX3_findFirstOrder 28 = .ok (.iload 4, 2) := by decide +kernel
theorem dX3_findFirstOrder_30 : decode cX3_findFirstOrder 30 = .ok (.invokevirtual 280, 3) := by decide +kernel
theorem dX3_findFirstOrder_33 : decode cX3_findFirstOrder 33 = .ok (.istore 4, 2) := by decide +kernel
theorem dX3_findFirstOrder_35 : decode cX3_findFirstOrder 35 = .ok (.iconst 0, 1) := by decide +kernel
theorem dX3_findFirstOrder_36 : decode cX3_findFirstOrder 36 = .ok (.istore 6, 2) := by decide +kernel
theorem dX3_findFirstOrder_38 : decode cX3_findFirstOrder 38 = .ok (.iload 6, 2) := by decide +kernel
theorem dX3_findFirstOrder_40 : decode cX3_findFirstOrder 40 = .ok (.bipush 9, 2) := by decide +kernel
theorem dX3_findFirstOrder_42 : decode cX3_findFirstOrder 42 = .ok (.if_icmp .ge 93, 3) := by decide +kernel
theorem dX3_findFirstOrder_45 : decode cX3_findFirstOrder 45 = .ok (.iload_n 1, 1) := by decide +kernel
theorem dX3_findFirstOrder_46 : decode cX3_findFirstOrder 46 = .ok (.iload 6, 2) := by decide +kernel
theorem dX3_findFirstOrder_48 : decode cX3_findFirstOrder 48 = .ok (.ishr, 1) := by decide +kernel
theorem dX3_findFirstOrder_49 : decode cX3_findFirstOrder 49 = .ok (.iconst 1, 1) := by decide +kernel
theorem dX3_findFirstOrder_50 : decode cX3_findFirstOrder 50 = .ok (.iand, 1) := by decide +kernel
theorem dX3_findFirstOrder_51 : decode cX3_findFirstOrder 51 = .ok (.ifCond .ne 6, 3) := by decide +kernel
theorem dX3_findFirstOrder_54 : decode cX3_findFirstOrder 54 = .ok (.goto 75, 3) := by decide +kernel
theorem dX3_findFirstOrder_57 : decode cX3_findFirstOrder 57 = .ok (.iconst 0, 1) := by decide +kernel
theorem dX3_findFirstOrder_58 : decode cX3_findFirstOrder 58 = .ok (.istore 7, 2) := by decide +kernel
theorem dX3_findFirstOrder_60 : decode cX3_findFirstOrder 60 = .ok (.iload 7, 2) := by decide +kernel
theorem dX3_findFirstOrder_62 : decode cX3_findFirstOrder 62 = .ok (.aload_n 0, 1) := by decide +kernel
theorem dX3_findFirstOrder_63 : decode cX3_findFirstOrder 63 = .ok (.getfield 12, 3) := by decide +kernel
theorem dX3_findFirstOrder_66 : decode cX3_findFirstOrder 66 = .ok (.getfield 62, 3) := by decide +kernel
theorem dX3_findFirstOrder_69 : decode cX3_findFirstOrder 69 = .ok (.iload 6, 2) := by decide +kernel
theorem dX3_findFirstOrder_71 : decode cX3_findFirstOrder 71 = .ok (.invokevirtual 138, 3) := by decide +kernel
theorem dX3_findFirstOrder_74 : decode cX3_findFirstOrder 74 = .ok (.if_icmp .ge 55, 3) := by decide +kernel
theorem dX3_findFirstOrder_77 : decode cX3_findFirstOrder 77 = .ok (.aload_n 0, 1) := by decide +kernel
theorem dX3_findFirstOrder_78 : decode cX3_findFirstOrder 78 = .ok (.getfield 12, 3) := by decide +kernel
theorem dX3_findFirstOrder_81 : decode cX3_findFirstOrder 81 = .ok (.getfield 62, 3) := by decide +kernel
theorem dX3_findFirstOrder_84 : decode cX3_findFirstOrder 84 = .ok (.iload 6, 2) := by decide +kernel
theorem dX3_findFirstOrder_86 : decode cX3_findFirstOrder 86 = .ok (.iload 7, 2) := by decide +kernel
theorem dX3_findFirstOrder_88 : decode cX3_findFirstOrder 88 = .ok (.iconst 3, 1) := by decide +kernel
theorem dX3_findFirstOrder_89 : decode cX3_findFirstOrder 89 = .ok (.invokevirtual 145, 3) := by decide +kernel
theorem dX3_findFirstOrder_92 : decode cX3_findFirstOrder 92 = .ok (.iload 4, 2) := by decide +kernel
theorem dX3_findFirstOrder_94 : decode cX3_findFirstOrder 94 = .ok (.if_icmp .ne 29, 3) := by decide +kernel
theorem dX3_findFirstOrder_97 : decode cX3_findFirstOrder 97 = .ok (.iload_n 3, 1) := by decide +kernel
theorem dX3_findFirstOrder_98 : decode cX3_findFirstOrder 98 = .ok (.bipush 6, 2) := by decide +kernel
theorem dX3_findFirstOrder_100 : decode cX3_findFirstOrder 100 = .ok (.if_icmp .lt 6, 3) := by decide +kernel
theorem dX3_findFirstOrder_103 : decode cX3_findFirstOrder 103 = .ok (.goto 20, 3) := by decide +kernel
theorem dX3_findFirstOrder_106 : decode cX3_findFirstOrder 106 = .ok (.aload_n 0, 1) := by decide +kernel
theorem dX3_findFirstOrder_107 : decode cX3_findFirstOrder 107 = .ok (.getfield 44, 3) := by decide +kernel
theorem dX3_findFirstOrder_110 : decode cX3_findFirstOrder 110 = .ok (.iload_n 3, 1) := by decide +kernel
theorem dX3_findFirstOrder_111 : decode cX3_findFirstOrder 111 = .ok (.bipush 10, 2) := by decide +kernel
theorem dX3_findFirstOrder_113 : decode cX3_findFirstOrder 113 = .ok (.iload 6, 2) := by decide +kernel
theorem dX3_findFirstOrder_115 : decode cX3_findFirstOrder 115 = .ok (.imul, 1) := by decide +kernel
theorem dX3_findFirstOrder_116 : decode cX3_findFirstOrder 116 = .ok (.iload 7, 2) := by decide +kernel
theorem dX3_findFirstOrder_118 : decode cX3_findFirstOrder 118 = .ok (.iadd, 1) := by decide +kernel
theorem dX3_findFirstOrder_119 : decode cX3_findFirstOrder 119 = .ok (.iastore, 1) := by decide +kernel
theorem dX3_findFirstOrder_120 : decode cX3_findFirstOrder 120 = .ok (.iinc 3 1, 3) := by decide +kernel
theorem dX3_findFirstOrder_123 : decode cX3_findFirstOrder 123 = .ok (.iinc 7 1, 3) := by decide +kernel
theorem dX3_findFirstOrder_126 : decode cX3_findFirstOrder 126 = .ok (.goto (-66), 3) := by decide +kernel
theorem dX3_findFirstOrder_129 : decode cX3_findFirstOrder 129 = .ok (.iinc 6 1, 3) := by decide +kernel
theorem dX3_findFirstOrder_132 : decode cX3_findFirstOrder 132 = .ok (.goto (-94), 3) := by decide +kernel
theorem dX3_findFirstOrder_135 : decode cX3_findFirstOrder 135 = .ok (.iinc 5 1, 3) := by decide +kernel
theorem dX3_findFirstOrder_138 : decode cX3_findFirstOrder 138 = .ok (.goto (-130), 3) := by decide +kernel
theorem dX3_findFirstOrder_141 : decode cX3_findFirstOrder 141 = .ok (.return_, 1) := by decide +kernel
theorem dX3_waysToOrder_0 : decode cX3_waysToOrder 0 = .ok (.iconst 1, 1) := by decide +kernel
theorem dX3_waysToOrder_1 : decode cX3_waysToOrder 1 = .ok (.istore_n 2, 1) := by decide +kernel
theorem dX3_waysToOrder_2 : decode cX3_waysToOrder 2 = .ok (.iconst 0, 1) := by decide +kernel
theorem dX3_waysToOrder_3 : decode cX3_waysToOrder 3 = .ok (.istore_n 3, 1) := by decide +kernel
theorem dX3_waysToOrder_4 : decode cX3_waysToOrder 4 = .ok (.iconst 0, 1) := by decide +kernel
theorem dX3_waysToOrder_5 : decode cX3_waysToOrder 5 = .ok (.istore 4, 2) := by decide +kernel
theorem dX3_waysToOrder_7 : decode cX3_waysToOrder 7 = .ok (.iconst 0, 1) := by decide +kernel
theorem dX3_waysToOrder_8 : decode cX3_waysToOrder 8 = .ok (.istore 5, 2) := by decide +kernel
theorem dX3_waysToOrder_10 : decode cX3_waysToOrder 10 = .ok (.iload 5, 2) := by decide +kernel
theorem dX3_waysToOrder_12 : decode cX3_waysToOrder 12 = .ok (.iload_n 1, 1) := by decide +kernel
theorem dX3_waysToOrder_13 : decode cX3_waysToOrder 13 = .ok (.if_icmp .ge 117, 3) := by decide +kernel
theorem dX3_waysToOrder_16 : decode cX3_waysToOrder 16 = .ok (.iload 5, 2) := by decide +kernel
theorem dX3_waysToOrder_18 : decode cX3_waysToOrder 18 = .ok (.bipush 6, 2) := by decide +kernel
theorem dX3_waysToOrder_20 : decode cX3_waysToOrder 20 = .ok (.if_icmp .ge 110, 3) := by decide +kernel
theorem dX3_waysToOrder_23 : decode cX3_waysToOrder 23 = .ok (.iload 5, 2) := by decide +kernel
theorem dX3_waysToOrder_25 : decode cX3_waysToOrder 25 = .ok (.ifCond .le 24, 3) := by decide +kernel
theorem dX3_waysToOrder_28 : decode cX3_waysToOrder 28 = .ok (.aload_n 0, 1) := by decide +kernel
theorem dX3_waysToOrder_29 : decode cX3_waysToOrder 29 = .ok (.iload 5, 2) := by decide +kernel
theorem dX3_waysToOrder_31 : decode cX3_waysToOrder 31 = .ok (.invokevirtual 283, 3) := by decide +kernel
theorem dX3_waysToOrder_34 : decode cX3_waysToOrder 34 = .ok (.aload_n 0, 1) := by decide +kernel
theorem dX3_waysToOrder_35 : decode cX3_waysToOrder 35 = .ok (.iload 5, 2) := by decide +kernel
theorem dX3_waysToOrder_37 : decode cX3_waysToOrder 37 = .ok (.iconst 1, 1) := by decide +kernel
theorem dX3_waysToOrder_38 : decode cX3_waysToOrder 38 = .ok (.isub, 1) := by decide +kernel
theorem dX3_waysToOrder_39 : decode cX3_waysToOrder 39 = .ok (.invokevirtual 283, 3) := by decide +kernel
theorem dX3_waysToOrder_42 : decode cX3_waysToOrder 42 = .ok (.if_icmp .ne 7, 3) := by decide +kernel
theorem dX3_waysToOrder_45 : decode cX3_waysToOrder 45 = .ok (.iconst 1, 1) := by decide +kernel
theorem dX3_waysToOrder_46 : decode cX3_waysToOrder 46 = .ok (.goto 4, 3) := by decide +kernel
theorem dX3_waysToOrder_49 : decode cX3_waysToOrder 49 = .ok (.iconst 0, 1) := by decide +kernel
theorem dX3_waysToOrder_50 : decode cX3_waysToOrder 50 = .ok (.istore 6, 2) := by decide +kernel
theorem dX3_waysToOrder_52 : decode cX3_waysToOrder 52 = .ok (.iload 6, 2) := by decide +kernel
theorem dX3_waysToOrder_54 : decode cX3_waysToOrder 54 = .ok (.ifCond .eq 32, 3) := by decide +kernel
theorem dX3_waysToOrder_57 : decode cX3_waysToOrder 57 = .ok (.aload_n 0, 1) := by decide +kernel
theorem dX3_waysToOrder_58 : decode cX3_waysToOrder 58 = .ok (.getfield 44, 3) := by decide +kernel
theorem dX3_waysToOrder_61 : decode cX3_waysToOrder 61 = .ok (.iload 5, 2) := by decide +kernel
theorem dX3_waysToOrder_63 : decode cX3_waysToOrder 63 = .ok (.iaload, 1) := by decide +kernel
theorem dX3_waysToOrder_64 : decode cX3_waysToOrder 64 = .ok (.bipush 10, 2) := by decide +kernel
theorem dX3_waysToOrder_66 : decode cX3_waysToOrder 66 = .ok (.idiv, 1) := by decide +kernel
theorem dX3_waysToOrder_67 : decode cX3_waysToOrder 67 = .ok (.aload_n 0, 1) := by decide +kernel
theorem dX3_waysToOrder_68 : decode cX3_waysToOrder 68 = .ok (.getfield 44, 3) := by decide +kernel
theorem dX3_waysToOrder_71 : decode cX3_waysToOrder 71 = .ok (.iload 5, 2) := by decide +kernel
theorem dX3_waysToOrder_73 : decode cX3_waysToOrder 73 = .ok (.iconst 1, 1) := by decide +kernel
theorem dX3_waysToOrder_74 : decode cX3_waysToOrder 74 = .ok (.isub, 1) := by decide +kernel
theorem dX3_waysToOrder_75 : decode cX3_waysToOrder 75 = .ok (.iaload, 1) := by decide +kernel
theorem dX3_waysToOrder_76 : decode cX3_waysToOrder 76 = .ok (.bipush 10, 2) := by decide +kernel
theorem dX3_waysToOrder_78 : decode cX3_waysToOrder 78 = .ok (.idiv, 1) := by decide +kernel
theorem dX3_waysToOrder_79 : decode cX3_waysToOrder 79 = .ok (.if_icmp .ne 7, 3) := by decide +kernel
theorem dX3_waysToOrder_82 : decode cX3_waysToOrder 82 = .ok (.iconst 1, 1) := by decide +kernel
theorem dX3_waysToOrder_83 : decode cX3_waysToOrder 83 = .ok (.goto 4, 3) := by decide +kernel
theorem dX3_waysToOrder_86 : decode cX3_waysToOrder 86 = .ok (.iconst 0, 1) := by decide +kernel
theorem dX3_waysToOrder_87 : decode cX3_waysToOrder 87 = .ok (.istore 7, 2) := by decide +kernel
theorem dX3_waysToOrder_89 : decode cX3_waysToOrder 89 = .ok (.iload 6, 2) := by decide +kernel
theorem dX3_waysToOrder_91 : decode cX3_waysToOrder 91 = .ok (.ifCond .eq 9, 3) := by decide +kernel
theorem dX3_waysToOrder_94 : decode cX3_waysToOrder 94 = .ok (.iload_n 3, 1) := by decide +kernel
theorem dX3_waysToOrder_95 : decode cX3_waysToOrder 95 = .ok (.iconst 1, 1) := by decide +kernel
theorem dX3_waysToOrder_96 : decode cX3_waysToOrder 96 = .ok (.iadd, 1) := by decide +kernel
theorem dX3_waysToOrder_97 : decode cX3_waysToOrder 97 = .ok (.goto 4, 3) := by decide +kernel
theorem dX3_waysToOrder_100 : decode cX3_waysToOrder 100 = .ok (.iconst 1, 1) := by decide +kernel
theorem dX3_waysToOrder_101 : decode cX3_waysToOrder 101 = .ok (.istore_n 3, 1) := by decide +kernel
theorem dX3_waysToOrder_102 : decode cX3_waysToOrder 102 = .ok (.iload 7, 2) := by decide +kernel
theorem dX3_waysToOrder_104 : decode cX3_waysToOrder 104 = .ok (.ifCond .eq 10, 3) := by decide +kernel
theorem dX3_waysToOrder_107 : decode cX3_waysToOrder 107 = .ok (.iload 4, 2) := by decide +kernel
theorem dX3_waysToOrder_109 : decode cX3_waysToOrder 109 = .ok (.iconst 1, 1) := by decide +kernel
theorem dX3_waysToOrder_110 : decode cX3_waysToOrder 110 = .ok (.iadd, 1) := by decide +kernel
theorem dX3_waysToOrder_111 : decode cX3_waysToOrder 111 = .ok (.goto 4, 3) := by decide +kernel
theorem dX3_waysToOrder_114 : decode cX3_waysToOrder 114 = .ok (.iconst 1, 1) := by decide +kernel
theorem dX3_waysToOrder_115 : decode cX3_waysToOrder 115 = .ok (.istore 4, 2) := by decide +kernel
theorem dX3_waysToOrder_117 : decode cX3_waysToOrder 117 = .ok (.iload_n 2, 1) := by decide +kernel
theorem dX3_waysToOrder_118 : decode cX3_waysToOrder 118 = .ok (.iload_n 3, 1) := by decide +kernel
theorem dX3_waysToOrder_119 : decode cX3_waysToOrder 119 = .ok (.imul, 1) := by decide +kernel
theorem dX3_waysToOrder_120 : decode cX3_waysToOrder 120 = .ok (.iload 4, 2) := by decide +kernel
theorem dX3_waysToOrder_122 : decode cX3_waysToOrder 122 = .ok (.idiv, 1) := by decide +kernel
theorem dX3_waysToOrder_123 : decode cX3_waysToOrder 123 = .ok (.istore_n 2, 1) := by decide +kernel
theorem dX3_waysToOrder_124 : decode cX3_waysToOrder 124 = .ok (.iinc 5 1, 3) := by decide +kernel
theorem dX3_waysToOrder_127 : decode cX3_waysToOrder 127 = .ok (.goto (-117), 3) := by decide +kernel
theorem dX3_waysToOrder_130 : decode cX3_waysToOrder 130 = .ok (.iload_n 2, 1) := by decide +kernel
theorem dX3_waysToOrder_131 : decode cX3_waysToOrder 131 = .ok (.ireturn, 1) := by decide +kernel
theorem dX3_yearOrdered_0 : decode cX3_yearOrdered 0 = .ok (.aload_n 0, 1) := by decide +kernel
theorem dX3_yearOrdered_1 : decode cX3_yearOrdered 1 = .ok (.getfield 12, 3) := by decide +kernel
theorem dX3_yearOrdered_4 : decode cX3_yearOrdered 4 = .ok (.getfield 62, 3) := by decide +kernel
theorem dX3_yearOrdered_7 : decode cX3_yearOrdered 7 = .ok (.aload_n 0, 1) := by decide +kernel
theorem dX3_yearOrdered_8 : decode cX3_yearOrdered 8 = .ok (.getfield 44, 3) := by decide +kernel
theorem dX3_yearOrdered_11 : decode cX3_yearOrdered 11 = .ok (.iload_n 1, 1) := by decide +kernel
theorem dX3_yearOrdered_12 : decode cX3_yearOrdered 12 = .ok (.iaload, 1) := by decide +kernel
theorem dX3_yearOrdered_13 : decode cX3_yearOrdered 13 = .ok (.bipush 10, 2) := by decide +kernel
theorem dX3_yearOrdered_15 : decode cX3_yearOrdered 15 = .ok (.idiv, 1) := by decide +kernel
theorem dX3_yearOrdered_16 : decode cX3_yearOrdered 16 = .ok (.aload_n 0, 1) := by decide +kernel
theorem dX3_yearOrdered_17 : decode cX3_yearOrdered 17 = .ok (.getfield 44, 3) := by decide +kernel
theorem dX3_yearOrdered_20 : decode cX3_yearOrdered 20 = .ok (.iload_n 1, 1) := by decide +kernel
theorem dX3_yearOrdered_21 : decode cX3_yearOrdered 21 = .ok (.iaload, 1) := by decide +kernel
theorem dX3_yearOrdered_22 : decode cX3_yearOrdered 22 = .ok (.bipush 10, 2) := by decide +kernel
theorem dX3_yearOrdered_24 : decode cX3_yearOrdered 24 = .ok (.irem, 1) := by decide +kernel
theorem dX3_yearOrdered_25 : decode cX3_yearOrdered 25 = .ok (.iconst 3, 1) := by decide +kernel
theorem dX3_yearOrdered_26 : decode cX3_yearOrdered 26 = .ok (.invokevirtual 145, 3) := by decide +kernel
theorem dX3_yearOrdered_29 : decode cX3_yearOrdered 29 = .ok (.ireturn, 1) := by decide +kernel
theorem dJ6_bitCount_0f7a4_0 : decode cJ6_bitCount_0f7a4 0 = .ok (.iload_n 0, 1) := by decide +kernel
theorem dJ6_bitCount_0f7a4_1 : decode cJ6_bitCount_0f7a4 1 = .ok (.iload_n 0, 1) := by decide +kernel
theorem dJ6_bitCount_0f7a4_2 : decode cJ6_bitCount_0f7a4 2 = .ok (.iconst 1, 1) := by decide +kernel
theorem dJ6_bitCount_0f7a4_3 : decode cJ6_bitCount_0f7a4 3 = .ok (.iushr, 1) := by decide +kernel
theorem dJ6_bitCount_0f7a4_4 : decode cJ6_bitCount_0f7a4 4 = .ok (.ldc_w 265, 3) := by decide +kernel
theorem dJ6_bitCount_0f7a4_7 : decode cJ6_bitCount_0f7a4 7 = .ok (.iand, 1) := by decide +kernel
theorem dJ6_bitCount_0f7a4_8 : decode cJ6_bitCount_0f7a4 8 = .ok (.isub, 1) := by decide +kernel
theorem dJ6_bitCount_0f7a4_9 : decode cJ6_bitCount_0f7a4 9 = .ok (.istore_n 0, 1) := by decide +kernel
theorem dJ6_bitCount_0f7a4_10 : decode cJ6_bitCount_0f7a4 10 = .ok (.iload_n 0, 1) := by decide +kernel
theorem dJ6_bitCount_0f7a4_11 : decode cJ6_bitCount_0f7a4 11 = .ok (.ldc_w 266, 3) := by decide +kernel
theorem dJ6_bitCount_0f7a4_14 : decode cJ6_bitCount_0f7a4 14 = .ok (.iand, 1) := by decide +kernel
theorem dJ6_bitCount_0f7a4_15 : decode cJ6_bitCount_0f7a4 15 = .ok (.iload_n 0, 1) := by decide +kernel
theorem dJ6_bitCount_0f7a4_16 : decode cJ6_bitCount_0f7a4 16 = .ok (.iconst 2, 1) := by decide +kernel
theorem dJ6_bitCount_0f7a4_17 : decode cJ6_bitCount_0f7a4 17 = .ok (.iushr, 1) := by decide +kernel
theorem dJ6_bitCount_0f7a4_18 : decode cJ6_bitCount_0f7a4 18 = .ok (.ldc_w 266, 3) := by decide +kernel
theorem dJ6_bitCount_0f7a4_21 : decode cJ6_bitCount_0f7a4 21 = .ok (.iand, 1) := by decide +kernel
theorem dJ6_bitCount_0f7a4_22 : decode cJ6_bitCount_0f7a4 22 = .ok (.iadd, 1) := by decide +kernel
theorem dJ6_bitCount_0f7a4_23 : decode cJ6_bitCount_0f7a4 23 = .ok (.istore_n 0, 1) := by decide +kernel
theorem dJ6_bitCount_0f7a4_24 : decode cJ6_bitCount_0f7a4 24 = .ok (.iload_n 0, 1) := by decide +kernel
theorem dJ6_bitCount_0f7a4_25 : decode cJ6_bitCount_0f7a4 25 = .ok (.iload_n 0, 1) := by decide +kernel
theorem dJ6_bitCount_0f7a4_26 : decode cJ6_bitCount_0f7a4 26 = .ok (.iconst 4, 1) := by decide +kernel
theorem dJ6_bitCount_0f7a4_27 : decode cJ6_bitCount_0f7a4 27 = .ok (.iushr, 1) := by decide +kernel
theorem dJ6_bitCount_0f7a4_28 : decode cJ6_bitCount_0f7a4 28 = .ok (.iadd, 1) := by decide +kernel
theorem dJ6_bitCount_0f7a4_29 : decode cJ6_bitCount_0f7a4 29 = .ok (.ldc_w 267, 3) := by decide +kernel
theorem dJ6_bitCount_0f7a4_32 : decode cJ6_bitCount_0f7a4 32 = .ok (.iand, 1) := by decide +kernel
theorem dJ6_bitCount_0f7a4_33 : decode cJ6_bitCount_0f7a4 33 = .ok (.istore_n 0, 1) := by decide +kernel
theorem dJ6_bitCount_0f7a4_34 : decode cJ6_bitCount_0f7a4 34 = .ok (.iload_n 0, 1) := by decide +kernel
theorem dJ6_bitCount_0f7a4_35 : decode cJ6_bitCount_0f7a4 35 = .ok (.iload_n 0, 1) := by decide +kernel
theorem dJ6_bitCount_0f7a4_36 : decode cJ6_bitCount_0f7a4 36 = .ok (.bipush 8, 2) := by decide +kernel
theorem dJ6_bitCount_0f7a4_38 : decode cJ6_bitCount_0f7a4 38 = .ok (.iushr, 1) := by decide +kernel
theorem dJ6_bitCount_0f7a4_39 : decode cJ6_bitCount_0f7a4 39 = .ok (.iadd, 1) := by decide +kernel
theorem dJ6_bitCount_0f7a4_40 : decode cJ6_bitCount_0f7a4 40 = .ok (.istore_n 0, 1) := by decide +kernel
theorem dJ6_bitCount_0f7a4_41 : decode cJ6_bitCount_0f7a4 41 = .ok (.iload_n 0, 1) := by decide +kernel
theorem dJ6_bitCount_0f7a4_42 : decode cJ6_bitCount_0f7a4 42 = .ok (.iload_n 0, 1) := by decide +kernel
theorem dJ6_bitCount_0f7a4_43 : decode cJ6_bitCount_0f7a4 43 = .ok (.bipush 16, 2) := by decide +kernel
theorem dJ6_bitCount_0f7a4_45 : decode cJ6_bitCount_0f7a4 45 = .ok (.iushr, 1) := by decide +kernel
theorem dJ6_bitCount_0f7a4_46 : decode cJ6_bitCount_0f7a4 46 = .ok (.iadd, 1) := by decide +kernel
theorem dJ6_bitCount_0f7a4_47 : decode cJ6_bitCount_0f7a4 47 = .ok (.istore_n 0, 1) := by decide +kernel
theorem dJ6_bitCount_0f7a4_48 : decode cJ6_bitCount_0f7a4 48 = .ok (.iload_n 0, 1) := by decide +kernel
theorem dJ6_bitCount_0f7a4_49 : decode cJ6_bitCount_0f7a4 49 = .ok (.bipush 63, 2) := by decide +kernel
theorem dJ6_bitCount_0f7a4_51 : decode cJ6_bitCount_0f7a4 51 = .ok (.iand, 1) := by decide +kernel
theorem dJ6_bitCount_0f7a4_52 : decode cJ6_bitCount_0f7a4 52 = .ok (.ireturn, 1) := by decide +kernel
theorem dJ9_max_7cf53_0 : decode cJ9_max_7cf53 0 = .ok (.iload_n 0, 1) := by decide +kernel
theorem dJ9_max_7cf53_1 : decode cJ9_max_7cf53 1 = .ok (.iload_n 1, 1) := by decide +kernel
theorem dJ9_max_7cf53_2 : decode cJ9_max_7cf53 2 = .ok (.if_icmp .lt 7, 3) := by decide +kernel
theorem dJ9_max_7cf53_5 : decode cJ9_max_7cf53 5 = .ok (.iload_n 0, 1) := by decide +kernel
theorem dJ9_max_7cf53_6 : decode cJ9_max_7cf53 6 = .ok (.goto 4, 3) := by decide +kernel
theorem dJ9_max_7cf53_9 : decode cJ9_max_7cf53 9 = .ok (.iload_n 1, 1) := by decide +kernel
theorem dJ9_max_7cf53_10 : decode cJ9_max_7cf53 10 = .ok (.ireturn, 1) := by decide +kernel
theorem dJ9_min_7cf53_0 : decode cJ9_min_7cf53 0 = .ok (.iload_n 0, 1) := by decide +kernel
theorem dJ9_min_7cf53_1 : decode cJ9_min_7cf53 1 = .ok (.iload_n 1, 1) := by decide +kernel
theorem dJ9_min_7cf53_2 : decode cJ9_min_7cf53 2 = .ok (.if_icmp .gt 7, 3) := by decide +kernel
theorem dJ9_min_7cf53_5 : decode cJ9_min_7cf53 5 = .ok (.iload_n 0, 1) := by decide +kernel
theorem dJ9_min_7cf53_6 : decode cJ9_min_7cf53 6 = .ok (.goto 4, 3) := by decide +kernel
theorem dJ9_min_7cf53_9 : decode cJ9_min_7cf53 9 = .ok (.iload_n 1, 1) := by decide +kernel
theorem dJ9_min_7cf53_10 : decode cJ9_min_7cf53 10 = .ok (.ireturn, 1) := by decide +kernel
