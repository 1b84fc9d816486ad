theorem dX1_init_0 : decode cX1_init 0 = .ok (.aload_n 0, 1) := by decide +kernel
theorem dX1_init_1 : decode cX1_init 1 = .ok (.invokespecial 3, 3) := by decide +kernel
theorem dX1_init_4 : decode cX1_init 4 = .ok (.aload_n 0, 1) := by decide +kernel
theorem dX1_init_5 : decode cX1_init 5 = .ok (.new 9, 3) := by decide +kernel
theorem dX1_init_8 : decode cX1_init 8 = .ok (.dup, 1) := by decide +kernel
theorem dX1_init_9 : decode cX1_init 9 = .ok (.invokespecial 11, 3) := by decide +kernel
theorem dX1_init_12 : decode cX1_init 12 = .ok (.putfield 12, 3) := by decide +kernel
theorem dX1_init_15 : decode cX1_init 15 = .ok (.aload_n 0, 1) := by decide +kernel
theorem dX1_init_16 : decode cX1_init 16 = .ok (.bipush 18, 2) := by decide +kernel
theorem dX1_init_18 : decode cX1_init 18 = .ok (.newarray .int, 2) := by decide +kernel
theorem dX1_init_20 : decode cX1_init 20 = .ok (.putfield 18, 3) := by decide +kernel
theorem dX1_init_23 : decode cX1_init 23 = .ok (.aload_n 0, 1) := by decide +kernel
theorem dX1_init_24 : decode cX1_init 24 = .ok (.sipush 944, 3) := by decide +kernel
theorem dX1_init_27 : decode cX1_init 27 = .ok (.newarray .int, 2) := by decide +kernel
theorem dX1_init_29 : decode cX1_init 29 = .ok (.putfield 22, 3) := by decide +kernel
theorem dX1_init_32 : decode cX1_init 32 = .ok (.return_, 1) := by decide +kernel
theorem dX1_renew_0 : decode cX1_renew 0 = .ok (.aload_n 0, 1) := by decide +kernel
theorem dX1_renew_1 : decode cX1_renew 1 = .ok (.getfield 12, 3) := by decide +kernel
theorem dX1_renew_4 : decode cX1_renew 4 = .ok (.iload_n 1, 1) := by decide +kernel
theorem dX1_renew_5 : decode cX1_renew 5 = .ok (.invokevirtual 25, 3) := by decide +kernel
theorem dX1_renew_8 : decode cX1_renew 8 = .ok (.aload_n 0, 1) := by decide +kernel
theorem dX1_renew_9 : decode cX1_renew 9 = .ok (.iconst 0, 1) := by decide +kernel
theorem dX1_renew_10 : decode cX1_renew 10 = .ok (.putfield 29, 3) := by decide +kernel
theorem dX1_renew_13 : decode cX1_renew 13 = .ok (.aload_n 0, 1) := by decide +kernel
theorem dX1_renew_14 : decode cX1_renew 14 = .ok (.iconst 0, 1) := by decide +kernel
theorem dX1_renew_15 : decode cX1_renew 15 = .ok (.putfield 33, 3) := by decide +kernel
theorem dX1_renew_18 : decode cX1_renew 18 = .ok (.return_, 1) := by decide +kernel
theorem dX1_copy_0 : decode cX1_copy 0 = .ok (.aload_n 0, 1) := by decide +kernel
theorem dX1_copy_1 : decode cX1_copy 1 = .ok (.getfield 12, 3) := by decide +kernel
theorem dX1_copy_4 : decode cX1_copy 4 = .ok (.aload_n 1, 1) := by decide +kernel
theorem dX1_copy_5 : decode cX1_copy 5 = .ok (.getfield 12, 3) := by decide +kernel
theorem dX1_copy_8 : decode cX1_copy 8 = .ok (.invokevirtual 36, 3) := by decide +kernel
theorem dX1_copy_11 : decode cX1_copy 11 = .ok (.aload_n 1, 1) := by decide +kernel
theorem dX1_copy_12 : decode cX1_copy 12 = .ok (.getfield 18, 3) := by decide +kernel
theorem dX1_copy_15 : decode cX1_copy 15 = .ok (.iconst 0, 1) := by decide +kernel
theorem dX1_copy_16 : decode cX1_copy 16 = .ok (.aload_n 0, 1) := by decide +kernel
theorem dX1_copy_17 : decode cX1_copy 17 = .ok (.getfield 18, 3) := by decide +kernel
theorem dX1_copy_20 : decode cX1_copy 20 = .ok (.iconst 0, 1) := by decide +kernel
theorem dX1_copy_21 : decode cX1_copy 21 = .ok (.bipush 18, 2) := by decide +kernel
theorem dX1_copy_23 : decode cX1_copy 23 = .ok (.invokestatic 40, 3) := by decide +kernel
theorem dX1_copy_26 : decode cX1_copy 26 = .ok (.aload_n 1, 1) := by decide +kernel
theorem dX1_copy_27 : decode cX1_copy 27 = .ok (.getfield 22, 3) := by decide +kernel
theorem dX1_copy_30 : decode cX1_copy 30 = .ok (.iconst 0, 1) := by decide +kernel
theorem dX1_copy_31 : decode cX1_copy 31 = .ok (.aload_n 0, 1) := by decide +kernel
theorem dX1_copy_32 : decode cX1_copy 32 = .ok (.getfield 22, 3) := by decide +kernel
theorem dX1_copy_35 : decode cX1_copy 35 = .ok (.iconst 0, 1) := by decide +kernel
theorem dX1_copy_36 : decode cX1_copy 36 = .ok (.sipush 944, 3) := by decide +kernel
theorem dX1_copy_39 : decode cX1_copy 39 = .ok (.invokestatic 40, 3) := by decide +kernel
theorem dX1_copy_42 : decode cX1_copy 42 = .ok (.aload_n 0, 1) := by decide +kernel
theorem dX1_copy_43 : decode cX1_copy 43 = .ok (.aload_n 1, 1) := by decide +kernel
theorem dX1_copy_44 : decode cX1_copy 44 = .ok (.getfield 29, 3) := by decide +kernel
theorem dX1_copy_47 : decode cX1_copy 47 = .ok (.putfield 29, 3) := by decide +kernel
theorem dX1_copy_50 : decode cX1_copy 50 = .ok (.aload_n 0, 1) := by decide +kernel
theorem dX1_copy_51 : decode cX1_copy 51 = .ok (.aload_n 1, 1) := by decide +kernel
theorem dX1_copy_52 : decode cX1_copy 52 = .ok (.getfield 46, 3) := by decide +kernel
theorem dX1_copy_55 : decode cX1_copy 55 = .ok (.putfield 46, 3) := by decide +kernel
theorem dX1_copy_58 : decode cX1_copy 58 = .ok (.aload_n 0, 1) := by decide +kernel
theorem dX1_copy_59 : decode cX1_copy 59 = .ok (.aload_n 1, 1) := by decide +kernel
theorem dX1_copy_60 : decode cX1_copy 60 = .ok (.getfield 33, 3) := by decide +kernel
theorem dX1_copy_63 : decode cX1_copy 63 = .ok (.putfield 33, 3) := by decide +kernel
theorem dX1_copy_66 : decode cX1_copy 66 = .ok (.return_, 1) := by decide +kernel
theorem dX1_keep_0 : decode cX1_keep 0 = .ok (.aload_n 0, 1) := by decide +kernel
theorem dX1_keep_1 : decode cX1_keep 1 = .ok (.aload_n 0, 1) := by decide +kernel
theorem dX1_keep_2 : decode cX1_keep 2 = .ok (.getfield 46, 3) := by decide +kernel
theorem dX1_keep_5 : decode cX1_keep 5 = .ok (.iconst 1, 1) := by decide +kernel
theorem dX1_keep_6 : decode cX1_keep 6 = .ok (.iadd, 1) := by decide +kernel
theorem dX1_keep_7 : decode cX1_keep 7 = .ok (.bipush 8, 2) := by decide +kernel
theorem dX1_keep_9 : decode cX1_keep 9 = .ok (.irem, 1) := by decide +kernel
theorem dX1_keep_10 : decode cX1_keep 10 = .ok (.putfield 46, 3) := by decide +kernel
theorem dX1_keep_13 : decode cX1_keep 13 = .ok (.aload_n 0, 1) := by decide +kernel
theorem dX1_keep_14 : decode cX1_keep 14 = .ok (.getfield 12, 3) := by decide +kernel
theorem dX1_keep_17 : decode cX1_keep 17 = .ok (.getfield 49, 3) := by decide +kernel
theorem dX1_keep_20 : decode cX1_keep 20 = .ok (.iconst 0, 1) := by decide +kernel
theorem dX1_keep_21 : decode cX1_keep 21 = .ok (.aload_n 0, 1) := by decide +kernel
theorem dX1_keep_22 : decode cX1_keep 22 = .ok (.getfield 22, 3) := by decide +kernel
theorem dX1_keep_25 : decode cX1_keep 25 = .ok (.aload_n 0, 1) := by decide +kernel
theorem dX1_keep_26 : decode cX1_keep 26 = .ok (.getfield 46, 3) := by decide +kernel
theorem dX1_keep_29 : decode cX1_keep 29 = .ok (.bipush 118, 2) := by decide +kernel
theorem dX1_keep_31 : decode cX1_keep 31 = .ok (.imul, 1) := by decide +kernel
theorem dX1_keep_32 : decode cX1_keep 32 = .ok (.bipush 118, 2) := by decide +kernel
theorem dX1_keep_34 : decode cX1_keep 34 = .ok (.invokestatic 40, 3) := by decide +kernel
theorem dX1_keep_37 : decode cX1_keep 37 = .ok (.aload_n 0, 1) := by decide +kernel
theorem dX1_keep_38 : decode cX1_keep 38 = .ok (.aload_n 0, 1) := by decide +kernel
theorem dX1_keep_39 : decode cX1_keep 39 = .ok (.getfield 33, 3) := by decide +kernel
theorem dX1_keep_42 : decode cX1_keep 42 = .ok (.iconst 1, 1) := by decide +kernel
theorem dX1_keep_43 : decode cX1_keep 43 = .ok (.iadd, 1) := by decide +kernel
theorem dX1_keep_44 : decode cX1_keep 44 = .ok (.bipush 8, 2) := by decide +kernel
theorem dX1_keep_46 : decode cX1_keep 46 = .ok (.invokestatic 52, 3) := by decide +kernel
theorem dX1_keep_49 : decode cX1_keep 49 = .ok (.putfield 33, 3) := by decide +kernel
theorem dX1_keep_52 : decode cX1_keep 52 = .ok (.return_, 1) := by decide +kernel
theorem dX1_bringBack_0 : decode cX1_bringBack 0 = .ok (.aload_n 0, 1) := by decide +kernel
theorem dX1_bringBack_1 : decode cX1_bringBack 1 = .ok (.getfield 33, 3) := by decide +kernel
theorem dX1_bringBack_4 : decode cX1_bringBack 4 = .ok (.ifCond .gt 4, 3) := by decide +kernel
theorem dX1_bringBack_7 : decode cX1_bringBack 7 = .ok (.return_, 1) := by decide +kernel
theorem dX1_bringBack_8 : decode cX1_bringBack 8 = .ok (.aload_n 0, 1) := by decide +kernel
theorem dX1_bringBack_9 : decode cX1_bringBack 9 = .ok (.getfield 22, 3) := by decide +kernel
theorem dX1_bringBack_12 : decode cX1_bringBack 12 = .ok (.aload_n 0, 1) := by decide +kernel
theorem dX1_bringBack_13 : decode cX1_bringBack 13 = .ok (.getfield 46, 3) := by decide +kernel
theorem dX1_bringBack_16 : decode cX1_bringBack 16 = .ok (.bipush 118, 2) := by decide +kernel
theorem dX1_bringBack_18 : decode cX1_bringBack 18 = .ok (.imul, 1) := by decide +kernel
theorem dX1_bringBack_19 : decode cX1_bringBack 19 = .ok (.aload_n 0, 1) := by decide +kernel
theorem dX1_bringBack_20 : decode cX1_bringBack 20 = .ok (.getfield 12, 3) := by decide +kernel
theorem dX1_bringBack_23 : decode cX1_bringBack 23 = .ok (.getfield 49, 3) := by decide +kernel
theorem dX1_bringBack_26 : decode cX1_bringBack 26 = .ok (.iconst 0, 1) := by decide +kernel
theorem dX1_bringBack_27 : decode cX1_bringBack 27 = .ok (.bipush 118, 2) := by decide +kernel
theorem dX1_bringBack_29 : decode cX1_bringBack 29 = .ok (.invokestatic 40, 3) := by decide +kernel
theorem dX1_bringBack_32 : decode cX1_bringBack 32 = .ok (.aload_n 0, 1) := by decide +kernel
theorem dX1_bringBack_33 : decode cX1_bringBack 33 = .ok (.aload_n 0, 1) := by decide +kernel
theorem dX1_bringBack_34 : decode cX1_bringBack 34 = .ok (.getfield 46, 3) := by decide +kernel
theorem dX1_bringBack_37 : decode cX1_bringBack 37 = .ok (.bipush 8, 2) := by decide +kernel
theorem dX1_bringBack_39 : decode cX1_bringBack 39 = .ok (.iadd, 1) := by decide +kernel
theorem dX1_bringBack_40 : decode cX1_bringBack 40 = .ok (.iconst 1, 1) := by decide +kernel
theorem dX1_bringBack_41 : decode cX1_bringBack 41 = .ok (.isub, 1) := by decide +kernel
theorem dX1_bringBack_42 : decode cX1_bringBack 42 = .ok (.bipush 8, 2) := by decide +kernel
theorem dX1_bringBack_44 : decode cX1_bringBack 44 = .ok (.irem, 1) := by decide +kernel
theorem dX1_bringBack_45 : decode cX1_bringBack 45 = .ok (.putfield 46, 3) := by decide +kernel
theorem dX1_bringBack_48 : decode cX1_bringBack 48 = .ok (.aload_n 0, 1) := by decide +kernel
theorem dX1_bringBack_49 : decode cX1_bringBack 49 = .ok (.dup, 1) := by decide +kernel
theorem dX1_bringBack_50 : decode cX1_bringBack 50 = .ok (.getfield 33, 3) := by decide +kernel
theorem dX1_bringBack_53 : decode cX1_bringBack 53 = .ok (.iconst 1, 1) := by decide +kernel
theorem dX1_bringBack_54 : decode cX1_bringBack 54 = .ok (.isub, 1) := by decide +kernel
theorem dX1_bringBack_55 : decode cX1_bringBack 55 = .ok (.putfield 33, 3) := by decide +kernel
theorem dX1_bringBack_58 : decode cX1_bringBack 58 = .ok (.return_, 1) := by decide +kernel
theorem dX1_addReading_0 : decode cX1_addReading 0 = .ok (.aload_n 0, 1) := by decide +kernel
theorem dX1_addReading_1 : decode cX1_addReading 1 = .ok (.getfield 29, 3) := by decide +kernel
theorem dX1_addReading_4 : decode cX1_addReading 4 = .ok (.bipush 6, 2) := by decide +kernel
theorem dX1_addReading_6 : decode cX1_addReading 6 = .ok (.if_icmp .lt 8, 3) := by decide +kernel
theorem dX1_addReading_9 : decode cX1_addReading 9 = .ok (.aload_n 0, 1) := by decide +kernel
theorem dX1_addReading_10 : decode cX1_addReading 10 = .ok (.getfield 29, 3) := by decide +kernel
theorem dX1_addReading_13 : decode cX1_addReading 13 = .ok (.ireturn, 1) := by decide +kernel
theorem dX1_addReading_14 : decode cX1_addReading 14 = .ok (.aload_n 0, 1) := by decide +kernel
theorem dX1_addReading_15 : decode cX1_addReading 15 = .ok (.getfield 18, 3) := by decide +kernel
theorem dX1_addReading_18 : decode cX1_addReading 18 = .ok (.iconst 3, 1) := by decide +kernel
theorem dX1_addReading_19 : decode cX1_addReading 19 = .ok (.aload_n 0, 1) := by decide +kernel
theorem dX1_addReading_20 : decode cX1_addReading 20 = .ok (.getfield 29, 3) := by decide +kernel
theorem dX1_addReading_23 : decode cX1_addReading 23 = .ok (.imul, 1) := by decide +kernel
theorem dX1_addReading_24 : decode cX1_addReading 24 = .ok (.iload_n 1, 1) := by decide +kernel
theorem dX1_addReading_25 : decode cX1_addReading 25 = .ok (.iastore, 1) := by decide +kernel
theorem dX1_addReading_26 : decode cX1_addReading 26 = .ok (.aload_n 0, 1) := by decide +kernel
theorem dX1_addReading_27 : decode cX1_addReading 27 = .ok (.getfield 18, 3) := by decide +kernel
theorem dX1_addReading_30 : decode cX1_addReading 30 = .ok (.iconst 3, 1) := by decide +kernel
theorem dX1_addReading_31 : decode cX1_addReading 31 = .ok (.aload_n 0, 1) := by decide +kernel
theorem dX1_addReading_32 : decode cX1_addReading 32 = .ok (.getfield 29, 3) := by decide +kernel
theorem dX1_addReading_35 : decode cX1_addReading 35 = .ok (.imul, 1) := by decide +kernel
theorem dX1_addReading_36 : decode cX1_addReading 36 = .ok (.iconst 1, 1) := by decide +kernel
theorem dX1_addReading_37 : decode cX1_addReading 37 = .ok (.iadd, 1) := by decide +kernel
theorem dX1_addReading_38 : decode cX1_addReading 38 = .ok (.iload_n 2, 1) := by decide +kernel
theorem dX1_addReading_39 : decode cX1_addReading 39 = .ok (.iastore, 1) := by decide +kernel
theorem dX1_addReading_40 : decode cX1_addReading 40 = .ok (.aload_n 0, 1) := by decide +kernel
theorem dX1_addReading_41 : decode cX1_addReading 41 = .ok (.getfield 18, 3) := by decide +kernel
theorem dX1_addReading_44 : decode cX1_addReading 44 = .ok (.iconst 3, 1) := by decide +kernel
theorem dX1_addReading_45 : decode cX1_addReading 45 = .ok (.aload_n 0, 1) := by decide +kernel
theorem dX1_addReading_46 : decode cX1_addReading 46 = .ok (.getfield 29, 3) := by decide +kernel
theorem dX1_addReading_49 : decode cX1_addReading 49 = .ok (.imul, 1) := by decide +kernel
theorem dX1_addReading_50 : decode cX1_addReading 50 = .ok (.iconst 2, 1) := by decide +kernel
theorem dX1_addReading_51 : decode cX1_addReading 51 = .ok (.iadd, 1) := by decide +kernel
theorem dX1_addReading_52 : decode cX1_addReading 52 = .ok (.iload_n 3, 1) := by decide +kernel
theorem dX1_addReading_53 : decode cX1_addReading 53 = .ok (.iastore, 1) := by decide +kernel
theorem dX1_addReading_54 : decode cX1_addReading 54 = .ok (.aload_n 0, 1) := by decide +kernel
theorem dX1_addReading_55 : decode cX1_addReading 55 = .ok (.dup, 1) := by decide +kernel
theorem dX1_addReading_56 : decode cX1_addReading 56 = .ok (.getfield 29, 3) := by decide +kernel
theorem dX1_addReading_59 : decode cX1_addReading 59 = .ok (.iconst 1, 1) := by decide +kernel
theorem dX1_addReading_60 : decode cX1_addReading 60 = .ok (.iadd, 1) := by decide +kernel
theorem dX1_addReading_61 : decode cX1_addReading 61 = .ok (.putfield 29, 3) := by decide +kernel
theorem dX1_addReading_64 : decode cX1_addReading 64 = .ok (.aload_n 0, 1) := by decide +kernel
theorem dX1_addReading_65 : decode cX1_addReading 65 = .ok (.getfield 29, 3) := by decide +kernel
theorem dX1_addReading_68 : decode cX1_addReading 68 = .ok (.ireturn, 1) := by decide +kernel
theorem dX1_possibleKinds_0 : decode cX1_possibleKinds 0 = .ok (.aload_n 0, 1) := by decide +kernel
theorem dX1_possibleKinds_1 : decode cX1_possibleKinds 1 = .ok (.getfield 12, 3) := by decide +kernel
theorem dX1_possibleKinds_4 : decode cX1_possibleKinds 4 = .ok (.iload_n 1, 1) := by decide +kernel
theorem dX1_possibleKinds_5 : decode cX1_possibleKinds 5 = .ok (.invokevirtual 58, 3) := by decide +kernel
theorem dX1_possibleKinds_8 : decode cX1_possibleKinds 8 = .ok (.ifCond .eq 5, 3) := by decide +kernel
theorem dX1_possibleKinds_11 : decode cX1_possibleKinds 11 = .ok (.iconst 0, 1) := by decide +kernel
theorem dX1_possibleKinds_12 : decode cX1_possibleKinds 12 = .ok (.ireturn, 1) := by decide +kernel
theorem dX1_possibleKinds_13 : decode cX1_possibleKinds 13 = .ok (.iconst 0, 1) := by decide +kernel
theorem dX1_possibleKinds_14 : decode cX1_possibleKinds 14 = .ok (.istore_n 2, 1) := by decide +kernel
theorem dX1_possibleKinds_15 : decode cX1_possibleKinds 15 = .ok (.iconst 0, 1) := by decide +kernel
theorem dX1_possibleKinds_16 : decode cX1_possibleKinds 16 = .ok (.istore_n 3, 1) := by decide +kernel
theorem dX1_possibleKinds_17 : decode cX1_possibleKinds 17 = .ok (.iload_n 3, 1) := by decide +kernel
theorem dX1_possibleKinds_18 : decode cX1_possibleKinds 18 = .ok (.bipush 6, 2) := by decide +kernel
theorem dX1_possibleKinds_20 : decode cX1_possibleKinds 20 = .ok (.if_icmp .ge 24, 3) := by decide +kernel
theorem dX1_possibleKinds_23 : decode cX1_possibleKinds 23 = .ok (.aload_n 0, 1) := by decide +kernel
theorem dX1_possibleKinds_24 : decode cX1_possibleKinds 24 = .ok (.iload_n 1, 1) := by decide +kernel
theorem dX1_possibleKinds_25 : decode cX1_possibleKinds 25 = .ok (.iload_n 3, 1) := by decide +kernel
theorem dX1_possibleKinds_26 : decode cX1_possibleKinds 26 = .ok (.invokevirtual 62, 3) := by decide +kernel
theorem dX1_possibleKinds_29 : decode cX1_possibleKinds 29 = .ok (.ifCond .eq 9, 3) := by decide +kernel
theorem dX1_possibleKinds_32 : decode cX1_possibleKinds 32 = .ok (.iload_n 2, 1) := by decide +kernel
theorem dX1_possibleKinds_33 : decode cX1_possibleKinds 33 = .ok (.iconst 1, 1) := by decide +kernel
theorem dX1_possibleKinds_34 : decode cX1_possibleKinds 34 = .ok (.iload_n 3, 1) := by decide +kernel
theorem dX1_possibleKinds_35 : decode cX1_possibleKinds 35 = .ok (.ishl, 1) := by decide +kernel
theorem dX1_possibleKinds_36 : decode cX1_possibleKinds 36 = .ok (.ior, 1) := by decide +kernel
theorem dX1_possibleKinds_37 : decode cX1_possibleKinds 37 = .ok (.istore_n 2, 1) := by decide +kernel
theorem dX1_possibleKinds_38 : decode cX1_possibleKinds 38 = .ok (.iinc 3 1, 3) := by decide +kernel
theorem dX1_possibleKinds_41 : decode cX1_possibleKinds 41 = .ok (.goto (-24), 3) := by decide +kernel
theorem dX1_possibleKinds_44 : decode cX1_possibleKinds 44 = .ok (.iload_n 2, 1) := by decide +kernel
theorem dX1_possibleKinds_45 : decode cX1_possibleKinds 45 = .ok (.ireturn, 1) := by decide +kernel
theorem dX1_agrees_0 : decode cX1_agrees 0 = .ok (.iconst 0, 1) := by decide +kernel
theorem dX1_agrees_1 : decode cX1_agrees 1 = .ok (.istore_n 3, 1) := by decide +kernel
theorem dX1_agrees_2 : decode cX1_agrees 2 = .ok (.iload_n 3, 1) := by decide +kernel
theorem dX1_agrees_3 : decode cX1_agrees 3 = .ok (.aload_n 0, 1) := by decide +kernel
theorem dX1_agrees_4 : decode cX1_agrees 4 = .ok (.getfield 29, 3) := by decide +kernel
theorem dX1_agrees_7 : decode cX1_agrees 7 = .ok (.if_icmp .ge 58, 3) := by decide +kernel
theorem dX1_agrees_10 : decode cX1_agrees 10 = .ok (.aload_n 0, 1) := by decide +kernel
theorem dX1_agrees_11 : decode cX1_agrees 11 = .ok (.getfield 18, 3) := by decide +kernel
theorem dX1_agrees_14 : decode cX1_agrees 14 = .ok (.iconst 3, 1) := by decide +kernel
theorem dX1_agrees_15 : decode cX1_agrees 15 = .ok (.iload_n 3, 1) := by decide +kernel
theorem dX1_agrees_16 : decode cX1_agrees 16 = .ok (.imul, 1) := by decide +kernel
theorem dX1_agrees_17 : decode cX1_agrees 17 = .ok (.iaload, 1) := by decide +kernel
theorem dX1_agrees_18 : decode cX1_agrees 18 = .ok (.iload_n 1, 1) := by decide +kernel
theorem dX1_agrees_19 : decode cX1_agrees 19 = .ok (.if_icmp .eq 6, 3) := by decide +kernel
theorem dX1_agrees_22 : decode cX1_agrees 22 = .ok (.goto 37, 3) := by decide +kernel
theorem dX1_agrees_25 : decode cX1_agrees 25 = .ok (.aload_n 0, 1) := by decide +kernel
theorem dX1_agrees_26 : decode cX1_agrees 26 = .ok (.getfield 12, 3) := by decide +kernel
theorem dX1_agrees_29 : decode cX1_agrees 29 = .ok (.iload_n 1, 1) := by decide +kernel
theorem dX1_agrees_30 : decode cX1_agrees 30 = .ok (.iload_n 2, 1) := by decide +kernel
theorem dX1_agrees_31 : decode cX1_agrees 31 = .ok (.aload_n 0, 1) := by decide +kernel
theorem dX1_agrees_32 : decode cX1_agrees 32 = .ok (.getfield 18, 3) := by decide +kernel
theorem dX1_agrees_35 : decode cX1_agrees 35 = .ok (.iconst 3, 1) := by decide +kernel
theorem dX1_agrees_36 : decode cX1_agrees 36 = .ok (.iload_n 3, 1) := by decide +kernel
theorem dX1_agrees_37 : decode cX1_agrees 37 = .ok (.imul, 1) := by decide +kernel
theorem dX1_agrees_38 : decode cX1_agrees 38 = .ok (.iconst 1, 1) := by decide +kernel
theorem dX1_agrees_39 : decode cX1_agrees 39 = .ok (.iadd, 1) := by decide +kernel
theorem dX1_agrees_40 : decode cX1_agrees 40 = .ok (.iaload, 1) := by decide +kernel
theorem dX1_agrees_41 : decode cX1_agrees 41 = .ok (.invokevirtual 66, 3) := by decide +kernel
theorem dX1_agrees_44 : decode cX1_agrees 44 = .ok (.aload_n 0, 1) := by decide +kernel
theorem dX1_agrees_45 : decode cX1_agrees 45 = .ok (.getfield 18, 3) := by decide +kernel
theorem dX1_agrees_48 : decode cX1_agrees 48 = .ok (.iconst 3, 1) := by decide +kernel
theorem dX1_agrees_49 : decode cX1_agrees 49 = .ok (.iload_n 3, 1) := by decide +kernel
theorem dX1_agrees_50 : decode cX1_agrees 50 = .ok (.imul, 1) := by decide +kernel
theorem dX1_agrees_51 : decode cX1_agrees 51 = .ok (.iconst 2, 1) := by decide +kernel
theorem dX1_agrees_52 : decode cX1_agrees 52 = .ok (.iadd, 1) := by decide +kernel
theorem dX1_agrees_53 : decode cX1_agrees 53 = .ok (.iaload, 1) := by decide +kernel
theorem dX1_agrees_54 : decode cX1_agrees 54 = .ok (.if_icmp .eq 5, 3) := by decide +kernel
theorem dX1_agrees_57 : decode cX1_agrees 57 = .ok (.iconst 0, 1) := by decide +kernel
theorem dX1_agrees_58 : decode cX1_agrees 58 = .ok (.ireturn, 1) := by decide +kernel
theorem dX1_agrees_59 : decode cX1_agrees 59 = .ok (.iinc 3 1, 3) := by decide +kernel
theorem dX1_agrees_62 : decode cX1_agrees 62 = .ok (.goto (-60), 3) := by decide +kernel
theorem dX1_agrees_65 : decode cX1_agrees 65 = .ok (.iconst 1, 1) := by decide +kernel
theorem dX1_agrees_66 : decode cX1_agrees 66 = .ok (.ireturn, 1) := by decide +kernel
theorem dX1_digestedReadings_0 : decode cX1_digestedReadings 0 = .ok (.iconst 0, 1) := by decide +kernel
theorem dX1_digestedReadings_1 : decode cX1_digestedReadings 1 = .ok (.istore_n 3, 1) := by decide +kernel
theorem dX1_digestedReadings_2 : decode cX1_digestedReadings 2 = .ok (.iload_n 3, 1) := by decide +kernel
theorem dX1_digestedReadings_3 : decode cX1_digestedReadings 3 = .ok (.iconst 3, 1) := by decide +kernel
theorem dX1_digestedReadings_4 : decode cX1_digestedReadings 4 = .ok (.aload_n 0, 1) := by decide +kernel
theorem dX1_digestedReadings_5 : decode cX1_digestedReadings 5 = .ok (.getfield 29, 3) := by decide +kernel
theorem dX1_digestedReadings_8 : decode cX1_digestedReadings 8 = .ok (.imul, 1) := by decide +kernel
theorem dX1_digestedReadings_9 : decode cX1_digestedReadings 9 = .ok (.if_icmp .ge 23, 3) := by decide +kernel
theorem dX1_digestedReadings_12 : decode cX1_digestedReadings 12 = .ok (.ldc2_w 70, 3) := by decide +kernel
theorem dX1_digestedReadings_15 : decode cX1_digestedReadings 15 = .ok (.lload_n 1, 1) := by decide +kernel
theorem dX1_digestedReadings_16 : decode cX1_digestedReadings 16 = .ok (.lmul, 1) := by decide +kernel
theorem dX1_digestedReadings_17 : decode cX1_digestedReadings 17 = .ok (.aload_n 0, 1) := by decide +kernel
theorem dX1_digestedReadings_18 : decode cX1_digestedReadings 18 = .ok (.getfield 18, 3) := by decide +kernel
theorem dX1_digestedReadings_21 : decode cX1_digestedReadings 21 = .ok (.iload_n 3, 1) := by decide +kernel
theorem dX1_digestedReadings_22 : decode cX1_digestedReadings 22 = .ok (.iaload, 1) := by decide +kernel
theorem dX1_digestedReadings_23 : decode cX1_digestedReadings 23 = .ok (.i2l, 1) := by decide +kernel
theorem dX1_digestedReadings_24 : decode cX1_digestedReadings 24 = .ok (.ladd, 1) := by decide +kernel
theorem dX1_digestedReadings_25 : decode cX1_digestedReadings 25 = .ok (.lstore_n 1, 1) := by decide +kernel
theorem dX1_digestedReadings_26 : decode cX1_digestedReadings 26 = .ok (.iinc 3 1, 3) := by decide +kernel
theorem dX1_digestedReadings_29 : decode cX1_digestedReadings 29 = .ok (.goto (-27), 3) := by decide +kernel
theorem dX1_digestedReadings_32 : decode cX1_digestedReadings 32 = .ok (.lload_n 1, 1) := by decide +kernel
theorem dX1_digestedReadings_33 : decode cX1_digestedReadings 33 = .ok (.lreturn, 1) := by decide +kernel
theorem dX2_init_0 : decode cX2_init 0 = .ok (.aload_n 0, 1) := by decide +kernel
theorem dX2_init_1 : decode cX2_init 1 = .ok (.invokespecial 3, 3) := by decide +kernel
theorem dX2_init_4 : decode cX2_init 4 = .ok (.aload_n 0, 1) := by decide +kernel
theorem dX2_init_5 : decode cX2_init 5 = .ok (.sipush 150, 3) := by decide +kernel
theorem dX2_init_8 : decode cX2_init 8 = .ok (.newarray .int, 2) := by decide +kernel
theorem dX2_init_10 : decode cX2_init 10 = .ok (.putfield 9, 3) := by decide +kernel
theorem dX2_init_13 : decode cX2_init 13 = .ok (.aload_n 0, 1) := by decide +kernel
theorem dX2_init_14 : decode cX2_init 14 = .ok (.bipush 25, 2) := by decide +kernel
theorem dX2_init_16 : decode cX2_init 16 = .ok (.newarray .int, 2) := by decide +kernel
theorem dX2_init_18 : decode cX2_init 18 = .ok (.putfield 15, 3) := by decide +kernel
theorem dX2_init_21 : decode cX2_init 21 = .ok (.aload_n 0, 1) := by decide +kernel
theorem dX2_init_22 : decode cX2_init 22 = .ok (.bipush 100, 2) := by decide +kernel
theorem dX2_init_24 : decode cX2_init 24 = .ok (.newarray .int, 2) := by decide +kernel
theorem dX2_init_26 : decode cX2_init 26 = .ok (.putfield 18, 3) := by decide +kernel
theorem dX2_init_29 : decode cX2_init 29 = .ok (.return_, 1) := by decide +kernel
theorem dX2_fault_0 : decode cX2_fault 0 = .ok (.aload_n 0, 1) := by decide +kernel
theorem dX2_fault_1 : decode cX2_fault 1 = .ok (.iconst 0, 1) := by decide +kernel
theorem dX2_fault_2 : decode cX2_fault 2 = .ok (.putfield 21, 3) := by decide +kernel
theorem dX2_fault_5 : decode cX2_fault 5 = .ok (.aload_n 0, 1) := by decide +kernel
theorem dX2_fault_6 : decode cX2_fault 6 = .ok (.iconst 0, 1) := by decide +kernel
theorem dX2_fault_7 : decode cX2_fault 7 = .ok (.putfield 25, 3) := by decide +kernel
theorem dX2_fault_10 : decode cX2_fault 10 = .ok (.aload_n 0, 1) := by decide +kernel
theorem dX2_fault_11 : decode cX2_fault 11 = .ok (.invokevirtual 28, 3) := by decide +kernel
theorem dX2_fault_14 : decode cX2_fault 14 = .ok (.iconst 0, 1) := by decide +kernel
theorem dX2_fault_15 : decode cX2_fault 15 = .ok (.istore_n 1, 1) := by decide +kernel
theorem dX2_fault_16 : decode cX2_fault 16 = .ok (.iload_n 1, 1) := by decide +kernel
theorem dX2_fault_17 : decode cX2_fault 17 = .ok (.bipush 25, 2) := by decide +kernel
theorem dX2_fault_19 : decode cX2_fault 19 = .ok (.if_icmp .ge 34, 3) := by decide +kernel
theorem dX2_fault_22 : decode cX2_fault 22 = .ok (.aload_n 0, 1) := by decide +kernel
theorem dX2_fault_23 : decode cX2_fault 23 = .ok (.invokevirtual 31, 3) := by decide +kernel
theorem dX2_fault_26 : decode cX2_fault 26 = .ok (.ifCond .ne 8, 3) := by decide +kernel
theorem dX2_fault_29 : decode cX2_fault 29 = .ok (.aload_n 0, 1) := by decide +kernel
theorem dX2_fault_30 : decode cX2_fault 30 = .ok (.getfield 35, 3) := by decide +kernel
theorem dX2_fault_33 : decode cX2_fault 33 = .ok (.ireturn, 1) := by decide +kernel
theorem dX2_fault_34 : decode cX2_fault 34 = .ok (.aload_n 0, 1) := by decide +kernel
theorem dX2_fault_35 : decode cX2_fault 35 = .ok (.invokevirtual 28, 3) := by decide +kernel
theorem dX2_fault_38 : decode cX2_fault 38 = .ok (.aload_n 0, 1) := by decide +kernel
theorem dX2_fault_39 : decode cX2_fault 39 = .ok (.getfield 38, 3) := by decide +kernel
theorem dX2_fault_42 : decode cX2_fault 42 = .ok (.ifCond .ne 5, 3) := by decide +kernel
theorem dX2_fault_45 : decode cX2_fault 45 = .ok (.iconst (-1), 1) := by decide +kernel
theorem dX2_fault_46 : decode cX2_fault 46 = .ok (.ireturn, 1) := by decide +kernel
theorem dX2_fault_47 : decode cX2_fault 47 = .ok (.iinc 1 1, 3) := by decide +kernel
theorem dX2_fault_50 : decode cX2_fault 50 = .ok (.goto (-34), 3) := by decide +kernel
theorem dX2_fault_53 : decode cX2_fault 53 = .ok (.aload_n 0, 1) := by decide +kernel
theorem dX2_fault_54 : decode cX2_fault 54 = .ok (.getfield 35, 3) := by decide +kernel
theorem dX2_fault_57 : decode cX2_fault 57 = .ok (.ireturn, 1) := by decide +kernel
theorem dX2_takeItem_0 : decode cX2_takeItem 0 = .ok (.aload_n 0, 1) := by decide +kernel
theorem dX2_takeItem_1 : decode cX2_takeItem 1 = .ok (.getfield 21, 3) := by decide +kernel
theorem dX2_takeItem_4 : decode cX2_takeItem 4 = .ok (.bipush 25, 2) := by decide +kernel
theorem dX2_takeItem_6 : decode cX2_takeItem 6 = .ok (.if_icmp .ge 22, 3) := by decide +kernel
theorem dX2_takeItem_9 : decode cX2_takeItem 9 = .ok (.aload_n 0, 1) := by decide +kernel
theorem dX2_takeItem_10 : decode cX2_takeItem 10 = .ok (.getfield 38, 3) := by decide +kernel
theorem dX2_takeItem_13 : decode cX2_takeItem 13 = .ok (.iconst 1, 1) := by decide +kernel
theorem dX2_takeItem_14 : decode cX2_takeItem 14 = .ok (.if_icmp .ne 14, 3) := by decide +kernel
theorem dX2_takeItem_17 : decode cX2_takeItem 17 = .ok (.aload_n 0, 1) := by decide +kernel
theorem dX2_takeItem_18 : decode cX2_takeItem 18 = .ok (.getfield 41, 3) := by decide +kernel
theorem dX2_takeItem_21 : decode cX2_takeItem 21 = .ok (.iconst 3, 1) := by decide +kernel
theorem dX2_takeItem_22 : decode cX2_takeItem 22 = .ok (.invokestatic 44, 3) := by decide +kernel
theorem dX2_takeItem_25 : decode cX2_takeItem 25 = .ok (.ifCond .ne 5, 3) := by decide +kernel
theorem dX2_takeItem_28 : decode cX2_takeItem 28 = .ok (.iconst 0, 1) := by decide +kernel
theorem dX2_takeItem_29 : decode cX2_takeItem 29 = .ok (.ireturn, 1) := by decide +kernel
theorem dX2_takeItem_30 : decode cX2_takeItem 30 = .ok (.aload_n 0, 1) := by decide +kernel
theorem dX2_takeItem_31 : decode cX2_takeItem 31 = .ok (.getfield 41, 3) := by decide +kernel
theorem dX2_takeItem_34 : decode cX2_takeItem 34 = .ok (.ifCond .ne 7, 3) := by decide +kernel
theorem dX2_takeItem_37 : decode cX2_takeItem 37 = .ok (.iconst 1, 1) := by decide +kernel
theorem dX2_takeItem_38 : decode cX2_takeItem 38 = .ok (.goto 4, 3) := by decide +kernel
theorem dX2_takeItem_41 : decode cX2_takeItem 41 = .ok (.iconst 0, 1) := by decide +kernel
theorem dX2_takeItem_42 : decode cX2_takeItem 42 = .ok (.aload_n 0, 1) := by decide +kernel
theorem dX2_takeItem_43 : decode cX2_takeItem 43 = .ok (.getfield 21, 3) := by decide +kernel
theorem dX2_takeItem_46 : decode cX2_takeItem 46 = .ok (.ifCond .ne 7, 3) := by decide +kernel
theorem dX2_takeItem_49 : decode cX2_takeItem 49 = .ok (.iconst 1, 1) := by decide +kernel
theorem dX2_takeItem_50 : decode cX2_takeItem 50 = .ok (.goto 4, 3) := by decide +kernel
theorem dX2_takeItem_53 : decode cX2_takeItem 53 = .ok (.iconst 0, 1) := by decide +kernel
theorem dX2_takeItem_54 : decode cX2_takeItem 54 = .ok (.if_icmp .eq 5, 3) := by decide +kernel
theorem dX2_takeItem_57 : decode cX2_takeItem 57 = .ok (.iconst 0, 1) := by decide +kernel
theorem dX2_takeItem_58 : decode cX2_takeItem 58 = .ok (.ireturn, 1) := by decide +kernel
theorem dX2_takeItem_59 : decode cX2_takeItem 59 = .ok (.aload_n 0, 1) := by decide +kernel
theorem dX2_takeItem_60 : decode cX2_takeItem 60 = .ok (.getfield 15, 3) := by decide +kernel
theorem dX2_takeItem_63 : decode cX2_takeItem 63 = .ok (.aload_n 0, 1) := by decide +kernel
theorem dX2_takeItem_64 : decode cX2_takeItem 64 = .ok (.getfield 21, 3) := by decide +kernel
theorem dX2_takeItem_67 : decode cX2_takeItem 67 = .ok (.aload_n 0, 1) := by decide +kernel
theorem dX2_takeItem_68 : decode cX2_takeItem 68 = .ok (.getfield 41, 3) := by decide +kernel
theorem dX2_takeItem_71 : decode cX2_takeItem 71 = .ok (.iastore, 1) := by decide +kernel
theorem dX2_takeItem_72 : decode cX2_takeItem 72 = .ok (.getstatic 48, 3) := by decide +kernel
theorem dX2_takeItem_75 : decode cX2_takeItem 75 = .ok (.aload_n 0, 1) := by decide +kernel
theorem dX2_takeItem_76 : decode cX2_takeItem 76 = .ok (.getfield 41, 3) := by decide +kernel
theorem dX2_takeItem_79 : decode cX2_takeItem 79 = .ok (.iaload, 1) := by decide +kernel
theorem dX2_takeItem_80 : decode cX2_takeItem 80 = .ok (.istore_n 1, 1) := by decide +kernel
theorem dX2_takeItem_81 : decode cX2_takeItem 81 = .ok (.iconst 0, 1) := by decide +kernel
theorem dX2_takeItem_82 : decode cX2_takeItem 82 = .ok (.istore_n 2, 1) := by decide +kernel
theorem dX2_takeItem_83 : decode cX2_takeItem 83 = .ok (.iload_n 2, 1) := by decide +kernel
theorem dX2_takeItem_84 : decode cX2_takeItem 84 = .ok (.iload_n 1, 1) := by decide +kernel
theorem dX2_takeItem_85 : decode cX2_takeItem 85 = .ok (.if_icmp .ge 45, 3) := by decide +kernel
theorem dX2_takeItem_88 : decode cX2_takeItem 88 = .ok (.iload_n 2, 1) := by decide +kernel
theorem dX2_takeItem_89 : decode cX2_takeItem 89 = .ok (.iconst 4, 1) := by decide +kernel
theorem dX2_takeItem_90 : decode cX2_takeItem 90 = .ok (.if_icmp .ge 40, 3) := by decide +kernel
theorem dX2_takeItem_93 : decode cX2_takeItem 93 = .ok (.aload_n 0, 1) := by decide +kernel
theorem dX2_takeItem_94 : decode cX2_takeItem 94 = .ok (.invokevirtual 28, 3) := by decide +kernel
theorem dX2_takeItem_97 : decode cX2_takeItem 97 = .ok (.aload_n 0, 1) := by decide +kernel
theorem dX2_takeItem_98 : decode cX2_takeItem 98 = .ok (.getfield 38, 3) := by decide +kernel
theorem dX2_takeItem_101 : decode cX2_takeItem 101 = .ok (.iconst 2, 1) := by decide +kernel
theorem dX2_takeItem_102 : decode cX2_takeItem 102 = .ok (.if_icmp .eq 5, 3) := by decide +kernel
theorem dX2_takeItem_105 : decode cX2_takeItem 105 = .ok (.iconst 0, 1) := by decide +kernel
theorem dX2_takeItem_106 : decode cX2_takeItem 106 = .ok (.ireturn, 1) := by decide +kernel
theorem dX2_takeItem_107 : decode cX2_takeItem 107 = .ok (.aload_n 0, 1) := by decide +kernel
theorem dX2_takeItem_108 : decode cX2_takeItem 108 = .ok (.getfield 18, 3) := by decide +kernel
theorem dX2_takeItem_111 : decode cX2_takeItem 111 = .ok (.aload_n 0, 1) := by decide +kernel
theorem dX2_takeItem_112 : decode cX2_takeItem 112 = .ok (.getfield 21, 3) := by decide +kernel
theorem dX2_takeItem_115 : decode cX2_takeItem 115 = .ok (.iconst 4, 1) := by decide +kernel
theorem dX2_takeItem_116 : decode cX2_takeItem 116 = .ok (.imul, 1) := by decide +kernel
theorem dX2_takeItem_117 : decode cX2_takeItem 117 = .ok (.iload_n 2, 1) := by decide +kernel
theorem dX2_takeItem_118 : decode cX2_takeItem 118 = .ok (.iadd, 1) := by decide +kernel
theorem dX2_takeItem_119 : decode cX2_takeItem 119 = .ok (.aload_n 0, 1) := by decide +kernel
theorem dX2_takeItem_120 : decode cX2_takeItem 120 = .ok (.getfield 41, 3) := by decide +kernel
theorem dX2_takeItem_123 : decode cX2_takeItem 123 = .ok (.iastore, 1) := by decide +kernel
theorem dX2_takeItem_124 : decode cX2_takeItem 124 = .ok (.iinc 2 1, 3) := by decide +kernel
theorem dX2_takeItem_127 : decode cX2_takeItem 127 = .ok (.goto (-44), 3) := by decide +kernel
theorem dX2_takeItem_130 : decode cX2_takeItem 130 = .ok (.aload_n 0, 1) := by decide +kernel
theorem dX2_takeItem_131 : decode cX2_takeItem 131 = .ok (.invokevirtual 28, 3) := by decide +kernel
theorem dX2_takeItem_134 : decode cX2_takeItem 134 = .ok (.aload_n 0, 1) := by decide +kernel
theorem dX2_takeItem_135 : decode cX2_takeItem 135 = .ok (.getfield 38, 3) := by decide +kernel
theorem dX2_takeItem_138 : decode cX2_takeItem 138 = .ok (.iconst 3, 1) := by decide +kernel
theorem dX2_takeItem_139 : decode cX2_takeItem 139 = .ok (.if_icmp .eq 5, 3) := by decide +kernel
theorem dX2_takeItem_142 : decode cX2_takeItem 142 = .ok (.iconst 0, 1) := by decide +kernel
theorem dX2_takeItem_143 : decode cX2_takeItem 143 = .ok (.ireturn, 1) := by decide +kernel
theorem dX2_takeItem_144 : decode cX2_takeItem 144 = .ok (.aload_n 0, 1) := by decide +kernel
theorem dX2_takeItem_145 : decode cX2_takeItem 145 = .ok (.dup, 1) := by decide +kernel
theorem dX2_takeItem_146 : decode cX2_takeItem 146 = .ok (.getfield 21, 3) := by decide +kernel
theorem dX2_takeItem_149 : decode cX2_takeItem 149 = .ok (.iconst 1, 1) := by decide +kernel
theorem dX2_takeItem_150 : decode cX2_takeItem 150 = .ok (.iadd, 1) := by decide +kernel
theorem dX2_takeItem_151 : decode cX2_takeItem 151 = .ok (.putfield 21, 3) := by decide +kernel
theorem dX2_takeItem_154 : decode cX2_takeItem 154 = .ok (.iconst 1, 1) := by decide +kernel
theorem dX2_takeItem_155 : decode cX2_takeItem 155 = .ok (.ireturn, 1) := by decide +kernel
theorem dX2_step_0 : decode cX2_step 0 = .ok (.aload_n 0, 1) := by decide +kernel
theorem dX2_step_1 : decode cX2_step 1 = .ok (.aload_n 0, 1) := by decide +kernel
theorem dX2_step_2 : decode cX2_step 2 = .ok (.getfield 25, 3) := by decide +kernel
theorem dX2_step_5 : decode cX2_step 5 = .ok (.putfield 35, 3) := by decide +kernel
theorem dX2_step_8 : decode cX2_step 8 = .ok (.aload_n 0, 1) := by decide +kernel
theorem dX2_step_9 : decode cX2_step 9 = .ok (.getfield 35, 3) := by decide +kernel
theorem dX2_step_12 : decode cX2_step 12 = .ok (.aload_n 0, 1) := by decide +kernel
theorem dX2_step_13 : decode cX2_step 13 = .ok (.getfield 51, 3) := by decide +kernel
theorem dX2_step_16 : decode cX2_step 16 = .ok (.if_icmp .ge 40, 3) := by decide +kernel
theorem dX2_step_19 : decode cX2_step 19 = .ok (.aload_n 0, 1) := by decide +kernel
theorem dX2_step_20 : decode cX2_step 20 = .ok (.getfield 35, 3) := by decide +kernel
theorem dX2_step_23 : decode cX2_step 23 = .ok (.sipush 150, 3) := by decide +kernel
theorem dX2_step_26 : decode cX2_step 26 = .ok (.if_icmp .ge 30, 3) := by decide +kernel
theorem dX2_step_29 : decode cX2_step 29 = .ok (.aload_n 0, 1) := by decide +kernel
theorem dX2_step_30 : decode cX2_step 30 = .ok (.getfield 9, 3) := by decide +kernel
theorem dX2_step_33 : decode cX2_step 33 = .ok (.aload_n 0, 1) := by decide +kernel
theorem dX2_step_34 : decode cX2_step 34 = .ok (.getfield 35, 3) := by decide +kernel
theorem dX2_step_37 : decode cX2_step 37 = .ok (.iaload, 1) := by decide +kernel
theorem dX2_step_38 : decode cX2_step 38 = .ok (.bipush 32, 2) := by decide +kernel
theorem dX2_step_40 : decode cX2_step 40 = .ok (.if_icmp .ne 16, 3) := by decide +kernel
theorem dX2_step_43 : decode cX2_step 43 = .ok (.aload_n 0, 1) := by decide +kernel
theorem dX2_step_44 : decode cX2_step 44 = .ok (.dup, 1) := by decide +kernel
theorem dX2_step_45 : decode cX2_step 45 = .ok (.getfield 35, 3) := by decide +kernel
theorem dX2_step_48 : decode cX2_step 48 = .ok (.iconst 1, 1) := by decide +kernel
theorem dX2_step_49 : decode cX2_step 49 = .ok (.iadd, 1) := by decide +kernel
theorem dX2_step_50 : decode cX2_step 50 = .ok (.putfield 35, 3) := by decide +kernel
theorem dX2_step_53 : decode cX2_step 53 = .ok (.goto (-45), 3) := by decide +kernel
theorem dX2_step_56 : decode cX2_step 56 = .ok (.aload_n 0, 1) := by decide +kernel
theorem dX2_step_57 : decode cX2_step 57 = .ok (.aload_n 0, 1) := by decide +kernel
theorem dX2_step_58 : decode cX2_step 58 = .ok (.getfield 35, 3) := by decide +kernel
theorem dX2_step_61 : decode cX2_step 61 = .ok (.putfield 25, 3) := by decide +kernel
theorem dX2_step_64 : decode cX2_step 64 = .ok (.aload_n 0, 1) := by decide +kernel
theorem dX2_step_65 : decode cX2_step 65 = .ok (.iconst 0, 1) := by decide +kernel
theorem dX2_step_66 : decode cX2_step 66 = .ok (.putfield 38, 3) := by decide +kernel
theorem dX2_step_69 : decode cX2_step 69 = .ok (.aload_n 0, 1) := by decide +kernel
theorem dX2_step_70 : decode cX2_step 70 = .ok (.getfield 35, 3) := by decide +kernel
theorem dX2_step_73 : decode cX2_step 73 = .ok (.aload_n 0, 1) := by decide +kernel
theorem dX2_step_74 : decode cX2_step 74 = .ok (.getfield 51, 3) := by decide +kernel
theorem dX2_step_77 : decode cX2_step 77 = .ok (.if_icmp .ge 13, 3) := by decide +kernel
theorem dX2_step_80 : decode cX2_step 80 = .ok (.aload_n 0, 1) := by decide +kernel
theorem dX2_step_81 : decode cX2_step 81 = .ok (.getfield 35, 3) := by decide +kernel
theorem dX2_step_84 : decode cX2_step 84 = .ok (.sipush 150, 3) := by decide +kernel
theorem dX2_step_87 : decode cX2_step 87 = .ok (.if_icmp .lt 4, 3) := by decide +kernel
theorem dX2_step_90 : decode cX2_step 90 = .ok (.return_, 1) := by decide +kernel
theorem dX2_step_91 : decode cX2_step 91 = .ok (.aload_n 0, 1) := by decide +kernel
theorem dX2_step_92 : decode cX2_step 92 = .ok (.getfield 9, 3) := by decide +kernel
theorem dX2_step_95 : decode cX2_step 95 = .ok (.aload_n 0, 1) := by decide +kernel
theorem dX2_step_96 : decode cX2_step 96 = .ok (.getfield 35, 3) := by decide +kernel
theorem dX2_step_99 : decode cX2_step 99 = .ok (.iaload, 1) := by decide +kernel
theorem dX2_step_100 : decode cX2_step 100 = .ok (.invokestatic 54, 3) := by decide +kernel
theorem dX2_step_103 : decode cX2_step 103 = .ok (.ifCond .eq 10, 3) := by decide +kernel
theorem dX2_step_106 : decode cX2_step 106 = .ok (.aload_n 0, 1) := by decide +kernel
theorem dX2_step_107 : decode cX2_step 107 = .ok (.invokevirtual 58, 3) := by decide +kernel
theorem dX2_step_110 : decode cX2_step 110 = .ok (.goto 58, 3) := by decide +kernel
theorem dX2_step_113 : decode cX2_step 113 = .ok (.aload_n 0, 1) := by decide +kernel
theorem dX2_step_114 : decode cX2_step 114 = .ok (.getfield 9, 3) := by decide +kernel
theorem dX2_step_117 : decode cX2_step 117 = .ok (.aload_n 0, 1) := by decide +kernel
theorem dX2_step_118 : decode cX2_step 118 = .ok (.getfield 35, 3) := by decide +kernel
theorem dX2_step_121 : decode cX2_step 121 = .ok (.iaload, 1) := by decide +kernel
theorem dX2_step_122 : decode cX2_step 122 = .ok (.invokestatic 61, 3) := by decide +kernel
theorem dX2_step_125 : decode cX2_step 125 = .ok (.ifCond .eq 10, 3) := by decide +kernel
theorem dX2_step_128 : decode cX2_step 128 = .ok (.aload_n 0, 1) := by decide +kernel
theorem dX2_step_129 : decode cX2_step 129 = .ok (.invokevirtual 64, 3) := by decide +kernel
theorem dX2_step_132 : decode cX2_step 132 = .ok (.goto 36, 3) := by decide +kernel
theorem dX2_step_135 : decode cX2_step 135 = .ok (.aload_n 0, 1) := by decide +kernel
theorem dX2_step_136 : decode cX2_step 136 = .ok (.aload_n 0, 1) := by decide +kernel
theorem dX2_step_137 : decode cX2_step 137 = .ok (.getfield 9, 3) := by decide +kernel
theorem dX2_step_140 : decode cX2_step 140 = .ok (.aload_n 0, 1) := by decide +kernel
theorem dX2_step_141 : decode cX2_step 141 = .ok (.getfield 35, 3) := by decide +kernel
theorem dX2_step_144 : decode cX2_step 144 = .ok (.iaload, 1) := by decide +kernel
theorem dX2_step_145 : decode cX2_step 145 = .ok (.bipush 59, 2) := by decide +kernel
theorem dX2_step_147 : decode cX2_step 147 = .ok (.if_icmp .ne 7, 3) := by decide +kernel
theorem dX2_step_150 : decode cX2_step 150 = .ok (.iconst 3, 1) := by decide +kernel
theorem dX2_step_151 : decode cX2_step 151 = .ok (.goto 4, 3) := by decide +kernel
theorem dX2_step_154 : decode cX2_step 154 = .ok (.iconst 4, 1) := by decide +kernel
theorem dX2_step_155 : decode cX2_step 155 = .ok (.putfield 38, 3) := by decide +kernel
theorem dX2_step_158 : decode cX2_step 158 = .ok (.aload_n 0, 1) := by decide +kernel
theorem dX2_step_159 : decode cX2_step 159 = .ok (.aload_n 0, 1) := by decide +kernel
theorem dX2_step_160 : decode cX2_step 160 = .ok (.getfield 35, 3) := by decide +kernel
theorem dX2_step_163 : decode cX2_step 163 = .ok (.iconst 1, 1) := by decide +kernel
theorem dX2_step_164 : decode cX2_step 164 = .ok (.iadd, 1) := by decide +kernel
theorem dX2_step_165 : decode cX2_step 165 = .ok (.putfield 25, 3) := by decide +kernel
theorem dX2_step_168 : decode cX2_step 168 = .ok (.return_, 1) := by decide +kernel
theorem dX2_takeWord_0 : decode cX2_takeWord 0 = .ok (.aload_n 0, 1) := by decide +kernel
theorem dX2_takeWord_1 : decode cX2_takeWord 1 = .ok (.getfield 25, 3) := by decide +kernel
theorem dX2_takeWord_4 : decode cX2_takeWord 4 = .ok (.aload_n 0, 1) := by decide +kernel
theorem dX2_takeWord_5 : decode cX2_takeWord 5 = .ok (.getfield 51, 3) := by decide +kernel
theorem dX2_takeWord_8 : decode cX2_takeWord 8 = .ok (.if_icmp .ge 41, 3) := by decide +kernel
theorem dX2_takeWord_11 : decode cX2_takeWord 11 = .ok (.aload_n 0, 1) := by decide +kernel
theorem dX2_takeWord_12 : decode cX2_takeWord 12 = .ok (.getfield 25, 3) := by decide +kernel
theorem dX2_takeWord_15 : decode cX2_takeWord 15 = .ok (.sipush 150, 3) := by decide +kernel
theorem dX2_takeWord_18 : decode cX2_takeWord 18 = .ok (.if_icmp .ge 31, 3) := by decide +kernel
theorem dX2_takeWord_21 : decode cX2_takeWord 21 = .ok (.aload_n 0, 1) := by decide +kernel
theorem dX2_takeWord_22 : decode cX2_takeWord 22 = .ok (.getfield 9, 3) := by decide +kernel
theorem dX2_takeWord_25 : decode cX2_takeWord 25 = .ok (.aload_n 0, 1) := by decide +kernel
theorem dX2_takeWord_26 : decode cX2_takeWord 26 = .ok (.getfield 25, 3) := by decide +kernel
theorem dX2_takeWord_29 : decode cX2_takeWord 29 = .ok (.iaload, 1) := by decide +kernel
theorem dX2_takeWord_30 : decode cX2_takeWord 30 = .ok (.invokestatic 54, 3) := by decide +kernel
theorem dX2_takeWord_33 : decode cX2_takeWord 33 = .ok (.ifCond .eq 16, 3) := by decide +kernel
theorem dX2_takeWord_36 : decode cX2_takeWord 36 = .ok (.aload_n 0, 1) := by decide +kernel
theorem dX2_takeWord_37 : decode cX2_takeWord 37 = .ok (.dup, 1) := by decide +kernel
theorem dX2_takeWord_38 : decode cX2_takeWord 38 = .ok (.getfield 25, 3) := by decide +kernel
theorem dX2_takeWord_41 : decode cX2_takeWord 41 = .ok (.iconst 1, 1) := by decide +kernel
theorem dX2_takeWord_42 : decode cX2_takeWord 42 = .ok (.iadd, 1) := by decide +kernel
theorem dX2_takeWord_43 : decode cX2_takeWord 43 = .ok (.putfield 25, 3) := by decide +kernel
theorem dX2_takeWord_46 : decode cX2_takeWord 46 = .ok (.goto (-46), 3) := by decide +kernel
theorem dX2_takeWord_49 : decode cX2_takeWord 49 = .ok (.aload_n 0, 1) := by decide +kernel
theorem dX2_takeWord_50 : decode cX2_takeWord 50 = .ok (.iconst 4, 1) := by decide +kernel
theorem dX2_takeWord_51 : decode cX2_takeWord 51 = .ok (.putfield 38, 3) := by decide +kernel
theorem dX2_takeWord_54 : decode cX2_takeWord 54 = .ok (.iconst 0, 1) := by decide +kernel
theorem dX2_takeWord_55 : decode cX2_takeWord 55 = .ok (.istore_n 1, 1) := by decide +kernel
theorem dX2_takeWord_56 : decode cX2_takeWord 56 = .ok (.iload_n 1, 1) := by decide +kernel
theorem dX2_takeWord_57 : decode cX2_takeWord 57 = .ok (.iconst 3, 1) := by decide +kernel
theorem dX2_takeWord_58 : decode cX2_takeWord 58 = .ok (.if_icmp .ge 30, 3) := by decide +kernel
theorem dX2_takeWord_61 : decode cX2_takeWord 61 = .ok (.aload_n 0, 1) := by decide +kernel
theorem dX2_takeWord_62 : decode cX2_takeWord 62 = .ok (.iload_n 1, 1) := by decide +kernel
theorem dX2_takeWord_63 : decode cX2_takeWord 63 = .ok (.invokevirtual 67, 3) := by decide +kernel
theorem dX2_takeWord_66 : decode cX2_takeWord 66 = .ok (.ifCond .ne 6, 3) := by decide +kernel
theorem dX2_takeWord_69 : decode cX2_takeWord 69 = .ok (.goto 13, 3) := by decide +kernel
theorem dX2_takeWord_72 : decode cX2_takeWord 72 = .ok (.aload_n 0, 1) := by decide +kernel
theorem dX2_takeWord_73 : decode cX2_takeWord 73 = .ok (.iconst 1, 1) := by decide +kernel
theorem dX2_takeWord_74 : decode cX2_takeWord 74 = .ok (.putfield 38, 3) := by decide +kernel
theorem dX2_takeWord_77 : decode cX2_takeWord 77 = .ok (.aload_n 0, 1) := by decide +kernel
theorem dX2_takeWord_78 : decode cX2_takeWord 78 = .ok (.iload_n 1, 1) := by decide +kernel
theorem dX2_takeWord_79 : decode cX2_takeWord 79 = .ok (.putfield 41, 3) := by decide +kernel
theorem dX2_takeWord_82 : decode cX2_takeWord 82 = .ok (.iinc 1 1, 3) := by decide +kernel
theorem dX2_takeWord_85 : decode cX2_takeWord 85 = .ok (.goto (-29), 3) := by decide +kernel
theorem dX2_takeWord_88 : decode cX2_takeWord 88 = .ok (.return_, 1) := by decide +kernel
theorem dX2_spells_0 : decode cX2_spells 0 = .ok (.iload_n 1, 1) := by decide +kernel
theorem dX2_spells_1 : decode cX2_spells 1 = .ok (.iconst 3, 1) := by decide +kernel
theorem dX2_spells_2 : decode cX2_spells 2 = .ok (.invokestatic 44, 3) := by decide +kernel
theorem dX2_spells_5 : decode cX2_spells 5 = .ok (.ifCond .eq 16, 3) := by decide +kernel
theorem dX2_spells_8 : decode cX2_spells 8 = .ok (.aload_n 0, 1) := by decide +kernel
theorem dX2_spells_9 : decode cX2_spells 9 = .ok (.getfield 25, 3) := by decide +kernel
theorem dX2_spells_12 : decode cX2_spells 12 = .ok (.aload_n 0, 1) := by decide +kernel
theorem dX2_spells_13 : decode cX2_spells 13 = .ok (.getfield 35, 3) := by decide +kernel
theorem dX2_spells_16 : decode cX2_spells 16 = .ok (.isub, 1) := by decide +kernel
theorem dX2_spells_17 : decode cX2_spells 17 = .ok (.iconst 4, 1) := by decide +kernel
theorem dX2_spells_18 : decode cX2_spells 18 = .ok (.if_icmp .eq 5, 3) := by decide +kernel
theorem dX2_spells_21 : decode cX2_spells 21 = .ok (.iconst 0, 1) := by decide +kernel
theorem dX2_spells_22 : decode cX2_spells 22 = .ok (.ireturn, 1) := by decide +kernel
theorem dX2_spells_23 : decode cX2_spells 23 = .ok (.iconst 0, 1) := by decide +kernel
theorem dX2_spells_24 : decode cX2_spells 24 = .ok (.istore_n 2, 1) := by decide +kernel
theorem dX2_spells_25 : decode cX2_spells 25 = .ok (.iload_n 2, 1) := by decide +kernel
theorem dX2_spells_26 : decode cX2_spells 26 = .ok (.iconst 4, 1) := by decide +kernel
theorem dX2_spells_27 : decode cX2_spells 27 = .ok (.if_icmp .ge 46, 3) := by decide +kernel
theorem dX2_spells_30 : decode cX2_spells 30 = .ok (.aload_n 0, 1) := by decide +kernel
theorem dX2_spells_31 : decode cX2_spells 31 = .ok (.getfield 35, 3) := by decide +kernel
theorem dX2_spells_34 : decode cX2_spells 34 = .ok (.iload_n 2, 1) := by decide +kernel
theorem dX2_spells_35 : decode cX2_spells 35 = .ok (.iadd, 1) := by decide +kernel
theorem dX2_spells_36 : decode cX2_spells 36 = .ok (.sipush 150, 3) := by decide +kernel
theorem dX2_spells_39 : decode cX2_spells 39 = .ok (.if_icmp .ge 34, 3) := by decide +kernel
theorem dX2_spells_42 : decode cX2_spells 42 = .ok (.aload_n 0, 1) := by decide +kernel
theorem dX2_spells_43 : decode cX2_spells 43 = .ok (.getfield 9, 3) := by decide +kernel
theorem dX2_spells_46 : decode cX2_spells 46 = .ok (.aload_n 0, 1) := by decide +kernel
theorem dX2_spells_47 : decode cX2_spells 47 = .ok (.getfield 35, 3) := by decide +kernel
theorem dX2_spells_50 : decode cX2_spells 50 = .ok (.iload_n 2, 1) := by decide +kernel
theorem dX2_spells_51 : decode cX2_spells 51 = .ok (.iadd, 1) := by decide +kernel
theorem dX2_spells_52 : decode cX2_spells 52 = .ok (.iaload, 1) := by decide +kernel
theorem dX2_spells_53 : decode cX2_spells 53 = .ok (.getstatic 70, 3) := by decide +kernel
theorem dX2_spells_56 : decode cX2_spells 56 = .ok (.iconst 4, 1) := by decide +kernel
theorem dX2_spells_57 : decode cX2_spells 57 = .ok (.iload_n 1, 1) := by decide +kernel
theorem dX2_spells_58 : decode cX2_spells 58 = .ok (.imul, 1) := by decide +kernel
theorem dX2_spells_59 : decode cX2_spells 59 = .ok (.iload_n 2, 1) := by decide +kernel
theorem dX2_spells_60 : decode cX2_spells 60 = .ok (.iadd, 1) := by decide +kernel
theorem dX2_spells_61 : decode cX2_spells 61 = .ok (.iaload, 1) := by decide +kernel
theorem dX2_spells_62 : decode cX2_spells 62 = .ok (.if_icmp .eq 5, 3) := by decide +kernel
theorem dX2_spells_65 : decode cX2_spells 65 = .ok (.iconst 0, 1) := by decide +kernel
theorem dX2_spells_66 : decode cX2_spells 66 = .ok (.ireturn, 1) := by decide +kernel
theorem dX2_spells_67 : decode cX2_spells 67 = .ok (.iinc 2 1, 3) := by decide +kernel
theorem dX2_spells_70 : decode cX2_spells 70 = .ok (.goto (-45), 3) := by decide +kernel
theorem dX2_spells_73 : decode cX2_spells 73 = .ok (.iconst 1, 1) := by decide +kernel
theorem dX2_spells_74 : decode cX2_spells 74 = .ok (.ireturn, 1) := by decide +kernel
theorem dX2_takeNumber_0 : decode cX2_takeNumber 0 = .ok (.aload_n 0, 1) := by decide +kernel
theorem dX2_takeNumber_1 : decode cX2_takeNumber 1 = .ok (.iconst 0, 1) := by decide +kernel
theorem dX2_takeNumber_2 : decode cX2_takeNumber 2 = .ok (.putfield 41, 3) := by decide +kernel
theorem dX2_takeNumber_5 : decode cX2_takeNumber 5 = .ok (.aload_n 0, 1) := by decide +kernel
theorem dX2_takeNumber_6 : decode cX2_takeNumber 6 = .ok (.getfield 25, 3) := by decide +kernel
theorem dX2_takeNumber_9 : decode cX2_takeNumber 9 = .ok (.aload_n 0, 1) := by decide +kernel
theorem dX2_takeNumber_10 : decode cX2_takeNumber 10 = .ok (.getfield 51, 3) := by decide +kernel
theorem dX2_takeNumber_13 : decode cX2_takeNumber 13 = .ok (.if_icmp .ge 78, 3) := by decide +kernel
theorem dX2_takeNumber_16 : decode cX2_takeNumber 16 = .ok (.aload_n 0, 1) := by decide +kernel
theorem dX2_takeNumber_17 : decode cX2_takeNumber 17 = .ok (.getfield 25, 3) := by decide +kernel
theorem dX2_takeNumber_20 : decode cX2_takeNumber 20 = .ok (.sipush 150, 3) := by decide +kernel
theorem dX2_takeNumber_23 : decode cX2_takeNumber 23 = .ok (.if_icmp .ge 68, 3) := by decide +kernel
theorem dX2_takeNumber_26 : decode cX2_takeNumber 26 = .ok (.aload_n 0, 1) := by decide +kernel
theorem dX2_takeNumber_27 : decode cX2_takeNumber 27 = .ok (.getfield 9, 3) := by decide +kernel
theorem dX2_takeNumber_30 : decode cX2_takeNumber 30 = .ok (.aload_n 0, 1) := by decide +kernel
theorem dX2_takeNumber_31 : decode cX2_takeNumber 31 = .ok (.getfield 25, 3) := by decide +kernel
theorem dX2_takeNumber_34 : decode cX2_takeNumber 34 = .ok (.iaload, 1) := by decide +kernel
theorem dX2_takeNumber_35 : decode cX2_takeNumber 35 = .ok (.invokestatic 61, 3) := by decide +kernel
theorem dX2_takeNumber_38 : decode cX2_takeNumber 38 = .ok (.ifCond .eq 53, 3) := by decide +kernel
theorem dX2_takeNumber_41 : decode cX2_takeNumber 41 = .ok (.aload_n 0, 1) := by decide +kernel
theorem dX2_takeNumber_42 : decode cX2_takeNumber 42 = .ok (.getfield 25, 3) := by decide +kernel
theorem dX2_takeNumber_45 : decode cX2_takeNumber 45 = .ok (.aload_n 0, 1) := by decide +kernel
theorem dX2_takeNumber_46 : decode cX2_takeNumber 46 = .ok (.getfield 35, 3) := by decide +kernel
theorem dX2_takeNumber_49 : decode cX2_takeNumber 49 = .ok (.isub, 1) := by decide +kernel
theorem dX2_takeNumber_50 : decode cX2_takeNumber 50 = .ok (.iconst 2, 1) := by decide +kernel
theorem dX2_takeNumber_51 : decode cX2_takeNumber 51 = .ok (.if_icmp .ge 27, 3) := by decide +kernel
theorem dX2_takeNumber_54 : decode cX2_takeNumber 54 = .ok (.aload_n 0, 1) := by decide +kernel
theorem dX2_takeNumber_55 : decode cX2_takeNumber 55 = .ok (.bipush 10, 2) := by decide +kernel
theorem dX2_takeNumber_57 : decode cX2_takeNumber 57 = .ok (.aload_n 0, 1) := by decide +kernel
theorem dX2_takeNumber_58 : decode cX2_takeNumber 58 = .ok (.getfield 41, 3) := by decide +kernel
theorem dX2_takeNumber_61 : decode cX2_takeNumber 61 = .ok (.imul, 1) := by decide +kernel
theorem dX2_takeNumber_62 : decode cX2_takeNumber 62 = .ok (.aload_n 0, 1) := by decide +kernel
theorem dX2_takeNumber_63 : decode cX2_takeNumber 63 = .ok (.getfield 9, 3) := by decide +kernel
theorem dX2_takeNumber_66 : decode cX2_takeNumber 66 = .ok (.aload_n 0, 1) := by decide +kernel
theorem dX2_takeNumber_67 : decode cX2_takeNumber 67 = .ok (.getfield 25, 3) := by decide +kernel
theorem dX2_takeNumber_70 : decode cX2_takeNumber 70 = .ok (.iaload, 1) := by decide +kernel
theorem dX2_takeNumber_71 : decode cX2_takeNumber 71 = .ok (.iadd, 1) := by decide +kernel
theorem dX2_takeNumber_72 : decode cX2_takeNumber 72 = .ok (.bipush 48, 2) := by decide +kernel
theorem dX2_takeNumber_74 : decode cX2_takeNumber 74 = .ok (.isub, 1) := by decide +kernel
theorem dX2_takeNumber_75 : decode cX2_takeNumber 75 = .ok (.putfield 41, 3) := by decide +kernel
theorem dX2_takeNumber_78 : decode cX2_takeNumber 78 = .ok (.aload_n 0, 1) := by decide +kernel
theorem dX2_takeNumber_79 : decode cX2_takeNumber 79 = .ok (.dup, 1) := by decide +kernel
theorem dX2_takeNumber_80 : decode cX2_takeNumber 80 = .ok (.getfield 25, 3) := by decide +kernel
theorem dX2_takeNumber_83 : decode cX2_takeNumber 83 = .ok (.iconst 1, 1) := by decide +kernel
theorem dX2_takeNumber_84 : decode cX2_takeNumber 84 = .ok (.iadd, 1) := by decide +kernel
theorem dX2_takeNumber_85 : decode cX2_takeNumber 85 = .ok (.putfield 25, 3) := by decide +kernel
theorem dX2_takeNumber_88 : decode cX2_takeNumber 88 = .ok (.goto (-83), 3) := by decide +kernel
theorem dX2_takeNumber_91 : decode cX2_takeNumber 91 = .ok (.aload_n 0, 1) := by decide +kernel
theorem dX2_takeNumber_92 : decode cX2_takeNumber 92 = .ok (.aload_n 0, 1) := by decide +kernel
theorem dX2_takeNumber_93 : decode cX2_takeNumber 93 = .ok (.getfield 25, 3) := by decide +kernel
theorem dX2_takeNumber_96 : decode cX2_takeNumber 96 = .ok (.aload_n 0, 1) := by decide +kernel
theorem dX2_takeNumber_97 : decode cX2_takeNumber 97 = .ok (.getfield 35, 3) := by decide +kernel
theorem dX2_takeNumber_100 : decode cX2_takeNumber 100 = .ok (.isub, 1) := by decide +kernel
theorem dX2_takeNumber_101 : decode cX2_takeNumber 101 = .ok (.iconst 2, 1) := by decide +kernel
theorem dX2_takeNumber_102 : decode cX2_takeNumber 102 = .ok (.if_icmp .le 7, 3) := by decide +kernel
theorem dX2_takeNumber_105 : decode cX2_takeNumber 105 = .ok (.iconst 4, 1) := by decide +kernel
theorem dX2_takeNumber_106 : decode cX2_takeNumber 106 = .ok (.goto 4, 3) := by decide +kernel
theorem dX2_takeNumber_109 : decode cX2_takeNumber 109 = .ok (.iconst 2, 1) := by decide +kernel
theorem dX2_takeNumber_110 : decode cX2_takeNumber 110 = .ok (.putfield 38, 3) := by decide +kernel
theorem dX2_takeNumber_113 : decode cX2_takeNumber 113 = .ok (.return_, 1) := by decide +kernel
theorem dX2_isLetter_0 : decode cX2_isLetter 0 = .ok (.iload_n 0, 1) := by decide +kernel
theorem dX2_isLetter_1 : decode cX2_isLetter 1 = .ok (.bipush 97, 2) := by decide +kernel
theorem dX2_isLetter_3 : decode cX2_isLetter 3 = .ok (.bipush 122, 2) := by decide +kernel
theorem dX2_isLetter_5 : decode cX2_isLetter 5 = .ok (.invokestatic 73, 3) := by decide +kernel
theorem dX2_isLetter_8 : decode cX2_isLetter 8 = .ok (.ireturn, 1) := by decide +kernel
theorem dX2_isFigure_0 : decode cX2_isFigure 0 = .ok (.iload_n 0, 1) := by decide +kernel
theorem dX2_isFigure_1 : decode cX2_isFigure 1 = .ok (.bipush 48, 2) := by decide +kernel
theorem dX2_isFigure_3 : decode cX2_isFigure 3 = .ok (.bipush 57, 2) := by decide +kernel
theorem dX2_isFigure_5 : decode cX2_isFigure 5 = .ok (.invokestatic 73, 3) := by decide +kernel
theorem dX2_isFigure_8 : decode cX2_isFigure 8 = .ok (.ireturn, 1) := by decide +kernel
theorem dX2_refusedOn_0 : decode cX2_refusedOn 0 = .ok (.iconst 0, 1) := by decide +kernel
theorem dX2_refusedOn_1 : decode cX2_refusedOn 1 = .ok (.istore_n 2, 1) := by decide +kernel
theorem dX2_refusedOn_2 : decode cX2_refusedOn 2 = .ok (.iload_n 2, 1) := by decide +kernel
theorem dX2_refusedOn_3 : decode cX2_refusedOn 3 = .ok (.aload_n 0, 1) := by decide +kernel
theorem dX2_refusedOn_4 : decode cX2_refusedOn 4 = .ok (.getfield 21, 3) := by decide +kernel
theorem dX2_refusedOn_7 : decode cX2_refusedOn 7 = .ok (.if_icmp .ge 26, 3) := by decide +kernel
theorem dX2_refusedOn_10 : decode cX2_refusedOn 10 = .ok (.iload_n 2, 1) := by decide +kernel
theorem dX2_refusedOn_11 : decode cX2_refusedOn 11 = .ok (.bipush 25, 2) := by decide +kernel
theorem dX2_refusedOn_13 : decode cX2_refusedOn 13 = .ok (.if_icmp .ge 20, 3) := by decide +kernel
theorem dX2_refusedOn_16 : decode cX2_refusedOn 16 = .ok (.aload_n 0, 1) := by decide +kernel
theorem dX2_refusedOn_17 : decode cX2_refusedOn 17 = .ok (.aload_n 1, 1) := by decide +kernel
theorem dX2_refusedOn_18 : decode cX2_refusedOn 18 = .ok (.iload_n 2, 1) := by decide +kernel
theorem dX2_refusedOn_19 : decode cX2_refusedOn 19 = .ok (.invokevirtual 77, 3) := by decide +kernel
theorem dX2_refusedOn_22 : decode cX2_refusedOn 22 = .ok (.ifCond .ne 5, 3) := by decide +kernel
theorem dX2_refusedOn_25 : decode cX2_refusedOn 25 = .ok (.iload_n 2, 1) := by decide +kernel
theorem dX2_refusedOn_26 : decode cX2_refusedOn 26 = .ok (.ireturn, 1) := by decide +kernel
theorem dX2_refusedOn_27 : decode cX2_refusedOn 27 = .ok (.iinc 2 1, 3) := by decide +kernel
theorem dX2_refusedOn_30 : decode cX2_refusedOn 30 = .ok (.goto (-28), 3) := by decide +kernel
theorem dX2_refusedOn_33 : decode cX2_refusedOn 33 = .ok (.iconst (-1), 1) := by decide +kernel
theorem dX2_refusedOn_34 : decode cX2_refusedOn 34 = .ok (.ireturn, 1) := by decide +kernel
theorem dX2_isToldTo_0 : decode cX2_isToldTo 0 = .ok (.iload_n 2, 1) := by decide +kernel
theorem dX2_isToldTo_1 : decode cX2_isToldTo 1 = .ok (.iconst 4, 1) := by decide +kernel
theorem dX2_isToldTo_2 : decode cX2_isToldTo 2 = .ok (.imul, 1) := by decide +kernel
theorem dX2_isToldTo_3 : decode cX2_isToldTo 3 = .ok (.istore_n 3, 1) := by decide +kernel
theorem dX2_isToldTo_4 : decode cX2_isToldTo 4 = .ok (.aload_n 0, 1) := by decide +kernel
theorem dX2_isToldTo_5 : decode cX2_isToldTo 5 = .ok (.getfield 18, 3) := by decide +kernel
theorem dX2_isToldTo_8 : decode cX2_isToldTo 8 = .ok (.iload_n 3, 1) := by decide +kernel
theorem dX2_isToldTo_9 : decode cX2_isToldTo 9 = .ok (.iaload, 1) := by decide +kernel
theorem dX2_isToldTo_10 : decode cX2_isToldTo 10 = .ok (.istore 4, 2) := by decide +kernel
theorem dX2_isToldTo_12 : decode cX2_isToldTo 12 = .ok (.aload_n 0, 1) := by decide +kernel
theorem dX2_isToldTo_13 : decode cX2_isToldTo 13 = .ok (.getfield 18, 3) := by decide +kernel
theorem dX2_isToldTo_16 : decode cX2_isToldTo 16 = .ok (.iload_n 3, 1) := by decide +kernel
theorem dX2_isToldTo_17 : decode cX2_isToldTo 17 = .ok (.iconst 1, 1) := by decide +kernel
theorem dX2_isToldTo_18 : decode cX2_isToldTo 18 = .ok (.iadd, 1) := by decide +kernel
theorem dX2_isToldTo_19 : decode cX2_isToldTo 19 = .ok (.iaload, 1) := by decide +kernel
theorem dX2_isToldTo_20 : decode cX2_isToldTo 20 = .ok (.istore 5, 2) := by decide +kernel
theorem dX2_isToldTo_22 : decode cX2_isToldTo 22 = .ok (.aload_n 0, 1) := by decide +kernel
theorem dX2_isToldTo_23 : decode cX2_isToldTo 23 = .ok (.getfield 15, 3) := by decide +kernel
theorem dX2_isToldTo_26 : decode cX2_isToldTo 26 = .ok (.iload_n 2, 1) := by decide +kernel
theorem dX2_isToldTo_27 : decode cX2_isToldTo 27 = .ok (.iaload, 1) := by decide +kernel
theorem dX2_isToldTo_28 : decode cX2_isToldTo 28 = .ok (.lookupswitch 71 #[(0, 28), (1, 48)], 28) := by decide +kernel
theorem dX2_isToldTo_56 : decode cX2_isToldTo 56 = .ok (.iload 4, 2) := by decide +kernel
theorem dX2_isToldTo_58 : decode cX2_isToldTo 58 = .ok (.bipush 100, 2) := by decide +kernel
theorem dX2_isToldTo_60 : decode cX2_isToldTo 60 = .ok (.invokestatic 44, 3) := by decide +kernel
theorem dX2_isToldTo_63 : decode cX2_isToldTo 63 = .ok (.ifCond .ne 5, 3) := by decide +kernel
theorem dX2_isToldTo_66 : decode cX2_isToldTo 66 = .ok (.iconst 0, 1) := by decide +kernel
theorem dX2_isToldTo_67 : decode cX2_isToldTo 67 = .ok (.ireturn, 1) := by decide +kernel
theorem dX2_isToldTo_68 : decode cX2_isToldTo 68 = .ok (.aload_n 1, 1) := by decide +kernel
theorem dX2_isToldTo_69 : decode cX2_isToldTo 69 = .ok (.iload 4, 2) := by decide +kernel
theorem dX2_isToldTo_71 : decode cX2_isToldTo 71 = .ok (.invokevirtual 81, 3) := by decide +kernel
theorem dX2_isToldTo_74 : decode cX2_isToldTo 74 = .ok (.iconst 1, 1) := by decide +kernel
theorem dX2_isToldTo_75 : decode cX2_isToldTo 75 = .ok (.ireturn, 1) := by decide +kernel
theorem dX2_isToldTo_76 : decode cX2_isToldTo 76 = .ok (.iload 4, 2) := by decide +kernel
theorem dX2_isToldTo_78 : decode cX2_isToldTo 78 = .ok (.iload 5, 2) := by decide +kernel
theorem dX2_isToldTo_80 : decode cX2_isToldTo 80 = .ok (.invokestatic 87, 3) := by decide +kernel
theorem dX2_isToldTo_83 : decode cX2_isToldTo 83 = .ok (.ifCond .ne 5, 3) := by decide +kernel
theorem dX2_isToldTo_86 : decode cX2_isToldTo 86 = .ok (.iconst 0, 1) := by decide +kernel
theorem dX2_isToldTo_87 : decode cX2_isToldTo 87 = .ok (.ireturn, 1) := by decide +kernel
theorem dX2_isToldTo_88 : decode cX2_isToldTo 88 = .ok (.aload_n 1, 1) := by decide +kernel
theorem dX2_isToldTo_89 : decode cX2_isToldTo 89 = .ok (.getfield 90, 3) := by decide +kernel
theorem dX2_isToldTo_92 : decode cX2_isToldTo 92 = .ok (.iload 4, 2) := by decide +kernel
theorem dX2_isToldTo_94 : decode cX2_isToldTo 94 = .ok (.iload 5, 2) := by decide +kernel
theorem dX2_isToldTo_96 : decode cX2_isToldTo 96 = .ok (.iastore, 1) := by decide +kernel
theorem dX2_isToldTo_97 : decode cX2_isToldTo 97 = .ok (.iconst 1, 1) := by decide +kernel
theorem dX2_isToldTo_98 : decode cX2_isToldTo 98 = .ok (.ireturn, 1) := by decide +kernel
theorem dX2_isToldTo_99 : decode cX2_isToldTo 99 = .ok (.aload_n 1, 1) := by decide +kernel
theorem dX2_isToldTo_100 : decode cX2_isToldTo 100 = .ok (.iload 4, 2) := by decide +kernel
theorem dX2_isToldTo_102 : decode cX2_isToldTo 102 = .ok (.iload 5, 2) := by decide +kernel
theorem dX2_isToldTo_104 : decode cX2_isToldTo 104 = .ok (.aload_n 0, 1) := by decide +kernel
theorem dX2_isToldTo_105 : decode cX2_isToldTo 105 = .ok (.getfield 18, 3) := by decide +kernel
theorem dX2_isToldTo_108 : decode cX2_isToldTo 108 = .ok (.iload_n 3, 1) := by decide +kernel
theorem dX2_isToldTo_109 : decode cX2_isToldTo 109 = .ok (.iconst 2, 1) := by decide +kernel
theorem dX2_isToldTo_110 : decode cX2_isToldTo 110 = .ok (.iadd, 1) := by decide +kernel
theorem dX2_isToldTo_111 : decode cX2_isToldTo 111 = .ok (.iaload, 1) := by decide +kernel
theorem dX2_isToldTo_112 : decode cX2_isToldTo 112 = .ok (.aload_n 0, 1) := by decide +kernel
theorem dX2_isToldTo_113 : decode cX2_isToldTo 113 = .ok (.getfield 18, 3) := by decide +kernel
theorem dX2_isToldTo_116 : decode cX2_isToldTo 116 = .ok (.iload_n 3, 1) := by decide +kernel
theorem dX2_isToldTo_117 : decode cX2_isToldTo 117 = .ok (.iconst 3, 1) := by decide +kernel
theorem dX2_isToldTo_118 : decode cX2_isToldTo 118 = .ok (.iadd, 1) := by decide +kernel
theorem dX2_isToldTo_119 : decode cX2_isToldTo 119 = .ok (.iaload, 1) := by decide +kernel
theorem dX2_isToldTo_120 : decode cX2_isToldTo 120 = .ok (.invokevirtual 93, 3) := by decide +kernel
theorem dX2_isToldTo_123 : decode cX2_isToldTo 123 = .ok (.ifCond .eq 5, 3) := by decide +kernel
theorem dX2_isToldTo_126 : decode cX2_isToldTo 126 = .ok (.iconst 0, 1) := by decide +kernel
theorem dX2_isToldTo_127 : decode cX2_isToldTo 127 = .ok (.ireturn, 1) := by decide +kernel
theorem dX2_isToldTo_128 : decode cX2_isToldTo 128 = .ok (.aload_n 1, 1) := by decide +kernel
theorem dX2_isToldTo_129 : decode cX2_isToldTo 129 = .ok (.iload 4, 2) := by decide +kernel
theorem dX2_isToldTo_131 : decode cX2_isToldTo 131 = .ok (.iload 5, 2) := by decide +kernel
theorem dX2_isToldTo_133 : decode cX2_isToldTo 133 = .ok (.aload_n 0, 1) := by decide +kernel
theorem dX2_isToldTo_134 : decode cX2_isToldTo 134 = .ok (.getfield 18, 3) := by decide +kernel
theorem dX2_isToldTo_137 : decode cX2_isToldTo 137 = .ok (.iload_n 3, 1) := by decide +kernel
theorem dX2_isToldTo_138 : decode cX2_isToldTo 138 = .ok (.iconst 2, 1) := by decide +kernel
theorem dX2_isToldTo_139 : decode cX2_isToldTo 139 = .ok (.iadd, 1) := by decide +kernel
theorem dX2_isToldTo_140 : decode cX2_isToldTo 140 = .ok (.iaload, 1) := by decide +kernel
theorem dX2_isToldTo_141 : decode cX2_isToldTo 141 = .ok (.aload_n 0, 1) := by decide +kernel
theorem dX2_isToldTo_142 : decode cX2_isToldTo 142 = .ok (.getfield 18, 3) := by decide +kernel
theorem dX2_isToldTo_145 : decode cX2_isToldTo 145 = .ok (.iload_n 3, 1) := by decide +kernel
theorem dX2_isToldTo_146 : decode cX2_isToldTo 146 = .ok (.iconst 3, 1) := by decide +kernel
theorem dX2_isToldTo_147 : decode cX2_isToldTo 147 = .ok (.iadd, 1) := by decide +kernel
theorem dX2_isToldTo_148 : decode cX2_isToldTo 148 = .ok (.iaload, 1) := by decide +kernel
theorem dX2_isToldTo_149 : decode cX2_isToldTo 149 = .ok (.invokevirtual 97, 3) := by decide +kernel
theorem dX2_isToldTo_152 : decode cX2_isToldTo 152 = .ok (.pop, 1) := by decide +kernel
theorem dX2_isToldTo_153 : decode cX2_isToldTo 153 = .ok (.iconst 1, 1) := by decide +kernel
theorem dX2_isToldTo_154 : decode cX2_isToldTo 154 = .ok (.ireturn, 1) := by decide +kernel
