theorem dX4_ownerIn_89 : decode cX4_ownerIn 89 = .ok (.iload 5, 2) := by decide +kernel
theorem dX4_ownerIn_91 : decode cX4_ownerIn 91 = .ok (.ifCond .eq 7, 3) := by decide +kernel
theorem dX4_ownerIn_94 : decode cX4_ownerIn 94 = .ok (.iconst (-1), 1) := by decide +kernel
theorem dX4_ownerIn_95 : decode cX4_ownerIn 95 = .ok (.goto 4, 3) := by decide +kernel
theorem dX4_ownerIn_98 : decode cX4_ownerIn 98 = .ok (.iload_n 3, 1) := by decide +kernel
theorem dX4_ownerIn_99 : decode cX4_ownerIn 99 = .ok (.ireturn, 1) := by decide +kernel
theorem dX4_isFamily_0 : decode cX4_isFamily 0 = .ok (.iload_n 0, 1) := by decide +kernel
theorem dX4_isFamily_1 : decode cX4_isFamily 1 = .ok (.i2l, 1) := by decide +kernel
theorem dX4_isFamily_2 : decode cX4_isFamily 2 = .ok (.lconst 0, 1) := by decide +kernel
theorem dX4_isFamily_3 : decode cX4_isFamily 3 = .ok (.ldc2_w 55, 3) := by decide +kernel
theorem dX4_isFamily_6 : decode cX4_isFamily 6 = .ok (.invokestatic 45, 3) := by decide +kernel
theorem dX4_isFamily_9 : decode cX4_isFamily 9 = .ok (.ireturn, 1) := by decide +kernel
theorem dX4_isLaw_0 : decode cX4_isLaw 0 = .ok (.iload_n 0, 1) := by decide +kernel
theorem dX4_isLaw_1 : decode cX4_isLaw 1 = .ok (.i2l, 1) := by decide +kernel
theorem dX4_isLaw_2 : decode cX4_isLaw 2 = .ok (.lconst 0, 1) := by decide +kernel
theorem dX4_isLaw_3 : decode cX4_isLaw 3 = .ok (.ldc2_w 176, 3) := by decide +kernel
theorem dX4_isLaw_6 : decode cX4_isLaw 6 = .ok (.invokestatic 45, 3) := by decide +kernel
theorem dX4_isLaw_9 : decode cX4_isLaw 9 = .ok (.ireturn, 1) := by decide +kernel
theorem dX4_claims_0 : decode cX4_claims 0 = .ok (.iload_n 1, 1) := by decide +kernel
theorem dX4_claims_1 : decode cX4_claims 1 = .ok (.invokestatic 178, 3) := by decide +kernel
theorem dX4_claims_4 : decode cX4_claims 4 = .ok (.ifCond .eq 20, 3) := by decide +kernel
theorem dX4_claims_7 : decode cX4_claims 7 = .ok (.iload_n 2, 1) := by decide +kernel
theorem dX4_claims_8 : decode cX4_claims 8 = .ok (.invokestatic 181, 3) := by decide +kernel
theorem dX4_claims_11 : decode cX4_claims 11 = .ok (.ifCond .eq 13, 3) := by decide +kernel
theorem dX4_claims_14 : decode cX4_claims 14 = .ok (.aload_n 0, 1) := by decide +kernel
theorem dX4_claims_15 : decode cX4_claims 15 = .ok (.iconst 0, 1) := by decide +kernel
theorem dX4_claims_16 : decode cX4_claims 16 = .ok (.iload_n 1, 1) := by decide +kernel
theorem dX4_claims_17 : decode cX4_claims 17 = .ok (.iload_n 2, 1) := by decide +kernel
theorem dX4_claims_18 : decode cX4_claims 18 = .ok (.invokevirtual 173, 3) := by decide +kernel
theorem dX4_claims_21 : decode cX4_claims 21 = .ok (.goto 7, 3) := by decide +kernel
theorem dX4_claims_24 : decode cX4_claims 24 = .ok (.aload_n 0, 1) := by decide +kernel
theorem dX4_claims_25 : decode cX4_claims 25 = .ok (.invokevirtual 65, 3) := by decide +kernel
theorem dX4_claims_28 : decode cX4_claims 28 = .ok (.ireturn, 1) := by decide +kernel
theorem dX4_passesMany_0 : decode cX4_passesMany 0 = .ok (.aload_n 0, 1) := by decide +kernel
theorem dX4_passesMany_1 : decode cX4_passesMany 1 = .ok (.invokevirtual 184, 3) := by decide +kernel
theorem dX4_passesMany_4 : decode cX4_passesMany 4 = .ok (.iconst 0, 1) := by decide +kernel
theorem dX4_passesMany_5 : decode cX4_passesMany 5 = .ok (.istore_n 2, 1) := by decide +kernel
theorem dX4_passesMany_6 : decode cX4_passesMany 6 = .ok (.iload_n 2, 1) := by decide +kernel
theorem dX4_passesMany_7 : decode cX4_passesMany 7 = .ok (.iload_n 1, 1) := by decide +kernel
theorem dX4_passesMany_8 : decode cX4_passesMany 8 = .ok (.if_icmp .ge 17, 3) := by decide +kernel
theorem dX4_passesMany_11 : decode cX4_passesMany 11 = .ok (.aload_n 0, 1) := by decide +kernel
theorem dX4_passesMany_12 : decode cX4_passesMany 12 = .ok (.sipush 3273, 3) := by decide +kernel
theorem dX4_passesMany_15 : decode cX4_passesMany 15 = .ok (.iconst 1, 1) := by decide +kernel
theorem dX4_passesMany_16 : decode cX4_passesMany 16 = .ok (.invokevirtual 103, 3) := by decide +kernel
theorem dX4_passesMany_19 : decode cX4_passesMany 19 = .ok (.iinc 2 1, 3) := by decide +kernel
theorem dX4_passesMany_22 : decode cX4_passesMany 22 = .ok (.goto (-16), 3) := by decide +kernel
theorem dX4_passesMany_25 : decode cX4_passesMany 25 = .ok (.return_, 1) := by decide +kernel
theorem dX4_owner_0 : decode cX4_owner 0 = .ok (.iload_n 1, 1) := by decide +kernel
theorem dX4_owner_1 : decode cX4_owner 1 = .ok (.invokestatic 181, 3) := by decide +kernel
theorem dX4_owner_4 : decode cX4_owner 4 = .ok (.ifCond .eq 15, 3) := by decide +kernel
theorem dX4_owner_7 : decode cX4_owner 7 = .ok (.iload_n 2, 1) := by decide +kernel
theorem dX4_owner_8 : decode cX4_owner 8 = .ok (.i2l, 1) := by decide +kernel
theorem dX4_owner_9 : decode cX4_owner 9 = .ok (.lconst 0, 1) := by decide +kernel
theorem dX4_owner_10 : decode cX4_owner 10 = .ok (.ldc2_w 187, 3) := by decide +kernel
theorem dX4_owner_13 : decode cX4_owner 13 = .ok (.invokestatic 45, 3) := by decide +kernel
theorem dX4_owner_16 : decode cX4_owner 16 = .ok (.ifCond .ne 8, 3) := by decide +kernel
theorem dX4_owner_19 : decode cX4_owner 19 = .ok (.aload_n 0, 1) := by decide +kernel
theorem dX4_owner_20 : decode cX4_owner 20 = .ok (.invokevirtual 65, 3) := by decide +kernel
theorem dX4_owner_23 : decode cX4_owner 23 = .ok (.ireturn, 1) := by decide +kernel
theorem dX4_owner_24 : decode cX4_owner 24 = .ok (.aload_n 0, 1) := by decide +kernel
theorem dX4_owner_25 : decode cX4_owner 25 = .ok (.iload_n 2, 1) := by decide +kernel
theorem dX4_owner_26 : decode cX4_owner 26 = .ok (.invokevirtual 189, 3) := by decide +kernel
theorem dX4_owner_29 : decode cX4_owner 29 = .ok (.aload_n 0, 1) := by decide +kernel
theorem dX4_owner_30 : decode cX4_owner 30 = .ok (.sipush 3273, 3) := by decide +kernel
theorem dX4_owner_33 : decode cX4_owner 33 = .ok (.iload_n 1, 1) := by decide +kernel
theorem dX4_owner_34 : decode cX4_owner 34 = .ok (.invokevirtual 193, 3) := by decide +kernel
theorem dX4_owner_37 : decode cX4_owner 37 = .ok (.ireturn, 1) := by decide +kernel
theorem dX4_laws_0 : decode cX4_laws 0 = .ok (.iload_n 1, 1) := by decide +kernel
theorem dX4_laws_1 : decode cX4_laws 1 = .ok (.invokestatic 178, 3) := by decide +kernel
theorem dX4_laws_4 : decode cX4_laws 4 = .ok (.ifCond .ne 8, 3) := by decide +kernel
theorem dX4_laws_7 : decode cX4_laws 7 = .ok (.aload_n 0, 1) := by decide +kernel
theorem dX4_laws_8 : decode cX4_laws 8 = .ok (.invokevirtual 65, 3) := by decide +kernel
theorem dX4_laws_11 : decode cX4_laws 11 = .ok (.ireturn, 1) := by decide +kernel
theorem dX4_laws_12 : decode cX4_laws 12 = .ok (.iconst 0, 1) := by decide +kernel
theorem dX4_laws_13 : decode cX4_laws 13 = .ok (.istore_n 2, 1) := by decide +kernel
theorem dX4_laws_14 : decode cX4_laws 14 = .ok (.iconst 0, 1) := by decide +kernel
theorem dX4_laws_15 : decode cX4_laws 15 = .ok (.istore_n 3, 1) := by decide +kernel
theorem dX4_laws_16 : decode cX4_laws 16 = .ok (.iload_n 3, 1) := by decide +kernel
theorem dX4_laws_17 : decode cX4_laws 17 = .ok (.iconst 4, 1) := by decide +kernel
theorem dX4_laws_18 : decode cX4_laws 18 = .ok (.if_icmp .ge 29, 3) := by decide +kernel
theorem dX4_laws_21 : decode cX4_laws 21 = .ok (.iload_n 2, 1) := by decide +kernel
theorem dX4_laws_22 : decode cX4_laws 22 = .ok (.aload_n 0, 1) := by decide +kernel
theorem dX4_laws_23 : decode cX4_laws 23 = .ok (.iconst 0, 1) := by decide +kernel
theorem dX4_laws_24 : decode cX4_laws 24 = .ok (.iload_n 3, 1) := by decide +kernel
theorem dX4_laws_25 : decode cX4_laws 25 = .ok (.invokevirtual 193, 3) := by decide +kernel
theorem dX4_laws_28 : decode cX4_laws 28 = .ok (.iload_n 1, 1) := by decide +kernel
theorem dX4_laws_29 : decode cX4_laws 29 = .ok (.if_icmp .ne 9, 3) := by decide +kernel
theorem dX4_laws_32 : decode cX4_laws 32 = .ok (.iconst 1, 1) := by decide +kernel
theorem dX4_laws_33 : decode cX4_laws 33 = .ok (.iload_n 3, 1) := by decide +kernel
theorem dX4_laws_34 : decode cX4_laws 34 = .ok (.ishl, 1) := by decide +kernel
theorem dX4_laws_35 : decode cX4_laws 35 = .ok (.goto 4, 3) := by decide +kernel
theorem dX4_laws_38 : decode cX4_laws 38 = .ok (.iconst 0, 1) := by decide +kernel
theorem dX4_laws_39 : decode cX4_laws 39 = .ok (.ior, 1) := by decide +kernel
theorem dX4_laws_40 : decode cX4_laws 40 = .ok (.istore_n 2, 1) := by decide +kernel
theorem dX4_laws_41 : decode cX4_laws 41 = .ok (.iinc 3 1, 3) := by decide +kernel
theorem dX4_laws_44 : decode cX4_laws 44 = .ok (.goto (-28), 3) := by decide +kernel
theorem dX4_laws_47 : decode cX4_laws 47 = .ok (.iload_n 2, 1) := by decide +kernel
theorem dX4_laws_48 : decode cX4_laws 48 = .ok (.ireturn, 1) := by decide +kernel
theorem dX4_tells_0 : decode cX4_tells 0 = .ok (.lload_n 1, 1) := by decide +kernel
theorem dX4_tells_1 : decode cX4_tells 1 = .ok (.lstore 5, 2) := by decide +kernel
theorem dX4_tells_3 : decode cX4_tells 3 = .ok (.lload_n 3, 1) := by decide +kernel
theorem dX4_tells_4 : decode cX4_tells 4 = .ok (.lstore 7, 2) := by decide +kernel
theorem dX4_tells_6 : decode cX4_tells 6 = .ok (.lload 7, 2) := by decide +kernel
theorem dX4_tells_8 : decode cX4_tells 8 = .ok (.lconst 0, 1) := by decide +kernel
theorem dX4_tells_9 : decode cX4_tells 9 = .ok (.lcmp, 1) := by decide +kernel
theorem dX4_tells_10 : decode cX4_tells 10 = .ok (.ifCond .eq 21, 3) := by decide +kernel
theorem dX4_tells_13 : decode cX4_tells 13 = .ok (.lload 5, 2) := by decide +kernel
theorem dX4_tells_15 : decode cX4_tells 15 = .ok (.lload 7, 2) := by decide +kernel
theorem dX4_tells_17 : decode cX4_tells 17 = .ok (.lrem, 1) := by decide +kernel
theorem dX4_tells_18 : decode cX4_tells 18 = .ok (.lstore 9, 2) := by decide +kernel
theorem dX4_tells_20 : decode cX4_tells 20 = .ok (.lload 7, 2) := by decide +kernel
theorem dX4_tells_22 : decode cX4_tells 22 = .ok (.lstore 5, 2) := by decide +kernel
theorem dX4_tells_24 : decode cX4_tells 24 = .ok (.lload 9, 2) := by decide +kernel
theorem dX4_tells_26 : decode cX4_tells 26 = .ok (.lstore 7, 2) := by decide +kernel
theorem dX4_tells_28 : decode cX4_tells 28 = .ok (.goto (-22), 3) := by decide +kernel
theorem dX4_tells_31 : decode cX4_tells 31 = .ok (.aload_n 0, 1) := by decide +kernel
theorem dX4_tells_32 : decode cX4_tells 32 = .ok (.lload_n 1, 1) := by decide +kernel
theorem dX4_tells_33 : decode cX4_tells 33 = .ok (.lload 5, 2) := by decide +kernel
theorem dX4_tells_35 : decode cX4_tells 35 = .ok (.ldiv, 1) := by decide +kernel
theorem dX4_tells_36 : decode cX4_tells 36 = .ok (.putfield 196, 3) := by decide +kernel
theorem dX4_tells_39 : decode cX4_tells 39 = .ok (.aload_n 0, 1) := by decide +kernel
theorem dX4_tells_40 : decode cX4_tells 40 = .ok (.lload_n 3, 1) := by decide +kernel
theorem dX4_tells_41 : decode cX4_tells 41 = .ok (.lload 5, 2) := by decide +kernel
theorem dX4_tells_43 : decode cX4_tells 43 = .ok (.ldiv, 1) := by decide +kernel
theorem dX4_tells_44 : decode cX4_tells 44 = .ok (.putfield 23, 3) := by decide +kernel
theorem dX4_tells_47 : decode cX4_tells 47 = .ok (.iconst 1, 1) := by decide +kernel
theorem dX4_tells_48 : decode cX4_tells 48 = .ok (.ireturn, 1) := by decide +kernel
theorem dX4_allClaims_0 : decode cX4_allClaims 0 = .ok (.aload_n 0, 1) := by decide +kernel
theorem dX4_allClaims_1 : decode cX4_allClaims 1 = .ok (.iload_n 1, 1) := by decide +kernel
theorem dX4_allClaims_2 : decode cX4_allClaims 2 = .ok (.iconst 0, 1) := by decide +kernel
theorem dX4_allClaims_3 : decode cX4_allClaims 3 = .ok (.iload_n 2, 1) := by decide +kernel
theorem dX4_allClaims_4 : decode cX4_allClaims 4 = .ok (.invokevirtual 173, 3) := by decide +kernel
theorem dX4_allClaims_7 : decode cX4_allClaims 7 = .ok (.aload_n 0, 1) := by decide +kernel
theorem dX4_allClaims_8 : decode cX4_allClaims 8 = .ok (.iload_n 1, 1) := by decide +kernel
theorem dX4_allClaims_9 : decode cX4_allClaims 9 = .ok (.iconst 1, 1) := by decide +kernel
theorem dX4_allClaims_10 : decode cX4_allClaims 10 = .ok (.iload_n 2, 1) := by decide +kernel
theorem dX4_allClaims_11 : decode cX4_allClaims 11 = .ok (.invokevirtual 173, 3) := by decide +kernel
theorem dX4_allClaims_14 : decode cX4_allClaims 14 = .ok (.iadd, 1) := by decide +kernel
theorem dX4_allClaims_15 : decode cX4_allClaims 15 = .ok (.aload_n 0, 1) := by decide +kernel
theorem dX4_allClaims_16 : decode cX4_allClaims 16 = .ok (.iload_n 1, 1) := by decide +kernel
theorem dX4_allClaims_17 : decode cX4_allClaims 17 = .ok (.iconst 2, 1) := by decide +kernel
theorem dX4_allClaims_18 : decode cX4_allClaims 18 = .ok (.iload_n 2, 1) := by decide +kernel
theorem dX4_allClaims_19 : decode cX4_allClaims 19 = .ok (.invokevirtual 173, 3) := by decide +kernel
theorem dX4_allClaims_22 : decode cX4_allClaims 22 = .ok (.iadd, 1) := by decide +kernel
theorem dX4_allClaims_23 : decode cX4_allClaims 23 = .ok (.ireturn, 1) := by decide +kernel
theorem dX4_share_0 : decode cX4_share 0 = .ok (.iload_n 1, 1) := by decide +kernel
theorem dX4_share_1 : decode cX4_share 1 = .ok (.invokestatic 178, 3) := by decide +kernel
theorem dX4_share_4 : decode cX4_share 4 = .ok (.ifCond .ne 8, 3) := by decide +kernel
theorem dX4_share_7 : decode cX4_share 7 = .ok (.aload_n 0, 1) := by decide +kernel
theorem dX4_share_8 : decode cX4_share 8 = .ok (.invokevirtual 65, 3) := by decide +kernel
theorem dX4_share_11 : decode cX4_share 11 = .ok (.ireturn, 1) := by decide +kernel
theorem dX4_share_12 : decode cX4_share 12 = .ok (.aload_n 0, 1) := by decide +kernel
theorem dX4_share_13 : decode cX4_share 13 = .ok (.iconst 0, 1) := by decide +kernel
theorem dX4_share_14 : decode cX4_share 14 = .ok (.iconst 0, 1) := by decide +kernel
theorem dX4_share_15 : decode cX4_share 15 = .ok (.invokevirtual 199, 3) := by decide +kernel
theorem dX4_share_18 : decode cX4_share 18 = .ok (.istore_n 2, 1) := by decide +kernel
theorem dX4_share_19 : decode cX4_share 19 = .ok (.aload_n 0, 1) := by decide +kernel
theorem dX4_share_20 : decode cX4_share 20 = .ok (.aload_n 0, 1) := by decide +kernel
theorem dX4_share_21 : decode cX4_share 21 = .ok (.iconst 0, 1) := by decide +kernel
theorem dX4_share_22 : decode cX4_share 22 = .ok (.iload_n 1, 1) := by decide +kernel
theorem dX4_share_23 : decode cX4_share 23 = .ok (.iconst 0, 1) := by decide +kernel
theorem dX4_share_24 : decode cX4_share 24 = .ok (.invokevirtual 173, 3) := by decide +kernel
theorem dX4_share_27 : decode cX4_share 27 = .ok (.i2l, 1) := by decide +kernel
theorem dX4_share_28 : decode cX4_share 28 = .ok (.iload_n 2, 1) := by decide +kernel
theorem dX4_share_29 : decode cX4_share 29 = .ok (.ifCond .ne 7, 3) := by decide +kernel
theorem dX4_share_32 : decode cX4_share 32 = .ok (.lconst 1, 1) := by decide +kernel
theorem dX4_share_33 : decode cX4_share 33 = .ok (.goto 5, 3) := by decide +kernel
theorem dX4_share_36 : decode cX4_share 36 = .ok (.iload_n 2, 1) := by decide +kernel
theorem dX4_share_37 : decode cX4_share 37 = .ok (.i2l, 1) := by decide +kernel
theorem dX4_share_38 : decode cX4_share 38 = .ok (.invokevirtual 202, 3) := by decide +kernel
theorem dX4_share_41 : decode cX4_share 41 = .ok (.ireturn, 1) := by decide +kernel
theorem dX4_twos_0 : decode cX4_twos 0 = .ok (.iload_n 1, 1) := by decide +kernel
theorem dX4_twos_1 : decode cX4_twos 1 = .ok (.invokestatic 181, 3) := by decide +kernel
theorem dX4_twos_4 : decode cX4_twos 4 = .ok (.ifCond .ne 8, 3) := by decide +kernel
theorem dX4_twos_7 : decode cX4_twos 7 = .ok (.aload_n 0, 1) := by decide +kernel
theorem dX4_twos_8 : decode cX4_twos 8 = .ok (.invokevirtual 65, 3) := by decide +kernel
theorem dX4_twos_11 : decode cX4_twos 11 = .ok (.ireturn, 1) := by decide +kernel
theorem dX4_twos_12 : decode cX4_twos 12 = .ok (.aload_n 0, 1) := by decide +kernel
theorem dX4_twos_13 : decode cX4_twos 13 = .ok (.invokevirtual 184, 3) := by decide +kernel
theorem dX4_twos_16 : decode cX4_twos 16 = .ok (.iconst 0, 1) := by decide +kernel
theorem dX4_twos_17 : decode cX4_twos 17 = .ok (.istore_n 2, 1) := by decide +kernel
theorem dX4_twos_18 : decode cX4_twos 18 = .ok (.iload_n 2, 1) := by decide +kernel
theorem dX4_twos_19 : decode cX4_twos 19 = .ok (.bipush 41, 2) := by decide +kernel
theorem dX4_twos_21 : decode cX4_twos 21 = .ok (.if_icmp .ge 42, 3) := by decide +kernel
theorem dX4_twos_24 : decode cX4_twos 24 = .ok (.aload_n 0, 1) := by decide +kernel
theorem dX4_twos_25 : decode cX4_twos 25 = .ok (.sipush 3273, 3) := by decide +kernel
theorem dX4_twos_28 : decode cX4_twos 28 = .ok (.iload_n 1, 1) := by decide +kernel
theorem dX4_twos_29 : decode cX4_twos 29 = .ok (.invokevirtual 193, 3) := by decide +kernel
theorem dX4_twos_32 : decode cX4_twos 32 = .ok (.iconst (-1), 1) := by decide +kernel
theorem dX4_twos_33 : decode cX4_twos 33 = .ok (.if_icmp .ne 16, 3) := by decide +kernel
theorem dX4_twos_36 : decode cX4_twos 36 = .ok (.aload_n 0, 1) := by decide +kernel
theorem dX4_twos_37 : decode cX4_twos 37 = .ok (.sipush 3273, 3) := by decide +kernel
theorem dX4_twos_40 : decode cX4_twos 40 = .ok (.iload_n 1, 1) := by decide +kernel
theorem dX4_twos_41 : decode cX4_twos 41 = .ok (.invokevirtual 199, 3) := by decide +kernel
theorem dX4_twos_44 : decode cX4_twos 44 = .ok (.ifCond .le 5, 3) := by decide +kernel
theorem dX4_twos_47 : decode cX4_twos 47 = .ok (.iload_n 2, 1) := by decide +kernel
theorem dX4_twos_48 : decode cX4_twos 48 = .ok (.ireturn, 1) := by decide +kernel
theorem dX4_twos_49 : decode cX4_twos 49 = .ok (.aload_n 0, 1) := by decide +kernel
theorem dX4_twos_50 : decode cX4_twos 50 = .ok (.sipush 3273, 3) := by decide +kernel
theorem dX4_twos_53 : decode cX4_twos 53 = .ok (.iconst 1, 1) := by decide +kernel
theorem dX4_twos_54 : decode cX4_twos 54 = .ok (.invokevirtual 103, 3) := by decide +kernel
theorem dX4_twos_57 : decode cX4_twos 57 = .ok (.iinc 2 1, 3) := by decide +kernel
theorem dX4_twos_60 : decode cX4_twos 60 = .ok (.goto (-42), 3) := by decide +kernel
theorem dX4_twos_63 : decode cX4_twos 63 = .ok (.iconst (-1), 1) := by decide +kernel
theorem dX4_twos_64 : decode cX4_twos 64 = .ok (.ireturn, 1) := by decide +kernel
theorem dX4_lastsOf_0 : decode cX4_lastsOf 0 = .ok (.aload_n 0, 1) := by decide +kernel
theorem dX4_lastsOf_1 : decode cX4_lastsOf 1 = .ok (.getfield 7, 3) := by decide +kernel
theorem dX4_lastsOf_4 : decode cX4_lastsOf 4 = .ok (.sipush 3274, 3) := by decide +kernel
theorem dX4_lastsOf_7 : decode cX4_lastsOf 7 = .ok (.iload_n 1, 1) := by decide +kernel
theorem dX4_lastsOf_8 : decode cX4_lastsOf 8 = .ok (.iadd, 1) := by decide +kernel
theorem dX4_lastsOf_9 : decode cX4_lastsOf 9 = .ok (.iaload, 1) := by decide +kernel
theorem dX4_lastsOf_10 : decode cX4_lastsOf 10 = .ok (.iconst 1, 1) := by decide +kernel
theorem dX4_lastsOf_11 : decode cX4_lastsOf 11 = .ok (.isub, 1) := by decide +kernel
theorem dX4_lastsOf_12 : decode cX4_lastsOf 12 = .ok (.istore_n 2, 1) := by decide +kernel
theorem dX4_lastsOf_13 : decode cX4_lastsOf 13 = .ok (.iload_n 2, 1) := by decide +kernel
theorem dX4_lastsOf_14 : decode cX4_lastsOf 14 = .ok (.ifCond .ge 7, 3) := by decide +kernel
theorem dX4_lastsOf_17 : decode cX4_lastsOf 17 = .ok (.iconst 0, 1) := by decide +kernel
theorem dX4_lastsOf_18 : decode cX4_lastsOf 18 = .ok (.goto 19, 3) := by decide +kernel
theorem dX4_lastsOf_21 : decode cX4_lastsOf 21 = .ok (.aload_n 0, 1) := by decide +kernel
theorem dX4_lastsOf_22 : decode cX4_lastsOf 22 = .ok (.getfield 7, 3) := by decide +kernel
theorem dX4_lastsOf_25 : decode cX4_lastsOf 25 = .ok (.sipush 3273, 3) := by decide +kernel
theorem dX4_lastsOf_28 : decode cX4_lastsOf 28 = .ok (.iload_n 1, 1) := by decide +kernel
theorem dX4_lastsOf_29 : decode cX4_lastsOf 29 = .ok (.iload_n 2, 1) := by decide +kernel
theorem dX4_lastsOf_30 : decode cX4_lastsOf 30 = .ok (.invokestatic 59, 3) := by decide +kernel
theorem dX4_lastsOf_33 : decode cX4_lastsOf 33 = .ok (.iadd, 1) := by decide +kernel
theorem dX4_lastsOf_34 : decode cX4_lastsOf 34 = .ok (.iconst 2, 1) := by decide +kernel
theorem dX4_lastsOf_35 : decode cX4_lastsOf 35 = .ok (.iadd, 1) := by decide +kernel
theorem dX4_lastsOf_36 : decode cX4_lastsOf 36 = .ok (.iaload, 1) := by decide +kernel
theorem dX4_lastsOf_37 : decode cX4_lastsOf 37 = .ok (.istore_n 3, 1) := by decide +kernel
theorem dX4_lastsOf_38 : decode cX4_lastsOf 38 = .ok (.iconst 0, 1) := by decide +kernel
theorem dX4_lastsOf_39 : decode cX4_lastsOf 39 = .ok (.istore 4, 2) := by decide +kernel
theorem dX4_lastsOf_41 : decode cX4_lastsOf 41 = .ok (.iload 4, 2) := by decide +kernel
theorem dX4_lastsOf_43 : decode cX4_lastsOf 43 = .ok (.bipush 41, 2) := by decide +kernel
theorem dX4_lastsOf_45 : decode cX4_lastsOf 45 = .ok (.if_icmp .ge 89, 3) := by decide +kernel
theorem dX4_lastsOf_48 : decode cX4_lastsOf 48 = .ok (.iload_n 2, 1) := by decide +kernel
theorem dX4_lastsOf_49 : decode cX4_lastsOf 49 = .ok (.ifCond .ge 6, 3) := by decide +kernel
theorem dX4_lastsOf_52 : decode cX4_lastsOf 52 = .ok (.iload 4, 2) := by decide +kernel
theorem dX4_lastsOf_54 : decode cX4_lastsOf 54 = .ok (.ireturn, 1) := by decide +kernel
theorem dX4_lastsOf_55 : decode cX4_lastsOf 55 = .ok (.iload_n 3, 1) := by decide +kernel
theorem dX4_lastsOf_56 : decode cX4_lastsOf 56 = .ok (.aload_n 0, 1) := by decide +kernel
theorem dX4_lastsOf_57 : decode cX4_lastsOf 57 = .ok (.getfield 7, 3) := by decide +kernel
theorem dX4_lastsOf_60 : decode cX4_lastsOf 60 = .ok (.sipush 3273, 3) := by decide +kernel
theorem dX4_lastsOf_63 : decode cX4_lastsOf 63 = .ok (.iload_n 1, 1) := by decide +kernel
theorem dX4_lastsOf_64 : decode cX4_lastsOf 64 = .ok (.iload_n 2, 1) := by decide +kernel
theorem dX4_lastsOf_65 : decode cX4_lastsOf 65 = .ok (.invokestatic 59, 3) := by decide +kernel
theorem dX4_lastsOf_68 : decode cX4_lastsOf 68 = .ok (.iadd, 1) := by decide +kernel
theorem dX4_lastsOf_69 : decode cX4_lastsOf 69 = .ok (.iaload, 1) := by decide +kernel
theorem dX4_lastsOf_70 : decode cX4_lastsOf 70 = .ok (.aload_n 0, 1) := by decide +kernel
theorem dX4_lastsOf_71 : decode cX4_lastsOf 71 = .ok (.getfield 7, 3) := by decide +kernel
theorem dX4_lastsOf_74 : decode cX4_lastsOf 74 = .ok (.sipush 3391, 3) := by decide +kernel
theorem dX4_lastsOf_77 : decode cX4_lastsOf 77 = .ok (.iload_n 1, 1) := by decide +kernel
theorem dX4_lastsOf_78 : decode cX4_lastsOf 78 = .ok (.iadd, 1) := by decide +kernel
theorem dX4_lastsOf_79 : decode cX4_lastsOf 79 = .ok (.iaload, 1) := by decide +kernel
theorem dX4_lastsOf_80 : decode cX4_lastsOf 80 = .ok (.aload_n 0, 1) := by decide +kernel
theorem dX4_lastsOf_81 : decode cX4_lastsOf 81 = .ok (.getfield 7, 3) := by decide +kernel
theorem dX4_lastsOf_84 : decode cX4_lastsOf 84 = .ok (.sipush 3273, 3) := by decide +kernel
theorem dX4_lastsOf_87 : decode cX4_lastsOf 87 = .ok (.iaload, 1) := by decide +kernel
theorem dX4_lastsOf_88 : decode cX4_lastsOf 88 = .ok (.iload 4, 2) := by decide +kernel
theorem dX4_lastsOf_90 : decode cX4_lastsOf 90 = .ok (.iadd, 1) := by decide +kernel
theorem dX4_lastsOf_91 : decode cX4_lastsOf 91 = .ok (.invokestatic 97, 3) := by decide +kernel
theorem dX4_lastsOf_94 : decode cX4_lastsOf 94 = .ok (.isub, 1) := by decide +kernel
theorem dX4_lastsOf_95 : decode cX4_lastsOf 95 = .ok (.istore_n 3, 1) := by decide +kernel
theorem dX4_lastsOf_96 : decode cX4_lastsOf 96 = .ok (.iload_n 3, 1) := by decide +kernel
theorem dX4_lastsOf_97 : decode cX4_lastsOf 97 = .ok (.ifCond .gt 31, 3) := by decide +kernel
theorem dX4_lastsOf_100 : decode cX4_lastsOf 100 = .ok (.iinc 2 (-1), 3) := by decide +kernel
theorem dX4_lastsOf_103 : decode cX4_lastsOf 103 = .ok (.iload_n 2, 1) := by decide +kernel
theorem dX4_lastsOf_104 : decode cX4_lastsOf 104 = .ok (.ifCond .ge 7, 3) := by decide +kernel
theorem dX4_lastsOf_107 : decode cX4_lastsOf 107 = .ok (.iconst 0, 1) := by decide +kernel
theorem dX4_lastsOf_108 : decode cX4_lastsOf 108 = .ok (.goto 19, 3) := by decide +kernel
theorem dX4_lastsOf_111 : decode cX4_lastsOf 111 = .ok (.aload_n 0, 1) := by decide +kernel
theorem dX4_lastsOf_112 : decode cX4_lastsOf 112 = .ok (.getfield 7, 3) := by decide +kernel
theorem dX4_lastsOf_115 : decode cX4_lastsOf 115 = .ok (.sipush 3273, 3) := by decide +kernel
theorem dX4_lastsOf_118 : decode cX4_lastsOf 118 = .ok (.iload_n 1, 1) := by decide +kernel
theorem dX4_lastsOf_119 : decode cX4_lastsOf 119 = .ok (.iload_n 2, 1) := by decide +kernel
theorem dX4_lastsOf_120 : decode cX4_lastsOf 120 = .ok (.invokestatic 59, 3) := by decide +kernel
theorem dX4_lastsOf_123 : decode cX4_lastsOf 123 = .ok (.iadd, 1) := by decide +kernel
theorem dX4_lastsOf_124 : decode cX4_lastsOf 124 = .ok (.iconst 2, 1) := by decide +kernel
theorem dX4_lastsOf_125 : decode cX4_lastsOf 125 = .ok (.iadd, 1) := by decide +kernel
theorem dX4_lastsOf_126 : decode cX4_lastsOf 126 = .ok (.iaload, 1) := by decide +kernel
theorem dX4_lastsOf_127 : decode cX4_lastsOf 127 = .ok (.istore_n 3, 1) := by decide +kernel
theorem dX4_lastsOf_128 : decode cX4_lastsOf 128 = .ok (.iinc 4 1, 3) := by decide +kernel
theorem dX4_lastsOf_131 : decode cX4_lastsOf 131 = .ok (.goto (-90), 3) := by decide +kernel
theorem dX4_lastsOf_134 : decode cX4_lastsOf 134 = .ok (.bipush 41, 2) := by decide +kernel
theorem dX4_lastsOf_136 : decode cX4_lastsOf 136 = .ok (.ireturn, 1) := by decide +kernel
theorem dX4_wholeTried_0 : decode cX4_wholeTried 0 = .ok (.bipush 41, 2) := by decide +kernel
theorem dX4_wholeTried_2 : decode cX4_wholeTried 2 = .ok (.istore_n 1, 1) := by decide +kernel
theorem dX4_wholeTried_3 : decode cX4_wholeTried 3 = .ok (.iconst 0, 1) := by decide +kernel
theorem dX4_wholeTried_4 : decode cX4_wholeTried 4 = .ok (.istore_n 2, 1) := by decide +kernel
theorem dX4_wholeTried_5 : decode cX4_wholeTried 5 = .ok (.iload_n 2, 1) := by decide +kernel
theorem dX4_wholeTried_6 : decode cX4_wholeTried 6 = .ok (.bipush 9, 2) := by decide +kernel
theorem dX4_wholeTried_8 : decode cX4_wholeTried 8 = .ok (.if_icmp .ge 26, 3) := by decide +kernel
theorem dX4_wholeTried_11 : decode cX4_wholeTried 11 = .ok (.aload_n 0, 1) := by decide +kernel
theorem dX4_wholeTried_12 : decode cX4_wholeTried 12 = .ok (.iload_n 2, 1) := by decide +kernel
theorem dX4_wholeTried_13 : decode cX4_wholeTried 13 = .ok (.invokevirtual 206, 3) := by decide +kernel
theorem dX4_wholeTried_16 : decode cX4_wholeTried 16 = .ok (.istore_n 3, 1) := by decide +kernel
theorem dX4_wholeTried_17 : decode cX4_wholeTried 17 = .ok (.iload_n 3, 1) := by decide +kernel
theorem dX4_wholeTried_18 : decode cX4_wholeTried 18 = .ok (.iload_n 1, 1) := by decide +kernel
theorem dX4_wholeTried_19 : decode cX4_wholeTried 19 = .ok (.if_icmp .ge 7, 3) := by decide +kernel
theorem dX4_wholeTried_22 : decode cX4_wholeTried 22 = .ok (.iload_n 3, 1) := by decide +kernel
theorem dX4_wholeTried_23 : decode cX4_wholeTried 23 = .ok (.goto 4, 3) := by decide +kernel
theorem dX4_wholeTried_26 : decode cX4_wholeTried 26 = .ok (.iload_n 1, 1) := by decide +kernel
theorem dX4_wholeTried_27 : decode cX4_wholeTried 27 = .ok (.istore_n 1, 1) := by decide +kernel
theorem dX4_wholeTried_28 : decode cX4_wholeTried 28 = .ok (.iinc 2 1, 3) := by decide +kernel
theorem dX4_wholeTried_31 : decode cX4_wholeTried 31 = .ok (.goto (-26), 3) := by decide +kernel
theorem dX4_wholeTried_34 : decode cX4_wholeTried 34 = .ok (.iload_n 1, 1) := by decide +kernel
theorem dX4_wholeTried_35 : decode cX4_wholeTried 35 = .ok (.ireturn, 1) := by decide +kernel
theorem dX4_whole_0 : decode cX4_whole 0 = .ok (.aload_n 0, 1) := by decide +kernel
theorem dX4_whole_1 : decode cX4_whole 1 = .ok (.invokevirtual 184, 3) := by decide +kernel
theorem dX4_whole_4 : decode cX4_whole 4 = .ok (.aload_n 0, 1) := by decide +kernel
theorem dX4_whole_5 : decode cX4_whole 5 = .ok (.invokevirtual 209, 3) := by decide +kernel
theorem dX4_whole_8 : decode cX4_whole 8 = .ok (.ireturn, 1) := by decide +kernel
theorem dX4_holes_0 : decode cX4_holes 0 = .ok (.iload_n 1, 1) := by decide +kernel
theorem dX4_holes_1 : decode cX4_holes 1 = .ok (.i2l, 1) := by decide +kernel
theorem dX4_holes_2 : decode cX4_holes 2 = .ok (.lconst 0, 1) := by decide +kernel
theorem dX4_holes_3 : decode cX4_holes 3 = .ok (.ldc2_w 187, 3) := by decide +kernel
theorem dX4_holes_6 : decode cX4_holes 6 = .ok (.invokestatic 45, 3) := by decide +kernel
theorem dX4_holes_9 : decode cX4_holes 9 = .ok (.ifCond .ne 8, 3) := by decide +kernel
theorem dX4_holes_12 : decode cX4_holes 12 = .ok (.aload_n 0, 1) := by decide +kernel
theorem dX4_holes_13 : decode cX4_holes 13 = .ok (.invokevirtual 65, 3) := by decide +kernel
theorem dX4_holes_16 : decode cX4_holes 16 = .ok (.ireturn, 1) := by decide +kernel
theorem dX4_holes_17 : decode cX4_holes 17 = .ok (.aload_n 0, 1) := by decide +kernel
theorem dX4_holes_18 : decode cX4_holes 18 = .ok (.iload_n 1, 1) := by decide +kernel
theorem dX4_holes_19 : decode cX4_holes 19 = .ok (.invokevirtual 189, 3) := by decide +kernel
theorem dX4_holes_22 : decode cX4_holes 22 = .ok (.aload_n 0, 1) := by decide +kernel
theorem dX4_holes_23 : decode cX4_holes 23 = .ok (.sipush 3273, 3) := by decide +kernel
theorem dX4_holes_26 : decode cX4_holes 26 = .ok (.invokevirtual 107, 3) := by decide +kernel
theorem dX4_holes_29 : decode cX4_holes 29 = .ok (.ireturn, 1) := by decide +kernel
theorem dX4_isThread_0 : decode cX4_isThread 0 = .ok (.iload_n 0, 1) := by decide +kernel
theorem dX4_isThread_1 : decode cX4_isThread 1 = .ok (.i2l, 1) := by decide +kernel
theorem dX4_isThread_2 : decode cX4_isThread 2 = .ok (.iload_n 1, 1) := by decide +kernel
theorem dX4_isThread_3 : decode cX4_isThread 3 = .ok (.i2l, 1) := by decide +kernel
theorem dX4_isThread_4 : decode cX4_isThread 4 = .ok (.ldc2_w 57, 3) := by decide +kernel
theorem dX4_isThread_7 : decode cX4_isThread 7 = .ok (.invokestatic 45, 3) := by decide +kernel
theorem dX4_isThread_10 : decode cX4_isThread 10 = .ok (.ifCond .eq 31, 3) := by decide +kernel
theorem dX4_isThread_13 : decode cX4_isThread 13 = .ok (.iload_n 2, 1) := by decide +kernel
theorem dX4_isThread_14 : decode cX4_isThread 14 = .ok (.i2l, 1) := by decide +kernel
theorem dX4_isThread_15 : decode cX4_isThread 15 = .ok (.lconst 0, 1) := by decide +kernel
theorem dX4_isThread_16 : decode cX4_isThread 16 = .ok (.ldc2_w 53, 3) := by decide +kernel
theorem dX4_isThread_19 : decode cX4_isThread 19 = .ok (.invokestatic 45, 3) := by decide +kernel
theorem dX4_isThread_22 : decode cX4_isThread 22 = .ok (.ifCond .eq 19, 3) := by decide +kernel
theorem dX4_isThread_25 : decode cX4_isThread 25 = .ok (.iload_n 3, 1) := by decide +kernel
theorem dX4_isThread_26 : decode cX4_isThread 26 = .ok (.i2l, 1) := by decide +kernel
theorem dX4_isThread_27 : decode cX4_isThread 27 = .ok (.lconst 0, 1) := by decide +kernel
theorem dX4_isThread_28 : decode cX4_isThread 28 = .ok (.ldc2_w 55, 3) := by decide +kernel
theorem dX4_isThread_31 : decode cX4_isThread 31 = .ok (.invokestatic 45, 3) := by decide +kernel
theorem dX4_isThread_34 : decode cX4_isThread 34 = .ok (.ifCond .eq 7, 3) := by decide +kernel
theorem dX4_isThread_37 : decode cX4_isThread 37 = .ok (.iconst 1, 1) := by decide +kernel
theorem dX4_isThread_38 : decode cX4_isThread 38 = .ok (.goto 4, 3) := by decide +kernel
theorem dX4_isThread_41 : decode cX4_isThread 41 = .ok (.iconst 0, 1) := by decide +kernel
theorem dX4_isThread_42 : decode cX4_isThread 42 = .ok (.ireturn, 1) := by decide +kernel
theorem dX4_best_0 : decode cX4_best 0 = .ok (.iload_n 1, 1) := by decide +kernel
theorem dX4_best_1 : decode cX4_best 1 = .ok (.iconst 1, 1) := by decide +kernel
theorem dX4_best_2 : decode cX4_best 2 = .ok (.iload_n 2, 1) := by decide +kernel
theorem dX4_best_3 : decode cX4_best 3 = .ok (.iload_n 3, 1) := by decide +kernel
theorem dX4_best_4 : decode cX4_best 4 = .ok (.invokestatic 212, 3) := by decide +kernel
theorem dX4_best_7 : decode cX4_best 7 = .ok (.ifCond .eq 8, 3) := by decide +kernel
theorem dX4_best_10 : decode cX4_best 10 = .ok (.iload_n 3, 1) := by decide +kernel
theorem dX4_best_11 : decode cX4_best 11 = .ok (.iconst 2, 1) := by decide +kernel
theorem dX4_best_12 : decode cX4_best 12 = .ok (.if_icmp .ne 8, 3) := by decide +kernel
theorem dX4_best_15 : decode cX4_best 15 = .ok (.aload_n 0, 1) := by decide +kernel
theorem dX4_best_16 : decode cX4_best 16 = .ok (.invokevirtual 65, 3) := by decide +kernel
theorem dX4_best_19 : decode cX4_best 19 = .ok (.ireturn, 1) := by decide +kernel
theorem dX4_best_20 : decode cX4_best 20 = .ok (.iconst (-1), 1) := by decide +kernel
theorem dX4_best_21 : decode cX4_best 21 = .ok (.istore 4, 2) := by decide +kernel
theorem dX4_best_23 : decode cX4_best 23 = .ok (.iconst (-1), 1) := by decide +kernel
theorem dX4_best_24 : decode cX4_best 24 = .ok (.istore 5, 2) := by decide +kernel
theorem dX4_best_26 : decode cX4_best 26 = .ok (.iconst 0, 1) := by decide +kernel
theorem dX4_best_27 : decode cX4_best 27 = .ok (.istore 6, 2) := by decide +kernel
theorem dX4_best_29 : decode cX4_best 29 = .ok (.iload 6, 2) := by decide +kernel
theorem dX4_best_31 : decode cX4_best 31 = .ok (.bipush 9, 2) := by decide +kernel
theorem dX4_best_33 : decode cX4_best 33 = .ok (.if_icmp .ge 76, 3) := by decide +kernel
theorem dX4_best_36 : decode cX4_best 36 = .ok (.aload_n 0, 1) := by decide +kernel
theorem dX4_best_37 : decode cX4_best 37 = .ok (.getfield 7, 3) := by decide +kernel
theorem dX4_best_40 : decode cX4_best 40 = .ok (.iconst 1, 1) := by decide +kernel
theorem dX4_best_41 : decode cX4_best 41 = .ok (.iload 6, 2) := by decide +kernel
theorem dX4_best_43 : decode cX4_best 43 = .ok (.iadd, 1) := by decide +kernel
theorem dX4_best_44 : decode cX4_best 44 = .ok (.iaload, 1) := by decide +kernel
theorem dX4_best_45 : decode cX4_best 45 = .ok (.iconst 3, 1) := by decide +kernel
theorem dX4_best_46 : decode cX4_best 46 = .ok (.if_icmp .ge 57, 3) := by decide +kernel
theorem dX4_best_49 : decode cX4_best 49 = .ok (.aload_n 0, 1) := by decide +kernel
theorem dX4_best_50 : decode cX4_best 50 = .ok (.invokevirtual 184, 3) := by decide +kernel
theorem dX4_best_53 : decode cX4_best 53 = .ok (.aload_n 0, 1) := by decide +kernel
theorem dX4_best_54 : decode cX4_best 54 = .ok (.sipush 3273, 3) := by decide +kernel
theorem dX4_best_57 : decode cX4_best 57 = .ok (.iload 6, 2) := by decide +kernel
theorem dX4_best_59 : decode cX4_best 59 = .ok (.iload_n 2, 1) := by decide +kernel
theorem dX4_best_60 : decode cX4_best 60 = .ok (.iconst 0, 1) := by decide +kernel
theorem dX4_best_61 : decode cX4_best 61 = .ok (.iload_n 1, 1) := by decide +kernel
theorem dX4_best_62 : decode cX4_best 62 = .ok (.invokevirtual 87, 3) := by decide +kernel
theorem dX4_best_65 : decode cX4_best 65 = .ok (.aload_n 0, 1) := by decide +kernel
theorem dX4_best_66 : decode cX4_best 66 = .ok (.invokevirtual 209, 3) := by decide +kernel
theorem dX4_best_69 : decode cX4_best 69 = .ok (.istore 7, 2) := by decide +kernel
theorem dX4_best_71 : decode cX4_best 71 = .ok (.iload 7, 2) := by decide +kernel
theorem dX4_best_73 : decode cX4_best 73 = .ok (.iload 5, 2) := by decide +kernel
theorem dX4_best_75 : decode cX4_best 75 = .ok (.if_icmp .le 8, 3) := by decide +kernel
theorem dX4_best_78 : decode cX4_best 78 = .ok (.iload 6, 2) := by decide +kernel
theorem dX4_best_80 : decode cX4_best 80 = .ok (.goto 5, 3) := by decide +kernel
theorem dX4_best_83 : decode cX4_best 83 = .ok (.iload 4, 2) := by decide +kernel
theorem dX4_best_85 : decode cX4_best 85 = .ok (.istore 4, 2) := by decide +kernel
theorem dX4_best_87 : decode cX4_best 87 = .ok (.iload 7, 2) := by decide +kernel
theorem dX4_best_89 : decode cX4_best 89 = .ok (.iload 5, 2) := by decide +kernel
theorem dX4_best_91 : decode cX4_best 91 = .ok (.if_icmp .le 8, 3) := by decide +kernel
theorem dX4_best_94 : decode cX4_best 94 = .ok (.iload 7, 2) := by decide +kernel
theorem dX4_best_96 : decode cX4_best 96 = .ok (.goto 5, 3) := by decide +kernel
theorem dX4_best_99 : decode cX4_best 99 = .ok (.iload 5, 2) := by decide +kernel
theorem dX4_best_101 : decode cX4_best 101 = .ok (.istore 5, 2) := by decide +kernel
theorem dX4_best_103 : decode cX4_best 103 = .ok (.iinc 6 1, 3) := by decide +kernel
theorem dX4_best_106 : decode cX4_best 106 = .ok (.goto (-77), 3) := by decide +kernel
theorem dX4_best_109 : decode cX4_best 109 = .ok (.iload_n 3, 1) := by decide +kernel
theorem dX4_best_110 : decode cX4_best 110 = .ok (.ifCond .ne 8, 3) := by decide +kernel
theorem dX4_best_113 : decode cX4_best 113 = .ok (.iload 4, 2) := by decide +kernel
theorem dX4_best_115 : decode cX4_best 115 = .ok (.goto 5, 3) := by decide +kernel
theorem dX4_best_118 : decode cX4_best 118 = .ok (.iload 5, 2) := by decide +kernel
theorem dX4_best_120 : decode cX4_best 120 = .ok (.ireturn, 1) := by decide +kernel
theorem dX4_layLasting_0 : decode cX4_layLasting 0 = .ok (.iconst 0, 1) := by decide +kernel
theorem dX4_layLasting_1 : decode cX4_layLasting 1 = .ok (.istore_n 3, 1) := by decide +kernel
theorem dX4_layLasting_2 : decode cX4_layLasting 2 = .ok (.iload_n 3, 1) := by decide +kernel
theorem dX4_layLasting_3 : decode cX4_layLasting 3 = .ok (.bipush 9, 2) := by decide +kernel
theorem dX4_layLasting_5 : decode cX4_layLasting 5 = .ok (.if_icmp .ge 74, 3) := by decide +kernel
theorem dX4_layLasting_8 : decode cX4_layLasting 8 = .ok (.iconst 0, 1) := by decide +kernel
theorem dX4_layLasting_9 : decode cX4_layLasting 9 = .ok (.istore 4, 2) := by decide +kernel
theorem dX4_layLasting_11 : decode cX4_layLasting 11 = .ok (.iload 4, 2) := by decide +kernel
theorem dX4_layLasting_13 : decode cX4_layLasting 13 = .ok (.iload_n 1, 1) := by decide +kernel
theorem dX4_layLasting_14 : decode cX4_layLasting 14 = .ok (.if_icmp .ge 59, 3) := by decide +kernel
theorem dX4_layLasting_17 : decode cX4_layLasting 17 = .ok (.aload_n 0, 1) := by decide +kernel
theorem dX4_layLasting_18 : decode cX4_layLasting 18 = .ok (.invokevirtual 184, 3) := by decide +kernel
theorem dX4_layLasting_21 : decode cX4_layLasting 21 = .ok (.iload 4, 2) := by decide +kernel
theorem dX4_layLasting_23 : decode cX4_layLasting 23 = .ok (.ifCond .le 27, 3) := by decide +kernel
theorem dX4_layLasting_26 : decode cX4_layLasting 26 = .ok (.aload_n 0, 1) := by decide +kernel
theorem dX4_layLasting_27 : decode cX4_layLasting 27 = .ok (.getfield 7, 3) := by decide +kernel
theorem dX4_layLasting_30 : decode cX4_layLasting 30 = .ok (.iconst 1, 1) := by decide +kernel
theorem dX4_layLasting_31 : decode cX4_layLasting 31 = .ok (.iload_n 3, 1) := by decide +kernel
theorem dX4_layLasting_32 : decode cX4_layLasting 32 = .ok (.iadd, 1) := by decide +kernel
theorem dX4_layLasting_33 : decode cX4_layLasting 33 = .ok (.iaload, 1) := by decide +kernel
theorem dX4_layLasting_34 : decode cX4_layLasting 34 = .ok (.iconst 3, 1) := by decide +kernel
theorem dX4_layLasting_35 : decode cX4_layLasting 35 = .ok (.if_icmp .ge 15, 3) := by decide +kernel
theorem dX4_layLasting_38 : decode cX4_layLasting 38 = .ok (.aload_n 0, 1) := by decide +kernel
theorem dX4_layLasting_39 : decode cX4_layLasting 39 = .ok (.sipush 3273, 3) := by decide +kernel
theorem dX4_layLasting_42 : decode cX4_layLasting 42 = .ok (.iload_n 3, 1) := by decide +kernel
theorem dX4_layLasting_43 : decode cX4_layLasting 43 = .ok (.iload_n 2, 1) := by decide +kernel
theorem dX4_layLasting_44 : decode cX4_layLasting 44 = .ok (.iconst 0, 1) := by decide +kernel
theorem dX4_layLasting_45 : decode cX4_layLasting 45 = .ok (.iload 4, 2) := by decide +kernel
theorem dX4_layLasting_47 : decode cX4_layLasting 47 = .ok (.invokevirtual 87, 3) := by decide +kernel
theorem dX4_layLasting_50 : decode cX4_layLasting 50 = .ok (.aload_n 0, 1) := by decide +kernel
theorem dX4_layLasting_51 : decode cX4_layLasting 51 = .ok (.getfield 30, 3) := by decide +kernel
theorem dX4_layLasting_54 : decode cX4_layLasting 54 = .ok (.bipush 31, 2) := by decide +kernel
theorem dX4_layLasting_56 : decode cX4_layLasting 56 = .ok (.iload_n 3, 1) := by decide +kernel
theorem dX4_layLasting_57 : decode cX4_layLasting 57 = .ok (.imul, 1) := by decide +kernel
theorem dX4_layLasting_58 : decode cX4_layLasting 58 = .ok (.iload 4, 2) := by decide +kernel
theorem dX4_layLasting_60 : decode cX4_layLasting 60 = .ok (.iadd, 1) := by decide +kernel
theorem dX4_layLasting_61 : decode cX4_layLasting 61 = .ok (.aload_n 0, 1) := by decide +kernel
theorem dX4_layLasting_62 : decode cX4_layLasting 62 = .ok (.iload_n 3, 1) := by decide +kernel
theorem dX4_layLasting_63 : decode cX4_layLasting 63 = .ok (.invokevirtual 206, 3) := by decide +kernel
theorem dX4_layLasting_66 : decode cX4_layLasting 66 = .ok (.iastore, 1) := by decide +kernel
theorem dX4_layLasting_67 : decode cX4_layLasting 67 = .ok (.iinc 4 1, 3) := by decide +kernel
theorem dX4_layLasting_70 : decode cX4_layLasting 70 = .ok (.goto (-59), 3) := by decide +kernel
theorem dX4_layLasting_73 : decode cX4_layLasting 73 = .ok (.iinc 3 1, 3) := by decide +kernel
theorem dX4_layLasting_76 : decode cX4_layLasting 76 = .ok (.goto (-74), 3) := by decide +kernel
theorem dX4_layLasting_79 : decode cX4_layLasting 79 = .ok (.return_, 1) := by decide +kernel
theorem dX4_split_0 : decode cX4_split 0 = .ok (.iload_n 1, 1) := by decide +kernel
theorem dX4_split_1 : decode cX4_split 1 = .ok (.iconst 2, 1) := by decide +kernel
theorem dX4_split_2 : decode cX4_split 2 = .ok (.iload_n 2, 1) := by decide +kernel
theorem dX4_split_3 : decode cX4_split 3 = .ok (.iload_n 3, 1) := by decide +kernel
theorem dX4_split_4 : decode cX4_split 4 = .ok (.invokestatic 212, 3) := by decide +kernel
theorem dX4_split_7 : decode cX4_split 7 = .ok (.ifCond .ne 8, 3) := by decide +kernel
theorem dX4_split_10 : decode cX4_split 10 = .ok (.aload_n 0, 1) := by decide +kernel
theorem dX4_split_11 : decode cX4_split 11 = .ok (.invokevirtual 65, 3) := by decide +kernel
theorem dX4_split_14 : decode cX4_split 14 = .ok (.ireturn, 1) := by decide +kernel
theorem dX4_split_15 : decode cX4_split 15 = .ok (.aload_n 0, 1) := by decide +kernel
theorem dX4_split_16 : decode cX4_split 16 = .ok (.iload_n 1, 1) := by decide +kernel
theorem dX4_split_17 : decode cX4_split 17 = .ok (.iload_n 2, 1) := by decide +kernel
theorem dX4_split_18 : decode cX4_split 18 = .ok (.invokevirtual 215, 3) := by decide +kernel
theorem dX4_split_21 : decode cX4_split 21 = .ok (.iconst (-1), 1) := by decide +kernel
theorem dX4_split_22 : decode cX4_split 22 = .ok (.istore 4, 2) := by decide +kernel
theorem dX4_split_24 : decode cX4_split 24 = .ok (.iconst (-1), 1) := by decide +kernel
theorem dX4_split_25 : decode cX4_split 25 = .ok (.istore 5, 2) := by decide +kernel
theorem dX4_split_27 : decode cX4_split 27 = .ok (.iconst (-1), 1) := by decide +kernel
theorem dX4_split_28 : decode cX4_split 28 = .ok (.istore 6, 2) := by decide +kernel
theorem dX4_split_30 : decode cX4_split 30 = .ok (.iconst 0, 1) := by decide +kernel
theorem dX4_split_31 : decode cX4_split 31 = .ok (.istore 7, 2) := by decide +kernel
theorem dX4_split_33 : decode cX4_split 33 = .ok (.iload 7, 2) := by decide +kernel
theorem dX4_split_35 : decode cX4_split 35 = .ok (.bipush 9, 2) := by decide +kernel
theorem dX4_split_37 : decode cX4_split 37 = .ok (.if_icmp .ge 253, 3) := by decide +kernel
theorem dX4_split_40 : decode cX4_split 40 = .ok (.iload 7, 2) := by decide +kernel
theorem dX4_split_42 : decode cX4_split 42 = .ok (.iconst 1, 1) := by decide +kernel
theorem dX4_split_43 : decode cX4_split 43 = .ok (.iadd, 1) := by decide +kernel
theorem dX4_split_44 : decode cX4_split 44 = .ok (.istore 8, 2) := by decide +kernel
theorem dX4_split_46 : decode cX4_split 46 = .ok (.iload 8, 2) := by decide +kernel
theorem dX4_split_48 : decode cX4_split 48 = .ok (.bipush 9, 2) := by decide +kernel
theorem dX4_split_50 : decode cX4_split 50 = .ok (.if_icmp .ge 234, 3) := by decide +kernel
theorem dX4_split_53 : decode cX4_split 53 = .ok (.bipush 41, 2) := by decide +kernel
theorem dX4_split_55 : decode cX4_split 55 = .ok (.istore 9, 2) := by decide +kernel
theorem dX4_split_57 : decode cX4_split 57 = .ok (.iconst 0, 1) := by decide +kernel
theorem dX4_split_58 : decode cX4_split 58 = .ok (.istore 10, 2) := by decide +kernel
theorem dX4_split_60 : decode cX4_split 60 = .ok (.iload 10, 2) := by decide +kernel
theorem dX4_split_62 : decode cX4_split 62 = .ok (.bipush 9, 2) := by decide +kernel
theorem dX4_split_64 : decode cX4_split 64 = .ok (.if_icmp .ge 55, 3) := by decide +kernel
theorem dX4_split_67 : decode cX4_split 67 = .ok (.iload 10, 2) := by decide +kernel
theorem dX4_split_69 : decode cX4_split 69 = .ok (.iload 7, 2) := by decide +kernel
theorem dX4_split_71 : decode cX4_split 71 = .ok (.if_icmp .eq 38, 3) := by decide +kernel
theorem dX4_split_74 : decode cX4_split 74 = .ok (.iload 10, 2) := by decide +kernel
theorem dX4_split_76 : decode cX4_split 76 = .ok (.iload 8, 2) := by decide +kernel
theorem dX4_split_78 : decode cX4_split 78 = .ok (.if_icmp .eq 31, 3) := by decide +kernel
theorem dX4_split_81 : decode cX4_split 81 = .ok (.aload_n 0, 1) := by decide +kernel
theorem dX4_split_82 : decode cX4_split 82 = .ok (.getfield 30, 3) := by decide +kernel
theorem dX4_split_85 : decode cX4_split 85 = .ok (.bipush 31, 2) := by decide +kernel
theorem dX4_split_87 : decode cX4_split 87 = .ok (.iload 10, 2) := by decide +kernel
theorem dX4_split_89 : decode cX4_split 89 = .ok (.imul, 1) := by decide +kernel
theorem dX4_split_90 : decode cX4_split 90 = .ok (.iaload, 1) := by decide +kernel
theorem dX4_split_91 : decode cX4_split 91 = .ok (.iload 9, 2) := by decide +kernel
theorem dX4_split_93 : decode cX4_split 93 = .ok (.if_icmp .ge 16, 3) := by decide +kernel
theorem dX4_split_96 : decode cX4_split 96 = .ok (.aload_n 0, 1) := by decide +kernel
theorem dX4_split_97 : decode cX4_split 97 = .ok (.getfield 30, 3) := by decide +kernel
theorem dX4_split_100 : decode cX4_split 100 = .ok (.bipush 31, 2) := by decide +kernel
theorem dX4_split_102 : decode cX4_split 102 = .ok (.iload 10, 2) := by decide +kernel
theorem dX4_split_104 : decode cX4_split 104 = .ok (.imul, 1) := by decide +kernel
theorem dX4_split_105 : decode cX4_split 105 = .ok (.iaload, 1) := by decide +kernel
theorem dX4_split_106 : decode cX4_split 106 = .ok (.goto 5, 3) := by decide +kernel
theorem dX4_split_109 : decode cX4_split 109 = .ok (.iload 9, 2) := by decide +kernel
theorem dX4_split_111 : decode cX4_split 111 = .ok (.istore 9, 2) := by decide +kernel
theorem dX4_split_113 : decode cX4_split 113 = .ok (.iinc 10 1, 3) := by decide +kernel
theorem dX4_split_116 : decode cX4_split 116 = .ok (.goto (-56), 3) := by decide +kernel
theorem dX4_split_119 : decode cX4_split 119 = .ok (.iconst 1, 1) := by decide +kernel
theorem dX4_split_120 : decode cX4_split 120 = .ok (.istore 10, 2) := by decide +kernel
theorem dX4_split_122 : decode cX4_split 122 = .ok (.iload 10, 2) := by decide +kernel
theorem dX4_split_124 : decode cX4_split 124 = .ok (.iload_n 1, 1) := by decide +kernel
theorem dX4_split_125 : decode cX4_split 125 = .ok (.if_icmp .ge 153, 3) := by decide +kernel
theorem dX4_split_128 : decode cX4_split 128 = .ok (.aload_n 0, 1) := by decide +kernel
theorem dX4_split_129 : decode cX4_split 129 = .ok (.getfield 7, 3) := by decide +kernel
theorem dX4_split_132 : decode cX4_split 132 = .ok (.iconst 1, 1) := by decide +kernel
theorem dX4_split_133 : decode cX4_split 133 = .ok (.iload 7, 2) := by decide +kernel
theorem dX4_split_135 : decode cX4_split 135 = .ok (.iadd, 1) := by decide +kernel
theorem dX4_split_136 : decode cX4_split 136 = .ok (.iaload, 1) := by decide +kernel
theorem dX4_split_137 : decode cX4_split 137 = .ok (.iconst 3, 1) := by decide +kernel
theorem dX4_split_138 : decode cX4_split 138 = .ok (.if_icmp .ge 140, 3) := by decide +kernel
theorem dX4_split_141 : decode cX4_split 141 = .ok (.aload_n 0, 1) := by decide +kernel
theorem dX4_split_142 : decode cX4_split 142 = .ok (.getfield 7, 3) := by decide +kernel
theorem dX4_split_145 : decode cX4_split 145 = .ok (.iconst 1, 1) := by decide +kernel
theorem dX4_split_146 : decode cX4_split 146 = .ok (.iload 8, 2) := by decide +kernel
theorem dX4_split_148 : decode cX4_split 148 = .ok (.iadd, 1) := by decide +kernel
theorem dX4_split_149 : decode cX4_split 149 = .ok (.iaload, 1) := by decide +kernel
theorem dX4_split_150 : decode cX4_split 150 = .ok (.iconst 3, 1) := by decide +kernel
theorem dX4_split_151 : decode cX4_split 151 = .ok (.if_icmp .ge 127, 3) := by decide +kernel
theorem dX4_split_154 : decode cX4_split 154 = .ok (.aload_n 0, 1) := by decide +kernel
theorem dX4_split_155 : decode cX4_split 155 = .ok (.getfield 30, 3) := by decide +kernel
theorem dX4_split_158 : decode cX4_split 158 = .ok (.bipush 31, 2) := by decide +kernel
theorem dX4_split_160 : decode cX4_split 160 = .ok (.iload 7, 2) := by decide +kernel
theorem dX4_split_162 : decode cX4_split 162 = .ok (.imul, 1) := by decide +kernel
theorem dX4_split_163 : decode cX4_split 163 = .ok (.iload 10, 2) := by decide +kernel
theorem dX4_split_165 : decode cX4_split 165 = .ok (.iadd, 1) := by decide +kernel
theorem dX4_split_166 : decode cX4_split 166 = .ok (.iaload, 1) := by decide +kernel
theorem dX4_split_167 : decode cX4_split 167 = .ok (.istore 11, 2) := by decide +kernel
theorem dX4_split_169 : decode cX4_split 169 = .ok (.aload_n 0, 1) := by decide +kernel
theorem dX4_split_170 : decode cX4_split 170 = .ok (.getfield 30, 3) := by decide +kernel
theorem dX4_split_173 : decode cX4_split 173 = .ok (.bipush 31, 2) := by decide +kernel
theorem dX4_split_175 : decode cX4_split 175 = .ok (.iload 8, 2) := by decide +kernel
theorem dX4_split_177 : decode cX4_split 177 = .ok (.imul, 1) := by decide +kernel
theorem dX4_split_178 : decode cX4_split 178 = .ok (.iload_n 1, 1) := by decide +kernel
theorem dX4_split_179 : decode cX4_split 179 = .ok (.iadd, 1) := by decide +kernel
theorem dX4_split_180 : decode cX4_split 180 = .ok (.iload 10, 2) := by decide +kernel
theorem dX4_split_182 : decode cX4_split 182 = .ok (.isub, 1) := by decide +kernel
theorem dX4_split_183 : decode cX4_split 183 = .ok (.iaload, 1) := by decide +kernel
theorem dX4_split_184 : decode cX4_split 184 = .ok (.istore 12, 2) := by decide +kernel
theorem dX4_split_186 : decode cX4_split 186 = .ok (.iload 11, 2) := by decide +kernel
theorem dX4_split_188 : decode cX4_split 188 = .ok (.iload 12, 2) := by decide +kernel
theorem dX4_split_190 : decode cX4_split 190 = .ok (.if_icmp .ge 8, 3) := by decide +kernel
theorem dX4_split_193 : decode cX4_split 193 = .ok (.iload 11, 2) := by decide +kernel
theorem dX4_split_195 : decode cX4_split 195 = .ok (.goto 5, 3) := by decide +kernel
theorem dX4_split_198 : decode cX4_split 198 = .ok (.iload 12, 2) := by decide +kernel
theorem dX4_split_200 : decode cX4_split 200 = .ok (.istore 13, 2) := by decide +kernel
theorem dX4_split_202 : decode cX4_split 202 = .ok (.iload 9, 2) := by decide +kernel
theorem dX4_split_204 : decode cX4_split 204 = .ok (.iload 13, 2) := by decide +kernel
theorem dX4_split_206 : decode cX4_split 206 = .ok (.if_icmp .ge 8, 3) := by decide +kernel
theorem dX4_split_209 : decode cX4_split 209 = .ok (.iload 9, 2) := by decide +kernel
theorem dX4_split_211 : decode cX4_split 211 = .ok (.goto 5, 3) := by decide +kernel
theorem dX4_split_214 : decode cX4_split 214 = .ok (.iload 13, 2) := by decide +kernel
theorem dX4_split_216 : decode cX4_split 216 = .ok (.istore 13, 2) := by decide +kernel
theorem dX4_split_218 : decode cX4_split 218 = .ok (.iload 13, 2) := by decide +kernel
theorem dX4_split_220 : decode cX4_split 220 = .ok (.iload 6, 2) := by decide +kernel
theorem dX4_split_222 : decode cX4_split 222 = .ok (.if_icmp .le 14, 3) := by decide +kernel
theorem dX4_split_225 : decode cX4_split 225 = .ok (.bipush 10, 2) := by decide +kernel
theorem dX4_split_227 : decode cX4_split 227 = .ok (.iload 7, 2) := by decide +kernel
theorem dX4_split_229 : decode cX4_split 229 = .ok (.imul, 1) := by decide +kernel
theorem dX4_split_230 : decode cX4_split 230 = .ok (.iload 8, 2) := by decide +kernel
theorem dX4_split_232 : decode cX4_split 232 = .ok (.iadd, 1) := by decide +kernel
theorem dX4_split_233 : decode cX4_split 233 = .ok (.goto 5, 3) := by decide +kernel
theorem dX4_split_236 : decode cX4_split 236 = .ok (.iload 4, 2) := by decide +kernel
theorem dX4_split_238 : decode cX4_split 238 = .ok (.istore 4, 2) := by decide +kernel
theorem dX4_split_240 : decode cX4_split 240 = .ok (.iload 13, 2) := by decide +kernel
theorem dX4_split_242 : decode cX4_split 242 = .ok (.iload 6, 2) := by decide +kernel
theorem dX4_split_244 : decode cX4_split 244 = .ok (.if_icmp .le 8, 3) := by decide +kernel
theorem dX4_split_247 : decode cX4_split 247 = .ok (.iload 10, 2) := by decide +kernel
theorem dX4_split_249 : decode cX4_split 249 = .ok (.goto 5, 3) := by decide +kernel
theorem dX4_split_252 : decode cX4_split 252 = .ok (.iload 5, 2) := by decide +kernel
theorem dX4_split_254 : decode cX4_split 254 = .ok (.istore 5, 2) := by decide +kernel
theorem dX4_split_256 : decode cX4_split 256 = .ok (.iload 13, 2) := by decide +kernel
theorem dX4_split_258 : decode cX4_split 258 = .ok (.iload 6, 2) := by decide +kernel
theorem dX4_split_260 : decode cX4_split 260 = .ok (.if_icmp .le 8, 3) := by decide +kernel
theorem dX4_split_263 : decode cX4_split 263 = .ok (.iload 13, 2) := by decide +kernel
theorem dX4_split_265 : decode cX4_split 265 = .ok (.goto 5, 3) := by decide +kernel
theorem dX4_split_268 : decode cX4_split 268 = .ok (.iload 6, 2) := by decide +kernel
theorem dX4_split_270 : decode cX4_split 270 = .ok (.istore 6, 2) := by decide +kernel
theorem dX4_split_272 : decode cX4_split 272 = .ok (.iinc 10 1, 3) := by decide +kernel
theorem dX4_split_275 : decode cX4_split 275 = .ok (.goto (-153), 3) := by decide +kernel
theorem dX4_split_278 : decode cX4_split 278 = .ok (.iinc 8 1, 3) := by decide +kernel
theorem dX4_split_281 : decode cX4_split 281 = .ok (.goto (-235), 3) := by decide +kernel
theorem dX4_split_284 : decode cX4_split 284 = .ok (.iinc 7 1, 3) := by decide +kernel
theorem dX4_split_287 : decode cX4_split 287 = .ok (.goto (-254), 3) := by decide +kernel
theorem dX4_split_290 : decode cX4_split 290 = .ok (.iload_n 3, 1) := by decide +kernel
theorem dX4_split_291 : decode cX4_split 291 = .ok (.ifCond .ne 8, 3) := by decide +kernel
theorem dX4_split_294 : decode cX4_split 294 = .ok (.iload 4, 2) := by decide +kernel
theorem dX4_split_296 : decode cX4_split 296 = .ok (.goto 15, 3) := by decide +kernel
theorem dX4_split_299 : decode cX4_split 299 = .ok (.iload_n 3, 1) := by decide +kernel
theorem dX4_split_300 : decode cX4_split 300 = .ok (.iconst 1, 1) := by decide +kernel
theorem dX4_split_301 : decode cX4_split 301 = .ok (.if_icmp .ne 8, 3) := by decide +kernel
theorem dX4_split_304 : decode cX4_split 304 = .ok (.iload 5, 2) := by decide +kernel
theorem dX4_split_306 : decode cX4_split 306 = .ok (.goto 5, 3) := by decide +kernel
theorem dX4_split_309 : decode cX4_split 309 = .ok (.iload 6, 2) := by decide +kernel
theorem dX4_split_311 : decode cX4_split 311 = .ok (.ireturn, 1) := by decide +kernel
theorem dX4_reading_0 : decode cX4_reading 0 = .ok (.iload_n 1, 1) := by decide +kernel
theorem dX4_reading_1 : decode cX4_reading 1 = .ok (.invokestatic 49, 3) := by decide +kernel
theorem dX4_reading_4 : decode cX4_reading 4 = .ok (.ifCond .eq 27, 3) := by decide +kernel
theorem dX4_reading_7 : decode cX4_reading 7 = .ok (.iload_n 2, 1) := by decide +kernel
theorem dX4_reading_8 : decode cX4_reading 8 = .ok (.i2l, 1) := by decide +kernel
theorem dX4_reading_9 : decode cX4_reading 9 = .ok (.lconst 0, 1) := by decide +kernel
theorem dX4_reading_10 : decode cX4_reading 10 = .ok (.ldc2_w 101, 3) := by decide +kernel
theorem dX4_reading_13 : decode cX4_reading 13 = .ok (.invokestatic 45, 3) := by decide +kernel
theorem dX4_reading_16 : decode cX4_reading 16 = .ok (.ifCond .eq 15, 3) := by decide +kernel
theorem dX4_reading_19 : decode cX4_reading 19 = .ok (.iload_n 3, 1) := by decide +kernel
theorem dX4_reading_20 : decode cX4_reading 20 = .ok (.i2l, 1) := by decide +kernel
theorem dX4_reading_21 : decode cX4_reading 21 = .ok (.lconst 0, 1) := by decide +kernel
theorem dX4_reading_22 : decode cX4_reading 22 = .ok (.ldc2_w 57, 3) := by decide +kernel
theorem dX4_reading_25 : decode cX4_reading 25 = .ok (.invokestatic 45, 3) := by decide +kernel
theorem dX4_reading_28 : decode cX4_reading 28 = .ok (.ifCond .ne 8, 3) := by decide +kernel
theorem dX4_reading_31 : decode cX4_reading 31 = .ok (.aload_n 0, 1) := by decide +kernel
theorem dX4_reading_32 : decode cX4_reading 32 = .ok (.invokevirtual 65, 3) := by decide +kernel
theorem dX4_reading_35 : decode cX4_reading 35 = .ok (.ireturn, 1) := by decide +kernel
theorem dX4_reading_36 : decode cX4_reading 36 = .ok (.aload_n 0, 1) := by decide +kernel
theorem dX4_reading_37 : decode cX4_reading 37 = .ok (.getfield 7, 3) := by decide +kernel
theorem dX4_reading_40 : decode cX4_reading 40 = .ok (.bipush 127, 2) := by decide +kernel
theorem dX4_reading_42 : decode cX4_reading 42 = .ok (.iaload, 1) := by decide +kernel
theorem dX4_reading_43 : decode cX4_reading 43 = .ok (.bipush 6, 2) := by decide +kernel
theorem dX4_reading_45 : decode cX4_reading 45 = .ok (.if_icmp .ne 8, 3) := by decide +kernel
theorem dX4_reading_48 : decode cX4_reading 48 = .ok (.aload_n 0, 1) := by decide +kernel
theorem dX4_reading_49 : decode cX4_reading 49 = .ok (.invokevirtual 81, 3) := by decide +kernel
theorem dX4_reading_52 : decode cX4_reading 52 = .ok (.ireturn, 1) := by decide +kernel
theorem dX4_reading_53 : decode cX4_reading 53 = .ok (.sipush 128, 3) := by decide +kernel
theorem dX4_reading_56 : decode cX4_reading 56 = .ok (.iconst 3, 1) := by decide +kernel
theorem dX4_reading_57 : decode cX4_reading 57 = .ok (.aload_n 0, 1) := by decide +kernel
theorem dX4_reading_58 : decode cX4_reading 58 = .ok (.getfield 7, 3) := by decide +kernel
theorem dX4_reading_61 : decode cX4_reading 61 = .ok (.bipush 127, 2) := by decide +kernel
theorem dX4_reading_63 : decode cX4_reading 63 = .ok (.iaload, 1) := by decide +kernel
theorem dX4_reading_64 : decode cX4_reading 64 = .ok (.imul, 1) := by decide +kernel
theorem dX4_reading_65 : decode cX4_reading 65 = .ok (.iadd, 1) := by decide +kernel
theorem dX4_reading_66 : decode cX4_reading 66 = .ok (.istore 4, 2) := by decide +kernel
theorem dX4_reading_68 : decode cX4_reading 68 = .ok (.aload_n 0, 1) := by decide +kernel
theorem dX4_reading_69 : decode cX4_reading 69 = .ok (.getfield 7, 3) := by decide +kernel
theorem dX4_reading_72 : decode cX4_reading 72 = .ok (.iload 4, 2) := by decide +kernel
theorem dX4_reading_74 : decode cX4_reading 74 = .ok (.iload_n 1, 1) := by decide +kernel
theorem dX4_reading_75 : decode cX4_reading 75 = .ok (.iastore, 1) := by decide +kernel
theorem dX4_reading_76 : decode cX4_reading 76 = .ok (.aload_n 0, 1) := by decide +kernel
theorem dX4_reading_77 : decode cX4_reading 77 = .ok (.getfield 7, 3) := by decide +kernel
theorem dX4_reading_80 : decode cX4_reading 80 = .ok (.iload 4, 2) := by decide +kernel
theorem dX4_reading_82 : decode cX4_reading 82 = .ok (.iconst 1, 1) := by decide +kernel
theorem dX4_reading_83 : decode cX4_reading 83 = .ok (.iadd, 1) := by decide +kernel
theorem dX4_reading_84 : decode cX4_reading 84 = .ok (.iload_n 2, 1) := by decide +kernel
theorem dX4_reading_85 : decode cX4_reading 85 = .ok (.iastore, 1) := by decide +kernel
theorem dX4_reading_86 : decode cX4_reading 86 = .ok (.aload_n 0, 1) := by decide +kernel
theorem dX4_reading_87 : decode cX4_reading 87 = .ok (.getfield 7, 3) := by decide +kernel
theorem dX4_reading_90 : decode cX4_reading 90 = .ok (.iload 4, 2) := by decide +kernel
theorem dX4_reading_92 : decode cX4_reading 92 = .ok (.iconst 2, 1) := by decide +kernel
theorem dX4_reading_93 : decode cX4_reading 93 = .ok (.iadd, 1) := by decide +kernel
theorem dX4_reading_94 : decode cX4_reading 94 = .ok (.iload_n 3, 1) := by decide +kernel
theorem dX4_reading_95 : decode cX4_reading 95 = .ok (.iastore, 1) := by decide +kernel
theorem dX4_reading_96 : decode cX4_reading 96 = .ok (.aload_n 0, 1) := by decide +kernel
theorem dX4_reading_97 : decode cX4_reading 97 = .ok (.getfield 7, 3) := by decide +kernel
theorem dX4_reading_100 : decode cX4_reading 100 = .ok (.bipush 127, 2) := by decide +kernel
theorem dX4_reading_102 : decode cX4_reading 102 = .ok (.dup2, 1) := by decide +kernel
theorem dX4_reading_103 : decode cX4_reading 103 = .ok (.iaload, 1) := by decide +kernel
theorem dX4_reading_104 : decode cX4_reading 104 = .ok (.iconst 1, 1) := by decide +kernel
theorem dX4_reading_105 : decode cX4_reading 105 = .ok (.iadd, 1) := by decide +kernel
theorem dX4_reading_106 : decode cX4_reading 106 = .ok (.iastore, 1) := by decide +kernel
theorem dX4_reading_107 : decode cX4_reading 107 = .ok (.aload_n 0, 1) := by decide +kernel
theorem dX4_reading_108 : decode cX4_reading 108 = .ok (.getfield 7, 3) := by decide +kernel
theorem dX4_reading_111 : decode cX4_reading 111 = .ok (.bipush 127, 2) := by decide +kernel
theorem dX4_reading_113 : decode cX4_reading 113 = .ok (.iaload, 1) := by decide +kernel
theorem dX4_reading_114 : decode cX4_reading 114 = .ok (.ireturn, 1) := by decide +kernel
theorem dX4_forget_0 : decode cX4_forget 0 = .ok (.aload_n 0, 1) := by decide +kernel
theorem dX4_forget_1 : decode cX4_forget 1 = .ok (.getfield 7, 3) := by decide +kernel
theorem dX4_forget_4 : decode cX4_forget 4 = .ok (.bipush 127, 2) := by decide +kernel
theorem dX4_forget_6 : decode cX4_forget 6 = .ok (.iaload, 1) := by decide +kernel
theorem dX4_forget_7 : decode cX4_forget 7 = .ok (.istore_n 1, 1) := by decide +kernel
theorem dX4_forget_8 : decode cX4_forget 8 = .ok (.aload_n 0, 1) := by decide +kernel
theorem dX4_forget_9 : decode cX4_forget 9 = .ok (.getfield 7, 3) := by decide +kernel
theorem dX4_forget_12 : decode cX4_forget 12 = .ok (.bipush 127, 2) := by decide +kernel
theorem dX4_forget_14 : decode cX4_forget 14 = .ok (.iconst 0, 1) := by decide +kernel
theorem dX4_forget_15 : decode cX4_forget 15 = .ok (.iastore, 1) := by decide +kernel
theorem dX4_forget_16 : decode cX4_forget 16 = .ok (.iload_n 1, 1) := by decide +kernel
theorem dX4_forget_17 : decode cX4_forget 17 = .ok (.ireturn, 1) := by decide +kernel
theorem dX4_leftOf_0 : decode cX4_leftOf 0 = .ok (.aload_n 0, 1) := by decide +kernel
theorem dX4_leftOf_1 : decode cX4_leftOf 1 = .ok (.getfield 7, 3) := by decide +kernel
theorem dX4_leftOf_4 : decode cX4_leftOf 4 = .ok (.aload_n 0, 1) := by decide +kernel
theorem dX4_leftOf_5 : decode cX4_leftOf 5 = .ok (.iconst 0, 1) := by decide +kernel
theorem dX4_leftOf_6 : decode cX4_leftOf 6 = .ok (.iload_n 1, 1) := by decide +kernel
theorem dX4_leftOf_7 : decode cX4_leftOf 7 = .ok (.invokevirtual 94, 3) := by decide +kernel
theorem dX4_leftOf_10 : decode cX4_leftOf 10 = .ok (.iconst 2, 1) := by decide +kernel
theorem dX4_leftOf_11 : decode cX4_leftOf 11 = .ok (.iadd, 1) := by decide +kernel
theorem dX4_leftOf_12 : decode cX4_leftOf 12 = .ok (.iaload, 1) := by decide +kernel
theorem dX4_leftOf_13 : decode cX4_leftOf 13 = .ok (.istore 4, 2) := by decide +kernel
theorem dX4_leftOf_15 : decode cX4_leftOf 15 = .ok (.iconst 0, 1) := by decide +kernel
theorem dX4_leftOf_16 : decode cX4_leftOf 16 = .ok (.istore 5, 2) := by decide +kernel
theorem dX4_leftOf_18 : decode cX4_leftOf 18 = .ok (.iload 5, 2) := by decide +kernel
theorem dX4_leftOf_20 : decode cX4_leftOf 20 = .ok (.iload_n 3, 1) := by decide +kernel
theorem dX4_leftOf_21 : decode cX4_leftOf 21 = .ok (.if_icmp .ge 36, 3) := by decide +kernel
theorem dX4_leftOf_24 : decode cX4_leftOf 24 = .ok (.iload 4, 2) := by decide +kernel
theorem dX4_leftOf_26 : decode cX4_leftOf 26 = .ok (.iload_n 2, 1) := by decide +kernel
theorem dX4_leftOf_27 : decode cX4_leftOf 27 = .ok (.aload_n 0, 1) := by decide +kernel
theorem dX4_leftOf_28 : decode cX4_leftOf 28 = .ok (.getfield 7, 3) := by decide +kernel
theorem dX4_leftOf_31 : decode cX4_leftOf 31 = .ok (.bipush 118, 2) := by decide +kernel
theorem dX4_leftOf_33 : decode cX4_leftOf 33 = .ok (.iload_n 1, 1) := by decide +kernel
theorem dX4_leftOf_34 : decode cX4_leftOf 34 = .ok (.iadd, 1) := by decide +kernel
theorem dX4_leftOf_35 : decode cX4_leftOf 35 = .ok (.iaload, 1) := by decide +kernel
theorem dX4_leftOf_36 : decode cX4_leftOf 36 = .ok (.aload_n 0, 1) := by decide +kernel
theorem dX4_leftOf_37 : decode cX4_leftOf 37 = .ok (.getfield 7, 3) := by decide +kernel
theorem dX4_leftOf_40 : decode cX4_leftOf 40 = .ok (.iconst 0, 1) := by decide +kernel
theorem dX4_leftOf_41 : decode cX4_leftOf 41 = .ok (.iaload, 1) := by decide +kernel
theorem dX4_leftOf_42 : decode cX4_leftOf 42 = .ok (.iload 5, 2) := by decide +kernel
theorem dX4_leftOf_44 : decode cX4_leftOf 44 = .ok (.iadd, 1) := by decide +kernel
theorem dX4_leftOf_45 : decode cX4_leftOf 45 = .ok (.invokestatic 97, 3) := by decide +kernel
theorem dX4_leftOf_48 : decode cX4_leftOf 48 = .ok (.isub, 1) := by decide +kernel
theorem dX4_leftOf_49 : decode cX4_leftOf 49 = .ok (.istore 4, 2) := by decide +kernel
theorem dX4_leftOf_51 : decode cX4_leftOf 51 = .ok (.iinc 5 1, 3) := by decide +kernel
theorem dX4_leftOf_54 : decode cX4_leftOf 54 = .ok (.goto (-36), 3) := by decide +kernel
theorem dX4_leftOf_57 : decode cX4_leftOf 57 = .ok (.iload 4, 2) := by decide +kernel
theorem dX4_leftOf_59 : decode cX4_leftOf 59 = .ok (.ifCond .ge 7, 3) := by decide +kernel
theorem dX4_leftOf_62 : decode cX4_leftOf 62 = .ok (.iconst 0, 1) := by decide +kernel
theorem dX4_leftOf_63 : decode cX4_leftOf 63 = .ok (.goto 5, 3) := by decide +kernel
theorem dX4_leftOf_66 : decode cX4_leftOf 66 = .ok (.iload 4, 2) := by decide +kernel
theorem dX4_leftOf_68 : decode cX4_leftOf 68 = .ok (.ireturn, 1) := by decide +kernel
theorem dX4_kindsOf_0 : decode cX4_kindsOf 0 = .ok (.iconst 0, 1) := by decide +kernel
theorem dX4_kindsOf_1 : decode cX4_kindsOf 1 = .ok (.istore_n 2, 1) := by decide +kernel
theorem dX4_kindsOf_2 : decode cX4_kindsOf 2 = .ok (.iconst 0, 1) := by decide +kernel
theorem dX4_kindsOf_3 : decode cX4_kindsOf 3 = .ok (.istore_n 3, 1) := by decide +kernel
theorem dX4_kindsOf_4 : decode cX4_kindsOf 4 = .ok (.iload_n 3, 1) := by decide +kernel
theorem dX4_kindsOf_5 : decode cX4_kindsOf 5 = .ok (.bipush 6, 2) := by decide +kernel
theorem dX4_kindsOf_7 : decode cX4_kindsOf 7 = .ok (.if_icmp .ge 119, 3) := by decide +kernel
theorem dX4_kindsOf_10 : decode cX4_kindsOf 10 = .ok (.aload_n 0, 1) := by decide +kernel
theorem dX4_kindsOf_11 : decode cX4_kindsOf 11 = .ok (.getfield 7, 3) := by decide +kernel
theorem dX4_kindsOf_14 : decode cX4_kindsOf 14 = .ok (.iconst 1, 1) := by decide +kernel
theorem dX4_kindsOf_15 : decode cX4_kindsOf 15 = .ok (.iload_n 1, 1) := by decide +kernel
theorem dX4_kindsOf_16 : decode cX4_kindsOf 16 = .ok (.iadd, 1) := by decide +kernel
theorem dX4_kindsOf_17 : decode cX4_kindsOf 17 = .ok (.iaload, 1) := by decide +kernel
theorem dX4_kindsOf_18 : decode cX4_kindsOf 18 = .ok (.ifCond .le 108, 3) := by decide +kernel
theorem dX4_kindsOf_21 : decode cX4_kindsOf 21 = .ok (.iconst 1, 1) := by decide +kernel
theorem dX4_kindsOf_22 : decode cX4_kindsOf 22 = .ok (.istore 4, 2) := by decide +kernel
theorem dX4_kindsOf_24 : decode cX4_kindsOf 24 = .ok (.iconst 0, 1) := by decide +kernel
theorem dX4_kindsOf_25 : decode cX4_kindsOf 25 = .ok (.istore 5, 2) := by decide +kernel
theorem dX4_kindsOf_27 : decode cX4_kindsOf 27 = .ok (.iload 5, 2) := by decide +kernel
theorem dX4_kindsOf_29 : decode cX4_kindsOf 29 = .ok (.aload_n 0, 1) := by decide +kernel
theorem dX4_kindsOf_30 : decode cX4_kindsOf 30 = .ok (.getfield 7, 3) := by decide +kernel
theorem dX4_kindsOf_33 : decode cX4_kindsOf 33 = .ok (.bipush 127, 2) := by decide +kernel
theorem dX4_kindsOf_35 : decode cX4_kindsOf 35 = .ok (.iaload, 1) := by decide +kernel
theorem dX4_kindsOf_36 : decode cX4_kindsOf 36 = .ok (.if_icmp .ge 69, 3) := by decide +kernel
theorem dX4_kindsOf_39 : decode cX4_kindsOf 39 = .ok (.sipush 128, 3) := by decide +kernel
theorem dX4_kindsOf_42 : decode cX4_kindsOf 42 = .ok (.iconst 3, 1) := by decide +kernel
theorem dX4_kindsOf_43 : decode cX4_kindsOf 43 = .ok (.iload 5, 2) := by decide +kernel
theorem dX4_kindsOf_45 : decode cX4_kindsOf 45 = .ok (.imul, 1) := by decide +kernel
theorem dX4_kindsOf_46 : decode cX4_kindsOf 46 = .ok (.iadd, 1) := by decide +kernel
theorem dX4_kindsOf_47 : decode cX4_kindsOf 47 = .ok (.istore 6, 2) := by decide +kernel
theorem dX4_kindsOf_49 : decode cX4_kindsOf 49 = .ok (.iload 4, 2) := by decide +kernel
theorem dX4_kindsOf_51 : decode cX4_kindsOf 51 = .ok (.ifCond .eq 45, 3) := by decide +kernel
theorem dX4_kindsOf_54 : decode cX4_kindsOf 54 = .ok (.aload_n 0, 1) := by decide +kernel
theorem dX4_kindsOf_55 : decode cX4_kindsOf 55 = .ok (.getfield 7, 3) := by decide +kernel
theorem dX4_kindsOf_58 : decode cX4_kindsOf 58 = .ok (.iload 6, 2) := by decide +kernel
theorem dX4_kindsOf_60 : decode cX4_kindsOf 60 = .ok (.iaload, 1) := by decide +kernel
theorem dX4_kindsOf_61 : decode cX4_kindsOf 61 = .ok (.iload_n 1, 1) := by decide +kernel
theorem dX4_kindsOf_62 : decode cX4_kindsOf 62 = .ok (.if_icmp .ne 30, 3) := by decide +kernel
theorem dX4_kindsOf_65 : decode cX4_kindsOf 65 = .ok (.aload_n 0, 1) := by decide +kernel
theorem dX4_kindsOf_66 : decode cX4_kindsOf 66 = .ok (.iload_n 1, 1) := by decide +kernel
theorem dX4_kindsOf_67 : decode cX4_kindsOf 67 = .ok (.iload_n 3, 1) := by decide +kernel
theorem dX4_kindsOf_68 : decode cX4_kindsOf 68 = .ok (.aload_n 0, 1) := by decide +kernel
theorem dX4_kindsOf_69 : decode cX4_kindsOf 69 = .ok (.getfield 7, 3) := by decide +kernel
theorem dX4_kindsOf_72 : decode cX4_kindsOf 72 = .ok (.iload 6, 2) := by decide +kernel
theorem dX4_kindsOf_74 : decode cX4_kindsOf 74 = .ok (.iconst 1, 1) := by decide +kernel
theorem dX4_kindsOf_75 : decode cX4_kindsOf 75 = .ok (.iadd, 1) := by decide +kernel
theorem dX4_kindsOf_76 : decode cX4_kindsOf 76 = .ok (.iaload, 1) := by decide +kernel
theorem dX4_kindsOf_77 : decode cX4_kindsOf 77 = .ok (.invokevirtual 218, 3) := by decide +kernel
theorem dX4_kindsOf_80 : decode cX4_kindsOf 80 = .ok (.aload_n 0, 1) := by decide +kernel
theorem dX4_kindsOf_81 : decode cX4_kindsOf 81 = .ok (.getfield 7, 3) := by decide +kernel
theorem dX4_kindsOf_84 : decode cX4_kindsOf 84 = .ok (.iload 6, 2) := by decide +kernel
theorem dX4_kindsOf_86 : decode cX4_kindsOf 86 = .ok (.iconst 2, 1) := by decide +kernel
theorem dX4_kindsOf_87 : decode cX4_kindsOf 87 = .ok (.iadd, 1) := by decide +kernel
theorem dX4_kindsOf_88 : decode cX4_kindsOf 88 = .ok (.iaload, 1) := by decide +kernel
theorem dX4_kindsOf_89 : decode cX4_kindsOf 89 = .ok (.if_icmp .ne 7, 3) := by decide +kernel
theorem dX4_kindsOf_92 : decode cX4_kindsOf 92 = .ok (.iconst 1, 1) := by decide +kernel
theorem dX4_kindsOf_93 : decode cX4_kindsOf 93 = .ok (.goto 4, 3) := by decide +kernel
theorem dX4_kindsOf_96 : decode cX4_kindsOf 96 = .ok (.iconst 0, 1) := by decide +kernel
theorem dX4_kindsOf_97 : decode cX4_kindsOf 97 = .ok (.istore 4, 2) := by decide +kernel
theorem dX4_kindsOf_99 : decode cX4_kindsOf 99 = .ok (.iinc 5 1, 3) := by decide +kernel
theorem dX4_kindsOf_102 : decode cX4_kindsOf 102 = .ok (.goto (-75), 3) := by decide +kernel
theorem dX4_kindsOf_105 : decode cX4_kindsOf 105 = .ok (.iload_n 2, 1) := by decide +kernel
theorem dX4_kindsOf_106 : decode cX4_kindsOf 106 = .ok (.iload 4, 2) := by decide +kernel
theorem dX4_kindsOf_108 : decode cX4_kindsOf 108 = .ok (.ifCond .eq 9, 3) := by decide +kernel
theorem dX4_kindsOf_111 : decode cX4_kindsOf 111 = .ok (.iconst 1, 1) := by decide +kernel
theorem dX4_kindsOf_112 : decode cX4_kindsOf 112 = .ok (.iload_n 3, 1) := by decide +kernel
theorem dX4_kindsOf_113 : decode cX4_kindsOf 113 = .ok (.ishl, 1) := by decide +kernel
theorem dX4_kindsOf_114 : decode cX4_kindsOf 114 = .ok (.goto 4, 3) := by decide +kernel
theorem dX4_kindsOf_117 : decode cX4_kindsOf 117 = .ok (.iconst 0, 1) := by decide +kernel
theorem dX4_kindsOf_118 : decode cX4_kindsOf 118 = .ok (.ior, 1) := by decide +kernel
theorem dX4_kindsOf_119 : decode cX4_kindsOf 119 = .ok (.istore_n 2, 1) := by decide +kernel
theorem dX4_kindsOf_120 : decode cX4_kindsOf 120 = .ok (.iinc 3 1, 3) := by decide +kernel
theorem dX4_kindsOf_123 : decode cX4_kindsOf 123 = .ok (.goto (-119), 3) := by decide +kernel
theorem dX4_kindsOf_126 : decode cX4_kindsOf 126 = .ok (.iload_n 2, 1) := by decide +kernel
theorem dX4_kindsOf_127 : decode cX4_kindsOf 127 = .ok (.ireturn, 1) := by decide +kernel
theorem dX4_may_0 : decode cX4_may 0 = .ok (.iload_n 1, 1) := by decide +kernel
theorem dX4_may_1 : decode cX4_may 1 = .ok (.invokestatic 49, 3) := by decide +kernel
theorem dX4_may_4 : decode cX4_may 4 = .ok (.ifCond .eq 11, 3) := by decide +kernel
theorem dX4_may_7 : decode cX4_may 7 = .ok (.aload_n 0, 1) := by decide +kernel
theorem dX4_may_8 : decode cX4_may 8 = .ok (.iload_n 1, 1) := by decide +kernel
theorem dX4_may_9 : decode cX4_may 9 = .ok (.invokevirtual 221, 3) := by decide +kernel
theorem dX4_may_12 : decode cX4_may 12 = .ok (.goto 7, 3) := by decide +kernel
theorem dX4_may_15 : decode cX4_may 15 = .ok (.aload_n 0, 1) := by decide +kernel
theorem dX4_may_16 : decode cX4_may 16 = .ok (.invokevirtual 65, 3) := by decide +kernel
theorem dX4_may_19 : decode cX4_may 19 = .ok (.ireturn, 1) := by decide +kernel
theorem dX4_look_0 : decode cX4_look 0 = .ok (.iload_n 1, 1) := by decide +kernel
theorem dX4_look_1 : decode cX4_look 1 = .ok (.invokestatic 49, 3) := by decide +kernel
theorem dX4_look_4 : decode cX4_look 4 = .ok (.ifCond .ne 8, 3) := by decide +kernel
theorem dX4_look_7 : decode cX4_look 7 = .ok (.aload_n 0, 1) := by decide +kernel
theorem dX4_look_8 : decode cX4_look 8 = .ok (.invokevirtual 65, 3) := by decide +kernel
theorem dX4_look_11 : decode cX4_look 11 = .ok (.ireturn, 1) := by decide +kernel
theorem dX4_look_12 : decode cX4_look 12 = .ok (.aload_n 0, 1) := by decide +kernel
theorem dX4_look_13 : decode cX4_look 13 = .ok (.iload_n 1, 1) := by decide +kernel
theorem dX4_look_14 : decode cX4_look 14 = .ok (.invokevirtual 221, 3) := by decide +kernel
theorem dX4_look_17 : decode cX4_look 17 = .ok (.istore_n 2, 1) := by decide +kernel
theorem dX4_look_18 : decode cX4_look 18 = .ok (.iconst (-1), 1) := by decide +kernel
theorem dX4_look_19 : decode cX4_look 19 = .ok (.istore_n 3, 1) := by decide +kernel
theorem dX4_look_20 : decode cX4_look 20 = .ok (.bipush 7, 2) := by decide +kernel
theorem dX4_look_22 : decode cX4_look 22 = .ok (.istore 4, 2) := by decide +kernel
theorem dX4_look_24 : decode cX4_look 24 = .ok (.iconst 0, 1) := by decide +kernel
theorem dX4_look_25 : decode cX4_look 25 = .ok (.istore 5, 2) := by decide +kernel
theorem dX4_look_27 : decode cX4_look 27 = .ok (.iload 5, 2) := by decide +kernel
theorem dX4_look_29 : decode cX4_look 29 = .ok (.bipush 20, 2) := by decide +kernel
theorem dX4_look_31 : decode cX4_look 31 = .ok (.if_icmp .gt 158, 3) := by decide +kernel
theorem dX4_look_34 : decode cX4_look 34 = .ok (.iload_n 2, 1) := by decide +kernel
theorem dX4_look_35 : decode cX4_look 35 = .ok (.ifCond .eq 154, 3) := by decide +kernel
theorem dX4_look_38 : decode cX4_look 38 = .ok (.iconst 0, 1) := by decide +kernel
theorem dX4_look_39 : decode cX4_look 39 = .ok (.istore 6, 2) := by decide +kernel
theorem dX4_look_41 : decode cX4_look 41 = .ok (.iconst 0, 1) := by decide +kernel
theorem dX4_look_42 : decode cX4_look 42 = .ok (.istore 7, 2) := by decide +kernel
theorem dX4_look_44 : decode cX4_look 44 = .ok (.iload 7, 2) := by decide +kernel
theorem dX4_look_46 : decode cX4_look 46 = .ok (.bipush 6, 2) := by decide +kernel
theorem dX4_look_48 : decode cX4_look 48 = .ok (.if_icmp .ge 105, 3) := by decide +kernel
theorem dX4_look_51 : decode cX4_look 51 = .ok (.iconst 0, 1) := by decide +kernel
theorem dX4_look_52 : decode cX4_look 52 = .ok (.istore 8, 2) := by decide +kernel
theorem dX4_look_54 : decode cX4_look 54 = .ok (.iconst 0, 1) := by decide +kernel
theorem dX4_look_55 : decode cX4_look 55 = .ok (.istore 9, 2) := by decide +kernel
theorem dX4_look_57 : decode cX4_look 57 = .ok (.iload 9, 2) := by decide +kernel
theorem dX4_look_59 : decode cX4_look 59 = .ok (.bipush 6, 2) := by decide +kernel
theorem dX4_look_61 : decode cX4_look 61 = .ok (.if_icmp .ge 70, 3) := by decide +kernel
theorem dX4_look_64 : decode cX4_look 64 = .ok (.iload_n 2, 1) := by decide +kernel
theorem dX4_look_65 : decode cX4_look 65 = .ok (.iload 7, 2) := by decide +kernel
theorem dX4_look_67 : decode cX4_look 67 = .ok (.invokestatic 224, 3) := by decide +kernel
theorem dX4_look_70 : decode cX4_look 70 = .ok (.ifCond .eq 16, 3) := by decide +kernel
theorem dX4_look_73 : decode cX4_look 73 = .ok (.iload_n 2, 1) := by decide +kernel
theorem dX4_look_74 : decode cX4_look 74 = .ok (.iload 9, 2) := by decide +kernel
theorem dX4_look_76 : decode cX4_look 76 = .ok (.invokestatic 224, 3) := by decide +kernel
theorem dX4_look_79 : decode cX4_look 79 = .ok (.ifCond .eq 7, 3) := by decide +kernel
theorem dX4_look_82 : decode cX4_look 82 = .ok (.iconst 1, 1) := by decide +kernel
theorem dX4_look_83 : decode cX4_look 83 = .ok (.goto 4, 3) := by decide +kernel
theorem dX4_look_86 : decode cX4_look 86 = .ok (.iconst 0, 1) := by decide +kernel
theorem dX4_look_87 : decode cX4_look 87 = .ok (.istore 10, 2) := by decide +kernel
theorem dX4_look_89 : decode cX4_look 89 = .ok (.iload 8, 2) := by decide +kernel
theorem dX4_look_91 : decode cX4_look 91 = .ok (.iload 10, 2) := by decide +kernel
theorem dX4_look_93 : decode cX4_look 93 = .ok (.ifCond .eq 28, 3) := by decide +kernel
theorem dX4_look_96 : decode cX4_look 96 = .ok (.aload_n 0, 1) := by decide +kernel
theorem dX4_look_97 : decode cX4_look 97 = .ok (.iload_n 1, 1) := by decide +kernel
theorem dX4_look_98 : decode cX4_look 98 = .ok (.iload 7, 2) := by decide +kernel
theorem dX4_look_100 : decode cX4_look 100 = .ok (.iload 5, 2) := by decide +kernel
theorem dX4_look_102 : decode cX4_look 102 = .ok (.invokevirtual 218, 3) := by decide +kernel
theorem dX4_look_105 : decode cX4_look 105 = .ok (.aload_n 0, 1) := by decide +kernel
theorem dX4_look_106 : decode cX4_look 106 = .ok (.iload_n 1, 1) := by decide +kernel
theorem dX4_look_107 : decode cX4_look 107 = .ok (.iload 9, 2) := by decide +kernel
theorem dX4_look_109 : decode cX4_look 109 = .ok (.iload 5, 2) := by decide +kernel
theorem dX4_look_111 : decode cX4_look 111 = .ok (.invokevirtual 218, 3) := by decide +kernel
theorem dX4_look_114 : decode cX4_look 114 = .ok (.if_icmp .ne 7, 3) := by decide +kernel
theorem dX4_look_117 : decode cX4_look 117 = .ok (.iconst 1, 1) := by decide +kernel
theorem dX4_look_118 : decode cX4_look 118 = .ok (.goto 4, 3) := by decide +kernel
theorem dX4_look_121 : decode cX4_look 121 = .ok (.iconst 0, 1) := by decide +kernel
theorem dX4_look_122 : decode cX4_look 122 = .ok (.iadd, 1) := by decide +kernel
theorem dX4_look_123 : decode cX4_look 123 = .ok (.istore 8, 2) := by decide +kernel
theorem dX4_look_125 : decode cX4_look 125 = .ok (.iinc 9 1, 3) := by decide +kernel
theorem dX4_look_128 : decode cX4_look 128 = .ok (.goto (-71), 3) := by decide +kernel
theorem dX4_look_131 : decode cX4_look 131 = .ok (.iload 8, 2) := by decide +kernel
theorem dX4_look_133 : decode cX4_look 133 = .ok (.iload 6, 2) := by decide +kernel
theorem dX4_look_135 : decode cX4_look 135 = .ok (.if_icmp .le 8, 3) := by decide +kernel
theorem dX4_look_138 : decode cX4_look 138 = .ok (.iload 8, 2) := by decide +kernel
theorem dX4_look_140 : decode cX4_look 140 = .ok (.goto 5, 3) := by decide +kernel
theorem dX4_look_143 : decode cX4_look 143 = .ok (.iload 6, 2) := by decide +kernel
theorem dX4_look_145 : decode cX4_look 145 = .ok (.istore 6, 2) := by decide +kernel
theorem dX4_look_147 : decode cX4_look 147 = .ok (.iinc 7 1, 3) := by decide +kernel
theorem dX4_look_150 : decode cX4_look 150 = .ok (.goto (-106), 3) := by decide +kernel
theorem dX4_look_153 : decode cX4_look 153 = .ok (.iload 6, 2) := by decide +kernel
theorem dX4_look_155 : decode cX4_look 155 = .ok (.iload 4, 2) := by decide +kernel
theorem dX4_look_157 : decode cX4_look 157 = .ok (.if_icmp .ge 8, 3) := by decide +kernel
theorem dX4_look_160 : decode cX4_look 160 = .ok (.iload 5, 2) := by decide +kernel
theorem dX4_look_162 : decode cX4_look 162 = .ok (.goto 4, 3) := by decide +kernel
theorem dX4_look_165 : decode cX4_look 165 = .ok (.iload_n 3, 1) := by decide +kernel
theorem dX4_look_166 : decode cX4_look 166 = .ok (.istore_n 3, 1) := by decide +kernel
theorem dX4_look_167 : decode cX4_look 167 = .ok (.iload 6, 2) := by decide +kernel
theorem dX4_look_169 : decode cX4_look 169 = .ok (.iload 4, 2) := by decide +kernel
theorem dX4_look_171 : decode cX4_look 171 = .ok (.if_icmp .ge 8, 3) := by decide +kernel
theorem dX4_look_174 : decode cX4_look 174 = .ok (.iload 6, 2) := by decide +kernel
theorem dX4_look_176 : decode cX4_look 176 = .ok (.goto 5, 3) := by decide +kernel
theorem dX4_look_179 : decode cX4_look 179 = .ok (.iload 4, 2) := by decide +kernel
theorem dX4_look_181 : decode cX4_look 181 = .ok (.istore 4, 2) := by decide +kernel
theorem dX4_look_183 : decode cX4_look 183 = .ok (.iinc 5 1, 3) := by decide +kernel
theorem dX4_look_186 : decode cX4_look 186 = .ok (.goto (-159), 3) := by decide +kernel
theorem dX4_look_189 : decode cX4_look 189 = .ok (.iload_n 3, 1) := by decide +kernel
theorem dX4_look_190 : decode cX4_look 190 = .ok (.ireturn, 1) := by decide +kernel
theorem dX4_yearOf_0 : decode cX4_yearOf 0 = .ok (.aload_n 0, 1) := by decide +kernel
theorem dX4_yearOf_1 : decode cX4_yearOf 1 = .ok (.getfield 7, 3) := by decide +kernel
theorem dX4_yearOf_4 : decode cX4_yearOf 4 = .ok (.aload_n 0, 1) := by decide +kernel
theorem dX4_yearOf_5 : decode cX4_yearOf 5 = .ok (.getfield 33, 3) := by decide +kernel
theorem dX4_yearOf_8 : decode cX4_yearOf 8 = .ok (.iload_n 1, 1) := by decide +kernel
theorem dX4_yearOf_9 : decode cX4_yearOf 9 = .ok (.iaload, 1) := by decide +kernel
theorem dX4_yearOf_10 : decode cX4_yearOf 10 = .ok (.bipush 10, 2) := by decide +kernel
theorem dX4_yearOf_12 : decode cX4_yearOf 12 = .ok (.idiv, 1) := by decide +kernel
theorem dX4_yearOf_13 : decode cX4_yearOf 13 = .ok (.aload_n 0, 1) := by decide +kernel
theorem dX4_yearOf_14 : decode cX4_yearOf 14 = .ok (.getfield 33, 3) := by decide +kernel
theorem dX4_yearOf_17 : decode cX4_yearOf 17 = .ok (.iload_n 1, 1) := by decide +kernel
theorem dX4_yearOf_18 : decode cX4_yearOf 18 = .ok (.iaload, 1) := by decide +kernel
theorem dX4_yearOf_19 : decode cX4_yearOf 19 = .ok (.bipush 10, 2) := by decide +kernel
theorem dX4_yearOf_21 : decode cX4_yearOf 21 = .ok (.irem, 1) := by decide +kernel
theorem dX4_yearOf_22 : decode cX4_yearOf 22 = .ok (.invokestatic 59, 3) := by decide +kernel
theorem dX4_yearOf_25 : decode cX4_yearOf 25 = .ok (.iconst 3, 1) := by decide +kernel
theorem dX4_yearOf_26 : decode cX4_yearOf 26 = .ok (.iadd, 1) := by decide +kernel
theorem dX4_yearOf_27 : decode cX4_yearOf 27 = .ok (.iaload, 1) := by decide +kernel
theorem dX4_yearOf_28 : decode cX4_yearOf 28 = .ok (.ireturn, 1) := by decide +kernel
theorem dX4_canCome_0 : decode cX4_canCome 0 = .ok (.iload_n 1, 1) := by decide +kernel
theorem dX4_canCome_1 : decode cX4_canCome 1 = .ok (.iload_n 2, 1) := by decide +kernel
theorem dX4_canCome_2 : decode cX4_canCome 2 = .ok (.invokestatic 224, 3) := by decide +kernel
theorem dX4_canCome_5 : decode cX4_canCome 5 = .ok (.ifCond .ne 7, 3) := by decide +kernel
theorem dX4_canCome_8 : decode cX4_canCome 8 = .ok (.iconst 1, 1) := by decide +kernel
theorem dX4_canCome_9 : decode cX4_canCome 9 = .ok (.goto 4, 3) := by decide +kernel
theorem dX4_canCome_12 : decode cX4_canCome 12 = .ok (.iconst 0, 1) := by decide +kernel
theorem dX4_canCome_13 : decode cX4_canCome 13 = .ok (.istore_n 3, 1) := by decide +kernel
theorem dX4_canCome_14 : decode cX4_canCome 14 = .ok (.iconst 0, 1) := by decide +kernel
theorem dX4_canCome_15 : decode cX4_canCome 15 = .ok (.istore 4, 2) := by decide +kernel
theorem dX4_canCome_17 : decode cX4_canCome 17 = .ok (.iload 4, 2) := by decide +kernel
theorem dX4_canCome_19 : decode cX4_canCome 19 = .ok (.aload_n 0, 1) := by decide +kernel
theorem dX4_canCome_20 : decode cX4_canCome 20 = .ok (.getfield 228, 3) := by decide +kernel
theorem dX4_canCome_23 : decode cX4_canCome 23 = .ok (.if_icmp .ge 82, 3) := by decide +kernel
theorem dX4_canCome_26 : decode cX4_canCome 26 = .ok (.aload_n 0, 1) := by decide +kernel
theorem dX4_canCome_27 : decode cX4_canCome 27 = .ok (.getfield 33, 3) := by decide +kernel
theorem dX4_canCome_30 : decode cX4_canCome 30 = .ok (.iload 4, 2) := by decide +kernel
theorem dX4_canCome_32 : decode cX4_canCome 32 = .ok (.iaload, 1) := by decide +kernel
theorem dX4_canCome_33 : decode cX4_canCome 33 = .ok (.bipush 10, 2) := by decide +kernel
theorem dX4_canCome_35 : decode cX4_canCome 35 = .ok (.idiv, 1) := by decide +kernel
theorem dX4_canCome_36 : decode cX4_canCome 36 = .ok (.aload_n 0, 1) := by decide +kernel
theorem dX4_canCome_37 : decode cX4_canCome 37 = .ok (.getfield 33, 3) := by decide +kernel
theorem dX4_canCome_40 : decode cX4_canCome 40 = .ok (.iload_n 2, 1) := by decide +kernel
theorem dX4_canCome_41 : decode cX4_canCome 41 = .ok (.iaload, 1) := by decide +kernel
theorem dX4_canCome_42 : decode cX4_canCome 42 = .ok (.bipush 10, 2) := by decide +kernel
theorem dX4_canCome_44 : decode cX4_canCome 44 = .ok (.idiv, 1) := by decide +kernel
theorem dX4_canCome_45 : decode cX4_canCome 45 = .ok (.if_icmp .ne 13, 3) := by decide +kernel
theorem dX4_canCome_48 : decode cX4_canCome 48 = .ok (.iload 4, 2) := by decide +kernel
theorem dX4_canCome_50 : decode cX4_canCome 50 = .ok (.iload_n 2, 1) := by decide +kernel
theorem dX4_canCome_51 : decode cX4_canCome 51 = .ok (.if_icmp .ge 7, 3) := by decide +kernel
theorem dX4_canCome_54 : decode cX4_canCome 54 = .ok (.iconst 1, 1) := by decide +kernel
theorem dX4_canCome_55 : decode cX4_canCome 55 = .ok (.goto 4, 3) := by decide +kernel
theorem dX4_canCome_58 : decode cX4_canCome 58 = .ok (.iconst 0, 1) := by decide +kernel
theorem dX4_canCome_59 : decode cX4_canCome 59 = .ok (.istore 5, 2) := by decide +kernel
theorem dX4_canCome_61 : decode cX4_canCome 61 = .ok (.iload_n 3, 1) := by decide +kernel
theorem dX4_canCome_62 : decode cX4_canCome 62 = .ok (.ifCond .eq 35, 3) := by decide +kernel
theorem dX4_canCome_65 : decode cX4_canCome 65 = .ok (.iload_n 1, 1) := by decide +kernel
theorem dX4_canCome_66 : decode cX4_canCome 66 = .ok (.iload 4, 2) := by decide +kernel
theorem dX4_canCome_68 : decode cX4_canCome 68 = .ok (.invokestatic 224, 3) := by decide +kernel
theorem dX4_canCome_71 : decode cX4_canCome 71 = .ok (.ifCond .ne 22, 3) := by decide +kernel
theorem dX4_canCome_74 : decode cX4_canCome 74 = .ok (.iload 5, 2) := by decide +kernel
theorem dX4_canCome_76 : decode cX4_canCome 76 = .ok (.ifCond .ne 21, 3) := by decide +kernel
theorem dX4_canCome_79 : decode cX4_canCome 79 = .ok (.aload_n 0, 1) := by decide +kernel
theorem dX4_canCome_80 : decode cX4_canCome 80 = .ok (.iload 4, 2) := by decide +kernel
theorem dX4_canCome_82 : decode cX4_canCome 82 = .ok (.invokevirtual 231, 3) := by decide +kernel
theorem dX4_canCome_85 : decode cX4_canCome 85 = .ok (.aload_n 0, 1) := by decide +kernel
theorem dX4_canCome_86 : decode cX4_canCome 86 = .ok (.iload_n 2, 1) := by decide +kernel
theorem dX4_canCome_87 : decode cX4_canCome 87 = .ok (.invokevirtual 231, 3) := by decide +kernel
theorem dX4_canCome_90 : decode cX4_canCome 90 = .ok (.if_icmp .lt 7, 3) := by decide +kernel
theorem dX4_canCome_93 : decode cX4_canCome 93 = .ok (.iconst 1, 1) := by decide +kernel
theorem dX4_canCome_94 : decode cX4_canCome 94 = .ok (.goto 4, 3) := by decide +kernel
theorem dX4_canCome_97 : decode cX4_canCome 97 = .ok (.iconst 0, 1) := by decide +kernel
theorem dX4_canCome_98 : decode cX4_canCome 98 = .ok (.istore_n 3, 1) := by decide +kernel
theorem dX4_canCome_99 : decode cX4_canCome 99 = .ok (.iinc 4 1, 3) := by decide +kernel
theorem dX4_canCome_102 : decode cX4_canCome 102 = .ok (.goto (-85), 3) := by decide +kernel
theorem dX4_canCome_105 : decode cX4_canCome 105 = .ok (.iload_n 3, 1) := by decide +kernel
theorem dX4_canCome_106 : decode cX4_canCome 106 = .ok (.ireturn, 1) := by decide +kernel
theorem dX4_orders_0 : decode cX4_orders 0 = .ok (.iload_n 1, 1) := by decide +kernel
theorem dX4_orders_1 : decode cX4_orders 1 = .ok (.i2l, 1) := by decide +kernel
theorem dX4_orders_2 : decode cX4_orders 2 = .ok (.lconst 0, 1) := by decide +kernel
theorem dX4_orders_3 : decode cX4_orders 3 = .ok (.ldc2_w 234, 3) := by decide +kernel
theorem dX4_orders_6 : decode cX4_orders 6 = .ok (.invokestatic 45, 3) := by decide +kernel
theorem dX4_orders_9 : decode cX4_orders 9 = .ok (.ifCond .eq 8, 3) := by decide +kernel
theorem dX4_orders_12 : decode cX4_orders 12 = .ok (.iload_n 2, 1) := by decide +kernel
theorem dX4_orders_13 : decode cX4_orders 13 = .ok (.iconst (-1), 1) := by decide +kernel
theorem dX4_orders_14 : decode cX4_orders 14 = .ok (.if_icmp .ge 10, 3) := by decide +kernel
theorem dX4_orders_17 : decode cX4_orders 17 = .ok (.aload_n 0, 1) := by decide +kernel
theorem dX4_orders_18 : decode cX4_orders 18 = .ok (.bipush (-10), 2) := by decide +kernel
theorem dX4_orders_20 : decode cX4_orders 20 = .ok (.invokevirtual 236, 3) := by decide +kernel
theorem dX4_orders_23 : decode cX4_orders 23 = .ok (.ireturn, 1) := by decide +kernel
theorem dX4_orders_24 : decode cX4_orders 24 = .ok (.aload_n 0, 1) := by decide +kernel
theorem dX4_orders_25 : decode cX4_orders 25 = .ok (.iconst 0, 1) := by decide +kernel
theorem dX4_orders_26 : decode cX4_orders 26 = .ok (.putfield 228, 3) := by decide +kernel
theorem dX4_orders_29 : decode cX4_orders 29 = .ok (.iconst 0, 1) := by decide +kernel
theorem dX4_orders_30 : decode cX4_orders 30 = .ok (.istore_n 3, 1) := by decide +kernel
theorem dX4_orders_31 : decode cX4_orders 31 = .ok (.iload_n 3, 1) := by decide +kernel
theorem dX4_orders_32 : decode cX4_orders 32 = .ok (.bipush 9, 2) := by decide +kernel
theorem dX4_orders_34 : decode cX4_orders 34 = .ok (.if_icmp .ge 65, 3) := by decide +kernel
theorem dX4_orders_37 : decode cX4_orders 37 = .ok (.iconst 0, 1) := by decide +kernel
theorem dX4_orders_38 : decode cX4_orders 38 = .ok (.istore 4, 2) := by decide +kernel
theorem dX4_orders_40 : decode cX4_orders 40 = .ok (.iload 4, 2) := by decide +kernel
theorem dX4_orders_42 : decode cX4_orders 42 = .ok (.aload_n 0, 1) := by decide +kernel
theorem dX4_orders_43 : decode cX4_orders 43 = .ok (.getfield 7, 3) := by decide +kernel
theorem dX4_orders_46 : decode cX4_orders 46 = .ok (.iconst 1, 1) := by decide +kernel
theorem dX4_orders_47 : decode cX4_orders 47 = .ok (.iload_n 3, 1) := by decide +kernel
theorem dX4_orders_48 : decode cX4_orders 48 = .ok (.iadd, 1) := by decide +kernel
theorem dX4_orders_49 : decode cX4_orders 49 = .ok (.iaload, 1) := by decide +kernel
theorem dX4_orders_50 : decode cX4_orders 50 = .ok (.if_icmp .ge 43, 3) := by decide +kernel
theorem dX4_orders_53 : decode cX4_orders 53 = .ok (.iload_n 1, 1) := by decide +kernel
theorem dX4_orders_54 : decode cX4_orders 54 = .ok (.iload_n 3, 1) := by decide +kernel
theorem dX4_orders_55 : decode cX4_orders 55 = .ok (.invokestatic 224, 3) := by decide +kernel
theorem dX4_orders_58 : decode cX4_orders 58 = .ok (.ifCond .eq 35, 3) := by decide +kernel
theorem dX4_orders_61 : decode cX4_orders 61 = .ok (.aload_n 0, 1) := by decide +kernel
theorem dX4_orders_62 : decode cX4_orders 62 = .ok (.getfield 33, 3) := by decide +kernel
theorem dX4_orders_65 : decode cX4_orders 65 = .ok (.aload_n 0, 1) := by decide +kernel
theorem dX4_orders_66 : decode cX4_orders 66 = .ok (.getfield 228, 3) := by decide +kernel
theorem dX4_orders_69 : decode cX4_orders 69 = .ok (.bipush 10, 2) := by decide +kernel
theorem dX4_orders_71 : decode cX4_orders 71 = .ok (.iload_n 3, 1) := by decide +kernel
theorem dX4_orders_72 : decode cX4_orders 72 = .ok (.imul, 1) := by decide +kernel
theorem dX4_orders_73 : decode cX4_orders 73 = .ok (.iload 4, 2) := by decide +kernel
theorem dX4_orders_75 : decode cX4_orders 75 = .ok (.iadd, 1) := by decide +kernel
theorem dX4_orders_76 : decode cX4_orders 76 = .ok (.iastore, 1) := by decide +kernel
theorem dX4_orders_77 : decode cX4_orders 77 = .ok (.aload_n 0, 1) := by decide +kernel
theorem dX4_orders_78 : decode cX4_orders 78 = .ok (.dup, 1) := by decide +kernel
theorem dX4_orders_79 : decode cX4_orders 79 = .ok (.getfield 228, 3) := by decide +kernel
theorem dX4_orders_82 : decode cX4_orders 82 = .ok (.iconst 1, 1) := by decide +kernel
theorem dX4_orders_83 : decode cX4_orders 83 = .ok (.iadd, 1) := by decide +kernel
theorem dX4_orders_84 : decode cX4_orders 84 = .ok (.putfield 228, 3) := by decide +kernel
theorem dX4_orders_87 : decode cX4_orders 87 = .ok (.iinc 4 1, 3) := by decide +kernel
theorem dX4_orders_90 : decode cX4_orders 90 = .ok (.goto (-50), 3) := by decide +kernel
theorem dX4_orders_93 : decode cX4_orders 93 = .ok (.iinc 3 1, 3) := by decide +kernel
theorem dX4_orders_96 : decode cX4_orders 96 = .ok (.goto (-65), 3) := by decide +kernel
theorem dX4_orders_99 : decode cX4_orders 99 = .ok (.aload_n 0, 1) := by decide +kernel
theorem dX4_orders_100 : decode cX4_orders 100 = .ok (.getfield 228, 3) := by decide +kernel
theorem dX4_orders_103 : decode cX4_orders 103 = .ok (.bipush 6, 2) := by decide +kernel
theorem dX4_orders_105 : decode cX4_orders 105 = .ok (.if_icmp .le 16, 3) := by decide +kernel
theorem dX4_orders_108 : decode cX4_orders 108 = .ok (.aload_n 0, 1) := by decide +kernel
theorem dX4_orders_109 : decode cX4_orders 109 = .ok (.getfield 20, 3) := by decide +kernel
theorem dX4_orders_112 : decode cX4_orders 112 = .ok (.iconst 1, 1) := by decide +kernel
theorem dX4_orders_113 : decode cX4_orders 113 = .ok (.dup2, 1) := by decide +kernel
theorem dX4_orders_114 : decode cX4_orders 114 = .ok (.iaload, 1) := by decide +kernel
theorem dX4_orders_115 : decode cX4_orders 115 = .ok (.iconst 1, 1) := by decide +kernel
theorem dX4_orders_116 : decode cX4_orders 116 = .ok (.iadd, 1) := by decide +kernel
theorem dX4_orders_117 : decode cX4_orders 117 = .ok (.iastore, 1) := by decide +kernel
theorem dX4_orders_118 : decode cX4_orders 118 = .ok (.bipush (-20), 2) := by decide +kernel
theorem dX4_orders_120 : decode cX4_orders 120 = .ok (.ireturn, 1) := by decide +kernel
theorem dX4_orders_121 : decode cX4_orders 121 = .ok (.iconst 1, 1) := by decide +kernel
theorem dX4_orders_122 : decode cX4_orders 122 = .ok (.aload_n 0, 1) := by decide +kernel
theorem dX4_orders_123 : decode cX4_orders 123 = .ok (.getfield 228, 3) := by decide +kernel
theorem dX4_orders_126 : decode cX4_orders 126 = .ok (.ishl, 1) := by decide +kernel
theorem dX4_orders_127 : decode cX4_orders 127 = .ok (.iconst 1, 1) := by decide +kernel
theorem dX4_orders_128 : decode cX4_orders 128 = .ok (.isub, 1) := by decide +kernel
theorem dX4_orders_129 : decode cX4_orders 129 = .ok (.istore_n 3, 1) := by decide +kernel
theorem dX4_orders_130 : decode cX4_orders 130 = .ok (.iload_n 3, 1) := by decide +kernel
theorem dX4_orders_131 : decode cX4_orders 131 = .ok (.istore 4, 2) := by decide +kernel
theorem dX4_orders_133 : decode cX4_orders 133 = .ok (.iload 4, 2) := by decide +kernel
theorem dX4_orders_135 : decode cX4_orders 135 = .ok (.ifCond .lt 81, 3) := by decide +kernel
theorem dX4_orders_138 : decode cX4_orders 138 = .ok (.iload 4, 2) := by decide +kernel
theorem dX4_orders_140 : decode cX4_orders 140 = .ok (.iload_n 3, 1) := by decide +kernel
theorem dX4_orders_141 : decode cX4_orders 141 = .ok (.if_icmp .ne 7, 3) := by decide +kernel
theorem dX4_orders_144 : decode cX4_orders 144 = .ok (.iconst 1, 1) := by decide +kernel
theorem dX4_orders_145 : decode cX4_orders 145 = .ok (.goto 4, 3) := by decide +kernel
theorem dX4_orders_148 : decode cX4_orders 148 = .ok (.iconst 0, 1) := by decide +kernel
theorem dX4_orders_149 : decode cX4_orders 149 = .ok (.istore 5, 2) := by decide +kernel
theorem dX4_orders_151 : decode cX4_orders 151 = .ok (.iconst 0, 1) := by decide +kernel
theorem dX4_orders_152 : decode cX4_orders 152 = .ok (.istore 6, 2) := by decide +kernel
theorem dX4_orders_154 : decode cX4_orders 154 = .ok (.iload 6, 2) := by decide +kernel
theorem dX4_orders_156 : decode cX4_orders 156 = .ok (.aload_n 0, 1) := by decide +kernel
theorem dX4_orders_157 : decode cX4_orders 157 = .ok (.getfield 228, 3) := by decide +kernel
theorem dX4_orders_160 : decode cX4_orders 160 = .ok (.if_icmp .ge 41, 3) := by decide +kernel
theorem dX4_orders_163 : decode cX4_orders 163 = .ok (.iload 5, 2) := by decide +kernel
theorem dX4_orders_165 : decode cX4_orders 165 = .ok (.aload_n 0, 1) := by decide +kernel
theorem dX4_orders_166 : decode cX4_orders 166 = .ok (.iload 4, 2) := by decide +kernel
theorem dX4_orders_168 : decode cX4_orders 168 = .ok (.iload 6, 2) := by decide +kernel
theorem dX4_orders_170 : decode cX4_orders 170 = .ok (.invokevirtual 239, 3) := by decide +kernel
theorem dX4_orders_173 : decode cX4_orders 173 = .ok (.ifCond .eq 18, 3) := by decide +kernel
theorem dX4_orders_176 : decode cX4_orders 176 = .ok (.aload_n 0, 1) := by decide +kernel
theorem dX4_orders_177 : decode cX4_orders 177 = .ok (.getfield 36, 3) := by decide +kernel
theorem dX4_orders_180 : decode cX4_orders 180 = .ok (.iload 4, 2) := by decide +kernel
theorem dX4_orders_182 : decode cX4_orders 182 = .ok (.iconst 1, 1) := by decide +kernel
theorem dX4_orders_183 : decode cX4_orders 183 = .ok (.iload 6, 2) := by decide +kernel
theorem dX4_orders_185 : decode cX4_orders 185 = .ok (.ishl, 1) := by decide +kernel
theorem dX4_orders_186 : decode cX4_orders 186 = .ok (.ior, 1) := by decide +kernel
theorem dX4_orders_187 : decode cX4_orders 187 = .ok (.iaload, 1) := by decide +kernel
theorem dX4_orders_188 : decode cX4_orders 188 = .ok (.goto 4, 3) := by decide +kernel
theorem dX4_orders_191 : decode cX4_orders 191 = .ok (.iconst 0, 1) := by decide +kernel
theorem dX4_orders_192 : decode cX4_orders 192 = .ok (.iadd, 1) := by decide +kernel
theorem dX4_orders_193 : decode cX4_orders 193 = .ok (.istore 5, 2) := by decide +kernel
theorem dX4_orders_195 : decode cX4_orders 195 = .ok (.iinc 6 1, 3) := by decide +kernel
theorem dX4_orders_198 : decode cX4_orders 198 = .ok (.goto (-44), 3) := by decide +kernel
theorem dX4_orders_201 : decode cX4_orders 201 = .ok (.aload_n 0, 1) := by decide +kernel
theorem dX4_orders_202 : decode cX4_orders 202 = .ok (.getfield 36, 3) := by decide +kernel
theorem dX4_orders_205 : decode cX4_orders 205 = .ok (.iload 4, 2) := by decide +kernel
theorem dX4_orders_207 : decode cX4_orders 207 = .ok (.iload 5, 2) := by decide +kernel
theorem dX4_orders_209 : decode cX4_orders 209 = .ok (.iastore, 1) := by decide +kernel
theorem dX4_orders_210 : decode cX4_orders 210 = .ok (.iinc 4 (-1), 3) := by decide +kernel
theorem dX4_orders_213 : decode cX4_orders 213 = .ok (.goto (-80), 3) := by decide +kernel
theorem dX4_orders_216 : decode cX4_orders 216 = .ok (.iload_n 2, 1) := by decide +kernel
theorem dX4_orders_217 : decode cX4_orders 217 = .ok (.iconst (-1), 1) := by decide +kernel
theorem dX4_orders_218 : decode cX4_orders 218 = .ok (.if_icmp .ne 10, 3) := by decide +kernel
theorem dX4_orders_221 : decode cX4_orders 221 = .ok (.aload_n 0, 1) := by decide +kernel
theorem dX4_orders_222 : decode cX4_orders 222 = .ok (.getfield 36, 3) := by decide +kernel
theorem dX4_orders_225 : decode cX4_orders 225 = .ok (.iconst 0, 1) := by decide +kernel
theorem dX4_orders_226 : decode cX4_orders 226 = .ok (.iaload, 1) := by decide +kernel
theorem dX4_orders_227 : decode cX4_orders 227 = .ok (.ireturn, 1) := by decide +kernel
theorem dX4_orders_228 : decode cX4_orders 228 = .ok (.iconst 0, 1) := by decide +kernel
theorem dX4_orders_229 : decode cX4_orders 229 = .ok (.istore 4, 2) := by decide +kernel
theorem dX4_orders_231 : decode cX4_orders 231 = .ok (.bipush (-5), 2) := by decide +kernel
theorem dX4_orders_233 : decode cX4_orders 233 = .ok (.istore 5, 2) := by decide +kernel
theorem dX4_orders_235 : decode cX4_orders 235 = .ok (.iconst 0, 1) := by decide +kernel
theorem dX4_orders_236 : decode cX4_orders 236 = .ok (.istore 6, 2) := by decide +kernel
theorem dX4_orders_238 : decode cX4_orders 238 = .ok (.iload 6, 2) := by decide +kernel
theorem dX4_orders_240 : decode cX4_orders 240 = .ok (.iload_n 2, 1) := by decide +kernel
theorem dX4_orders_241 : decode cX4_orders 241 = .ok (.if_icmp .gt 114, 3) := by decide +kernel
theorem dX4_orders_244 : decode cX4_orders 244 = .ok (.iload 6, 2) := by decide +kernel
theorem dX4_orders_246 : decode cX4_orders 246 = .ok (.aload_n 0, 1) := by decide +kernel
theorem dX4_orders_247 : decode cX4_orders 247 = .ok (.getfield 228, 3) := by decide +kernel
theorem dX4_orders_250 : decode cX4_orders 250 = .ok (.if_icmp .gt 105, 3) := by decide +kernel
theorem dX4_orders_253 : decode cX4_orders 253 = .ok (.iconst (-1), 1) := by decide +kernel
theorem dX4_orders_254 : decode cX4_orders 254 = .ok (.istore 7, 2) := by decide +kernel
theorem dX4_orders_256 : decode cX4_orders 256 = .ok (.aload_n 0, 1) := by decide +kernel
theorem dX4_orders_257 : decode cX4_orders 257 = .ok (.getfield 228, 3) := by decide +kernel
theorem dX4_orders_260 : decode cX4_orders 260 = .ok (.iconst 1, 1) := by decide +kernel
theorem dX4_orders_261 : decode cX4_orders 261 = .ok (.isub, 1) := by decide +kernel
theorem dX4_orders_262 : decode cX4_orders 262 = .ok (.istore 8, 2) := by decide +kernel
theorem dX4_orders_264 : decode cX4_orders 264 = .ok (.iload 8, 2) := by decide +kernel
theorem dX4_orders_266 : decode cX4_orders 266 = .ok (.ifCond .lt 44, 3) := by decide +kernel
theorem dX4_orders_269 : decode cX4_orders 269 = .ok (.aload_n 0, 1) := by decide +kernel
theorem dX4_orders_270 : decode cX4_orders 270 = .ok (.iload 4, 2) := by decide +kernel
theorem dX4_orders_272 : decode cX4_orders 272 = .ok (.iload 8, 2) := by decide +kernel
theorem dX4_orders_274 : decode cX4_orders 274 = .ok (.invokevirtual 239, 3) := by decide +kernel
theorem dX4_orders_277 : decode cX4_orders 277 = .ok (.ifCond .eq 23, 3) := by decide +kernel
theorem dX4_orders_280 : decode cX4_orders 280 = .ok (.aload_n 0, 1) := by decide +kernel
theorem dX4_orders_281 : decode cX4_orders 281 = .ok (.getfield 36, 3) := by decide +kernel
theorem dX4_orders_284 : decode cX4_orders 284 = .ok (.iload 4, 2) := by decide +kernel
theorem dX4_orders_286 : decode cX4_orders 286 = .ok (.iconst 1, 1) := by decide +kernel
theorem dX4_orders_287 : decode cX4_orders 287 = .ok (.iload 8, 2) := by decide +kernel
theorem dX4_orders_289 : decode cX4_orders 289 = .ok (.ishl, 1) := by decide +kernel
theorem dX4_orders_290 : decode cX4_orders 290 = .ok (.ior, 1) := by decide +kernel
theorem dX4_orders_291 : decode cX4_orders 291 = .ok (.iaload, 1) := by decide +kernel
theorem dX4_orders_292 : decode cX4_orders 292 = .ok (.ifCond .le 8, 3) := by decide +kernel
theorem dX4_orders_295 : decode cX4_orders 295 = .ok (.iload 8, 2) := by decide +kernel
theorem dX4_orders_297 : decode cX4_orders 297 = .ok (.goto 5, 3) := by decide +kernel
theorem dX4_orders_300 : decode cX4_orders 300 = .ok (.iload 7, 2) := by decide +kernel
theorem dX4_orders_302 : decode cX4_orders 302 = .ok (.istore 7, 2) := by decide +kernel
theorem dX4_orders_304 : decode cX4_orders 304 = .ok (.iinc 8 (-1), 3) := by decide +kernel
theorem dX4_orders_307 : decode cX4_orders 307 = .ok (.goto (-43), 3) := by decide +kernel
theorem dX4_orders_310 : decode cX4_orders 310 = .ok (.iload 7, 2) := by decide +kernel
theorem dX4_orders_312 : decode cX4_orders 312 = .ok (.iconst (-1), 1) := by decide +kernel
theorem dX4_orders_313 : decode cX4_orders 313 = .ok (.if_icmp .ne 8, 3) := by decide +kernel
theorem dX4_orders_316 : decode cX4_orders 316 = .ok (.bipush (-5), 2) := by decide +kernel
theorem dX4_orders_318 : decode cX4_orders 318 = .ok (.goto 10, 3) := by decide +kernel
theorem dX4_orders_321 : decode cX4_orders 321 = .ok (.aload_n 0, 1) := by decide +kernel
theorem dX4_orders_322 : decode cX4_orders 322 = .ok (.getfield 33, 3) := by decide +kernel
theorem dX4_orders_325 : decode cX4_orders 325 = .ok (.iload 7, 2) := by decide +kernel
theorem dX4_orders_327 : decode cX4_orders 327 = .ok (.iaload, 1) := by decide +kernel
theorem dX4_orders_328 : decode cX4_orders 328 = .ok (.istore 5, 2) := by decide +kernel
theorem dX4_orders_330 : decode cX4_orders 330 = .ok (.iload 4, 2) := by decide +kernel
theorem dX4_orders_332 : decode cX4_orders 332 = .ok (.iload 7, 2) := by decide +kernel
theorem dX4_orders_334 : decode cX4_orders 334 = .ok (.iconst (-1), 1) := by decide +kernel
theorem dX4_orders_335 : decode cX4_orders 335 = .ok (.if_icmp .ne 7, 3) := by decide +kernel
theorem dX4_orders_338 : decode cX4_orders 338 = .ok (.iconst 0, 1) := by decide +kernel
theorem dX4_orders_339 : decode cX4_orders 339 = .ok (.goto 7, 3) := by decide +kernel
theorem dX4_orders_342 : decode cX4_orders 342 = .ok (.iconst 1, 1) := by decide +kernel
theorem dX4_orders_343 : decode cX4_orders 343 = .ok (.iload 7, 2) := by decide +kernel
theorem dX4_orders_345 : decode cX4_orders 345 = .ok (.ishl, 1) := by decide +kernel
theorem dX4_orders_346 : decode cX4_orders 346 = .ok (.ior, 1) := by decide +kernel
theorem dX4_orders_347 : decode cX4_orders 347 = .ok (.istore 4, 2) := by decide +kernel
theorem dX4_orders_349 : decode cX4_orders 349 = .ok (.iinc 6 1, 3) := by decide +kernel
theorem dX4_orders_352 : decode cX4_orders 352 = .ok (.goto (-114), 3) := by decide +kernel
theorem dX4_orders_355 : decode cX4_orders 355 = .ok (.iload 5, 2) := by decide +kernel
theorem dX4_orders_357 : decode cX4_orders 357 = .ok (.ireturn, 1) := by decide +kernel
theorem dX4_odds_0 : decode cX4_odds 0 = .ok (.iload_n 1, 1) := by decide +kernel
theorem dX4_odds_1 : decode cX4_odds 1 = .ok (.invokestatic 49, 3) := by decide +kernel
theorem dX4_odds_4 : decode cX4_odds 4 = .ok (.ifCond .eq 27, 3) := by decide +kernel
theorem dX4_odds_7 : decode cX4_odds 7 = .ok (.iload_n 2, 1) := by decide +kernel
theorem dX4_odds_8 : decode cX4_odds 8 = .ok (.i2l, 1) := by decide +kernel
theorem dX4_odds_9 : decode cX4_odds 9 = .ok (.lconst 0, 1) := by decide +kernel
theorem dX4_odds_10 : decode cX4_odds 10 = .ok (.ldc2_w 43, 3) := by decide +kernel
theorem dX4_odds_13 : decode cX4_odds 13 = .ok (.invokestatic 45, 3) := by decide +kernel
theorem dX4_odds_16 : decode cX4_odds 16 = .ok (.ifCond .eq 15, 3) := by decide +kernel
theorem dX4_odds_19 : decode cX4_odds 19 = .ok (.iload_n 3, 1) := by decide +kernel
theorem dX4_odds_20 : decode cX4_odds 20 = .ok (.i2l, 1) := by decide +kernel
theorem dX4_odds_21 : decode cX4_odds 21 = .ok (.lconst 0, 1) := by decide +kernel
theorem dX4_odds_22 : decode cX4_odds 22 = .ok (.ldc2_w 242, 3) := by decide +kernel
theorem dX4_odds_25 : decode cX4_odds 25 = .ok (.invokestatic 45, 3) := by decide +kernel
theorem dX4_odds_28 : decode cX4_odds 28 = .ok (.ifCond .ne 8, 3) := by decide +kernel
theorem dX4_odds_31 : decode cX4_odds 31 = .ok (.aload_n 0, 1) := by decide +kernel
theorem dX4_odds_32 : decode cX4_odds 32 = .ok (.invokevirtual 65, 3) := by decide +kernel
theorem dX4_odds_35 : decode cX4_odds 35 = .ok (.ireturn, 1) := by decide +kernel
theorem dX4_odds_36 : decode cX4_odds 36 = .ok (.lconst 0, 1) := by decide +kernel
theorem dX4_odds_37 : decode cX4_odds 37 = .ok (.lstore 4, 2) := by decide +kernel
theorem dX4_odds_39 : decode cX4_odds 39 = .ok (.lconst 1, 1) := by decide +kernel
theorem dX4_odds_40 : decode cX4_odds 40 = .ok (.lstore 6, 2) := by decide +kernel
theorem dX4_odds_42 : decode cX4_odds 42 = .ok (.iconst 0, 1) := by decide +kernel
theorem dX4_odds_43 : decode cX4_odds 43 = .ok (.istore 8, 2) := by decide +kernel
theorem dX4_odds_45 : decode cX4_odds 45 = .ok (.iload 8, 2) := by decide +kernel
theorem dX4_odds_47 : decode cX4_odds 47 = .ok (.iload_n 2, 1) := by decide +kernel
theorem dX4_odds_48 : decode cX4_odds 48 = .ok (.if_icmp .ge 17, 3) := by decide +kernel
theorem dX4_odds_51 : decode cX4_odds 51 = .ok (.lload 6, 2) := by decide +kernel
theorem dX4_odds_53 : decode cX4_odds 53 = .ok (.ldc2_w 242, 3) := by decide +kernel
theorem dX4_odds_56 : decode cX4_odds 56 = .ok (.lmul, 1) := by decide +kernel
theorem dX4_odds_57 : decode cX4_odds 57 = .ok (.lstore 6, 2) := by decide +kernel
theorem dX4_odds_59 : decode cX4_odds 59 = .ok (.iinc 8 1, 3) := by decide +kernel
theorem dX4_odds_62 : decode cX4_odds 62 = .ok (.goto (-17), 3) := by decide +kernel
theorem dX4_odds_65 : decode cX4_odds 65 = .ok (.iconst 0, 1) := by decide +kernel
theorem dX4_odds_66 : decode cX4_odds 66 = .ok (.istore 8, 2) := by decide +kernel
theorem dX4_odds_68 : decode cX4_odds 68 = .ok (.iload 8, 2) := by decide +kernel
theorem dX4_odds_70 : decode cX4_odds 70 = .ok (.iconst 1, 1) := by decide +kernel
theorem dX4_odds_71 : decode cX4_odds 71 = .ok (.iload_n 2, 1) := by decide +kernel
theorem dX4_odds_72 : decode cX4_odds 72 = .ok (.ishl, 1) := by decide +kernel
theorem dX4_odds_73 : decode cX4_odds 73 = .ok (.if_icmp .ge 94, 3) := by decide +kernel
theorem dX4_odds_76 : decode cX4_odds 76 = .ok (.lconst 1, 1) := by decide +kernel
theorem dX4_odds_77 : decode cX4_odds 77 = .ok (.lstore 9, 2) := by decide +kernel
theorem dX4_odds_79 : decode cX4_odds 79 = .ok (.aload_n 0, 1) := by decide +kernel
theorem dX4_odds_80 : decode cX4_odds 80 = .ok (.invokevirtual 184, 3) := by decide +kernel
theorem dX4_odds_83 : decode cX4_odds 83 = .ok (.iconst 0, 1) := by decide +kernel
theorem dX4_odds_84 : decode cX4_odds 84 = .ok (.istore 11, 2) := by decide +kernel
theorem dX4_odds_86 : decode cX4_odds 86 = .ok (.iload 11, 2) := by decide +kernel
theorem dX4_odds_88 : decode cX4_odds 88 = .ok (.iload_n 2, 1) := by decide +kernel
theorem dX4_odds_89 : decode cX4_odds 89 = .ok (.if_icmp .ge 48, 3) := by decide +kernel
theorem dX4_odds_92 : decode cX4_odds 92 = .ok (.lload 9, 2) := by decide +kernel
theorem dX4_odds_94 : decode cX4_odds 94 = .ok (.iload 8, 2) := by decide +kernel
theorem dX4_odds_96 : decode cX4_odds 96 = .ok (.iload 11, 2) := by decide +kernel
theorem dX4_odds_98 : decode cX4_odds 98 = .ok (.invokestatic 224, 3) := by decide +kernel
theorem dX4_odds_101 : decode cX4_odds 101 = .ok (.ifCond .eq 8, 3) := by decide +kernel
theorem dX4_odds_104 : decode cX4_odds 104 = .ok (.iload_n 3, 1) := by decide +kernel
theorem dX4_odds_105 : decode cX4_odds 105 = .ok (.i2l, 1) := by decide +kernel
theorem dX4_odds_106 : decode cX4_odds 106 = .ok (.goto 8, 3) := by decide +kernel
theorem dX4_odds_109 : decode cX4_odds 109 = .ok (.bipush 10, 2) := by decide +kernel
theorem dX4_odds_111 : decode cX4_odds 111 = .ok (.iload_n 3, 1) := by decide +kernel
theorem dX4_odds_112 : decode cX4_odds 112 = .ok (.isub, 1) := by decide +kernel
theorem dX4_odds_113 : decode cX4_odds 113 = .ok (.i2l, 1) := by decide +kernel
theorem dX4_odds_114 : decode cX4_odds 114 = .ok (.lmul, 1) := by decide +kernel
theorem dX4_odds_115 : decode cX4_odds 115 = .ok (.lstore 9, 2) := by decide +kernel
theorem dX4_odds_117 : decode cX4_odds 117 = .ok (.aload_n 0, 1) := by decide +kernel
theorem dX4_odds_118 : decode cX4_odds 118 = .ok (.sipush 3273, 3) := by decide +kernel
theorem dX4_odds_121 : decode cX4_odds 121 = .ok (.iload 8, 2) := by decide +kernel
theorem dX4_odds_123 : decode cX4_odds 123 = .ok (.iload 11, 2) := by decide +kernel
theorem dX4_odds_125 : decode cX4_odds 125 = .ok (.invokestatic 224, 3) := by decide +kernel
theorem dX4_odds_128 : decode cX4_odds 128 = .ok (.invokevirtual 103, 3) := by decide +kernel
theorem dX4_odds_131 : decode cX4_odds 131 = .ok (.iinc 11 1, 3) := by decide +kernel
theorem dX4_odds_134 : decode cX4_odds 134 = .ok (.goto (-48), 3) := by decide +kernel
theorem dX4_odds_137 : decode cX4_odds 137 = .ok (.lload 4, 2) := by decide +kernel
theorem dX4_odds_139 : decode cX4_odds 139 = .ok (.aload_n 0, 1) := by decide +kernel
theorem dX4_odds_140 : decode cX4_odds 140 = .ok (.getfield 7, 3) := by decide +kernel
theorem dX4_odds_143 : decode cX4_odds 143 = .ok (.sipush 3274, 3) := by decide +kernel
theorem dX4_odds_146 : decode cX4_odds 146 = .ok (.iload_n 1, 1) := by decide +kernel
theorem dX4_odds_147 : decode cX4_odds 147 = .ok (.iadd, 1) := by decide +kernel
theorem dX4_odds_148 : decode cX4_odds 148 = .ok (.iaload, 1) := by decide +kernel
theorem dX4_odds_149 : decode cX4_odds 149 = .ok (.ifCond .ne 8, 3) := by decide +kernel
theorem dX4_odds_152 : decode cX4_odds 152 = .ok (.lload 9, 2) := by decide +kernel
theorem dX4_odds_154 : decode cX4_odds 154 = .ok (.goto 4, 3) := by decide +kernel
theorem dX4_odds_157 : decode cX4_odds 157 = .ok (.lconst 0, 1) := by decide +kernel
theorem dX4_odds_158 : decode cX4_odds 158 = .ok (.ladd, 1) := by decide +kernel
theorem dX4_odds_159 : decode cX4_odds 159 = .ok (.lstore 4, 2) := by decide +kernel
theorem dX4_odds_161 : decode cX4_odds 161 = .ok (.iinc 8 1, 3) := by decide +kernel
theorem dX4_odds_164 : decode cX4_odds 164 = .ok (.goto (-96), 3) := by decide +kernel
theorem dX4_odds_167 : decode cX4_odds 167 = .ok (.aload_n 0, 1) := by decide +kernel
theorem dX4_odds_168 : decode cX4_odds 168 = .ok (.lload 4, 2) := by decide +kernel
theorem dX4_odds_170 : decode cX4_odds 170 = .ok (.lload 6, 2) := by decide +kernel
theorem dX4_odds_172 : decode cX4_odds 172 = .ok (.invokevirtual 202, 3) := by decide +kernel
theorem dX4_odds_175 : decode cX4_odds 175 = .ok (.ireturn, 1) := by decide +kernel
theorem dX4_drawn_0 : decode cX4_drawn 0 = .ok (.iload_n 1, 1) := by decide +kernel
theorem dX4_drawn_1 : decode cX4_drawn 1 = .ok (.i2l, 1) := by decide +kernel
theorem dX4_drawn_2 : decode cX4_drawn 2 = .ok (.lconst 0, 1) := by decide +kernel
theorem dX4_drawn_3 : decode cX4_drawn 3 = .ok (.ldc2_w 244, 3) := by decide +kernel
theorem dX4_drawn_6 : decode cX4_drawn 6 = .ok (.invokestatic 45, 3) := by decide +kernel
theorem dX4_drawn_9 : decode cX4_drawn 9 = .ok (.ifCond .eq 15, 3) := by decide +kernel
theorem dX4_drawn_12 : decode cX4_drawn 12 = .ok (.iload_n 2, 1) := by decide +kernel
theorem dX4_drawn_13 : decode cX4_drawn 13 = .ok (.i2l, 1) := by decide +kernel
theorem dX4_drawn_14 : decode cX4_drawn 14 = .ok (.lconst 0, 1) := by decide +kernel
theorem dX4_drawn_15 : decode cX4_drawn 15 = .ok (.ldc2_w 101, 3) := by decide +kernel
theorem dX4_drawn_18 : decode cX4_drawn 18 = .ok (.invokestatic 45, 3) := by decide +kernel
theorem dX4_drawn_21 : decode cX4_drawn 21 = .ok (.ifCond .ne 8, 3) := by decide +kernel
theorem dX4_drawn_24 : decode cX4_drawn 24 = .ok (.aload_n 0, 1) := by decide +kernel
theorem dX4_drawn_25 : decode cX4_drawn 25 = .ok (.invokevirtual 65, 3) := by decide +kernel
theorem dX4_drawn_28 : decode cX4_drawn 28 = .ok (.ireturn, 1) := by decide +kernel
theorem dX4_drawn_29 : decode cX4_drawn 29 = .ok (.iload_n 1, 1) := by decide +kernel
theorem dX4_drawn_30 : decode cX4_drawn 30 = .ok (.i2l, 1) := by decide +kernel
theorem dX4_drawn_31 : decode cX4_drawn 31 = .ok (.lstore_n 3, 1) := by decide +kernel
theorem dX4_drawn_32 : decode cX4_drawn 32 = .ok (.aload_n 0, 1) := by decide +kernel
theorem dX4_drawn_33 : decode cX4_drawn 33 = .ok (.invokevirtual 184, 3) := by decide +kernel
theorem dX4_drawn_36 : decode cX4_drawn 36 = .ok (.iconst 0, 1) := by decide +kernel
theorem dX4_drawn_37 : decode cX4_drawn 37 = .ok (.istore 5, 2) := by decide +kernel
theorem dX4_drawn_39 : decode cX4_drawn 39 = .ok (.iload 5, 2) := by decide +kernel
theorem dX4_drawn_41 : decode cX4_drawn 41 = .ok (.iload_n 2, 1) := by decide +kernel
theorem dX4_drawn_42 : decode cX4_drawn 42 = .ok (.if_icmp .ge 68, 3) := by decide +kernel
theorem dX4_drawn_45 : decode cX4_drawn 45 = .ok (.iconst 0, 1) := by decide +kernel
theorem dX4_drawn_46 : decode cX4_drawn 46 = .ok (.istore 6, 2) := by decide +kernel
theorem dX4_drawn_48 : decode cX4_drawn 48 = .ok (.iload 6, 2) := by decide +kernel
theorem dX4_drawn_50 : decode cX4_drawn 50 = .ok (.bipush 9, 2) := by decide +kernel
theorem dX4_drawn_52 : decode cX4_drawn 52 = .ok (.if_icmp .ge 44, 3) := by decide +kernel
theorem dX4_drawn_55 : decode cX4_drawn 55 = .ok (.lload_n 3, 1) := by decide +kernel
theorem dX4_drawn_56 : decode cX4_drawn 56 = .ok (.ldc2_w 246, 3) := by decide +kernel
theorem dX4_drawn_59 : decode cX4_drawn 59 = .ok (.lmul, 1) := by decide +kernel
theorem dX4_drawn_60 : decode cX4_drawn 60 = .ok (.ldc2_w 248, 3) := by decide +kernel
theorem dX4_drawn_63 : decode cX4_drawn 63 = .ok (.ladd, 1) := by decide +kernel
theorem dX4_drawn_64 : decode cX4_drawn 64 = .ok (.ldc2_w 250, 3) := by decide +kernel
theorem dX4_drawn_67 : decode cX4_drawn 67 = .ok (.lrem, 1) := by decide +kernel
theorem dX4_drawn_68 : decode cX4_drawn 68 = .ok (.lstore_n 3, 1) := by decide +kernel
theorem dX4_drawn_69 : decode cX4_drawn 69 = .ok (.aload_n 0, 1) := by decide +kernel
theorem dX4_drawn_70 : decode cX4_drawn 70 = .ok (.getfield 7, 3) := by decide +kernel
theorem dX4_drawn_73 : decode cX4_drawn 73 = .ok (.sipush 3391, 3) := by decide +kernel
theorem dX4_drawn_76 : decode cX4_drawn 76 = .ok (.iload 6, 2) := by decide +kernel
theorem dX4_drawn_78 : decode cX4_drawn 78 = .ok (.iadd, 1) := by decide +kernel
theorem dX4_drawn_79 : decode cX4_drawn 79 = .ok (.lload_n 3, 1) := by decide +kernel
theorem dX4_drawn_80 : decode cX4_drawn 80 = .ok (.ldc2_w 252, 3) := by decide +kernel
theorem dX4_drawn_83 : decode cX4_drawn 83 = .ok (.ldiv, 1) := by decide +kernel
theorem dX4_drawn_84 : decode cX4_drawn 84 = .ok (.ldc2_w 254, 3) := by decide +kernel
theorem dX4_drawn_87 : decode cX4_drawn 87 = .ok (.lrem, 1) := by decide +kernel
theorem dX4_drawn_88 : decode cX4_drawn 88 = .ok (.l2i, 1) := by decide +kernel
theorem dX4_drawn_89 : decode cX4_drawn 89 = .ok (.iastore, 1) := by decide +kernel
theorem dX4_drawn_90 : decode cX4_drawn 90 = .ok (.iinc 6 1, 3) := by decide +kernel
theorem dX4_drawn_93 : decode cX4_drawn 93 = .ok (.goto (-45), 3) := by decide +kernel
theorem dX4_drawn_96 : decode cX4_drawn 96 = .ok (.aload_n 0, 1) := by decide +kernel
theorem dX4_drawn_97 : decode cX4_drawn 97 = .ok (.sipush 3273, 3) := by decide +kernel
theorem dX4_drawn_100 : decode cX4_drawn 100 = .ok (.iconst 1, 1) := by decide +kernel
theorem dX4_drawn_101 : decode cX4_drawn 101 = .ok (.invokevirtual 103, 3) := by decide +kernel
theorem dX4_drawn_104 : decode cX4_drawn 104 = .ok (.iinc 5 1, 3) := by decide +kernel
theorem dX4_drawn_107 : decode cX4_drawn 107 = .ok (.goto (-68), 3) := by decide +kernel
theorem dX4_drawn_110 : decode cX4_drawn 110 = .ok (.aload_n 0, 1) := by decide +kernel
theorem dX4_drawn_111 : decode cX4_drawn 111 = .ok (.sipush 3273, 3) := by decide +kernel
theorem dX4_drawn_114 : decode cX4_drawn 114 = .ok (.invokevirtual 107, 3) := by decide +kernel
theorem dX4_drawn_117 : decode cX4_drawn 117 = .ok (.invokestatic 110, 3) := by decide +kernel
theorem dX4_drawn_120 : decode cX4_drawn 120 = .ok (.ireturn, 1) := by decide +kernel
theorem dX4_part_0 : decode cX4_part 0 = .ok (.iload_n 1, 1) := by decide +kernel
theorem dX4_part_1 : decode cX4_part 1 = .ok (.ifCond .ne 10, 3) := by decide +kernel
theorem dX4_part_4 : decode cX4_part 4 = .ok (.aload_n 0, 1) := by decide +kernel
theorem dX4_part_5 : decode cX4_part 5 = .ok (.getfield 196, 3) := by decide +kernel
theorem dX4_part_8 : decode cX4_part 8 = .ok (.goto 20, 3) := by decide +kernel
theorem dX4_part_11 : decode cX4_part 11 = .ok (.iload_n 1, 1) := by decide +kernel
theorem dX4_part_12 : decode cX4_part 12 = .ok (.iconst 1, 1) := by decide +kernel
theorem dX4_part_13 : decode cX4_part 13 = .ok (.if_icmp .ne 10, 3) := by decide +kernel
theorem dX4_part_16 : decode cX4_part 16 = .ok (.aload_n 0, 1) := by decide +kernel
theorem dX4_part_17 : decode cX4_part 17 = .ok (.getfield 23, 3) := by decide +kernel
theorem dX4_part_20 : decode cX4_part 20 = .ok (.goto 8, 3) := by decide +kernel
theorem dX4_part_23 : decode cX4_part 23 = .ok (.aload_n 0, 1) := by decide +kernel
theorem dX4_part_24 : decode cX4_part 24 = .ok (.invokevirtual 65, 3) := by decide +kernel
theorem dX4_part_27 : decode cX4_part 27 = .ok (.i2l, 1) := by decide +kernel
theorem dX4_part_28 : decode cX4_part 28 = .ok (.lreturn, 1) := by decide +kernel
theorem dX4_image_0 : decode cX4_image 0 = .ok (.iload_n 1, 1) := by decide +kernel
theorem dX4_image_1 : decode cX4_image 1 = .ok (.i2l, 1) := by decide +kernel
theorem dX4_image_2 : decode cX4_image 2 = .ok (.lconst 0, 1) := by decide +kernel
theorem dX4_image_3 : decode cX4_image 3 = .ok (.lconst 1, 1) := by decide +kernel
theorem dX4_image_4 : decode cX4_image 4 = .ok (.invokestatic 45, 3) := by decide +kernel
theorem dX4_image_7 : decode cX4_image 7 = .ok (.ifCond .ne 8, 3) := by decide +kernel
theorem dX4_image_10 : decode cX4_image 10 = .ok (.aload_n 0, 1) := by decide +kernel
theorem dX4_image_11 : decode cX4_image 11 = .ok (.invokevirtual 65, 3) := by decide +kernel
theorem dX4_image_14 : decode cX4_image 14 = .ok (.ireturn, 1) := by decide +kernel
theorem dX4_image_15 : decode cX4_image 15 = .ok (.aload_n 0, 1) := by decide +kernel
theorem dX4_image_16 : decode cX4_image 16 = .ok (.iconst 0, 1) := by decide +kernel
theorem dX4_image_17 : decode cX4_image 17 = .ok (.sipush 1091, 3) := by decide +kernel
theorem dX4_image_20 : decode cX4_image 20 = .ok (.iconst 1, 1) := by decide +kernel
theorem dX4_image_21 : decode cX4_image 21 = .ok (.iload_n 1, 1) := by decide +kernel
theorem dX4_image_22 : decode cX4_image 22 = .ok (.iadd, 1) := by decide +kernel
theorem dX4_image_23 : decode cX4_image 23 = .ok (.imul, 1) := by decide +kernel
theorem dX4_image_24 : decode cX4_image 24 = .ok (.sipush 1091, 3) := by decide +kernel
theorem dX4_image_27 : decode cX4_image 27 = .ok (.invokevirtual 73, 3) := by decide +kernel
theorem dX4_image_30 : decode cX4_image 30 = .ok (.aload_n 0, 1) := by decide +kernel
theorem dX4_image_31 : decode cX4_image 31 = .ok (.getfield 13, 3) := by decide +kernel
theorem dX4_image_34 : decode cX4_image 34 = .ok (.iload_n 1, 1) := by decide +kernel
theorem dX4_image_35 : decode cX4_image 35 = .ok (.iconst 1, 1) := by decide +kernel
theorem dX4_image_36 : decode cX4_image 36 = .ok (.bastore, 1) := by decide +kernel
theorem dX4_image_37 : decode cX4_image 37 = .ok (.iconst 1, 1) := by decide +kernel
theorem dX4_image_38 : decode cX4_image 38 = .ok (.ireturn, 1) := by decide +kernel
theorem dX4_from_0 : decode cX4_from 0 = .ok (.iload_n 1, 1) := by decide +kernel
theorem dX4_from_1 : decode cX4_from 1 = .ok (.i2l, 1) := by decide +kernel
theorem dX4_from_2 : decode cX4_from 2 = .ok (.lconst 0, 1) := by decide +kernel
theorem dX4_from_3 : decode cX4_from 3 = .ok (.lconst 1, 1) := by decide +kernel
theorem dX4_from_4 : decode cX4_from 4 = .ok (.invokestatic 45, 3) := by decide +kernel
theorem dX4_from_7 : decode cX4_from 7 = .ok (.ifCond .ne 8, 3) := by decide +kernel
theorem dX4_from_10 : decode cX4_from 10 = .ok (.aload_n 0, 1) := by decide +kernel
theorem dX4_from_11 : decode cX4_from 11 = .ok (.invokevirtual 65, 3) := by decide +kernel
theorem dX4_from_14 : decode cX4_from 14 = .ok (.ireturn, 1) := by decide +kernel
theorem dX4_from_15 : decode cX4_from 15 = .ok (.aload_n 0, 1) := by decide +kernel
theorem dX4_from_16 : decode cX4_from 16 = .ok (.getfield 13, 3) := by decide +kernel
theorem dX4_from_19 : decode cX4_from 19 = .ok (.iload_n 1, 1) := by decide +kernel
theorem dX4_from_20 : decode cX4_from 20 = .ok (.baload, 1) := by decide +kernel
theorem dX4_from_21 : decode cX4_from 21 = .ok (.ifCond .ne 8, 3) := by decide +kernel
theorem dX4_from_24 : decode cX4_from 24 = .ok (.aload_n 0, 1) := by decide +kernel
theorem dX4_from_25 : decode cX4_from 25 = .ok (.invokevirtual 91, 3) := by decide +kernel
theorem dX4_from_28 : decode cX4_from 28 = .ok (.ireturn, 1) := by decide +kernel
theorem dX4_from_29 : decode cX4_from 29 = .ok (.aload_n 0, 1) := by decide +kernel
theorem dX4_from_30 : decode cX4_from 30 = .ok (.sipush 1091, 3) := by decide +kernel
theorem dX4_from_33 : decode cX4_from 33 = .ok (.iconst 1, 1) := by decide +kernel
theorem dX4_from_34 : decode cX4_from 34 = .ok (.iload_n 1, 1) := by decide +kernel
theorem dX4_from_35 : decode cX4_from 35 = .ok (.iadd, 1) := by decide +kernel
theorem dX4_from_36 : decode cX4_from 36 = .ok (.imul, 1) := by decide +kernel
theorem dX4_from_37 : decode cX4_from 37 = .ok (.iconst 0, 1) := by decide +kernel
theorem dX4_from_38 : decode cX4_from 38 = .ok (.sipush 1091, 3) := by decide +kernel
theorem dX4_from_41 : decode cX4_from 41 = .ok (.invokevirtual 73, 3) := by decide +kernel
theorem dX4_from_44 : decode cX4_from 44 = .ok (.iconst 1, 1) := by decide +kernel
theorem dX4_from_45 : decode cX4_from 45 = .ok (.ireturn, 1) := by decide +kernel
theorem dX4_status_0 : decode cX4_status 0 = .ok (.iload_n 1, 1) := by decide +kernel
theorem dX4_status_1 : decode cX4_status 1 = .ok (.i2l, 1) := by decide +kernel
theorem dX4_status_2 : decode cX4_status 2 = .ok (.lconst 0, 1) := by decide +kernel
theorem dX4_status_3 : decode cX4_status 3 = .ok (.ldc2_w 55, 3) := by decide +kernel
theorem dX4_status_6 : decode cX4_status 6 = .ok (.invokestatic 45, 3) := by decide +kernel
theorem dX4_status_9 : decode cX4_status 9 = .ok (.ifCond .eq 12, 3) := by decide +kernel
theorem dX4_status_12 : decode cX4_status 12 = .ok (.aload_n 0, 1) := by decide +kernel
theorem dX4_status_13 : decode cX4_status 13 = .ok (.getfield 20, 3) := by decide +kernel
theorem dX4_status_16 : decode cX4_status 16 = .ok (.iload_n 1, 1) := by decide +kernel
theorem dX4_status_17 : decode cX4_status 17 = .ok (.iaload, 1) := by decide +kernel
theorem dX4_status_18 : decode cX4_status 18 = .ok (.goto 8, 3) := by decide +kernel
theorem dX4_status_21 : decode cX4_status 21 = .ok (.aload_n 0, 1) := by decide +kernel
theorem dX4_status_22 : decode cX4_status 22 = .ok (.iconst (-1), 1) := by decide +kernel
theorem dX4_status_23 : decode cX4_status 23 = .ok (.invokevirtual 236, 3) := by decide +kernel
theorem dX4_status_26 : decode cX4_status 26 = .ok (.ireturn, 1) := by decide +kernel
theorem dX4_countOf_0 : decode cX4_countOf 0 = .ok (.iload_n 1, 1) := by decide +kernel
theorem dX4_countOf_1 : decode cX4_countOf 1 = .ok (.tableswitch 74 0 4 #[35, 41, 50, 57, 65], 35) := by decide +kernel
theorem dX4_countOf_36 : decode cX4_countOf 36 = .ok (.aload_n 0, 1) := by decide +kernel
theorem dX4_countOf_37 : decode cX4_countOf 37 = .ok (.iconst 0, 1) := by decide +kernel
theorem dX4_countOf_38 : decode cX4_countOf 38 = .ok (.invokevirtual 69, 3) := by decide +kernel
theorem dX4_countOf_41 : decode cX4_countOf 41 = .ok (.ireturn, 1) := by decide +kernel
theorem dX4_countOf_42 : decode cX4_countOf 42 = .ok (.aload_n 0, 1) := by decide +kernel
theorem dX4_countOf_43 : decode cX4_countOf 43 = .ok (.iconst 0, 1) := by decide +kernel
theorem dX4_countOf_44 : decode cX4_countOf 44 = .ok (.invokevirtual 107, 3) := by decide +kernel
theorem dX4_countOf_47 : decode cX4_countOf 47 = .ok (.invokestatic 110, 3) := by decide +kernel
theorem dX4_countOf_50 : decode cX4_countOf 50 = .ok (.ireturn, 1) := by decide +kernel
theorem dX4_countOf_51 : decode cX4_countOf 51 = .ok (.aload_n 0, 1) := by decide +kernel
theorem dX4_countOf_52 : decode cX4_countOf 52 = .ok (.getfield 7, 3) := by decide +kernel
theorem dX4_countOf_55 : decode cX4_countOf 55 = .ok (.iconst 0, 1) := by decide +kernel
theorem dX4_countOf_56 : decode cX4_countOf 56 = .ok (.iaload, 1) := by decide +kernel
theorem dX4_countOf_57 : decode cX4_countOf 57 = .ok (.ireturn, 1) := by decide +kernel
theorem dX4_countOf_58 : decode cX4_countOf 58 = .ok (.aload_n 0, 1) := by decide +kernel
theorem dX4_countOf_59 : decode cX4_countOf 59 = .ok (.getfield 7, 3) := by decide +kernel
theorem dX4_countOf_62 : decode cX4_countOf 62 = .ok (.bipush 127, 2) := by decide +kernel
theorem dX4_countOf_64 : decode cX4_countOf 64 = .ok (.iaload, 1) := by decide +kernel
theorem dX4_countOf_65 : decode cX4_countOf 65 = .ok (.ireturn, 1) := by decide +kernel
theorem dX4_countOf_66 : decode cX4_countOf 66 = .ok (.aload_n 0, 1) := by decide +kernel
theorem dX4_countOf_67 : decode cX4_countOf 67 = .ok (.getfield 7, 3) := by decide +kernel
theorem dX4_countOf_70 : decode cX4_countOf 70 = .ok (.sipush 146, 3) := by decide +kernel
theorem dX4_countOf_73 : decode cX4_countOf 73 = .ok (.iaload, 1) := by decide +kernel
theorem dX4_countOf_74 : decode cX4_countOf 74 = .ok (.ireturn, 1) := by decide +kernel
theorem dX4_countOf_75 : decode cX4_countOf 75 = .ok (.aload_n 0, 1) := by decide +kernel
theorem dX4_countOf_76 : decode cX4_countOf 76 = .ok (.getfield 115, 3) := by decide +kernel
theorem dX4_countOf_79 : decode cX4_countOf 79 = .ok (.ireturn, 1) := by decide +kernel
theorem dX4_count_0 : decode cX4_count 0 = .ok (.iload_n 1, 1) := by decide +kernel
theorem dX4_count_1 : decode cX4_count 1 = .ok (.i2l, 1) := by decide +kernel
theorem dX4_count_2 : decode cX4_count 2 = .ok (.lconst 0, 1) := by decide +kernel
theorem dX4_count_3 : decode cX4_count 3 = .ok (.ldc2_w 53, 3) := by decide +kernel
theorem dX4_count_6 : decode cX4_count 6 = .ok (.invokestatic 45, 3) := by decide +kernel
theorem dX4_count_9 : decode cX4_count 9 = .ok (.ifCond .eq 11, 3) := by decide +kernel
theorem dX4_count_12 : decode cX4_count 12 = .ok (.aload_n 0, 1) := by decide +kernel
theorem dX4_count_13 : decode cX4_count 13 = .ok (.iload_n 1, 1) := by decide +kernel
theorem dX4_count_14 : decode cX4_count 14 = .ok (.invokevirtual 256, 3) := by decide +kernel
theorem dX4_count_17 : decode cX4_count 17 = .ok (.goto 7, 3) := by decide +kernel
theorem dX4_count_20 : decode cX4_count 20 = .ok (.aload_n 0, 1) := by decide +kernel
theorem dX4_count_21 : decode cX4_count 21 = .ok (.invokevirtual 65, 3) := by decide +kernel
theorem dX4_count_24 : decode cX4_count 24 = .ok (.ireturn, 1) := by decide +kernel
theorem dX4_mix_0 : decode cX4_mix 0 = .ok (.aload_n 0, 1) := by decide +kernel
theorem dX4_mix_1 : decode cX4_mix 1 = .ok (.ldc2_w 259, 3) := by decide +kernel
theorem dX4_mix_4 : decode cX4_mix 4 = .ok (.aload_n 0, 1) := by decide +kernel
theorem dX4_mix_5 : decode cX4_mix 5 = .ok (.getfield 261, 3) := by decide +kernel
theorem dX4_mix_8 : decode cX4_mix 8 = .ok (.lmul, 1) := by decide +kernel
theorem dX4_mix_9 : decode cX4_mix 9 = .ok (.lload_n 1, 1) := by decide +kernel
theorem dX4_mix_10 : decode cX4_mix 10 = .ok (.ladd, 1) := by decide +kernel
theorem dX4_mix_11 : decode cX4_mix 11 = .ok (.putfield 261, 3) := by decide +kernel
theorem dX4_mix_14 : decode cX4_mix 14 = .ok (.return_, 1) := by decide +kernel
theorem dX4_digest_0 : decode cX4_digest 0 = .ok (.aload_n 0, 1) := by decide +kernel
theorem dX4_digest_1 : decode cX4_digest 1 = .ok (.ldc2_w 264, 3) := by decide +kernel
theorem dX4_digest_4 : decode cX4_digest 4 = .ok (.putfield 261, 3) := by decide +kernel
theorem dX4_digest_7 : decode cX4_digest 7 = .ok (.iconst 0, 1) := by decide +kernel
theorem dX4_digest_8 : decode cX4_digest 8 = .ok (.istore_n 1, 1) := by decide +kernel
theorem dX4_digest_9 : decode cX4_digest 9 = .ok (.iload_n 1, 1) := by decide +kernel
theorem dX4_digest_10 : decode cX4_digest 10 = .ok (.bipush 6, 2) := by decide +kernel
theorem dX4_digest_12 : decode cX4_digest 12 = .ok (.if_icmp .ge 19, 3) := by decide +kernel
theorem dX4_digest_15 : decode cX4_digest 15 = .ok (.aload_n 0, 1) := by decide +kernel
theorem dX4_digest_16 : decode cX4_digest 16 = .ok (.aload_n 0, 1) := by decide +kernel
theorem dX4_digest_17 : decode cX4_digest 17 = .ok (.iload_n 1, 1) := by decide +kernel
theorem dX4_digest_18 : decode cX4_digest 18 = .ok (.invokevirtual 256, 3) := by decide +kernel
theorem dX4_digest_21 : decode cX4_digest 21 = .ok (.i2l, 1) := by decide +kernel
theorem dX4_digest_22 : decode cX4_digest 22 = .ok (.invokevirtual 266, 3) := by decide +kernel
theorem dX4_digest_25 : decode cX4_digest 25 = .ok (.iinc 1 1, 3) := by decide +kernel
theorem dX4_digest_28 : decode cX4_digest 28 = .ok (.goto (-19), 3) := by decide +kernel
theorem dX4_digest_31 : decode cX4_digest 31 = .ok (.iconst 0, 1) := by decide +kernel
theorem dX4_digest_32 : decode cX4_digest 32 = .ok (.istore_n 1, 1) := by decide +kernel
theorem dX4_digest_33 : decode cX4_digest 33 = .ok (.iload_n 1, 1) := by decide +kernel
theorem dX4_digest_34 : decode cX4_digest 34 = .ok (.bipush 9, 2) := by decide +kernel
theorem dX4_digest_36 : decode cX4_digest 36 = .ok (.if_icmp .ge 75, 3) := by decide +kernel
theorem dX4_digest_39 : decode cX4_digest 39 = .ok (.aload_n 0, 1) := by decide +kernel
theorem dX4_digest_40 : decode cX4_digest 40 = .ok (.aload_n 0, 1) := by decide +kernel
theorem dX4_digest_41 : decode cX4_digest 41 = .ok (.getfield 7, 3) := by decide +kernel
theorem dX4_digest_44 : decode cX4_digest 44 = .ok (.bipush 118, 2) := by decide +kernel
theorem dX4_digest_46 : decode cX4_digest 46 = .ok (.iload_n 1, 1) := by decide +kernel
theorem dX4_digest_47 : decode cX4_digest 47 = .ok (.iadd, 1) := by decide +kernel
theorem dX4_digest_48 : decode cX4_digest 48 = .ok (.iaload, 1) := by decide +kernel
theorem dX4_digest_49 : decode cX4_digest 49 = .ok (.i2l, 1) := by decide +kernel
theorem dX4_digest_50 : decode cX4_digest 50 = .ok (.invokevirtual 266, 3) := by decide +kernel
theorem dX4_digest_53 : decode cX4_digest 53 = .ok (.aload_n 0, 1) := by decide +kernel
theorem dX4_digest_54 : decode cX4_digest 54 = .ok (.aload_n 0, 1) := by decide +kernel
theorem dX4_digest_55 : decode cX4_digest 55 = .ok (.getfield 7, 3) := by decide +kernel
theorem dX4_digest_58 : decode cX4_digest 58 = .ok (.iconst 1, 1) := by decide +kernel
theorem dX4_digest_59 : decode cX4_digest 59 = .ok (.iload_n 1, 1) := by decide +kernel
theorem dX4_digest_60 : decode cX4_digest 60 = .ok (.iadd, 1) := by decide +kernel
theorem dX4_digest_61 : decode cX4_digest 61 = .ok (.iaload, 1) := by decide +kernel
theorem dX4_digest_62 : decode cX4_digest 62 = .ok (.i2l, 1) := by decide +kernel
theorem dX4_digest_63 : decode cX4_digest 63 = .ok (.invokevirtual 266, 3) := by decide +kernel
theorem dX4_digest_66 : decode cX4_digest 66 = .ok (.iconst 0, 1) := by decide +kernel
theorem dX4_digest_67 : decode cX4_digest 67 = .ok (.istore_n 2, 1) := by decide +kernel
theorem dX4_digest_68 : decode cX4_digest 68 = .ok (.iload_n 2, 1) := by decide +kernel
theorem dX4_digest_69 : decode cX4_digest 69 = .ok (.iconst 4, 1) := by decide +kernel
theorem dX4_digest_70 : decode cX4_digest 70 = .ok (.aload_n 0, 1) := by decide +kernel
theorem dX4_digest_71 : decode cX4_digest 71 = .ok (.getfield 7, 3) := by decide +kernel
theorem dX4_digest_74 : decode cX4_digest 74 = .ok (.iconst 1, 1) := by decide +kernel
theorem dX4_digest_75 : decode cX4_digest 75 = .ok (.iload_n 1, 1) := by decide +kernel
theorem dX4_digest_76 : decode cX4_digest 76 = .ok (.iadd, 1) := by decide +kernel
theorem dX4_digest_77 : decode cX4_digest 77 = .ok (.iaload, 1) := by decide +kernel
theorem dX4_digest_78 : decode cX4_digest 78 = .ok (.imul, 1) := by decide +kernel
theorem dX4_digest_79 : decode cX4_digest 79 = .ok (.if_icmp .ge 26, 3) := by decide +kernel
theorem dX4_digest_82 : decode cX4_digest 82 = .ok (.aload_n 0, 1) := by decide +kernel
theorem dX4_digest_83 : decode cX4_digest 83 = .ok (.aload_n 0, 1) := by decide +kernel
theorem dX4_digest_84 : decode cX4_digest 84 = .ok (.getfield 7, 3) := by decide +kernel
theorem dX4_digest_87 : decode cX4_digest 87 = .ok (.iload_n 1, 1) := by decide +kernel
theorem dX4_digest_88 : decode cX4_digest 88 = .ok (.iconst 0, 1) := by decide +kernel
theorem dX4_digest_89 : decode cX4_digest 89 = .ok (.invokestatic 59, 3) := by decide +kernel
theorem dX4_digest_92 : decode cX4_digest 92 = .ok (.iload_n 2, 1) := by decide +kernel
theorem dX4_digest_93 : decode cX4_digest 93 = .ok (.iadd, 1) := by decide +kernel
theorem dX4_digest_94 : decode cX4_digest 94 = .ok (.iaload, 1) := by decide +kernel
theorem dX4_digest_95 : decode cX4_digest 95 = .ok (.i2l, 1) := by decide +kernel
theorem dX4_digest_96 : decode cX4_digest 96 = .ok (.invokevirtual 266, 3) := by decide +kernel
theorem dX4_digest_99 : decode cX4_digest 99 = .ok (.iinc 2 1, 3) := by decide +kernel
theorem dX4_digest_102 : decode cX4_digest 102 = .ok (.goto (-34), 3) := by decide +kernel
theorem dX4_digest_105 : decode cX4_digest 105 = .ok (.iinc 1 1, 3) := by decide +kernel
theorem dX4_digest_108 : decode cX4_digest 108 = .ok (.goto (-75), 3) := by decide +kernel
theorem dX4_digest_111 : decode cX4_digest 111 = .ok (.iconst 0, 1) := by decide +kernel
theorem dX4_digest_112 : decode cX4_digest 112 = .ok (.istore_n 1, 1) := by decide +kernel
theorem dX4_digest_113 : decode cX4_digest 113 = .ok (.iload_n 1, 1) := by decide +kernel
theorem dX4_digest_114 : decode cX4_digest 114 = .ok (.iconst 3, 1) := by decide +kernel
theorem dX4_digest_115 : decode cX4_digest 115 = .ok (.aload_n 0, 1) := by decide +kernel
theorem dX4_digest_116 : decode cX4_digest 116 = .ok (.getfield 7, 3) := by decide +kernel
theorem dX4_digest_119 : decode cX4_digest 119 = .ok (.bipush 127, 2) := by decide +kernel
theorem dX4_digest_121 : decode cX4_digest 121 = .ok (.iaload, 1) := by decide +kernel
theorem dX4_digest_122 : decode cX4_digest 122 = .ok (.imul, 1) := by decide +kernel
theorem dX4_digest_123 : decode cX4_digest 123 = .ok (.if_icmp .ge 24, 3) := by decide +kernel
theorem dX4_digest_126 : decode cX4_digest 126 = .ok (.aload_n 0, 1) := by decide +kernel
theorem dX4_digest_127 : decode cX4_digest 127 = .ok (.aload_n 0, 1) := by decide +kernel
theorem dX4_digest_128 : decode cX4_digest 128 = .ok (.getfield 7, 3) := by decide +kernel
theorem dX4_digest_131 : decode cX4_digest 131 = .ok (.sipush 128, 3) := by decide +kernel
theorem dX4_digest_134 : decode cX4_digest 134 = .ok (.iload_n 1, 1) := by decide +kernel
theorem dX4_digest_135 : decode cX4_digest 135 = .ok (.iadd, 1) := by decide +kernel
theorem dX4_digest_136 : decode cX4_digest 136 = .ok (.iaload, 1) := by decide +kernel
theorem dX4_digest_137 : decode cX4_digest 137 = .ok (.i2l, 1) := by decide +kernel
theorem dX4_digest_138 : decode cX4_digest 138 = .ok (.invokevirtual 266, 3) := by decide +kernel
theorem dX4_digest_141 : decode cX4_digest 141 = .ok (.iinc 1 1, 3) := by decide +kernel
theorem dX4_digest_144 : decode cX4_digest 144 = .ok (.goto (-31), 3) := by decide +kernel
theorem dX4_digest_147 : decode cX4_digest 147 = .ok (.aload_n 0, 1) := by decide +kernel
theorem dX4_digest_148 : decode cX4_digest 148 = .ok (.aload_n 0, 1) := by decide +kernel
theorem dX4_digest_149 : decode cX4_digest 149 = .ok (.getfield 196, 3) := by decide +kernel
theorem dX4_digest_152 : decode cX4_digest 152 = .ok (.invokevirtual 266, 3) := by decide +kernel
theorem dX4_digest_155 : decode cX4_digest 155 = .ok (.aload_n 0, 1) := by decide +kernel
theorem dX4_digest_156 : decode cX4_digest 156 = .ok (.aload_n 0, 1) := by decide +kernel
theorem dX4_digest_157 : decode cX4_digest 157 = .ok (.getfield 23, 3) := by decide +kernel
theorem dX4_digest_160 : decode cX4_digest 160 = .ok (.invokevirtual 266, 3) := by decide +kernel
theorem dX4_digest_163 : decode cX4_digest 163 = .ok (.aload_n 0, 1) := by decide +kernel
theorem dX4_digest_164 : decode cX4_digest 164 = .ok (.getfield 261, 3) := by decide +kernel
theorem dX4_digest_167 : decode cX4_digest 167 = .ok (.lreturn, 1) := by decide +kernel
