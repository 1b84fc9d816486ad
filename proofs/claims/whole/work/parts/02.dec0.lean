theorem dX0_init_0 : decode cX0_init 0 = .ok (.aload_n 0, 1) := by decide +kernel
theorem dX0_init_1 : decode cX0_init 1 = .ok (.invokespecial 3, 3) := by decide +kernel
theorem dX0_init_4 : decode cX0_init 4 = .ok (.aload_n 0, 1) := by decide +kernel
theorem dX0_init_5 : decode cX0_init 5 = .ok (.bipush 9, 2) := by decide +kernel
theorem dX0_init_7 : decode cX0_init 7 = .ok (.newarray .int, 2) := by decide +kernel
theorem dX0_init_9 : decode cX0_init 9 = .ok (.putfield 9, 3) := by decide +kernel
theorem dX0_init_12 : decode cX0_init 12 = .ok (.aload_n 0, 1) := by decide +kernel
theorem dX0_init_13 : decode cX0_init 13 = .ok (.bipush 118, 2) := by decide +kernel
theorem dX0_init_15 : decode cX0_init 15 = .ok (.newarray .int, 2) := by decide +kernel
theorem dX0_init_17 : decode cX0_init 17 = .ok (.putfield 15, 3) := by decide +kernel
theorem dX0_init_20 : decode cX0_init 20 = .ok (.aload_n 0, 1) := by decide +kernel
theorem dX0_init_21 : decode cX0_init 21 = .ok (.iconst 3, 1) := by decide +kernel
theorem dX0_init_22 : decode cX0_init 22 = .ok (.newarray .int, 2) := by decide +kernel
theorem dX0_init_24 : decode cX0_init 24 = .ok (.putfield 18, 3) := by decide +kernel
theorem dX0_init_27 : decode cX0_init 27 = .ok (.iconst 0, 1) := by decide +kernel
theorem dX0_init_28 : decode cX0_init 28 = .ok (.istore_n 1, 1) := by decide +kernel
theorem dX0_init_29 : decode cX0_init 29 = .ok (.iload_n 1, 1) := by decide +kernel
theorem dX0_init_30 : decode cX0_init 30 = .ok (.bipush 9, 2) := by decide +kernel
theorem dX0_init_32 : decode cX0_init 32 = .ok (.if_icmp .ge 16, 3) := by decide +kernel
theorem dX0_init_35 : decode cX0_init 35 = .ok (.aload_n 0, 1) := by decide +kernel
theorem dX0_init_36 : decode cX0_init 36 = .ok (.getfield 9, 3) := by decide +kernel
theorem dX0_init_39 : decode cX0_init 39 = .ok (.iload_n 1, 1) := by decide +kernel
theorem dX0_init_40 : decode cX0_init 40 = .ok (.iconst 1, 1) := by decide +kernel
theorem dX0_init_41 : decode cX0_init 41 = .ok (.iastore, 1) := by decide +kernel
theorem dX0_init_42 : decode cX0_init 42 = .ok (.iinc 1 1, 3) := by decide +kernel
theorem dX0_init_45 : decode cX0_init 45 = .ok (.goto (-16), 3) := by decide +kernel
theorem dX0_init_48 : decode cX0_init 48 = .ok (.return_, 1) := by decide +kernel
theorem dX0_renew_0 : decode cX0_renew 0 = .ok (.iconst 0, 1) := by decide +kernel
theorem dX0_renew_1 : decode cX0_renew 1 = .ok (.istore_n 2, 1) := by decide +kernel
theorem dX0_renew_2 : decode cX0_renew 2 = .ok (.iload_n 2, 1) := by decide +kernel
theorem dX0_renew_3 : decode cX0_renew 3 = .ok (.bipush 9, 2) := by decide +kernel
theorem dX0_renew_5 : decode cX0_renew 5 = .ok (.if_icmp .ge 26, 3) := by decide +kernel
theorem dX0_renew_8 : decode cX0_renew 8 = .ok (.aload_n 0, 1) := by decide +kernel
theorem dX0_renew_9 : decode cX0_renew 9 = .ok (.getfield 9, 3) := by decide +kernel
theorem dX0_renew_12 : decode cX0_renew 12 = .ok (.iload_n 2, 1) := by decide +kernel
theorem dX0_renew_13 : decode cX0_renew 13 = .ok (.iconst 1, 1) := by decide +kernel
theorem dX0_renew_14 : decode cX0_renew 14 = .ok (.iastore, 1) := by decide +kernel
theorem dX0_renew_15 : decode cX0_renew 15 = .ok (.aload_n 0, 1) := by decide +kernel
theorem dX0_renew_16 : decode cX0_renew 16 = .ok (.getfield 15, 3) := by decide +kernel
theorem dX0_renew_19 : decode cX0_renew 19 = .ok (.bipush 108, 2) := by decide +kernel
theorem dX0_renew_21 : decode cX0_renew 21 = .ok (.iload_n 2, 1) := by decide +kernel
theorem dX0_renew_22 : decode cX0_renew 22 = .ok (.iadd, 1) := by decide +kernel
theorem dX0_renew_23 : decode cX0_renew 23 = .ok (.iconst 0, 1) := by decide +kernel
theorem dX0_renew_24 : decode cX0_renew 24 = .ok (.iastore, 1) := by decide +kernel
theorem dX0_renew_25 : decode cX0_renew 25 = .ok (.iinc 2 1, 3) := by decide +kernel
theorem dX0_renew_28 : decode cX0_renew 28 = .ok (.goto (-26), 3) := by decide +kernel
theorem dX0_renew_31 : decode cX0_renew 31 = .ok (.aload_n 0, 1) := by decide +kernel
theorem dX0_renew_32 : decode cX0_renew 32 = .ok (.getfield 15, 3) := by decide +kernel
theorem dX0_renew_35 : decode cX0_renew 35 = .ok (.bipush 117, 2) := by decide +kernel
theorem dX0_renew_37 : decode cX0_renew 37 = .ok (.iload_n 1, 1) := by decide +kernel
theorem dX0_renew_38 : decode cX0_renew 38 = .ok (.iastore, 1) := by decide +kernel
theorem dX0_renew_39 : decode cX0_renew 39 = .ok (.return_, 1) := by decide +kernel
theorem dX0_copy_0 : decode cX0_copy 0 = .ok (.aload_n 1, 1) := by decide +kernel
theorem dX0_copy_1 : decode cX0_copy 1 = .ok (.getfield 9, 3) := by decide +kernel
theorem dX0_copy_4 : decode cX0_copy 4 = .ok (.iconst 0, 1) := by decide +kernel
theorem dX0_copy_5 : decode cX0_copy 5 = .ok (.aload_n 0, 1) := by decide +kernel
theorem dX0_copy_6 : decode cX0_copy 6 = .ok (.getfield 9, 3) := by decide +kernel
theorem dX0_copy_9 : decode cX0_copy 9 = .ok (.iconst 0, 1) := by decide +kernel
theorem dX0_copy_10 : decode cX0_copy 10 = .ok (.bipush 9, 2) := by decide +kernel
theorem dX0_copy_12 : decode cX0_copy 12 = .ok (.invokestatic 21, 3) := by decide +kernel
theorem dX0_copy_15 : decode cX0_copy 15 = .ok (.aload_n 1, 1) := by decide +kernel
theorem dX0_copy_16 : decode cX0_copy 16 = .ok (.getfield 15, 3) := by decide +kernel
theorem dX0_copy_19 : decode cX0_copy 19 = .ok (.iconst 0, 1) := by decide +kernel
theorem dX0_copy_20 : decode cX0_copy 20 = .ok (.aload_n 0, 1) := by decide +kernel
theorem dX0_copy_21 : decode cX0_copy 21 = .ok (.getfield 15, 3) := by decide +kernel
theorem dX0_copy_24 : decode cX0_copy 24 = .ok (.iconst 0, 1) := by decide +kernel
theorem dX0_copy_25 : decode cX0_copy 25 = .ok (.bipush 118, 2) := by decide +kernel
theorem dX0_copy_27 : decode cX0_copy 27 = .ok (.invokestatic 21, 3) := by decide +kernel
theorem dX0_copy_30 : decode cX0_copy 30 = .ok (.return_, 1) := by decide +kernel
theorem dX0_year_0 : decode cX0_year 0 = .ok (.aload_n 0, 1) := by decide +kernel
theorem dX0_year_1 : decode cX0_year 1 = .ok (.getfield 15, 3) := by decide +kernel
theorem dX0_year_4 : decode cX0_year 4 = .ok (.bipush 117, 2) := by decide +kernel
theorem dX0_year_6 : decode cX0_year 6 = .ok (.iaload, 1) := by decide +kernel
theorem dX0_year_7 : decode cX0_year 7 = .ok (.ireturn, 1) := by decide +kernel
theorem dX0_many_0 : decode cX0_many 0 = .ok (.iload_n 1, 1) := by decide +kernel
theorem dX0_many_1 : decode cX0_many 1 = .ok (.ifCond .lt 21, 3) := by decide +kernel
theorem dX0_many_4 : decode cX0_many 4 = .ok (.iload_n 1, 1) := by decide +kernel
theorem dX0_many_5 : decode cX0_many 5 = .ok (.bipush 9, 2) := by decide +kernel
theorem dX0_many_7 : decode cX0_many 7 = .ok (.if_icmp .ge 15, 3) := by decide +kernel
theorem dX0_many_10 : decode cX0_many 10 = .ok (.aload_n 0, 1) := by decide +kernel
theorem dX0_many_11 : decode cX0_many 11 = .ok (.getfield 15, 3) := by decide +kernel
theorem dX0_many_14 : decode cX0_many 14 = .ok (.bipush 108, 2) := by decide +kernel
theorem dX0_many_16 : decode cX0_many 16 = .ok (.iload_n 1, 1) := by decide +kernel
theorem dX0_many_17 : decode cX0_many 17 = .ok (.iadd, 1) := by decide +kernel
theorem dX0_many_18 : decode cX0_many 18 = .ok (.iaload, 1) := by decide +kernel
theorem dX0_many_19 : decode cX0_many 19 = .ok (.goto 4, 3) := by decide +kernel
theorem dX0_many_22 : decode cX0_many 22 = .ok (.iconst 0, 1) := by decide +kernel
theorem dX0_many_23 : decode cX0_many 23 = .ok (.ireturn, 1) := by decide +kernel
theorem dX0_get_0 : decode cX0_get 0 = .ok (.iload_n 1, 1) := by decide +kernel
theorem dX0_get_1 : decode cX0_get 1 = .ok (.ifCond .lt 18, 3) := by decide +kernel
theorem dX0_get_4 : decode cX0_get 4 = .ok (.iload_n 1, 1) := by decide +kernel
theorem dX0_get_5 : decode cX0_get 5 = .ok (.bipush 9, 2) := by decide +kernel
theorem dX0_get_7 : decode cX0_get 7 = .ok (.if_icmp .ge 12, 3) := by decide +kernel
theorem dX0_get_10 : decode cX0_get 10 = .ok (.iload_n 2, 1) := by decide +kernel
theorem dX0_get_11 : decode cX0_get 11 = .ok (.ifCond .lt 8, 3) := by decide +kernel
theorem dX0_get_14 : decode cX0_get 14 = .ok (.iload_n 2, 1) := by decide +kernel
theorem dX0_get_15 : decode cX0_get 15 = .ok (.iconst 3, 1) := by decide +kernel
theorem dX0_get_16 : decode cX0_get 16 = .ok (.if_icmp .lt 5, 3) := by decide +kernel
theorem dX0_get_19 : decode cX0_get 19 = .ok (.iconst (-1), 1) := by decide +kernel
theorem dX0_get_20 : decode cX0_get 20 = .ok (.ireturn, 1) := by decide +kernel
theorem dX0_get_21 : decode cX0_get 21 = .ok (.iload_n 3, 1) := by decide +kernel
theorem dX0_get_22 : decode cX0_get 22 = .ok (.ifCond .lt 8, 3) := by decide +kernel
theorem dX0_get_25 : decode cX0_get 25 = .ok (.iload_n 3, 1) := by decide +kernel
theorem dX0_get_26 : decode cX0_get 26 = .ok (.iconst 4, 1) := by decide +kernel
theorem dX0_get_27 : decode cX0_get 27 = .ok (.if_icmp .lt 5, 3) := by decide +kernel
theorem dX0_get_30 : decode cX0_get 30 = .ok (.iconst (-1), 1) := by decide +kernel
theorem dX0_get_31 : decode cX0_get 31 = .ok (.ireturn, 1) := by decide +kernel
theorem dX0_get_32 : decode cX0_get 32 = .ok (.aload_n 0, 1) := by decide +kernel
theorem dX0_get_33 : decode cX0_get 33 = .ok (.getfield 15, 3) := by decide +kernel
theorem dX0_get_36 : decode cX0_get 36 = .ok (.iload_n 1, 1) := by decide +kernel
theorem dX0_get_37 : decode cX0_get 37 = .ok (.iconst 3, 1) := by decide +kernel
theorem dX0_get_38 : decode cX0_get 38 = .ok (.imul, 1) := by decide +kernel
theorem dX0_get_39 : decode cX0_get 39 = .ok (.iload_n 2, 1) := by decide +kernel
theorem dX0_get_40 : decode cX0_get 40 = .ok (.iadd, 1) := by decide +kernel
theorem dX0_get_41 : decode cX0_get 41 = .ok (.iconst 4, 1) := by decide +kernel
theorem dX0_get_42 : decode cX0_get 42 = .ok (.imul, 1) := by decide +kernel
theorem dX0_get_43 : decode cX0_get 43 = .ok (.iload_n 3, 1) := by decide +kernel
theorem dX0_get_44 : decode cX0_get 44 = .ok (.iadd, 1) := by decide +kernel
theorem dX0_get_45 : decode cX0_get 45 = .ok (.iaload, 1) := by decide +kernel
theorem dX0_get_46 : decode cX0_get 46 = .ok (.ireturn, 1) := by decide +kernel
theorem dX0_threadAt_0 : decode cX0_threadAt 0 = .ok (.iload_n 2, 1) := by decide +kernel
theorem dX0_threadAt_1 : decode cX0_threadAt 1 = .ok (.iconst 3, 1) := by decide +kernel
theorem dX0_threadAt_2 : decode cX0_threadAt 2 = .ok (.invokestatic 27, 3) := by decide +kernel
theorem dX0_threadAt_5 : decode cX0_threadAt 5 = .ok (.ifCond .eq 13, 3) := by decide +kernel
theorem dX0_threadAt_8 : decode cX0_threadAt 8 = .ok (.aload_n 0, 1) := by decide +kernel
theorem dX0_threadAt_9 : decode cX0_threadAt 9 = .ok (.iload_n 1, 1) := by decide +kernel
theorem dX0_threadAt_10 : decode cX0_threadAt 10 = .ok (.iload_n 2, 1) := by decide +kernel
theorem dX0_threadAt_11 : decode cX0_threadAt 11 = .ok (.iconst 2, 1) := by decide +kernel
theorem dX0_threadAt_12 : decode cX0_threadAt 12 = .ok (.invokevirtual 31, 3) := by decide +kernel
theorem dX0_threadAt_15 : decode cX0_threadAt 15 = .ok (.goto 4, 3) := by decide +kernel
theorem dX0_threadAt_18 : decode cX0_threadAt 18 = .ok (.iconst 0, 1) := by decide +kernel
theorem dX0_threadAt_19 : decode cX0_threadAt 19 = .ok (.ireturn, 1) := by decide +kernel
theorem dX0_isHole_0 : decode cX0_isHole 0 = .ok (.aload_n 0, 1) := by decide +kernel
theorem dX0_isHole_1 : decode cX0_isHole 1 = .ok (.iload_n 1, 1) := by decide +kernel
theorem dX0_isHole_2 : decode cX0_isHole 2 = .ok (.invokevirtual 35, 3) := by decide +kernel
theorem dX0_isHole_5 : decode cX0_isHole 5 = .ok (.ifCond .gt 7, 3) := by decide +kernel
theorem dX0_isHole_8 : decode cX0_isHole 8 = .ok (.iconst 1, 1) := by decide +kernel
theorem dX0_isHole_9 : decode cX0_isHole 9 = .ok (.goto 4, 3) := by decide +kernel
theorem dX0_isHole_12 : decode cX0_isHole 12 = .ok (.iconst 0, 1) := by decide +kernel
theorem dX0_isHole_13 : decode cX0_isHole 13 = .ok (.ireturn, 1) := by decide +kernel
theorem dX0_hasRoom_0 : decode cX0_hasRoom 0 = .ok (.aload_n 0, 1) := by decide +kernel
theorem dX0_hasRoom_1 : decode cX0_hasRoom 1 = .ok (.iload_n 1, 1) := by decide +kernel
theorem dX0_hasRoom_2 : decode cX0_hasRoom 2 = .ok (.invokevirtual 35, 3) := by decide +kernel
theorem dX0_hasRoom_5 : decode cX0_hasRoom 5 = .ok (.iconst 3, 1) := by decide +kernel
theorem dX0_hasRoom_6 : decode cX0_hasRoom 6 = .ok (.if_icmp .ge 7, 3) := by decide +kernel
theorem dX0_hasRoom_9 : decode cX0_hasRoom 9 = .ok (.iconst 1, 1) := by decide +kernel
theorem dX0_hasRoom_10 : decode cX0_hasRoom 10 = .ok (.goto 4, 3) := by decide +kernel
theorem dX0_hasRoom_13 : decode cX0_hasRoom 13 = .ok (.iconst 0, 1) := by decide +kernel
theorem dX0_hasRoom_14 : decode cX0_hasRoom 14 = .ok (.ireturn, 1) := by decide +kernel
theorem dX0_darnsOf_0 : decode cX0_darnsOf 0 = .ok (.iconst 0, 1) := by decide +kernel
theorem dX0_darnsOf_1 : decode cX0_darnsOf 1 = .ok (.istore_n 2, 1) := by decide +kernel
theorem dX0_darnsOf_2 : decode cX0_darnsOf 2 = .ok (.iconst 0, 1) := by decide +kernel
theorem dX0_darnsOf_3 : decode cX0_darnsOf 3 = .ok (.istore_n 3, 1) := by decide +kernel
theorem dX0_darnsOf_4 : decode cX0_darnsOf 4 = .ok (.iload_n 3, 1) := by decide +kernel
theorem dX0_darnsOf_5 : decode cX0_darnsOf 5 = .ok (.bipush 9, 2) := by decide +kernel
theorem dX0_darnsOf_7 : decode cX0_darnsOf 7 = .ok (.if_icmp .ge 25, 3) := by decide +kernel
theorem dX0_darnsOf_10 : decode cX0_darnsOf 10 = .ok (.iload_n 1, 1) := by decide +kernel
theorem dX0_darnsOf_11 : decode cX0_darnsOf 11 = .ok (.iload_n 3, 1) := by decide +kernel
theorem dX0_darnsOf_12 : decode cX0_darnsOf 12 = .ok (.ishr, 1) := by decide +kernel
theorem dX0_darnsOf_13 : decode cX0_darnsOf 13 = .ok (.iconst 1, 1) := by decide +kernel
theorem dX0_darnsOf_14 : decode cX0_darnsOf 14 = .ok (.iand, 1) := by decide +kernel
theorem dX0_darnsOf_15 : decode cX0_darnsOf 15 = .ok (.ifCond .eq 11, 3) := by decide +kernel
theorem dX0_darnsOf_18 : decode cX0_darnsOf 18 = .ok (.iload_n 2, 1) := by decide +kernel
theorem dX0_darnsOf_19 : decode cX0_darnsOf 19 = .ok (.aload_n 0, 1) := by decide +kernel
theorem dX0_darnsOf_20 : decode cX0_darnsOf 20 = .ok (.iload_n 3, 1) := by decide +kernel
theorem dX0_darnsOf_21 : decode cX0_darnsOf 21 = .ok (.invokevirtual 35, 3) := by decide +kernel
theorem dX0_darnsOf_24 : decode cX0_darnsOf 24 = .ok (.iadd, 1) := by decide +kernel
theorem dX0_darnsOf_25 : decode cX0_darnsOf 25 = .ok (.istore_n 2, 1) := by decide +kernel
theorem dX0_darnsOf_26 : decode cX0_darnsOf 26 = .ok (.iinc 3 1, 3) := by decide +kernel
theorem dX0_darnsOf_29 : decode cX0_darnsOf 29 = .ok (.goto (-25), 3) := by decide +kernel
theorem dX0_darnsOf_32 : decode cX0_darnsOf 32 = .ok (.iload_n 2, 1) := by decide +kernel
theorem dX0_darnsOf_33 : decode cX0_darnsOf 33 = .ok (.ireturn, 1) := by decide +kernel
theorem dX0_darns_0 : decode cX0_darns 0 = .ok (.aload_n 0, 1) := by decide +kernel
theorem dX0_darns_1 : decode cX0_darns 1 = .ok (.sipush 511, 3) := by decide +kernel
theorem dX0_darns_4 : decode cX0_darns 4 = .ok (.invokevirtual 39, 3) := by decide +kernel
theorem dX0_darns_7 : decode cX0_darns 7 = .ok (.ireturn, 1) := by decide +kernel
theorem dX0_holeBits_0 : decode cX0_holeBits 0 = .ok (.iconst 0, 1) := by decide +kernel
theorem dX0_holeBits_1 : decode cX0_holeBits 1 = .ok (.istore_n 1, 1) := by decide +kernel
theorem dX0_holeBits_2 : decode cX0_holeBits 2 = .ok (.iconst 0, 1) := by decide +kernel
theorem dX0_holeBits_3 : decode cX0_holeBits 3 = .ok (.istore_n 2, 1) := by decide +kernel
theorem dX0_holeBits_4 : decode cX0_holeBits 4 = .ok (.iload_n 2, 1) := by decide +kernel
theorem dX0_holeBits_5 : decode cX0_holeBits 5 = .ok (.bipush 9, 2) := by decide +kernel
theorem dX0_holeBits_7 : decode cX0_holeBits 7 = .ok (.if_icmp .ge 23, 3) := by decide +kernel
theorem dX0_holeBits_10 : decode cX0_holeBits 10 = .ok (.aload_n 0, 1) := by decide +kernel
theorem dX0_holeBits_11 : decode cX0_holeBits 11 = .ok (.iload_n 2, 1) := by decide +kernel
theorem dX0_holeBits_12 : decode cX0_holeBits 12 = .ok (.invokevirtual 42, 3) := by decide +kernel
theorem dX0_holeBits_15 : decode cX0_holeBits 15 = .ok (.ifCond .eq 9, 3) := by decide +kernel
theorem dX0_holeBits_18 : decode cX0_holeBits 18 = .ok (.iload_n 1, 1) := by decide +kernel
theorem dX0_holeBits_19 : decode cX0_holeBits 19 = .ok (.iconst 1, 1) := by decide +kernel
theorem dX0_holeBits_20 : decode cX0_holeBits 20 = .ok (.iload_n 2, 1) := by decide +kernel
theorem dX0_holeBits_21 : decode cX0_holeBits 21 = .ok (.ishl, 1) := by decide +kernel
theorem dX0_holeBits_22 : decode cX0_holeBits 22 = .ok (.ior, 1) := by decide +kernel
theorem dX0_holeBits_23 : decode cX0_holeBits 23 = .ok (.istore_n 1, 1) := by decide +kernel
theorem dX0_holeBits_24 : decode cX0_holeBits 24 = .ok (.iinc 2 1, 3) := by decide +kernel
theorem dX0_holeBits_27 : decode cX0_holeBits 27 = .ok (.goto (-23), 3) := by decide +kernel
theorem dX0_holeBits_30 : decode cX0_holeBits 30 = .ok (.iload_n 1, 1) := by decide +kernel
theorem dX0_holeBits_31 : decode cX0_holeBits 31 = .ok (.ireturn, 1) := by decide +kernel
theorem dX0_verdict_0 : decode cX0_verdict 0 = .ok (.iload_n 1, 1) := by decide +kernel
theorem dX0_verdict_1 : decode cX0_verdict 1 = .ok (.bipush 9, 2) := by decide +kernel
theorem dX0_verdict_3 : decode cX0_verdict 3 = .ok (.invokestatic 27, 3) := by decide +kernel
theorem dX0_verdict_6 : decode cX0_verdict 6 = .ok (.ifCond .eq 20, 3) := by decide +kernel
theorem dX0_verdict_9 : decode cX0_verdict 9 = .ok (.iload_n 2, 1) := by decide +kernel
theorem dX0_verdict_10 : decode cX0_verdict 10 = .ok (.bipush 6, 2) := by decide +kernel
theorem dX0_verdict_12 : decode cX0_verdict 12 = .ok (.invokestatic 27, 3) := by decide +kernel
theorem dX0_verdict_15 : decode cX0_verdict 15 = .ok (.ifCond .eq 11, 3) := by decide +kernel
theorem dX0_verdict_18 : decode cX0_verdict 18 = .ok (.iload_n 3, 1) := by decide +kernel
theorem dX0_verdict_19 : decode cX0_verdict 19 = .ok (.iconst 3, 1) := by decide +kernel
theorem dX0_verdict_20 : decode cX0_verdict 20 = .ok (.invokestatic 27, 3) := by decide +kernel
theorem dX0_verdict_23 : decode cX0_verdict 23 = .ok (.ifCond .ne 6, 3) := by decide +kernel
theorem dX0_verdict_26 : decode cX0_verdict 26 = .ok (.bipush (-2), 2) := by decide +kernel
theorem dX0_verdict_28 : decode cX0_verdict 28 = .ok (.ireturn, 1) := by decide +kernel
theorem dX0_verdict_29 : decode cX0_verdict 29 = .ok (.iload 4, 2) := by decide +kernel
theorem dX0_verdict_31 : decode cX0_verdict 31 = .ok (.iconst 1, 1) := by decide +kernel
theorem dX0_verdict_32 : decode cX0_verdict 32 = .ok (.bipush 30, 2) := by decide +kernel
theorem dX0_verdict_34 : decode cX0_verdict 34 = .ok (.invokestatic 46, 3) := by decide +kernel
theorem dX0_verdict_37 : decode cX0_verdict 37 = .ok (.ifCond .ne 6, 3) := by decide +kernel
theorem dX0_verdict_40 : decode cX0_verdict 40 = .ok (.bipush (-2), 2) := by decide +kernel
theorem dX0_verdict_42 : decode cX0_verdict 42 = .ok (.ireturn, 1) := by decide +kernel
theorem dX0_verdict_43 : decode cX0_verdict 43 = .ok (.aload_n 0, 1) := by decide +kernel
theorem dX0_verdict_44 : decode cX0_verdict 44 = .ok (.iload_n 1, 1) := by decide +kernel
theorem dX0_verdict_45 : decode cX0_verdict 45 = .ok (.invokevirtual 50, 3) := by decide +kernel
theorem dX0_verdict_48 : decode cX0_verdict 48 = .ok (.ifCond .eq 7, 3) := by decide +kernel
theorem dX0_verdict_51 : decode cX0_verdict 51 = .ok (.iconst 0, 1) := by decide +kernel
theorem dX0_verdict_52 : decode cX0_verdict 52 = .ok (.goto 5, 3) := by decide +kernel
theorem dX0_verdict_55 : decode cX0_verdict 55 = .ok (.bipush (-4), 2) := by decide +kernel
theorem dX0_verdict_57 : decode cX0_verdict 57 = .ok (.ireturn, 1) := by decide +kernel
theorem dX0_put_0 : decode cX0_put 0 = .ok (.aload_n 0, 1) := by decide +kernel
theorem dX0_put_1 : decode cX0_put 1 = .ok (.iload_n 1, 1) := by decide +kernel
theorem dX0_put_2 : decode cX0_put 2 = .ok (.iload_n 2, 1) := by decide +kernel
theorem dX0_put_3 : decode cX0_put 3 = .ok (.iload_n 3, 1) := by decide +kernel
theorem dX0_put_4 : decode cX0_put 4 = .ok (.iload 4, 2) := by decide +kernel
theorem dX0_put_6 : decode cX0_put 6 = .ok (.invokevirtual 53, 3) := by decide +kernel
theorem dX0_put_9 : decode cX0_put 9 = .ok (.ifCond .eq 9, 3) := by decide +kernel
theorem dX0_put_12 : decode cX0_put 12 = .ok (.aload_n 0, 1) := by decide +kernel
theorem dX0_put_13 : decode cX0_put 13 = .ok (.iload_n 1, 1) := by decide +kernel
theorem dX0_put_14 : decode cX0_put 14 = .ok (.invokevirtual 35, 3) := by decide +kernel
theorem dX0_put_17 : decode cX0_put 17 = .ok (.ireturn, 1) := by decide +kernel
theorem dX0_put_18 : decode cX0_put 18 = .ok (.iload_n 1, 1) := by decide +kernel
theorem dX0_put_19 : decode cX0_put 19 = .ok (.iconst 3, 1) := by decide +kernel
theorem dX0_put_20 : decode cX0_put 20 = .ok (.imul, 1) := by decide +kernel
theorem dX0_put_21 : decode cX0_put 21 = .ok (.aload_n 0, 1) := by decide +kernel
theorem dX0_put_22 : decode cX0_put 22 = .ok (.getfield 15, 3) := by decide +kernel
theorem dX0_put_25 : decode cX0_put 25 = .ok (.bipush 108, 2) := by decide +kernel
theorem dX0_put_27 : decode cX0_put 27 = .ok (.iload_n 1, 1) := by decide +kernel
theorem dX0_put_28 : decode cX0_put 28 = .ok (.iadd, 1) := by decide +kernel
theorem dX0_put_29 : decode cX0_put 29 = .ok (.iaload, 1) := by decide +kernel
theorem dX0_put_30 : decode cX0_put 30 = .ok (.iadd, 1) := by decide +kernel
theorem dX0_put_31 : decode cX0_put 31 = .ok (.iconst 4, 1) := by decide +kernel
theorem dX0_put_32 : decode cX0_put 32 = .ok (.imul, 1) := by decide +kernel
theorem dX0_put_33 : decode cX0_put 33 = .ok (.istore 5, 2) := by decide +kernel
theorem dX0_put_35 : decode cX0_put 35 = .ok (.aload_n 0, 1) := by decide +kernel
theorem dX0_put_36 : decode cX0_put 36 = .ok (.getfield 15, 3) := by decide +kernel
theorem dX0_put_39 : decode cX0_put 39 = .ok (.iload 5, 2) := by decide +kernel
theorem dX0_put_41 : decode cX0_put 41 = .ok (.iconst 0, 1) := by decide +kernel
theorem dX0_put_42 : decode cX0_put 42 = .ok (.iadd, 1) := by decide +kernel
theorem dX0_put_43 : decode cX0_put 43 = .ok (.iload_n 2, 1) := by decide +kernel
theorem dX0_put_44 : decode cX0_put 44 = .ok (.iastore, 1) := by decide +kernel
theorem dX0_put_45 : decode cX0_put 45 = .ok (.aload_n 0, 1) := by decide +kernel
theorem dX0_put_46 : decode cX0_put 46 = .ok (.getfield 15, 3) := by decide +kernel
theorem dX0_put_49 : decode cX0_put 49 = .ok (.iload 5, 2) := by decide +kernel
theorem dX0_put_51 : decode cX0_put 51 = .ok (.iconst 1, 1) := by decide +kernel
theorem dX0_put_52 : decode cX0_put 52 = .ok (.iadd, 1) := by decide +kernel
theorem dX0_put_53 : decode cX0_put 53 = .ok (.iload_n 3, 1) := by decide +kernel
theorem dX0_put_54 : decode cX0_put 54 = .ok (.iastore, 1) := by decide +kernel
theorem dX0_put_55 : decode cX0_put 55 = .ok (.aload_n 0, 1) := by decide +kernel
theorem dX0_put_56 : decode cX0_put 56 = .ok (.getfield 15, 3) := by decide +kernel
theorem dX0_put_59 : decode cX0_put 59 = .ok (.iload 5, 2) := by decide +kernel
theorem dX0_put_61 : decode cX0_put 61 = .ok (.iconst 2, 1) := by decide +kernel
theorem dX0_put_62 : decode cX0_put 62 = .ok (.iadd, 1) := by decide +kernel
theorem dX0_put_63 : decode cX0_put 63 = .ok (.iload 4, 2) := by decide +kernel
theorem dX0_put_65 : decode cX0_put 65 = .ok (.iastore, 1) := by decide +kernel
theorem dX0_put_66 : decode cX0_put 66 = .ok (.aload_n 0, 1) := by decide +kernel
theorem dX0_put_67 : decode cX0_put 67 = .ok (.getfield 15, 3) := by decide +kernel
theorem dX0_put_70 : decode cX0_put 70 = .ok (.iload 5, 2) := by decide +kernel
theorem dX0_put_72 : decode cX0_put 72 = .ok (.iconst 3, 1) := by decide +kernel
theorem dX0_put_73 : decode cX0_put 73 = .ok (.iadd, 1) := by decide +kernel
theorem dX0_put_74 : decode cX0_put 74 = .ok (.aload_n 0, 1) := by decide +kernel
theorem dX0_put_75 : decode cX0_put 75 = .ok (.getfield 15, 3) := by decide +kernel
theorem dX0_put_78 : decode cX0_put 78 = .ok (.bipush 117, 2) := by decide +kernel
theorem dX0_put_80 : decode cX0_put 80 = .ok (.iaload, 1) := by decide +kernel
theorem dX0_put_81 : decode cX0_put 81 = .ok (.iastore, 1) := by decide +kernel
theorem dX0_put_82 : decode cX0_put 82 = .ok (.aload_n 0, 1) := by decide +kernel
theorem dX0_put_83 : decode cX0_put 83 = .ok (.getfield 15, 3) := by decide +kernel
theorem dX0_put_86 : decode cX0_put 86 = .ok (.bipush 108, 2) := by decide +kernel
theorem dX0_put_88 : decode cX0_put 88 = .ok (.iload_n 1, 1) := by decide +kernel
theorem dX0_put_89 : decode cX0_put 89 = .ok (.iadd, 1) := by decide +kernel
theorem dX0_put_90 : decode cX0_put 90 = .ok (.dup2, 1) := by decide +kernel
theorem dX0_put_91 : decode cX0_put 91 = .ok (.iaload, 1) := by decide +kernel
theorem dX0_put_92 : decode cX0_put 92 = .ok (.iconst 1, 1) := by decide +kernel
theorem dX0_put_93 : decode cX0_put 93 = .ok (.iadd, 1) := by decide +kernel
theorem dX0_put_94 : decode cX0_put 94 = .ok (.iastore, 1) := by decide +kernel
theorem dX0_put_95 : decode cX0_put 95 = .ok (.aload_n 0, 1) := by decide +kernel
theorem dX0_put_96 : decode cX0_put 96 = .ok (.getfield 15, 3) := by decide +kernel
theorem dX0_put_99 : decode cX0_put 99 = .ok (.bipush 108, 2) := by decide +kernel
theorem dX0_put_101 : decode cX0_put 101 = .ok (.iload_n 1, 1) := by decide +kernel
theorem dX0_put_102 : decode cX0_put 102 = .ok (.iadd, 1) := by decide +kernel
theorem dX0_put_103 : decode cX0_put 103 = .ok (.iaload, 1) := by decide +kernel
theorem dX0_put_104 : decode cX0_put 104 = .ok (.ireturn, 1) := by decide +kernel
theorem dX0_take_0 : decode cX0_take 0 = .ok (.aload_n 0, 1) := by decide +kernel
theorem dX0_take_1 : decode cX0_take 1 = .ok (.iload_n 1, 1) := by decide +kernel
theorem dX0_take_2 : decode cX0_take 2 = .ok (.invokevirtual 42, 3) := by decide +kernel
theorem dX0_take_5 : decode cX0_take 5 = .ok (.ifCond .eq 5, 3) := by decide +kernel
theorem dX0_take_8 : decode cX0_take 8 = .ok (.iconst 0, 1) := by decide +kernel
theorem dX0_take_9 : decode cX0_take 9 = .ok (.ireturn, 1) := by decide +kernel
theorem dX0_take_10 : decode cX0_take 10 = .ok (.aload_n 0, 1) := by decide +kernel
theorem dX0_take_11 : decode cX0_take 11 = .ok (.getfield 15, 3) := by decide +kernel
theorem dX0_take_14 : decode cX0_take 14 = .ok (.bipush 108, 2) := by decide +kernel
theorem dX0_take_16 : decode cX0_take 16 = .ok (.iload_n 1, 1) := by decide +kernel
theorem dX0_take_17 : decode cX0_take 17 = .ok (.iadd, 1) := by decide +kernel
theorem dX0_take_18 : decode cX0_take 18 = .ok (.dup2, 1) := by decide +kernel
theorem dX0_take_19 : decode cX0_take 19 = .ok (.iaload, 1) := by decide +kernel
theorem dX0_take_20 : decode cX0_take 20 = .ok (.iconst 1, 1) := by decide +kernel
theorem dX0_take_21 : decode cX0_take 21 = .ok (.isub, 1) := by decide +kernel
theorem dX0_take_22 : decode cX0_take 22 = .ok (.iastore, 1) := by decide +kernel
theorem dX0_take_23 : decode cX0_take 23 = .ok (.aload_n 0, 1) := by decide +kernel
theorem dX0_take_24 : decode cX0_take 24 = .ok (.iload_n 1, 1) := by decide +kernel
theorem dX0_take_25 : decode cX0_take 25 = .ok (.aload_n 0, 1) := by decide +kernel
theorem dX0_take_26 : decode cX0_take 26 = .ok (.getfield 15, 3) := by decide +kernel
theorem dX0_take_29 : decode cX0_take 29 = .ok (.bipush 108, 2) := by decide +kernel
theorem dX0_take_31 : decode cX0_take 31 = .ok (.iload_n 1, 1) := by decide +kernel
theorem dX0_take_32 : decode cX0_take 32 = .ok (.iadd, 1) := by decide +kernel
theorem dX0_take_33 : decode cX0_take 33 = .ok (.iaload, 1) := by decide +kernel
theorem dX0_take_34 : decode cX0_take 34 = .ok (.iconst 2, 1) := by decide +kernel
theorem dX0_take_35 : decode cX0_take 35 = .ok (.invokevirtual 31, 3) := by decide +kernel
theorem dX0_take_38 : decode cX0_take 38 = .ok (.ireturn, 1) := by decide +kernel
theorem dX0_pass_0 : decode cX0_pass 0 = .ok (.iconst 0, 1) := by decide +kernel
theorem dX0_pass_1 : decode cX0_pass 1 = .ok (.istore_n 1, 1) := by decide +kernel
theorem dX0_pass_2 : decode cX0_pass 2 = .ok (.iload_n 1, 1) := by decide +kernel
theorem dX0_pass_3 : decode cX0_pass 3 = .ok (.bipush 9, 2) := by decide +kernel
theorem dX0_pass_5 : decode cX0_pass 5 = .ok (.if_icmp .ge 22, 3) := by decide +kernel
theorem dX0_pass_8 : decode cX0_pass 8 = .ok (.aload_n 0, 1) := by decide +kernel
theorem dX0_pass_9 : decode cX0_pass 9 = .ok (.iload_n 1, 1) := by decide +kernel
theorem dX0_pass_10 : decode cX0_pass 10 = .ok (.invokevirtual 42, 3) := by decide +kernel
theorem dX0_pass_13 : decode cX0_pass 13 = .ok (.ifCond .ne 8, 3) := by decide +kernel
theorem dX0_pass_16 : decode cX0_pass 16 = .ok (.aload_n 0, 1) := by decide +kernel
theorem dX0_pass_17 : decode cX0_pass 17 = .ok (.iload_n 1, 1) := by decide +kernel
theorem dX0_pass_18 : decode cX0_pass 18 = .ok (.invokevirtual 57, 3) := by decide +kernel
theorem dX0_pass_21 : decode cX0_pass 21 = .ok (.iinc 1 1, 3) := by decide +kernel
theorem dX0_pass_24 : decode cX0_pass 24 = .ok (.goto (-22), 3) := by decide +kernel
theorem dX0_pass_27 : decode cX0_pass 27 = .ok (.aload_n 0, 1) := by decide +kernel
theorem dX0_pass_28 : decode cX0_pass 28 = .ok (.getfield 15, 3) := by decide +kernel
theorem dX0_pass_31 : decode cX0_pass 31 = .ok (.bipush 117, 2) := by decide +kernel
theorem dX0_pass_33 : decode cX0_pass 33 = .ok (.dup2, 1) := by decide +kernel
theorem dX0_pass_34 : decode cX0_pass 34 = .ok (.iaload, 1) := by decide +kernel
theorem dX0_pass_35 : decode cX0_pass 35 = .ok (.iconst 1, 1) := by decide +kernel
theorem dX0_pass_36 : decode cX0_pass 36 = .ok (.iadd, 1) := by decide +kernel
theorem dX0_pass_37 : decode cX0_pass 37 = .ok (.iastore, 1) := by decide +kernel
theorem dX0_pass_38 : decode cX0_pass 38 = .ok (.return_, 1) := by decide +kernel
theorem dX0_wearTop_0 : decode cX0_wearTop 0 = .ok (.aload_n 0, 1) := by decide +kernel
theorem dX0_wearTop_1 : decode cX0_wearTop 1 = .ok (.getfield 15, 3) := by decide +kernel
theorem dX0_wearTop_4 : decode cX0_wearTop 4 = .ok (.bipush 108, 2) := by decide +kernel
theorem dX0_wearTop_6 : decode cX0_wearTop 6 = .ok (.iload_n 1, 1) := by decide +kernel
theorem dX0_wearTop_7 : decode cX0_wearTop 7 = .ok (.iadd, 1) := by decide +kernel
theorem dX0_wearTop_8 : decode cX0_wearTop 8 = .ok (.iaload, 1) := by decide +kernel
theorem dX0_wearTop_9 : decode cX0_wearTop 9 = .ok (.iconst 1, 1) := by decide +kernel
theorem dX0_wearTop_10 : decode cX0_wearTop 10 = .ok (.isub, 1) := by decide +kernel
theorem dX0_wearTop_11 : decode cX0_wearTop 11 = .ok (.istore_n 2, 1) := by decide +kernel
theorem dX0_wearTop_12 : decode cX0_wearTop 12 = .ok (.aload_n 0, 1) := by decide +kernel
theorem dX0_wearTop_13 : decode cX0_wearTop 13 = .ok (.iload_n 1, 1) := by decide +kernel
theorem dX0_wearTop_14 : decode cX0_wearTop 14 = .ok (.iload_n 2, 1) := by decide +kernel
theorem dX0_wearTop_15 : decode cX0_wearTop 15 = .ok (.invokevirtual 61, 3) := by decide +kernel
theorem dX0_wearTop_18 : decode cX0_wearTop 18 = .ok (.aload_n 0, 1) := by decide +kernel
theorem dX0_wearTop_19 : decode cX0_wearTop 19 = .ok (.iload_n 1, 1) := by decide +kernel
theorem dX0_wearTop_20 : decode cX0_wearTop 20 = .ok (.iload_n 2, 1) := by decide +kernel
theorem dX0_wearTop_21 : decode cX0_wearTop 21 = .ok (.iconst 0, 1) := by decide +kernel
theorem dX0_wearTop_22 : decode cX0_wearTop 22 = .ok (.invokevirtual 31, 3) := by decide +kernel
theorem dX0_wearTop_25 : decode cX0_wearTop 25 = .ok (.aload_n 0, 1) := by decide +kernel
theorem dX0_wearTop_26 : decode cX0_wearTop 26 = .ok (.getfield 9, 3) := by decide +kernel
theorem dX0_wearTop_29 : decode cX0_wearTop 29 = .ok (.iload_n 1, 1) := by decide +kernel
theorem dX0_wearTop_30 : decode cX0_wearTop 30 = .ok (.iaload, 1) := by decide +kernel
theorem dX0_wearTop_31 : decode cX0_wearTop 31 = .ok (.aload_n 0, 1) := by decide +kernel
theorem dX0_wearTop_32 : decode cX0_wearTop 32 = .ok (.getfield 15, 3) := by decide +kernel
theorem dX0_wearTop_35 : decode cX0_wearTop 35 = .ok (.bipush 117, 2) := by decide +kernel
theorem dX0_wearTop_37 : decode cX0_wearTop 37 = .ok (.iaload, 1) := by decide +kernel
theorem dX0_wearTop_38 : decode cX0_wearTop 38 = .ok (.invokestatic 65, 3) := by decide +kernel
theorem dX0_wearTop_41 : decode cX0_wearTop 41 = .ok (.isub, 1) := by decide +kernel
theorem dX0_wearTop_42 : decode cX0_wearTop 42 = .ok (.istore_n 3, 1) := by decide +kernel
theorem dX0_wearTop_43 : decode cX0_wearTop 43 = .ok (.iload_n 3, 1) := by decide +kernel
theorem dX0_wearTop_44 : decode cX0_wearTop 44 = .ok (.ifCond .le 21, 3) := by decide +kernel
theorem dX0_wearTop_47 : decode cX0_wearTop 47 = .ok (.aload_n 0, 1) := by decide +kernel
theorem dX0_wearTop_48 : decode cX0_wearTop 48 = .ok (.getfield 15, 3) := by decide +kernel
theorem dX0_wearTop_51 : decode cX0_wearTop 51 = .ok (.iload_n 1, 1) := by decide +kernel
theorem dX0_wearTop_52 : decode cX0_wearTop 52 = .ok (.iconst 3, 1) := by decide +kernel
theorem dX0_wearTop_53 : decode cX0_wearTop 53 = .ok (.imul, 1) := by decide +kernel
theorem dX0_wearTop_54 : decode cX0_wearTop 54 = .ok (.iload_n 2, 1) := by decide +kernel
theorem dX0_wearTop_55 : decode cX0_wearTop 55 = .ok (.iadd, 1) := by decide +kernel
theorem dX0_wearTop_56 : decode cX0_wearTop 56 = .ok (.iconst 4, 1) := by decide +kernel
theorem dX0_wearTop_57 : decode cX0_wearTop 57 = .ok (.imul, 1) := by decide +kernel
theorem dX0_wearTop_58 : decode cX0_wearTop 58 = .ok (.iconst 2, 1) := by decide +kernel
theorem dX0_wearTop_59 : decode cX0_wearTop 59 = .ok (.iadd, 1) := by decide +kernel
theorem dX0_wearTop_60 : decode cX0_wearTop 60 = .ok (.iload_n 3, 1) := by decide +kernel
theorem dX0_wearTop_61 : decode cX0_wearTop 61 = .ok (.iastore, 1) := by decide +kernel
theorem dX0_wearTop_62 : decode cX0_wearTop 62 = .ok (.goto 16, 3) := by decide +kernel
theorem dX0_wearTop_65 : decode cX0_wearTop 65 = .ok (.aload_n 0, 1) := by decide +kernel
theorem dX0_wearTop_66 : decode cX0_wearTop 66 = .ok (.getfield 15, 3) := by decide +kernel
theorem dX0_wearTop_69 : decode cX0_wearTop 69 = .ok (.bipush 108, 2) := by decide +kernel
theorem dX0_wearTop_71 : decode cX0_wearTop 71 = .ok (.iload_n 1, 1) := by decide +kernel
theorem dX0_wearTop_72 : decode cX0_wearTop 72 = .ok (.iadd, 1) := by decide +kernel
theorem dX0_wearTop_73 : decode cX0_wearTop 73 = .ok (.dup2, 1) := by decide +kernel
theorem dX0_wearTop_74 : decode cX0_wearTop 74 = .ok (.iaload, 1) := by decide +kernel
theorem dX0_wearTop_75 : decode cX0_wearTop 75 = .ok (.iconst 1, 1) := by decide +kernel
theorem dX0_wearTop_76 : decode cX0_wearTop 76 = .ok (.isub, 1) := by decide +kernel
theorem dX0_wearTop_77 : decode cX0_wearTop 77 = .ok (.iastore, 1) := by decide +kernel
theorem dX0_wearTop_78 : decode cX0_wearTop 78 = .ok (.return_, 1) := by decide +kernel
theorem dX0_counts_0 : decode cX0_counts 0 = .ok (.iconst 0, 1) := by decide +kernel
theorem dX0_counts_1 : decode cX0_counts 1 = .ok (.istore_n 3, 1) := by decide +kernel
theorem dX0_counts_2 : decode cX0_counts 2 = .ok (.iconst 0, 1) := by decide +kernel
theorem dX0_counts_3 : decode cX0_counts 3 = .ok (.istore 4, 2) := by decide +kernel
theorem dX0_counts_5 : decode cX0_counts 5 = .ok (.iload 4, 2) := by decide +kernel
theorem dX0_counts_7 : decode cX0_counts 7 = .ok (.iload_n 2, 1) := by decide +kernel
theorem dX0_counts_8 : decode cX0_counts 8 = .ok (.if_icmp .gt 24, 3) := by decide +kernel
theorem dX0_counts_11 : decode cX0_counts 11 = .ok (.iload 4, 2) := by decide +kernel
theorem dX0_counts_13 : decode cX0_counts 13 = .ok (.iconst 3, 1) := by decide +kernel
theorem dX0_counts_14 : decode cX0_counts 14 = .ok (.if_icmp .ge 18, 3) := by decide +kernel
theorem dX0_counts_17 : decode cX0_counts 17 = .ok (.aload_n 0, 1) := by decide +kernel
theorem dX0_counts_18 : decode cX0_counts 18 = .ok (.iload_n 3, 1) := by decide +kernel
theorem dX0_counts_19 : decode cX0_counts 19 = .ok (.iload_n 1, 1) := by decide +kernel
theorem dX0_counts_20 : decode cX0_counts 20 = .ok (.iload 4, 2) := by decide +kernel
theorem dX0_counts_22 : decode cX0_counts 22 = .ok (.invokevirtual 68, 3) := by decide +kernel
theorem dX0_counts_25 : decode cX0_counts 25 = .ok (.istore_n 3, 1) := by decide +kernel
theorem dX0_counts_26 : decode cX0_counts 26 = .ok (.iinc 4 1, 3) := by decide +kernel
theorem dX0_counts_29 : decode cX0_counts 29 = .ok (.goto (-24), 3) := by decide +kernel
theorem dX0_counts_32 : decode cX0_counts 32 = .ok (.iload_n 3, 1) := by decide +kernel
theorem dX0_counts_33 : decode cX0_counts 33 = .ok (.ireturn, 1) := by decide +kernel
theorem dX0_countsOver_0 : decode cX0_countsOver 0 = .ok (.aload_n 0, 1) := by decide +kernel
theorem dX0_countsOver_1 : decode cX0_countsOver 1 = .ok (.iload_n 2, 1) := by decide +kernel
theorem dX0_countsOver_2 : decode cX0_countsOver 2 = .ok (.iload_n 3, 1) := by decide +kernel
theorem dX0_countsOver_3 : decode cX0_countsOver 3 = .ok (.iconst 2, 1) := by decide +kernel
theorem dX0_countsOver_4 : decode cX0_countsOver 4 = .ok (.invokevirtual 31, 3) := by decide +kernel
theorem dX0_countsOver_7 : decode cX0_countsOver 7 = .ok (.istore 4, 2) := by decide +kernel
theorem dX0_countsOver_9 : decode cX0_countsOver 9 = .ok (.aload_n 0, 1) := by decide +kernel
theorem dX0_countsOver_10 : decode cX0_countsOver 10 = .ok (.iload_n 2, 1) := by decide +kernel
theorem dX0_countsOver_11 : decode cX0_countsOver 11 = .ok (.iload_n 3, 1) := by decide +kernel
theorem dX0_countsOver_12 : decode cX0_countsOver 12 = .ok (.iconst 0, 1) := by decide +kernel
theorem dX0_countsOver_13 : decode cX0_countsOver 13 = .ok (.invokevirtual 31, 3) := by decide +kernel
theorem dX0_countsOver_16 : decode cX0_countsOver 16 = .ok (.tableswitch 87 1 5 #[36, 41, 46, 41, 80], 36) := by decide +kernel
theorem dX0_countsOver_52 : decode cX0_countsOver 52 = .ok (.iconst 2, 1) := by decide +kernel
theorem dX0_countsOver_53 : decode cX0_countsOver 53 = .ok (.iload 4, 2) := by decide +kernel
theorem dX0_countsOver_55 : decode cX0_countsOver 55 = .ok (.imul, 1) := by decide +kernel
theorem dX0_countsOver_56 : decode cX0_countsOver 56 = .ok (.ireturn, 1) := by decide +kernel
theorem dX0_countsOver_57 : decode cX0_countsOver 57 = .ok (.iload 4, 2) := by decide +kernel
theorem dX0_countsOver_59 : decode cX0_countsOver 59 = .ok (.iconst 2, 1) := by decide +kernel
theorem dX0_countsOver_60 : decode cX0_countsOver 60 = .ok (.idiv, 1) := by decide +kernel
theorem dX0_countsOver_61 : decode cX0_countsOver 61 = .ok (.ireturn, 1) := by decide +kernel
theorem dX0_countsOver_62 : decode cX0_countsOver 62 = .ok (.aload_n 0, 1) := by decide +kernel
theorem dX0_countsOver_63 : decode cX0_countsOver 63 = .ok (.getfield 15, 3) := by decide +kernel
theorem dX0_countsOver_66 : decode cX0_countsOver 66 = .ok (.bipush 117, 2) := by decide +kernel
theorem dX0_countsOver_68 : decode cX0_countsOver 68 = .ok (.iaload, 1) := by decide +kernel
theorem dX0_countsOver_69 : decode cX0_countsOver 69 = .ok (.aload_n 0, 1) := by decide +kernel
theorem dX0_countsOver_70 : decode cX0_countsOver 70 = .ok (.iload_n 2, 1) := by decide +kernel
theorem dX0_countsOver_71 : decode cX0_countsOver 71 = .ok (.iload_n 3, 1) := by decide +kernel
theorem dX0_countsOver_72 : decode cX0_countsOver 72 = .ok (.iconst 3, 1) := by decide +kernel
theorem dX0_countsOver_73 : decode cX0_countsOver 73 = .ok (.invokevirtual 31, 3) := by decide +kernel
theorem dX0_countsOver_76 : decode cX0_countsOver 76 = .ok (.isub, 1) := by decide +kernel
theorem dX0_countsOver_77 : decode cX0_countsOver 77 = .ok (.bipush 10, 2) := by decide +kernel
theorem dX0_countsOver_79 : decode cX0_countsOver 79 = .ok (.if_icmp .lt 12, 3) := by decide +kernel
theorem dX0_countsOver_82 : decode cX0_countsOver 82 = .ok (.iconst 2, 1) := by decide +kernel
theorem dX0_countsOver_83 : decode cX0_countsOver 83 = .ok (.iload 4, 2) := by decide +kernel
theorem dX0_countsOver_85 : decode cX0_countsOver 85 = .ok (.imul, 1) := by decide +kernel
theorem dX0_countsOver_86 : decode cX0_countsOver 86 = .ok (.iconst 3, 1) := by decide +kernel
theorem dX0_countsOver_87 : decode cX0_countsOver 87 = .ok (.iadd, 1) := by decide +kernel
theorem dX0_countsOver_88 : decode cX0_countsOver 88 = .ok (.goto 7, 3) := by decide +kernel
theorem dX0_countsOver_91 : decode cX0_countsOver 91 = .ok (.iconst 2, 1) := by decide +kernel
theorem dX0_countsOver_92 : decode cX0_countsOver 92 = .ok (.iload 4, 2) := by decide +kernel
theorem dX0_countsOver_94 : decode cX0_countsOver 94 = .ok (.imul, 1) := by decide +kernel
theorem dX0_countsOver_95 : decode cX0_countsOver 95 = .ok (.ireturn, 1) := by decide +kernel
theorem dX0_countsOver_96 : decode cX0_countsOver 96 = .ok (.iload 4, 2) := by decide +kernel
theorem dX0_countsOver_98 : decode cX0_countsOver 98 = .ok (.iload_n 1, 1) := by decide +kernel
theorem dX0_countsOver_99 : decode cX0_countsOver 99 = .ok (.iconst 2, 1) := by decide +kernel
theorem dX0_countsOver_100 : decode cX0_countsOver 100 = .ok (.idiv, 1) := by decide +kernel
theorem dX0_countsOver_101 : decode cX0_countsOver 101 = .ok (.iadd, 1) := by decide +kernel
theorem dX0_countsOver_102 : decode cX0_countsOver 102 = .ok (.ireturn, 1) := by decide +kernel
theorem dX0_countsOver_103 : decode cX0_countsOver 103 = .ok (.iload 4, 2) := by decide +kernel
theorem dX0_countsOver_105 : decode cX0_countsOver 105 = .ok (.ireturn, 1) := by decide +kernel
theorem dX0_weigh_0 : decode cX0_weigh 0 = .ok (.iconst 0, 1) := by decide +kernel
theorem dX0_weigh_1 : decode cX0_weigh 1 = .ok (.istore_n 2, 1) := by decide +kernel
theorem dX0_weigh_2 : decode cX0_weigh 2 = .ok (.iload_n 2, 1) := by decide +kernel
theorem dX0_weigh_3 : decode cX0_weigh 3 = .ok (.iconst 3, 1) := by decide +kernel
theorem dX0_weigh_4 : decode cX0_weigh 4 = .ok (.if_icmp .ge 16, 3) := by decide +kernel
theorem dX0_weigh_7 : decode cX0_weigh 7 = .ok (.aload_n 0, 1) := by decide +kernel
theorem dX0_weigh_8 : decode cX0_weigh 8 = .ok (.getfield 18, 3) := by decide +kernel
theorem dX0_weigh_11 : decode cX0_weigh 11 = .ok (.iload_n 2, 1) := by decide +kernel
theorem dX0_weigh_12 : decode cX0_weigh 12 = .ok (.iconst 0, 1) := by decide +kernel
theorem dX0_weigh_13 : decode cX0_weigh 13 = .ok (.iastore, 1) := by decide +kernel
theorem dX0_weigh_14 : decode cX0_weigh 14 = .ok (.iinc 2 1, 3) := by decide +kernel
theorem dX0_weigh_17 : decode cX0_weigh 17 = .ok (.goto (-15), 3) := by decide +kernel
theorem dX0_weigh_20 : decode cX0_weigh 20 = .ok (.iload_n 1, 1) := by decide +kernel
theorem dX0_weigh_21 : decode cX0_weigh 21 = .ok (.tableswitch 88 0 2 #[27, 34, 61], 27) := by decide +kernel
theorem dX0_weigh_48 : decode cX0_weigh 48 = .ok (.aload_n 0, 1) := by decide +kernel
theorem dX0_weigh_49 : decode cX0_weigh 49 = .ok (.invokevirtual 71, 3) := by decide +kernel
theorem dX0_weigh_52 : decode cX0_weigh 52 = .ok (.goto 61, 3) := by decide +kernel
theorem dX0_weigh_55 : decode cX0_weigh 55 = .ok (.iconst 0, 1) := by decide +kernel
theorem dX0_weigh_56 : decode cX0_weigh 56 = .ok (.istore_n 2, 1) := by decide +kernel
theorem dX0_weigh_57 : decode cX0_weigh 57 = .ok (.iload_n 2, 1) := by decide +kernel
theorem dX0_weigh_58 : decode cX0_weigh 58 = .ok (.bipush 9, 2) := by decide +kernel
theorem dX0_weigh_60 : decode cX0_weigh 60 = .ok (.if_icmp .ge 19, 3) := by decide +kernel
theorem dX0_weigh_63 : decode cX0_weigh 63 = .ok (.aload_n 0, 1) := by decide +kernel
theorem dX0_weigh_64 : decode cX0_weigh 64 = .ok (.aload_n 0, 1) := by decide +kernel
theorem dX0_weigh_65 : decode cX0_weigh 65 = .ok (.iload_n 2, 1) := by decide +kernel
theorem dX0_weigh_66 : decode cX0_weigh 66 = .ok (.invokevirtual 74, 3) := by decide +kernel
theorem dX0_weigh_69 : decode cX0_weigh 69 = .ok (.iconst 1, 1) := by decide +kernel
theorem dX0_weigh_70 : decode cX0_weigh 70 = .ok (.invokevirtual 77, 3) := by decide +kernel
theorem dX0_weigh_73 : decode cX0_weigh 73 = .ok (.iinc 2 1, 3) := by decide +kernel
theorem dX0_weigh_76 : decode cX0_weigh 76 = .ok (.goto (-19), 3) := by decide +kernel
theorem dX0_weigh_79 : decode cX0_weigh 79 = .ok (.goto 34, 3) := by decide +kernel
theorem dX0_weigh_82 : decode cX0_weigh 82 = .ok (.iconst 0, 1) := by decide +kernel
theorem dX0_weigh_83 : decode cX0_weigh 83 = .ok (.istore_n 2, 1) := by decide +kernel
theorem dX0_weigh_84 : decode cX0_weigh 84 = .ok (.iload_n 2, 1) := by decide +kernel
theorem dX0_weigh_85 : decode cX0_weigh 85 = .ok (.bipush 8, 2) := by decide +kernel
theorem dX0_weigh_87 : decode cX0_weigh 87 = .ok (.if_icmp .ge 19, 3) := by decide +kernel
theorem dX0_weigh_90 : decode cX0_weigh 90 = .ok (.aload_n 0, 1) := by decide +kernel
theorem dX0_weigh_91 : decode cX0_weigh 91 = .ok (.aload_n 0, 1) := by decide +kernel
theorem dX0_weigh_92 : decode cX0_weigh 92 = .ok (.iload_n 2, 1) := by decide +kernel
theorem dX0_weigh_93 : decode cX0_weigh 93 = .ok (.invokevirtual 81, 3) := by decide +kernel
theorem dX0_weigh_96 : decode cX0_weigh 96 = .ok (.iconst 1, 1) := by decide +kernel
theorem dX0_weigh_97 : decode cX0_weigh 97 = .ok (.invokevirtual 77, 3) := by decide +kernel
theorem dX0_weigh_100 : decode cX0_weigh 100 = .ok (.iinc 2 1, 3) := by decide +kernel
theorem dX0_weigh_103 : decode cX0_weigh 103 = .ok (.goto (-19), 3) := by decide +kernel
theorem dX0_weigh_106 : decode cX0_weigh 106 = .ok (.goto 7, 3) := by decide +kernel
theorem dX0_weigh_109 : decode cX0_weigh 109 = .ok (.aload_n 0, 1) := by decide +kernel
theorem dX0_weigh_110 : decode cX0_weigh 110 = .ok (.invokevirtual 84, 3) := by decide +kernel
theorem dX0_weigh_113 : decode cX0_weigh 113 = .ok (.return_, 1) := by decide +kernel
theorem dX0_addClaim_0 : decode cX0_addClaim 0 = .ok (.iload_n 1, 1) := by decide +kernel
theorem dX0_addClaim_1 : decode cX0_addClaim 1 = .ok (.ifCond .lt 18, 3) := by decide +kernel
theorem dX0_addClaim_4 : decode cX0_addClaim 4 = .ok (.iload_n 1, 1) := by decide +kernel
theorem dX0_addClaim_5 : decode cX0_addClaim 5 = .ok (.iconst 3, 1) := by decide +kernel
theorem dX0_addClaim_6 : decode cX0_addClaim 6 = .ok (.if_icmp .ge 13, 3) := by decide +kernel
theorem dX0_addClaim_9 : decode cX0_addClaim 9 = .ok (.aload_n 0, 1) := by decide +kernel
theorem dX0_addClaim_10 : decode cX0_addClaim 10 = .ok (.getfield 18, 3) := by decide +kernel
theorem dX0_addClaim_13 : decode cX0_addClaim 13 = .ok (.iload_n 1, 1) := by decide +kernel
theorem dX0_addClaim_14 : decode cX0_addClaim 14 = .ok (.dup2, 1) := by decide +kernel
theorem dX0_addClaim_15 : decode cX0_addClaim 15 = .ok (.iaload, 1) := by decide +kernel
theorem dX0_addClaim_16 : decode cX0_addClaim 16 = .ok (.iload_n 2, 1) := by decide +kernel
theorem dX0_addClaim_17 : decode cX0_addClaim 17 = .ok (.iadd, 1) := by decide +kernel
theorem dX0_addClaim_18 : decode cX0_addClaim 18 = .ok (.iastore, 1) := by decide +kernel
theorem dX0_addClaim_19 : decode cX0_addClaim 19 = .ok (.return_, 1) := by decide +kernel
theorem dX0_weighThread_0 : decode cX0_weighThread 0 = .ok (.iconst 0, 1) := by decide +kernel
theorem dX0_weighThread_1 : decode cX0_weighThread 1 = .ok (.istore_n 1, 1) := by decide +kernel
theorem dX0_weighThread_2 : decode cX0_weighThread 2 = .ok (.iload_n 1, 1) := by decide +kernel
theorem dX0_weighThread_3 : decode cX0_weighThread 3 = .ok (.bipush 9, 2) := by decide +kernel
theorem dX0_weighThread_5 : decode cX0_weighThread 5 = .ok (.if_icmp .ge 48, 3) := by decide +kernel
theorem dX0_weighThread_8 : decode cX0_weighThread 8 = .ok (.iconst 0, 1) := by decide +kernel
theorem dX0_weighThread_9 : decode cX0_weighThread 9 = .ok (.istore_n 2, 1) := by decide +kernel
theorem dX0_weighThread_10 : decode cX0_weighThread 10 = .ok (.iconst 0, 1) := by decide +kernel
theorem dX0_weighThread_11 : decode cX0_weighThread 11 = .ok (.istore_n 3, 1) := by decide +kernel
theorem dX0_weighThread_12 : decode cX0_weighThread 12 = .ok (.iload_n 3, 1) := by decide +kernel
theorem dX0_weighThread_13 : decode cX0_weighThread 13 = .ok (.aload_n 0, 1) := by decide +kernel
theorem dX0_weighThread_14 : decode cX0_weighThread 14 = .ok (.iload_n 1, 1) := by decide +kernel
theorem dX0_weighThread_15 : decode cX0_weighThread 15 = .ok (.invokevirtual 35, 3) := by decide +kernel
theorem dX0_weighThread_18 : decode cX0_weighThread 18 = .ok (.if_icmp .ge 29, 3) := by decide +kernel
theorem dX0_weighThread_21 : decode cX0_weighThread 21 = .ok (.aload_n 0, 1) := by decide +kernel
theorem dX0_weighThread_22 : decode cX0_weighThread 22 = .ok (.iload_n 2, 1) := by decide +kernel
theorem dX0_weighThread_23 : decode cX0_weighThread 23 = .ok (.iload_n 1, 1) := by decide +kernel
theorem dX0_weighThread_24 : decode cX0_weighThread 24 = .ok (.iload_n 3, 1) := by decide +kernel
theorem dX0_weighThread_25 : decode cX0_weighThread 25 = .ok (.invokevirtual 68, 3) := by decide +kernel
theorem dX0_weighThread_28 : decode cX0_weighThread 28 = .ok (.istore_n 2, 1) := by decide +kernel
theorem dX0_weighThread_29 : decode cX0_weighThread 29 = .ok (.aload_n 0, 1) := by decide +kernel
theorem dX0_weighThread_30 : decode cX0_weighThread 30 = .ok (.aload_n 0, 1) := by decide +kernel
theorem dX0_weighThread_31 : decode cX0_weighThread 31 = .ok (.iload_n 1, 1) := by decide +kernel
theorem dX0_weighThread_32 : decode cX0_weighThread 32 = .ok (.iload_n 3, 1) := by decide +kernel
theorem dX0_weighThread_33 : decode cX0_weighThread 33 = .ok (.iconst 1, 1) := by decide +kernel
theorem dX0_weighThread_34 : decode cX0_weighThread 34 = .ok (.invokevirtual 31, 3) := by decide +kernel
theorem dX0_weighThread_37 : decode cX0_weighThread 37 = .ok (.iload_n 2, 1) := by decide +kernel
theorem dX0_weighThread_38 : decode cX0_weighThread 38 = .ok (.invokevirtual 77, 3) := by decide +kernel
theorem dX0_weighThread_41 : decode cX0_weighThread 41 = .ok (.iinc 3 1, 3) := by decide +kernel
theorem dX0_weighThread_44 : decode cX0_weighThread 44 = .ok (.goto (-32), 3) := by decide +kernel
theorem dX0_weighThread_47 : decode cX0_weighThread 47 = .ok (.iinc 1 1, 3) := by decide +kernel
theorem dX0_weighThread_50 : decode cX0_weighThread 50 = .ok (.goto (-48), 3) := by decide +kernel
theorem dX0_weighThread_53 : decode cX0_weighThread 53 = .ok (.return_, 1) := by decide +kernel
theorem dX0_weighAges_0 : decode cX0_weighAges 0 = .ok (.iconst 0, 1) := by decide +kernel
theorem dX0_weighAges_1 : decode cX0_weighAges 1 = .ok (.istore_n 1, 1) := by decide +kernel
theorem dX0_weighAges_2 : decode cX0_weighAges 2 = .ok (.iload_n 1, 1) := by decide +kernel
theorem dX0_weighAges_3 : decode cX0_weighAges 3 = .ok (.bipush 9, 2) := by decide +kernel
theorem dX0_weighAges_5 : decode cX0_weighAges 5 = .ok (.if_icmp .ge 78, 3) := by decide +kernel
theorem dX0_weighAges_8 : decode cX0_weighAges 8 = .ok (.iconst 0, 1) := by decide +kernel
theorem dX0_weighAges_9 : decode cX0_weighAges 9 = .ok (.istore_n 2, 1) := by decide +kernel
theorem dX0_weighAges_10 : decode cX0_weighAges 10 = .ok (.iload_n 2, 1) := by decide +kernel
theorem dX0_weighAges_11 : decode cX0_weighAges 11 = .ok (.aload_n 0, 1) := by decide +kernel
theorem dX0_weighAges_12 : decode cX0_weighAges 12 = .ok (.iload_n 1, 1) := by decide +kernel
theorem dX0_weighAges_13 : decode cX0_weighAges 13 = .ok (.invokevirtual 35, 3) := by decide +kernel
theorem dX0_weighAges_16 : decode cX0_weighAges 16 = .ok (.if_icmp .ge 61, 3) := by decide +kernel
theorem dX0_weighAges_19 : decode cX0_weighAges 19 = .ok (.aload_n 0, 1) := by decide +kernel
theorem dX0_weighAges_20 : decode cX0_weighAges 20 = .ok (.iload_n 1, 1) := by decide +kernel
theorem dX0_weighAges_21 : decode cX0_weighAges 21 = .ok (.iload_n 2, 1) := by decide +kernel
theorem dX0_weighAges_22 : decode cX0_weighAges 22 = .ok (.iconst 1, 1) := by decide +kernel
theorem dX0_weighAges_23 : decode cX0_weighAges 23 = .ok (.invokevirtual 31, 3) := by decide +kernel
theorem dX0_weighAges_26 : decode cX0_weighAges 26 = .ok (.istore_n 3, 1) := by decide +kernel
theorem dX0_weighAges_27 : decode cX0_weighAges 27 = .ok (.aload_n 0, 1) := by decide +kernel
theorem dX0_weighAges_28 : decode cX0_weighAges 28 = .ok (.getfield 15, 3) := by decide +kernel
theorem dX0_weighAges_31 : decode cX0_weighAges 31 = .ok (.bipush 117, 2) := by decide +kernel
theorem dX0_weighAges_33 : decode cX0_weighAges 33 = .ok (.iaload, 1) := by decide +kernel
theorem dX0_weighAges_34 : decode cX0_weighAges 34 = .ok (.aload_n 0, 1) := by decide +kernel
theorem dX0_weighAges_35 : decode cX0_weighAges 35 = .ok (.iload_n 1, 1) := by decide +kernel
theorem dX0_weighAges_36 : decode cX0_weighAges 36 = .ok (.iload_n 2, 1) := by decide +kernel
theorem dX0_weighAges_37 : decode cX0_weighAges 37 = .ok (.iconst 3, 1) := by decide +kernel
theorem dX0_weighAges_38 : decode cX0_weighAges 38 = .ok (.invokevirtual 31, 3) := by decide +kernel
theorem dX0_weighAges_41 : decode cX0_weighAges 41 = .ok (.isub, 1) := by decide +kernel
theorem dX0_weighAges_42 : decode cX0_weighAges 42 = .ok (.iconst 1, 1) := by decide +kernel
theorem dX0_weighAges_43 : decode cX0_weighAges 43 = .ok (.iadd, 1) := by decide +kernel
theorem dX0_weighAges_44 : decode cX0_weighAges 44 = .ok (.istore 4, 2) := by decide +kernel
theorem dX0_weighAges_46 : decode cX0_weighAges 46 = .ok (.iload_n 3, 1) := by decide +kernel
theorem dX0_weighAges_47 : decode cX0_weighAges 47 = .ok (.iconst 3, 1) := by decide +kernel
theorem dX0_weighAges_48 : decode cX0_weighAges 48 = .ok (.invokestatic 27, 3) := by decide +kernel
theorem dX0_weighAges_51 : decode cX0_weighAges 51 = .ok (.ifCond .eq 20, 3) := by decide +kernel
theorem dX0_weighAges_54 : decode cX0_weighAges 54 = .ok (.aload_n 0, 1) := by decide +kernel
theorem dX0_weighAges_55 : decode cX0_weighAges 55 = .ok (.getfield 18, 3) := by decide +kernel
theorem dX0_weighAges_58 : decode cX0_weighAges 58 = .ok (.iload_n 3, 1) := by decide +kernel
theorem dX0_weighAges_59 : decode cX0_weighAges 59 = .ok (.aload_n 0, 1) := by decide +kernel
theorem dX0_weighAges_60 : decode cX0_weighAges 60 = .ok (.getfield 18, 3) := by decide +kernel
theorem dX0_weighAges_63 : decode cX0_weighAges 63 = .ok (.iload_n 3, 1) := by decide +kernel
theorem dX0_weighAges_64 : decode cX0_weighAges 64 = .ok (.iaload, 1) := by decide +kernel
theorem dX0_weighAges_65 : decode cX0_weighAges 65 = .ok (.iload 4, 2) := by decide +kernel
theorem dX0_weighAges_67 : decode cX0_weighAges 67 = .ok (.invokestatic 87, 3) := by decide +kernel
theorem dX0_weighAges_70 : decode cX0_weighAges 70 = .ok (.iastore, 1) := by decide +kernel
theorem dX0_weighAges_71 : decode cX0_weighAges 71 = .ok (.iinc 2 1, 3) := by decide +kernel
theorem dX0_weighAges_74 : decode cX0_weighAges 74 = .ok (.goto (-64), 3) := by decide +kernel
theorem dX0_weighAges_77 : decode cX0_weighAges 77 = .ok (.iinc 1 1, 3) := by decide +kernel
theorem dX0_weighAges_80 : decode cX0_weighAges 80 = .ok (.goto (-78), 3) := by decide +kernel
theorem dX0_weighAges_83 : decode cX0_weighAges 83 = .ok (.return_, 1) := by decide +kernel
theorem dX0_lineFamily_0 : decode cX0_lineFamily 0 = .ok (.iload_n 1, 1) := by decide +kernel
theorem dX0_lineFamily_1 : decode cX0_lineFamily 1 = .ok (.bipush 8, 2) := by decide +kernel
theorem dX0_lineFamily_3 : decode cX0_lineFamily 3 = .ok (.invokestatic 27, 3) := by decide +kernel
theorem dX0_lineFamily_6 : decode cX0_lineFamily 6 = .ok (.ifCond .ne 5, 3) := by decide +kernel
theorem dX0_lineFamily_9 : decode cX0_lineFamily 9 = .ok (.iconst (-1), 1) := by decide +kernel
theorem dX0_lineFamily_10 : decode cX0_lineFamily 10 = .ok (.ireturn, 1) := by decide +kernel
theorem dX0_lineFamily_11 : decode cX0_lineFamily 11 = .ok (.aload_n 0, 1) := by decide +kernel
theorem dX0_lineFamily_12 : decode cX0_lineFamily 12 = .ok (.getstatic 92, 3) := by decide +kernel
theorem dX0_lineFamily_15 : decode cX0_lineFamily 15 = .ok (.iconst 3, 1) := by decide +kernel
theorem dX0_lineFamily_16 : decode cX0_lineFamily 16 = .ok (.iload_n 1, 1) := by decide +kernel
theorem dX0_lineFamily_17 : decode cX0_lineFamily 17 = .ok (.imul, 1) := by decide +kernel
theorem dX0_lineFamily_18 : decode cX0_lineFamily 18 = .ok (.iaload, 1) := by decide +kernel
theorem dX0_lineFamily_19 : decode cX0_lineFamily 19 = .ok (.invokevirtual 74, 3) := by decide +kernel
theorem dX0_lineFamily_22 : decode cX0_lineFamily 22 = .ok (.istore_n 2, 1) := by decide +kernel
theorem dX0_lineFamily_23 : decode cX0_lineFamily 23 = .ok (.aload_n 0, 1) := by decide +kernel
theorem dX0_lineFamily_24 : decode cX0_lineFamily 24 = .ok (.getstatic 92, 3) := by decide +kernel
theorem dX0_lineFamily_27 : decode cX0_lineFamily 27 = .ok (.iconst 3, 1) := by decide +kernel
theorem dX0_lineFamily_28 : decode cX0_lineFamily 28 = .ok (.iload_n 1, 1) := by decide +kernel
theorem dX0_lineFamily_29 : decode cX0_lineFamily 29 = .ok (.imul, 1) := by decide +kernel
theorem dX0_lineFamily_30 : decode cX0_lineFamily 30 = .ok (.iconst 1, 1) := by decide +kernel
theorem dX0_lineFamily_31 : decode cX0_lineFamily 31 = .ok (.iadd, 1) := by decide +kernel
theorem dX0_lineFamily_32 : decode cX0_lineFamily 32 = .ok (.iaload, 1) := by decide +kernel
theorem dX0_lineFamily_33 : decode cX0_lineFamily 33 = .ok (.invokevirtual 74, 3) := by decide +kernel
theorem dX0_lineFamily_36 : decode cX0_lineFamily 36 = .ok (.istore_n 3, 1) := by decide +kernel
theorem dX0_lineFamily_37 : decode cX0_lineFamily 37 = .ok (.aload_n 0, 1) := by decide +kernel
theorem dX0_lineFamily_38 : decode cX0_lineFamily 38 = .ok (.getstatic 92, 3) := by decide +kernel
theorem dX0_lineFamily_41 : decode cX0_lineFamily 41 = .ok (.iconst 3, 1) := by decide +kernel
theorem dX0_lineFamily_42 : decode cX0_lineFamily 42 = .ok (.iload_n 1, 1) := by decide +kernel
theorem dX0_lineFamily_43 : decode cX0_lineFamily 43 = .ok (.imul, 1) := by decide +kernel
theorem dX0_lineFamily_44 : decode cX0_lineFamily 44 = .ok (.iconst 2, 1) := by decide +kernel
theorem dX0_lineFamily_45 : decode cX0_lineFamily 45 = .ok (.iadd, 1) := by decide +kernel
theorem dX0_lineFamily_46 : decode cX0_lineFamily 46 = .ok (.iaload, 1) := by decide +kernel
theorem dX0_lineFamily_47 : decode cX0_lineFamily 47 = .ok (.invokevirtual 74, 3) := by decide +kernel
theorem dX0_lineFamily_50 : decode cX0_lineFamily 50 = .ok (.istore 4, 2) := by decide +kernel
theorem dX0_lineFamily_52 : decode cX0_lineFamily 52 = .ok (.iload_n 2, 1) := by decide +kernel
theorem dX0_lineFamily_53 : decode cX0_lineFamily 53 = .ok (.iload_n 3, 1) := by decide +kernel
theorem dX0_lineFamily_54 : decode cX0_lineFamily 54 = .ok (.if_icmp .ne 13, 3) := by decide +kernel
theorem dX0_lineFamily_57 : decode cX0_lineFamily 57 = .ok (.iload_n 2, 1) := by decide +kernel
theorem dX0_lineFamily_58 : decode cX0_lineFamily 58 = .ok (.iload 4, 2) := by decide +kernel
theorem dX0_lineFamily_60 : decode cX0_lineFamily 60 = .ok (.if_icmp .ne 7, 3) := by decide +kernel
theorem dX0_lineFamily_63 : decode cX0_lineFamily 63 = .ok (.iload_n 2, 1) := by decide +kernel
theorem dX0_lineFamily_64 : decode cX0_lineFamily 64 = .ok (.goto 4, 3) := by decide +kernel
theorem dX0_lineFamily_67 : decode cX0_lineFamily 67 = .ok (.iconst (-1), 1) := by decide +kernel
theorem dX0_lineFamily_68 : decode cX0_lineFamily 68 = .ok (.ireturn, 1) := by decide +kernel
theorem dX0_topFamily_0 : decode cX0_topFamily 0 = .ok (.aload_n 0, 1) := by decide +kernel
theorem dX0_topFamily_1 : decode cX0_topFamily 1 = .ok (.iload_n 1, 1) := by decide +kernel
theorem dX0_topFamily_2 : decode cX0_topFamily 2 = .ok (.invokevirtual 35, 3) := by decide +kernel
theorem dX0_topFamily_5 : decode cX0_topFamily 5 = .ok (.istore_n 2, 1) := by decide +kernel
theorem dX0_topFamily_6 : decode cX0_topFamily 6 = .ok (.iload_n 2, 1) := by decide +kernel
theorem dX0_topFamily_7 : decode cX0_topFamily 7 = .ok (.ifCond .gt 7, 3) := by decide +kernel
theorem dX0_topFamily_10 : decode cX0_topFamily 10 = .ok (.iconst (-1), 1) := by decide +kernel
theorem dX0_topFamily_11 : decode cX0_topFamily 11 = .ok (.goto 12, 3) := by decide +kernel
theorem dX0_topFamily_14 : decode cX0_topFamily 14 = .ok (.aload_n 0, 1) := by decide +kernel
theorem dX0_topFamily_15 : decode cX0_topFamily 15 = .ok (.iload_n 1, 1) := by decide +kernel
theorem dX0_topFamily_16 : decode cX0_topFamily 16 = .ok (.iload_n 2, 1) := by decide +kernel
theorem dX0_topFamily_17 : decode cX0_topFamily 17 = .ok (.iconst 1, 1) := by decide +kernel
theorem dX0_topFamily_18 : decode cX0_topFamily 18 = .ok (.isub, 1) := by decide +kernel
theorem dX0_topFamily_19 : decode cX0_topFamily 19 = .ok (.iconst 1, 1) := by decide +kernel
theorem dX0_topFamily_20 : decode cX0_topFamily 20 = .ok (.invokevirtual 31, 3) := by decide +kernel
theorem dX0_topFamily_23 : decode cX0_topFamily 23 = .ok (.ireturn, 1) := by decide +kernel
theorem dX0_claimOf_0 : decode cX0_claimOf 0 = .ok (.aload_n 0, 1) := by decide +kernel
theorem dX0_claimOf_1 : decode cX0_claimOf 1 = .ok (.iload_n 2, 1) := by decide +kernel
theorem dX0_claimOf_2 : decode cX0_claimOf 2 = .ok (.invokevirtual 95, 3) := by decide +kernel
theorem dX0_claimOf_5 : decode cX0_claimOf 5 = .ok (.iload_n 1, 1) := by decide +kernel
theorem dX0_claimOf_6 : decode cX0_claimOf 6 = .ok (.iconst 3, 1) := by decide +kernel
theorem dX0_claimOf_7 : decode cX0_claimOf 7 = .ok (.invokestatic 27, 3) := by decide +kernel
theorem dX0_claimOf_10 : decode cX0_claimOf 10 = .ok (.ifCond .eq 12, 3) := by decide +kernel
theorem dX0_claimOf_13 : decode cX0_claimOf 13 = .ok (.aload_n 0, 1) := by decide +kernel
theorem dX0_claimOf_14 : decode cX0_claimOf 14 = .ok (.getfield 18, 3) := by decide +kernel
theorem dX0_claimOf_17 : decode cX0_claimOf 17 = .ok (.iload_n 1, 1) := by decide +kernel
theorem dX0_claimOf_18 : decode cX0_claimOf 18 = .ok (.iaload, 1) := by decide +kernel
theorem dX0_claimOf_19 : decode cX0_claimOf 19 = .ok (.goto 4, 3) := by decide +kernel
theorem dX0_claimOf_22 : decode cX0_claimOf 22 = .ok (.iconst 0, 1) := by decide +kernel
theorem dX0_claimOf_23 : decode cX0_claimOf 23 = .ok (.ireturn, 1) := by decide +kernel
theorem dX0_allClaims_0 : decode cX0_allClaims 0 = .ok (.aload_n 0, 1) := by decide +kernel
theorem dX0_allClaims_1 : decode cX0_allClaims 1 = .ok (.iload_n 1, 1) := by decide +kernel
theorem dX0_allClaims_2 : decode cX0_allClaims 2 = .ok (.invokevirtual 95, 3) := by decide +kernel
theorem dX0_allClaims_5 : decode cX0_allClaims 5 = .ok (.iconst 0, 1) := by decide +kernel
theorem dX0_allClaims_6 : decode cX0_allClaims 6 = .ok (.istore_n 2, 1) := by decide +kernel
theorem dX0_allClaims_7 : decode cX0_allClaims 7 = .ok (.iconst 0, 1) := by decide +kernel
theorem dX0_allClaims_8 : decode cX0_allClaims 8 = .ok (.istore_n 3, 1) := by decide +kernel
theorem dX0_allClaims_9 : decode cX0_allClaims 9 = .ok (.iload_n 3, 1) := by decide +kernel
theorem dX0_allClaims_10 : decode cX0_allClaims 10 = .ok (.iconst 3, 1) := by decide +kernel
theorem dX0_allClaims_11 : decode cX0_allClaims 11 = .ok (.if_icmp .ge 18, 3) := by decide +kernel
theorem dX0_allClaims_14 : decode cX0_allClaims 14 = .ok (.iload_n 2, 1) := by decide +kernel
theorem dX0_allClaims_15 : decode cX0_allClaims 15 = .ok (.aload_n 0, 1) := by decide +kernel
theorem dX0_allClaims_16 : decode cX0_allClaims 16 = .ok (.getfield 18, 3) := by decide +kernel
theorem dX0_allClaims_19 : decode cX0_allClaims 19 = .ok (.iload_n 3, 1) := by decide +kernel
theorem dX0_allClaims_20 : decode cX0_allClaims 20 = .ok (.iaload, 1) := by decide +kernel
theorem dX0_allClaims_21 : decode cX0_allClaims 21 = .ok (.iadd, 1) := by decide +kernel
theorem dX0_allClaims_22 : decode cX0_allClaims 22 = .ok (.istore_n 2, 1) := by decide +kernel
theorem dX0_allClaims_23 : decode cX0_allClaims 23 = .ok (.iinc 3 1, 3) := by decide +kernel
theorem dX0_allClaims_26 : decode cX0_allClaims 26 = .ok (.goto (-17), 3) := by decide +kernel
theorem dX0_allClaims_29 : decode cX0_allClaims 29 = .ok (.iload_n 2, 1) := by decide +kernel
theorem dX0_allClaims_30 : decode cX0_allClaims 30 = .ok (.ireturn, 1) := by decide +kernel
theorem dX0_ownerBy_0 : decode cX0_ownerBy 0 = .ok (.aload_n 0, 1) := by decide +kernel
theorem dX0_ownerBy_1 : decode cX0_ownerBy 1 = .ok (.iload_n 1, 1) := by decide +kernel
theorem dX0_ownerBy_2 : decode cX0_ownerBy 2 = .ok (.invokevirtual 95, 3) := by decide +kernel
theorem dX0_ownerBy_5 : decode cX0_ownerBy 5 = .ok (.iconst (-1), 1) := by decide +kernel
theorem dX0_ownerBy_6 : decode cX0_ownerBy 6 = .ok (.istore_n 2, 1) := by decide +kernel
theorem dX0_ownerBy_7 : decode cX0_ownerBy 7 = .ok (.iconst 0, 1) := by decide +kernel
theorem dX0_ownerBy_8 : decode cX0_ownerBy 8 = .ok (.istore_n 3, 1) := by decide +kernel
theorem dX0_ownerBy_9 : decode cX0_ownerBy 9 = .ok (.iconst 0, 1) := by decide +kernel
theorem dX0_ownerBy_10 : decode cX0_ownerBy 10 = .ok (.istore 4, 2) := by decide +kernel
theorem dX0_ownerBy_12 : decode cX0_ownerBy 12 = .ok (.iload 4, 2) := by decide +kernel
theorem dX0_ownerBy_14 : decode cX0_ownerBy 14 = .ok (.iconst 3, 1) := by decide +kernel
theorem dX0_ownerBy_15 : decode cX0_ownerBy 15 = .ok (.if_icmp .ge 44, 3) := by decide +kernel
theorem dX0_ownerBy_18 : decode cX0_ownerBy 18 = .ok (.aload_n 0, 1) := by decide +kernel
theorem dX0_ownerBy_19 : decode cX0_ownerBy 19 = .ok (.getfield 18, 3) := by decide +kernel
theorem dX0_ownerBy_22 : decode cX0_ownerBy 22 = .ok (.iload 4, 2) := by decide +kernel
theorem dX0_ownerBy_24 : decode cX0_ownerBy 24 = .ok (.iaload, 1) := by decide +kernel
theorem dX0_ownerBy_25 : decode cX0_ownerBy 25 = .ok (.iload_n 3, 1) := by decide +kernel
theorem dX0_ownerBy_26 : decode cX0_ownerBy 26 = .ok (.if_icmp .ne 5, 3) := by decide +kernel
theorem dX0_ownerBy_29 : decode cX0_ownerBy 29 = .ok (.iconst (-1), 1) := by decide +kernel
theorem dX0_ownerBy_30 : decode cX0_ownerBy 30 = .ok (.istore_n 2, 1) := by decide +kernel
theorem dX0_ownerBy_31 : decode cX0_ownerBy 31 = .ok (.aload_n 0, 1) := by decide +kernel
theorem dX0_ownerBy_32 : decode cX0_ownerBy 32 = .ok (.getfield 18, 3) := by decide +kernel
theorem dX0_ownerBy_35 : decode cX0_ownerBy 35 = .ok (.iload 4, 2) := by decide +kernel
theorem dX0_ownerBy_37 : decode cX0_ownerBy 37 = .ok (.iaload, 1) := by decide +kernel
theorem dX0_ownerBy_38 : decode cX0_ownerBy 38 = .ok (.iload_n 3, 1) := by decide +kernel
theorem dX0_ownerBy_39 : decode cX0_ownerBy 39 = .ok (.if_icmp .le 14, 3) := by decide +kernel
theorem dX0_ownerBy_42 : decode cX0_ownerBy 42 = .ok (.iload 4, 2) := by decide +kernel
theorem dX0_ownerBy_44 : decode cX0_ownerBy 44 = .ok (.istore_n 2, 1) := by decide +kernel
theorem dX0_ownerBy_45 : decode cX0_ownerBy 45 = .ok (.aload_n 0, 1) := by decide +kernel
theorem dX0_ownerBy_46 : decode cX0_ownerBy 46 = .ok (.getfield 18, 3) := by decide +kernel
theorem dX0_ownerBy_49 : decode cX0_ownerBy 49 = .ok (.iload 4, 2) := by decide +kernel
theorem dX0_ownerBy_51 : decode cX0_ownerBy 51 = .ok (.iaload, 1) := by decide +kernel
theorem dX0_ownerBy_52 : decode cX0_ownerBy 52 = .ok (.istore_n 3, 1) := by decide +kernel
theorem dX0_ownerBy_53 : decode cX0_ownerBy 53 = .ok (.iinc 4 1, 3) := by decide +kernel
theorem dX0_ownerBy_56 : decode cX0_ownerBy 56 = .ok (.goto (-44), 3) := by decide +kernel
theorem dX0_ownerBy_59 : decode cX0_ownerBy 59 = .ok (.iload_n 2, 1) := by decide +kernel
theorem dX0_ownerBy_60 : decode cX0_ownerBy 60 = .ok (.ireturn, 1) := by decide +kernel
theorem dX0_isTwos_0 : decode cX0_isTwos 0 = .ok (.aload_n 0, 1) := by decide +kernel
theorem dX0_isTwos_1 : decode cX0_isTwos 1 = .ok (.iload_n 1, 1) := by decide +kernel
theorem dX0_isTwos_2 : decode cX0_isTwos 2 = .ok (.invokevirtual 98, 3) := by decide +kernel
theorem dX0_isTwos_5 : decode cX0_isTwos 5 = .ok (.iconst (-1), 1) := by decide +kernel
theorem dX0_isTwos_6 : decode cX0_isTwos 6 = .ok (.if_icmp .ne 15, 3) := by decide +kernel
theorem dX0_isTwos_9 : decode cX0_isTwos 9 = .ok (.aload_n 0, 1) := by decide +kernel
theorem dX0_isTwos_10 : decode cX0_isTwos 10 = .ok (.iload_n 1, 1) := by decide +kernel
theorem dX0_isTwos_11 : decode cX0_isTwos 11 = .ok (.invokevirtual 101, 3) := by decide +kernel
theorem dX0_isTwos_14 : decode cX0_isTwos 14 = .ok (.ifCond .le 7, 3) := by decide +kernel
theorem dX0_isTwos_17 : decode cX0_isTwos 17 = .ok (.iconst 1, 1) := by decide +kernel
theorem dX0_isTwos_18 : decode cX0_isTwos 18 = .ok (.goto 4, 3) := by decide +kernel
theorem dX0_isTwos_21 : decode cX0_isTwos 21 = .ok (.iconst 0, 1) := by decide +kernel
theorem dX0_isTwos_22 : decode cX0_isTwos 22 = .ok (.ireturn, 1) := by decide +kernel
theorem dX0_span_0 : decode cX0_span 0 = .ok (.iload_n 1, 1) := by decide +kernel
theorem dX0_span_1 : decode cX0_span 1 = .ok (.bipush 9, 2) := by decide +kernel
theorem dX0_span_3 : decode cX0_span 3 = .ok (.invokestatic 27, 3) := by decide +kernel
theorem dX0_span_6 : decode cX0_span 6 = .ok (.ifCond .ne 5, 3) := by decide +kernel
theorem dX0_span_9 : decode cX0_span 9 = .ok (.iconst 0, 1) := by decide +kernel
theorem dX0_span_10 : decode cX0_span 10 = .ok (.ireturn, 1) := by decide +kernel
theorem dX0_span_11 : decode cX0_span 11 = .ok (.aload_n 0, 1) := by decide +kernel
theorem dX0_span_12 : decode cX0_span 12 = .ok (.iload_n 1, 1) := by decide +kernel
theorem dX0_span_13 : decode cX0_span 13 = .ok (.invokevirtual 35, 3) := by decide +kernel
theorem dX0_span_16 : decode cX0_span 16 = .ok (.iconst 1, 1) := by decide +kernel
theorem dX0_span_17 : decode cX0_span 17 = .ok (.isub, 1) := by decide +kernel
theorem dX0_span_18 : decode cX0_span 18 = .ok (.istore 4, 2) := by decide +kernel
theorem dX0_span_20 : decode cX0_span 20 = .ok (.iload_n 2, 1) := by decide +kernel
theorem dX0_span_21 : decode cX0_span 21 = .ok (.istore 5, 2) := by decide +kernel
theorem dX0_span_23 : decode cX0_span 23 = .ok (.iload_n 3, 1) := by decide +kernel
theorem dX0_span_24 : decode cX0_span 24 = .ok (.istore 6, 2) := by decide +kernel
theorem dX0_span_26 : decode cX0_span 26 = .ok (.iconst 0, 1) := by decide +kernel
theorem dX0_span_27 : decode cX0_span 27 = .ok (.istore 7, 2) := by decide +kernel
theorem dX0_span_29 : decode cX0_span 29 = .ok (.iload 7, 2) := by decide +kernel
theorem dX0_span_31 : decode cX0_span 31 = .ok (.bipush 41, 2) := by decide +kernel
theorem dX0_span_33 : decode cX0_span 33 = .ok (.if_icmp .ge 70, 3) := by decide +kernel
theorem dX0_span_36 : decode cX0_span 36 = .ok (.iload 6, 2) := by decide +kernel
theorem dX0_span_38 : decode cX0_span 38 = .ok (.ifCond .gt 33, 3) := by decide +kernel
theorem dX0_span_41 : decode cX0_span 41 = .ok (.iload 4, 2) := by decide +kernel
theorem dX0_span_43 : decode cX0_span 43 = .ok (.ifCond .ge 6, 3) := by decide +kernel
theorem dX0_span_46 : decode cX0_span 46 = .ok (.iload 7, 2) := by decide +kernel
theorem dX0_span_48 : decode cX0_span 48 = .ok (.ireturn, 1) := by decide +kernel
theorem dX0_span_49 : decode cX0_span 49 = .ok (.aload_n 0, 1) := by decide +kernel
theorem dX0_span_50 : decode cX0_span 50 = .ok (.iload_n 1, 1) := by decide +kernel
theorem dX0_span_51 : decode cX0_span 51 = .ok (.iload 4, 2) := by decide +kernel
theorem dX0_span_53 : decode cX0_span 53 = .ok (.iconst 0, 1) := by decide +kernel
theorem dX0_span_54 : decode cX0_span 54 = .ok (.invokevirtual 31, 3) := by decide +kernel
theorem dX0_span_57 : decode cX0_span 57 = .ok (.istore 5, 2) := by decide +kernel
theorem dX0_span_59 : decode cX0_span 59 = .ok (.aload_n 0, 1) := by decide +kernel
theorem dX0_span_60 : decode cX0_span 60 = .ok (.iload_n 1, 1) := by decide +kernel
theorem dX0_span_61 : decode cX0_span 61 = .ok (.iload 4, 2) := by decide +kernel
theorem dX0_span_63 : decode cX0_span 63 = .ok (.invokevirtual 61, 3) := by decide +kernel
theorem dX0_span_66 : decode cX0_span 66 = .ok (.istore 6, 2) := by decide +kernel
theorem dX0_span_68 : decode cX0_span 68 = .ok (.iinc 4 (-1), 3) := by decide +kernel
theorem dX0_span_71 : decode cX0_span 71 = .ok (.iload 6, 2) := by decide +kernel
theorem dX0_span_73 : decode cX0_span 73 = .ok (.iload 5, 2) := by decide +kernel
theorem dX0_span_75 : decode cX0_span 75 = .ok (.aload_n 0, 1) := by decide +kernel
theorem dX0_span_76 : decode cX0_span 76 = .ok (.getfield 9, 3) := by decide +kernel
theorem dX0_span_79 : decode cX0_span 79 = .ok (.iload_n 1, 1) := by decide +kernel
theorem dX0_span_80 : decode cX0_span 80 = .ok (.iaload, 1) := by decide +kernel
theorem dX0_span_81 : decode cX0_span 81 = .ok (.aload_n 0, 1) := by decide +kernel
theorem dX0_span_82 : decode cX0_span 82 = .ok (.getfield 15, 3) := by decide +kernel
theorem dX0_span_85 : decode cX0_span 85 = .ok (.bipush 117, 2) := by decide +kernel
theorem dX0_span_87 : decode cX0_span 87 = .ok (.iaload, 1) := by decide +kernel
theorem dX0_span_88 : decode cX0_span 88 = .ok (.iload 7, 2) := by decide +kernel
theorem dX0_span_90 : decode cX0_span 90 = .ok (.iadd, 1) := by decide +kernel
theorem dX0_span_91 : decode cX0_span 91 = .ok (.invokestatic 65, 3) := by decide +kernel
theorem dX0_span_94 : decode cX0_span 94 = .ok (.isub, 1) := by decide +kernel
theorem dX0_span_95 : decode cX0_span 95 = .ok (.istore 6, 2) := by decide +kernel
theorem dX0_span_97 : decode cX0_span 97 = .ok (.iinc 7 1, 3) := by decide +kernel
theorem dX0_span_100 : decode cX0_span 100 = .ok (.goto (-71), 3) := by decide +kernel
theorem dX0_span_103 : decode cX0_span 103 = .ok (.bipush 41, 2) := by decide +kernel
theorem dX0_span_105 : decode cX0_span 105 = .ok (.ireturn, 1) := by decide +kernel
theorem dX0_leftOf_0 : decode cX0_leftOf 0 = .ok (.aload_n 0, 1) := by decide +kernel
theorem dX0_leftOf_1 : decode cX0_leftOf 1 = .ok (.iload_n 1, 1) := by decide +kernel
theorem dX0_leftOf_2 : decode cX0_leftOf 2 = .ok (.invokevirtual 42, 3) := by decide +kernel
theorem dX0_leftOf_5 : decode cX0_leftOf 5 = .ok (.ifCond .eq 5, 3) := by decide +kernel
theorem dX0_leftOf_8 : decode cX0_leftOf 8 = .ok (.iconst 0, 1) := by decide +kernel
theorem dX0_leftOf_9 : decode cX0_leftOf 9 = .ok (.ireturn, 1) := by decide +kernel
theorem dX0_leftOf_10 : decode cX0_leftOf 10 = .ok (.aload_n 0, 1) := by decide +kernel
theorem dX0_leftOf_11 : decode cX0_leftOf 11 = .ok (.iload_n 1, 1) := by decide +kernel
theorem dX0_leftOf_12 : decode cX0_leftOf 12 = .ok (.aload_n 0, 1) := by decide +kernel
theorem dX0_leftOf_13 : decode cX0_leftOf 13 = .ok (.iload_n 1, 1) := by decide +kernel
theorem dX0_leftOf_14 : decode cX0_leftOf 14 = .ok (.invokevirtual 35, 3) := by decide +kernel
theorem dX0_leftOf_17 : decode cX0_leftOf 17 = .ok (.iconst 1, 1) := by decide +kernel
theorem dX0_leftOf_18 : decode cX0_leftOf 18 = .ok (.isub, 1) := by decide +kernel
theorem dX0_leftOf_19 : decode cX0_leftOf 19 = .ok (.invokevirtual 61, 3) := by decide +kernel
theorem dX0_leftOf_22 : decode cX0_leftOf 22 = .ok (.istore 4, 2) := by decide +kernel
theorem dX0_leftOf_24 : decode cX0_leftOf 24 = .ok (.iconst 0, 1) := by decide +kernel
theorem dX0_leftOf_25 : decode cX0_leftOf 25 = .ok (.istore 5, 2) := by decide +kernel
theorem dX0_leftOf_27 : decode cX0_leftOf 27 = .ok (.iload 5, 2) := by decide +kernel
theorem dX0_leftOf_29 : decode cX0_leftOf 29 = .ok (.iload_n 3, 1) := by decide +kernel
theorem dX0_leftOf_30 : decode cX0_leftOf 30 = .ok (.if_icmp .ge 39, 3) := by decide +kernel
theorem dX0_leftOf_33 : decode cX0_leftOf 33 = .ok (.iload 4, 2) := by decide +kernel
theorem dX0_leftOf_35 : decode cX0_leftOf 35 = .ok (.ifCond .le 34, 3) := by decide +kernel
theorem dX0_leftOf_38 : decode cX0_leftOf 38 = .ok (.iload 4, 2) := by decide +kernel
theorem dX0_leftOf_40 : decode cX0_leftOf 40 = .ok (.iload_n 2, 1) := by decide +kernel
theorem dX0_leftOf_41 : decode cX0_leftOf 41 = .ok (.aload_n 0, 1) := by decide +kernel
theorem dX0_leftOf_42 : decode cX0_leftOf 42 = .ok (.getfield 9, 3) := by decide +kernel
theorem dX0_leftOf_45 : decode cX0_leftOf 45 = .ok (.iload_n 1, 1) := by decide +kernel
theorem dX0_leftOf_46 : decode cX0_leftOf 46 = .ok (.iaload, 1) := by decide +kernel
theorem dX0_leftOf_47 : decode cX0_leftOf 47 = .ok (.aload_n 0, 1) := by decide +kernel
theorem dX0_leftOf_48 : decode cX0_leftOf 48 = .ok (.getfield 15, 3) := by decide +kernel
theorem dX0_leftOf_51 : decode cX0_leftOf 51 = .ok (.bipush 117, 2) := by decide +kernel
theorem dX0_leftOf_53 : decode cX0_leftOf 53 = .ok (.iaload, 1) := by decide +kernel
theorem dX0_leftOf_54 : decode cX0_leftOf 54 = .ok (.iload 5, 2) := by decide +kernel
theorem dX0_leftOf_56 : decode cX0_leftOf 56 = .ok (.iadd, 1) := by decide +kernel
theorem dX0_leftOf_57 : decode cX0_leftOf 57 = .ok (.invokestatic 65, 3) := by decide +kernel
theorem dX0_leftOf_60 : decode cX0_leftOf 60 = .ok (.isub, 1) := by decide +kernel
theorem dX0_leftOf_61 : decode cX0_leftOf 61 = .ok (.istore 4, 2) := by decide +kernel
theorem dX0_leftOf_63 : decode cX0_leftOf 63 = .ok (.iinc 5 1, 3) := by decide +kernel
theorem dX0_leftOf_66 : decode cX0_leftOf 66 = .ok (.goto (-39), 3) := by decide +kernel
theorem dX0_leftOf_69 : decode cX0_leftOf 69 = .ok (.iload 4, 2) := by decide +kernel
theorem dX0_leftOf_71 : decode cX0_leftOf 71 = .ok (.iconst 0, 1) := by decide +kernel
theorem dX0_leftOf_72 : decode cX0_leftOf 72 = .ok (.invokestatic 87, 3) := by decide +kernel
theorem dX0_leftOf_75 : decode cX0_leftOf 75 = .ok (.ireturn, 1) := by decide +kernel
theorem dX0_holeWays_0 : decode cX0_holeWays 0 = .ok (.aload_n 0, 1) := by decide +kernel
theorem dX0_holeWays_1 : decode cX0_holeWays 1 = .ok (.iload_n 1, 1) := by decide +kernel
theorem dX0_holeWays_2 : decode cX0_holeWays 2 = .ok (.invokevirtual 35, 3) := by decide +kernel
theorem dX0_holeWays_5 : decode cX0_holeWays 5 = .ok (.iconst 1, 1) := by decide +kernel
theorem dX0_holeWays_6 : decode cX0_holeWays 6 = .ok (.isub, 1) := by decide +kernel
theorem dX0_holeWays_7 : decode cX0_holeWays 7 = .ok (.istore 4, 2) := by decide +kernel
theorem dX0_holeWays_9 : decode cX0_holeWays 9 = .ok (.aload_n 0, 1) := by decide +kernel
theorem dX0_holeWays_10 : decode cX0_holeWays 10 = .ok (.iload_n 1, 1) := by decide +kernel
theorem dX0_holeWays_11 : decode cX0_holeWays 11 = .ok (.iload 4, 2) := by decide +kernel
theorem dX0_holeWays_13 : decode cX0_holeWays 13 = .ok (.aload_n 0, 1) := by decide +kernel
theorem dX0_holeWays_14 : decode cX0_holeWays 14 = .ok (.iload_n 1, 1) := by decide +kernel
theorem dX0_holeWays_15 : decode cX0_holeWays 15 = .ok (.iload 4, 2) := by decide +kernel
theorem dX0_holeWays_17 : decode cX0_holeWays 17 = .ok (.invokevirtual 61, 3) := by decide +kernel
theorem dX0_holeWays_20 : decode cX0_holeWays 20 = .ok (.iload_n 2, 1) := by decide +kernel
theorem dX0_holeWays_21 : decode cX0_holeWays 21 = .ok (.aload_n 0, 1) := by decide +kernel
theorem dX0_holeWays_22 : decode cX0_holeWays 22 = .ok (.getfield 15, 3) := by decide +kernel
theorem dX0_holeWays_25 : decode cX0_holeWays 25 = .ok (.bipush 117, 2) := by decide +kernel
theorem dX0_holeWays_27 : decode cX0_holeWays 27 = .ok (.iaload, 1) := by decide +kernel
theorem dX0_holeWays_28 : decode cX0_holeWays 28 = .ok (.iload_n 3, 1) := by decide +kernel
theorem dX0_holeWays_29 : decode cX0_holeWays 29 = .ok (.invokevirtual 104, 3) := by decide +kernel
theorem dX0_holeWays_32 : decode cX0_holeWays 32 = .ok (.lreturn, 1) := by decide +kernel
theorem dX0_waysFrom_0 : decode cX0_waysFrom 0 = .ok (.iload_n 2, 1) := by decide +kernel
theorem dX0_waysFrom_1 : decode cX0_waysFrom 1 = .ok (.ifCond .ge 9, 3) := by decide +kernel
theorem dX0_waysFrom_4 : decode cX0_waysFrom 4 = .ok (.iload 4, 2) := by decide +kernel
theorem dX0_waysFrom_6 : decode cX0_waysFrom 6 = .ok (.invokestatic 108, 3) := by decide +kernel
theorem dX0_waysFrom_9 : decode cX0_waysFrom 9 = .ok (.lreturn, 1) := by decide +kernel
theorem dX0_waysFrom_10 : decode cX0_waysFrom 10 = .ok (.iload 4, 2) := by decide +kernel
theorem dX0_waysFrom_12 : decode cX0_waysFrom 12 = .ok (.iconst 1, 1) := by decide +kernel
theorem dX0_waysFrom_13 : decode cX0_waysFrom 13 = .ok (.bipush 8, 2) := by decide +kernel
theorem dX0_waysFrom_15 : decode cX0_waysFrom 15 = .ok (.invokestatic 46, 3) := by decide +kernel
theorem dX0_waysFrom_18 : decode cX0_waysFrom 18 = .ok (.ifCond .eq 12, 3) := by decide +kernel
theorem dX0_waysFrom_21 : decode cX0_waysFrom 21 = .ok (.iload_n 1, 1) := by decide +kernel
theorem dX0_waysFrom_22 : decode cX0_waysFrom 22 = .ok (.bipush 9, 2) := by decide +kernel
theorem dX0_waysFrom_24 : decode cX0_waysFrom 24 = .ok (.invokestatic 27, 3) := by decide +kernel
theorem dX0_waysFrom_27 : decode cX0_waysFrom 27 = .ok (.ifCond .ne 5, 3) := by decide +kernel
theorem dX0_waysFrom_30 : decode cX0_waysFrom 30 = .ok (.lconst 0, 1) := by decide +kernel
theorem dX0_waysFrom_31 : decode cX0_waysFrom 31 = .ok (.lreturn, 1) := by decide +kernel
theorem dX0_waysFrom_32 : decode cX0_waysFrom 32 = .ok (.iload_n 3, 1) := by decide +kernel
theorem dX0_waysFrom_33 : decode cX0_waysFrom 33 = .ok (.aload_n 0, 1) := by decide +kernel
theorem dX0_waysFrom_34 : decode cX0_waysFrom 34 = .ok (.iload_n 1, 1) := by decide +kernel
theorem dX0_waysFrom_35 : decode cX0_waysFrom 35 = .ok (.iload_n 2, 1) := by decide +kernel
theorem dX0_waysFrom_36 : decode cX0_waysFrom 36 = .ok (.iconst 0, 1) := by decide +kernel
theorem dX0_waysFrom_37 : decode cX0_waysFrom 37 = .ok (.invokevirtual 31, 3) := by decide +kernel
theorem dX0_waysFrom_40 : decode cX0_waysFrom 40 = .ok (.aload_n 0, 1) := by decide +kernel
theorem dX0_waysFrom_41 : decode cX0_waysFrom 41 = .ok (.getfield 9, 3) := by decide +kernel
theorem dX0_waysFrom_44 : decode cX0_waysFrom 44 = .ok (.iload_n 1, 1) := by decide +kernel
theorem dX0_waysFrom_45 : decode cX0_waysFrom 45 = .ok (.iaload, 1) := by decide +kernel
theorem dX0_waysFrom_46 : decode cX0_waysFrom 46 = .ok (.iload 5, 2) := by decide +kernel
theorem dX0_waysFrom_48 : decode cX0_waysFrom 48 = .ok (.invokestatic 65, 3) := by decide +kernel
theorem dX0_waysFrom_51 : decode cX0_waysFrom 51 = .ok (.isub, 1) := by decide +kernel
theorem dX0_waysFrom_52 : decode cX0_waysFrom 52 = .ok (.istore 7, 2) := by decide +kernel
theorem dX0_waysFrom_54 : decode cX0_waysFrom 54 = .ok (.iload 7, 2) := by decide +kernel
theorem dX0_waysFrom_56 : decode cX0_waysFrom 56 = .ok (.ifCond .le 24, 3) := by decide +kernel
theorem dX0_waysFrom_59 : decode cX0_waysFrom 59 = .ok (.aload_n 0, 1) := by decide +kernel
theorem dX0_waysFrom_60 : decode cX0_waysFrom 60 = .ok (.iload_n 1, 1) := by decide +kernel
theorem dX0_waysFrom_61 : decode cX0_waysFrom 61 = .ok (.iload_n 2, 1) := by decide +kernel
theorem dX0_waysFrom_62 : decode cX0_waysFrom 62 = .ok (.iload 7, 2) := by decide +kernel
theorem dX0_waysFrom_64 : decode cX0_waysFrom 64 = .ok (.iload 4, 2) := by decide +kernel
theorem dX0_waysFrom_66 : decode cX0_waysFrom 66 = .ok (.iconst 1, 1) := by decide +kernel
theorem dX0_waysFrom_67 : decode cX0_waysFrom 67 = .ok (.isub, 1) := by decide +kernel
theorem dX0_waysFrom_68 : decode cX0_waysFrom 68 = .ok (.iload 5, 2) := by decide +kernel
theorem dX0_waysFrom_70 : decode cX0_waysFrom 70 = .ok (.iconst 1, 1) := by decide +kernel
theorem dX0_waysFrom_71 : decode cX0_waysFrom 71 = .ok (.iadd, 1) := by decide +kernel
theorem dX0_waysFrom_72 : decode cX0_waysFrom 72 = .ok (.iload 6, 2) := by decide +kernel
theorem dX0_waysFrom_74 : decode cX0_waysFrom 74 = .ok (.invokevirtual 104, 3) := by decide +kernel
theorem dX0_waysFrom_77 : decode cX0_waysFrom 77 = .ok (.goto 29, 3) := by decide +kernel
theorem dX0_waysFrom_80 : decode cX0_waysFrom 80 = .ok (.aload_n 0, 1) := by decide +kernel
theorem dX0_waysFrom_81 : decode cX0_waysFrom 81 = .ok (.iload_n 1, 1) := by decide +kernel
theorem dX0_waysFrom_82 : decode cX0_waysFrom 82 = .ok (.iload_n 2, 1) := by decide +kernel
theorem dX0_waysFrom_83 : decode cX0_waysFrom 83 = .ok (.iconst 1, 1) := by decide +kernel
theorem dX0_waysFrom_84 : decode cX0_waysFrom 84 = .ok (.isub, 1) := by decide +kernel
theorem dX0_waysFrom_85 : decode cX0_waysFrom 85 = .ok (.aload_n 0, 1) := by decide +kernel
theorem dX0_waysFrom_86 : decode cX0_waysFrom 86 = .ok (.iload_n 1, 1) := by decide +kernel
theorem dX0_waysFrom_87 : decode cX0_waysFrom 87 = .ok (.iload_n 2, 1) := by decide +kernel
theorem dX0_waysFrom_88 : decode cX0_waysFrom 88 = .ok (.iconst 1, 1) := by decide +kernel
theorem dX0_waysFrom_89 : decode cX0_waysFrom 89 = .ok (.isub, 1) := by decide +kernel
theorem dX0_waysFrom_90 : decode cX0_waysFrom 90 = .ok (.invokevirtual 61, 3) := by decide +kernel
theorem dX0_waysFrom_93 : decode cX0_waysFrom 93 = .ok (.iload 4, 2) := by decide +kernel
theorem dX0_waysFrom_95 : decode cX0_waysFrom 95 = .ok (.iconst 1, 1) := by decide +kernel
theorem dX0_waysFrom_96 : decode cX0_waysFrom 96 = .ok (.isub, 1) := by decide +kernel
theorem dX0_waysFrom_97 : decode cX0_waysFrom 97 = .ok (.iload 5, 2) := by decide +kernel
theorem dX0_waysFrom_99 : decode cX0_waysFrom 99 = .ok (.iconst 1, 1) := by decide +kernel
theorem dX0_waysFrom_100 : decode cX0_waysFrom 100 = .ok (.iadd, 1) := by decide +kernel
theorem dX0_waysFrom_101 : decode cX0_waysFrom 101 = .ok (.iload 6, 2) := by decide +kernel
theorem dX0_waysFrom_103 : decode cX0_waysFrom 103 = .ok (.invokevirtual 104, 3) := by decide +kernel
theorem dX0_waysFrom_106 : decode cX0_waysFrom 106 = .ok (.lstore 8, 2) := by decide +kernel
theorem dX0_waysFrom_108 : decode cX0_waysFrom 108 = .ok (.aload_n 0, 1) := by decide +kernel
theorem dX0_waysFrom_109 : decode cX0_waysFrom 109 = .ok (.iload_n 1, 1) := by decide +kernel
theorem dX0_waysFrom_110 : decode cX0_waysFrom 110 = .ok (.iload_n 2, 1) := by decide +kernel
theorem dX0_waysFrom_111 : decode cX0_waysFrom 111 = .ok (.iload_n 3, 1) := by decide +kernel
theorem dX0_waysFrom_112 : decode cX0_waysFrom 112 = .ok (.iload 4, 2) := by decide +kernel
theorem dX0_waysFrom_114 : decode cX0_waysFrom 114 = .ok (.iconst 1, 1) := by decide +kernel
theorem dX0_waysFrom_115 : decode cX0_waysFrom 115 = .ok (.isub, 1) := by decide +kernel
theorem dX0_waysFrom_116 : decode cX0_waysFrom 116 = .ok (.iload 5, 2) := by decide +kernel
theorem dX0_waysFrom_118 : decode cX0_waysFrom 118 = .ok (.iconst 1, 1) := by decide +kernel
theorem dX0_waysFrom_119 : decode cX0_waysFrom 119 = .ok (.iadd, 1) := by decide +kernel
theorem dX0_waysFrom_120 : decode cX0_waysFrom 120 = .ok (.iload 6, 2) := by decide +kernel
theorem dX0_waysFrom_122 : decode cX0_waysFrom 122 = .ok (.invokevirtual 104, 3) := by decide +kernel
theorem dX0_waysFrom_125 : decode cX0_waysFrom 125 = .ok (.lstore 10, 2) := by decide +kernel
theorem dX0_waysFrom_127 : decode cX0_waysFrom 127 = .ok (.iload 6, 2) := by decide +kernel
theorem dX0_waysFrom_129 : decode cX0_waysFrom 129 = .ok (.i2l, 1) := by decide +kernel
theorem dX0_waysFrom_130 : decode cX0_waysFrom 130 = .ok (.lload 8, 2) := by decide +kernel
theorem dX0_waysFrom_132 : decode cX0_waysFrom 132 = .ok (.lmul, 1) := by decide +kernel
theorem dX0_waysFrom_133 : decode cX0_waysFrom 133 = .ok (.bipush 10, 2) := by decide +kernel
theorem dX0_waysFrom_135 : decode cX0_waysFrom 135 = .ok (.iload 6, 2) := by decide +kernel
theorem dX0_waysFrom_137 : decode cX0_waysFrom 137 = .ok (.isub, 1) := by decide +kernel
theorem dX0_waysFrom_138 : decode cX0_waysFrom 138 = .ok (.i2l, 1) := by decide +kernel
theorem dX0_waysFrom_139 : decode cX0_waysFrom 139 = .ok (.lload 10, 2) := by decide +kernel
theorem dX0_waysFrom_141 : decode cX0_waysFrom 141 = .ok (.lmul, 1) := by decide +kernel
theorem dX0_waysFrom_142 : decode cX0_waysFrom 142 = .ok (.ladd, 1) := by decide +kernel
theorem dX0_waysFrom_143 : decode cX0_waysFrom 143 = .ok (.lreturn, 1) := by decide +kernel
theorem dX0_nextYear_0 : decode cX0_nextYear 0 = .ok (.iload_n 2, 1) := by decide +kernel
theorem dX0_nextYear_1 : decode cX0_nextYear 1 = .ok (.istore_n 3, 1) := by decide +kernel
theorem dX0_nextYear_2 : decode cX0_nextYear 2 = .ok (.iconst 0, 1) := by decide +kernel
theorem dX0_nextYear_3 : decode cX0_nextYear 3 = .ok (.istore 4, 2) := by decide +kernel
theorem dX0_nextYear_5 : decode cX0_nextYear 5 = .ok (.iload 4, 2) := by decide +kernel
theorem dX0_nextYear_7 : decode cX0_nextYear 7 = .ok (.bipush 9, 2) := by decide +kernel
theorem dX0_nextYear_9 : decode cX0_nextYear 9 = .ok (.if_icmp .ge 72, 3) := by decide +kernel
theorem dX0_nextYear_12 : decode cX0_nextYear 12 = .ok (.iload_n 1, 1) := by decide +kernel
theorem dX0_nextYear_13 : decode cX0_nextYear 13 = .ok (.iload 4, 2) := by decide +kernel
theorem dX0_nextYear_15 : decode cX0_nextYear 15 = .ok (.ishr, 1) := by decide +kernel
theorem dX0_nextYear_16 : decode cX0_nextYear 16 = .ok (.iconst 1, 1) := by decide +kernel
theorem dX0_nextYear_17 : decode cX0_nextYear 17 = .ok (.iand, 1) := by decide +kernel
theorem dX0_nextYear_18 : decode cX0_nextYear 18 = .ok (.ifCond .ne 6, 3) := by decide +kernel
theorem dX0_nextYear_21 : decode cX0_nextYear 21 = .ok (.goto 54, 3) := by decide +kernel
theorem dX0_nextYear_24 : decode cX0_nextYear 24 = .ok (.iconst 0, 1) := by decide +kernel
theorem dX0_nextYear_25 : decode cX0_nextYear 25 = .ok (.istore 5, 2) := by decide +kernel
theorem dX0_nextYear_27 : decode cX0_nextYear 27 = .ok (.iload 5, 2) := by decide +kernel
theorem dX0_nextYear_29 : decode cX0_nextYear 29 = .ok (.aload_n 0, 1) := by decide +kernel
theorem dX0_nextYear_30 : decode cX0_nextYear 30 = .ok (.iload 4, 2) := by decide +kernel
theorem dX0_nextYear_32 : decode cX0_nextYear 32 = .ok (.invokevirtual 35, 3) := by decide +kernel
theorem dX0_nextYear_35 : decode cX0_nextYear 35 = .ok (.if_icmp .ge 40, 3) := by decide +kernel
theorem dX0_nextYear_38 : decode cX0_nextYear 38 = .ok (.aload_n 0, 1) := by decide +kernel
theorem dX0_nextYear_39 : decode cX0_nextYear 39 = .ok (.iload 4, 2) := by decide +kernel
theorem dX0_nextYear_41 : decode cX0_nextYear 41 = .ok (.iload 5, 2) := by decide +kernel
theorem dX0_nextYear_43 : decode cX0_nextYear 43 = .ok (.iconst 3, 1) := by decide +kernel
theorem dX0_nextYear_44 : decode cX0_nextYear 44 = .ok (.invokevirtual 31, 3) := by decide +kernel
theorem dX0_nextYear_47 : decode cX0_nextYear 47 = .ok (.istore 6, 2) := by decide +kernel
theorem dX0_nextYear_49 : decode cX0_nextYear 49 = .ok (.iload 6, 2) := by decide +kernel
theorem dX0_nextYear_51 : decode cX0_nextYear 51 = .ok (.iload_n 2, 1) := by decide +kernel
theorem dX0_nextYear_52 : decode cX0_nextYear 52 = .ok (.if_icmp .le 17, 3) := by decide +kernel
theorem dX0_nextYear_55 : decode cX0_nextYear 55 = .ok (.iload_n 3, 1) := by decide +kernel
theorem dX0_nextYear_56 : decode cX0_nextYear 56 = .ok (.iload_n 2, 1) := by decide +kernel
theorem dX0_nextYear_57 : decode cX0_nextYear 57 = .ok (.if_icmp .eq 9, 3) := by decide +kernel
theorem dX0_nextYear_60 : decode cX0_nextYear 60 = .ok (.iload 6, 2) := by decide +kernel
theorem dX0_nextYear_62 : decode cX0_nextYear 62 = .ok (.iload_n 3, 1) := by decide +kernel
theorem dX0_nextYear_63 : decode cX0_nextYear 63 = .ok (.if_icmp .ge 6, 3) := by decide +kernel
theorem dX0_nextYear_66 : decode cX0_nextYear 66 = .ok (.iload 6, 2) := by decide +kernel
theorem dX0_nextYear_68 : decode cX0_nextYear 68 = .ok (.istore_n 3, 1) := by decide +kernel
theorem dX0_nextYear_69 : decode cX0_nextYear 69 = .ok (.iinc 5 1, 3) := by decide +kernel
theorem dX0_nextYear_72 : decode cX0_nextYear 72 = .ok (.goto (-45), 3) := by decide +kernel
theorem dX0_nextYear_75 : decode cX0_nextYear 75 = .ok (.iinc 4 1, 3) := by decide +kernel
theorem dX0_nextYear_78 : decode cX0_nextYear 78 = .ok (.goto (-73), 3) := by decide +kernel
theorem dX0_nextYear_81 : decode cX0_nextYear 81 = .ok (.iload_n 3, 1) := by decide +kernel
theorem dX0_nextYear_82 : decode cX0_nextYear 82 = .ok (.ireturn, 1) := by decide +kernel
theorem dX0_digested_0 : decode cX0_digested 0 = .ok (.iconst 0, 1) := by decide +kernel
theorem dX0_digested_1 : decode cX0_digested 1 = .ok (.istore_n 3, 1) := by decide +kernel
theorem dX0_digested_2 : decode cX0_digested 2 = .ok (.iload_n 3, 1) := by decide +kernel
theorem dX0_digested_3 : decode cX0_digested 3 = .ok (.bipush 9, 2) := by decide +kernel
theorem dX0_digested_5 : decode cX0_digested 5 = .ok (.if_icmp .ge 87, 3) := by decide +kernel
theorem dX0_digested_8 : decode cX0_digested 8 = .ok (.ldc2_w 112, 3) := by decide +kernel
theorem dX0_digested_11 : decode cX0_digested 11 = .ok (.lload_n 1, 1) := by decide +kernel
theorem dX0_digested_12 : decode cX0_digested 12 = .ok (.lmul, 1) := by decide +kernel
theorem dX0_digested_13 : decode cX0_digested 13 = .ok (.aload_n 0, 1) := by decide +kernel
theorem dX0_digested_14 : decode cX0_digested 14 = .ok (.getfield 9, 3) := by decide +kernel
theorem dX0_digested_17 : decode cX0_digested 17 = .ok (.iload_n 3, 1) := by decide +kernel
theorem dX0_digested_18 : decode cX0_digested 18 = .ok (.iaload, 1) := by decide +kernel
theorem dX0_digested_19 : decode cX0_digested 19 = .ok (.i2l, 1) := by decide +kernel
theorem dX0_digested_20 : decode cX0_digested 20 = .ok (.ladd, 1) := by decide +kernel
theorem dX0_digested_21 : decode cX0_digested 21 = .ok (.lstore_n 1, 1) := by decide +kernel
theorem dX0_digested_22 : decode cX0_digested 22 = .ok (.ldc2_w 112, 3) := by decide +kernel
theorem dX0_digested_25 : decode cX0_digested 25 = .ok (.lload_n 1, 1) := by decide +kernel
theorem dX0_digested_26 : decode cX0_digested 26 = .ok (.lmul, 1) := by decide +kernel
theorem dX0_digested_27 : decode cX0_digested 27 = .ok (.aload_n 0, 1) := by decide +kernel
theorem dX0_digested_28 : decode cX0_digested 28 = .ok (.iload_n 3, 1) := by decide +kernel
theorem dX0_digested_29 : decode cX0_digested 29 = .ok (.invokevirtual 35, 3) := by decide +kernel
theorem dX0_digested_32 : decode cX0_digested 32 = .ok (.i2l, 1) := by decide +kernel
theorem dX0_digested_33 : decode cX0_digested 33 = .ok (.ladd, 1) := by decide +kernel
theorem dX0_digested_34 : decode cX0_digested 34 = .ok (.lstore_n 1, 1) := by decide +kernel
theorem dX0_digested_35 : decode cX0_digested 35 = .ok (.iconst 0, 1) := by decide +kernel
theorem dX0_digested_36 : decode cX0_digested 36 = .ok (.istore 4, 2) := by decide +kernel
theorem dX0_digested_38 : decode cX0_digested 38 = .ok (.iload 4, 2) := by decide +kernel
theorem dX0_digested_40 : decode cX0_digested 40 = .ok (.aload_n 0, 1) := by decide +kernel
theorem dX0_digested_41 : decode cX0_digested 41 = .ok (.iload_n 3, 1) := by decide +kernel
theorem dX0_digested_42 : decode cX0_digested 42 = .ok (.invokevirtual 35, 3) := by decide +kernel
theorem dX0_digested_45 : decode cX0_digested 45 = .ok (.if_icmp .ge 41, 3) := by decide +kernel
theorem dX0_digested_48 : decode cX0_digested 48 = .ok (.iconst 0, 1) := by decide +kernel
theorem dX0_digested_49 : decode cX0_digested 49 = .ok (.istore 5, 2) := by decide +kernel
theorem dX0_digested_51 : decode cX0_digested 51 = .ok (.iload 5, 2) := by decide +kernel
theorem dX0_digested_53 : decode cX0_digested 53 = .ok (.iconst 4, 1) := by decide +kernel
theorem dX0_digested_54 : decode cX0_digested 54 = .ok (.if_icmp .ge 26, 3) := by decide +kernel
theorem dX0_digested_57 : decode cX0_digested 57 = .ok (.ldc2_w 112, 3) := by decide +kernel
theorem dX0_digested_60 : decode cX0_digested 60 = .ok (.lload_n 1, 1) := by decide +kernel
theorem dX0_digested_61 : decode cX0_digested 61 = .ok (.lmul, 1) := by decide +kernel
theorem dX0_digested_62 : decode cX0_digested 62 = .ok (.aload_n 0, 1) := by decide +kernel
theorem dX0_digested_63 : decode cX0_digested 63 = .ok (.iload_n 3, 1) := by decide +kernel
theorem dX0_digested_64 : decode cX0_digested 64 = .ok (.iload 4, 2) := by decide +kernel
theorem dX0_digested_66 : decode cX0_digested 66 = .ok (.iload 5, 2) := by decide +kernel
theorem dX0_digested_68 : decode cX0_digested 68 = .ok (.invokevirtual 31, 3) := by decide +kernel
theorem dX0_digested_71 : decode cX0_digested 71 = .ok (.i2l, 1) := by decide +kernel
theorem dX0_digested_72 : decode cX0_digested 72 = .ok (.ladd, 1) := by decide +kernel
theorem dX0_digested_73 : decode cX0_digested 73 = .ok (.lstore_n 1, 1) := by decide +kernel
theorem dX0_digested_74 : decode cX0_digested 74 = .ok (.iinc 5 1, 3) := by decide +kernel
theorem dX0_digested_77 : decode cX0_digested 77 = .ok (.goto (-26), 3) := by decide +kernel
theorem dX0_digested_80 : decode cX0_digested 80 = .ok (.iinc 4 1, 3) := by decide +kernel
theorem dX0_digested_83 : decode cX0_digested 83 = .ok (.goto (-45), 3) := by decide +kernel
theorem dX0_digested_86 : decode cX0_digested 86 = .ok (.iinc 3 1, 3) := by decide +kernel
theorem dX0_digested_89 : decode cX0_digested 89 = .ok (.goto (-87), 3) := by decide +kernel
theorem dX0_digested_92 : decode cX0_digested 92 = .ok (.lload_n 1, 1) := by decide +kernel
theorem dX0_digested_93 : decode cX0_digested 93 = .ok (.lreturn, 1) := by decide +kernel
