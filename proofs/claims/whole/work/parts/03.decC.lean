theorem dX0_init_0 : decode cX0_init 0 = .ok (.aload_n 0, 1) := by decide +kernel
theorem dX0_init_1 : decode cX0_init 1 = .ok (.invokespecial 3, 3) := by decide +kernel
theorem dX0_init_4 : decode cX0_init 4 = .ok (.aload_n 0, 1) := by decide +kernel
theorem dX0_init_5 : decode cX0_init 5 = .ok (.bipush 40, 2) := by decide +kernel
theorem dX0_init_7 : decode cX0_init 7 = .ok (.anewarray 11, 3) := by decide +kernel
theorem dX0_init_10 : decode cX0_init 10 = .ok (.putfield 13, 3) := by decide +kernel
theorem dX0_init_13 : decode cX0_init 13 = .ok (.iconst 0, 1) := by decide +kernel
theorem dX0_init_14 : decode cX0_init 14 = .ok (.istore_n 1, 1) := by decide +kernel
theorem dX0_init_15 : decode cX0_init 15 = .ok (.iload_n 1, 1) := by decide +kernel
theorem dX0_init_16 : decode cX0_init 16 = .ok (.bipush 40, 2) := by decide +kernel
theorem dX0_init_18 : decode cX0_init 18 = .ok (.if_icmp .ge 22, 3) := by decide +kernel
theorem dX0_init_21 : decode cX0_init 21 = .ok (.aload_n 0, 1) := by decide +kernel
theorem dX0_init_22 : decode cX0_init 22 = .ok (.getfield 13, 3) := by decide +kernel
theorem dX0_init_25 : decode cX0_init 25 = .ok (.iload_n 1, 1) := by decide +kernel
theorem dX0_init_26 : decode cX0_init 26 = .ok (.new 11, 3) := by decide +kernel
theorem dX0_init_29 : decode cX0_init 29 = .ok (.dup, 1) := by decide +kernel
theorem dX0_init_30 : decode cX0_init 30 = .ok (.invokespecial 17, 3) := by decide +kernel
theorem dX0_init_33 : decode cX0_init 33 = .ok (.aastore, 1) := by decide +kernel
theorem dX0_init_34 : decode cX0_init 34 = .ok (.iinc 1 1, 3) := by decide +kernel
theorem dX0_init_37 : decode cX0_init 37 = .ok (.goto (-22), 3) := by decide +kernel
theorem dX0_init_40 : decode cX0_init 40 = .ok (.return_, 1) := by decide +kernel
theorem dX0_many_0 : decode cX0_many 0 = .ok (.aload_n 0, 1) := by decide +kernel
theorem dX0_many_1 : decode cX0_many 1 = .ok (.getfield 18, 3) := by decide +kernel
theorem dX0_many_4 : decode cX0_many 4 = .ok (.ireturn, 1) := by decide +kernel
theorem dX0_forget_0 : decode cX0_forget 0 = .ok (.aload_n 0, 1) := by decide +kernel
theorem dX0_forget_1 : decode cX0_forget 1 = .ok (.iconst 0, 1) := by decide +kernel
theorem dX0_forget_2 : decode cX0_forget 2 = .ok (.putfield 18, 3) := by decide +kernel
theorem dX0_forget_5 : decode cX0_forget 5 = .ok (.return_, 1) := by decide +kernel
theorem dX0_keep_0 : decode cX0_keep 0 = .ok (.aload_n 0, 1) := by decide +kernel
theorem dX0_keep_1 : decode cX0_keep 1 = .ok (.getfield 13, 3) := by decide +kernel
theorem dX0_keep_4 : decode cX0_keep 4 = .ok (.aload_n 0, 1) := by decide +kernel
theorem dX0_keep_5 : decode cX0_keep 5 = .ok (.getfield 22, 3) := by decide +kernel
theorem dX0_keep_8 : decode cX0_keep 8 = .ok (.aaload, 1) := by decide +kernel
theorem dX0_keep_9 : decode cX0_keep 9 = .ok (.aload_n 1, 1) := by decide +kernel
theorem dX0_keep_10 : decode cX0_keep 10 = .ok (.invokevirtual 25, 3) := by decide +kernel
theorem dX0_keep_13 : decode cX0_keep 13 = .ok (.aload_n 0, 1) := by decide +kernel
theorem dX0_keep_14 : decode cX0_keep 14 = .ok (.aload_n 0, 1) := by decide +kernel
theorem dX0_keep_15 : decode cX0_keep 15 = .ok (.getfield 22, 3) := by decide +kernel
theorem dX0_keep_18 : decode cX0_keep 18 = .ok (.iconst 1, 1) := by decide +kernel
theorem dX0_keep_19 : decode cX0_keep 19 = .ok (.iadd, 1) := by decide +kernel
theorem dX0_keep_20 : decode cX0_keep 20 = .ok (.bipush 40, 2) := by decide +kernel
theorem dX0_keep_22 : decode cX0_keep 22 = .ok (.irem, 1) := by decide +kernel
theorem dX0_keep_23 : decode cX0_keep 23 = .ok (.putfield 22, 3) := by decide +kernel
theorem dX0_keep_26 : decode cX0_keep 26 = .ok (.aload_n 0, 1) := by decide +kernel
theorem dX0_keep_27 : decode cX0_keep 27 = .ok (.aload_n 0, 1) := by decide +kernel
theorem dX0_keep_28 : decode cX0_keep 28 = .ok (.getfield 18, 3) := by decide +kernel
theorem dX0_keep_31 : decode cX0_keep 31 = .ok (.iconst 1, 1) := by decide +kernel
theorem dX0_keep_32 : decode cX0_keep 32 = .ok (.iadd, 1) := by decide +kernel
theorem dX0_keep_33 : decode cX0_keep 33 = .ok (.bipush 40, 2) := by decide +kernel
theorem dX0_keep_35 : decode cX0_keep 35 = .ok (.invokestatic 29, 3) := by decide +kernel
theorem dX0_keep_38 : decode cX0_keep 38 = .ok (.putfield 18, 3) := by decide +kernel
theorem dX0_keep_41 : decode cX0_keep 41 = .ok (.return_, 1) := by decide +kernel
theorem dX0_takeBack_0 : decode cX0_takeBack 0 = .ok (.aload_n 0, 1) := by decide +kernel
theorem dX0_takeBack_1 : decode cX0_takeBack 1 = .ok (.getfield 18, 3) := by decide +kernel
theorem dX0_takeBack_4 : decode cX0_takeBack 4 = .ok (.ifCond .ne 5, 3) := by decide +kernel
theorem dX0_takeBack_7 : decode cX0_takeBack 7 = .ok (.iconst (-1), 1) := by decide +kernel
theorem dX0_takeBack_8 : decode cX0_takeBack 8 = .ok (.ireturn, 1) := by decide +kernel
theorem dX0_takeBack_9 : decode cX0_takeBack 9 = .ok (.aload_n 0, 1) := by decide +kernel
theorem dX0_takeBack_10 : decode cX0_takeBack 10 = .ok (.aload_n 0, 1) := by decide +kernel
theorem dX0_takeBack_11 : decode cX0_takeBack 11 = .ok (.getfield 22, 3) := by decide +kernel
theorem dX0_takeBack_14 : decode cX0_takeBack 14 = .ok (.bipush 40, 2) := by decide +kernel
theorem dX0_takeBack_16 : decode cX0_takeBack 16 = .ok (.iadd, 1) := by decide +kernel
theorem dX0_takeBack_17 : decode cX0_takeBack 17 = .ok (.iconst 1, 1) := by decide +kernel
theorem dX0_takeBack_18 : decode cX0_takeBack 18 = .ok (.isub, 1) := by decide +kernel
theorem dX0_takeBack_19 : decode cX0_takeBack 19 = .ok (.bipush 40, 2) := by decide +kernel
theorem dX0_takeBack_21 : decode cX0_takeBack 21 = .ok (.irem, 1) := by decide +kernel
theorem dX0_takeBack_22 : decode cX0_takeBack 22 = .ok (.putfield 22, 3) := by decide +kernel
theorem dX0_takeBack_25 : decode cX0_takeBack 25 = .ok (.aload_n 1, 1) := by decide +kernel
theorem dX0_takeBack_26 : decode cX0_takeBack 26 = .ok (.aload_n 0, 1) := by decide +kernel
theorem dX0_takeBack_27 : decode cX0_takeBack 27 = .ok (.getfield 13, 3) := by decide +kernel
theorem dX0_takeBack_30 : decode cX0_takeBack 30 = .ok (.aload_n 0, 1) := by decide +kernel
theorem dX0_takeBack_31 : decode cX0_takeBack 31 = .ok (.getfield 22, 3) := by decide +kernel
theorem dX0_takeBack_34 : decode cX0_takeBack 34 = .ok (.aaload, 1) := by decide +kernel
theorem dX0_takeBack_35 : decode cX0_takeBack 35 = .ok (.invokevirtual 25, 3) := by decide +kernel
theorem dX0_takeBack_38 : decode cX0_takeBack 38 = .ok (.aload_n 0, 1) := by decide +kernel
theorem dX0_takeBack_39 : decode cX0_takeBack 39 = .ok (.dup, 1) := by decide +kernel
theorem dX0_takeBack_40 : decode cX0_takeBack 40 = .ok (.getfield 18, 3) := by decide +kernel
theorem dX0_takeBack_43 : decode cX0_takeBack 43 = .ok (.iconst 1, 1) := by decide +kernel
theorem dX0_takeBack_44 : decode cX0_takeBack 44 = .ok (.isub, 1) := by decide +kernel
theorem dX0_takeBack_45 : decode cX0_takeBack 45 = .ok (.putfield 18, 3) := by decide +kernel
theorem dX0_takeBack_48 : decode cX0_takeBack 48 = .ok (.aload_n 0, 1) := by decide +kernel
theorem dX0_takeBack_49 : decode cX0_takeBack 49 = .ok (.getfield 18, 3) := by decide +kernel
theorem dX0_takeBack_52 : decode cX0_takeBack 52 = .ok (.ireturn, 1) := by decide +kernel
theorem dX1_init_0 : decode cX1_init 0 = .ok (.aload_n 0, 1) := by decide +kernel
theorem dX1_init_1 : decode cX1_init 1 = .ok (.invokespecial 3, 3) := by decide +kernel
theorem dX1_init_4 : decode cX1_init 4 = .ok (.aload_n 0, 1) := by decide +kernel
theorem dX1_init_5 : decode cX1_init 5 = .ok (.bipush 12, 2) := by decide +kernel
theorem dX1_init_7 : decode cX1_init 7 = .ok (.newarray .int, 2) := by decide +kernel
theorem dX1_init_9 : decode cX1_init 9 = .ok (.putfield 11, 3) := by decide +kernel
theorem dX1_init_12 : decode cX1_init 12 = .ok (.aload_n 0, 1) := by decide +kernel
theorem dX1_init_13 : decode cX1_init 13 = .ok (.bipush 12, 2) := by decide +kernel
theorem dX1_init_15 : decode cX1_init 15 = .ok (.newarray .int, 2) := by decide +kernel
theorem dX1_init_17 : decode cX1_init 17 = .ok (.putfield 15, 3) := by decide +kernel
theorem dX1_init_20 : decode cX1_init 20 = .ok (.aload_n 0, 1) := by decide +kernel
theorem dX1_init_21 : decode cX1_init 21 = .ok (.bipush 12, 2) := by decide +kernel
theorem dX1_init_23 : decode cX1_init 23 = .ok (.newarray .boolean, 2) := by decide +kernel
theorem dX1_init_25 : decode cX1_init 25 = .ok (.putfield 18, 3) := by decide +kernel
theorem dX1_init_28 : decode cX1_init 28 = .ok (.aload_n 0, 1) := by decide +kernel
theorem dX1_init_29 : decode cX1_init 29 = .ok (.bipush 8, 2) := by decide +kernel
theorem dX1_init_31 : decode cX1_init 31 = .ok (.newarray .long, 2) := by decide +kernel
theorem dX1_init_33 : decode cX1_init 33 = .ok (.putfield 22, 3) := by decide +kernel
theorem dX1_init_36 : decode cX1_init 36 = .ok (.aload_n 0, 1) := by decide +kernel
theorem dX1_init_37 : decode cX1_init 37 = .ok (.bipush 9, 2) := by decide +kernel
theorem dX1_init_39 : decode cX1_init 39 = .ok (.newarray .int, 2) := by decide +kernel
theorem dX1_init_41 : decode cX1_init 41 = .ok (.putfield 26, 3) := by decide +kernel
theorem dX1_init_44 : decode cX1_init 44 = .ok (.aload_n 0, 1) := by decide +kernel
theorem dX1_init_45 : decode cX1_init 45 = .ok (.aload_n 1, 1) := by decide +kernel
theorem dX1_init_46 : decode cX1_init 46 = .ok (.putfield 29, 3) := by decide +kernel
theorem dX1_init_49 : decode cX1_init 49 = .ok (.aload_n 0, 1) := by decide +kernel
theorem dX1_init_50 : decode cX1_init 50 = .ok (.aload_n 2, 1) := by decide +kernel
theorem dX1_init_51 : decode cX1_init 51 = .ok (.putfield 33, 3) := by decide +kernel
theorem dX1_init_54 : decode cX1_init 54 = .ok (.return_, 1) := by decide +kernel
theorem dX1_many_0 : decode cX1_many 0 = .ok (.aload_n 0, 1) := by decide +kernel
theorem dX1_many_1 : decode cX1_many 1 = .ok (.getfield 37, 3) := by decide +kernel
theorem dX1_many_4 : decode cX1_many 4 = .ok (.ireturn, 1) := by decide +kernel
theorem dX1_forget_0 : decode cX1_forget 0 = .ok (.aload_n 0, 1) := by decide +kernel
theorem dX1_forget_1 : decode cX1_forget 1 = .ok (.iconst 0, 1) := by decide +kernel
theorem dX1_forget_2 : decode cX1_forget 2 = .ok (.putfield 37, 3) := by decide +kernel
theorem dX1_forget_5 : decode cX1_forget 5 = .ok (.return_, 1) := by decide +kernel
theorem dX1_add_0 : decode cX1_add 0 = .ok (.aload_n 0, 1) := by decide +kernel
theorem dX1_add_1 : decode cX1_add 1 = .ok (.getfield 37, 3) := by decide +kernel
theorem dX1_add_4 : decode cX1_add 4 = .ok (.bipush 12, 2) := by decide +kernel
theorem dX1_add_6 : decode cX1_add 6 = .ok (.if_icmp .lt 5, 3) := by decide +kernel
theorem dX1_add_9 : decode cX1_add 9 = .ok (.iconst (-1), 1) := by decide +kernel
theorem dX1_add_10 : decode cX1_add 10 = .ok (.ireturn, 1) := by decide +kernel
theorem dX1_add_11 : decode cX1_add 11 = .ok (.aload_n 0, 1) := by decide +kernel
theorem dX1_add_12 : decode cX1_add 12 = .ok (.getfield 11, 3) := by decide +kernel
theorem dX1_add_15 : decode cX1_add 15 = .ok (.aload_n 0, 1) := by decide +kernel
theorem dX1_add_16 : decode cX1_add 16 = .ok (.getfield 37, 3) := by decide +kernel
theorem dX1_add_19 : decode cX1_add 19 = .ok (.iload_n 1, 1) := by decide +kernel
theorem dX1_add_20 : decode cX1_add 20 = .ok (.iastore, 1) := by decide +kernel
theorem dX1_add_21 : decode cX1_add 21 = .ok (.aload_n 0, 1) := by decide +kernel
theorem dX1_add_22 : decode cX1_add 22 = .ok (.getfield 15, 3) := by decide +kernel
theorem dX1_add_25 : decode cX1_add 25 = .ok (.aload_n 0, 1) := by decide +kernel
theorem dX1_add_26 : decode cX1_add 26 = .ok (.getfield 37, 3) := by decide +kernel
theorem dX1_add_29 : decode cX1_add 29 = .ok (.iload_n 2, 1) := by decide +kernel
theorem dX1_add_30 : decode cX1_add 30 = .ok (.iastore, 1) := by decide +kernel
theorem dX1_add_31 : decode cX1_add 31 = .ok (.aload_n 0, 1) := by decide +kernel
theorem dX1_add_32 : decode cX1_add 32 = .ok (.getfield 18, 3) := by decide +kernel
theorem dX1_add_35 : decode cX1_add 35 = .ok (.aload_n 0, 1) := by decide +kernel
theorem dX1_add_36 : decode cX1_add 36 = .ok (.getfield 37, 3) := by decide +kernel
theorem dX1_add_39 : decode cX1_add 39 = .ok (.iload_n 3, 1) := by decide +kernel
theorem dX1_add_40 : decode cX1_add 40 = .ok (.bastore, 1) := by decide +kernel
theorem dX1_add_41 : decode cX1_add 41 = .ok (.aload_n 0, 1) := by decide +kernel
theorem dX1_add_42 : decode cX1_add 42 = .ok (.dup, 1) := by decide +kernel
theorem dX1_add_43 : decode cX1_add 43 = .ok (.getfield 37, 3) := by decide +kernel
theorem dX1_add_46 : decode cX1_add 46 = .ok (.iconst 1, 1) := by decide +kernel
theorem dX1_add_47 : decode cX1_add 47 = .ok (.iadd, 1) := by decide +kernel
theorem dX1_add_48 : decode cX1_add 48 = .ok (.putfield 37, 3) := by decide +kernel
theorem dX1_add_51 : decode cX1_add 51 = .ok (.aload_n 0, 1) := by decide +kernel
theorem dX1_add_52 : decode cX1_add 52 = .ok (.getfield 37, 3) := by decide +kernel
theorem dX1_add_55 : decode cX1_add 55 = .ok (.ireturn, 1) := by decide +kernel
theorem dX1_weigh_0 : decode cX1_weigh 0 = .ok (.iconst 0, 1) := by decide +kernel
theorem dX1_weigh_1 : decode cX1_weigh 1 = .ok (.istore_n 2, 1) := by decide +kernel
theorem dX1_weigh_2 : decode cX1_weigh 2 = .ok (.iload_n 2, 1) := by decide +kernel
theorem dX1_weigh_3 : decode cX1_weigh 3 = .ok (.aload_n 0, 1) := by decide +kernel
theorem dX1_weigh_4 : decode cX1_weigh 4 = .ok (.getfield 29, 3) := by decide +kernel
theorem dX1_weigh_7 : decode cX1_weigh 7 = .ok (.invokevirtual 41, 3) := by decide +kernel
theorem dX1_weigh_10 : decode cX1_weigh 10 = .ok (.if_icmp .ge 21, 3) := by decide +kernel
theorem dX1_weigh_13 : decode cX1_weigh 13 = .ok (.aload_n 0, 1) := by decide +kernel
theorem dX1_weigh_14 : decode cX1_weigh 14 = .ok (.getfield 22, 3) := by decide +kernel
theorem dX1_weigh_17 : decode cX1_weigh 17 = .ok (.iload_n 2, 1) := by decide +kernel
theorem dX1_weigh_18 : decode cX1_weigh 18 = .ok (.aload_n 0, 1) := by decide +kernel
theorem dX1_weigh_19 : decode cX1_weigh 19 = .ok (.iload_n 2, 1) := by decide +kernel
theorem dX1_weigh_20 : decode cX1_weigh 20 = .ok (.iload_n 1, 1) := by decide +kernel
theorem dX1_weigh_21 : decode cX1_weigh 21 = .ok (.invokevirtual 47, 3) := by decide +kernel
theorem dX1_weigh_24 : decode cX1_weigh 24 = .ok (.lastore, 1) := by decide +kernel
theorem dX1_weigh_25 : decode cX1_weigh 25 = .ok (.iinc 2 1, 3) := by decide +kernel
theorem dX1_weigh_28 : decode cX1_weigh 28 = .ok (.goto (-26), 3) := by decide +kernel
theorem dX1_weigh_31 : decode cX1_weigh 31 = .ok (.return_, 1) := by decide +kernel
theorem dX1_heldOf_0 : decode cX1_heldOf 0 = .ok (.lconst 1, 1) := by decide +kernel
theorem dX1_heldOf_1 : decode cX1_heldOf 1 = .ok (.lstore_n 3, 1) := by decide +kernel
theorem dX1_heldOf_2 : decode cX1_heldOf 2 = .ok (.iconst 0, 1) := by decide +kernel
theorem dX1_heldOf_3 : decode cX1_heldOf 3 = .ok (.istore 5, 2) := by decide +kernel
theorem dX1_heldOf_5 : decode cX1_heldOf 5 = .ok (.iload 5, 2) := by decide +kernel
theorem dX1_heldOf_7 : decode cX1_heldOf 7 = .ok (.aload_n 0, 1) := by decide +kernel
theorem dX1_heldOf_8 : decode cX1_heldOf 8 = .ok (.getfield 37, 3) := by decide +kernel
theorem dX1_heldOf_11 : decode cX1_heldOf 11 = .ok (.if_icmp .ge 73, 3) := by decide +kernel
theorem dX1_heldOf_14 : decode cX1_heldOf 14 = .ok (.aload_n 0, 1) := by decide +kernel
theorem dX1_heldOf_15 : decode cX1_heldOf 15 = .ok (.getfield 33, 3) := by decide +kernel
theorem dX1_heldOf_18 : decode cX1_heldOf 18 = .ok (.aload_n 0, 1) := by decide +kernel
theorem dX1_heldOf_19 : decode cX1_heldOf 19 = .ok (.getfield 11, 3) := by decide +kernel
theorem dX1_heldOf_22 : decode cX1_heldOf 22 = .ok (.iload 5, 2) := by decide +kernel
theorem dX1_heldOf_24 : decode cX1_heldOf 24 = .ok (.iaload, 1) := by decide +kernel
theorem dX1_heldOf_25 : decode cX1_heldOf 25 = .ok (.iload_n 1, 1) := by decide +kernel
theorem dX1_heldOf_26 : decode cX1_heldOf 26 = .ok (.if_icmp .ne 7, 3) := by decide +kernel
theorem dX1_heldOf_29 : decode cX1_heldOf 29 = .ok (.iload_n 2, 1) := by decide +kernel
theorem dX1_heldOf_30 : decode cX1_heldOf 30 = .ok (.goto 4, 3) := by decide +kernel
theorem dX1_heldOf_33 : decode cX1_heldOf 33 = .ok (.iconst 0, 1) := by decide +kernel
theorem dX1_heldOf_34 : decode cX1_heldOf 34 = .ok (.aload_n 0, 1) := by decide +kernel
theorem dX1_heldOf_35 : decode cX1_heldOf 35 = .ok (.getfield 11, 3) := by decide +kernel
theorem dX1_heldOf_38 : decode cX1_heldOf 38 = .ok (.iload 5, 2) := by decide +kernel
theorem dX1_heldOf_40 : decode cX1_heldOf 40 = .ok (.iaload, 1) := by decide +kernel
theorem dX1_heldOf_41 : decode cX1_heldOf 41 = .ok (.aload_n 0, 1) := by decide +kernel
theorem dX1_heldOf_42 : decode cX1_heldOf 42 = .ok (.getfield 15, 3) := by decide +kernel
theorem dX1_heldOf_45 : decode cX1_heldOf 45 = .ok (.iload 5, 2) := by decide +kernel
theorem dX1_heldOf_47 : decode cX1_heldOf 47 = .ok (.iaload, 1) := by decide +kernel
theorem dX1_heldOf_48 : decode cX1_heldOf 48 = .ok (.invokevirtual 51, 3) := by decide +kernel
theorem dX1_heldOf_51 : decode cX1_heldOf 51 = .ok (.istore 6, 2) := by decide +kernel
theorem dX1_heldOf_53 : decode cX1_heldOf 53 = .ok (.lload_n 3, 1) := by decide +kernel
theorem dX1_heldOf_54 : decode cX1_heldOf 54 = .ok (.aload_n 0, 1) := by decide +kernel
theorem dX1_heldOf_55 : decode cX1_heldOf 55 = .ok (.getfield 18, 3) := by decide +kernel
theorem dX1_heldOf_58 : decode cX1_heldOf 58 = .ok (.iload 5, 2) := by decide +kernel
theorem dX1_heldOf_60 : decode cX1_heldOf 60 = .ok (.baload, 1) := by decide +kernel
theorem dX1_heldOf_61 : decode cX1_heldOf 61 = .ok (.ifCond .eq 9, 3) := by decide +kernel
theorem dX1_heldOf_64 : decode cX1_heldOf 64 = .ok (.iload 6, 2) := by decide +kernel
theorem dX1_heldOf_66 : decode cX1_heldOf 66 = .ok (.i2l, 1) := by decide +kernel
theorem dX1_heldOf_67 : decode cX1_heldOf 67 = .ok (.goto 9, 3) := by decide +kernel
theorem dX1_heldOf_70 : decode cX1_heldOf 70 = .ok (.bipush 10, 2) := by decide +kernel
theorem dX1_heldOf_72 : decode cX1_heldOf 72 = .ok (.iload 6, 2) := by decide +kernel
theorem dX1_heldOf_74 : decode cX1_heldOf 74 = .ok (.isub, 1) := by decide +kernel
theorem dX1_heldOf_75 : decode cX1_heldOf 75 = .ok (.i2l, 1) := by decide +kernel
theorem dX1_heldOf_76 : decode cX1_heldOf 76 = .ok (.lmul, 1) := by decide +kernel
theorem dX1_heldOf_77 : decode cX1_heldOf 77 = .ok (.lstore_n 3, 1) := by decide +kernel
theorem dX1_heldOf_78 : decode cX1_heldOf 78 = .ok (.iinc 5 1, 3) := by decide +kernel
theorem dX1_heldOf_81 : decode cX1_heldOf 81 = .ok (.goto (-76), 3) := by decide +kernel
theorem dX1_heldOf_84 : decode cX1_heldOf 84 = .ok (.lload_n 3, 1) := by decide +kernel
theorem dX1_heldOf_85 : decode cX1_heldOf 85 = .ok (.lreturn, 1) := by decide +kernel
theorem dX1_likeliestOne_0 : decode cX1_likeliestOne 0 = .ok (.iconst 0, 1) := by decide +kernel
theorem dX1_likeliestOne_1 : decode cX1_likeliestOne 1 = .ok (.istore_n 1, 1) := by decide +kernel
theorem dX1_likeliestOne_2 : decode cX1_likeliestOne 2 = .ok (.iconst 1, 1) := by decide +kernel
theorem dX1_likeliestOne_3 : decode cX1_likeliestOne 3 = .ok (.istore_n 2, 1) := by decide +kernel
theorem dX1_likeliestOne_4 : decode cX1_likeliestOne 4 = .ok (.iload_n 2, 1) := by decide +kernel
theorem dX1_likeliestOne_5 : decode cX1_likeliestOne 5 = .ok (.aload_n 0, 1) := by decide +kernel
theorem dX1_likeliestOne_6 : decode cX1_likeliestOne 6 = .ok (.getfield 29, 3) := by decide +kernel
theorem dX1_likeliestOne_9 : decode cX1_likeliestOne 9 = .ok (.invokevirtual 41, 3) := by decide +kernel
theorem dX1_likeliestOne_12 : decode cX1_likeliestOne 12 = .ok (.if_icmp .ge 27, 3) := by decide +kernel
theorem dX1_likeliestOne_15 : decode cX1_likeliestOne 15 = .ok (.aload_n 0, 1) := by decide +kernel
theorem dX1_likeliestOne_16 : decode cX1_likeliestOne 16 = .ok (.getfield 22, 3) := by decide +kernel
theorem dX1_likeliestOne_19 : decode cX1_likeliestOne 19 = .ok (.iload_n 2, 1) := by decide +kernel
theorem dX1_likeliestOne_20 : decode cX1_likeliestOne 20 = .ok (.laload, 1) := by decide +kernel
theorem dX1_likeliestOne_21 : decode cX1_likeliestOne 21 = .ok (.aload_n 0, 1) := by decide +kernel
theorem dX1_likeliestOne_22 : decode cX1_likeliestOne 22 = .ok (.getfield 22, 3) := by decide +kernel
theorem dX1_likeliestOne_25 : decode cX1_likeliestOne 25 = .ok (.iload_n 1, 1) := by decide +kernel
theorem dX1_likeliestOne_26 : decode cX1_likeliestOne 26 = .ok (.laload, 1) := by decide +kernel
theorem dX1_likeliestOne_27 : decode cX1_likeliestOne 27 = .ok (.lcmp, 1) := by decide +kernel
theorem dX1_likeliestOne_28 : decode cX1_likeliestOne 28 = .ok (.ifCond .le 5, 3) := by decide +kernel
theorem dX1_likeliestOne_31 : decode cX1_likeliestOne 31 = .ok (.iload_n 2, 1) := by decide +kernel
theorem dX1_likeliestOne_32 : decode cX1_likeliestOne 32 = .ok (.istore_n 1, 1) := by decide +kernel
theorem dX1_likeliestOne_33 : decode cX1_likeliestOne 33 = .ok (.iinc 2 1, 3) := by decide +kernel
theorem dX1_likeliestOne_36 : decode cX1_likeliestOne 36 = .ok (.goto (-32), 3) := by decide +kernel
theorem dX1_likeliestOne_39 : decode cX1_likeliestOne 39 = .ok (.iload_n 1, 1) := by decide +kernel
theorem dX1_likeliestOne_40 : decode cX1_likeliestOne 40 = .ok (.ireturn, 1) := by decide +kernel
theorem dX1_sureness_0 : decode cX1_sureness 0 = .ok (.lconst 0, 1) := by decide +kernel
theorem dX1_sureness_1 : decode cX1_sureness 1 = .ok (.lstore_n 1, 1) := by decide +kernel
theorem dX1_sureness_2 : decode cX1_sureness 2 = .ok (.iconst 0, 1) := by decide +kernel
theorem dX1_sureness_3 : decode cX1_sureness 3 = .ok (.istore_n 3, 1) := by decide +kernel
theorem dX1_sureness_4 : decode cX1_sureness 4 = .ok (.iload_n 3, 1) := by decide +kernel
theorem dX1_sureness_5 : decode cX1_sureness 5 = .ok (.aload_n 0, 1) := by decide +kernel
theorem dX1_sureness_6 : decode cX1_sureness 6 = .ok (.getfield 29, 3) := by decide +kernel
theorem dX1_sureness_9 : decode cX1_sureness 9 = .ok (.invokevirtual 41, 3) := by decide +kernel
theorem dX1_sureness_12 : decode cX1_sureness 12 = .ok (.if_icmp .ge 18, 3) := by decide +kernel
theorem dX1_sureness_15 : decode cX1_sureness 15 = .ok (.lload_n 1, 1) := by decide +kernel
theorem dX1_sureness_16 : decode cX1_sureness 16 = .ok (.aload_n 0, 1) := by decide +kernel
theorem dX1_sureness_17 : decode cX1_sureness 17 = .ok (.getfield 22, 3) := by decide +kernel
theorem dX1_sureness_20 : decode cX1_sureness 20 = .ok (.iload_n 3, 1) := by decide +kernel
theorem dX1_sureness_21 : decode cX1_sureness 21 = .ok (.laload, 1) := by decide +kernel
theorem dX1_sureness_22 : decode cX1_sureness 22 = .ok (.ladd, 1) := by decide +kernel
theorem dX1_sureness_23 : decode cX1_sureness 23 = .ok (.lstore_n 1, 1) := by decide +kernel
theorem dX1_sureness_24 : decode cX1_sureness 24 = .ok (.iinc 3 1, 3) := by decide +kernel
theorem dX1_sureness_27 : decode cX1_sureness 27 = .ok (.goto (-23), 3) := by decide +kernel
theorem dX1_sureness_30 : decode cX1_sureness 30 = .ok (.lload_n 1, 1) := by decide +kernel
theorem dX1_sureness_31 : decode cX1_sureness 31 = .ok (.lconst 0, 1) := by decide +kernel
theorem dX1_sureness_32 : decode cX1_sureness 32 = .ok (.lcmp, 1) := by decide +kernel
theorem dX1_sureness_33 : decode cX1_sureness 33 = .ok (.ifCond .gt 7, 3) := by decide +kernel
theorem dX1_sureness_36 : decode cX1_sureness 36 = .ok (.iconst 0, 1) := by decide +kernel
theorem dX1_sureness_37 : decode cX1_sureness 37 = .ok (.goto 19, 3) := by decide +kernel
theorem dX1_sureness_40 : decode cX1_sureness 40 = .ok (.aload_n 0, 1) := by decide +kernel
theorem dX1_sureness_41 : decode cX1_sureness 41 = .ok (.getfield 22, 3) := by decide +kernel
theorem dX1_sureness_44 : decode cX1_sureness 44 = .ok (.aload_n 0, 1) := by decide +kernel
theorem dX1_sureness_45 : decode cX1_sureness 45 = .ok (.invokevirtual 57, 3) := by decide +kernel
theorem dX1_sureness_48 : decode cX1_sureness 48 = .ok (.laload, 1) := by decide +kernel
theorem dX1_sureness_49 : decode cX1_sureness 49 = .ok (.ldc2_w 60, 3) := by decide +kernel
theorem dX1_sureness_52 : decode cX1_sureness 52 = .ok (.lmul, 1) := by decide +kernel
theorem dX1_sureness_53 : decode cX1_sureness 53 = .ok (.lload_n 1, 1) := by decide +kernel
theorem dX1_sureness_54 : decode cX1_sureness 54 = .ok (.ldiv, 1) := by decide +kernel
theorem dX1_sureness_55 : decode cX1_sureness 55 = .ok (.l2i, 1) := by decide +kernel
theorem dX1_sureness_56 : decode cX1_sureness 56 = .ok (.ireturn, 1) := by decide +kernel
theorem dX1_nextLook_0 : decode cX1_nextLook 0 = .ok (.iconst 0, 1) := by decide +kernel
theorem dX1_nextLook_1 : decode cX1_nextLook 1 = .ok (.istore_n 2, 1) := by decide +kernel
theorem dX1_nextLook_2 : decode cX1_nextLook 2 = .ok (.iconst 0, 1) := by decide +kernel
theorem dX1_nextLook_3 : decode cX1_nextLook 3 = .ok (.istore_n 3, 1) := by decide +kernel
theorem dX1_nextLook_4 : decode cX1_nextLook 4 = .ok (.iload_n 3, 1) := by decide +kernel
theorem dX1_nextLook_5 : decode cX1_nextLook 5 = .ok (.aload_n 0, 1) := by decide +kernel
theorem dX1_nextLook_6 : decode cX1_nextLook 6 = .ok (.getfield 29, 3) := by decide +kernel
theorem dX1_nextLook_9 : decode cX1_nextLook 9 = .ok (.invokevirtual 41, 3) := by decide +kernel
theorem dX1_nextLook_12 : decode cX1_nextLook 12 = .ok (.if_icmp .ge 28, 3) := by decide +kernel
theorem dX1_nextLook_15 : decode cX1_nextLook 15 = .ok (.iload_n 2, 1) := by decide +kernel
theorem dX1_nextLook_16 : decode cX1_nextLook 16 = .ok (.aload_n 0, 1) := by decide +kernel
theorem dX1_nextLook_17 : decode cX1_nextLook 17 = .ok (.getfield 22, 3) := by decide +kernel
theorem dX1_nextLook_20 : decode cX1_nextLook 20 = .ok (.iload_n 3, 1) := by decide +kernel
theorem dX1_nextLook_21 : decode cX1_nextLook 21 = .ok (.laload, 1) := by decide +kernel
theorem dX1_nextLook_22 : decode cX1_nextLook 22 = .ok (.lconst 0, 1) := by decide +kernel
theorem dX1_nextLook_23 : decode cX1_nextLook 23 = .ok (.lcmp, 1) := by decide +kernel
theorem dX1_nextLook_24 : decode cX1_nextLook 24 = .ok (.ifCond .le 7, 3) := by decide +kernel
theorem dX1_nextLook_27 : decode cX1_nextLook 27 = .ok (.iconst 1, 1) := by decide +kernel
theorem dX1_nextLook_28 : decode cX1_nextLook 28 = .ok (.goto 4, 3) := by decide +kernel
theorem dX1_nextLook_31 : decode cX1_nextLook 31 = .ok (.iconst 0, 1) := by decide +kernel
theorem dX1_nextLook_32 : decode cX1_nextLook 32 = .ok (.iadd, 1) := by decide +kernel
theorem dX1_nextLook_33 : decode cX1_nextLook 33 = .ok (.istore_n 2, 1) := by decide +kernel
theorem dX1_nextLook_34 : decode cX1_nextLook 34 = .ok (.iinc 3 1, 3) := by decide +kernel
theorem dX1_nextLook_37 : decode cX1_nextLook 37 = .ok (.goto (-33), 3) := by decide +kernel
theorem dX1_nextLook_40 : decode cX1_nextLook 40 = .ok (.iconst (-1), 1) := by decide +kernel
theorem dX1_nextLook_41 : decode cX1_nextLook 41 = .ok (.istore_n 3, 1) := by decide +kernel
theorem dX1_nextLook_42 : decode cX1_nextLook 42 = .ok (.bipush 9, 2) := by decide +kernel
theorem dX1_nextLook_44 : decode cX1_nextLook 44 = .ok (.istore 4, 2) := by decide +kernel
theorem dX1_nextLook_46 : decode cX1_nextLook 46 = .ok (.iconst 0, 1) := by decide +kernel
theorem dX1_nextLook_47 : decode cX1_nextLook 47 = .ok (.istore 5, 2) := by decide +kernel
theorem dX1_nextLook_49 : decode cX1_nextLook 49 = .ok (.iload 5, 2) := by decide +kernel
theorem dX1_nextLook_51 : decode cX1_nextLook 51 = .ok (.aload_n 0, 1) := by decide +kernel
theorem dX1_nextLook_52 : decode cX1_nextLook 52 = .ok (.getfield 29, 3) := by decide +kernel
theorem dX1_nextLook_55 : decode cX1_nextLook 55 = .ok (.invokevirtual 41, 3) := by decide +kernel
theorem dX1_nextLook_58 : decode cX1_nextLook 58 = .ok (.if_icmp .ge 73, 3) := by decide +kernel
theorem dX1_nextLook_61 : decode cX1_nextLook 61 = .ok (.iload_n 2, 1) := by decide +kernel
theorem dX1_nextLook_62 : decode cX1_nextLook 62 = .ok (.ifCond .le 69, 3) := by decide +kernel
theorem dX1_nextLook_65 : decode cX1_nextLook 65 = .ok (.iconst 0, 1) := by decide +kernel
theorem dX1_nextLook_66 : decode cX1_nextLook 66 = .ok (.istore 6, 2) := by decide +kernel
theorem dX1_nextLook_68 : decode cX1_nextLook 68 = .ok (.iload 6, 2) := by decide +kernel
theorem dX1_nextLook_70 : decode cX1_nextLook 70 = .ok (.aload_n 0, 1) := by decide +kernel
theorem dX1_nextLook_71 : decode cX1_nextLook 71 = .ok (.getfield 29, 3) := by decide +kernel
theorem dX1_nextLook_74 : decode cX1_nextLook 74 = .ok (.invokevirtual 62, 3) := by decide +kernel
theorem dX1_nextLook_77 : decode cX1_nextLook 77 = .ok (.if_icmp .ge 48, 3) := by decide +kernel
theorem dX1_nextLook_80 : decode cX1_nextLook 80 = .ok (.iload_n 2, 1) := by decide +kernel
theorem dX1_nextLook_81 : decode cX1_nextLook 81 = .ok (.iconst 2, 1) := by decide +kernel
theorem dX1_nextLook_82 : decode cX1_nextLook 82 = .ok (.aload_n 0, 1) := by decide +kernel
theorem dX1_nextLook_83 : decode cX1_nextLook 83 = .ok (.iload_n 1, 1) := by decide +kernel
theorem dX1_nextLook_84 : decode cX1_nextLook 84 = .ok (.iload 5, 2) := by decide +kernel
theorem dX1_nextLook_86 : decode cX1_nextLook 86 = .ok (.iload 6, 2) := by decide +kernel
theorem dX1_nextLook_88 : decode cX1_nextLook 88 = .ok (.iload_n 2, 1) := by decide +kernel
theorem dX1_nextLook_89 : decode cX1_nextLook 89 = .ok (.invokevirtual 64, 3) := by decide +kernel
theorem dX1_nextLook_92 : decode cX1_nextLook 92 = .ok (.imul, 1) := by decide +kernel
theorem dX1_nextLook_93 : decode cX1_nextLook 93 = .ok (.isub, 1) := by decide +kernel
theorem dX1_nextLook_94 : decode cX1_nextLook 94 = .ok (.invokestatic 68, 3) := by decide +kernel
theorem dX1_nextLook_97 : decode cX1_nextLook 97 = .ok (.istore 7, 2) := by decide +kernel
theorem dX1_nextLook_99 : decode cX1_nextLook 99 = .ok (.iload 7, 2) := by decide +kernel
theorem dX1_nextLook_101 : decode cX1_nextLook 101 = .ok (.iload 4, 2) := by decide +kernel
theorem dX1_nextLook_103 : decode cX1_nextLook 103 = .ok (.if_icmp .ge 16, 3) := by decide +kernel
theorem dX1_nextLook_106 : decode cX1_nextLook 106 = .ok (.iload 7, 2) := by decide +kernel
theorem dX1_nextLook_108 : decode cX1_nextLook 108 = .ok (.istore 4, 2) := by decide +kernel
theorem dX1_nextLook_110 : decode cX1_nextLook 110 = .ok (.bipush 10, 2) := by decide +kernel
theorem dX1_nextLook_112 : decode cX1_nextLook 112 = .ok (.iload 5, 2) := by decide +kernel
theorem dX1_nextLook_114 : decode cX1_nextLook 114 = .ok (.imul, 1) := by decide +kernel
theorem dX1_nextLook_115 : decode cX1_nextLook 115 = .ok (.iload 6, 2) := by decide +kernel
theorem dX1_nextLook_117 : decode cX1_nextLook 117 = .ok (.iadd, 1) := by decide +kernel
theorem dX1_nextLook_118 : decode cX1_nextLook 118 = .ok (.istore_n 3, 1) := by decide +kernel
theorem dX1_nextLook_119 : decode cX1_nextLook 119 = .ok (.iinc 6 1, 3) := by decide +kernel
theorem dX1_nextLook_122 : decode cX1_nextLook 122 = .ok (.goto (-54), 3) := by decide +kernel
theorem dX1_nextLook_125 : decode cX1_nextLook 125 = .ok (.iinc 5 1, 3) := by decide +kernel
theorem dX1_nextLook_128 : decode cX1_nextLook 128 = .ok (.goto (-79), 3) := by decide +kernel
theorem dX1_nextLook_131 : decode cX1_nextLook 131 = .ok (.iload_n 3, 1) := by decide +kernel
theorem dX1_nextLook_132 : decode cX1_nextLook 132 = .ok (.ireturn, 1) := by decide +kernel
theorem dX1_wakefulBy_0 : decode cX1_wakefulBy 0 = .ok (.aload_n 0, 1) := by decide +kernel
theorem dX1_wakefulBy_1 : decode cX1_wakefulBy 1 = .ok (.getfield 22, 3) := by decide +kernel
theorem dX1_wakefulBy_4 : decode cX1_wakefulBy 4 = .ok (.iload_n 2, 1) := by decide +kernel
theorem dX1_wakefulBy_5 : decode cX1_wakefulBy 5 = .ok (.laload, 1) := by decide +kernel
theorem dX1_wakefulBy_6 : decode cX1_wakefulBy 6 = .ok (.lconst 0, 1) := by decide +kernel
theorem dX1_wakefulBy_7 : decode cX1_wakefulBy 7 = .ok (.lcmp, 1) := by decide +kernel
theorem dX1_wakefulBy_8 : decode cX1_wakefulBy 8 = .ok (.ifCond .le 7, 3) := by decide +kernel
theorem dX1_wakefulBy_11 : decode cX1_wakefulBy 11 = .ok (.iconst 1, 1) := by decide +kernel
theorem dX1_wakefulBy_12 : decode cX1_wakefulBy 12 = .ok (.goto 4, 3) := by decide +kernel
theorem dX1_wakefulBy_15 : decode cX1_wakefulBy 15 = .ok (.iconst 0, 1) := by decide +kernel
theorem dX1_wakefulBy_16 : decode cX1_wakefulBy 16 = .ok (.istore 5, 2) := by decide +kernel
theorem dX1_wakefulBy_18 : decode cX1_wakefulBy 18 = .ok (.aload_n 0, 1) := by decide +kernel
theorem dX1_wakefulBy_19 : decode cX1_wakefulBy 19 = .ok (.getfield 33, 3) := by decide +kernel
theorem dX1_wakefulBy_22 : decode cX1_wakefulBy 22 = .ok (.iconst 0, 1) := by decide +kernel
theorem dX1_wakefulBy_23 : decode cX1_wakefulBy 23 = .ok (.iload_n 2, 1) := by decide +kernel
theorem dX1_wakefulBy_24 : decode cX1_wakefulBy 24 = .ok (.iload_n 3, 1) := by decide +kernel
theorem dX1_wakefulBy_25 : decode cX1_wakefulBy 25 = .ok (.invokevirtual 51, 3) := by decide +kernel
theorem dX1_wakefulBy_28 : decode cX1_wakefulBy 28 = .ok (.iconst 5, 1) := by decide +kernel
theorem dX1_wakefulBy_29 : decode cX1_wakefulBy 29 = .ok (.if_icmp .lt 11, 3) := by decide +kernel
theorem dX1_wakefulBy_32 : decode cX1_wakefulBy 32 = .ok (.iload 4, 2) := by decide +kernel
theorem dX1_wakefulBy_34 : decode cX1_wakefulBy 34 = .ok (.iload 5, 2) := by decide +kernel
theorem dX1_wakefulBy_36 : decode cX1_wakefulBy 36 = .ok (.isub, 1) := by decide +kernel
theorem dX1_wakefulBy_37 : decode cX1_wakefulBy 37 = .ok (.goto 4, 3) := by decide +kernel
theorem dX1_wakefulBy_40 : decode cX1_wakefulBy 40 = .ok (.iconst 0, 1) := by decide +kernel
theorem dX1_wakefulBy_41 : decode cX1_wakefulBy 41 = .ok (.istore 6, 2) := by decide +kernel
theorem dX1_wakefulBy_43 : decode cX1_wakefulBy 43 = .ok (.aload_n 0, 1) := by decide +kernel
theorem dX1_wakefulBy_44 : decode cX1_wakefulBy 44 = .ok (.getfield 33, 3) := by decide +kernel
theorem dX1_wakefulBy_47 : decode cX1_wakefulBy 47 = .ok (.iload_n 1, 1) := by decide +kernel
theorem dX1_wakefulBy_48 : decode cX1_wakefulBy 48 = .ok (.iload_n 2, 1) := by decide +kernel
theorem dX1_wakefulBy_49 : decode cX1_wakefulBy 49 = .ok (.iload_n 3, 1) := by decide +kernel
theorem dX1_wakefulBy_50 : decode cX1_wakefulBy 50 = .ok (.invokevirtual 51, 3) := by decide +kernel
theorem dX1_wakefulBy_53 : decode cX1_wakefulBy 53 = .ok (.iconst 5, 1) := by decide +kernel
theorem dX1_wakefulBy_54 : decode cX1_wakefulBy 54 = .ok (.if_icmp .lt 11, 3) := by decide +kernel
theorem dX1_wakefulBy_57 : decode cX1_wakefulBy 57 = .ok (.iload 6, 2) := by decide +kernel
theorem dX1_wakefulBy_59 : decode cX1_wakefulBy 59 = .ok (.iload 5, 2) := by decide +kernel
theorem dX1_wakefulBy_61 : decode cX1_wakefulBy 61 = .ok (.iadd, 1) := by decide +kernel
theorem dX1_wakefulBy_62 : decode cX1_wakefulBy 62 = .ok (.goto 5, 3) := by decide +kernel
theorem dX1_wakefulBy_65 : decode cX1_wakefulBy 65 = .ok (.iload 6, 2) := by decide +kernel
theorem dX1_wakefulBy_67 : decode cX1_wakefulBy 67 = .ok (.ireturn, 1) := by decide +kernel
theorem dX1_light_0 : decode cX1_light 0 = .ok (.aload_n 0, 1) := by decide +kernel
theorem dX1_light_1 : decode cX1_light 1 = .ok (.iconst 0, 1) := by decide +kernel
theorem dX1_light_2 : decode cX1_light 2 = .ok (.putfield 74, 3) := by decide +kernel
theorem dX1_light_5 : decode cX1_light 5 = .ok (.aload_n 0, 1) := by decide +kernel
theorem dX1_light_6 : decode cX1_light 6 = .ok (.iconst 0, 1) := by decide +kernel
theorem dX1_light_7 : decode cX1_light 7 = .ok (.putfield 77, 3) := by decide +kernel
theorem dX1_light_10 : decode cX1_light 10 = .ok (.iconst 0, 1) := by decide +kernel
theorem dX1_light_11 : decode cX1_light 11 = .ok (.istore_n 2, 1) := by decide +kernel
theorem dX1_light_12 : decode cX1_light 12 = .ok (.iload_n 2, 1) := by decide +kernel
theorem dX1_light_13 : decode cX1_light 13 = .ok (.aload_n 0, 1) := by decide +kernel
theorem dX1_light_14 : decode cX1_light 14 = .ok (.getfield 29, 3) := by decide +kernel
theorem dX1_light_17 : decode cX1_light 17 = .ok (.invokevirtual 62, 3) := by decide +kernel
theorem dX1_light_20 : decode cX1_light 20 = .ok (.if_icmp .ge 76, 3) := by decide +kernel
theorem dX1_light_23 : decode cX1_light 23 = .ok (.aload_n 0, 1) := by decide +kernel
theorem dX1_light_24 : decode cX1_light 24 = .ok (.getfield 26, 3) := by decide +kernel
theorem dX1_light_27 : decode cX1_light 27 = .ok (.iload_n 2, 1) := by decide +kernel
theorem dX1_light_28 : decode cX1_light 28 = .ok (.aload_n 0, 1) := by decide +kernel
theorem dX1_light_29 : decode cX1_light 29 = .ok (.getfield 33, 3) := by decide +kernel
theorem dX1_light_32 : decode cX1_light 32 = .ok (.iload_n 1, 1) := by decide +kernel
theorem dX1_light_33 : decode cX1_light 33 = .ok (.iload_n 2, 1) := by decide +kernel
theorem dX1_light_34 : decode cX1_light 34 = .ok (.invokevirtual 80, 3) := by decide +kernel
theorem dX1_light_37 : decode cX1_light 37 = .ok (.iastore, 1) := by decide +kernel
theorem dX1_light_38 : decode cX1_light 38 = .ok (.aload_n 0, 1) := by decide +kernel
theorem dX1_light_39 : decode cX1_light 39 = .ok (.dup, 1) := by decide +kernel
theorem dX1_light_40 : decode cX1_light 40 = .ok (.getfield 74, 3) := by decide +kernel
theorem dX1_light_43 : decode cX1_light 43 = .ok (.aload_n 0, 1) := by decide +kernel
theorem dX1_light_44 : decode cX1_light 44 = .ok (.getfield 26, 3) := by decide +kernel
theorem dX1_light_47 : decode cX1_light 47 = .ok (.iload_n 2, 1) := by decide +kernel
theorem dX1_light_48 : decode cX1_light 48 = .ok (.iaload, 1) := by decide +kernel
theorem dX1_light_49 : decode cX1_light 49 = .ok (.bipush 10, 2) := by decide +kernel
theorem dX1_light_51 : decode cX1_light 51 = .ok (.if_icmp .ne 9, 3) := by decide +kernel
theorem dX1_light_54 : decode cX1_light 54 = .ok (.iconst 1, 1) := by decide +kernel
theorem dX1_light_55 : decode cX1_light 55 = .ok (.iload_n 2, 1) := by decide +kernel
theorem dX1_light_56 : decode cX1_light 56 = .ok (.ishl, 1) := by decide +kernel
theorem dX1_light_57 : decode cX1_light 57 = .ok (.goto 4, 3) := by decide +kernel
theorem dX1_light_60 : decode cX1_light 60 = .ok (.iconst 0, 1) := by decide +kernel
theorem dX1_light_61 : decode cX1_light 61 = .ok (.ior, 1) := by decide +kernel
theorem dX1_light_62 : decode cX1_light 62 = .ok (.putfield 74, 3) := by decide +kernel
theorem dX1_light_65 : decode cX1_light 65 = .ok (.aload_n 0, 1) := by decide +kernel
theorem dX1_light_66 : decode cX1_light 66 = .ok (.dup, 1) := by decide +kernel
theorem dX1_light_67 : decode cX1_light 67 = .ok (.getfield 77, 3) := by decide +kernel
theorem dX1_light_70 : decode cX1_light 70 = .ok (.aload_n 0, 1) := by decide +kernel
theorem dX1_light_71 : decode cX1_light 71 = .ok (.getfield 26, 3) := by decide +kernel
theorem dX1_light_74 : decode cX1_light 74 = .ok (.iload_n 2, 1) := by decide +kernel
theorem dX1_light_75 : decode cX1_light 75 = .ok (.iaload, 1) := by decide +kernel
theorem dX1_light_76 : decode cX1_light 76 = .ok (.ifCond .ne 9, 3) := by decide +kernel
theorem dX1_light_79 : decode cX1_light 79 = .ok (.iconst 1, 1) := by decide +kernel
theorem dX1_light_80 : decode cX1_light 80 = .ok (.iload_n 2, 1) := by decide +kernel
theorem dX1_light_81 : decode cX1_light 81 = .ok (.ishl, 1) := by decide +kernel
theorem dX1_light_82 : decode cX1_light 82 = .ok (.goto 4, 3) := by decide +kernel
theorem dX1_light_85 : decode cX1_light 85 = .ok (.iconst 0, 1) := by decide +kernel
theorem dX1_light_86 : decode cX1_light 86 = .ok (.ior, 1) := by decide +kernel
theorem dX1_light_87 : decode cX1_light 87 = .ok (.putfield 77, 3) := by decide +kernel
theorem dX1_light_90 : decode cX1_light 90 = .ok (.iinc 2 1, 3) := by decide +kernel
theorem dX1_light_93 : decode cX1_light 93 = .ok (.goto (-81), 3) := by decide +kernel
theorem dX1_light_96 : decode cX1_light 96 = .ok (.iconst 0, 1) := by decide +kernel
theorem dX1_light_97 : decode cX1_light 97 = .ok (.istore_n 2, 1) := by decide +kernel
theorem dX1_light_98 : decode cX1_light 98 = .ok (.iload_n 2, 1) := by decide +kernel
theorem dX1_light_99 : decode cX1_light 99 = .ok (.aload_n 0, 1) := by decide +kernel
theorem dX1_light_100 : decode cX1_light 100 = .ok (.getfield 37, 3) := by decide +kernel
theorem dX1_light_103 : decode cX1_light 103 = .ok (.if_icmp .ge 79, 3) := by decide +kernel
theorem dX1_light_106 : decode cX1_light 106 = .ok (.aload_n 0, 1) := by decide +kernel
theorem dX1_light_107 : decode cX1_light 107 = .ok (.getfield 11, 3) := by decide +kernel
theorem dX1_light_110 : decode cX1_light 110 = .ok (.iload_n 2, 1) := by decide +kernel
theorem dX1_light_111 : decode cX1_light 111 = .ok (.iaload, 1) := by decide +kernel
theorem dX1_light_112 : decode cX1_light 112 = .ok (.iload_n 1, 1) := by decide +kernel
theorem dX1_light_113 : decode cX1_light 113 = .ok (.if_icmp .ne 63, 3) := by decide +kernel
theorem dX1_light_116 : decode cX1_light 116 = .ok (.aload_n 0, 1) := by decide +kernel
theorem dX1_light_117 : decode cX1_light 117 = .ok (.dup, 1) := by decide +kernel
theorem dX1_light_118 : decode cX1_light 118 = .ok (.getfield 74, 3) := by decide +kernel
theorem dX1_light_121 : decode cX1_light 121 = .ok (.aload_n 0, 1) := by decide +kernel
theorem dX1_light_122 : decode cX1_light 122 = .ok (.getfield 18, 3) := by decide +kernel
theorem dX1_light_125 : decode cX1_light 125 = .ok (.iload_n 2, 1) := by decide +kernel
theorem dX1_light_126 : decode cX1_light 126 = .ok (.baload, 1) := by decide +kernel
theorem dX1_light_127 : decode cX1_light 127 = .ok (.ifCond .eq 14, 3) := by decide +kernel
theorem dX1_light_130 : decode cX1_light 130 = .ok (.iconst 1, 1) := by decide +kernel
theorem dX1_light_131 : decode cX1_light 131 = .ok (.aload_n 0, 1) := by decide +kernel
theorem dX1_light_132 : decode cX1_light 132 = .ok (.getfield 15, 3) := by decide +kernel
theorem dX1_light_135 : decode cX1_light 135 = .ok (.iload_n 2, 1) := by decide +kernel
theorem dX1_light_136 : decode cX1_light 136 = .ok (.iaload, 1) := by decide +kernel
theorem dX1_light_137 : decode cX1_light 137 = .ok (.ishl, 1) := by decide +kernel
theorem dX1_light_138 : decode cX1_light 138 = .ok (.goto 4, 3) := by decide +kernel
theorem dX1_light_141 : decode cX1_light 141 = .ok (.iconst 0, 1) := by decide +kernel
theorem dX1_light_142 : decode cX1_light 142 = .ok (.ior, 1) := by decide +kernel
theorem dX1_light_143 : decode cX1_light 143 = .ok (.putfield 74, 3) := by decide +kernel
theorem dX1_light_146 : decode cX1_light 146 = .ok (.aload_n 0, 1) := by decide +kernel
theorem dX1_light_147 : decode cX1_light 147 = .ok (.dup, 1) := by decide +kernel
theorem dX1_light_148 : decode cX1_light 148 = .ok (.getfield 77, 3) := by decide +kernel
theorem dX1_light_151 : decode cX1_light 151 = .ok (.aload_n 0, 1) := by decide +kernel
theorem dX1_light_152 : decode cX1_light 152 = .ok (.getfield 18, 3) := by decide +kernel
theorem dX1_light_155 : decode cX1_light 155 = .ok (.iload_n 2, 1) := by decide +kernel
theorem dX1_light_156 : decode cX1_light 156 = .ok (.baload, 1) := by decide +kernel
theorem dX1_light_157 : decode cX1_light 157 = .ok (.ifCond .eq 7, 3) := by decide +kernel
theorem dX1_light_160 : decode cX1_light 160 = .ok (.iconst 0, 1) := by decide +kernel
theorem dX1_light_161 : decode cX1_light 161 = .ok (.goto 11, 3) := by decide +kernel
theorem dX1_light_164 : decode cX1_light 164 = .ok (.iconst 1, 1) := by decide +kernel
theorem dX1_light_165 : decode cX1_light 165 = .ok (.aload_n 0, 1) := by decide +kernel
theorem dX1_light_166 : decode cX1_light 166 = .ok (.getfield 15, 3) := by decide +kernel
theorem dX1_light_169 : decode cX1_light 169 = .ok (.iload_n 2, 1) := by decide +kernel
theorem dX1_light_170 : decode cX1_light 170 = .ok (.iaload, 1) := by decide +kernel
theorem dX1_light_171 : decode cX1_light 171 = .ok (.ishl, 1) := by decide +kernel
theorem dX1_light_172 : decode cX1_light 172 = .ok (.ior, 1) := by decide +kernel
theorem dX1_light_173 : decode cX1_light 173 = .ok (.putfield 77, 3) := by decide +kernel
theorem dX1_light_176 : decode cX1_light 176 = .ok (.iinc 2 1, 3) := by decide +kernel
theorem dX1_light_179 : decode cX1_light 179 = .ok (.goto (-81), 3) := by decide +kernel
theorem dX1_light_182 : decode cX1_light 182 = .ok (.return_, 1) := by decide +kernel
theorem dX1_canBurn_0 : decode cX1_canBurn 0 = .ok (.iload_n 1, 1) := by decide +kernel
theorem dX1_canBurn_1 : decode cX1_canBurn 1 = .ok (.invokestatic 84, 3) := by decide +kernel
theorem dX1_canBurn_4 : decode cX1_canBurn 4 = .ok (.iload_n 2, 1) := by decide +kernel
theorem dX1_canBurn_5 : decode cX1_canBurn 5 = .ok (.if_icmp .ne 29, 3) := by decide +kernel
theorem dX1_canBurn_8 : decode cX1_canBurn 8 = .ok (.iload_n 1, 1) := by decide +kernel
theorem dX1_canBurn_9 : decode cX1_canBurn 9 = .ok (.aload_n 0, 1) := by decide +kernel
theorem dX1_canBurn_10 : decode cX1_canBurn 10 = .ok (.getfield 74, 3) := by decide +kernel
theorem dX1_canBurn_13 : decode cX1_canBurn 13 = .ok (.iand, 1) := by decide +kernel
theorem dX1_canBurn_14 : decode cX1_canBurn 14 = .ok (.aload_n 0, 1) := by decide +kernel
theorem dX1_canBurn_15 : decode cX1_canBurn 15 = .ok (.getfield 74, 3) := by decide +kernel
theorem dX1_canBurn_18 : decode cX1_canBurn 18 = .ok (.if_icmp .ne 16, 3) := by decide +kernel
theorem dX1_canBurn_21 : decode cX1_canBurn 21 = .ok (.iload_n 1, 1) := by decide +kernel
theorem dX1_canBurn_22 : decode cX1_canBurn 22 = .ok (.aload_n 0, 1) := by decide +kernel
theorem dX1_canBurn_23 : decode cX1_canBurn 23 = .ok (.getfield 77, 3) := by decide +kernel
theorem dX1_canBurn_26 : decode cX1_canBurn 26 = .ok (.iand, 1) := by decide +kernel
theorem dX1_canBurn_27 : decode cX1_canBurn 27 = .ok (.ifCond .ne 7, 3) := by decide +kernel
theorem dX1_canBurn_30 : decode cX1_canBurn 30 = .ok (.iconst 1, 1) := by decide +kernel
theorem dX1_canBurn_31 : decode cX1_canBurn 31 = .ok (.goto 4, 3) := by decide +kernel
theorem dX1_canBurn_34 : decode cX1_canBurn 34 = .ok (.iconst 0, 1) := by decide +kernel
theorem dX1_canBurn_35 : decode cX1_canBurn 35 = .ok (.ireturn, 1) := by decide +kernel
theorem dX1_oddsOf_0 : decode cX1_oddsOf 0 = .ok (.lconst 1, 1) := by decide +kernel
theorem dX1_oddsOf_1 : decode cX1_oddsOf 1 = .ok (.lstore_n 2, 1) := by decide +kernel
theorem dX1_oddsOf_2 : decode cX1_oddsOf 2 = .ok (.iconst 0, 1) := by decide +kernel
theorem dX1_oddsOf_3 : decode cX1_oddsOf 3 = .ok (.istore 4, 2) := by decide +kernel
theorem dX1_oddsOf_5 : decode cX1_oddsOf 5 = .ok (.iload 4, 2) := by decide +kernel
theorem dX1_oddsOf_7 : decode cX1_oddsOf 7 = .ok (.aload_n 0, 1) := by decide +kernel
theorem dX1_oddsOf_8 : decode cX1_oddsOf 8 = .ok (.getfield 29, 3) := by decide +kernel
theorem dX1_oddsOf_11 : decode cX1_oddsOf 11 = .ok (.invokevirtual 62, 3) := by decide +kernel
theorem dX1_oddsOf_14 : decode cX1_oddsOf 14 = .ok (.if_icmp .ge 44, 3) := by decide +kernel
theorem dX1_oddsOf_17 : decode cX1_oddsOf 17 = .ok (.lload_n 2, 1) := by decide +kernel
theorem dX1_oddsOf_18 : decode cX1_oddsOf 18 = .ok (.iload_n 1, 1) := by decide +kernel
theorem dX1_oddsOf_19 : decode cX1_oddsOf 19 = .ok (.iload 4, 2) := by decide +kernel
theorem dX1_oddsOf_21 : decode cX1_oddsOf 21 = .ok (.ishr, 1) := by decide +kernel
theorem dX1_oddsOf_22 : decode cX1_oddsOf 22 = .ok (.iconst 1, 1) := by decide +kernel
theorem dX1_oddsOf_23 : decode cX1_oddsOf 23 = .ok (.iand, 1) := by decide +kernel
theorem dX1_oddsOf_24 : decode cX1_oddsOf 24 = .ok (.iconst 1, 1) := by decide +kernel
theorem dX1_oddsOf_25 : decode cX1_oddsOf 25 = .ok (.if_icmp .ne 14, 3) := by decide +kernel
theorem dX1_oddsOf_28 : decode cX1_oddsOf 28 = .ok (.aload_n 0, 1) := by decide +kernel
theorem dX1_oddsOf_29 : decode cX1_oddsOf 29 = .ok (.getfield 26, 3) := by decide +kernel
theorem dX1_oddsOf_32 : decode cX1_oddsOf 32 = .ok (.iload 4, 2) := by decide +kernel
theorem dX1_oddsOf_34 : decode cX1_oddsOf 34 = .ok (.iaload, 1) := by decide +kernel
theorem dX1_oddsOf_35 : decode cX1_oddsOf 35 = .ok (.i2l, 1) := by decide +kernel
theorem dX1_oddsOf_36 : decode cX1_oddsOf 36 = .ok (.goto 14, 3) := by decide +kernel
theorem dX1_oddsOf_39 : decode cX1_oddsOf 39 = .ok (.bipush 10, 2) := by decide +kernel
theorem dX1_oddsOf_41 : decode cX1_oddsOf 41 = .ok (.aload_n 0, 1) := by decide +kernel
theorem dX1_oddsOf_42 : decode cX1_oddsOf 42 = .ok (.getfield 26, 3) := by decide +kernel
theorem dX1_oddsOf_45 : decode cX1_oddsOf 45 = .ok (.iload 4, 2) := by decide +kernel
theorem dX1_oddsOf_47 : decode cX1_oddsOf 47 = .ok (.iaload, 1) := by decide +kernel
theorem dX1_oddsOf_48 : decode cX1_oddsOf 48 = .ok (.isub, 1) := by decide +kernel
theorem dX1_oddsOf_49 : decode cX1_oddsOf 49 = .ok (.i2l, 1) := by decide +kernel
theorem dX1_oddsOf_50 : decode cX1_oddsOf 50 = .ok (.lmul, 1) := by decide +kernel
theorem dX1_oddsOf_51 : decode cX1_oddsOf 51 = .ok (.lstore_n 2, 1) := by decide +kernel
theorem dX1_oddsOf_52 : decode cX1_oddsOf 52 = .ok (.iinc 4 1, 3) := by decide +kernel
theorem dX1_oddsOf_55 : decode cX1_oddsOf 55 = .ok (.goto (-50), 3) := by decide +kernel
theorem dX1_oddsOf_58 : decode cX1_oddsOf 58 = .ok (.lload_n 2, 1) := by decide +kernel
theorem dX1_oddsOf_59 : decode cX1_oddsOf 59 = .ok (.lreturn, 1) := by decide +kernel
theorem dX10_init_0 : decode cX10_init 0 = .ok (.aload_n 0, 1) := by decide +kernel
theorem dX10_init_1 : decode cX10_init 1 = .ok (.invokespecial 3, 3) := by decide +kernel
theorem dX10_init_4 : decode cX10_init 4 = .ok (.aload_n 0, 1) := by decide +kernel
theorem dX10_init_5 : decode cX10_init 5 = .ok (.bipush 36, 2) := by decide +kernel
theorem dX10_init_7 : decode cX10_init 7 = .ok (.newarray .int, 2) := by decide +kernel
theorem dX10_init_9 : decode cX10_init 9 = .ok (.putfield 9, 3) := by decide +kernel
theorem dX10_init_12 : decode cX10_init 12 = .ok (.aload_n 0, 1) := by decide +kernel
theorem dX10_init_13 : decode cX10_init 13 = .ok (.bipush 9, 2) := by decide +kernel
theorem dX10_init_15 : decode cX10_init 15 = .ok (.newarray .int, 2) := by decide +kernel
theorem dX10_init_17 : decode cX10_init 17 = .ok (.putfield 15, 3) := by decide +kernel
theorem dX10_init_20 : decode cX10_init 20 = .ok (.aload_n 0, 1) := by decide +kernel
theorem dX10_init_21 : decode cX10_init 21 = .ok (.iconst (-1), 1) := by decide +kernel
theorem dX10_init_22 : decode cX10_init 22 = .ok (.putfield 18, 3) := by decide +kernel
theorem dX10_init_25 : decode cX10_init 25 = .ok (.return_, 1) := by decide +kernel
theorem dX10_many_0 : decode cX10_many 0 = .ok (.aload_n 0, 1) := by decide +kernel
theorem dX10_many_1 : decode cX10_many 1 = .ok (.getfield 22, 3) := by decide +kernel
theorem dX10_many_4 : decode cX10_many 4 = .ok (.ireturn, 1) := by decide +kernel
theorem dX10_holding_0 : decode cX10_holding 0 = .ok (.aload_n 0, 1) := by decide +kernel
theorem dX10_holding_1 : decode cX10_holding 1 = .ok (.getfield 18, 3) := by decide +kernel
theorem dX10_holding_4 : decode cX10_holding 4 = .ok (.ireturn, 1) := by decide +kernel
theorem dX10_has_0 : decode cX10_has 0 = .ok (.iload_n 1, 1) := by decide +kernel
theorem dX10_has_1 : decode cX10_has 1 = .ok (.ifCond .lt 15, 3) := by decide +kernel
theorem dX10_has_4 : decode cX10_has 4 = .ok (.iload_n 1, 1) := by decide +kernel
theorem dX10_has_5 : decode cX10_has 5 = .ok (.aload_n 0, 1) := by decide +kernel
theorem dX10_has_6 : decode cX10_has 6 = .ok (.getfield 22, 3) := by decide +kernel
theorem dX10_has_9 : decode cX10_has 9 = .ok (.if_icmp .ge 7, 3) := by decide +kernel
theorem dX10_has_12 : decode cX10_has 12 = .ok (.iconst 1, 1) := by decide +kernel
theorem dX10_has_13 : decode cX10_has 13 = .ok (.goto 4, 3) := by decide +kernel
theorem dX10_has_16 : decode cX10_has 16 = .ok (.iconst 0, 1) := by decide +kernel
theorem dX10_has_17 : decode cX10_has 17 = .ok (.ireturn, 1) := by decide +kernel
theorem dX10_hold_0 : decode cX10_hold 0 = .ok (.iload_n 1, 1) := by decide +kernel
theorem dX10_hold_1 : decode cX10_hold 1 = .ok (.iconst (-1), 1) := by decide +kernel
theorem dX10_hold_2 : decode cX10_hold 2 = .ok (.if_icmp .eq 13, 3) := by decide +kernel
theorem dX10_hold_5 : decode cX10_hold 5 = .ok (.aload_n 0, 1) := by decide +kernel
theorem dX10_hold_6 : decode cX10_hold 6 = .ok (.iload_n 1, 1) := by decide +kernel
theorem dX10_hold_7 : decode cX10_hold 7 = .ok (.invokevirtual 25, 3) := by decide +kernel
theorem dX10_hold_10 : decode cX10_hold 10 = .ok (.ifCond .ne 5, 3) := by decide +kernel
theorem dX10_hold_13 : decode cX10_hold 13 = .ok (.iconst 0, 1) := by decide +kernel
theorem dX10_hold_14 : decode cX10_hold 14 = .ok (.ireturn, 1) := by decide +kernel
theorem dX10_hold_15 : decode cX10_hold 15 = .ok (.aload_n 0, 1) := by decide +kernel
theorem dX10_hold_16 : decode cX10_hold 16 = .ok (.iload_n 1, 1) := by decide +kernel
theorem dX10_hold_17 : decode cX10_hold 17 = .ok (.putfield 18, 3) := by decide +kernel
theorem dX10_hold_20 : decode cX10_hold 20 = .ok (.iconst 1, 1) := by decide +kernel
theorem dX10_hold_21 : decode cX10_hold 21 = .ok (.ireturn, 1) := by decide +kernel
theorem dX10_toldAt_0 : decode cX10_toldAt 0 = .ok (.aload_n 0, 1) := by decide +kernel
theorem dX10_toldAt_1 : decode cX10_toldAt 1 = .ok (.getfield 9, 3) := by decide +kernel
theorem dX10_toldAt_4 : decode cX10_toldAt 4 = .ok (.iload_n 1, 1) := by decide +kernel
theorem dX10_toldAt_5 : decode cX10_toldAt 5 = .ok (.bipush 9, 2) := by decide +kernel
theorem dX10_toldAt_7 : decode cX10_toldAt 7 = .ok (.imul, 1) := by decide +kernel
theorem dX10_toldAt_8 : decode cX10_toldAt 8 = .ok (.iload_n 2, 1) := by decide +kernel
theorem dX10_toldAt_9 : decode cX10_toldAt 9 = .ok (.iadd, 1) := by decide +kernel
theorem dX10_toldAt_10 : decode cX10_toldAt 10 = .ok (.iaload, 1) := by decide +kernel
theorem dX10_toldAt_11 : decode cX10_toldAt 11 = .ok (.ireturn, 1) := by decide +kernel
theorem dX10_seenAt_0 : decode cX10_seenAt 0 = .ok (.aload_n 0, 1) := by decide +kernel
theorem dX10_seenAt_1 : decode cX10_seenAt 1 = .ok (.getfield 18, 3) := by decide +kernel
theorem dX10_seenAt_4 : decode cX10_seenAt 4 = .ok (.iconst (-1), 1) := by decide +kernel
theorem dX10_seenAt_5 : decode cX10_seenAt 5 = .ok (.if_icmp .ne 7, 3) := by decide +kernel
theorem dX10_seenAt_8 : decode cX10_seenAt 8 = .ok (.iconst (-1), 1) := by decide +kernel
theorem dX10_seenAt_9 : decode cX10_seenAt 9 = .ok (.goto 12, 3) := by decide +kernel
theorem dX10_seenAt_12 : decode cX10_seenAt 12 = .ok (.aload_n 0, 1) := by decide +kernel
theorem dX10_seenAt_13 : decode cX10_seenAt 13 = .ok (.aload_n 0, 1) := by decide +kernel
theorem dX10_seenAt_14 : decode cX10_seenAt 14 = .ok (.getfield 18, 3) := by decide +kernel
theorem dX10_seenAt_17 : decode cX10_seenAt 17 = .ok (.iload_n 1, 1) := by decide +kernel
theorem dX10_seenAt_18 : decode cX10_seenAt 18 = .ok (.invokevirtual 29, 3) := by decide +kernel
theorem dX10_seenAt_21 : decode cX10_seenAt 21 = .ok (.ireturn, 1) := by decide +kernel
theorem dX10_read_0 : decode cX10_read 0 = .ok (.aload_n 1, 1) := by decide +kernel
theorem dX10_read_1 : decode cX10_read 1 = .ok (.invokevirtual 33, 3) := by decide +kernel
theorem dX10_read_4 : decode cX10_read 4 = .ok (.iconst 0, 1) := by decide +kernel
theorem dX10_read_5 : decode cX10_read 5 = .ok (.istore_n 2, 1) := by decide +kernel
theorem dX10_read_6 : decode cX10_read 6 = .ok (.iload_n 2, 1) := by decide +kernel
theorem dX10_read_7 : decode cX10_read 7 = .ok (.bipush 9, 2) := by decide +kernel
theorem dX10_read_9 : decode cX10_read 9 = .ok (.if_icmp .ge 16, 3) := by decide +kernel
theorem dX10_read_12 : decode cX10_read 12 = .ok (.aload_n 0, 1) := by decide +kernel
theorem dX10_read_13 : decode cX10_read 13 = .ok (.getfield 15, 3) := by decide +kernel
theorem dX10_read_16 : decode cX10_read 16 = .ok (.iload_n 2, 1) := by decide +kernel
theorem dX10_read_17 : decode cX10_read 17 = .ok (.iconst (-1), 1) := by decide +kernel
theorem dX10_read_18 : decode cX10_read 18 = .ok (.iastore, 1) := by decide +kernel
theorem dX10_read_19 : decode cX10_read 19 = .ok (.iinc 2 1, 3) := by decide +kernel
theorem dX10_read_22 : decode cX10_read 22 = .ok (.goto (-16), 3) := by decide +kernel
theorem dX10_read_25 : decode cX10_read 25 = .ok (.iconst 0, 1) := by decide +kernel
theorem dX10_read_26 : decode cX10_read 26 = .ok (.istore_n 2, 1) := by decide +kernel
theorem dX10_read_27 : decode cX10_read 27 = .ok (.iload_n 2, 1) := by decide +kernel
theorem dX10_read_28 : decode cX10_read 28 = .ok (.bipush 9, 2) := by decide +kernel
theorem dX10_read_30 : decode cX10_read 30 = .ok (.if_icmp .ge 48, 3) := by decide +kernel
theorem dX10_read_33 : decode cX10_read 33 = .ok (.aload_n 1, 1) := by decide +kernel
theorem dX10_read_34 : decode cX10_read 34 = .ok (.invokevirtual 38, 3) := by decide +kernel
theorem dX10_read_37 : decode cX10_read 37 = .ok (.invokestatic 42, 3) := by decide +kernel
theorem dX10_read_40 : decode cX10_read 40 = .ok (.ifCond .eq 38, 3) := by decide +kernel
theorem dX10_read_43 : decode cX10_read 43 = .ok (.aload_n 1, 1) := by decide +kernel
theorem dX10_read_44 : decode cX10_read 44 = .ok (.invokevirtual 38, 3) := by decide +kernel
theorem dX10_read_47 : decode cX10_read 47 = .ok (.bipush 48, 2) := by decide +kernel
theorem dX10_read_49 : decode cX10_read 49 = .ok (.isub, 1) := by decide +kernel
theorem dX10_read_50 : decode cX10_read 50 = .ok (.istore_n 3, 1) := by decide +kernel
theorem dX10_read_51 : decode cX10_read 51 = .ok (.aload_n 0, 1) := by decide +kernel
theorem dX10_read_52 : decode cX10_read 52 = .ok (.getfield 15, 3) := by decide +kernel
theorem dX10_read_55 : decode cX10_read 55 = .ok (.iload_n 2, 1) := by decide +kernel
theorem dX10_read_56 : decode cX10_read 56 = .ok (.iload_n 3, 1) := by decide +kernel
theorem dX10_read_57 : decode cX10_read 57 = .ok (.bipush 9, 2) := by decide +kernel
theorem dX10_read_59 : decode cX10_read 59 = .ok (.if_icmp .ne 7, 3) := by decide +kernel
theorem dX10_read_62 : decode cX10_read 62 = .ok (.iconst (-1), 1) := by decide +kernel
theorem dX10_read_63 : decode cX10_read 63 = .ok (.goto 4, 3) := by decide +kernel
theorem dX10_read_66 : decode cX10_read 66 = .ok (.iload_n 3, 1) := by decide +kernel
theorem dX10_read_67 : decode cX10_read 67 = .ok (.iastore, 1) := by decide +kernel
theorem dX10_read_68 : decode cX10_read 68 = .ok (.iinc 2 1, 3) := by decide +kernel
theorem dX10_read_71 : decode cX10_read 71 = .ok (.aload_n 1, 1) := by decide +kernel
theorem dX10_read_72 : decode cX10_read 72 = .ok (.invokevirtual 45, 3) := by decide +kernel
theorem dX10_read_75 : decode cX10_read 75 = .ok (.goto (-48), 3) := by decide +kernel
theorem dX10_read_78 : decode cX10_read 78 = .ok (.iload_n 2, 1) := by decide +kernel
theorem dX10_read_79 : decode cX10_read 79 = .ok (.ifCond .eq 11, 3) := by decide +kernel
theorem dX10_read_82 : decode cX10_read 82 = .ok (.aload_n 1, 1) := by decide +kernel
theorem dX10_read_83 : decode cX10_read 83 = .ok (.invokevirtual 38, 3) := by decide +kernel
theorem dX10_read_86 : decode cX10_read 86 = .ok (.iconst (-1), 1) := by decide +kernel
theorem dX10_read_87 : decode cX10_read 87 = .ok (.if_icmp .eq 8, 3) := by decide +kernel
theorem dX10_read_90 : decode cX10_read 90 = .ok (.aload_n 1, 1) := by decide +kernel
theorem dX10_read_91 : decode cX10_read 91 = .ok (.invokevirtual 48, 3) := by decide +kernel
theorem dX10_read_94 : decode cX10_read 94 = .ok (.pop, 1) := by decide +kernel
theorem dX10_read_95 : decode cX10_read 95 = .ok (.aload_n 1, 1) := by decide +kernel
theorem dX10_read_96 : decode cX10_read 96 = .ok (.invokevirtual 52, 3) := by decide +kernel
theorem dX10_read_99 : decode cX10_read 99 = .ok (.ireturn, 1) := by decide +kernel
theorem dX10_add_0 : decode cX10_add 0 = .ok (.aload_n 0, 1) := by decide +kernel
theorem dX10_add_1 : decode cX10_add 1 = .ok (.getfield 22, 3) := by decide +kernel
theorem dX10_add_4 : decode cX10_add 4 = .ok (.iconst 4, 1) := by decide +kernel
theorem dX10_add_5 : decode cX10_add 5 = .ok (.if_icmp .ge 12, 3) := by decide +kernel
theorem dX10_add_8 : decode cX10_add 8 = .ok (.aload_n 0, 1) := by decide +kernel
theorem dX10_add_9 : decode cX10_add 9 = .ok (.aload_n 1, 1) := by decide +kernel
theorem dX10_add_10 : decode cX10_add 10 = .ok (.invokevirtual 55, 3) := by decide +kernel
theorem dX10_add_13 : decode cX10_add 13 = .ok (.iconst (-1), 1) := by decide +kernel
theorem dX10_add_14 : decode cX10_add 14 = .ok (.if_icmp .eq 5, 3) := by decide +kernel
theorem dX10_add_17 : decode cX10_add 17 = .ok (.iconst (-1), 1) := by decide +kernel
theorem dX10_add_18 : decode cX10_add 18 = .ok (.ireturn, 1) := by decide +kernel
theorem dX10_add_19 : decode cX10_add 19 = .ok (.aload_n 0, 1) := by decide +kernel
theorem dX10_add_20 : decode cX10_add 20 = .ok (.getfield 15, 3) := by decide +kernel
theorem dX10_add_23 : decode cX10_add 23 = .ok (.iconst 0, 1) := by decide +kernel
theorem dX10_add_24 : decode cX10_add 24 = .ok (.aload_n 0, 1) := by decide +kernel
theorem dX10_add_25 : decode cX10_add 25 = .ok (.getfield 9, 3) := by decide +kernel
theorem dX10_add_28 : decode cX10_add 28 = .ok (.aload_n 0, 1) := by decide +kernel
theorem dX10_add_29 : decode cX10_add 29 = .ok (.getfield 22, 3) := by decide +kernel
theorem dX10_add_32 : decode cX10_add 32 = .ok (.bipush 9, 2) := by decide +kernel
theorem dX10_add_34 : decode cX10_add 34 = .ok (.imul, 1) := by decide +kernel
theorem dX10_add_35 : decode cX10_add 35 = .ok (.bipush 9, 2) := by decide +kernel
theorem dX10_add_37 : decode cX10_add 37 = .ok (.invokestatic 59, 3) := by decide +kernel
theorem dX10_add_40 : decode cX10_add 40 = .ok (.aload_n 0, 1) := by decide +kernel
theorem dX10_add_41 : decode cX10_add 41 = .ok (.dup, 1) := by decide +kernel
theorem dX10_add_42 : decode cX10_add 42 = .ok (.getfield 22, 3) := by decide +kernel
theorem dX10_add_45 : decode cX10_add 45 = .ok (.iconst 1, 1) := by decide +kernel
theorem dX10_add_46 : decode cX10_add 46 = .ok (.iadd, 1) := by decide +kernel
theorem dX10_add_47 : decode cX10_add 47 = .ok (.putfield 22, 3) := by decide +kernel
theorem dX10_add_50 : decode cX10_add 50 = .ok (.aload_n 0, 1) := by decide +kernel
theorem dX10_add_51 : decode cX10_add 51 = .ok (.getfield 22, 3) := by decide +kernel
theorem dX10_add_54 : decode cX10_add 54 = .ok (.iconst 1, 1) := by decide +kernel
theorem dX10_add_55 : decode cX10_add 55 = .ok (.isub, 1) := by decide +kernel
theorem dX10_add_56 : decode cX10_add 56 = .ok (.ireturn, 1) := by decide +kernel
theorem dX11_init_0 : decode cX11_init 0 = .ok (.aload_n 0, 1) := by decide +kernel
theorem dX11_init_1 : decode cX11_init 1 = .ok (.invokespecial 1, 3) := by decide +kernel
theorem dX11_init_4 : decode cX11_init 4 = .ok (.aload_n 0, 1) := by decide +kernel
theorem dX11_init_5 : decode cX11_init 5 = .ok (.new 7, 3) := by decide +kernel
theorem dX11_init_8 : decode cX11_init 8 = .ok (.dup, 1) := by decide +kernel
theorem dX11_init_9 : decode cX11_init 9 = .ok (.invokespecial 9, 3) := by decide +kernel
theorem dX11_init_12 : decode cX11_init 12 = .ok (.putfield 10, 3) := by decide +kernel
theorem dX11_init_15 : decode cX11_init 15 = .ok (.aload_n 0, 1) := by decide +kernel
theorem dX11_init_16 : decode cX11_init 16 = .ok (.new 16, 3) := by decide +kernel
theorem dX11_init_19 : decode cX11_init 19 = .ok (.dup, 1) := by decide +kernel
theorem dX11_init_20 : decode cX11_init 20 = .ok (.invokespecial 18, 3) := by decide +kernel
theorem dX11_init_23 : decode cX11_init 23 = .ok (.putfield 19, 3) := by decide +kernel
theorem dX11_init_26 : decode cX11_init 26 = .ok (.aload_n 0, 1) := by decide +kernel
theorem dX11_init_27 : decode cX11_init 27 = .ok (.new 16, 3) := by decide +kernel
theorem dX11_init_30 : decode cX11_init 30 = .ok (.dup, 1) := by decide +kernel
theorem dX11_init_31 : decode cX11_init 31 = .ok (.invokespecial 18, 3) := by decide +kernel
theorem dX11_init_34 : decode cX11_init 34 = .ok (.putfield 23, 3) := by decide +kernel
theorem dX11_init_37 : decode cX11_init 37 = .ok (.aload_n 0, 1) := by decide +kernel
theorem dX11_init_38 : decode cX11_init 38 = .ok (.new 26, 3) := by decide +kernel
theorem dX11_init_41 : decode cX11_init 41 = .ok (.dup, 1) := by decide +kernel
theorem dX11_init_42 : decode cX11_init 42 = .ok (.invokespecial 28, 3) := by decide +kernel
theorem dX11_init_45 : decode cX11_init 45 = .ok (.putfield 29, 3) := by decide +kernel
theorem dX11_init_48 : decode cX11_init 48 = .ok (.aload_n 0, 1) := by decide +kernel
theorem dX11_init_49 : decode cX11_init 49 = .ok (.new 26, 3) := by decide +kernel
theorem dX11_init_52 : decode cX11_init 52 = .ok (.dup, 1) := by decide +kernel
theorem dX11_init_53 : decode cX11_init 53 = .ok (.invokespecial 28, 3) := by decide +kernel
theorem dX11_init_56 : decode cX11_init 56 = .ok (.putfield 33, 3) := by decide +kernel
theorem dX11_init_59 : decode cX11_init 59 = .ok (.aload_n 0, 1) := by decide +kernel
theorem dX11_init_60 : decode cX11_init 60 = .ok (.new 36, 3) := by decide +kernel
theorem dX11_init_63 : decode cX11_init 63 = .ok (.dup, 1) := by decide +kernel
theorem dX11_init_64 : decode cX11_init 64 = .ok (.invokespecial 38, 3) := by decide +kernel
theorem dX11_init_67 : decode cX11_init 67 = .ok (.putfield 39, 3) := by decide +kernel
theorem dX11_init_70 : decode cX11_init 70 = .ok (.aload_n 0, 1) := by decide +kernel
theorem dX11_init_71 : decode cX11_init 71 = .ok (.new 43, 3) := by decide +kernel
theorem dX11_init_74 : decode cX11_init 74 = .ok (.dup, 1) := by decide +kernel
theorem dX11_init_75 : decode cX11_init 75 = .ok (.invokespecial 45, 3) := by decide +kernel
theorem dX11_init_78 : decode cX11_init 78 = .ok (.putfield 46, 3) := by decide +kernel
theorem dX11_init_81 : decode cX11_init 81 = .ok (.aload_n 0, 1) := by decide +kernel
theorem dX11_init_82 : decode cX11_init 82 = .ok (.new 50, 3) := by decide +kernel
theorem dX11_init_85 : decode cX11_init 85 = .ok (.dup, 1) := by decide +kernel
theorem dX11_init_86 : decode cX11_init 86 = .ok (.invokespecial 52, 3) := by decide +kernel
theorem dX11_init_89 : decode cX11_init 89 = .ok (.putfield 53, 3) := by decide +kernel
theorem dX11_init_92 : decode cX11_init 92 = .ok (.aload_n 0, 1) := by decide +kernel
theorem dX11_init_93 : decode cX11_init 93 = .ok (.new 57, 3) := by decide +kernel
theorem dX11_init_96 : decode cX11_init 96 = .ok (.dup, 1) := by decide +kernel
theorem dX11_init_97 : decode cX11_init 97 = .ok (.aload_n 0, 1) := by decide +kernel
theorem dX11_init_98 : decode cX11_init 98 = .ok (.getfield 10, 3) := by decide +kernel
theorem dX11_init_101 : decode cX11_init 101 = .ok (.aload_n 0, 1) := by decide +kernel
theorem dX11_init_102 : decode cX11_init 102 = .ok (.getfield 53, 3) := by decide +kernel
theorem dX11_init_105 : decode cX11_init 105 = .ok (.invokespecial 59, 3) := by decide +kernel
theorem dX11_init_108 : decode cX11_init 108 = .ok (.putfield 62, 3) := by decide +kernel
theorem dX11_init_111 : decode cX11_init 111 = .ok (.aload_n 0, 1) := by decide +kernel
theorem dX11_init_112 : decode cX11_init 112 = .ok (.new 66, 3) := by decide +kernel
theorem dX11_init_115 : decode cX11_init 115 = .ok (.dup, 1) := by decide +kernel
theorem dX11_init_116 : decode cX11_init 116 = .ok (.aload_n 0, 1) := by decide +kernel
theorem dX11_init_117 : decode cX11_init 117 = .ok (.getfield 19, 3) := by decide +kernel
theorem dX11_init_120 : decode cX11_init 120 = .ok (.aload_n 0, 1) := by decide +kernel
theorem dX11_init_121 : decode cX11_init 121 = .ok (.getfield 29, 3) := by decide +kernel
theorem dX11_init_124 : decode cX11_init 124 = .ok (.invokespecial 68, 3) := by decide +kernel
theorem dX11_init_127 : decode cX11_init 127 = .ok (.putfield 71, 3) := by decide +kernel
theorem dX11_init_130 : decode cX11_init 130 = .ok (.aload_n 0, 1) := by decide +kernel
theorem dX11_init_131 : decode cX11_init 131 = .ok (.new 75, 3) := by decide +kernel
theorem dX11_init_134 : decode cX11_init 134 = .ok (.dup, 1) := by decide +kernel
theorem dX11_init_135 : decode cX11_init 135 = .ok (.aload_n 0, 1) := by decide +kernel
theorem dX11_init_136 : decode cX11_init 136 = .ok (.getfield 19, 3) := by decide +kernel
theorem dX11_init_139 : decode cX11_init 139 = .ok (.aload_n 0, 1) := by decide +kernel
theorem dX11_init_140 : decode cX11_init 140 = .ok (.getfield 29, 3) := by decide +kernel
theorem dX11_init_143 : decode cX11_init 143 = .ok (.aload_n 0, 1) := by decide +kernel
theorem dX11_init_144 : decode cX11_init 144 = .ok (.getfield 71, 3) := by decide +kernel
theorem dX11_init_147 : decode cX11_init 147 = .ok (.aload_n 0, 1) := by decide +kernel
theorem dX11_init_148 : decode cX11_init 148 = .ok (.getfield 46, 3) := by decide +kernel
theorem dX11_init_151 : decode cX11_init 151 = .ok (.invokespecial 77, 3) := by decide +kernel
theorem dX11_init_154 : decode cX11_init 154 = .ok (.putfield 80, 3) := by decide +kernel
theorem dX11_init_157 : decode cX11_init 157 = .ok (.aload_n 0, 1) := by decide +kernel
theorem dX11_init_158 : decode cX11_init 158 = .ok (.new 84, 3) := by decide +kernel
theorem dX11_init_161 : decode cX11_init 161 = .ok (.dup, 1) := by decide +kernel
theorem dX11_init_162 : decode cX11_init 162 = .ok (.aload_n 0, 1) := by decide +kernel
theorem dX11_init_163 : decode cX11_init 163 = .ok (.getfield 19, 3) := by decide +kernel
theorem dX11_init_166 : decode cX11_init 166 = .ok (.aload_n 0, 1) := by decide +kernel
theorem dX11_init_167 : decode cX11_init 167 = .ok (.getfield 71, 3) := by decide +kernel
theorem dX11_init_170 : decode cX11_init 170 = .ok (.invokespecial 86, 3) := by decide +kernel
theorem dX11_init_173 : decode cX11_init 173 = .ok (.putfield 89, 3) := by decide +kernel
theorem dX11_init_176 : decode cX11_init 176 = .ok (.aload_n 0, 1) := by decide +kernel
theorem dX11_init_177 : decode cX11_init 177 = .ok (.new 93, 3) := by decide +kernel
theorem dX11_init_180 : decode cX11_init 180 = .ok (.dup, 1) := by decide +kernel
theorem dX11_init_181 : decode cX11_init 181 = .ok (.aload_n 0, 1) := by decide +kernel
theorem dX11_init_182 : decode cX11_init 182 = .ok (.getfield 19, 3) := by decide +kernel
theorem dX11_init_185 : decode cX11_init 185 = .ok (.aload_n 0, 1) := by decide +kernel
theorem dX11_init_186 : decode cX11_init 186 = .ok (.getfield 29, 3) := by decide +kernel
theorem dX11_init_189 : decode cX11_init 189 = .ok (.aload_n 0, 1) := by decide +kernel
theorem dX11_init_190 : decode cX11_init 190 = .ok (.getfield 71, 3) := by decide +kernel
theorem dX11_init_193 : decode cX11_init 193 = .ok (.invokespecial 95, 3) := by decide +kernel
theorem dX11_init_196 : decode cX11_init 196 = .ok (.putfield 98, 3) := by decide +kernel
theorem dX11_init_199 : decode cX11_init 199 = .ok (.aload_n 0, 1) := by decide +kernel
theorem dX11_init_200 : decode cX11_init 200 = .ok (.bipush 10, 2) := by decide +kernel
theorem dX11_init_202 : decode cX11_init 202 = .ok (.newarray .int, 2) := by decide +kernel
theorem dX11_init_204 : decode cX11_init 204 = .ok (.putfield 102, 3) := by decide +kernel
theorem dX11_init_207 : decode cX11_init 207 = .ok (.aload_n 0, 1) := by decide +kernel
theorem dX11_init_208 : decode cX11_init 208 = .ok (.iconst 0, 1) := by decide +kernel
theorem dX11_init_209 : decode cX11_init 209 = .ok (.putfield 106, 3) := by decide +kernel
theorem dX11_init_212 : decode cX11_init 212 = .ok (.aload_n 0, 1) := by decide +kernel
theorem dX11_init_213 : decode cX11_init 213 = .ok (.iconst 0, 1) := by decide +kernel
theorem dX11_init_214 : decode cX11_init 214 = .ok (.putfield 110, 3) := by decide +kernel
theorem dX11_init_217 : decode cX11_init 217 = .ok (.return_, 1) := by decide +kernel
theorem dX11_feed_0 : decode cX11_feed 0 = .ok (.iload_n 1, 1) := by decide +kernel
theorem dX11_feed_1 : decode cX11_feed 1 = .ok (.invokestatic 114, 3) := by decide +kernel
theorem dX11_feed_4 : decode cX11_feed 4 = .ok (.iload_n 2, 1) := by decide +kernel
theorem dX11_feed_5 : decode cX11_feed 5 = .ok (.invokestatic 114, 3) := by decide +kernel
theorem dX11_feed_8 : decode cX11_feed 8 = .ok (.iadd, 1) := by decide +kernel
theorem dX11_feed_9 : decode cX11_feed 9 = .ok (.iload_n 3, 1) := by decide +kernel
theorem dX11_feed_10 : decode cX11_feed 10 = .ok (.invokestatic 114, 3) := by decide +kernel
theorem dX11_feed_13 : decode cX11_feed 13 = .ok (.iadd, 1) := by decide +kernel
theorem dX11_feed_14 : decode cX11_feed 14 = .ok (.iload 4, 2) := by decide +kernel
theorem dX11_feed_16 : decode cX11_feed 16 = .ok (.invokestatic 114, 3) := by decide +kernel
theorem dX11_feed_19 : decode cX11_feed 19 = .ok (.iadd, 1) := by decide +kernel
theorem dX11_feed_20 : decode cX11_feed 20 = .ok (.iload 5, 2) := by decide +kernel
theorem dX11_feed_22 : decode cX11_feed 22 = .ok (.invokestatic 114, 3) := by decide +kernel
theorem dX11_feed_25 : decode cX11_feed 25 = .ok (.iadd, 1) := by decide +kernel
theorem dX11_feed_26 : decode cX11_feed 26 = .ok (.istore 6, 2) := by decide +kernel
theorem dX11_feed_28 : decode cX11_feed 28 = .ok (.aload_n 0, 1) := by decide +kernel
theorem dX11_feed_29 : decode cX11_feed 29 = .ok (.getfield 10, 3) := by decide +kernel
theorem dX11_feed_32 : decode cX11_feed 32 = .ok (.invokevirtual 118, 3) := by decide +kernel
theorem dX11_feed_35 : decode cX11_feed 35 = .ok (.iload 6, 2) := by decide +kernel
theorem dX11_feed_37 : decode cX11_feed 37 = .ok (.iadd, 1) := by decide +kernel
theorem dX11_feed_38 : decode cX11_feed 38 = .ok (.sipush 240, 3) := by decide +kernel
theorem dX11_feed_41 : decode cX11_feed 41 = .ok (.if_icmp .le 5, 3) := by decide +kernel
theorem dX11_feed_44 : decode cX11_feed 44 = .ok (.iconst (-1), 1) := by decide +kernel
theorem dX11_feed_45 : decode cX11_feed 45 = .ok (.ireturn, 1) := by decide +kernel
theorem dX11_feed_46 : decode cX11_feed 46 = .ok (.aload_n 0, 1) := by decide +kernel
theorem dX11_feed_47 : decode cX11_feed 47 = .ok (.getfield 10, 3) := by decide +kernel
theorem dX11_feed_50 : decode cX11_feed 50 = .ok (.iload_n 1, 1) := by decide +kernel
theorem dX11_feed_51 : decode cX11_feed 51 = .ok (.invokevirtual 122, 3) := by decide +kernel
theorem dX11_feed_54 : decode cX11_feed 54 = .ok (.aload_n 0, 1) := by decide +kernel
theorem dX11_feed_55 : decode cX11_feed 55 = .ok (.getfield 10, 3) := by decide +kernel
theorem dX11_feed_58 : decode cX11_feed 58 = .ok (.iload_n 2, 1) := by decide +kernel
theorem dX11_feed_59 : decode cX11_feed 59 = .ok (.invokevirtual 122, 3) := by decide +kernel
theorem dX11_feed_62 : decode cX11_feed 62 = .ok (.aload_n 0, 1) := by decide +kernel
theorem dX11_feed_63 : decode cX11_feed 63 = .ok (.getfield 10, 3) := by decide +kernel
theorem dX11_feed_66 : decode cX11_feed 66 = .ok (.iload_n 3, 1) := by decide +kernel
theorem dX11_feed_67 : decode cX11_feed 67 = .ok (.invokevirtual 122, 3) := by decide +kernel
theorem dX11_feed_70 : decode cX11_feed 70 = .ok (.aload_n 0, 1) := by decide +kernel
theorem dX11_feed_71 : decode cX11_feed 71 = .ok (.getfield 10, 3) := by decide +kernel
theorem dX11_feed_74 : decode cX11_feed 74 = .ok (.iload 4, 2) := by decide +kernel
theorem dX11_feed_76 : decode cX11_feed 76 = .ok (.invokevirtual 122, 3) := by decide +kernel
theorem dX11_feed_79 : decode cX11_feed 79 = .ok (.aload_n 0, 1) := by decide +kernel
theorem dX11_feed_80 : decode cX11_feed 80 = .ok (.getfield 10, 3) := by decide +kernel
theorem dX11_feed_83 : decode cX11_feed 83 = .ok (.iload 5, 2) := by decide +kernel
theorem dX11_feed_85 : decode cX11_feed 85 = .ok (.invokevirtual 122, 3) := by decide +kernel
theorem dX11_feed_88 : decode cX11_feed 88 = .ok (.aload_n 0, 1) := by decide +kernel
theorem dX11_feed_89 : decode cX11_feed 89 = .ok (.getfield 10, 3) := by decide +kernel
theorem dX11_feed_92 : decode cX11_feed 92 = .ok (.invokevirtual 118, 3) := by decide +kernel
theorem dX11_feed_95 : decode cX11_feed 95 = .ok (.ireturn, 1) := by decide +kernel
theorem dX11_end_0 : decode cX11_end 0 = .ok (.aload_n 0, 1) := by decide +kernel
theorem dX11_end_1 : decode cX11_end 1 = .ok (.getfield 10, 3) := by decide +kernel
theorem dX11_end_4 : decode cX11_end 4 = .ok (.iload_n 1, 1) := by decide +kernel
theorem dX11_end_5 : decode cX11_end 5 = .ok (.invokevirtual 126, 3) := by decide +kernel
theorem dX11_end_8 : decode cX11_end 8 = .ok (.ireturn, 1) := by decide +kernel
theorem dX11_fault_0 : decode cX11_fault 0 = .ok (.iload_n 1, 1) := by decide +kernel
theorem dX11_fault_1 : decode cX11_fault 1 = .ok (.tableswitch 63 0 2 #[27, 39, 51], 27) := by decide +kernel
theorem dX11_fault_28 : decode cX11_fault 28 = .ok (.aload_n 0, 1) := by decide +kernel
theorem dX11_fault_29 : decode cX11_fault 29 = .ok (.getfield 23, 3) := by decide +kernel
theorem dX11_fault_32 : decode cX11_fault 32 = .ok (.aload_n 0, 1) := by decide +kernel
theorem dX11_fault_33 : decode cX11_fault 33 = .ok (.getfield 10, 3) := by decide +kernel
theorem dX11_fault_36 : decode cX11_fault 36 = .ok (.invokevirtual 130, 3) := by decide +kernel
theorem dX11_fault_39 : decode cX11_fault 39 = .ok (.ireturn, 1) := by decide +kernel
theorem dX11_fault_40 : decode cX11_fault 40 = .ok (.aload_n 0, 1) := by decide +kernel
theorem dX11_fault_41 : decode cX11_fault 41 = .ok (.getfield 62, 3) := by decide +kernel
theorem dX11_fault_44 : decode cX11_fault 44 = .ok (.aload_n 0, 1) := by decide +kernel
theorem dX11_fault_45 : decode cX11_fault 45 = .ok (.getfield 53, 3) := by decide +kernel
theorem dX11_fault_48 : decode cX11_fault 48 = .ok (.invokevirtual 134, 3) := by decide +kernel
theorem dX11_fault_51 : decode cX11_fault 51 = .ok (.ireturn, 1) := by decide +kernel
theorem dX11_fault_52 : decode cX11_fault 52 = .ok (.aload_n 0, 1) := by decide +kernel
theorem dX11_fault_53 : decode cX11_fault 53 = .ok (.getfield 46, 3) := by decide +kernel
theorem dX11_fault_56 : decode cX11_fault 56 = .ok (.aload_n 0, 1) := by decide +kernel
theorem dX11_fault_57 : decode cX11_fault 57 = .ok (.getfield 10, 3) := by decide +kernel
theorem dX11_fault_60 : decode cX11_fault 60 = .ok (.invokevirtual 137, 3) := by decide +kernel
theorem dX11_fault_63 : decode cX11_fault 63 = .ok (.ireturn, 1) := by decide +kernel
theorem dX11_fault_64 : decode cX11_fault 64 = .ok (.bipush (-2), 2) := by decide +kernel
theorem dX11_fault_66 : decode cX11_fault 66 = .ok (.ireturn, 1) := by decide +kernel
theorem dX11_text_0 : decode cX11_text 0 = .ok (.iconst (-1), 1) := by decide +kernel
theorem dX11_text_1 : decode cX11_text 1 = .ok (.istore_n 2, 1) := by decide +kernel
theorem dX11_text_2 : decode cX11_text 2 = .ok (.iload_n 1, 1) := by decide +kernel
theorem dX11_text_3 : decode cX11_text 3 = .ok (.ifCond .ne 11, 3) := by decide +kernel
theorem dX11_text_6 : decode cX11_text 6 = .ok (.aload_n 0, 1) := by decide +kernel
theorem dX11_text_7 : decode cX11_text 7 = .ok (.invokevirtual 138, 3) := by decide +kernel
theorem dX11_text_10 : decode cX11_text 10 = .ok (.istore_n 2, 1) := by decide +kernel
theorem dX11_text_11 : decode cX11_text 11 = .ok (.goto 33, 3) := by decide +kernel
theorem dX11_text_14 : decode cX11_text 14 = .ok (.iload_n 1, 1) := by decide +kernel
theorem dX11_text_15 : decode cX11_text 15 = .ok (.iconst 1, 1) := by decide +kernel
theorem dX11_text_16 : decode cX11_text 16 = .ok (.if_icmp .ne 11, 3) := by decide +kernel
theorem dX11_text_19 : decode cX11_text 19 = .ok (.aload_n 0, 1) := by decide +kernel
theorem dX11_text_20 : decode cX11_text 20 = .ok (.invokevirtual 141, 3) := by decide +kernel
theorem dX11_text_23 : decode cX11_text 23 = .ok (.istore_n 2, 1) := by decide +kernel
theorem dX11_text_24 : decode cX11_text 24 = .ok (.goto 20, 3) := by decide +kernel
theorem dX11_text_27 : decode cX11_text 27 = .ok (.iload_n 1, 1) := by decide +kernel
theorem dX11_text_28 : decode cX11_text 28 = .ok (.iconst 2, 1) := by decide +kernel
theorem dX11_text_29 : decode cX11_text 29 = .ok (.if_icmp .ne 15, 3) := by decide +kernel
theorem dX11_text_32 : decode cX11_text 32 = .ok (.aload_n 0, 1) := by decide +kernel
theorem dX11_text_33 : decode cX11_text 33 = .ok (.getfield 46, 3) := by decide +kernel
theorem dX11_text_36 : decode cX11_text 36 = .ok (.aload_n 0, 1) := by decide +kernel
theorem dX11_text_37 : decode cX11_text 37 = .ok (.getfield 10, 3) := by decide +kernel
theorem dX11_text_40 : decode cX11_text 40 = .ok (.invokevirtual 144, 3) := by decide +kernel
theorem dX11_text_43 : decode cX11_text 43 = .ok (.istore_n 2, 1) := by decide +kernel
theorem dX11_text_44 : decode cX11_text 44 = .ok (.iload_n 2, 1) := by decide +kernel
theorem dX11_text_45 : decode cX11_text 45 = .ok (.iconst (-1), 1) := by decide +kernel
theorem dX11_text_46 : decode cX11_text 46 = .ok (.if_icmp .eq 12, 3) := by decide +kernel
theorem dX11_text_49 : decode cX11_text 49 = .ok (.aload_n 0, 1) := by decide +kernel
theorem dX11_text_50 : decode cX11_text 50 = .ok (.getfield 10, 3) := by decide +kernel
theorem dX11_text_53 : decode cX11_text 53 = .ok (.iconst 0, 1) := by decide +kernel
theorem dX11_text_54 : decode cX11_text 54 = .ok (.invokevirtual 126, 3) := by decide +kernel
theorem dX11_text_57 : decode cX11_text 57 = .ok (.pop, 1) := by decide +kernel
theorem dX11_text_58 : decode cX11_text 58 = .ok (.iload_n 2, 1) := by decide +kernel
theorem dX11_text_59 : decode cX11_text 59 = .ok (.ireturn, 1) := by decide +kernel
theorem dX11_settle_0 : decode cX11_settle 0 = .ok (.aload_n 0, 1) := by decide +kernel
theorem dX11_settle_1 : decode cX11_settle 1 = .ok (.getfield 23, 3) := by decide +kernel
theorem dX11_settle_4 : decode cX11_settle 4 = .ok (.aload_n 0, 1) := by decide +kernel
theorem dX11_settle_5 : decode cX11_settle 5 = .ok (.getfield 10, 3) := by decide +kernel
theorem dX11_settle_8 : decode cX11_settle 8 = .ok (.invokevirtual 130, 3) := by decide +kernel
theorem dX11_settle_11 : decode cX11_settle 11 = .ok (.iconst (-1), 1) := by decide +kernel
theorem dX11_settle_12 : decode cX11_settle 12 = .ok (.if_icmp .eq 5, 3) := by decide +kernel
theorem dX11_settle_15 : decode cX11_settle 15 = .ok (.iconst (-1), 1) := by decide +kernel
theorem dX11_settle_16 : decode cX11_settle 16 = .ok (.ireturn, 1) := by decide +kernel
theorem dX11_settle_17 : decode cX11_settle 17 = .ok (.aload_n 0, 1) := by decide +kernel
theorem dX11_settle_18 : decode cX11_settle 18 = .ok (.getfield 19, 3) := by decide +kernel
theorem dX11_settle_21 : decode cX11_settle 21 = .ok (.aload_n 0, 1) := by decide +kernel
theorem dX11_settle_22 : decode cX11_settle 22 = .ok (.getfield 23, 3) := by decide +kernel
theorem dX11_settle_25 : decode cX11_settle 25 = .ok (.invokevirtual 147, 3) := by decide +kernel
theorem dX11_settle_28 : decode cX11_settle 28 = .ok (.aload_n 0, 1) := by decide +kernel
theorem dX11_settle_29 : decode cX11_settle 29 = .ok (.getfield 29, 3) := by decide +kernel
theorem dX11_settle_32 : decode cX11_settle 32 = .ok (.aload_n 0, 1) := by decide +kernel
theorem dX11_settle_33 : decode cX11_settle 33 = .ok (.getfield 19, 3) := by decide +kernel
theorem dX11_settle_36 : decode cX11_settle 36 = .ok (.invokevirtual 151, 3) := by decide +kernel
theorem dX11_settle_39 : decode cX11_settle 39 = .ok (.aload_n 0, 1) := by decide +kernel
theorem dX11_settle_40 : decode cX11_settle 40 = .ok (.getfield 39, 3) := by decide +kernel
theorem dX11_settle_43 : decode cX11_settle 43 = .ok (.invokevirtual 154, 3) := by decide +kernel
theorem dX11_settle_46 : decode cX11_settle 46 = .ok (.aload_n 0, 1) := by decide +kernel
theorem dX11_settle_47 : decode cX11_settle 47 = .ok (.getfield 89, 3) := by decide +kernel
theorem dX11_settle_50 : decode cX11_settle 50 = .ok (.invokevirtual 157, 3) := by decide +kernel
theorem dX11_settle_53 : decode cX11_settle 53 = .ok (.aload_n 0, 1) := by decide +kernel
theorem dX11_settle_54 : decode cX11_settle 54 = .ok (.iconst 0, 1) := by decide +kernel
theorem dX11_settle_55 : decode cX11_settle 55 = .ok (.putfield 106, 3) := by decide +kernel
theorem dX11_settle_58 : decode cX11_settle 58 = .ok (.aload_n 0, 1) := by decide +kernel
theorem dX11_settle_59 : decode cX11_settle 59 = .ok (.getfield 19, 3) := by decide +kernel
theorem dX11_settle_62 : decode cX11_settle 62 = .ok (.invokevirtual 158, 3) := by decide +kernel
theorem dX11_settle_65 : decode cX11_settle 65 = .ok (.ireturn, 1) := by decide +kernel
theorem dX11_enact_0 : decode cX11_enact 0 = .ok (.aload_n 0, 1) := by decide +kernel
theorem dX11_enact_1 : decode cX11_enact 1 = .ok (.getfield 71, 3) := by decide +kernel
theorem dX11_enact_4 : decode cX11_enact 4 = .ok (.invokevirtual 161, 3) := by decide +kernel
theorem dX11_enact_7 : decode cX11_enact 7 = .ok (.ifCond .eq 21, 3) := by decide +kernel
theorem dX11_enact_10 : decode cX11_enact 10 = .ok (.aload_n 0, 1) := by decide +kernel
theorem dX11_enact_11 : decode cX11_enact 11 = .ok (.getfield 62, 3) := by decide +kernel
theorem dX11_enact_14 : decode cX11_enact 14 = .ok (.aload_n 0, 1) := by decide +kernel
theorem dX11_enact_15 : decode cX11_enact 15 = .ok (.getfield 71, 3) := by decide +kernel
theorem dX11_enact_18 : decode cX11_enact 18 = .ok (.invokevirtual 165, 3) := by decide +kernel
theorem dX11_enact_21 : decode cX11_enact 21 = .ok (.invokevirtual 134, 3) := by decide +kernel
theorem dX11_enact_24 : decode cX11_enact 24 = .ok (.iconst (-1), 1) := by decide +kernel
theorem dX11_enact_25 : decode cX11_enact 25 = .ok (.if_icmp .eq 5, 3) := by decide +kernel
theorem dX11_enact_28 : decode cX11_enact 28 = .ok (.iconst (-1), 1) := by decide +kernel
theorem dX11_enact_29 : decode cX11_enact 29 = .ok (.ireturn, 1) := by decide +kernel
theorem dX11_enact_30 : decode cX11_enact 30 = .ok (.aload_n 0, 1) := by decide +kernel
theorem dX11_enact_31 : decode cX11_enact 31 = .ok (.getfield 71, 3) := by decide +kernel
theorem dX11_enact_34 : decode cX11_enact 34 = .ok (.invokevirtual 169, 3) := by decide +kernel
theorem dX11_enact_37 : decode cX11_enact 37 = .ok (.ireturn, 1) := by decide +kernel
theorem dX11_rule_0 : decode cX11_rule 0 = .ok (.aload_n 0, 1) := by decide +kernel
theorem dX11_rule_1 : decode cX11_rule 1 = .ok (.invokevirtual 172, 3) := by decide +kernel
theorem dX11_rule_4 : decode cX11_rule 4 = .ok (.ifCond .eq 23, 3) := by decide +kernel
theorem dX11_rule_7 : decode cX11_rule 7 = .ok (.iload_n 1, 1) := by decide +kernel
theorem dX11_rule_8 : decode cX11_rule 8 = .ok (.ifCond .lt 19, 3) := by decide +kernel
theorem dX11_rule_11 : decode cX11_rule 11 = .ok (.iload_n 1, 1) := by decide +kernel
theorem dX11_rule_12 : decode cX11_rule 12 = .ok (.iconst 3, 1) := by decide +kernel
theorem dX11_rule_13 : decode cX11_rule 13 = .ok (.if_icmp .ge 14, 3) := by decide +kernel
theorem dX11_rule_16 : decode cX11_rule 16 = .ok (.aload_n 0, 1) := by decide +kernel
theorem dX11_rule_17 : decode cX11_rule 17 = .ok (.getfield 19, 3) := by decide +kernel
theorem dX11_rule_20 : decode cX11_rule 20 = .ok (.iload_n 1, 1) := by decide +kernel
theorem dX11_rule_21 : decode cX11_rule 21 = .ok (.invokevirtual 175, 3) := by decide +kernel
theorem dX11_rule_24 : decode cX11_rule 24 = .ok (.goto 4, 3) := by decide +kernel
theorem dX11_rule_27 : decode cX11_rule 27 = .ok (.iconst (-1), 1) := by decide +kernel
theorem dX11_rule_28 : decode cX11_rule 28 = .ok (.ireturn, 1) := by decide +kernel
theorem dX11_person_0 : decode cX11_person 0 = .ok (.aload_n 0, 1) := by decide +kernel
theorem dX11_person_1 : decode cX11_person 1 = .ok (.iload_n 1, 1) := by decide +kernel
theorem dX11_person_2 : decode cX11_person 2 = .ok (.invokevirtual 178, 3) := by decide +kernel
theorem dX11_person_5 : decode cX11_person 5 = .ok (.ifCond .ne 13, 3) := by decide +kernel
theorem dX11_person_8 : decode cX11_person 8 = .ok (.new 181, 3) := by decide +kernel
theorem dX11_person_11 : decode cX11_person 11 = .ok (.dup, 1) := by decide +kernel
theorem dX11_person_12 : decode cX11_person 12 = .ok (.ldc 183, 2) := by decide +kernel
theorem dX11_person_14 : decode cX11_person 14 = .ok (.invokespecial 185, 3) := by decide +kernel
theorem dX11_person_17 : decode cX11_person 17 = .ok (.athrow, 1) := by decide +kernel
theorem dX11_person_18 : decode cX11_person 18 = .ok (.iload_n 2, 1) := by decide +kernel
theorem dX11_person_19 : decode cX11_person 19 = .ok (.tableswitch 124 0 7 #[45, 55, 65, 75, 85, 94, 104, 114], 45) := by decide +kernel
theorem dX11_person_64 : decode cX11_person 64 = .ok (.aload_n 0, 1) := by decide +kernel
theorem dX11_person_65 : decode cX11_person 65 = .ok (.getfield 29, 3) := by decide +kernel
theorem dX11_person_68 : decode cX11_person 68 = .ok (.iload_n 1, 1) := by decide +kernel
theorem dX11_person_69 : decode cX11_person 69 = .ok (.iconst 0, 1) := by decide +kernel
theorem dX11_person_70 : decode cX11_person 70 = .ok (.invokevirtual 188, 3) := by decide +kernel
theorem dX11_person_73 : decode cX11_person 73 = .ok (.ireturn, 1) := by decide +kernel
theorem dX11_person_74 : decode cX11_person 74 = .ok (.aload_n 0, 1) := by decide +kernel
theorem dX11_person_75 : decode cX11_person 75 = .ok (.getfield 19, 3) := by decide +kernel
theorem dX11_person_78 : decode cX11_person 78 = .ok (.iload_n 1, 1) := by decide +kernel
theorem dX11_person_79 : decode cX11_person 79 = .ok (.iconst 1, 1) := by decide +kernel
theorem dX11_person_80 : decode cX11_person 80 = .ok (.invokevirtual 192, 3) := by decide +kernel
theorem dX11_person_83 : decode cX11_person 83 = .ok (.ireturn, 1) := by decide +kernel
theorem dX11_person_84 : decode cX11_person 84 = .ok (.aload_n 0, 1) := by decide +kernel
theorem dX11_person_85 : decode cX11_person 85 = .ok (.getfield 29, 3) := by decide +kernel
theorem dX11_person_88 : decode cX11_person 88 = .ok (.iload_n 1, 1) := by decide +kernel
theorem dX11_person_89 : decode cX11_person 89 = .ok (.iconst 1, 1) := by decide +kernel
theorem dX11_person_90 : decode cX11_person 90 = .ok (.invokevirtual 188, 3) := by decide +kernel
theorem dX11_person_93 : decode cX11_person 93 = .ok (.ireturn, 1) := by decide +kernel
theorem dX11_person_94 : decode cX11_person 94 = .ok (.aload_n 0, 1) := by decide +kernel
theorem dX11_person_95 : decode cX11_person 95 = .ok (.getfield 29, 3) := by decide +kernel
theorem dX11_person_98 : decode cX11_person 98 = .ok (.iload_n 1, 1) := by decide +kernel
theorem dX11_person_99 : decode cX11_person 99 = .ok (.iconst 2, 1) := by decide +kernel
theorem dX11_person_100 : decode cX11_person 100 = .ok (.invokevirtual 188, 3) := by decide +kernel
theorem dX11_person_103 : decode cX11_person 103 = .ok (.ireturn, 1) := by decide +kernel
theorem dX11_person_104 : decode cX11_person 104 = .ok (.aload_n 0, 1) := by decide +kernel
theorem dX11_person_105 : decode cX11_person 105 = .ok (.getfield 19, 3) := by decide +kernel
theorem dX11_person_108 : decode cX11_person 108 = .ok (.iload_n 1, 1) := by decide +kernel
theorem dX11_person_109 : decode cX11_person 109 = .ok (.invokevirtual 194, 3) := by decide +kernel
theorem dX11_person_112 : decode cX11_person 112 = .ok (.ireturn, 1) := by decide +kernel
theorem dX11_person_113 : decode cX11_person 113 = .ok (.aload_n 0, 1) := by decide +kernel
theorem dX11_person_114 : decode cX11_person 114 = .ok (.getfield 29, 3) := by decide +kernel
theorem dX11_person_117 : decode cX11_person 117 = .ok (.iload_n 1, 1) := by decide +kernel
theorem dX11_person_118 : decode cX11_person 118 = .ok (.iconst 3, 1) := by decide +kernel
theorem dX11_person_119 : decode cX11_person 119 = .ok (.invokevirtual 188, 3) := by decide +kernel
theorem dX11_person_122 : decode cX11_person 122 = .ok (.ireturn, 1) := by decide +kernel
theorem dX11_person_123 : decode cX11_person 123 = .ok (.aload_n 0, 1) := by decide +kernel
theorem dX11_person_124 : decode cX11_person 124 = .ok (.getfield 29, 3) := by decide +kernel
theorem dX11_person_127 : decode cX11_person 127 = .ok (.iload_n 1, 1) := by decide +kernel
theorem dX11_person_128 : decode cX11_person 128 = .ok (.iconst 4, 1) := by decide +kernel
theorem dX11_person_129 : decode cX11_person 129 = .ok (.invokevirtual 188, 3) := by decide +kernel
theorem dX11_person_132 : decode cX11_person 132 = .ok (.ireturn, 1) := by decide +kernel
theorem dX11_person_133 : decode cX11_person 133 = .ok (.aload_n 0, 1) := by decide +kernel
theorem dX11_person_134 : decode cX11_person 134 = .ok (.getfield 29, 3) := by decide +kernel
theorem dX11_person_137 : decode cX11_person 137 = .ok (.iload_n 1, 1) := by decide +kernel
theorem dX11_person_138 : decode cX11_person 138 = .ok (.iconst 5, 1) := by decide +kernel
theorem dX11_person_139 : decode cX11_person 139 = .ok (.invokevirtual 188, 3) := by decide +kernel
theorem dX11_person_142 : decode cX11_person 142 = .ok (.ireturn, 1) := by decide +kernel
theorem dX11_person_143 : decode cX11_person 143 = .ok (.new 181, 3) := by decide +kernel
theorem dX11_person_146 : decode cX11_person 146 = .ok (.dup, 1) := by decide +kernel
theorem dX11_person_147 : decode cX11_person 147 = .ok (.ldc 197, 2) := by decide +kernel
theorem dX11_person_149 : decode cX11_person 149 = .ok (.invokespecial 185, 3) := by decide +kernel
theorem dX11_person_152 : decode cX11_person 152 = .ok (.athrow, 1) := by decide +kernel
theorem dX11_law_0 : decode cX11_law 0 = .ok (.aload_n 0, 1) := by decide +kernel
theorem dX11_law_1 : decode cX11_law 1 = .ok (.getfield 71, 3) := by decide +kernel
theorem dX11_law_4 : decode cX11_law 4 = .ok (.iload_n 1, 1) := by decide +kernel
theorem dX11_law_5 : decode cX11_law 5 = .ok (.invokevirtual 199, 3) := by decide +kernel
theorem dX11_law_8 : decode cX11_law 8 = .ok (.ireturn, 1) := by decide +kernel
theorem dX11_watch_0 : decode cX11_watch 0 = .ok (.aload_n 0, 1) := by decide +kernel
theorem dX11_watch_1 : decode cX11_watch 1 = .ok (.getfield 46, 3) := by decide +kernel
theorem dX11_watch_4 : decode cX11_watch 4 = .ok (.iload_n 1, 1) := by decide +kernel
theorem dX11_watch_5 : decode cX11_watch 5 = .ok (.invokevirtual 202, 3) := by decide +kernel
theorem dX11_watch_8 : decode cX11_watch 8 = .ok (.ireturn, 1) := by decide +kernel
theorem dX11_watched_0 : decode cX11_watched 0 = .ok (.aload_n 0, 1) := by decide +kernel
theorem dX11_watched_1 : decode cX11_watched 1 = .ok (.getfield 46, 3) := by decide +kernel
theorem dX11_watched_4 : decode cX11_watched 4 = .ok (.iload_n 1, 1) := by decide +kernel
theorem dX11_watched_5 : decode cX11_watched 5 = .ok (.invokevirtual 203, 3) := by decide +kernel
theorem dX11_watched_8 : decode cX11_watched 8 = .ok (.ifCond .eq 13, 3) := by decide +kernel
theorem dX11_watched_11 : decode cX11_watched 11 = .ok (.iload_n 2, 1) := by decide +kernel
theorem dX11_watched_12 : decode cX11_watched 12 = .ok (.ifCond .lt 9, 3) := by decide +kernel
theorem dX11_watched_15 : decode cX11_watched 15 = .ok (.iload_n 2, 1) := by decide +kernel
theorem dX11_watched_16 : decode cX11_watched 16 = .ok (.bipush 9, 2) := by decide +kernel
theorem dX11_watched_18 : decode cX11_watched 18 = .ok (.if_icmp .lt 6, 3) := by decide +kernel
theorem dX11_watched_21 : decode cX11_watched 21 = .ok (.ldc 206, 2) := by decide +kernel
theorem dX11_watched_23 : decode cX11_watched 23 = .ok (.ireturn, 1) := by decide +kernel
theorem dX11_watched_24 : decode cX11_watched 24 = .ok (.aload_n 0, 1) := by decide +kernel
theorem dX11_watched_25 : decode cX11_watched 25 = .ok (.getfield 46, 3) := by decide +kernel
theorem dX11_watched_28 : decode cX11_watched 28 = .ok (.iload_n 1, 1) := by decide +kernel
theorem dX11_watched_29 : decode cX11_watched 29 = .ok (.iload_n 2, 1) := by decide +kernel
theorem dX11_watched_30 : decode cX11_watched 30 = .ok (.invokevirtual 207, 3) := by decide +kernel
theorem dX11_watched_33 : decode cX11_watched 33 = .ok (.ireturn, 1) := by decide +kernel
theorem dX11_crimes_0 : decode cX11_crimes 0 = .ok (.iload_n 1, 1) := by decide +kernel
theorem dX11_crimes_1 : decode cX11_crimes 1 = .ok (.ifCond .lt 17, 3) := by decide +kernel
theorem dX11_crimes_4 : decode cX11_crimes 4 = .ok (.iload_n 1, 1) := by decide +kernel
theorem dX11_crimes_5 : decode cX11_crimes 5 = .ok (.bipush 9, 2) := by decide +kernel
theorem dX11_crimes_7 : decode cX11_crimes 7 = .ok (.if_icmp .gt 11, 3) := by decide +kernel
theorem dX11_crimes_10 : decode cX11_crimes 10 = .ok (.iload_n 1, 1) := by decide +kernel
theorem dX11_crimes_11 : decode cX11_crimes 11 = .ok (.aload_n 0, 1) := by decide +kernel
theorem dX11_crimes_12 : decode cX11_crimes 12 = .ok (.getfield 110, 3) := by decide +kernel
theorem dX11_crimes_15 : decode cX11_crimes 15 = .ok (.if_icmp .ne 5, 3) := by decide +kernel
theorem dX11_crimes_18 : decode cX11_crimes 18 = .ok (.iconst 0, 1) := by decide +kernel
theorem dX11_crimes_19 : decode cX11_crimes 19 = .ok (.ireturn, 1) := by decide +kernel
theorem dX11_crimes_20 : decode cX11_crimes 20 = .ok (.aload_n 0, 1) := by decide +kernel
theorem dX11_crimes_21 : decode cX11_crimes 21 = .ok (.iload_n 1, 1) := by decide +kernel
theorem dX11_crimes_22 : decode cX11_crimes 22 = .ok (.putfield 110, 3) := by decide +kernel
theorem dX11_crimes_25 : decode cX11_crimes 25 = .ok (.iconst 1, 1) := by decide +kernel
theorem dX11_crimes_26 : decode cX11_crimes 26 = .ok (.ireturn, 1) := by decide +kernel
theorem dX11_wakes_0 : decode cX11_wakes 0 = .ok (.aload_n 0, 1) := by decide +kernel
theorem dX11_wakes_1 : decode cX11_wakes 1 = .ok (.iload_n 1, 1) := by decide +kernel
theorem dX11_wakes_2 : decode cX11_wakes 2 = .ok (.invokevirtual 178, 3) := by decide +kernel
theorem dX11_wakes_5 : decode cX11_wakes 5 = .ok (.ifCond .eq 23, 3) := by decide +kernel
theorem dX11_wakes_8 : decode cX11_wakes 8 = .ok (.aload_n 0, 1) := by decide +kernel
theorem dX11_wakes_9 : decode cX11_wakes 9 = .ok (.iload_n 2, 1) := by decide +kernel
theorem dX11_wakes_10 : decode cX11_wakes 10 = .ok (.invokevirtual 210, 3) := by decide +kernel
theorem dX11_wakes_13 : decode cX11_wakes 13 = .ok (.ifCond .eq 15, 3) := by decide +kernel
theorem dX11_wakes_16 : decode cX11_wakes 16 = .ok (.aload_n 0, 1) := by decide +kernel
theorem dX11_wakes_17 : decode cX11_wakes 17 = .ok (.getfield 71, 3) := by decide +kernel
theorem dX11_wakes_20 : decode cX11_wakes 20 = .ok (.iload_n 1, 1) := by decide +kernel
theorem dX11_wakes_21 : decode cX11_wakes 21 = .ok (.iload_n 2, 1) := by decide +kernel
theorem dX11_wakes_22 : decode cX11_wakes 22 = .ok (.invokevirtual 213, 3) := by decide +kernel
theorem dX11_wakes_25 : decode cX11_wakes 25 = .ok (.goto 4, 3) := by decide +kernel
theorem dX11_wakes_28 : decode cX11_wakes 28 = .ok (.iconst (-1), 1) := by decide +kernel
theorem dX11_wakes_29 : decode cX11_wakes 29 = .ok (.ireturn, 1) := by decide +kernel
theorem dX11_deed_0 : decode cX11_deed 0 = .ok (.aload_n 0, 1) := by decide +kernel
theorem dX11_deed_1 : decode cX11_deed 1 = .ok (.iload_n 1, 1) := by decide +kernel
theorem dX11_deed_2 : decode cX11_deed 2 = .ok (.invokevirtual 178, 3) := by decide +kernel
theorem dX11_deed_5 : decode cX11_deed 5 = .ok (.ifCond .eq 19, 3) := by decide +kernel
theorem dX11_deed_8 : decode cX11_deed 8 = .ok (.iload_n 2, 1) := by decide +kernel
theorem dX11_deed_9 : decode cX11_deed 9 = .ok (.bipush (-9), 2) := by decide +kernel
theorem dX11_deed_11 : decode cX11_deed 11 = .ok (.if_icmp .lt 13, 3) := by decide +kernel
theorem dX11_deed_14 : decode cX11_deed 14 = .ok (.iload_n 2, 1) := by decide +kernel
theorem dX11_deed_15 : decode cX11_deed 15 = .ok (.bipush 9, 2) := by decide +kernel
theorem dX11_deed_17 : decode cX11_deed 17 = .ok (.if_icmp .gt 7, 3) := by decide +kernel
theorem dX11_deed_20 : decode cX11_deed 20 = .ok (.iload_n 2, 1) := by decide +kernel
theorem dX11_deed_21 : decode cX11_deed 21 = .ok (.ifCond .ne 5, 3) := by decide +kernel
theorem dX11_deed_24 : decode cX11_deed 24 = .ok (.iconst (-1), 1) := by decide +kernel
theorem dX11_deed_25 : decode cX11_deed 25 = .ok (.ireturn, 1) := by decide +kernel
theorem dX11_deed_26 : decode cX11_deed 26 = .ok (.aload_n 0, 1) := by decide +kernel
theorem dX11_deed_27 : decode cX11_deed 27 = .ok (.getfield 29, 3) := by decide +kernel
theorem dX11_deed_30 : decode cX11_deed 30 = .ok (.iload_n 1, 1) := by decide +kernel
theorem dX11_deed_31 : decode cX11_deed 31 = .ok (.iconst 0, 1) := by decide +kernel
theorem dX11_deed_32 : decode cX11_deed 32 = .ok (.invokevirtual 188, 3) := by decide +kernel
theorem dX11_deed_35 : decode cX11_deed 35 = .ok (.iload_n 2, 1) := by decide +kernel
theorem dX11_deed_36 : decode cX11_deed 36 = .ok (.iadd, 1) := by decide +kernel
theorem dX11_deed_37 : decode cX11_deed 37 = .ok (.istore_n 3, 1) := by decide +kernel
theorem dX11_deed_38 : decode cX11_deed 38 = .ok (.iload_n 3, 1) := by decide +kernel
theorem dX11_deed_39 : decode cX11_deed 39 = .ok (.ifCond .lt 9, 3) := by decide +kernel
theorem dX11_deed_42 : decode cX11_deed 42 = .ok (.iload_n 3, 1) := by decide +kernel
theorem dX11_deed_43 : decode cX11_deed 43 = .ok (.bipush 9, 2) := by decide +kernel
theorem dX11_deed_45 : decode cX11_deed 45 = .ok (.if_icmp .le 5, 3) := by decide +kernel
theorem dX11_deed_48 : decode cX11_deed 48 = .ok (.iconst (-1), 1) := by decide +kernel
theorem dX11_deed_49 : decode cX11_deed 49 = .ok (.ireturn, 1) := by decide +kernel
theorem dX11_deed_50 : decode cX11_deed 50 = .ok (.aload_n 0, 1) := by decide +kernel
theorem dX11_deed_51 : decode cX11_deed 51 = .ok (.getfield 39, 3) := by decide +kernel
theorem dX11_deed_54 : decode cX11_deed 54 = .ok (.aload_n 0, 1) := by decide +kernel
theorem dX11_deed_55 : decode cX11_deed 55 = .ok (.getfield 29, 3) := by decide +kernel
theorem dX11_deed_58 : decode cX11_deed 58 = .ok (.invokevirtual 216, 3) := by decide +kernel
theorem dX11_deed_61 : decode cX11_deed 61 = .ok (.aload_n 0, 1) := by decide +kernel
theorem dX11_deed_62 : decode cX11_deed 62 = .ok (.getfield 29, 3) := by decide +kernel
theorem dX11_deed_65 : decode cX11_deed 65 = .ok (.iload_n 1, 1) := by decide +kernel
theorem dX11_deed_66 : decode cX11_deed 66 = .ok (.iconst 0, 1) := by decide +kernel
theorem dX11_deed_67 : decode cX11_deed 67 = .ok (.iload_n 3, 1) := by decide +kernel
theorem dX11_deed_68 : decode cX11_deed 68 = .ok (.invokevirtual 219, 3) := by decide +kernel
theorem dX11_deed_71 : decode cX11_deed 71 = .ok (.iload_n 3, 1) := by decide +kernel
theorem dX11_deed_72 : decode cX11_deed 72 = .ok (.ireturn, 1) := by decide +kernel
theorem dX11_coffee_0 : decode cX11_coffee 0 = .ok (.aload_n 0, 1) := by decide +kernel
theorem dX11_coffee_1 : decode cX11_coffee 1 = .ok (.iload_n 1, 1) := by decide +kernel
theorem dX11_coffee_2 : decode cX11_coffee 2 = .ok (.iconst 3, 1) := by decide +kernel
theorem dX11_coffee_3 : decode cX11_coffee 3 = .ok (.invokevirtual 223, 3) := by decide +kernel
theorem dX11_coffee_6 : decode cX11_coffee 6 = .ok (.ireturn, 1) := by decide +kernel
theorem dX11_forge_0 : decode cX11_forge 0 = .ok (.aload_n 0, 1) := by decide +kernel
theorem dX11_forge_1 : decode cX11_forge 1 = .ok (.iload_n 1, 1) := by decide +kernel
theorem dX11_forge_2 : decode cX11_forge 2 = .ok (.iconst 4, 1) := by decide +kernel
theorem dX11_forge_3 : decode cX11_forge 3 = .ok (.invokevirtual 223, 3) := by decide +kernel
theorem dX11_forge_6 : decode cX11_forge 6 = .ok (.ireturn, 1) := by decide +kernel
theorem dX11_onceAhead_0 : decode cX11_onceAhead 0 = .ok (.aload_n 0, 1) := by decide +kernel
theorem dX11_onceAhead_1 : decode cX11_onceAhead 1 = .ok (.iload_n 1, 1) := by decide +kernel
theorem dX11_onceAhead_2 : decode cX11_onceAhead 2 = .ok (.invokevirtual 178, 3) := by decide +kernel
theorem dX11_onceAhead_5 : decode cX11_onceAhead 5 = .ok (.ifCond .eq 15, 3) := by decide +kernel
theorem dX11_onceAhead_8 : decode cX11_onceAhead 8 = .ok (.aload_n 0, 1) := by decide +kernel
theorem dX11_onceAhead_9 : decode cX11_onceAhead 9 = .ok (.getfield 29, 3) := by decide +kernel
theorem dX11_onceAhead_12 : decode cX11_onceAhead 12 = .ok (.iload_n 1, 1) := by decide +kernel
theorem dX11_onceAhead_13 : decode cX11_onceAhead 13 = .ok (.iload_n 2, 1) := by decide +kernel
theorem dX11_onceAhead_14 : decode cX11_onceAhead 14 = .ok (.invokevirtual 188, 3) := by decide +kernel
theorem dX11_onceAhead_17 : decode cX11_onceAhead 17 = .ok (.ifCond .eq 5, 3) := by decide +kernel
theorem dX11_onceAhead_20 : decode cX11_onceAhead 20 = .ok (.iconst 0, 1) := by decide +kernel
theorem dX11_onceAhead_21 : decode cX11_onceAhead 21 = .ok (.ireturn, 1) := by decide +kernel
theorem dX11_onceAhead_22 : decode cX11_onceAhead 22 = .ok (.aload_n 0, 1) := by decide +kernel
theorem dX11_onceAhead_23 : decode cX11_onceAhead 23 = .ok (.getfield 39, 3) := by decide +kernel
theorem dX11_onceAhead_26 : decode cX11_onceAhead 26 = .ok (.aload_n 0, 1) := by decide +kernel
theorem dX11_onceAhead_27 : decode cX11_onceAhead 27 = .ok (.getfield 29, 3) := by decide +kernel
theorem dX11_onceAhead_30 : decode cX11_onceAhead 30 = .ok (.invokevirtual 216, 3) := by decide +kernel
theorem dX11_onceAhead_33 : decode cX11_onceAhead 33 = .ok (.aload_n 0, 1) := by decide +kernel
theorem dX11_onceAhead_34 : decode cX11_onceAhead 34 = .ok (.getfield 29, 3) := by decide +kernel
theorem dX11_onceAhead_37 : decode cX11_onceAhead 37 = .ok (.iload_n 1, 1) := by decide +kernel
theorem dX11_onceAhead_38 : decode cX11_onceAhead 38 = .ok (.iload_n 2, 1) := by decide +kernel
theorem dX11_onceAhead_39 : decode cX11_onceAhead 39 = .ok (.iconst 1, 1) := by decide +kernel
theorem dX11_onceAhead_40 : decode cX11_onceAhead 40 = .ok (.invokevirtual 219, 3) := by decide +kernel
theorem dX11_onceAhead_43 : decode cX11_onceAhead 43 = .ok (.iconst 1, 1) := by decide +kernel
theorem dX11_onceAhead_44 : decode cX11_onceAhead 44 = .ok (.ireturn, 1) := by decide +kernel
theorem dX11_worry_0 : decode cX11_worry 0 = .ok (.aload_n 0, 1) := by decide +kernel
theorem dX11_worry_1 : decode cX11_worry 1 = .ok (.iload_n 1, 1) := by decide +kernel
theorem dX11_worry_2 : decode cX11_worry 2 = .ok (.invokevirtual 178, 3) := by decide +kernel
theorem dX11_worry_5 : decode cX11_worry 5 = .ok (.ifCond .eq 13, 3) := by decide +kernel
theorem dX11_worry_8 : decode cX11_worry 8 = .ok (.iload_n 2, 1) := by decide +kernel
theorem dX11_worry_9 : decode cX11_worry 9 = .ok (.ifCond .lt 9, 3) := by decide +kernel
theorem dX11_worry_12 : decode cX11_worry 12 = .ok (.iload_n 2, 1) := by decide +kernel
theorem dX11_worry_13 : decode cX11_worry 13 = .ok (.bipush 9, 2) := by decide +kernel
theorem dX11_worry_15 : decode cX11_worry 15 = .ok (.if_icmp .le 5, 3) := by decide +kernel
theorem dX11_worry_18 : decode cX11_worry 18 = .ok (.iconst (-1), 1) := by decide +kernel
theorem dX11_worry_19 : decode cX11_worry 19 = .ok (.ireturn, 1) := by decide +kernel
theorem dX11_worry_20 : decode cX11_worry 20 = .ok (.aload_n 0, 1) := by decide +kernel
theorem dX11_worry_21 : decode cX11_worry 21 = .ok (.getfield 29, 3) := by decide +kernel
theorem dX11_worry_24 : decode cX11_worry 24 = .ok (.iload_n 1, 1) := by decide +kernel
theorem dX11_worry_25 : decode cX11_worry 25 = .ok (.iconst 1, 1) := by decide +kernel
theorem dX11_worry_26 : decode cX11_worry 26 = .ok (.invokevirtual 188, 3) := by decide +kernel
theorem dX11_worry_29 : decode cX11_worry 29 = .ok (.istore_n 3, 1) := by decide +kernel
theorem dX11_worry_30 : decode cX11_worry 30 = .ok (.iload_n 3, 1) := by decide +kernel
theorem dX11_worry_31 : decode cX11_worry 31 = .ok (.iload_n 2, 1) := by decide +kernel
theorem dX11_worry_32 : decode cX11_worry 32 = .ok (.if_icmp .ne 5, 3) := by decide +kernel
theorem dX11_worry_35 : decode cX11_worry 35 = .ok (.iconst (-1), 1) := by decide +kernel
theorem dX11_worry_36 : decode cX11_worry 36 = .ok (.ireturn, 1) := by decide +kernel
theorem dX11_worry_37 : decode cX11_worry 37 = .ok (.aload_n 0, 1) := by decide +kernel
theorem dX11_worry_38 : decode cX11_worry 38 = .ok (.getfield 39, 3) := by decide +kernel
theorem dX11_worry_41 : decode cX11_worry 41 = .ok (.aload_n 0, 1) := by decide +kernel
theorem dX11_worry_42 : decode cX11_worry 42 = .ok (.getfield 29, 3) := by decide +kernel
theorem dX11_worry_45 : decode cX11_worry 45 = .ok (.invokevirtual 216, 3) := by decide +kernel
theorem dX11_worry_48 : decode cX11_worry 48 = .ok (.aload_n 0, 1) := by decide +kernel
theorem dX11_worry_49 : decode cX11_worry 49 = .ok (.getfield 29, 3) := by decide +kernel
theorem dX11_worry_52 : decode cX11_worry 52 = .ok (.iload_n 1, 1) := by decide +kernel
theorem dX11_worry_53 : decode cX11_worry 53 = .ok (.iconst 1, 1) := by decide +kernel
theorem dX11_worry_54 : decode cX11_worry 54 = .ok (.iload_n 2, 1) := by decide +kernel
theorem dX11_worry_55 : decode cX11_worry 55 = .ok (.invokevirtual 219, 3) := by decide +kernel
theorem dX11_worry_58 : decode cX11_worry 58 = .ok (.iload_n 3, 1) := by decide +kernel
theorem dX11_worry_59 : decode cX11_worry 59 = .ok (.ireturn, 1) := by decide +kernel
theorem dX11_night_0 : decode cX11_night 0 = .ok (.aload_n 0, 1) := by decide +kernel
theorem dX11_night_1 : decode cX11_night 1 = .ok (.invokevirtual 172, 3) := by decide +kernel
theorem dX11_night_4 : decode cX11_night 4 = .ok (.ifCond .eq 16, 3) := by decide +kernel
theorem dX11_night_7 : decode cX11_night 7 = .ok (.aload_n 0, 1) := by decide +kernel
theorem dX11_night_8 : decode cX11_night 8 = .ok (.getfield 29, 3) := by decide +kernel
theorem dX11_night_11 : decode cX11_night 11 = .ok (.invokevirtual 227, 3) := by decide +kernel
theorem dX11_night_14 : decode cX11_night 14 = .ok (.sipush 999, 3) := by decide +kernel
theorem dX11_night_17 : decode cX11_night 17 = .ok (.if_icmp .lt 5, 3) := by decide +kernel
theorem dX11_night_20 : decode cX11_night 20 = .ok (.iconst (-1), 1) := by decide +kernel
theorem dX11_night_21 : decode cX11_night 21 = .ok (.ireturn, 1) := by decide +kernel
theorem dX11_night_22 : decode cX11_night 22 = .ok (.aload_n 0, 1) := by decide +kernel
theorem dX11_night_23 : decode cX11_night 23 = .ok (.getfield 39, 3) := by decide +kernel
theorem dX11_night_26 : decode cX11_night 26 = .ok (.aload_n 0, 1) := by decide +kernel
theorem dX11_night_27 : decode cX11_night 27 = .ok (.getfield 29, 3) := by decide +kernel
theorem dX11_night_30 : decode cX11_night 30 = .ok (.invokevirtual 216, 3) := by decide +kernel
theorem dX11_night_33 : decode cX11_night 33 = .ok (.aload_n 0, 1) := by decide +kernel
theorem dX11_night_34 : decode cX11_night 34 = .ok (.getfield 80, 3) := by decide +kernel
theorem dX11_night_37 : decode cX11_night 37 = .ok (.lload_n 1, 1) := by decide +kernel
theorem dX11_night_38 : decode cX11_night 38 = .ok (.invokevirtual 230, 3) := by decide +kernel
theorem dX11_night_41 : decode cX11_night 41 = .ok (.aload_n 0, 1) := by decide +kernel
theorem dX11_night_42 : decode cX11_night 42 = .ok (.getfield 80, 3) := by decide +kernel
theorem dX11_night_45 : decode cX11_night 45 = .ok (.invokevirtual 234, 3) := by decide +kernel
theorem dX11_night_48 : decode cX11_night 48 = .ok (.aload_n 0, 1) := by decide +kernel
theorem dX11_night_49 : decode cX11_night 49 = .ok (.getfield 29, 3) := by decide +kernel
theorem dX11_night_52 : decode cX11_night 52 = .ok (.invokevirtual 227, 3) := by decide +kernel
theorem dX11_night_55 : decode cX11_night 55 = .ok (.ireturn, 1) := by decide +kernel
theorem dX11_judge_0 : decode cX11_judge 0 = .ok (.aload_n 0, 1) := by decide +kernel
theorem dX11_judge_1 : decode cX11_judge 1 = .ok (.iload_n 1, 1) := by decide +kernel
theorem dX11_judge_2 : decode cX11_judge 2 = .ok (.invokevirtual 178, 3) := by decide +kernel
theorem dX11_judge_5 : decode cX11_judge 5 = .ok (.ifCond .eq 26, 3) := by decide +kernel
theorem dX11_judge_8 : decode cX11_judge 8 = .ok (.aload_n 0, 1) := by decide +kernel
theorem dX11_judge_9 : decode cX11_judge 9 = .ok (.getfield 29, 3) := by decide +kernel
theorem dX11_judge_12 : decode cX11_judge 12 = .ok (.iload_n 1, 1) := by decide +kernel
theorem dX11_judge_13 : decode cX11_judge 13 = .ok (.iconst 5, 1) := by decide +kernel
theorem dX11_judge_14 : decode cX11_judge 14 = .ok (.invokevirtual 188, 3) := by decide +kernel
theorem dX11_judge_17 : decode cX11_judge 17 = .ok (.ifCond .ne 14, 3) := by decide +kernel
theorem dX11_judge_20 : decode cX11_judge 20 = .ok (.aload_n 0, 1) := by decide +kernel
theorem dX11_judge_21 : decode cX11_judge 21 = .ok (.getfield 29, 3) := by decide +kernel
theorem dX11_judge_24 : decode cX11_judge 24 = .ok (.iload_n 1, 1) := by decide +kernel
theorem dX11_judge_25 : decode cX11_judge 25 = .ok (.invokevirtual 237, 3) := by decide +kernel
theorem dX11_judge_28 : decode cX11_judge 28 = .ok (.ifCond .ne 5, 3) := by decide +kernel
theorem dX11_judge_31 : decode cX11_judge 31 = .ok (.iconst (-1), 1) := by decide +kernel
theorem dX11_judge_32 : decode cX11_judge 32 = .ok (.ireturn, 1) := by decide +kernel
theorem dX11_judge_33 : decode cX11_judge 33 = .ok (.aload_n 0, 1) := by decide +kernel
theorem dX11_judge_34 : decode cX11_judge 34 = .ok (.getfield 39, 3) := by decide +kernel
theorem dX11_judge_37 : decode cX11_judge 37 = .ok (.aload_n 0, 1) := by decide +kernel
theorem dX11_judge_38 : decode cX11_judge 38 = .ok (.getfield 29, 3) := by decide +kernel
theorem dX11_judge_41 : decode cX11_judge 41 = .ok (.invokevirtual 216, 3) := by decide +kernel
theorem dX11_judge_44 : decode cX11_judge 44 = .ok (.aload_n 0, 1) := by decide +kernel
theorem dX11_judge_45 : decode cX11_judge 45 = .ok (.getfield 71, 3) := by decide +kernel
theorem dX11_judge_48 : decode cX11_judge 48 = .ok (.iload_n 1, 1) := by decide +kernel
theorem dX11_judge_49 : decode cX11_judge 49 = .ok (.aload_n 0, 1) := by decide +kernel
theorem dX11_judge_50 : decode cX11_judge 50 = .ok (.getfield 71, 3) := by decide +kernel
theorem dX11_judge_53 : decode cX11_judge 53 = .ok (.invokevirtual 240, 3) := by decide +kernel
theorem dX11_judge_56 : decode cX11_judge 56 = .ok (.invokevirtual 243, 3) := by decide +kernel
theorem dX11_judge_59 : decode cX11_judge 59 = .ok (.istore_n 2, 1) := by decide +kernel
theorem dX11_judge_60 : decode cX11_judge 60 = .ok (.iload_n 2, 1) := by decide +kernel
theorem dX11_judge_61 : decode cX11_judge 61 = .ok (.aload_n 0, 1) := by decide +kernel
theorem dX11_judge_62 : decode cX11_judge 62 = .ok (.getfield 19, 3) := by decide +kernel
theorem dX11_judge_65 : decode cX11_judge 65 = .ok (.iconst 1, 1) := by decide +kernel
theorem dX11_judge_66 : decode cX11_judge 66 = .ok (.invokevirtual 175, 3) := by decide +kernel
theorem dX11_judge_69 : decode cX11_judge 69 = .ok (.if_icmp .lt 7, 3) := by decide +kernel
theorem dX11_judge_72 : decode cX11_judge 72 = .ok (.iconst 1, 1) := by decide +kernel
theorem dX11_judge_73 : decode cX11_judge 73 = .ok (.goto 4, 3) := by decide +kernel
theorem dX11_judge_76 : decode cX11_judge 76 = .ok (.iconst 0, 1) := by decide +kernel
theorem dX11_judge_77 : decode cX11_judge 77 = .ok (.istore_n 3, 1) := by decide +kernel
theorem dX11_judge_78 : decode cX11_judge 78 = .ok (.aload_n 0, 1) := by decide +kernel
theorem dX11_judge_79 : decode cX11_judge 79 = .ok (.getfield 29, 3) := by decide +kernel
theorem dX11_judge_82 : decode cX11_judge 82 = .ok (.iload_n 1, 1) := by decide +kernel
theorem dX11_judge_83 : decode cX11_judge 83 = .ok (.iconst 0, 1) := by decide +kernel
theorem dX11_judge_84 : decode cX11_judge 84 = .ok (.invokevirtual 188, 3) := by decide +kernel
theorem dX11_judge_87 : decode cX11_judge 87 = .ok (.ifCond .le 7, 3) := by decide +kernel
theorem dX11_judge_90 : decode cX11_judge 90 = .ok (.iconst 1, 1) := by decide +kernel
theorem dX11_judge_91 : decode cX11_judge 91 = .ok (.goto 4, 3) := by decide +kernel
theorem dX11_judge_94 : decode cX11_judge 94 = .ok (.iconst 0, 1) := by decide +kernel
theorem dX11_judge_95 : decode cX11_judge 95 = .ok (.istore 4, 2) := by decide +kernel
theorem dX11_judge_97 : decode cX11_judge 97 = .ok (.aload_n 0, 1) := by decide +kernel
theorem dX11_judge_98 : decode cX11_judge 98 = .ok (.getfield 29, 3) := by decide +kernel
theorem dX11_judge_101 : decode cX11_judge 101 = .ok (.iload_n 1, 1) := by decide +kernel
theorem dX11_judge_102 : decode cX11_judge 102 = .ok (.iload_n 3, 1) := by decide +kernel
theorem dX11_judge_103 : decode cX11_judge 103 = .ok (.iload 4, 2) := by decide +kernel
theorem dX11_judge_105 : decode cX11_judge 105 = .ok (.iload_n 3, 1) := by decide +kernel
theorem dX11_judge_106 : decode cX11_judge 106 = .ok (.if_icmp .ne 7, 3) := by decide +kernel
theorem dX11_judge_109 : decode cX11_judge 109 = .ok (.iconst 1, 1) := by decide +kernel
theorem dX11_judge_110 : decode cX11_judge 110 = .ok (.goto 4, 3) := by decide +kernel
theorem dX11_judge_113 : decode cX11_judge 113 = .ok (.iconst 0, 1) := by decide +kernel
theorem dX11_judge_114 : decode cX11_judge 114 = .ok (.invokevirtual 246, 3) := by decide +kernel
theorem dX11_judge_117 : decode cX11_judge 117 = .ok (.aload_n 0, 1) := by decide +kernel
theorem dX11_judge_118 : decode cX11_judge 118 = .ok (.getfield 29, 3) := by decide +kernel
theorem dX11_judge_121 : decode cX11_judge 121 = .ok (.iload_n 1, 1) := by decide +kernel
theorem dX11_judge_122 : decode cX11_judge 122 = .ok (.iload_n 3, 1) := by decide +kernel
theorem dX11_judge_123 : decode cX11_judge 123 = .ok (.iload_n 2, 1) := by decide +kernel
theorem dX11_judge_124 : decode cX11_judge 124 = .ok (.invokevirtual 250, 3) := by decide +kernel
theorem dX11_judge_127 : decode cX11_judge 127 = .ok (.aload_n 0, 1) := by decide +kernel
theorem dX11_judge_128 : decode cX11_judge 128 = .ok (.getfield 29, 3) := by decide +kernel
theorem dX11_judge_131 : decode cX11_judge 131 = .ok (.iload_n 1, 1) := by decide +kernel
theorem dX11_judge_132 : decode cX11_judge 132 = .ok (.invokevirtual 254, 3) := by decide +kernel
theorem dX11_judge_135 : decode cX11_judge 135 = .ok (.iload_n 3, 1) := by decide +kernel
theorem dX11_judge_136 : decode cX11_judge 136 = .ok (.ifCond .eq 7, 3) := by decide +kernel
theorem dX11_judge_139 : decode cX11_judge 139 = .ok (.iconst 1, 1) := by decide +kernel
theorem dX11_judge_140 : decode cX11_judge 140 = .ok (.goto 4, 3) := by decide +kernel
theorem dX11_judge_143 : decode cX11_judge 143 = .ok (.iconst 0, 1) := by decide +kernel
theorem dX11_judge_144 : decode cX11_judge 144 = .ok (.ireturn, 1) := by decide +kernel
theorem dX11_years_0 : decode cX11_years 0 = .ok (.aload_n 0, 1) := by decide +kernel
theorem dX11_years_1 : decode cX11_years 1 = .ok (.invokevirtual 172, 3) := by decide +kernel
theorem dX11_years_4 : decode cX11_years 4 = .ok (.ifCond .eq 29, 3) := by decide +kernel
theorem dX11_years_7 : decode cX11_years 7 = .ok (.iload_n 1, 1) := by decide +kernel
theorem dX11_years_8 : decode cX11_years 8 = .ok (.iconst 1, 1) := by decide +kernel
theorem dX11_years_9 : decode cX11_years 9 = .ok (.if_icmp .lt 24, 3) := by decide +kernel
theorem dX11_years_12 : decode cX11_years 12 = .ok (.iload_n 1, 1) := by decide +kernel
theorem dX11_years_13 : decode cX11_years 13 = .ok (.bipush 30, 2) := by decide +kernel
theorem dX11_years_15 : decode cX11_years 15 = .ok (.if_icmp .gt 18, 3) := by decide +kernel
theorem dX11_years_18 : decode cX11_years 18 = .ok (.aload_n 0, 1) := by decide +kernel
theorem dX11_years_19 : decode cX11_years 19 = .ok (.getfield 29, 3) := by decide +kernel
theorem dX11_years_22 : decode cX11_years 22 = .ok (.invokevirtual 227, 3) := by decide +kernel
theorem dX11_years_25 : decode cX11_years 25 = .ok (.sipush 999, 3) := by decide +kernel
theorem dX11_years_28 : decode cX11_years 28 = .ok (.iload_n 1, 1) := by decide +kernel
theorem dX11_years_29 : decode cX11_years 29 = .ok (.isub, 1) := by decide +kernel
theorem dX11_years_30 : decode cX11_years 30 = .ok (.if_icmp .le 5, 3) := by decide +kernel
theorem dX11_years_33 : decode cX11_years 33 = .ok (.iconst (-1), 1) := by decide +kernel
theorem dX11_years_34 : decode cX11_years 34 = .ok (.ireturn, 1) := by decide +kernel
theorem dX11_years_35 : decode cX11_years 35 = .ok (.aload_n 0, 1) := by decide +kernel
theorem dX11_years_36 : decode cX11_years 36 = .ok (.getfield 80, 3) := by decide +kernel
theorem dX11_years_39 : decode cX11_years 39 = .ok (.lload_n 2, 1) := by decide +kernel
theorem dX11_years_40 : decode cX11_years 40 = .ok (.invokevirtual 230, 3) := by decide +kernel
theorem dX11_years_43 : decode cX11_years 43 = .ok (.iconst 0, 1) := by decide +kernel
theorem dX11_years_44 : decode cX11_years 44 = .ok (.istore 4, 2) := by decide +kernel
theorem dX11_years_46 : decode cX11_years 46 = .ok (.iload 4, 2) := by decide +kernel
theorem dX11_years_48 : decode cX11_years 48 = .ok (.iload_n 1, 1) := by decide +kernel
theorem dX11_years_49 : decode cX11_years 49 = .ok (.if_icmp .ge 31, 3) := by decide +kernel
theorem dX11_years_52 : decode cX11_years 52 = .ok (.aload_n 0, 1) := by decide +kernel
theorem dX11_years_53 : decode cX11_years 53 = .ok (.getfield 39, 3) := by decide +kernel
theorem dX11_years_56 : decode cX11_years 56 = .ok (.aload_n 0, 1) := by decide +kernel
theorem dX11_years_57 : decode cX11_years 57 = .ok (.getfield 29, 3) := by decide +kernel
theorem dX11_years_60 : decode cX11_years 60 = .ok (.invokevirtual 216, 3) := by decide +kernel
theorem dX11_years_63 : decode cX11_years 63 = .ok (.aload_n 0, 1) := by decide +kernel
theorem dX11_years_64 : decode cX11_years 64 = .ok (.getfield 80, 3) := by decide +kernel
theorem dX11_years_67 : decode cX11_years 67 = .ok (.aload_n 0, 1) := by decide +kernel
theorem dX11_years_68 : decode cX11_years 68 = .ok (.getfield 110, 3) := by decide +kernel
theorem dX11_years_71 : decode cX11_years 71 = .ok (.invokevirtual 257, 3) := by decide +kernel
theorem dX11_years_74 : decode cX11_years 74 = .ok (.iinc 4 1, 3) := by decide +kernel
theorem dX11_years_77 : decode cX11_years 77 = .ok (.goto (-31), 3) := by decide +kernel
theorem dX11_years_80 : decode cX11_years 80 = .ok (.aload_n 0, 1) := by decide +kernel
theorem dX11_years_81 : decode cX11_years 81 = .ok (.getfield 29, 3) := by decide +kernel
theorem dX11_years_84 : decode cX11_years 84 = .ok (.invokevirtual 227, 3) := by decide +kernel
theorem dX11_years_87 : decode cX11_years 87 = .ok (.ireturn, 1) := by decide +kernel
theorem dX11_undo_0 : decode cX11_undo 0 = .ok (.aload_n 0, 1) := by decide +kernel
theorem dX11_undo_1 : decode cX11_undo 1 = .ok (.getfield 39, 3) := by decide +kernel
theorem dX11_undo_4 : decode cX11_undo 4 = .ok (.aload_n 0, 1) := by decide +kernel
theorem dX11_undo_5 : decode cX11_undo 5 = .ok (.getfield 29, 3) := by decide +kernel
theorem dX11_undo_8 : decode cX11_undo 8 = .ok (.invokevirtual 260, 3) := by decide +kernel
theorem dX11_undo_11 : decode cX11_undo 11 = .ok (.ireturn, 1) := by decide +kernel
theorem dX11_log_0 : decode cX11_log 0 = .ok (.iload_n 1, 1) := by decide +kernel
theorem dX11_log_1 : decode cX11_log 1 = .ok (.ifCond .lt 23, 3) := by decide +kernel
theorem dX11_log_4 : decode cX11_log 4 = .ok (.iload_n 1, 1) := by decide +kernel
theorem dX11_log_5 : decode cX11_log 5 = .ok (.aload_n 0, 1) := by decide +kernel
theorem dX11_log_6 : decode cX11_log 6 = .ok (.getfield 29, 3) := by decide +kernel
theorem dX11_log_9 : decode cX11_log 9 = .ok (.invokevirtual 264, 3) := by decide +kernel
theorem dX11_log_12 : decode cX11_log 12 = .ok (.if_icmp .ge 12, 3) := by decide +kernel
theorem dX11_log_15 : decode cX11_log 15 = .ok (.iload_n 2, 1) := by decide +kernel
theorem dX11_log_16 : decode cX11_log 16 = .ok (.ifCond .lt 8, 3) := by decide +kernel
theorem dX11_log_19 : decode cX11_log 19 = .ok (.iload_n 2, 1) := by decide +kernel
theorem dX11_log_20 : decode cX11_log 20 = .ok (.iconst 2, 1) := by decide +kernel
theorem dX11_log_21 : decode cX11_log 21 = .ok (.if_icmp .le 6, 3) := by decide +kernel
theorem dX11_log_24 : decode cX11_log 24 = .ok (.ldc 206, 2) := by decide +kernel
theorem dX11_log_26 : decode cX11_log 26 = .ok (.ireturn, 1) := by decide +kernel
theorem dX11_log_27 : decode cX11_log 27 = .ok (.aload_n 0, 1) := by decide +kernel
theorem dX11_log_28 : decode cX11_log 28 = .ok (.getfield 29, 3) := by decide +kernel
theorem dX11_log_31 : decode cX11_log 31 = .ok (.iload_n 1, 1) := by decide +kernel
theorem dX11_log_32 : decode cX11_log 32 = .ok (.invokevirtual 267, 3) := by decide +kernel
theorem dX11_log_35 : decode cX11_log 35 = .ok (.istore_n 3, 1) := by decide +kernel
theorem dX11_log_36 : decode cX11_log 36 = .ok (.iload_n 2, 1) := by decide +kernel
theorem dX11_log_37 : decode cX11_log 37 = .ok (.ifCond .ne 8, 3) := by decide +kernel
theorem dX11_log_40 : decode cX11_log 40 = .ok (.iload_n 3, 1) := by decide +kernel
theorem dX11_log_41 : decode cX11_log 41 = .ok (.invokestatic 270, 3) := by decide +kernel
theorem dX11_log_44 : decode cX11_log 44 = .ok (.ireturn, 1) := by decide +kernel
theorem dX11_log_45 : decode cX11_log 45 = .ok (.iload_n 2, 1) := by decide +kernel
theorem dX11_log_46 : decode cX11_log 46 = .ok (.iconst 1, 1) := by decide +kernel
theorem dX11_log_47 : decode cX11_log 47 = .ok (.if_icmp .ne 10, 3) := by decide +kernel
theorem dX11_log_50 : decode cX11_log 50 = .ok (.iload_n 3, 1) := by decide +kernel
theorem dX11_log_51 : decode cX11_log 51 = .ok (.invokestatic 273, 3) := by decide +kernel
theorem dX11_log_54 : decode cX11_log 54 = .ok (.goto 7, 3) := by decide +kernel
theorem dX11_log_57 : decode cX11_log 57 = .ok (.iload_n 3, 1) := by decide +kernel
theorem dX11_log_58 : decode cX11_log 58 = .ok (.invokestatic 276, 3) := by decide +kernel
theorem dX11_log_61 : decode cX11_log 61 = .ok (.ireturn, 1) := by decide +kernel
theorem dX11_book_0 : decode cX11_book 0 = .ok (.iload_n 1, 1) := by decide +kernel
theorem dX11_book_1 : decode cX11_book 1 = .ok (.ifCond .lt 14, 3) := by decide +kernel
theorem dX11_book_4 : decode cX11_book 4 = .ok (.iload_n 1, 1) := by decide +kernel
theorem dX11_book_5 : decode cX11_book 5 = .ok (.aload_n 0, 1) := by decide +kernel
theorem dX11_book_6 : decode cX11_book 6 = .ok (.getfield 29, 3) := by decide +kernel
theorem dX11_book_9 : decode cX11_book 9 = .ok (.invokevirtual 279, 3) := by decide +kernel
theorem dX11_book_12 : decode cX11_book 12 = .ok (.if_icmp .lt 5, 3) := by decide +kernel
theorem dX11_book_15 : decode cX11_book 15 = .ok (.iconst (-1), 1) := by decide +kernel
theorem dX11_book_16 : decode cX11_book 16 = .ok (.ireturn, 1) := by decide +kernel
theorem dX11_book_17 : decode cX11_book 17 = .ok (.aload_n 0, 1) := by decide +kernel
theorem dX11_book_18 : decode cX11_book 18 = .ok (.getfield 29, 3) := by decide +kernel
theorem dX11_book_21 : decode cX11_book 21 = .ok (.aload_n 0, 1) := by decide +kernel
theorem dX11_book_22 : decode cX11_book 22 = .ok (.getfield 29, 3) := by decide +kernel
theorem dX11_book_25 : decode cX11_book 25 = .ok (.invokevirtual 279, 3) := by decide +kernel
theorem dX11_book_28 : decode cX11_book 28 = .ok (.iconst 1, 1) := by decide +kernel
theorem dX11_book_29 : decode cX11_book 29 = .ok (.isub, 1) := by decide +kernel
theorem dX11_book_30 : decode cX11_book 30 = .ok (.iload_n 1, 1) := by decide +kernel
theorem dX11_book_31 : decode cX11_book 31 = .ok (.isub, 1) := by decide +kernel
theorem dX11_book_32 : decode cX11_book 32 = .ok (.invokevirtual 282, 3) := by decide +kernel
theorem dX11_book_35 : decode cX11_book 35 = .ok (.istore_n 3, 1) := by decide +kernel
theorem dX11_book_36 : decode cX11_book 36 = .ok (.iload_n 2, 1) := by decide +kernel
theorem dX11_book_37 : decode cX11_book 37 = .ok (.tableswitch 60 0 4 #[35, 40, 45, 50, 55], 35) := by decide +kernel
theorem dX11_book_72 : decode cX11_book 72 = .ok (.iload_n 3, 1) := by decide +kernel
theorem dX11_book_73 : decode cX11_book 73 = .ok (.invokestatic 285, 3) := by decide +kernel
theorem dX11_book_76 : decode cX11_book 76 = .ok (.ireturn, 1) := by decide +kernel
theorem dX11_book_77 : decode cX11_book 77 = .ok (.iload_n 3, 1) := by decide +kernel
theorem dX11_book_78 : decode cX11_book 78 = .ok (.invokestatic 288, 3) := by decide +kernel
theorem dX11_book_81 : decode cX11_book 81 = .ok (.ireturn, 1) := by decide +kernel
theorem dX11_book_82 : decode cX11_book 82 = .ok (.iload_n 3, 1) := by decide +kernel
theorem dX11_book_83 : decode cX11_book 83 = .ok (.invokestatic 291, 3) := by decide +kernel
theorem dX11_book_86 : decode cX11_book 86 = .ok (.ireturn, 1) := by decide +kernel
theorem dX11_book_87 : decode cX11_book 87 = .ok (.iload_n 3, 1) := by decide +kernel
theorem dX11_book_88 : decode cX11_book 88 = .ok (.invokestatic 294, 3) := by decide +kernel
theorem dX11_book_91 : decode cX11_book 91 = .ok (.ireturn, 1) := by decide +kernel
theorem dX11_book_92 : decode cX11_book 92 = .ok (.iload_n 3, 1) := by decide +kernel
theorem dX11_book_93 : decode cX11_book 93 = .ok (.invokestatic 297, 3) := by decide +kernel
theorem dX11_book_96 : decode cX11_book 96 = .ok (.ireturn, 1) := by decide +kernel
theorem dX11_book_97 : decode cX11_book 97 = .ok (.iconst (-1), 1) := by decide +kernel
theorem dX11_book_98 : decode cX11_book 98 = .ok (.ireturn, 1) := by decide +kernel
theorem dX11_points_0 : decode cX11_points 0 = .ok (.aload_n 0, 1) := by decide +kernel
theorem dX11_points_1 : decode cX11_points 1 = .ok (.iload_n 1, 1) := by decide +kernel
theorem dX11_points_2 : decode cX11_points 2 = .ok (.invokevirtual 178, 3) := by decide +kernel
theorem dX11_points_5 : decode cX11_points 5 = .ok (.ifCond .eq 21, 3) := by decide +kernel
theorem dX11_points_8 : decode cX11_points 8 = .ok (.aload_n 0, 1) := by decide +kernel
theorem dX11_points_9 : decode cX11_points 9 = .ok (.getfield 71, 3) := by decide +kernel
theorem dX11_points_12 : decode cX11_points 12 = .ok (.iload_n 1, 1) := by decide +kernel
theorem dX11_points_13 : decode cX11_points 13 = .ok (.aload_n 0, 1) := by decide +kernel
theorem dX11_points_14 : decode cX11_points 14 = .ok (.getfield 71, 3) := by decide +kernel
theorem dX11_points_17 : decode cX11_points 17 = .ok (.invokevirtual 240, 3) := by decide +kernel
theorem dX11_points_20 : decode cX11_points 20 = .ok (.invokevirtual 243, 3) := by decide +kernel
theorem dX11_points_23 : decode cX11_points 23 = .ok (.goto 5, 3) := by decide +kernel
theorem dX11_points_26 : decode cX11_points 26 = .ok (.ldc 206, 2) := by decide +kernel
theorem dX11_points_28 : decode cX11_points 28 = .ok (.ireturn, 1) := by decide +kernel
theorem dX11_sleeps_0 : decode cX11_sleeps 0 = .ok (.aload_n 0, 1) := by decide +kernel
theorem dX11_sleeps_1 : decode cX11_sleeps 1 = .ok (.iload_n 1, 1) := by decide +kernel
theorem dX11_sleeps_2 : decode cX11_sleeps 2 = .ok (.invokevirtual 178, 3) := by decide +kernel
theorem dX11_sleeps_5 : decode cX11_sleeps 5 = .ok (.ifCond .eq 11, 3) := by decide +kernel
theorem dX11_sleeps_8 : decode cX11_sleeps 8 = .ok (.aload_n 0, 1) := by decide +kernel
theorem dX11_sleeps_9 : decode cX11_sleeps 9 = .ok (.iload_n 1, 1) := by decide +kernel
theorem dX11_sleeps_10 : decode cX11_sleeps 10 = .ok (.invokevirtual 300, 3) := by decide +kernel
theorem dX11_sleeps_13 : decode cX11_sleeps 13 = .ok (.goto 4, 3) := by decide +kernel
theorem dX11_sleeps_16 : decode cX11_sleeps 16 = .ok (.iconst (-1), 1) := by decide +kernel
theorem dX11_sleeps_17 : decode cX11_sleeps 17 = .ok (.ireturn, 1) := by decide +kernel
theorem dX11_partsAsleep_0 : decode cX11_partsAsleep 0 = .ok (.ldc2_w 303, 3) := by decide +kernel
theorem dX11_partsAsleep_3 : decode cX11_partsAsleep 3 = .ok (.lstore_n 2, 1) := by decide +kernel
theorem dX11_partsAsleep_4 : decode cX11_partsAsleep 4 = .ok (.iconst 0, 1) := by decide +kernel
theorem dX11_partsAsleep_5 : decode cX11_partsAsleep 5 = .ok (.istore 4, 2) := by decide +kernel
theorem dX11_partsAsleep_7 : decode cX11_partsAsleep 7 = .ok (.iload 4, 2) := by decide +kernel
theorem dX11_partsAsleep_9 : decode cX11_partsAsleep 9 = .ok (.aload_n 0, 1) := by decide +kernel
theorem dX11_partsAsleep_10 : decode cX11_partsAsleep 10 = .ok (.getfield 19, 3) := by decide +kernel
theorem dX11_partsAsleep_13 : decode cX11_partsAsleep 13 = .ok (.invokevirtual 305, 3) := by decide +kernel
theorem dX11_partsAsleep_16 : decode cX11_partsAsleep 16 = .ok (.if_icmp .ge 30, 3) := by decide +kernel
theorem dX11_partsAsleep_19 : decode cX11_partsAsleep 19 = .ok (.lload_n 2, 1) := by decide +kernel
theorem dX11_partsAsleep_20 : decode cX11_partsAsleep 20 = .ok (.bipush 10, 2) := by decide +kernel
theorem dX11_partsAsleep_22 : decode cX11_partsAsleep 22 = .ok (.aload_n 0, 1) := by decide +kernel
theorem dX11_partsAsleep_23 : decode cX11_partsAsleep 23 = .ok (.getfield 71, 3) := by decide +kernel
theorem dX11_partsAsleep_26 : decode cX11_partsAsleep 26 = .ok (.iload_n 1, 1) := by decide +kernel
theorem dX11_partsAsleep_27 : decode cX11_partsAsleep 27 = .ok (.iload 4, 2) := by decide +kernel
theorem dX11_partsAsleep_29 : decode cX11_partsAsleep 29 = .ok (.invokevirtual 213, 3) := by decide +kernel
theorem dX11_partsAsleep_32 : decode cX11_partsAsleep 32 = .ok (.isub, 1) := by decide +kernel
theorem dX11_partsAsleep_33 : decode cX11_partsAsleep 33 = .ok (.i2l, 1) := by decide +kernel
theorem dX11_partsAsleep_34 : decode cX11_partsAsleep 34 = .ok (.lmul, 1) := by decide +kernel
theorem dX11_partsAsleep_35 : decode cX11_partsAsleep 35 = .ok (.ldc2_w 308, 3) := by decide +kernel
theorem dX11_partsAsleep_38 : decode cX11_partsAsleep 38 = .ok (.ldiv, 1) := by decide +kernel
theorem dX11_partsAsleep_39 : decode cX11_partsAsleep 39 = .ok (.lstore_n 2, 1) := by decide +kernel
theorem dX11_partsAsleep_40 : decode cX11_partsAsleep 40 = .ok (.iinc 4 1, 3) := by decide +kernel
theorem dX11_partsAsleep_43 : decode cX11_partsAsleep 43 = .ok (.goto (-36), 3) := by decide +kernel
theorem dX11_partsAsleep_46 : decode cX11_partsAsleep 46 = .ok (.lload_n 2, 1) := by decide +kernel
theorem dX11_partsAsleep_47 : decode cX11_partsAsleep 47 = .ok (.l2i, 1) := by decide +kernel
theorem dX11_partsAsleep_48 : decode cX11_partsAsleep 48 = .ok (.ireturn, 1) := by decide +kernel
theorem dX11_awake_0 : decode cX11_awake 0 = .ok (.aload_n 0, 1) := by decide +kernel
theorem dX11_awake_1 : decode cX11_awake 1 = .ok (.iload_n 1, 1) := by decide +kernel
theorem dX11_awake_2 : decode cX11_awake 2 = .ok (.invokevirtual 178, 3) := by decide +kernel
theorem dX11_awake_5 : decode cX11_awake 5 = .ok (.ifCond .eq 13, 3) := by decide +kernel
theorem dX11_awake_8 : decode cX11_awake 8 = .ok (.iload_n 2, 1) := by decide +kernel
theorem dX11_awake_9 : decode cX11_awake 9 = .ok (.ifCond .lt 9, 3) := by decide +kernel
theorem dX11_awake_12 : decode cX11_awake 12 = .ok (.iload_n 2, 1) := by decide +kernel
theorem dX11_awake_13 : decode cX11_awake 13 = .ok (.bipush 9, 2) := by decide +kernel
theorem dX11_awake_15 : decode cX11_awake 15 = .ok (.if_icmp .le 5, 3) := by decide +kernel
theorem dX11_awake_18 : decode cX11_awake 18 = .ok (.iconst (-1), 1) := by decide +kernel
theorem dX11_awake_19 : decode cX11_awake 19 = .ok (.ireturn, 1) := by decide +kernel
theorem dX11_awake_20 : decode cX11_awake 20 = .ok (.aload_n 0, 1) := by decide +kernel
theorem dX11_awake_21 : decode cX11_awake 21 = .ok (.iload_n 1, 1) := by decide +kernel
theorem dX11_awake_22 : decode cX11_awake 22 = .ok (.invokevirtual 310, 3) := by decide +kernel
theorem dX11_awake_25 : decode cX11_awake 25 = .ok (.iconst 0, 1) := by decide +kernel
theorem dX11_awake_26 : decode cX11_awake 26 = .ok (.istore_n 3, 1) := by decide +kernel
theorem dX11_awake_27 : decode cX11_awake 27 = .ok (.iload_n 2, 1) := by decide +kernel
theorem dX11_awake_28 : decode cX11_awake 28 = .ok (.istore 4, 2) := by decide +kernel
theorem dX11_awake_30 : decode cX11_awake 30 = .ok (.iload 4, 2) := by decide +kernel
theorem dX11_awake_32 : decode cX11_awake 32 = .ok (.bipush 9, 2) := by decide +kernel
theorem dX11_awake_34 : decode cX11_awake 34 = .ok (.if_icmp .gt 19, 3) := by decide +kernel
theorem dX11_awake_37 : decode cX11_awake 37 = .ok (.iload_n 3, 1) := by decide +kernel
theorem dX11_awake_38 : decode cX11_awake 38 = .ok (.aload_n 0, 1) := by decide +kernel
theorem dX11_awake_39 : decode cX11_awake 39 = .ok (.getfield 102, 3) := by decide +kernel
theorem dX11_awake_42 : decode cX11_awake 42 = .ok (.iload 4, 2) := by decide +kernel
theorem dX11_awake_44 : decode cX11_awake 44 = .ok (.iaload, 1) := by decide +kernel
theorem dX11_awake_45 : decode cX11_awake 45 = .ok (.iadd, 1) := by decide +kernel
theorem dX11_awake_46 : decode cX11_awake 46 = .ok (.istore_n 3, 1) := by decide +kernel
theorem dX11_awake_47 : decode cX11_awake 47 = .ok (.iinc 4 1, 3) := by decide +kernel
theorem dX11_awake_50 : decode cX11_awake 50 = .ok (.goto (-20), 3) := by decide +kernel
theorem dX11_awake_53 : decode cX11_awake 53 = .ok (.iload_n 3, 1) := by decide +kernel
theorem dX11_awake_54 : decode cX11_awake 54 = .ok (.ireturn, 1) := by decide +kernel
theorem dX11_sharePartsOf_0 : decode cX11_sharePartsOf 0 = .ok (.iconst 0, 1) := by decide +kernel
theorem dX11_sharePartsOf_1 : decode cX11_sharePartsOf 1 = .ok (.istore_n 2, 1) := by decide +kernel
theorem dX11_sharePartsOf_2 : decode cX11_sharePartsOf 2 = .ok (.iload_n 2, 1) := by decide +kernel
theorem dX11_sharePartsOf_3 : decode cX11_sharePartsOf 3 = .ok (.bipush 9, 2) := by decide +kernel
theorem dX11_sharePartsOf_5 : decode cX11_sharePartsOf 5 = .ok (.if_icmp .gt 16, 3) := by decide +kernel
theorem dX11_sharePartsOf_8 : decode cX11_sharePartsOf 8 = .ok (.aload_n 0, 1) := by decide +kernel
theorem dX11_sharePartsOf_9 : decode cX11_sharePartsOf 9 = .ok (.getfield 102, 3) := by decide +kernel
theorem dX11_sharePartsOf_12 : decode cX11_sharePartsOf 12 = .ok (.iload_n 2, 1) := by decide +kernel
theorem dX11_sharePartsOf_13 : decode cX11_sharePartsOf 13 = .ok (.iconst 0, 1) := by decide +kernel
theorem dX11_sharePartsOf_14 : decode cX11_sharePartsOf 14 = .ok (.iastore, 1) := by decide +kernel
theorem dX11_sharePartsOf_15 : decode cX11_sharePartsOf 15 = .ok (.iinc 2 1, 3) := by decide +kernel
theorem dX11_sharePartsOf_18 : decode cX11_sharePartsOf 18 = .ok (.goto (-16), 3) := by decide +kernel
theorem dX11_sharePartsOf_21 : decode cX11_sharePartsOf 21 = .ok (.aload_n 0, 1) := by decide +kernel
theorem dX11_sharePartsOf_22 : decode cX11_sharePartsOf 22 = .ok (.getfield 102, 3) := by decide +kernel
theorem dX11_sharePartsOf_25 : decode cX11_sharePartsOf 25 = .ok (.iconst 0, 1) := by decide +kernel
theorem dX11_sharePartsOf_26 : decode cX11_sharePartsOf 26 = .ok (.ldc_w 313, 3) := by decide +kernel
theorem dX11_sharePartsOf_29 : decode cX11_sharePartsOf 29 = .ok (.iastore, 1) := by decide +kernel
theorem dX11_sharePartsOf_30 : decode cX11_sharePartsOf 30 = .ok (.iconst 0, 1) := by decide +kernel
theorem dX11_sharePartsOf_31 : decode cX11_sharePartsOf 31 = .ok (.istore_n 2, 1) := by decide +kernel
theorem dX11_sharePartsOf_32 : decode cX11_sharePartsOf 32 = .ok (.iload_n 2, 1) := by decide +kernel
theorem dX11_sharePartsOf_33 : decode cX11_sharePartsOf 33 = .ok (.aload_n 0, 1) := by decide +kernel
theorem dX11_sharePartsOf_34 : decode cX11_sharePartsOf 34 = .ok (.getfield 19, 3) := by decide +kernel
theorem dX11_sharePartsOf_37 : decode cX11_sharePartsOf 37 = .ok (.invokevirtual 305, 3) := by decide +kernel
theorem dX11_sharePartsOf_40 : decode cX11_sharePartsOf 40 = .ok (.if_icmp .ge 77, 3) := by decide +kernel
theorem dX11_sharePartsOf_43 : decode cX11_sharePartsOf 43 = .ok (.aload_n 0, 1) := by decide +kernel
theorem dX11_sharePartsOf_44 : decode cX11_sharePartsOf 44 = .ok (.getfield 71, 3) := by decide +kernel
theorem dX11_sharePartsOf_47 : decode cX11_sharePartsOf 47 = .ok (.iload_n 1, 1) := by decide +kernel
theorem dX11_sharePartsOf_48 : decode cX11_sharePartsOf 48 = .ok (.iload_n 2, 1) := by decide +kernel
theorem dX11_sharePartsOf_49 : decode cX11_sharePartsOf 49 = .ok (.invokevirtual 213, 3) := by decide +kernel
theorem dX11_sharePartsOf_52 : decode cX11_sharePartsOf 52 = .ok (.istore_n 3, 1) := by decide +kernel
theorem dX11_sharePartsOf_53 : decode cX11_sharePartsOf 53 = .ok (.iload_n 2, 1) := by decide +kernel
theorem dX11_sharePartsOf_54 : decode cX11_sharePartsOf 54 = .ok (.istore 4, 2) := by decide +kernel
theorem dX11_sharePartsOf_56 : decode cX11_sharePartsOf 56 = .ok (.iload 4, 2) := by decide +kernel
theorem dX11_sharePartsOf_58 : decode cX11_sharePartsOf 58 = .ok (.ifCond .lt 53, 3) := by decide +kernel
theorem dX11_sharePartsOf_61 : decode cX11_sharePartsOf 61 = .ok (.aload_n 0, 1) := by decide +kernel
theorem dX11_sharePartsOf_62 : decode cX11_sharePartsOf 62 = .ok (.getfield 102, 3) := by decide +kernel
theorem dX11_sharePartsOf_65 : decode cX11_sharePartsOf 65 = .ok (.iload 4, 2) := by decide +kernel
theorem dX11_sharePartsOf_67 : decode cX11_sharePartsOf 67 = .ok (.iaload, 1) := by decide +kernel
theorem dX11_sharePartsOf_68 : decode cX11_sharePartsOf 68 = .ok (.i2l, 1) := by decide +kernel
theorem dX11_sharePartsOf_69 : decode cX11_sharePartsOf 69 = .ok (.iload_n 3, 1) := by decide +kernel
theorem dX11_sharePartsOf_70 : decode cX11_sharePartsOf 70 = .ok (.i2l, 1) := by decide +kernel
theorem dX11_sharePartsOf_71 : decode cX11_sharePartsOf 71 = .ok (.lmul, 1) := by decide +kernel
theorem dX11_sharePartsOf_72 : decode cX11_sharePartsOf 72 = .ok (.ldc2_w 308, 3) := by decide +kernel
theorem dX11_sharePartsOf_75 : decode cX11_sharePartsOf 75 = .ok (.ldiv, 1) := by decide +kernel
theorem dX11_sharePartsOf_76 : decode cX11_sharePartsOf 76 = .ok (.l2i, 1) := by decide +kernel
theorem dX11_sharePartsOf_77 : decode cX11_sharePartsOf 77 = .ok (.istore 5, 2) := by decide +kernel
theorem dX11_sharePartsOf_79 : decode cX11_sharePartsOf 79 = .ok (.aload_n 0, 1) := by decide +kernel
theorem dX11_sharePartsOf_80 : decode cX11_sharePartsOf 80 = .ok (.getfield 102, 3) := by decide +kernel
theorem dX11_sharePartsOf_83 : decode cX11_sharePartsOf 83 = .ok (.iload 4, 2) := by decide +kernel
theorem dX11_sharePartsOf_85 : decode cX11_sharePartsOf 85 = .ok (.dup2, 1) := by decide +kernel
theorem dX11_sharePartsOf_86 : decode cX11_sharePartsOf 86 = .ok (.iaload, 1) := by decide +kernel
theorem dX11_sharePartsOf_87 : decode cX11_sharePartsOf 87 = .ok (.iload 5, 2) := by decide +kernel
theorem dX11_sharePartsOf_89 : decode cX11_sharePartsOf 89 = .ok (.isub, 1) := by decide +kernel
theorem dX11_sharePartsOf_90 : decode cX11_sharePartsOf 90 = .ok (.iastore, 1) := by decide +kernel
theorem dX11_sharePartsOf_91 : decode cX11_sharePartsOf 91 = .ok (.aload_n 0, 1) := by decide +kernel
theorem dX11_sharePartsOf_92 : decode cX11_sharePartsOf 92 = .ok (.getfield 102, 3) := by decide +kernel
theorem dX11_sharePartsOf_95 : decode cX11_sharePartsOf 95 = .ok (.iload 4, 2) := by decide +kernel
theorem dX11_sharePartsOf_97 : decode cX11_sharePartsOf 97 = .ok (.iconst 1, 1) := by decide +kernel
theorem dX11_sharePartsOf_98 : decode cX11_sharePartsOf 98 = .ok (.iadd, 1) := by decide +kernel
theorem dX11_sharePartsOf_99 : decode cX11_sharePartsOf 99 = .ok (.dup2, 1) := by decide +kernel
theorem dX11_sharePartsOf_100 : decode cX11_sharePartsOf 100 = .ok (.iaload, 1) := by decide +kernel
theorem dX11_sharePartsOf_101 : decode cX11_sharePartsOf 101 = .ok (.iload 5, 2) := by decide +kernel
theorem dX11_sharePartsOf_103 : decode cX11_sharePartsOf 103 = .ok (.iadd, 1) := by decide +kernel
theorem dX11_sharePartsOf_104 : decode cX11_sharePartsOf 104 = .ok (.iastore, 1) := by decide +kernel
theorem dX11_sharePartsOf_105 : decode cX11_sharePartsOf 105 = .ok (.iinc 4 (-1), 3) := by decide +kernel
theorem dX11_sharePartsOf_108 : decode cX11_sharePartsOf 108 = .ok (.goto (-52), 3) := by decide +kernel
theorem dX11_sharePartsOf_111 : decode cX11_sharePartsOf 111 = .ok (.iinc 2 1, 3) := by decide +kernel
theorem dX11_sharePartsOf_114 : decode cX11_sharePartsOf 114 = .ok (.goto (-82), 3) := by decide +kernel
theorem dX11_sharePartsOf_117 : decode cX11_sharePartsOf 117 = .ok (.return_, 1) := by decide +kernel
theorem dX11_seem_0 : decode cX11_seem 0 = .ok (.aload_n 0, 1) := by decide +kernel
theorem dX11_seem_1 : decode cX11_seem 1 = .ok (.iload_n 1, 1) := by decide +kernel
theorem dX11_seem_2 : decode cX11_seem 2 = .ok (.invokevirtual 178, 3) := by decide +kernel
theorem dX11_seem_5 : decode cX11_seem 5 = .ok (.ifCond .eq 14, 3) := by decide +kernel
theorem dX11_seem_8 : decode cX11_seem 8 = .ok (.aload_n 0, 1) := by decide +kernel
theorem dX11_seem_9 : decode cX11_seem 9 = .ok (.getfield 46, 3) := by decide +kernel
theorem dX11_seem_12 : decode cX11_seem 12 = .ok (.iload_n 2, 1) := by decide +kernel
theorem dX11_seem_13 : decode cX11_seem 13 = .ok (.invokevirtual 203, 3) := by decide +kernel
theorem dX11_seem_16 : decode cX11_seem 16 = .ok (.ifCond .ne 5, 3) := by decide +kernel
theorem dX11_seem_19 : decode cX11_seem 19 = .ok (.iconst (-1), 1) := by decide +kernel
theorem dX11_seem_20 : decode cX11_seem 20 = .ok (.ireturn, 1) := by decide +kernel
theorem dX11_seem_21 : decode cX11_seem 21 = .ok (.iconst (-1), 1) := by decide +kernel
theorem dX11_seem_22 : decode cX11_seem 22 = .ok (.istore_n 3, 1) := by decide +kernel
theorem dX11_seem_23 : decode cX11_seem 23 = .ok (.aload_n 0, 1) := by decide +kernel
theorem dX11_seem_24 : decode cX11_seem 24 = .ok (.getfield 71, 3) := by decide +kernel
theorem dX11_seem_27 : decode cX11_seem 27 = .ok (.iload_n 1, 1) := by decide +kernel
theorem dX11_seem_28 : decode cX11_seem 28 = .ok (.aload_n 0, 1) := by decide +kernel
theorem dX11_seem_29 : decode cX11_seem 29 = .ok (.getfield 71, 3) := by decide +kernel
theorem dX11_seem_32 : decode cX11_seem 32 = .ok (.invokevirtual 240, 3) := by decide +kernel
theorem dX11_seem_35 : decode cX11_seem 35 = .ok (.invokevirtual 243, 3) := by decide +kernel
theorem dX11_seem_38 : decode cX11_seem 38 = .ok (.istore 4, 2) := by decide +kernel
theorem dX11_seem_40 : decode cX11_seem 40 = .ok (.iconst 0, 1) := by decide +kernel
theorem dX11_seem_41 : decode cX11_seem 41 = .ok (.istore 5, 2) := by decide +kernel
theorem dX11_seem_43 : decode cX11_seem 43 = .ok (.iload 5, 2) := by decide +kernel
theorem dX11_seem_45 : decode cX11_seem 45 = .ok (.aload_n 0, 1) := by decide +kernel
theorem dX11_seem_46 : decode cX11_seem 46 = .ok (.getfield 19, 3) := by decide +kernel
theorem dX11_seem_49 : decode cX11_seem 49 = .ok (.invokevirtual 305, 3) := by decide +kernel
theorem dX11_seem_52 : decode cX11_seem 52 = .ok (.if_icmp .ge 89, 3) := by decide +kernel
theorem dX11_seem_55 : decode cX11_seem 55 = .ok (.aload_n 0, 1) := by decide +kernel
theorem dX11_seem_56 : decode cX11_seem 56 = .ok (.getfield 46, 3) := by decide +kernel
theorem dX11_seem_59 : decode cX11_seem 59 = .ok (.iload_n 2, 1) := by decide +kernel
theorem dX11_seem_60 : decode cX11_seem 60 = .ok (.iload 5, 2) := by decide +kernel
theorem dX11_seem_62 : decode cX11_seem 62 = .ok (.invokevirtual 207, 3) := by decide +kernel
theorem dX11_seem_65 : decode cX11_seem 65 = .ok (.iload_n 1, 1) := by decide +kernel
theorem dX11_seem_66 : decode cX11_seem 66 = .ok (.if_icmp .ne 7, 3) := by decide +kernel
theorem dX11_seem_69 : decode cX11_seem 69 = .ok (.iconst 1, 1) := by decide +kernel
theorem dX11_seem_70 : decode cX11_seem 70 = .ok (.goto 4, 3) := by decide +kernel
theorem dX11_seem_73 : decode cX11_seem 73 = .ok (.iconst 0, 1) := by decide +kernel
theorem dX11_seem_74 : decode cX11_seem 74 = .ok (.istore 6, 2) := by decide +kernel
theorem dX11_seem_76 : decode cX11_seem 76 = .ok (.iload 6, 2) := by decide +kernel
theorem dX11_seem_78 : decode cX11_seem 78 = .ok (.ifCond .eq 17, 3) := by decide +kernel
theorem dX11_seem_81 : decode cX11_seem 81 = .ok (.aload_n 0, 1) := by decide +kernel
theorem dX11_seem_82 : decode cX11_seem 82 = .ok (.getfield 71, 3) := by decide +kernel
theorem dX11_seem_85 : decode cX11_seem 85 = .ok (.iload_n 1, 1) := by decide +kernel
theorem dX11_seem_86 : decode cX11_seem 86 = .ok (.iload 5, 2) := by decide +kernel
theorem dX11_seem_88 : decode cX11_seem 88 = .ok (.iconst 0, 1) := by decide +kernel
theorem dX11_seem_89 : decode cX11_seem 89 = .ok (.invokevirtual 314, 3) := by decide +kernel
theorem dX11_seem_92 : decode cX11_seem 92 = .ok (.goto 4, 3) := by decide +kernel
theorem dX11_seem_95 : decode cX11_seem 95 = .ok (.iconst 0, 1) := by decide +kernel
theorem dX11_seem_96 : decode cX11_seem 96 = .ok (.istore 7, 2) := by decide +kernel
theorem dX11_seem_98 : decode cX11_seem 98 = .ok (.aload_n 0, 1) := by decide +kernel
theorem dX11_seem_99 : decode cX11_seem 99 = .ok (.getfield 102, 3) := by decide +kernel
theorem dX11_seem_102 : decode cX11_seem 102 = .ok (.iload 5, 2) := by decide +kernel
theorem dX11_seem_104 : decode cX11_seem 104 = .ok (.iload 6, 2) := by decide +kernel
theorem dX11_seem_106 : decode cX11_seem 106 = .ok (.ifCond .eq 20, 3) := by decide +kernel
theorem dX11_seem_109 : decode cX11_seem 109 = .ok (.aload_n 0, 1) := by decide +kernel
theorem dX11_seem_110 : decode cX11_seem 110 = .ok (.getfield 71, 3) := by decide +kernel
theorem dX11_seem_113 : decode cX11_seem 113 = .ok (.iload_n 1, 1) := by decide +kernel
theorem dX11_seem_114 : decode cX11_seem 114 = .ok (.iload 5, 2) := by decide +kernel
theorem dX11_seem_116 : decode cX11_seem 116 = .ok (.iconst 1, 1) := by decide +kernel
theorem dX11_seem_117 : decode cX11_seem 117 = .ok (.invokevirtual 314, 3) := by decide +kernel
theorem dX11_seem_120 : decode cX11_seem 120 = .ok (.iload 7, 2) := by decide +kernel
theorem dX11_seem_122 : decode cX11_seem 122 = .ok (.isub, 1) := by decide +kernel
theorem dX11_seem_123 : decode cX11_seem 123 = .ok (.goto 4, 3) := by decide +kernel
theorem dX11_seem_126 : decode cX11_seem 126 = .ok (.iconst 0, 1) := by decide +kernel
theorem dX11_seem_127 : decode cX11_seem 127 = .ok (.iastore, 1) := by decide +kernel
theorem dX11_seem_128 : decode cX11_seem 128 = .ok (.iload 4, 2) := by decide +kernel
theorem dX11_seem_130 : decode cX11_seem 130 = .ok (.iload 7, 2) := by decide +kernel
theorem dX11_seem_132 : decode cX11_seem 132 = .ok (.iadd, 1) := by decide +kernel
theorem dX11_seem_133 : decode cX11_seem 133 = .ok (.istore 4, 2) := by decide +kernel
theorem dX11_seem_135 : decode cX11_seem 135 = .ok (.iinc 5 1, 3) := by decide +kernel
theorem dX11_seem_138 : decode cX11_seem 138 = .ok (.goto (-95), 3) := by decide +kernel
theorem dX11_seem_141 : decode cX11_seem 141 = .ok (.iconst 0, 1) := by decide +kernel
theorem dX11_seem_142 : decode cX11_seem 142 = .ok (.istore 5, 2) := by decide +kernel
theorem dX11_seem_144 : decode cX11_seem 144 = .ok (.iload 5, 2) := by decide +kernel
theorem dX11_seem_146 : decode cX11_seem 146 = .ok (.iconst 1, 1) := by decide +kernel
theorem dX11_seem_147 : decode cX11_seem 147 = .ok (.aload_n 0, 1) := by decide +kernel
theorem dX11_seem_148 : decode cX11_seem 148 = .ok (.getfield 19, 3) := by decide +kernel
theorem dX11_seem_151 : decode cX11_seem 151 = .ok (.invokevirtual 305, 3) := by decide +kernel
theorem dX11_seem_154 : decode cX11_seem 154 = .ok (.ishl, 1) := by decide +kernel
theorem dX11_seem_155 : decode cX11_seem 155 = .ok (.if_icmp .ge 61, 3) := by decide +kernel
theorem dX11_seem_158 : decode cX11_seem 158 = .ok (.iload_n 3, 1) := by decide +kernel
theorem dX11_seem_159 : decode cX11_seem 159 = .ok (.iconst (-1), 1) := by decide +kernel
theorem dX11_seem_160 : decode cX11_seem 160 = .ok (.if_icmp .eq 15, 3) := by decide +kernel
theorem dX11_seem_163 : decode cX11_seem 163 = .ok (.iload 5, 2) := by decide +kernel
theorem dX11_seem_165 : decode cX11_seem 165 = .ok (.invokestatic 318, 3) := by decide +kernel
theorem dX11_seem_168 : decode cX11_seem 168 = .ok (.iload_n 3, 1) := by decide +kernel
theorem dX11_seem_169 : decode cX11_seem 169 = .ok (.invokestatic 318, 3) := by decide +kernel
theorem dX11_seem_172 : decode cX11_seem 172 = .ok (.if_icmp .ge 7, 3) := by decide +kernel
theorem dX11_seem_175 : decode cX11_seem 175 = .ok (.iconst 1, 1) := by decide +kernel
theorem dX11_seem_176 : decode cX11_seem 176 = .ok (.goto 4, 3) := by decide +kernel
theorem dX11_seem_179 : decode cX11_seem 179 = .ok (.iconst 0, 1) := by decide +kernel
theorem dX11_seem_180 : decode cX11_seem 180 = .ok (.istore 6, 2) := by decide +kernel
theorem dX11_seem_182 : decode cX11_seem 182 = .ok (.iload 6, 2) := by decide +kernel
theorem dX11_seem_184 : decode cX11_seem 184 = .ok (.ifCond .eq 26, 3) := by decide +kernel
theorem dX11_seem_187 : decode cX11_seem 187 = .ok (.iload 4, 2) := by decide +kernel
theorem dX11_seem_189 : decode cX11_seem 189 = .ok (.aload_n 0, 1) := by decide +kernel
theorem dX11_seem_190 : decode cX11_seem 190 = .ok (.iload 5, 2) := by decide +kernel
theorem dX11_seem_192 : decode cX11_seem 192 = .ok (.invokevirtual 323, 3) := by decide +kernel
theorem dX11_seem_195 : decode cX11_seem 195 = .ok (.iadd, 1) := by decide +kernel
theorem dX11_seem_196 : decode cX11_seem 196 = .ok (.aload_n 0, 1) := by decide +kernel
theorem dX11_seem_197 : decode cX11_seem 197 = .ok (.getfield 19, 3) := by decide +kernel
theorem dX11_seem_200 : decode cX11_seem 200 = .ok (.iconst 1, 1) := by decide +kernel
theorem dX11_seem_201 : decode cX11_seem 201 = .ok (.invokevirtual 175, 3) := by decide +kernel
theorem dX11_seem_204 : decode cX11_seem 204 = .ok (.if_icmp .ge 6, 3) := by decide +kernel
theorem dX11_seem_207 : decode cX11_seem 207 = .ok (.iload 5, 2) := by decide +kernel
theorem dX11_seem_209 : decode cX11_seem 209 = .ok (.istore_n 3, 1) := by decide +kernel
theorem dX11_seem_210 : decode cX11_seem 210 = .ok (.iinc 5 1, 3) := by decide +kernel
theorem dX11_seem_213 : decode cX11_seem 213 = .ok (.goto (-69), 3) := by decide +kernel
theorem dX11_seem_216 : decode cX11_seem 216 = .ok (.iload_n 3, 1) := by decide +kernel
theorem dX11_seem_217 : decode cX11_seem 217 = .ok (.ireturn, 1) := by decide +kernel
theorem dX11_changeBy_0 : decode cX11_changeBy 0 = .ok (.iconst 0, 1) := by decide +kernel
theorem dX11_changeBy_1 : decode cX11_changeBy 1 = .ok (.istore_n 2, 1) := by decide +kernel
theorem dX11_changeBy_2 : decode cX11_changeBy 2 = .ok (.iconst 0, 1) := by decide +kernel
theorem dX11_changeBy_3 : decode cX11_changeBy 3 = .ok (.istore_n 3, 1) := by decide +kernel
theorem dX11_changeBy_4 : decode cX11_changeBy 4 = .ok (.iload_n 3, 1) := by decide +kernel
theorem dX11_changeBy_5 : decode cX11_changeBy 5 = .ok (.bipush 9, 2) := by decide +kernel
theorem dX11_changeBy_7 : decode cX11_changeBy 7 = .ok (.if_icmp .ge 27, 3) := by decide +kernel
theorem dX11_changeBy_10 : decode cX11_changeBy 10 = .ok (.iload_n 1, 1) := by decide +kernel
theorem dX11_changeBy_11 : decode cX11_changeBy 11 = .ok (.iload_n 3, 1) := by decide +kernel
theorem dX11_changeBy_12 : decode cX11_changeBy 12 = .ok (.ishr, 1) := by decide +kernel
theorem dX11_changeBy_13 : decode cX11_changeBy 13 = .ok (.iconst 1, 1) := by decide +kernel
theorem dX11_changeBy_14 : decode cX11_changeBy 14 = .ok (.iand, 1) := by decide +kernel
theorem dX11_changeBy_15 : decode cX11_changeBy 15 = .ok (.iconst 1, 1) := by decide +kernel
theorem dX11_changeBy_16 : decode cX11_changeBy 16 = .ok (.if_icmp .ne 12, 3) := by decide +kernel
theorem dX11_changeBy_19 : decode cX11_changeBy 19 = .ok (.iload_n 2, 1) := by decide +kernel
theorem dX11_changeBy_20 : decode cX11_changeBy 20 = .ok (.aload_n 0, 1) := by decide +kernel
theorem dX11_changeBy_21 : decode cX11_changeBy 21 = .ok (.getfield 102, 3) := by decide +kernel
theorem dX11_changeBy_24 : decode cX11_changeBy 24 = .ok (.iload_n 3, 1) := by decide +kernel
theorem dX11_changeBy_25 : decode cX11_changeBy 25 = .ok (.iaload, 1) := by decide +kernel
theorem dX11_changeBy_26 : decode cX11_changeBy 26 = .ok (.iadd, 1) := by decide +kernel
theorem dX11_changeBy_27 : decode cX11_changeBy 27 = .ok (.istore_n 2, 1) := by decide +kernel
theorem dX11_changeBy_28 : decode cX11_changeBy 28 = .ok (.iinc 3 1, 3) := by decide +kernel
theorem dX11_changeBy_31 : decode cX11_changeBy 31 = .ok (.goto (-27), 3) := by decide +kernel
theorem dX11_changeBy_34 : decode cX11_changeBy 34 = .ok (.iload_n 2, 1) := by decide +kernel
theorem dX11_changeBy_35 : decode cX11_changeBy 35 = .ok (.ireturn, 1) := by decide +kernel
theorem dX11_tells_0 : decode cX11_tells 0 = .ok (.aload_n 0, 1) := by decide +kernel
theorem dX11_tells_1 : decode cX11_tells 1 = .ok (.iload_n 1, 1) := by decide +kernel
theorem dX11_tells_2 : decode cX11_tells 2 = .ok (.invokevirtual 178, 3) := by decide +kernel
theorem dX11_tells_5 : decode cX11_tells 5 = .ok (.ifCond .eq 12, 3) := by decide +kernel
theorem dX11_tells_8 : decode cX11_tells 8 = .ok (.iload_n 2, 1) := by decide +kernel
theorem dX11_tells_9 : decode cX11_tells 9 = .ok (.ifCond .lt 8, 3) := by decide +kernel
theorem dX11_tells_12 : decode cX11_tells 12 = .ok (.iload_n 2, 1) := by decide +kernel
theorem dX11_tells_13 : decode cX11_tells 13 = .ok (.iconst 1, 1) := by decide +kernel
theorem dX11_tells_14 : decode cX11_tells 14 = .ok (.if_icmp .le 5, 3) := by decide +kernel
theorem dX11_tells_17 : decode cX11_tells 17 = .ok (.iconst (-1), 1) := by decide +kernel
theorem dX11_tells_18 : decode cX11_tells 18 = .ok (.ireturn, 1) := by decide +kernel
theorem dX11_tells_19 : decode cX11_tells 19 = .ok (.iconst 0, 1) := by decide +kernel
theorem dX11_tells_20 : decode cX11_tells 20 = .ok (.istore_n 3, 1) := by decide +kernel
theorem dX11_tells_21 : decode cX11_tells 21 = .ok (.iconst (-1), 1) := by decide +kernel
theorem dX11_tells_22 : decode cX11_tells 22 = .ok (.istore 4, 2) := by decide +kernel
theorem dX11_tells_24 : decode cX11_tells 24 = .ok (.iconst 0, 1) := by decide +kernel
theorem dX11_tells_25 : decode cX11_tells 25 = .ok (.istore 5, 2) := by decide +kernel
theorem dX11_tells_27 : decode cX11_tells 27 = .ok (.iload 5, 2) := by decide +kernel
theorem dX11_tells_29 : decode cX11_tells 29 = .ok (.aload_n 0, 1) := by decide +kernel
theorem dX11_tells_30 : decode cX11_tells 30 = .ok (.getfield 19, 3) := by decide +kernel
theorem dX11_tells_33 : decode cX11_tells 33 = .ok (.invokevirtual 305, 3) := by decide +kernel
theorem dX11_tells_36 : decode cX11_tells 36 = .ok (.if_icmp .ge 50, 3) := by decide +kernel
theorem dX11_tells_39 : decode cX11_tells 39 = .ok (.aload_n 0, 1) := by decide +kernel
theorem dX11_tells_40 : decode cX11_tells 40 = .ok (.getfield 71, 3) := by decide +kernel
theorem dX11_tells_43 : decode cX11_tells 43 = .ok (.iload_n 1, 1) := by decide +kernel
theorem dX11_tells_44 : decode cX11_tells 44 = .ok (.iload 5, 2) := by decide +kernel
theorem dX11_tells_46 : decode cX11_tells 46 = .ok (.invokevirtual 213, 3) := by decide +kernel
theorem dX11_tells_49 : decode cX11_tells 49 = .ok (.aload_n 0, 1) := by decide +kernel
theorem dX11_tells_50 : decode cX11_tells 50 = .ok (.getfield 71, 3) := by decide +kernel
theorem dX11_tells_53 : decode cX11_tells 53 = .ok (.iconst 0, 1) := by decide +kernel
theorem dX11_tells_54 : decode cX11_tells 54 = .ok (.iload_n 1, 1) := by decide +kernel
theorem dX11_tells_55 : decode cX11_tells 55 = .ok (.iload 5, 2) := by decide +kernel
theorem dX11_tells_57 : decode cX11_tells 57 = .ok (.invokevirtual 326, 3) := by decide +kernel
theorem dX11_tells_60 : decode cX11_tells 60 = .ok (.isub, 1) := by decide +kernel
theorem dX11_tells_61 : decode cX11_tells 61 = .ok (.invokestatic 329, 3) := by decide +kernel
theorem dX11_tells_64 : decode cX11_tells 64 = .ok (.istore 6, 2) := by decide +kernel
theorem dX11_tells_66 : decode cX11_tells 66 = .ok (.iload 6, 2) := by decide +kernel
theorem dX11_tells_68 : decode cX11_tells 68 = .ok (.iload 4, 2) := by decide +kernel
theorem dX11_tells_70 : decode cX11_tells 70 = .ok (.if_icmp .le 10, 3) := by decide +kernel
theorem dX11_tells_73 : decode cX11_tells 73 = .ok (.iload 6, 2) := by decide +kernel
theorem dX11_tells_75 : decode cX11_tells 75 = .ok (.istore 4, 2) := by decide +kernel
theorem dX11_tells_77 : decode cX11_tells 77 = .ok (.iload 5, 2) := by decide +kernel
theorem dX11_tells_79 : decode cX11_tells 79 = .ok (.istore_n 3, 1) := by decide +kernel
theorem dX11_tells_80 : decode cX11_tells 80 = .ok (.iinc 5 1, 3) := by decide +kernel
theorem dX11_tells_83 : decode cX11_tells 83 = .ok (.goto (-56), 3) := by decide +kernel
theorem dX11_tells_86 : decode cX11_tells 86 = .ok (.iload_n 2, 1) := by decide +kernel
theorem dX11_tells_87 : decode cX11_tells 87 = .ok (.ifCond .ne 7, 3) := by decide +kernel
theorem dX11_tells_90 : decode cX11_tells 90 = .ok (.iload_n 3, 1) := by decide +kernel
theorem dX11_tells_91 : decode cX11_tells 91 = .ok (.goto 5, 3) := by decide +kernel
theorem dX11_tells_94 : decode cX11_tells 94 = .ok (.iload 4, 2) := by decide +kernel
theorem dX11_tells_96 : decode cX11_tells 96 = .ok (.ireturn, 1) := by decide +kernel
theorem dX11_meet_0 : decode cX11_meet 0 = .ok (.aload_n 0, 1) := by decide +kernel
theorem dX11_meet_1 : decode cX11_meet 1 = .ok (.iload_n 1, 1) := by decide +kernel
theorem dX11_meet_2 : decode cX11_meet 2 = .ok (.invokevirtual 178, 3) := by decide +kernel
theorem dX11_meet_5 : decode cX11_meet 5 = .ok (.ifCond .eq 16, 3) := by decide +kernel
theorem dX11_meet_8 : decode cX11_meet 8 = .ok (.aload_n 0, 1) := by decide +kernel
theorem dX11_meet_9 : decode cX11_meet 9 = .ok (.iload_n 2, 1) := by decide +kernel
theorem dX11_meet_10 : decode cX11_meet 10 = .ok (.invokevirtual 178, 3) := by decide +kernel
theorem dX11_meet_13 : decode cX11_meet 13 = .ok (.ifCond .eq 8, 3) := by decide +kernel
theorem dX11_meet_16 : decode cX11_meet 16 = .ok (.iload_n 1, 1) := by decide +kernel
theorem dX11_meet_17 : decode cX11_meet 17 = .ok (.iload_n 2, 1) := by decide +kernel
theorem dX11_meet_18 : decode cX11_meet 18 = .ok (.if_icmp .ne 5, 3) := by decide +kernel
theorem dX11_meet_21 : decode cX11_meet 21 = .ok (.iconst (-1), 1) := by decide +kernel
theorem dX11_meet_22 : decode cX11_meet 22 = .ok (.ireturn, 1) := by decide +kernel
theorem dX11_meet_23 : decode cX11_meet 23 = .ok (.ldc2_w 303, 3) := by decide +kernel
theorem dX11_meet_26 : decode cX11_meet 26 = .ok (.lstore_n 3, 1) := by decide +kernel
theorem dX11_meet_27 : decode cX11_meet 27 = .ok (.iconst 0, 1) := by decide +kernel
theorem dX11_meet_28 : decode cX11_meet 28 = .ok (.istore 5, 2) := by decide +kernel
theorem dX11_meet_30 : decode cX11_meet 30 = .ok (.iload 5, 2) := by decide +kernel
theorem dX11_meet_32 : decode cX11_meet 32 = .ok (.aload_n 0, 1) := by decide +kernel
theorem dX11_meet_33 : decode cX11_meet 33 = .ok (.getfield 19, 3) := by decide +kernel
theorem dX11_meet_36 : decode cX11_meet 36 = .ok (.invokevirtual 305, 3) := by decide +kernel
theorem dX11_meet_39 : decode cX11_meet 39 = .ok (.if_icmp .ge 41, 3) := by decide +kernel
theorem dX11_meet_42 : decode cX11_meet 42 = .ok (.lload_n 3, 1) := by decide +kernel
theorem dX11_meet_43 : decode cX11_meet 43 = .ok (.lload_n 3, 1) := by decide +kernel
theorem dX11_meet_44 : decode cX11_meet 44 = .ok (.aload_n 0, 1) := by decide +kernel
theorem dX11_meet_45 : decode cX11_meet 45 = .ok (.getfield 71, 3) := by decide +kernel
theorem dX11_meet_48 : decode cX11_meet 48 = .ok (.iload_n 1, 1) := by decide +kernel
theorem dX11_meet_49 : decode cX11_meet 49 = .ok (.iload 5, 2) := by decide +kernel
theorem dX11_meet_51 : decode cX11_meet 51 = .ok (.invokevirtual 213, 3) := by decide +kernel
theorem dX11_meet_54 : decode cX11_meet 54 = .ok (.i2l, 1) := by decide +kernel
theorem dX11_meet_55 : decode cX11_meet 55 = .ok (.lmul, 1) := by decide +kernel
theorem dX11_meet_56 : decode cX11_meet 56 = .ok (.aload_n 0, 1) := by decide +kernel
theorem dX11_meet_57 : decode cX11_meet 57 = .ok (.getfield 71, 3) := by decide +kernel
theorem dX11_meet_60 : decode cX11_meet 60 = .ok (.iload_n 2, 1) := by decide +kernel
theorem dX11_meet_61 : decode cX11_meet 61 = .ok (.iload 5, 2) := by decide +kernel
theorem dX11_meet_63 : decode cX11_meet 63 = .ok (.invokevirtual 213, 3) := by decide +kernel
theorem dX11_meet_66 : decode cX11_meet 66 = .ok (.i2l, 1) := by decide +kernel
theorem dX11_meet_67 : decode cX11_meet 67 = .ok (.lmul, 1) := by decide +kernel
theorem dX11_meet_68 : decode cX11_meet 68 = .ok (.ldc2_w 334, 3) := by decide +kernel
theorem dX11_meet_71 : decode cX11_meet 71 = .ok (.ldiv, 1) := by decide +kernel
theorem dX11_meet_72 : decode cX11_meet 72 = .ok (.lsub, 1) := by decide +kernel
theorem dX11_meet_73 : decode cX11_meet 73 = .ok (.lstore_n 3, 1) := by decide +kernel
theorem dX11_meet_74 : decode cX11_meet 74 = .ok (.iinc 5 1, 3) := by decide +kernel
theorem dX11_meet_77 : decode cX11_meet 77 = .ok (.goto (-47), 3) := by decide +kernel
theorem dX11_meet_80 : decode cX11_meet 80 = .ok (.ldc2_w 303, 3) := by decide +kernel
theorem dX11_meet_83 : decode cX11_meet 83 = .ok (.lload_n 3, 1) := by decide +kernel
theorem dX11_meet_84 : decode cX11_meet 84 = .ok (.lsub, 1) := by decide +kernel
theorem dX11_meet_85 : decode cX11_meet 85 = .ok (.l2i, 1) := by decide +kernel
theorem dX11_meet_86 : decode cX11_meet 86 = .ok (.ireturn, 1) := by decide +kernel
theorem dX11_needs_0 : decode cX11_needs 0 = .ok (.aload_n 0, 1) := by decide +kernel
theorem dX11_needs_1 : decode cX11_needs 1 = .ok (.iload_n 1, 1) := by decide +kernel
theorem dX11_needs_2 : decode cX11_needs 2 = .ok (.invokevirtual 178, 3) := by decide +kernel
theorem dX11_needs_5 : decode cX11_needs 5 = .ok (.ifCond .eq 21, 3) := by decide +kernel
theorem dX11_needs_8 : decode cX11_needs 8 = .ok (.aload_n 0, 1) := by decide +kernel
theorem dX11_needs_9 : decode cX11_needs 9 = .ok (.iload_n 2, 1) := by decide +kernel
theorem dX11_needs_10 : decode cX11_needs 10 = .ok (.invokevirtual 210, 3) := by decide +kernel
theorem dX11_needs_13 : decode cX11_needs 13 = .ok (.ifCond .eq 13, 3) := by decide +kernel
theorem dX11_needs_16 : decode cX11_needs 16 = .ok (.iload_n 3, 1) := by decide +kernel
theorem dX11_needs_17 : decode cX11_needs 17 = .ok (.ifCond .lt 9, 3) := by decide +kernel
theorem dX11_needs_20 : decode cX11_needs 20 = .ok (.iload_n 3, 1) := by decide +kernel
theorem dX11_needs_21 : decode cX11_needs 21 = .ok (.bipush 10, 2) := by decide +kernel
theorem dX11_needs_23 : decode cX11_needs 23 = .ok (.if_icmp .le 5, 3) := by decide +kernel
theorem dX11_needs_26 : decode cX11_needs 26 = .ok (.iconst (-1), 1) := by decide +kernel
theorem dX11_needs_27 : decode cX11_needs 27 = .ok (.ireturn, 1) := by decide +kernel
theorem dX11_needs_28 : decode cX11_needs 28 = .ok (.iconst 0, 1) := by decide +kernel
theorem dX11_needs_29 : decode cX11_needs 29 = .ok (.istore 4, 2) := by decide +kernel
theorem dX11_needs_31 : decode cX11_needs 31 = .ok (.iload 4, 2) := by decide +kernel
theorem dX11_needs_33 : decode cX11_needs 33 = .ok (.bipush 9, 2) := by decide +kernel
theorem dX11_needs_35 : decode cX11_needs 35 = .ok (.if_icmp .gt 36, 3) := by decide +kernel
theorem dX11_needs_38 : decode cX11_needs 38 = .ok (.aload_n 0, 1) := by decide +kernel
theorem dX11_needs_39 : decode cX11_needs 39 = .ok (.getfield 71, 3) := by decide +kernel
theorem dX11_needs_42 : decode cX11_needs 42 = .ok (.iload_n 1, 1) := by decide +kernel
theorem dX11_needs_43 : decode cX11_needs 43 = .ok (.iload_n 2, 1) := by decide +kernel
theorem dX11_needs_44 : decode cX11_needs 44 = .ok (.aload_n 0, 1) := by decide +kernel
theorem dX11_needs_45 : decode cX11_needs 45 = .ok (.getfield 29, 3) := by decide +kernel
theorem dX11_needs_48 : decode cX11_needs 48 = .ok (.iload_n 1, 1) := by decide +kernel
theorem dX11_needs_49 : decode cX11_needs 49 = .ok (.iconst 0, 1) := by decide +kernel
theorem dX11_needs_50 : decode cX11_needs 50 = .ok (.invokevirtual 188, 3) := by decide +kernel
theorem dX11_needs_53 : decode cX11_needs 53 = .ok (.iload 4, 2) := by decide +kernel
theorem dX11_needs_55 : decode cX11_needs 55 = .ok (.invokevirtual 336, 3) := by decide +kernel
theorem dX11_needs_58 : decode cX11_needs 58 = .ok (.iload_n 3, 1) := by decide +kernel
theorem dX11_needs_59 : decode cX11_needs 59 = .ok (.if_icmp .lt 6, 3) := by decide +kernel
theorem dX11_needs_62 : decode cX11_needs 62 = .ok (.iload 4, 2) := by decide +kernel
theorem dX11_needs_64 : decode cX11_needs 64 = .ok (.ireturn, 1) := by decide +kernel
theorem dX11_needs_65 : decode cX11_needs 65 = .ok (.iinc 4 1, 3) := by decide +kernel
theorem dX11_needs_68 : decode cX11_needs 68 = .ok (.goto (-37), 3) := by decide +kernel
theorem dX11_needs_71 : decode cX11_needs 71 = .ok (.iconst (-1), 1) := by decide +kernel
theorem dX11_needs_72 : decode cX11_needs 72 = .ok (.ireturn, 1) := by decide +kernel
theorem dX11_lamp_0 : decode cX11_lamp 0 = .ok (.aload_n 0, 1) := by decide +kernel
theorem dX11_lamp_1 : decode cX11_lamp 1 = .ok (.iload_n 1, 1) := by decide +kernel
theorem dX11_lamp_2 : decode cX11_lamp 2 = .ok (.invokevirtual 178, 3) := by decide +kernel
theorem dX11_lamp_5 : decode cX11_lamp 5 = .ok (.ifCond .eq 24, 3) := by decide +kernel
theorem dX11_lamp_8 : decode cX11_lamp 8 = .ok (.aload_n 0, 1) := by decide +kernel
theorem dX11_lamp_9 : decode cX11_lamp 9 = .ok (.iload_n 2, 1) := by decide +kernel
theorem dX11_lamp_10 : decode cX11_lamp 10 = .ok (.invokevirtual 210, 3) := by decide +kernel
theorem dX11_lamp_13 : decode cX11_lamp 13 = .ok (.ifCond .eq 16, 3) := by decide +kernel
theorem dX11_lamp_16 : decode cX11_lamp 16 = .ok (.aload_n 0, 1) := by decide +kernel
theorem dX11_lamp_17 : decode cX11_lamp 17 = .ok (.getfield 89, 3) := by decide +kernel
theorem dX11_lamp_20 : decode cX11_lamp 20 = .ok (.iload_n 1, 1) := by decide +kernel
theorem dX11_lamp_21 : decode cX11_lamp 21 = .ok (.iload_n 2, 1) := by decide +kernel
theorem dX11_lamp_22 : decode cX11_lamp 22 = .ok (.iload_n 3, 1) := by decide +kernel
theorem dX11_lamp_23 : decode cX11_lamp 23 = .ok (.invokevirtual 340, 3) := by decide +kernel
theorem dX11_lamp_26 : decode cX11_lamp 26 = .ok (.goto 4, 3) := by decide +kernel
theorem dX11_lamp_29 : decode cX11_lamp 29 = .ok (.iconst (-1), 1) := by decide +kernel
theorem dX11_lamp_30 : decode cX11_lamp 30 = .ok (.ireturn, 1) := by decide +kernel
theorem dX11_who_0 : decode cX11_who 0 = .ok (.aload_n 0, 1) := by decide +kernel
theorem dX11_who_1 : decode cX11_who 1 = .ok (.invokevirtual 172, 3) := by decide +kernel
theorem dX11_who_4 : decode cX11_who 4 = .ok (.ifCond .eq 23, 3) := by decide +kernel
theorem dX11_who_7 : decode cX11_who 7 = .ok (.iload_n 1, 1) := by decide +kernel
theorem dX11_who_8 : decode cX11_who 8 = .ok (.iconst 1, 1) := by decide +kernel
theorem dX11_who_9 : decode cX11_who 9 = .ok (.if_icmp .lt 18, 3) := by decide +kernel
theorem dX11_who_12 : decode cX11_who 12 = .ok (.iload_n 1, 1) := by decide +kernel
theorem dX11_who_13 : decode cX11_who 13 = .ok (.bipush 9, 2) := by decide +kernel
theorem dX11_who_15 : decode cX11_who 15 = .ok (.if_icmp .gt 12, 3) := by decide +kernel
theorem dX11_who_18 : decode cX11_who 18 = .ok (.iload_n 2, 1) := by decide +kernel
theorem dX11_who_19 : decode cX11_who 19 = .ok (.ifCond .lt 8, 3) := by decide +kernel
theorem dX11_who_22 : decode cX11_who 22 = .ok (.iload_n 2, 1) := by decide +kernel
theorem dX11_who_23 : decode cX11_who 23 = .ok (.iconst 2, 1) := by decide +kernel
theorem dX11_who_24 : decode cX11_who 24 = .ok (.if_icmp .le 5, 3) := by decide +kernel
theorem dX11_who_27 : decode cX11_who 27 = .ok (.iconst (-1), 1) := by decide +kernel
theorem dX11_who_28 : decode cX11_who 28 = .ok (.ireturn, 1) := by decide +kernel
theorem dX11_who_29 : decode cX11_who 29 = .ok (.aload_n 0, 1) := by decide +kernel
theorem dX11_who_30 : decode cX11_who 30 = .ok (.getfield 89, 3) := by decide +kernel
theorem dX11_who_33 : decode cX11_who 33 = .ok (.iload_n 1, 1) := by decide +kernel
theorem dX11_who_34 : decode cX11_who 34 = .ok (.invokevirtual 343, 3) := by decide +kernel
theorem dX11_who_37 : decode cX11_who 37 = .ok (.iload_n 2, 1) := by decide +kernel
theorem dX11_who_38 : decode cX11_who 38 = .ok (.ifCond .ne 11, 3) := by decide +kernel
theorem dX11_who_41 : decode cX11_who 41 = .ok (.aload_n 0, 1) := by decide +kernel
theorem dX11_who_42 : decode cX11_who 42 = .ok (.getfield 89, 3) := by decide +kernel
theorem dX11_who_45 : decode cX11_who 45 = .ok (.invokevirtual 346, 3) := by decide +kernel
theorem dX11_who_48 : decode cX11_who 48 = .ok (.ireturn, 1) := by decide +kernel
theorem dX11_who_49 : decode cX11_who 49 = .ok (.iload_n 2, 1) := by decide +kernel
theorem dX11_who_50 : decode cX11_who 50 = .ok (.iconst 1, 1) := by decide +kernel
theorem dX11_who_51 : decode cX11_who 51 = .ok (.if_icmp .ne 13, 3) := by decide +kernel
theorem dX11_who_54 : decode cX11_who 54 = .ok (.aload_n 0, 1) := by decide +kernel
theorem dX11_who_55 : decode cX11_who 55 = .ok (.getfield 89, 3) := by decide +kernel
theorem dX11_who_58 : decode cX11_who 58 = .ok (.invokevirtual 349, 3) := by decide +kernel
theorem dX11_who_61 : decode cX11_who 61 = .ok (.goto 11, 3) := by decide +kernel
theorem dX11_who_64 : decode cX11_who 64 = .ok (.aload_n 0, 1) := by decide +kernel
theorem dX11_who_65 : decode cX11_who 65 = .ok (.getfield 89, 3) := by decide +kernel
theorem dX11_who_68 : decode cX11_who 68 = .ok (.iload_n 1, 1) := by decide +kernel
theorem dX11_who_69 : decode cX11_who 69 = .ok (.invokevirtual 352, 3) := by decide +kernel
theorem dX11_who_72 : decode cX11_who 72 = .ok (.ireturn, 1) := by decide +kernel
theorem dX11_timetable_0 : decode cX11_timetable 0 = .ok (.aload_n 0, 1) := by decide +kernel
theorem dX11_timetable_1 : decode cX11_timetable 1 = .ok (.invokevirtual 172, 3) := by decide +kernel
theorem dX11_timetable_4 : decode cX11_timetable 4 = .ok (.ifCond .eq 22, 3) := by decide +kernel
theorem dX11_timetable_7 : decode cX11_timetable 7 = .ok (.iload_n 1, 1) := by decide +kernel
theorem dX11_timetable_8 : decode cX11_timetable 8 = .ok (.iconst 1, 1) := by decide +kernel
theorem dX11_timetable_9 : decode cX11_timetable 9 = .ok (.if_icmp .lt 17, 3) := by decide +kernel
theorem dX11_timetable_12 : decode cX11_timetable 12 = .ok (.iload_n 1, 1) := by decide +kernel
theorem dX11_timetable_13 : decode cX11_timetable 13 = .ok (.iconst 2, 1) := by decide +kernel
theorem dX11_timetable_14 : decode cX11_timetable 14 = .ok (.if_icmp .gt 12, 3) := by decide +kernel
theorem dX11_timetable_17 : decode cX11_timetable 17 = .ok (.iload_n 2, 1) := by decide +kernel
theorem dX11_timetable_18 : decode cX11_timetable 18 = .ok (.ifCond .lt 8, 3) := by decide +kernel
theorem dX11_timetable_21 : decode cX11_timetable 21 = .ok (.iload_n 2, 1) := by decide +kernel
theorem dX11_timetable_22 : decode cX11_timetable 22 = .ok (.iconst 1, 1) := by decide +kernel
theorem dX11_timetable_23 : decode cX11_timetable 23 = .ok (.if_icmp .le 5, 3) := by decide +kernel
theorem dX11_timetable_26 : decode cX11_timetable 26 = .ok (.iconst (-1), 1) := by decide +kernel
theorem dX11_timetable_27 : decode cX11_timetable 27 = .ok (.ireturn, 1) := by decide +kernel
theorem dX11_timetable_28 : decode cX11_timetable 28 = .ok (.aload_n 0, 1) := by decide +kernel
theorem dX11_timetable_29 : decode cX11_timetable 29 = .ok (.getfield 98, 3) := by decide +kernel
theorem dX11_timetable_32 : decode cX11_timetable 32 = .ok (.iload_n 1, 1) := by decide +kernel
theorem dX11_timetable_33 : decode cX11_timetable 33 = .ok (.invokevirtual 355, 3) := by decide +kernel
theorem dX11_timetable_36 : decode cX11_timetable 36 = .ok (.istore_n 3, 1) := by decide +kernel
theorem dX11_timetable_37 : decode cX11_timetable 37 = .ok (.iload_n 3, 1) := by decide +kernel
theorem dX11_timetable_38 : decode cX11_timetable 38 = .ok (.iconst (-1), 1) := by decide +kernel
theorem dX11_timetable_39 : decode cX11_timetable 39 = .ok (.if_icmp .eq 8, 3) := by decide +kernel
theorem dX11_timetable_42 : decode cX11_timetable 42 = .ok (.iload_n 2, 1) := by decide +kernel
theorem dX11_timetable_43 : decode cX11_timetable 43 = .ok (.iconst 1, 1) := by decide +kernel
theorem dX11_timetable_44 : decode cX11_timetable 44 = .ok (.if_icmp .ne 7, 3) := by decide +kernel
theorem dX11_timetable_47 : decode cX11_timetable 47 = .ok (.iload_n 3, 1) := by decide +kernel
theorem dX11_timetable_48 : decode cX11_timetable 48 = .ok (.goto 10, 3) := by decide +kernel
theorem dX11_timetable_51 : decode cX11_timetable 51 = .ok (.aload_n 0, 1) := by decide +kernel
theorem dX11_timetable_52 : decode cX11_timetable 52 = .ok (.getfield 98, 3) := by decide +kernel
theorem dX11_timetable_55 : decode cX11_timetable 55 = .ok (.invokevirtual 358, 3) := by decide +kernel
theorem dX11_timetable_58 : decode cX11_timetable 58 = .ok (.ireturn, 1) := by decide +kernel
theorem dX11_candle_0 : decode cX11_candle 0 = .ok (.aload_n 0, 1) := by decide +kernel
theorem dX11_candle_1 : decode cX11_candle 1 = .ok (.iload_n 1, 1) := by decide +kernel
theorem dX11_candle_2 : decode cX11_candle 2 = .ok (.invokevirtual 178, 3) := by decide +kernel
theorem dX11_candle_5 : decode cX11_candle 5 = .ok (.ifCond .eq 18, 3) := by decide +kernel
theorem dX11_candle_8 : decode cX11_candle 8 = .ok (.iload_n 2, 1) := by decide +kernel
theorem dX11_candle_9 : decode cX11_candle 9 = .ok (.ifCond .lt 14, 3) := by decide +kernel
theorem dX11_candle_12 : decode cX11_candle 12 = .ok (.iload_n 2, 1) := by decide +kernel
theorem dX11_candle_13 : decode cX11_candle 13 = .ok (.bipush 9, 2) := by decide +kernel
theorem dX11_candle_15 : decode cX11_candle 15 = .ok (.if_icmp .gt 8, 3) := by decide +kernel
theorem dX11_candle_18 : decode cX11_candle 18 = .ok (.iload_n 3, 1) := by decide +kernel
theorem dX11_candle_19 : decode cX11_candle 19 = .ok (.iconst (-1), 1) := by decide +kernel
theorem dX11_candle_20 : decode cX11_candle 20 = .ok (.if_icmp .ge 5, 3) := by decide +kernel
theorem dX11_candle_23 : decode cX11_candle 23 = .ok (.iconst (-1), 1) := by decide +kernel
theorem dX11_candle_24 : decode cX11_candle 24 = .ok (.ireturn, 1) := by decide +kernel
theorem dX11_candle_25 : decode cX11_candle 25 = .ok (.aload_n 0, 1) := by decide +kernel
theorem dX11_candle_26 : decode cX11_candle 26 = .ok (.getfield 89, 3) := by decide +kernel
theorem dX11_candle_29 : decode cX11_candle 29 = .ok (.iload_n 1, 1) := by decide +kernel
theorem dX11_candle_30 : decode cX11_candle 30 = .ok (.invokevirtual 361, 3) := by decide +kernel
theorem dX11_candle_33 : decode cX11_candle 33 = .ok (.iconst 0, 1) := by decide +kernel
theorem dX11_candle_34 : decode cX11_candle 34 = .ok (.istore 4, 2) := by decide +kernel
theorem dX11_candle_36 : decode cX11_candle 36 = .ok (.iconst 0, 1) := by decide +kernel
theorem dX11_candle_37 : decode cX11_candle 37 = .ok (.istore 5, 2) := by decide +kernel
theorem dX11_candle_39 : decode cX11_candle 39 = .ok (.iload 5, 2) := by decide +kernel
theorem dX11_candle_41 : decode cX11_candle 41 = .ok (.iconst 1, 1) := by decide +kernel
theorem dX11_candle_42 : decode cX11_candle 42 = .ok (.aload_n 0, 1) := by decide +kernel
theorem dX11_candle_43 : decode cX11_candle 43 = .ok (.getfield 19, 3) := by decide +kernel
theorem dX11_candle_46 : decode cX11_candle 46 = .ok (.invokevirtual 305, 3) := by decide +kernel
theorem dX11_candle_49 : decode cX11_candle 49 = .ok (.ishl, 1) := by decide +kernel
theorem dX11_candle_50 : decode cX11_candle 50 = .ok (.if_icmp .ge 34, 3) := by decide +kernel
theorem dX11_candle_53 : decode cX11_candle 53 = .ok (.aload_n 0, 1) := by decide +kernel
theorem dX11_candle_54 : decode cX11_candle 54 = .ok (.getfield 89, 3) := by decide +kernel
theorem dX11_candle_57 : decode cX11_candle 57 = .ok (.iload 5, 2) := by decide +kernel
theorem dX11_candle_59 : decode cX11_candle 59 = .ok (.iload_n 2, 1) := by decide +kernel
theorem dX11_candle_60 : decode cX11_candle 60 = .ok (.invokevirtual 364, 3) := by decide +kernel
theorem dX11_candle_63 : decode cX11_candle 63 = .ok (.ifCond .eq 15, 3) := by decide +kernel
theorem dX11_candle_66 : decode cX11_candle 66 = .ok (.iload 4, 2) := by decide +kernel
theorem dX11_candle_68 : decode cX11_candle 68 = .ok (.iload_n 3, 1) := by decide +kernel
theorem dX11_candle_69 : decode cX11_candle 69 = .ok (.if_icmp .ne 6, 3) := by decide +kernel
theorem dX11_candle_72 : decode cX11_candle 72 = .ok (.iload 5, 2) := by decide +kernel
theorem dX11_candle_74 : decode cX11_candle 74 = .ok (.ireturn, 1) := by decide +kernel
theorem dX11_candle_75 : decode cX11_candle 75 = .ok (.iinc 4 1, 3) := by decide +kernel
theorem dX11_candle_78 : decode cX11_candle 78 = .ok (.iinc 5 1, 3) := by decide +kernel
theorem dX11_candle_81 : decode cX11_candle 81 = .ok (.goto (-42), 3) := by decide +kernel
theorem dX11_candle_84 : decode cX11_candle 84 = .ok (.iload_n 3, 1) := by decide +kernel
theorem dX11_candle_85 : decode cX11_candle 85 = .ok (.iconst (-1), 1) := by decide +kernel
theorem dX11_candle_86 : decode cX11_candle 86 = .ok (.if_icmp .ne 8, 3) := by decide +kernel
theorem dX11_candle_89 : decode cX11_candle 89 = .ok (.iload 4, 2) := by decide +kernel
theorem dX11_candle_91 : decode cX11_candle 91 = .ok (.goto 4, 3) := by decide +kernel
theorem dX11_candle_94 : decode cX11_candle 94 = .ok (.iconst (-1), 1) := by decide +kernel
theorem dX11_candle_95 : decode cX11_candle 95 = .ok (.ireturn, 1) := by decide +kernel
theorem dX11_likeliest_0 : decode cX11_likeliest 0 = .ok (.aload_n 0, 1) := by decide +kernel
theorem dX11_likeliest_1 : decode cX11_likeliest 1 = .ok (.iload_n 1, 1) := by decide +kernel
theorem dX11_likeliest_2 : decode cX11_likeliest 2 = .ok (.invokevirtual 178, 3) := by decide +kernel
theorem dX11_likeliest_5 : decode cX11_likeliest 5 = .ok (.ifCond .eq 13, 3) := by decide +kernel
theorem dX11_likeliest_8 : decode cX11_likeliest 8 = .ok (.iload_n 2, 1) := by decide +kernel
theorem dX11_likeliest_9 : decode cX11_likeliest 9 = .ok (.ifCond .lt 9, 3) := by decide +kernel
theorem dX11_likeliest_12 : decode cX11_likeliest 12 = .ok (.iload_n 2, 1) := by decide +kernel
theorem dX11_likeliest_13 : decode cX11_likeliest 13 = .ok (.bipush 9, 2) := by decide +kernel
theorem dX11_likeliest_15 : decode cX11_likeliest 15 = .ok (.if_icmp .le 5, 3) := by decide +kernel
theorem dX11_likeliest_18 : decode cX11_likeliest 18 = .ok (.iconst (-1), 1) := by decide +kernel
theorem dX11_likeliest_19 : decode cX11_likeliest 19 = .ok (.ireturn, 1) := by decide +kernel
theorem dX11_likeliest_20 : decode cX11_likeliest 20 = .ok (.aload_n 0, 1) := by decide +kernel
theorem dX11_likeliest_21 : decode cX11_likeliest 21 = .ok (.getfield 89, 3) := by decide +kernel
theorem dX11_likeliest_24 : decode cX11_likeliest 24 = .ok (.iload_n 1, 1) := by decide +kernel
theorem dX11_likeliest_25 : decode cX11_likeliest 25 = .ok (.invokevirtual 361, 3) := by decide +kernel
theorem dX11_likeliest_28 : decode cX11_likeliest 28 = .ok (.iconst (-1), 1) := by decide +kernel
theorem dX11_likeliest_29 : decode cX11_likeliest 29 = .ok (.istore_n 3, 1) := by decide +kernel
theorem dX11_likeliest_30 : decode cX11_likeliest 30 = .ok (.lconst 0, 1) := by decide +kernel
theorem dX11_likeliest_31 : decode cX11_likeliest 31 = .ok (.lstore 4, 2) := by decide +kernel
theorem dX11_likeliest_33 : decode cX11_likeliest 33 = .ok (.iconst 0, 1) := by decide +kernel
theorem dX11_likeliest_34 : decode cX11_likeliest 34 = .ok (.istore 6, 2) := by decide +kernel
theorem dX11_likeliest_36 : decode cX11_likeliest 36 = .ok (.iload 6, 2) := by decide +kernel
theorem dX11_likeliest_38 : decode cX11_likeliest 38 = .ok (.iconst 1, 1) := by decide +kernel
theorem dX11_likeliest_39 : decode cX11_likeliest 39 = .ok (.aload_n 0, 1) := by decide +kernel
theorem dX11_likeliest_40 : decode cX11_likeliest 40 = .ok (.getfield 19, 3) := by decide +kernel
theorem dX11_likeliest_43 : decode cX11_likeliest 43 = .ok (.invokevirtual 305, 3) := by decide +kernel
theorem dX11_likeliest_46 : decode cX11_likeliest 46 = .ok (.ishl, 1) := by decide +kernel
theorem dX11_likeliest_47 : decode cX11_likeliest 47 = .ok (.if_icmp .ge 56, 3) := by decide +kernel
theorem dX11_likeliest_50 : decode cX11_likeliest 50 = .ok (.aload_n 0, 1) := by decide +kernel
theorem dX11_likeliest_51 : decode cX11_likeliest 51 = .ok (.getfield 89, 3) := by decide +kernel
theorem dX11_likeliest_54 : decode cX11_likeliest 54 = .ok (.iload 6, 2) := by decide +kernel
theorem dX11_likeliest_56 : decode cX11_likeliest 56 = .ok (.iload_n 2, 1) := by decide +kernel
theorem dX11_likeliest_57 : decode cX11_likeliest 57 = .ok (.invokevirtual 364, 3) := by decide +kernel
theorem dX11_likeliest_60 : decode cX11_likeliest 60 = .ok (.ifCond .eq 37, 3) := by decide +kernel
theorem dX11_likeliest_63 : decode cX11_likeliest 63 = .ok (.iload_n 3, 1) := by decide +kernel
theorem dX11_likeliest_64 : decode cX11_likeliest 64 = .ok (.iconst (-1), 1) := by decide +kernel
theorem dX11_likeliest_65 : decode cX11_likeliest 65 = .ok (.if_icmp .eq 18, 3) := by decide +kernel
theorem dX11_likeliest_68 : decode cX11_likeliest 68 = .ok (.aload_n 0, 1) := by decide +kernel
theorem dX11_likeliest_69 : decode cX11_likeliest 69 = .ok (.getfield 89, 3) := by decide +kernel
theorem dX11_likeliest_72 : decode cX11_likeliest 72 = .ok (.iload 6, 2) := by decide +kernel
theorem dX11_likeliest_74 : decode cX11_likeliest 74 = .ok (.invokevirtual 367, 3) := by decide +kernel
theorem dX11_likeliest_77 : decode cX11_likeliest 77 = .ok (.lload 4, 2) := by decide +kernel
theorem dX11_likeliest_79 : decode cX11_likeliest 79 = .ok (.lcmp, 1) := by decide +kernel
theorem dX11_likeliest_80 : decode cX11_likeliest 80 = .ok (.ifCond .le 17, 3) := by decide +kernel
theorem dX11_likeliest_83 : decode cX11_likeliest 83 = .ok (.iload 6, 2) := by decide +kernel
theorem dX11_likeliest_85 : decode cX11_likeliest 85 = .ok (.istore_n 3, 1) := by decide +kernel
theorem dX11_likeliest_86 : decode cX11_likeliest 86 = .ok (.aload_n 0, 1) := by decide +kernel
theorem dX11_likeliest_87 : decode cX11_likeliest 87 = .ok (.getfield 89, 3) := by decide +kernel
theorem dX11_likeliest_90 : decode cX11_likeliest 90 = .ok (.iload 6, 2) := by decide +kernel
theorem dX11_likeliest_92 : decode cX11_likeliest 92 = .ok (.invokevirtual 367, 3) := by decide +kernel
theorem dX11_likeliest_95 : decode cX11_likeliest 95 = .ok (.lstore 4, 2) := by decide +kernel
theorem dX11_likeliest_97 : decode cX11_likeliest 97 = .ok (.iinc 6 1, 3) := by decide +kernel
theorem dX11_likeliest_100 : decode cX11_likeliest 100 = .ok (.goto (-64), 3) := by decide +kernel
theorem dX11_likeliest_103 : decode cX11_likeliest 103 = .ok (.iload_n 3, 1) := by decide +kernel
theorem dX11_likeliest_104 : decode cX11_likeliest 104 = .ok (.ireturn, 1) := by decide +kernel
theorem dX11_couple_0 : decode cX11_couple 0 = .ok (.aload_n 0, 1) := by decide +kernel
theorem dX11_couple_1 : decode cX11_couple 1 = .ok (.iload_n 1, 1) := by decide +kernel
theorem dX11_couple_2 : decode cX11_couple 2 = .ok (.invokevirtual 371, 3) := by decide +kernel
theorem dX11_couple_5 : decode cX11_couple 5 = .ok (.ifCond .eq 25, 3) := by decide +kernel
theorem dX11_couple_8 : decode cX11_couple 8 = .ok (.iload_n 2, 1) := by decide +kernel
theorem dX11_couple_9 : decode cX11_couple 9 = .ok (.invokestatic 374, 3) := by decide +kernel
theorem dX11_couple_12 : decode cX11_couple 12 = .ok (.ifCond .eq 18, 3) := by decide +kernel
theorem dX11_couple_15 : decode cX11_couple 15 = .ok (.iload_n 3, 1) := by decide +kernel
theorem dX11_couple_16 : decode cX11_couple 16 = .ok (.invokestatic 374, 3) := by decide +kernel
theorem dX11_couple_19 : decode cX11_couple 19 = .ok (.ifCond .eq 11, 3) := by decide +kernel
theorem dX11_couple_22 : decode cX11_couple 22 = .ok (.iload 4, 2) := by decide +kernel
theorem dX11_couple_24 : decode cX11_couple 24 = .ok (.invokestatic 374, 3) := by decide +kernel
theorem dX11_couple_27 : decode cX11_couple 27 = .ok (.ifCond .ne 6, 3) := by decide +kernel
theorem dX11_couple_30 : decode cX11_couple 30 = .ok (.ldc 206, 2) := by decide +kernel
theorem dX11_couple_32 : decode cX11_couple 32 = .ok (.ireturn, 1) := by decide +kernel
theorem dX11_couple_33 : decode cX11_couple 33 = .ok (.iload 4, 2) := by decide +kernel
theorem dX11_couple_35 : decode cX11_couple 35 = .ok (.ifCond .ne 7, 3) := by decide +kernel
theorem dX11_couple_38 : decode cX11_couple 38 = .ok (.iload_n 1, 1) := by decide +kernel
theorem dX11_couple_39 : decode cX11_couple 39 = .ok (.goto 11, 3) := by decide +kernel
theorem dX11_couple_42 : decode cX11_couple 42 = .ok (.aload_n 0, 1) := by decide +kernel
theorem dX11_couple_43 : decode cX11_couple 43 = .ok (.getfield 19, 3) := by decide +kernel
theorem dX11_couple_46 : decode cX11_couple 46 = .ok (.iload_n 1, 1) := by decide +kernel
theorem dX11_couple_47 : decode cX11_couple 47 = .ok (.invokevirtual 194, 3) := by decide +kernel
theorem dX11_couple_50 : decode cX11_couple 50 = .ok (.istore 5, 2) := by decide +kernel
theorem dX11_couple_52 : decode cX11_couple 52 = .ok (.aload_n 0, 1) := by decide +kernel
theorem dX11_couple_53 : decode cX11_couple 53 = .ok (.getfield 71, 3) := by decide +kernel
theorem dX11_couple_56 : decode cX11_couple 56 = .ok (.iload 5, 2) := by decide +kernel
theorem dX11_couple_58 : decode cX11_couple 58 = .ok (.aload_n 0, 1) := by decide +kernel
theorem dX11_couple_59 : decode cX11_couple 59 = .ok (.getfield 71, 3) := by decide +kernel
theorem dX11_couple_62 : decode cX11_couple 62 = .ok (.invokevirtual 240, 3) := by decide +kernel
theorem dX11_couple_65 : decode cX11_couple 65 = .ok (.invokevirtual 243, 3) := by decide +kernel
theorem dX11_couple_68 : decode cX11_couple 68 = .ok (.istore 6, 2) := by decide +kernel
theorem dX11_couple_70 : decode cX11_couple 70 = .ok (.iload 4, 2) := by decide +kernel
theorem dX11_couple_72 : decode cX11_couple 72 = .ok (.ifCond .ne 13, 3) := by decide +kernel
theorem dX11_couple_75 : decode cX11_couple 75 = .ok (.iload 6, 2) := by decide +kernel
theorem dX11_couple_77 : decode cX11_couple 77 = .ok (.iload_n 2, 1) := by decide +kernel
theorem dX11_couple_78 : decode cX11_couple 78 = .ok (.iload_n 3, 1) := by decide +kernel
theorem dX11_couple_79 : decode cX11_couple 79 = .ok (.invokestatic 377, 3) := by decide +kernel
theorem dX11_couple_82 : decode cX11_couple 82 = .ok (.goto 10, 3) := by decide +kernel
theorem dX11_couple_85 : decode cX11_couple 85 = .ok (.iload 6, 2) := by decide +kernel
theorem dX11_couple_87 : decode cX11_couple 87 = .ok (.iload_n 3, 1) := by decide +kernel
theorem dX11_couple_88 : decode cX11_couple 88 = .ok (.iload_n 2, 1) := by decide +kernel
theorem dX11_couple_89 : decode cX11_couple 89 = .ok (.invokestatic 377, 3) := by decide +kernel
theorem dX11_couple_92 : decode cX11_couple 92 = .ok (.ireturn, 1) := by decide +kernel
theorem dX11_share_0 : decode cX11_share 0 = .ok (.iload_n 0, 1) := by decide +kernel
theorem dX11_share_1 : decode cX11_share 1 = .ok (.iconst 0, 1) := by decide +kernel
theorem dX11_share_2 : decode cX11_share 2 = .ok (.invokestatic 380, 3) := by decide +kernel
theorem dX11_share_5 : decode cX11_share 5 = .ok (.iconst 2, 1) := by decide +kernel
theorem dX11_share_6 : decode cX11_share 6 = .ok (.idiv, 1) := by decide +kernel
theorem dX11_share_7 : decode cX11_share 7 = .ok (.ineg, 1) := by decide +kernel
theorem dX11_share_8 : decode cX11_share 8 = .ok (.istore_n 3, 1) := by decide +kernel
theorem dX11_share_9 : decode cX11_share 9 = .ok (.iload_n 2, 1) := by decide +kernel
theorem dX11_share_10 : decode cX11_share 10 = .ok (.iconst 1, 1) := by decide +kernel
theorem dX11_share_11 : decode cX11_share 11 = .ok (.if_icmp .ne 7, 3) := by decide +kernel
theorem dX11_share_14 : decode cX11_share 14 = .ok (.iload_n 3, 1) := by decide +kernel
theorem dX11_share_15 : decode cX11_share 15 = .ok (.iconst 4, 1) := by decide +kernel
theorem dX11_share_16 : decode cX11_share 16 = .ok (.isub, 1) := by decide +kernel
theorem dX11_share_17 : decode cX11_share 17 = .ok (.ireturn, 1) := by decide +kernel
theorem dX11_share_18 : decode cX11_share 18 = .ok (.iload_n 1, 1) := by decide +kernel
theorem dX11_share_19 : decode cX11_share 19 = .ok (.iconst 1, 1) := by decide +kernel
theorem dX11_share_20 : decode cX11_share 20 = .ok (.if_icmp .ne 9, 3) := by decide +kernel
theorem dX11_share_23 : decode cX11_share 23 = .ok (.iload_n 3, 1) := by decide +kernel
theorem dX11_share_24 : decode cX11_share 24 = .ok (.iconst 2, 1) := by decide +kernel
theorem dX11_share_25 : decode cX11_share 25 = .ok (.iadd, 1) := by decide +kernel
theorem dX11_share_26 : decode cX11_share 26 = .ok (.goto 6, 3) := by decide +kernel
theorem dX11_share_29 : decode cX11_share 29 = .ok (.iload_n 3, 1) := by decide +kernel
theorem dX11_share_30 : decode cX11_share 30 = .ok (.iconst 1, 1) := by decide +kernel
theorem dX11_share_31 : decode cX11_share 31 = .ok (.iadd, 1) := by decide +kernel
theorem dX11_share_32 : decode cX11_share 32 = .ok (.ireturn, 1) := by decide +kernel
theorem dX11_rests_0 : decode cX11_rests 0 = .ok (.aload_n 0, 1) := by decide +kernel
theorem dX11_rests_1 : decode cX11_rests 1 = .ok (.iload_n 1, 1) := by decide +kernel
theorem dX11_rests_2 : decode cX11_rests 2 = .ok (.invokevirtual 371, 3) := by decide +kernel
theorem dX11_rests_5 : decode cX11_rests 5 = .ok (.ifCond .eq 8, 3) := by decide +kernel
theorem dX11_rests_8 : decode cX11_rests 8 = .ok (.iload_n 2, 1) := by decide +kernel
theorem dX11_rests_9 : decode cX11_rests 9 = .ok (.iconst (-1), 1) := by decide +kernel
theorem dX11_rests_10 : decode cX11_rests 10 = .ok (.if_icmp .ge 5, 3) := by decide +kernel
theorem dX11_rests_13 : decode cX11_rests 13 = .ok (.iconst (-1), 1) := by decide +kernel
theorem dX11_rests_14 : decode cX11_rests 14 = .ok (.ireturn, 1) := by decide +kernel
theorem dX11_rests_15 : decode cX11_rests 15 = .ok (.aload_n 0, 1) := by decide +kernel
theorem dX11_rests_16 : decode cX11_rests 16 = .ok (.getfield 71, 3) := by decide +kernel
theorem dX11_rests_19 : decode cX11_rests 19 = .ok (.iload_n 1, 1) := by decide +kernel
theorem dX11_rests_20 : decode cX11_rests 20 = .ok (.aload_n 0, 1) := by decide +kernel
theorem dX11_rests_21 : decode cX11_rests 21 = .ok (.getfield 71, 3) := by decide +kernel
theorem dX11_rests_24 : decode cX11_rests 24 = .ok (.invokevirtual 240, 3) := by decide +kernel
theorem dX11_rests_27 : decode cX11_rests 27 = .ok (.invokevirtual 243, 3) := by decide +kernel
theorem dX11_rests_30 : decode cX11_rests 30 = .ok (.istore_n 3, 1) := by decide +kernel
theorem dX11_rests_31 : decode cX11_rests 31 = .ok (.aload_n 0, 1) := by decide +kernel
theorem dX11_rests_32 : decode cX11_rests 32 = .ok (.getfield 71, 3) := by decide +kernel
theorem dX11_rests_35 : decode cX11_rests 35 = .ok (.aload_n 0, 1) := by decide +kernel
theorem dX11_rests_36 : decode cX11_rests 36 = .ok (.getfield 19, 3) := by decide +kernel
theorem dX11_rests_39 : decode cX11_rests 39 = .ok (.iload_n 1, 1) := by decide +kernel
theorem dX11_rests_40 : decode cX11_rests 40 = .ok (.invokevirtual 194, 3) := by decide +kernel
theorem dX11_rests_43 : decode cX11_rests 43 = .ok (.aload_n 0, 1) := by decide +kernel
theorem dX11_rests_44 : decode cX11_rests 44 = .ok (.getfield 71, 3) := by decide +kernel
theorem dX11_rests_47 : decode cX11_rests 47 = .ok (.invokevirtual 240, 3) := by decide +kernel
theorem dX11_rests_50 : decode cX11_rests 50 = .ok (.invokevirtual 243, 3) := by decide +kernel
theorem dX11_rests_53 : decode cX11_rests 53 = .ok (.istore 4, 2) := by decide +kernel
theorem dX11_rests_55 : decode cX11_rests 55 = .ok (.iconst 0, 1) := by decide +kernel
theorem dX11_rests_56 : decode cX11_rests 56 = .ok (.istore 5, 2) := by decide +kernel
theorem dX11_rests_58 : decode cX11_rests 58 = .ok (.iconst 0, 1) := by decide +kernel
theorem dX11_rests_59 : decode cX11_rests 59 = .ok (.istore 6, 2) := by decide +kernel
theorem dX11_rests_61 : decode cX11_rests 61 = .ok (.iload 6, 2) := by decide +kernel
theorem dX11_rests_63 : decode cX11_rests 63 = .ok (.iconst 4, 1) := by decide +kernel
theorem dX11_rests_64 : decode cX11_rests 64 = .ok (.if_icmp .ge 83, 3) := by decide +kernel
theorem dX11_rests_67 : decode cX11_rests 67 = .ok (.iload 6, 2) := by decide +kernel
theorem dX11_rests_69 : decode cX11_rests 69 = .ok (.iconst 2, 1) := by decide +kernel
theorem dX11_rests_70 : decode cX11_rests 70 = .ok (.idiv, 1) := by decide +kernel
theorem dX11_rests_71 : decode cX11_rests 71 = .ok (.istore 7, 2) := by decide +kernel
theorem dX11_rests_73 : decode cX11_rests 73 = .ok (.iload 6, 2) := by decide +kernel
theorem dX11_rests_75 : decode cX11_rests 75 = .ok (.iconst 2, 1) := by decide +kernel
theorem dX11_rests_76 : decode cX11_rests 76 = .ok (.irem, 1) := by decide +kernel
theorem dX11_rests_77 : decode cX11_rests 77 = .ok (.istore 8, 2) := by decide +kernel
theorem dX11_rests_79 : decode cX11_rests 79 = .ok (.iload_n 3, 1) := by decide +kernel
theorem dX11_rests_80 : decode cX11_rests 80 = .ok (.iload 7, 2) := by decide +kernel
theorem dX11_rests_82 : decode cX11_rests 82 = .ok (.iload 8, 2) := by decide +kernel
theorem dX11_rests_84 : decode cX11_rests 84 = .ok (.invokestatic 377, 3) := by decide +kernel
theorem dX11_rests_87 : decode cX11_rests 87 = .ok (.iload_n 3, 1) := by decide +kernel
theorem dX11_rests_88 : decode cX11_rests 88 = .ok (.iconst 1, 1) := by decide +kernel
theorem dX11_rests_89 : decode cX11_rests 89 = .ok (.iload 7, 2) := by decide +kernel
theorem dX11_rests_91 : decode cX11_rests 91 = .ok (.isub, 1) := by decide +kernel
theorem dX11_rests_92 : decode cX11_rests 92 = .ok (.iload 8, 2) := by decide +kernel
theorem dX11_rests_94 : decode cX11_rests 94 = .ok (.invokestatic 377, 3) := by decide +kernel
theorem dX11_rests_97 : decode cX11_rests 97 = .ok (.if_icmp .lt 44, 3) := by decide +kernel
theorem dX11_rests_100 : decode cX11_rests 100 = .ok (.iload 4, 2) := by decide +kernel
theorem dX11_rests_102 : decode cX11_rests 102 = .ok (.iload 8, 2) := by decide +kernel
theorem dX11_rests_104 : decode cX11_rests 104 = .ok (.iload 7, 2) := by decide +kernel
theorem dX11_rests_106 : decode cX11_rests 106 = .ok (.invokestatic 377, 3) := by decide +kernel
theorem dX11_rests_109 : decode cX11_rests 109 = .ok (.iload 4, 2) := by decide +kernel
theorem dX11_rests_111 : decode cX11_rests 111 = .ok (.iconst 1, 1) := by decide +kernel
theorem dX11_rests_112 : decode cX11_rests 112 = .ok (.iload 8, 2) := by decide +kernel
theorem dX11_rests_114 : decode cX11_rests 114 = .ok (.isub, 1) := by decide +kernel
theorem dX11_rests_115 : decode cX11_rests 115 = .ok (.iload 7, 2) := by decide +kernel
theorem dX11_rests_117 : decode cX11_rests 117 = .ok (.invokestatic 377, 3) := by decide +kernel
theorem dX11_rests_120 : decode cX11_rests 120 = .ok (.if_icmp .lt 21, 3) := by decide +kernel
theorem dX11_rests_123 : decode cX11_rests 123 = .ok (.iload 5, 2) := by decide +kernel
theorem dX11_rests_125 : decode cX11_rests 125 = .ok (.iload_n 2, 1) := by decide +kernel
theorem dX11_rests_126 : decode cX11_rests 126 = .ok (.if_icmp .ne 12, 3) := by decide +kernel
theorem dX11_rests_129 : decode cX11_rests 129 = .ok (.bipush 10, 2) := by decide +kernel
theorem dX11_rests_131 : decode cX11_rests 131 = .ok (.iload 7, 2) := by decide +kernel
theorem dX11_rests_133 : decode cX11_rests 133 = .ok (.imul, 1) := by decide +kernel
theorem dX11_rests_134 : decode cX11_rests 134 = .ok (.iload 8, 2) := by decide +kernel
theorem dX11_rests_136 : decode cX11_rests 136 = .ok (.iadd, 1) := by decide +kernel
theorem dX11_rests_137 : decode cX11_rests 137 = .ok (.ireturn, 1) := by decide +kernel
theorem dX11_rests_138 : decode cX11_rests 138 = .ok (.iinc 5 1, 3) := by decide +kernel
theorem dX11_rests_141 : decode cX11_rests 141 = .ok (.iinc 6 1, 3) := by decide +kernel
theorem dX11_rests_144 : decode cX11_rests 144 = .ok (.goto (-83), 3) := by decide +kernel
theorem dX11_rests_147 : decode cX11_rests 147 = .ok (.iload_n 2, 1) := by decide +kernel
theorem dX11_rests_148 : decode cX11_rests 148 = .ok (.iconst (-1), 1) := by decide +kernel
theorem dX11_rests_149 : decode cX11_rests 149 = .ok (.if_icmp .ne 8, 3) := by decide +kernel
theorem dX11_rests_152 : decode cX11_rests 152 = .ok (.iload 5, 2) := by decide +kernel
theorem dX11_rests_154 : decode cX11_rests 154 = .ok (.goto 4, 3) := by decide +kernel
theorem dX11_rests_157 : decode cX11_rests 157 = .ok (.iconst (-1), 1) := by decide +kernel
theorem dX11_rests_158 : decode cX11_rests 158 = .ok (.ireturn, 1) := by decide +kernel
theorem dX11_wronged_0 : decode cX11_wronged 0 = .ok (.aload_n 0, 1) := by decide +kernel
theorem dX11_wronged_1 : decode cX11_wronged 1 = .ok (.invokevirtual 172, 3) := by decide +kernel
theorem dX11_wronged_4 : decode cX11_wronged 4 = .ok (.ifCond .eq 27, 3) := by decide +kernel
theorem dX11_wronged_7 : decode cX11_wronged 7 = .ok (.iload_n 1, 1) := by decide +kernel
theorem dX11_wronged_8 : decode cX11_wronged 8 = .ok (.iconst (-1), 1) := by decide +kernel
theorem dX11_wronged_9 : decode cX11_wronged 9 = .ok (.if_icmp .eq 14, 3) := by decide +kernel
theorem dX11_wronged_12 : decode cX11_wronged 12 = .ok (.aload_n 0, 1) := by decide +kernel
theorem dX11_wronged_13 : decode cX11_wronged 13 = .ok (.getfield 71, 3) := by decide +kernel
theorem dX11_wronged_16 : decode cX11_wronged 16 = .ok (.iload_n 1, 1) := by decide +kernel
theorem dX11_wronged_17 : decode cX11_wronged 17 = .ok (.invokevirtual 383, 3) := by decide +kernel
theorem dX11_wronged_20 : decode cX11_wronged 20 = .ok (.ifCond .eq 11, 3) := by decide +kernel
theorem dX11_wronged_23 : decode cX11_wronged 23 = .ok (.aload_n 0, 1) := by decide +kernel
theorem dX11_wronged_24 : decode cX11_wronged 24 = .ok (.iload_n 1, 1) := by decide +kernel
theorem dX11_wronged_25 : decode cX11_wronged 25 = .ok (.invokevirtual 384, 3) := by decide +kernel
theorem dX11_wronged_28 : decode cX11_wronged 28 = .ok (.goto 4, 3) := by decide +kernel
theorem dX11_wronged_31 : decode cX11_wronged 31 = .ok (.iconst (-1), 1) := by decide +kernel
theorem dX11_wronged_32 : decode cX11_wronged 32 = .ok (.ireturn, 1) := by decide +kernel
theorem dX11_wrongedBy_0 : decode cX11_wrongedBy 0 = .ok (.iconst 0, 1) := by decide +kernel
theorem dX11_wrongedBy_1 : decode cX11_wrongedBy 1 = .ok (.istore_n 2, 1) := by decide +kernel
theorem dX11_wrongedBy_2 : decode cX11_wrongedBy 2 = .ok (.iconst 0, 1) := by decide +kernel
theorem dX11_wrongedBy_3 : decode cX11_wrongedBy 3 = .ok (.istore_n 3, 1) := by decide +kernel
theorem dX11_wrongedBy_4 : decode cX11_wrongedBy 4 = .ok (.iload_n 3, 1) := by decide +kernel
theorem dX11_wrongedBy_5 : decode cX11_wrongedBy 5 = .ok (.aload_n 0, 1) := by decide +kernel
theorem dX11_wrongedBy_6 : decode cX11_wrongedBy 6 = .ok (.getfield 19, 3) := by decide +kernel
theorem dX11_wrongedBy_9 : decode cX11_wrongedBy 9 = .ok (.invokevirtual 158, 3) := by decide +kernel
theorem dX11_wrongedBy_12 : decode cX11_wrongedBy 12 = .ok (.if_icmp .ge 53, 3) := by decide +kernel
theorem dX11_wrongedBy_15 : decode cX11_wrongedBy 15 = .ok (.aload_n 0, 1) := by decide +kernel
theorem dX11_wrongedBy_16 : decode cX11_wrongedBy 16 = .ok (.getfield 29, 3) := by decide +kernel
theorem dX11_wrongedBy_19 : decode cX11_wrongedBy 19 = .ok (.iload_n 3, 1) := by decide +kernel
theorem dX11_wrongedBy_20 : decode cX11_wrongedBy 20 = .ok (.iconst 0, 1) := by decide +kernel
theorem dX11_wrongedBy_21 : decode cX11_wrongedBy 21 = .ok (.invokevirtual 188, 3) := by decide +kernel
theorem dX11_wrongedBy_24 : decode cX11_wrongedBy 24 = .ok (.ifCond .le 7, 3) := by decide +kernel
theorem dX11_wrongedBy_27 : decode cX11_wrongedBy 27 = .ok (.iconst 1, 1) := by decide +kernel
theorem dX11_wrongedBy_28 : decode cX11_wrongedBy 28 = .ok (.goto 4, 3) := by decide +kernel
theorem dX11_wrongedBy_31 : decode cX11_wrongedBy 31 = .ok (.iconst 0, 1) := by decide +kernel
theorem dX11_wrongedBy_32 : decode cX11_wrongedBy 32 = .ok (.istore 4, 2) := by decide +kernel
theorem dX11_wrongedBy_34 : decode cX11_wrongedBy 34 = .ok (.aload_n 0, 1) := by decide +kernel
theorem dX11_wrongedBy_35 : decode cX11_wrongedBy 35 = .ok (.getfield 29, 3) := by decide +kernel
theorem dX11_wrongedBy_38 : decode cX11_wrongedBy 38 = .ok (.iload_n 3, 1) := by decide +kernel
theorem dX11_wrongedBy_39 : decode cX11_wrongedBy 39 = .ok (.invokevirtual 237, 3) := by decide +kernel
theorem dX11_wrongedBy_42 : decode cX11_wrongedBy 42 = .ok (.ifCond .le 17, 3) := by decide +kernel
theorem dX11_wrongedBy_45 : decode cX11_wrongedBy 45 = .ok (.iload 4, 2) := by decide +kernel
theorem dX11_wrongedBy_47 : decode cX11_wrongedBy 47 = .ok (.aload_n 0, 1) := by decide +kernel
theorem dX11_wrongedBy_48 : decode cX11_wrongedBy 48 = .ok (.iload_n 3, 1) := by decide +kernel
theorem dX11_wrongedBy_49 : decode cX11_wrongedBy 49 = .ok (.iload_n 1, 1) := by decide +kernel
theorem dX11_wrongedBy_50 : decode cX11_wrongedBy 50 = .ok (.invokevirtual 387, 3) := by decide +kernel
theorem dX11_wrongedBy_53 : decode cX11_wrongedBy 53 = .ok (.if_icmp .eq 6, 3) := by decide +kernel
theorem dX11_wrongedBy_56 : decode cX11_wrongedBy 56 = .ok (.iinc 2 1, 3) := by decide +kernel
theorem dX11_wrongedBy_59 : decode cX11_wrongedBy 59 = .ok (.iinc 3 1, 3) := by decide +kernel
theorem dX11_wrongedBy_62 : decode cX11_wrongedBy 62 = .ok (.goto (-58), 3) := by decide +kernel
theorem dX11_wrongedBy_65 : decode cX11_wrongedBy 65 = .ok (.iload_n 2, 1) := by decide +kernel
theorem dX11_wrongedBy_66 : decode cX11_wrongedBy 66 = .ok (.ireturn, 1) := by decide +kernel
theorem dX11_wouldBeGuilty_0 : decode cX11_wouldBeGuilty 0 = .ok (.aload_n 0, 1) := by decide +kernel
theorem dX11_wouldBeGuilty_1 : decode cX11_wouldBeGuilty 1 = .ok (.getfield 71, 3) := by decide +kernel
theorem dX11_wouldBeGuilty_4 : decode cX11_wouldBeGuilty 4 = .ok (.iload_n 1, 1) := by decide +kernel
theorem dX11_wouldBeGuilty_5 : decode cX11_wouldBeGuilty 5 = .ok (.iload_n 2, 1) := by decide +kernel
theorem dX11_wouldBeGuilty_6 : decode cX11_wouldBeGuilty 6 = .ok (.invokevirtual 243, 3) := by decide +kernel
theorem dX11_wouldBeGuilty_9 : decode cX11_wouldBeGuilty 9 = .ok (.aload_n 0, 1) := by decide +kernel
theorem dX11_wouldBeGuilty_10 : decode cX11_wouldBeGuilty 10 = .ok (.getfield 19, 3) := by decide +kernel
theorem dX11_wouldBeGuilty_13 : decode cX11_wouldBeGuilty 13 = .ok (.iconst 1, 1) := by decide +kernel
theorem dX11_wouldBeGuilty_14 : decode cX11_wouldBeGuilty 14 = .ok (.invokevirtual 175, 3) := by decide +kernel
theorem dX11_wouldBeGuilty_17 : decode cX11_wouldBeGuilty 17 = .ok (.if_icmp .lt 7, 3) := by decide +kernel
theorem dX11_wouldBeGuilty_20 : decode cX11_wouldBeGuilty 20 = .ok (.iconst 1, 1) := by decide +kernel
theorem dX11_wouldBeGuilty_21 : decode cX11_wouldBeGuilty 21 = .ok (.goto 4, 3) := by decide +kernel
theorem dX11_wouldBeGuilty_24 : decode cX11_wouldBeGuilty 24 = .ok (.iconst 0, 1) := by decide +kernel
theorem dX11_wouldBeGuilty_25 : decode cX11_wouldBeGuilty 25 = .ok (.ireturn, 1) := by decide +kernel
theorem dX11_better_0 : decode cX11_better 0 = .ok (.aload_n 0, 1) := by decide +kernel
theorem dX11_better_1 : decode cX11_better 1 = .ok (.invokevirtual 172, 3) := by decide +kernel
theorem dX11_better_4 : decode cX11_better 4 = .ok (.ifCond .ne 5, 3) := by decide +kernel
theorem dX11_better_7 : decode cX11_better 7 = .ok (.iconst (-1), 1) := by decide +kernel
theorem dX11_better_8 : decode cX11_better 8 = .ok (.ireturn, 1) := by decide +kernel
theorem dX11_better_9 : decode cX11_better 9 = .ok (.iconst (-1), 1) := by decide +kernel
theorem dX11_better_10 : decode cX11_better 10 = .ok (.istore_n 1, 1) := by decide +kernel
theorem dX11_better_11 : decode cX11_better 11 = .ok (.iconst 0, 1) := by decide +kernel
theorem dX11_better_12 : decode cX11_better 12 = .ok (.istore_n 2, 1) := by decide +kernel
theorem dX11_better_13 : decode cX11_better 13 = .ok (.iconst 0, 1) := by decide +kernel
theorem dX11_better_14 : decode cX11_better 14 = .ok (.istore_n 3, 1) := by decide +kernel
theorem dX11_better_15 : decode cX11_better 15 = .ok (.iload_n 3, 1) := by decide +kernel
theorem dX11_better_16 : decode cX11_better 16 = .ok (.aload_n 0, 1) := by decide +kernel
theorem dX11_better_17 : decode cX11_better 17 = .ok (.getfield 71, 3) := by decide +kernel
theorem dX11_better_20 : decode cX11_better 20 = .ok (.invokevirtual 390, 3) := by decide +kernel
theorem dX11_better_23 : decode cX11_better 23 = .ok (.if_icmp .ge 32, 3) := by decide +kernel
theorem dX11_better_26 : decode cX11_better 26 = .ok (.aload_n 0, 1) := by decide +kernel
theorem dX11_better_27 : decode cX11_better 27 = .ok (.iload_n 3, 1) := by decide +kernel
theorem dX11_better_28 : decode cX11_better 28 = .ok (.invokevirtual 384, 3) := by decide +kernel
theorem dX11_better_31 : decode cX11_better 31 = .ok (.istore 4, 2) := by decide +kernel
theorem dX11_better_33 : decode cX11_better 33 = .ok (.iload_n 1, 1) := by decide +kernel
theorem dX11_better_34 : decode cX11_better 34 = .ok (.iconst (-1), 1) := by decide +kernel
theorem dX11_better_35 : decode cX11_better 35 = .ok (.if_icmp .eq 9, 3) := by decide +kernel
theorem dX11_better_38 : decode cX11_better 38 = .ok (.iload 4, 2) := by decide +kernel
theorem dX11_better_40 : decode cX11_better 40 = .ok (.iload_n 2, 1) := by decide +kernel
theorem dX11_better_41 : decode cX11_better 41 = .ok (.if_icmp .ge 8, 3) := by decide +kernel
theorem dX11_better_44 : decode cX11_better 44 = .ok (.iload_n 3, 1) := by decide +kernel
theorem dX11_better_45 : decode cX11_better 45 = .ok (.istore_n 1, 1) := by decide +kernel
theorem dX11_better_46 : decode cX11_better 46 = .ok (.iload 4, 2) := by decide +kernel
theorem dX11_better_48 : decode cX11_better 48 = .ok (.istore_n 2, 1) := by decide +kernel
theorem dX11_better_49 : decode cX11_better 49 = .ok (.iinc 3 1, 3) := by decide +kernel
theorem dX11_better_52 : decode cX11_better 52 = .ok (.goto (-37), 3) := by decide +kernel
theorem dX11_better_55 : decode cX11_better 55 = .ok (.iload_n 1, 1) := by decide +kernel
theorem dX11_better_56 : decode cX11_better 56 = .ok (.ireturn, 1) := by decide +kernel
theorem dX11_most_0 : decode cX11_most 0 = .ok (.aload_n 0, 1) := by decide +kernel
theorem dX11_most_1 : decode cX11_most 1 = .ok (.invokevirtual 172, 3) := by decide +kernel
theorem dX11_most_4 : decode cX11_most 4 = .ok (.ifCond .eq 12, 3) := by decide +kernel
theorem dX11_most_7 : decode cX11_most 7 = .ok (.iload_n 1, 1) := by decide +kernel
theorem dX11_most_8 : decode cX11_most 8 = .ok (.ifCond .lt 8, 3) := by decide +kernel
theorem dX11_most_11 : decode cX11_most 11 = .ok (.iload_n 1, 1) := by decide +kernel
theorem dX11_most_12 : decode cX11_most 12 = .ok (.iconst 1, 1) := by decide +kernel
theorem dX11_most_13 : decode cX11_most 13 = .ok (.if_icmp .le 5, 3) := by decide +kernel
theorem dX11_most_16 : decode cX11_most 16 = .ok (.iconst (-1), 1) := by decide +kernel
theorem dX11_most_17 : decode cX11_most 17 = .ok (.ireturn, 1) := by decide +kernel
theorem dX11_most_18 : decode cX11_most 18 = .ok (.iconst 0, 1) := by decide +kernel
theorem dX11_most_19 : decode cX11_most 19 = .ok (.istore_n 2, 1) := by decide +kernel
theorem dX11_most_20 : decode cX11_most 20 = .ok (.iconst (-1), 1) := by decide +kernel
theorem dX11_most_21 : decode cX11_most 21 = .ok (.istore_n 3, 1) := by decide +kernel
theorem dX11_most_22 : decode cX11_most 22 = .ok (.iconst 0, 1) := by decide +kernel
theorem dX11_most_23 : decode cX11_most 23 = .ok (.istore 4, 2) := by decide +kernel
theorem dX11_most_25 : decode cX11_most 25 = .ok (.iload 4, 2) := by decide +kernel
theorem dX11_most_27 : decode cX11_most 27 = .ok (.aload_n 0, 1) := by decide +kernel
theorem dX11_most_28 : decode cX11_most 28 = .ok (.getfield 19, 3) := by decide +kernel
theorem dX11_most_31 : decode cX11_most 31 = .ok (.invokevirtual 158, 3) := by decide +kernel
theorem dX11_most_34 : decode cX11_most 34 = .ok (.if_icmp .ge 46, 3) := by decide +kernel
theorem dX11_most_37 : decode cX11_most 37 = .ok (.iload_n 1, 1) := by decide +kernel
theorem dX11_most_38 : decode cX11_most 38 = .ok (.ifCond .ne 16, 3) := by decide +kernel
theorem dX11_most_41 : decode cX11_most 41 = .ok (.aload_n 0, 1) := by decide +kernel
theorem dX11_most_42 : decode cX11_most 42 = .ok (.getfield 29, 3) := by decide +kernel
theorem dX11_most_45 : decode cX11_most 45 = .ok (.iload 4, 2) := by decide +kernel
theorem dX11_most_47 : decode cX11_most 47 = .ok (.iconst 2, 1) := by decide +kernel
theorem dX11_most_48 : decode cX11_most 48 = .ok (.invokevirtual 188, 3) := by decide +kernel
theorem dX11_most_51 : decode cX11_most 51 = .ok (.goto 9, 3) := by decide +kernel
theorem dX11_most_54 : decode cX11_most 54 = .ok (.aload_n 0, 1) := by decide +kernel
theorem dX11_most_55 : decode cX11_most 55 = .ok (.iload 4, 2) := by decide +kernel
theorem dX11_most_57 : decode cX11_most 57 = .ok (.invokevirtual 300, 3) := by decide +kernel
theorem dX11_most_60 : decode cX11_most 60 = .ok (.istore 5, 2) := by decide +kernel
theorem dX11_most_62 : decode cX11_most 62 = .ok (.iload 5, 2) := by decide +kernel
theorem dX11_most_64 : decode cX11_most 64 = .ok (.iload_n 3, 1) := by decide +kernel
theorem dX11_most_65 : decode cX11_most 65 = .ok (.if_icmp .le 9, 3) := by decide +kernel
theorem dX11_most_68 : decode cX11_most 68 = .ok (.iload 5, 2) := by decide +kernel
theorem dX11_most_70 : decode cX11_most 70 = .ok (.istore_n 3, 1) := by decide +kernel
theorem dX11_most_71 : decode cX11_most 71 = .ok (.iload 4, 2) := by decide +kernel
theorem dX11_most_73 : decode cX11_most 73 = .ok (.istore_n 2, 1) := by decide +kernel
theorem dX11_most_74 : decode cX11_most 74 = .ok (.iinc 4 1, 3) := by decide +kernel
theorem dX11_most_77 : decode cX11_most 77 = .ok (.goto (-52), 3) := by decide +kernel
theorem dX11_most_80 : decode cX11_most 80 = .ok (.iload_n 2, 1) := by decide +kernel
theorem dX11_most_81 : decode cX11_most 81 = .ok (.ireturn, 1) := by decide +kernel
theorem dX11_people_0 : decode cX11_people 0 = .ok (.aload_n 0, 1) := by decide +kernel
theorem dX11_people_1 : decode cX11_people 1 = .ok (.invokevirtual 172, 3) := by decide +kernel
theorem dX11_people_4 : decode cX11_people 4 = .ok (.ifCond .eq 12, 3) := by decide +kernel
theorem dX11_people_7 : decode cX11_people 7 = .ok (.iload_n 1, 1) := by decide +kernel
theorem dX11_people_8 : decode cX11_people 8 = .ok (.ifCond .lt 8, 3) := by decide +kernel
theorem dX11_people_11 : decode cX11_people 11 = .ok (.iload_n 1, 1) := by decide +kernel
theorem dX11_people_12 : decode cX11_people 12 = .ok (.iconst 2, 1) := by decide +kernel
theorem dX11_people_13 : decode cX11_people 13 = .ok (.if_icmp .le 5, 3) := by decide +kernel
theorem dX11_people_16 : decode cX11_people 16 = .ok (.iconst (-1), 1) := by decide +kernel
theorem dX11_people_17 : decode cX11_people 17 = .ok (.ireturn, 1) := by decide +kernel
theorem dX11_people_18 : decode cX11_people 18 = .ok (.iconst 0, 1) := by decide +kernel
theorem dX11_people_19 : decode cX11_people 19 = .ok (.istore_n 2, 1) := by decide +kernel
theorem dX11_people_20 : decode cX11_people 20 = .ok (.iconst 0, 1) := by decide +kernel
theorem dX11_people_21 : decode cX11_people 21 = .ok (.istore_n 3, 1) := by decide +kernel
theorem dX11_people_22 : decode cX11_people 22 = .ok (.iload_n 3, 1) := by decide +kernel
theorem dX11_people_23 : decode cX11_people 23 = .ok (.aload_n 0, 1) := by decide +kernel
theorem dX11_people_24 : decode cX11_people 24 = .ok (.getfield 19, 3) := by decide +kernel
theorem dX11_people_27 : decode cX11_people 27 = .ok (.invokevirtual 158, 3) := by decide +kernel
theorem dX11_people_30 : decode cX11_people 30 = .ok (.if_icmp .ge 91, 3) := by decide +kernel
theorem dX11_people_33 : decode cX11_people 33 = .ok (.iload_n 1, 1) := by decide +kernel
theorem dX11_people_34 : decode cX11_people 34 = .ok (.ifCond .ne 25, 3) := by decide +kernel
theorem dX11_people_37 : decode cX11_people 37 = .ok (.aload_n 0, 1) := by decide +kernel
theorem dX11_people_38 : decode cX11_people 38 = .ok (.getfield 29, 3) := by decide +kernel
theorem dX11_people_41 : decode cX11_people 41 = .ok (.iload_n 3, 1) := by decide +kernel
theorem dX11_people_42 : decode cX11_people 42 = .ok (.iconst 5, 1) := by decide +kernel
theorem dX11_people_43 : decode cX11_people 43 = .ok (.invokevirtual 188, 3) := by decide +kernel
theorem dX11_people_46 : decode cX11_people 46 = .ok (.ifCond .ne 7, 3) := by decide +kernel
theorem dX11_people_49 : decode cX11_people 49 = .ok (.iconst 1, 1) := by decide +kernel
theorem dX11_people_50 : decode cX11_people 50 = .ok (.goto 4, 3) := by decide +kernel
theorem dX11_people_53 : decode cX11_people 53 = .ok (.iconst 0, 1) := by decide +kernel
theorem dX11_people_54 : decode cX11_people 54 = .ok (.istore 4, 2) := by decide +kernel
theorem dX11_people_56 : decode cX11_people 56 = .ok (.goto 44, 3) := by decide +kernel
theorem dX11_people_59 : decode cX11_people 59 = .ok (.iload_n 1, 1) := by decide +kernel
theorem dX11_people_60 : decode cX11_people 60 = .ok (.iconst 1, 1) := by decide +kernel
theorem dX11_people_61 : decode cX11_people 61 = .ok (.if_icmp .ne 25, 3) := by decide +kernel
theorem dX11_people_64 : decode cX11_people 64 = .ok (.aload_n 0, 1) := by decide +kernel
theorem dX11_people_65 : decode cX11_people 65 = .ok (.getfield 29, 3) := by decide +kernel
theorem dX11_people_68 : decode cX11_people 68 = .ok (.iload_n 3, 1) := by decide +kernel
theorem dX11_people_69 : decode cX11_people 69 = .ok (.iconst 0, 1) := by decide +kernel
theorem dX11_people_70 : decode cX11_people 70 = .ok (.invokevirtual 188, 3) := by decide +kernel
theorem dX11_people_73 : decode cX11_people 73 = .ok (.ifCond .ne 7, 3) := by decide +kernel
theorem dX11_people_76 : decode cX11_people 76 = .ok (.iconst 1, 1) := by decide +kernel
theorem dX11_people_77 : decode cX11_people 77 = .ok (.goto 4, 3) := by decide +kernel
theorem dX11_people_80 : decode cX11_people 80 = .ok (.iconst 0, 1) := by decide +kernel
theorem dX11_people_81 : decode cX11_people 81 = .ok (.istore 4, 2) := by decide +kernel
theorem dX11_people_83 : decode cX11_people 83 = .ok (.goto 17, 3) := by decide +kernel
theorem dX11_people_86 : decode cX11_people 86 = .ok (.aload_n 0, 1) := by decide +kernel
theorem dX11_people_87 : decode cX11_people 87 = .ok (.iload_n 3, 1) := by decide +kernel
theorem dX11_people_88 : decode cX11_people 88 = .ok (.aload_n 0, 1) := by decide +kernel
theorem dX11_people_89 : decode cX11_people 89 = .ok (.getfield 71, 3) := by decide +kernel
theorem dX11_people_92 : decode cX11_people 92 = .ok (.invokevirtual 240, 3) := by decide +kernel
theorem dX11_people_95 : decode cX11_people 95 = .ok (.invokevirtual 387, 3) := by decide +kernel
theorem dX11_people_98 : decode cX11_people 98 = .ok (.istore 4, 2) := by decide +kernel
theorem dX11_people_100 : decode cX11_people 100 = .ok (.iload_n 2, 1) := by decide +kernel
theorem dX11_people_101 : decode cX11_people 101 = .ok (.iload 4, 2) := by decide +kernel
theorem dX11_people_103 : decode cX11_people 103 = .ok (.ifCond .eq 9, 3) := by decide +kernel
theorem dX11_people_106 : decode cX11_people 106 = .ok (.iconst 1, 1) := by decide +kernel
theorem dX11_people_107 : decode cX11_people 107 = .ok (.iload_n 3, 1) := by decide +kernel
theorem dX11_people_108 : decode cX11_people 108 = .ok (.ishl, 1) := by decide +kernel
theorem dX11_people_109 : decode cX11_people 109 = .ok (.goto 4, 3) := by decide +kernel
theorem dX11_people_112 : decode cX11_people 112 = .ok (.iconst 0, 1) := by decide +kernel
theorem dX11_people_113 : decode cX11_people 113 = .ok (.ior, 1) := by decide +kernel
theorem dX11_people_114 : decode cX11_people 114 = .ok (.istore_n 2, 1) := by decide +kernel
theorem dX11_people_115 : decode cX11_people 115 = .ok (.iinc 3 1, 3) := by decide +kernel
theorem dX11_people_118 : decode cX11_people 118 = .ok (.goto (-96), 3) := by decide +kernel
theorem dX11_people_121 : decode cX11_people 121 = .ok (.iload_n 2, 1) := by decide +kernel
theorem dX11_people_122 : decode cX11_people 122 = .ok (.ireturn, 1) := by decide +kernel
theorem dX11_cries_0 : decode cX11_cries 0 = .ok (.aload_n 0, 1) := by decide +kernel
theorem dX11_cries_1 : decode cX11_cries 1 = .ok (.invokevirtual 172, 3) := by decide +kernel
theorem dX11_cries_4 : decode cX11_cries 4 = .ok (.ifCond .eq 11, 3) := by decide +kernel
theorem dX11_cries_7 : decode cX11_cries 7 = .ok (.aload_n 0, 1) := by decide +kernel
theorem dX11_cries_8 : decode cX11_cries 8 = .ok (.iload_n 1, 1) := by decide +kernel
theorem dX11_cries_9 : decode cX11_cries 9 = .ok (.invokevirtual 210, 3) := by decide +kernel
theorem dX11_cries_12 : decode cX11_cries 12 = .ok (.ifCond .ne 5, 3) := by decide +kernel
theorem dX11_cries_15 : decode cX11_cries 15 = .ok (.iconst (-1), 1) := by decide +kernel
theorem dX11_cries_16 : decode cX11_cries 16 = .ok (.ireturn, 1) := by decide +kernel
theorem dX11_cries_17 : decode cX11_cries 17 = .ok (.iconst 0, 1) := by decide +kernel
theorem dX11_cries_18 : decode cX11_cries 18 = .ok (.istore_n 2, 1) := by decide +kernel
theorem dX11_cries_19 : decode cX11_cries 19 = .ok (.iconst 0, 1) := by decide +kernel
theorem dX11_cries_20 : decode cX11_cries 20 = .ok (.istore_n 3, 1) := by decide +kernel
theorem dX11_cries_21 : decode cX11_cries 21 = .ok (.iload_n 3, 1) := by decide +kernel
theorem dX11_cries_22 : decode cX11_cries 22 = .ok (.aload_n 0, 1) := by decide +kernel
theorem dX11_cries_23 : decode cX11_cries 23 = .ok (.getfield 19, 3) := by decide +kernel
theorem dX11_cries_26 : decode cX11_cries 26 = .ok (.invokevirtual 158, 3) := by decide +kernel
theorem dX11_cries_29 : decode cX11_cries 29 = .ok (.if_icmp .ge 21, 3) := by decide +kernel
theorem dX11_cries_32 : decode cX11_cries 32 = .ok (.iload_n 2, 1) := by decide +kernel
theorem dX11_cries_33 : decode cX11_cries 33 = .ok (.aload_n 0, 1) := by decide +kernel
theorem dX11_cries_34 : decode cX11_cries 34 = .ok (.getfield 71, 3) := by decide +kernel
theorem dX11_cries_37 : decode cX11_cries 37 = .ok (.iload_n 3, 1) := by decide +kernel
theorem dX11_cries_38 : decode cX11_cries 38 = .ok (.iload_n 1, 1) := by decide +kernel
theorem dX11_cries_39 : decode cX11_cries 39 = .ok (.invokevirtual 213, 3) := by decide +kernel
theorem dX11_cries_42 : decode cX11_cries 42 = .ok (.iadd, 1) := by decide +kernel
theorem dX11_cries_43 : decode cX11_cries 43 = .ok (.istore_n 2, 1) := by decide +kernel
theorem dX11_cries_44 : decode cX11_cries 44 = .ok (.iinc 3 1, 3) := by decide +kernel
theorem dX11_cries_47 : decode cX11_cries 47 = .ok (.goto (-26), 3) := by decide +kernel
theorem dX11_cries_50 : decode cX11_cries 50 = .ok (.iload_n 2, 1) := by decide +kernel
theorem dX11_cries_51 : decode cX11_cries 51 = .ok (.ireturn, 1) := by decide +kernel
theorem dX11_booked_0 : decode cX11_booked 0 = .ok (.aload_n 0, 1) := by decide +kernel
theorem dX11_booked_1 : decode cX11_booked 1 = .ok (.iload_n 1, 1) := by decide +kernel
theorem dX11_booked_2 : decode cX11_booked 2 = .ok (.invokevirtual 178, 3) := by decide +kernel
theorem dX11_booked_5 : decode cX11_booked 5 = .ok (.ifCond .eq 12, 3) := by decide +kernel
theorem dX11_booked_8 : decode cX11_booked 8 = .ok (.iload_n 2, 1) := by decide +kernel
theorem dX11_booked_9 : decode cX11_booked 9 = .ok (.ifCond .lt 8, 3) := by decide +kernel
theorem dX11_booked_12 : decode cX11_booked 12 = .ok (.iload_n 2, 1) := by decide +kernel
theorem dX11_booked_13 : decode cX11_booked 13 = .ok (.iconst 1, 1) := by decide +kernel
theorem dX11_booked_14 : decode cX11_booked 14 = .ok (.if_icmp .le 5, 3) := by decide +kernel
theorem dX11_booked_17 : decode cX11_booked 17 = .ok (.iconst (-1), 1) := by decide +kernel
theorem dX11_booked_18 : decode cX11_booked 18 = .ok (.ireturn, 1) := by decide +kernel
theorem dX11_booked_19 : decode cX11_booked 19 = .ok (.iload_n 2, 1) := by decide +kernel
theorem dX11_booked_20 : decode cX11_booked 20 = .ok (.ifCond .ne 14, 3) := by decide +kernel
theorem dX11_booked_23 : decode cX11_booked 23 = .ok (.aload_n 0, 1) := by decide +kernel
theorem dX11_booked_24 : decode cX11_booked 24 = .ok (.getfield 29, 3) := by decide +kernel
theorem dX11_booked_27 : decode cX11_booked 27 = .ok (.iload_n 1, 1) := by decide +kernel
theorem dX11_booked_28 : decode cX11_booked 28 = .ok (.invokevirtual 237, 3) := by decide +kernel
theorem dX11_booked_31 : decode cX11_booked 31 = .ok (.goto 8, 3) := by decide +kernel
theorem dX11_booked_34 : decode cX11_booked 34 = .ok (.aload_n 0, 1) := by decide +kernel
theorem dX11_booked_35 : decode cX11_booked 35 = .ok (.iload_n 1, 1) := by decide +kernel
theorem dX11_booked_36 : decode cX11_booked 36 = .ok (.invokevirtual 393, 3) := by decide +kernel
theorem dX11_booked_39 : decode cX11_booked 39 = .ok (.ireturn, 1) := by decide +kernel
theorem dX11_lacking_0 : decode cX11_lacking 0 = .ok (.aload_n 0, 1) := by decide +kernel
theorem dX11_lacking_1 : decode cX11_lacking 1 = .ok (.getfield 71, 3) := by decide +kernel
theorem dX11_lacking_4 : decode cX11_lacking 4 = .ok (.iload_n 1, 1) := by decide +kernel
theorem dX11_lacking_5 : decode cX11_lacking 5 = .ok (.aload_n 0, 1) := by decide +kernel
theorem dX11_lacking_6 : decode cX11_lacking 6 = .ok (.getfield 71, 3) := by decide +kernel
theorem dX11_lacking_9 : decode cX11_lacking 9 = .ok (.invokevirtual 240, 3) := by decide +kernel
theorem dX11_lacking_12 : decode cX11_lacking 12 = .ok (.invokevirtual 243, 3) := by decide +kernel
theorem dX11_lacking_15 : decode cX11_lacking 15 = .ok (.istore_n 2, 1) := by decide +kernel
theorem dX11_lacking_16 : decode cX11_lacking 16 = .ok (.aload_n 0, 1) := by decide +kernel
theorem dX11_lacking_17 : decode cX11_lacking 17 = .ok (.getfield 71, 3) := by decide +kernel
theorem dX11_lacking_20 : decode cX11_lacking 20 = .ok (.iload_n 1, 1) := by decide +kernel
theorem dX11_lacking_21 : decode cX11_lacking 21 = .ok (.iconst 0, 1) := by decide +kernel
theorem dX11_lacking_22 : decode cX11_lacking 22 = .ok (.iconst 0, 1) := by decide +kernel
theorem dX11_lacking_23 : decode cX11_lacking 23 = .ok (.invokevirtual 314, 3) := by decide +kernel
theorem dX11_lacking_26 : decode cX11_lacking 26 = .ok (.istore_n 3, 1) := by decide +kernel
theorem dX11_lacking_27 : decode cX11_lacking 27 = .ok (.iconst 0, 1) := by decide +kernel
theorem dX11_lacking_28 : decode cX11_lacking 28 = .ok (.istore 4, 2) := by decide +kernel
theorem dX11_lacking_30 : decode cX11_lacking 30 = .ok (.iload 4, 2) := by decide +kernel
theorem dX11_lacking_32 : decode cX11_lacking 32 = .ok (.bipush 99, 2) := by decide +kernel
theorem dX11_lacking_34 : decode cX11_lacking 34 = .ok (.if_icmp .gt 29, 3) := by decide +kernel
theorem dX11_lacking_37 : decode cX11_lacking 37 = .ok (.iload_n 2, 1) := by decide +kernel
theorem dX11_lacking_38 : decode cX11_lacking 38 = .ok (.iload 4, 2) := by decide +kernel
theorem dX11_lacking_40 : decode cX11_lacking 40 = .ok (.iload_n 3, 1) := by decide +kernel
theorem dX11_lacking_41 : decode cX11_lacking 41 = .ok (.imul, 1) := by decide +kernel
theorem dX11_lacking_42 : decode cX11_lacking 42 = .ok (.iadd, 1) := by decide +kernel
theorem dX11_lacking_43 : decode cX11_lacking 43 = .ok (.aload_n 0, 1) := by decide +kernel
theorem dX11_lacking_44 : decode cX11_lacking 44 = .ok (.getfield 19, 3) := by decide +kernel
theorem dX11_lacking_47 : decode cX11_lacking 47 = .ok (.iconst 1, 1) := by decide +kernel
theorem dX11_lacking_48 : decode cX11_lacking 48 = .ok (.invokevirtual 175, 3) := by decide +kernel
theorem dX11_lacking_51 : decode cX11_lacking 51 = .ok (.if_icmp .lt 6, 3) := by decide +kernel
theorem dX11_lacking_54 : decode cX11_lacking 54 = .ok (.iload 4, 2) := by decide +kernel
theorem dX11_lacking_56 : decode cX11_lacking 56 = .ok (.ireturn, 1) := by decide +kernel
theorem dX11_lacking_57 : decode cX11_lacking 57 = .ok (.iinc 4 1, 3) := by decide +kernel
theorem dX11_lacking_60 : decode cX11_lacking 60 = .ok (.goto (-30), 3) := by decide +kernel
theorem dX11_lacking_63 : decode cX11_lacking 63 = .ok (.iconst (-1), 1) := by decide +kernel
theorem dX11_lacking_64 : decode cX11_lacking 64 = .ok (.ireturn, 1) := by decide +kernel
theorem dX11_line_0 : decode cX11_line 0 = .ok (.aload_n 0, 1) := by decide +kernel
theorem dX11_line_1 : decode cX11_line 1 = .ok (.invokevirtual 172, 3) := by decide +kernel
theorem dX11_line_4 : decode cX11_line 4 = .ok (.ifCond .ne 5, 3) := by decide +kernel
theorem dX11_line_7 : decode cX11_line 7 = .ok (.iconst (-1), 1) := by decide +kernel
theorem dX11_line_8 : decode cX11_line 8 = .ok (.ireturn, 1) := by decide +kernel
theorem dX11_line_9 : decode cX11_line 9 = .ok (.iconst 0, 1) := by decide +kernel
theorem dX11_line_10 : decode cX11_line 10 = .ok (.istore_n 1, 1) := by decide +kernel
theorem dX11_line_11 : decode cX11_line 11 = .ok (.iload_n 1, 1) := by decide +kernel
theorem dX11_line_12 : decode cX11_line 12 = .ok (.aload_n 0, 1) := by decide +kernel
theorem dX11_line_13 : decode cX11_line 13 = .ok (.getfield 19, 3) := by decide +kernel
theorem dX11_line_16 : decode cX11_line 16 = .ok (.invokevirtual 158, 3) := by decide +kernel
theorem dX11_line_19 : decode cX11_line 19 = .ok (.if_icmp .ge 30, 3) := by decide +kernel
theorem dX11_line_22 : decode cX11_line 22 = .ok (.aload_n 0, 1) := by decide +kernel
theorem dX11_line_23 : decode cX11_line 23 = .ok (.getfield 102, 3) := by decide +kernel
theorem dX11_line_26 : decode cX11_line 26 = .ok (.iload_n 1, 1) := by decide +kernel
theorem dX11_line_27 : decode cX11_line 27 = .ok (.aload_n 0, 1) := by decide +kernel
theorem dX11_line_28 : decode cX11_line 28 = .ok (.getfield 71, 3) := by decide +kernel
theorem dX11_line_31 : decode cX11_line 31 = .ok (.iload_n 1, 1) := by decide +kernel
theorem dX11_line_32 : decode cX11_line 32 = .ok (.aload_n 0, 1) := by decide +kernel
theorem dX11_line_33 : decode cX11_line 33 = .ok (.getfield 71, 3) := by decide +kernel
theorem dX11_line_36 : decode cX11_line 36 = .ok (.invokevirtual 240, 3) := by decide +kernel
theorem dX11_line_39 : decode cX11_line 39 = .ok (.invokevirtual 243, 3) := by decide +kernel
theorem dX11_line_42 : decode cX11_line 42 = .ok (.iastore, 1) := by decide +kernel
theorem dX11_line_43 : decode cX11_line 43 = .ok (.iinc 1 1, 3) := by decide +kernel
theorem dX11_line_46 : decode cX11_line 46 = .ok (.goto (-35), 3) := by decide +kernel
theorem dX11_line_49 : decode cX11_line 49 = .ok (.iconst 0, 1) := by decide +kernel
theorem dX11_line_50 : decode cX11_line 50 = .ok (.istore_n 1, 1) := by decide +kernel
theorem dX11_line_51 : decode cX11_line 51 = .ok (.iconst 0, 1) := by decide +kernel
theorem dX11_line_52 : decode cX11_line 52 = .ok (.istore_n 2, 1) := by decide +kernel
theorem dX11_line_53 : decode cX11_line 53 = .ok (.iconst 0, 1) := by decide +kernel
theorem dX11_line_54 : decode cX11_line 54 = .ok (.istore_n 3, 1) := by decide +kernel
theorem dX11_line_55 : decode cX11_line 55 = .ok (.iload_n 3, 1) := by decide +kernel
theorem dX11_line_56 : decode cX11_line 56 = .ok (.aload_n 0, 1) := by decide +kernel
theorem dX11_line_57 : decode cX11_line 57 = .ok (.getfield 19, 3) := by decide +kernel
theorem dX11_line_60 : decode cX11_line 60 = .ok (.invokevirtual 158, 3) := by decide +kernel
theorem dX11_line_63 : decode cX11_line 63 = .ok (.if_icmp .ge 31, 3) := by decide +kernel
theorem dX11_line_66 : decode cX11_line 66 = .ok (.aload_n 0, 1) := by decide +kernel
theorem dX11_line_67 : decode cX11_line 67 = .ok (.iload_n 2, 1) := by decide +kernel
theorem dX11_line_68 : decode cX11_line 68 = .ok (.invokevirtual 396, 3) := by decide +kernel
theorem dX11_line_71 : decode cX11_line 71 = .ok (.istore 4, 2) := by decide +kernel
theorem dX11_line_73 : decode cX11_line 73 = .ok (.iload_n 2, 1) := by decide +kernel
theorem dX11_line_74 : decode cX11_line 74 = .ok (.iconst 1, 1) := by decide +kernel
theorem dX11_line_75 : decode cX11_line 75 = .ok (.iload 4, 2) := by decide +kernel
theorem dX11_line_77 : decode cX11_line 77 = .ok (.ishl, 1) := by decide +kernel
theorem dX11_line_78 : decode cX11_line 78 = .ok (.ior, 1) := by decide +kernel
theorem dX11_line_79 : decode cX11_line 79 = .ok (.istore_n 2, 1) := by decide +kernel
theorem dX11_line_80 : decode cX11_line 80 = .ok (.iload_n 1, 1) := by decide +kernel
theorem dX11_line_81 : decode cX11_line 81 = .ok (.bipush 10, 2) := by decide +kernel
theorem dX11_line_83 : decode cX11_line 83 = .ok (.imul, 1) := by decide +kernel
theorem dX11_line_84 : decode cX11_line 84 = .ok (.iload 4, 2) := by decide +kernel
theorem dX11_line_86 : decode cX11_line 86 = .ok (.iadd, 1) := by decide +kernel
theorem dX11_line_87 : decode cX11_line 87 = .ok (.istore_n 1, 1) := by decide +kernel
theorem dX11_line_88 : decode cX11_line 88 = .ok (.iinc 3 1, 3) := by decide +kernel
theorem dX11_line_91 : decode cX11_line 91 = .ok (.goto (-36), 3) := by decide +kernel
theorem dX11_line_94 : decode cX11_line 94 = .ok (.iload_n 1, 1) := by decide +kernel
theorem dX11_line_95 : decode cX11_line 95 = .ok (.ireturn, 1) := by decide +kernel
theorem dX11_firstInLine_0 : decode cX11_firstInLine 0 = .ok (.iconst (-1), 1) := by decide +kernel
theorem dX11_firstInLine_1 : decode cX11_firstInLine 1 = .ok (.istore_n 2, 1) := by decide +kernel
theorem dX11_firstInLine_2 : decode cX11_firstInLine 2 = .ok (.iconst 0, 1) := by decide +kernel
theorem dX11_firstInLine_3 : decode cX11_firstInLine 3 = .ok (.istore_n 3, 1) := by decide +kernel
theorem dX11_firstInLine_4 : decode cX11_firstInLine 4 = .ok (.iload_n 3, 1) := by decide +kernel
theorem dX11_firstInLine_5 : decode cX11_firstInLine 5 = .ok (.aload_n 0, 1) := by decide +kernel
theorem dX11_firstInLine_6 : decode cX11_firstInLine 6 = .ok (.getfield 19, 3) := by decide +kernel
theorem dX11_firstInLine_9 : decode cX11_firstInLine 9 = .ok (.invokevirtual 158, 3) := by decide +kernel
theorem dX11_firstInLine_12 : decode cX11_firstInLine 12 = .ok (.if_icmp .ge 51, 3) := by decide +kernel
theorem dX11_firstInLine_15 : decode cX11_firstInLine 15 = .ok (.iload_n 1, 1) := by decide +kernel
theorem dX11_firstInLine_16 : decode cX11_firstInLine 16 = .ok (.iload_n 3, 1) := by decide +kernel
theorem dX11_firstInLine_17 : decode cX11_firstInLine 17 = .ok (.ishr, 1) := by decide +kernel
theorem dX11_firstInLine_18 : decode cX11_firstInLine 18 = .ok (.iconst 1, 1) := by decide +kernel
theorem dX11_firstInLine_19 : decode cX11_firstInLine 19 = .ok (.iand, 1) := by decide +kernel
theorem dX11_firstInLine_20 : decode cX11_firstInLine 20 = .ok (.ifCond .ne 7, 3) := by decide +kernel
theorem dX11_firstInLine_23 : decode cX11_firstInLine 23 = .ok (.iconst 1, 1) := by decide +kernel
theorem dX11_firstInLine_24 : decode cX11_firstInLine 24 = .ok (.goto 4, 3) := by decide +kernel
theorem dX11_firstInLine_27 : decode cX11_firstInLine 27 = .ok (.iconst 0, 1) := by decide +kernel
theorem dX11_firstInLine_28 : decode cX11_firstInLine 28 = .ok (.istore 4, 2) := by decide +kernel
theorem dX11_firstInLine_30 : decode cX11_firstInLine 30 = .ok (.iload 4, 2) := by decide +kernel
theorem dX11_firstInLine_32 : decode cX11_firstInLine 32 = .ok (.ifCond .eq 25, 3) := by decide +kernel
theorem dX11_firstInLine_35 : decode cX11_firstInLine 35 = .ok (.iload_n 2, 1) := by decide +kernel
theorem dX11_firstInLine_36 : decode cX11_firstInLine 36 = .ok (.iconst (-1), 1) := by decide +kernel
theorem dX11_firstInLine_37 : decode cX11_firstInLine 37 = .ok (.if_icmp .eq 18, 3) := by decide +kernel
theorem dX11_firstInLine_40 : decode cX11_firstInLine 40 = .ok (.aload_n 0, 1) := by decide +kernel
theorem dX11_firstInLine_41 : decode cX11_firstInLine 41 = .ok (.getfield 102, 3) := by decide +kernel
theorem dX11_firstInLine_44 : decode cX11_firstInLine 44 = .ok (.iload_n 3, 1) := by decide +kernel
theorem dX11_firstInLine_45 : decode cX11_firstInLine 45 = .ok (.iaload, 1) := by decide +kernel
theorem dX11_firstInLine_46 : decode cX11_firstInLine 46 = .ok (.aload_n 0, 1) := by decide +kernel
theorem dX11_firstInLine_47 : decode cX11_firstInLine 47 = .ok (.getfield 102, 3) := by decide +kernel
theorem dX11_firstInLine_50 : decode cX11_firstInLine 50 = .ok (.iload_n 2, 1) := by decide +kernel
theorem dX11_firstInLine_51 : decode cX11_firstInLine 51 = .ok (.iaload, 1) := by decide +kernel
theorem dX11_firstInLine_52 : decode cX11_firstInLine 52 = .ok (.if_icmp .le 5, 3) := by decide +kernel
theorem dX11_firstInLine_55 : decode cX11_firstInLine 55 = .ok (.iload_n 3, 1) := by decide +kernel
theorem dX11_firstInLine_56 : decode cX11_firstInLine 56 = .ok (.istore_n 2, 1) := by decide +kernel
theorem dX11_firstInLine_57 : decode cX11_firstInLine 57 = .ok (.iinc 3 1, 3) := by decide +kernel
theorem dX11_firstInLine_60 : decode cX11_firstInLine 60 = .ok (.goto (-56), 3) := by decide +kernel
theorem dX11_firstInLine_63 : decode cX11_firstInLine 63 = .ok (.iload_n 2, 1) := by decide +kernel
theorem dX11_firstInLine_64 : decode cX11_firstInLine 64 = .ok (.iconst (-1), 1) := by decide +kernel
theorem dX11_firstInLine_65 : decode cX11_firstInLine 65 = .ok (.if_icmp .ne 7, 3) := by decide +kernel
theorem dX11_firstInLine_68 : decode cX11_firstInLine 68 = .ok (.iconst 0, 1) := by decide +kernel
theorem dX11_firstInLine_69 : decode cX11_firstInLine 69 = .ok (.goto 4, 3) := by decide +kernel
theorem dX11_firstInLine_72 : decode cX11_firstInLine 72 = .ok (.iload_n 2, 1) := by decide +kernel
theorem dX11_firstInLine_73 : decode cX11_firstInLine 73 = .ok (.ireturn, 1) := by decide +kernel
theorem dX11_image_0 : decode cX11_image 0 = .ok (.aload_n 0, 1) := by decide +kernel
theorem dX11_image_1 : decode cX11_image 1 = .ok (.invokevirtual 172, 3) := by decide +kernel
theorem dX11_image_4 : decode cX11_image 4 = .ok (.ifCond .ne 5, 3) := by decide +kernel
theorem dX11_image_7 : decode cX11_image 7 = .ok (.iconst (-1), 1) := by decide +kernel
theorem dX11_image_8 : decode cX11_image 8 = .ok (.ireturn, 1) := by decide +kernel
theorem dX11_image_9 : decode cX11_image 9 = .ok (.aload_n 0, 1) := by decide +kernel
theorem dX11_image_10 : decode cX11_image 10 = .ok (.getfield 33, 3) := by decide +kernel
theorem dX11_image_13 : decode cX11_image 13 = .ok (.aload_n 0, 1) := by decide +kernel
theorem dX11_image_14 : decode cX11_image 14 = .ok (.getfield 29, 3) := by decide +kernel
theorem dX11_image_17 : decode cX11_image 17 = .ok (.invokevirtual 399, 3) := by decide +kernel
theorem dX11_image_20 : decode cX11_image 20 = .ok (.aload_n 0, 1) := by decide +kernel
theorem dX11_image_21 : decode cX11_image 21 = .ok (.iconst 1, 1) := by decide +kernel
theorem dX11_image_22 : decode cX11_image 22 = .ok (.putfield 106, 3) := by decide +kernel
theorem dX11_image_25 : decode cX11_image 25 = .ok (.aload_n 0, 1) := by decide +kernel
theorem dX11_image_26 : decode cX11_image 26 = .ok (.getfield 29, 3) := by decide +kernel
theorem dX11_image_29 : decode cX11_image 29 = .ok (.invokevirtual 227, 3) := by decide +kernel
theorem dX11_image_32 : decode cX11_image 32 = .ok (.ireturn, 1) := by decide +kernel
theorem dX11_back_0 : decode cX11_back 0 = .ok (.aload_n 0, 1) := by decide +kernel
theorem dX11_back_1 : decode cX11_back 1 = .ok (.getfield 106, 3) := by decide +kernel
theorem dX11_back_4 : decode cX11_back 4 = .ok (.ifCond .ne 5, 3) := by decide +kernel
theorem dX11_back_7 : decode cX11_back 7 = .ok (.iconst (-1), 1) := by decide +kernel
theorem dX11_back_8 : decode cX11_back 8 = .ok (.ireturn, 1) := by decide +kernel
theorem dX11_back_9 : decode cX11_back 9 = .ok (.aload_n 0, 1) := by decide +kernel
theorem dX11_back_10 : decode cX11_back 10 = .ok (.getfield 29, 3) := by decide +kernel
theorem dX11_back_13 : decode cX11_back 13 = .ok (.aload_n 0, 1) := by decide +kernel
theorem dX11_back_14 : decode cX11_back 14 = .ok (.getfield 33, 3) := by decide +kernel
theorem dX11_back_17 : decode cX11_back 17 = .ok (.invokevirtual 399, 3) := by decide +kernel
theorem dX11_back_20 : decode cX11_back 20 = .ok (.aload_n 0, 1) := by decide +kernel
theorem dX11_back_21 : decode cX11_back 21 = .ok (.getfield 39, 3) := by decide +kernel
theorem dX11_back_24 : decode cX11_back 24 = .ok (.invokevirtual 154, 3) := by decide +kernel
theorem dX11_back_27 : decode cX11_back 27 = .ok (.aload_n 0, 1) := by decide +kernel
theorem dX11_back_28 : decode cX11_back 28 = .ok (.getfield 29, 3) := by decide +kernel
theorem dX11_back_31 : decode cX11_back 31 = .ok (.invokevirtual 227, 3) := by decide +kernel
theorem dX11_back_34 : decode cX11_back 34 = .ok (.ireturn, 1) := by decide +kernel
theorem dX11_count_0 : decode cX11_count 0 = .ok (.iload_n 1, 1) := by decide +kernel
theorem dX11_count_1 : decode cX11_count 1 = .ok (.tableswitch 180 0 13 #[71, 79, 87, 95, 103, 111, 119, 127, 135, 143, 148, 156, 164, 172], 71) := by decide +kernel
theorem dX11_count_72 : decode cX11_count 72 = .ok (.aload_n 0, 1) := by decide +kernel
theorem dX11_count_73 : decode cX11_count 73 = .ok (.getfield 19, 3) := by decide +kernel
theorem dX11_count_76 : decode cX11_count 76 = .ok (.invokevirtual 158, 3) := by decide +kernel
theorem dX11_count_79 : decode cX11_count 79 = .ok (.ireturn, 1) := by decide +kernel
theorem dX11_count_80 : decode cX11_count 80 = .ok (.aload_n 0, 1) := by decide +kernel
theorem dX11_count_81 : decode cX11_count 81 = .ok (.getfield 71, 3) := by decide +kernel
theorem dX11_count_84 : decode cX11_count 84 = .ok (.invokevirtual 390, 3) := by decide +kernel
theorem dX11_count_87 : decode cX11_count 87 = .ok (.ireturn, 1) := by decide +kernel
theorem dX11_count_88 : decode cX11_count 88 = .ok (.aload_n 0, 1) := by decide +kernel
theorem dX11_count_89 : decode cX11_count 89 = .ok (.getfield 46, 3) := by decide +kernel
theorem dX11_count_92 : decode cX11_count 92 = .ok (.invokevirtual 401, 3) := by decide +kernel
theorem dX11_count_95 : decode cX11_count 95 = .ok (.ireturn, 1) := by decide +kernel
theorem dX11_count_96 : decode cX11_count 96 = .ok (.aload_n 0, 1) := by decide +kernel
theorem dX11_count_97 : decode cX11_count 97 = .ok (.getfield 10, 3) := by decide +kernel
theorem dX11_count_100 : decode cX11_count 100 = .ok (.invokevirtual 118, 3) := by decide +kernel
theorem dX11_count_103 : decode cX11_count 103 = .ok (.ireturn, 1) := by decide +kernel
theorem dX11_count_104 : decode cX11_count 104 = .ok (.aload_n 0, 1) := by decide +kernel
theorem dX11_count_105 : decode cX11_count 105 = .ok (.getfield 71, 3) := by decide +kernel
theorem dX11_count_108 : decode cX11_count 108 = .ok (.invokevirtual 240, 3) := by decide +kernel
theorem dX11_count_111 : decode cX11_count 111 = .ok (.ireturn, 1) := by decide +kernel
theorem dX11_count_112 : decode cX11_count 112 = .ok (.aload_n 0, 1) := by decide +kernel
theorem dX11_count_113 : decode cX11_count 113 = .ok (.getfield 46, 3) := by decide +kernel
theorem dX11_count_116 : decode cX11_count 116 = .ok (.invokevirtual 404, 3) := by decide +kernel
theorem dX11_count_119 : decode cX11_count 119 = .ok (.ireturn, 1) := by decide +kernel
theorem dX11_count_120 : decode cX11_count 120 = .ok (.aload_n 0, 1) := by decide +kernel
theorem dX11_count_121 : decode cX11_count 121 = .ok (.getfield 29, 3) := by decide +kernel
theorem dX11_count_124 : decode cX11_count 124 = .ok (.invokevirtual 227, 3) := by decide +kernel
theorem dX11_count_127 : decode cX11_count 127 = .ok (.ireturn, 1) := by decide +kernel
theorem dX11_count_128 : decode cX11_count 128 = .ok (.aload_n 0, 1) := by decide +kernel
theorem dX11_count_129 : decode cX11_count 129 = .ok (.getfield 29, 3) := by decide +kernel
theorem dX11_count_132 : decode cX11_count 132 = .ok (.invokevirtual 405, 3) := by decide +kernel
theorem dX11_count_135 : decode cX11_count 135 = .ok (.ireturn, 1) := by decide +kernel
theorem dX11_count_136 : decode cX11_count 136 = .ok (.aload_n 0, 1) := by decide +kernel
theorem dX11_count_137 : decode cX11_count 137 = .ok (.getfield 29, 3) := by decide +kernel
theorem dX11_count_140 : decode cX11_count 140 = .ok (.invokevirtual 408, 3) := by decide +kernel
theorem dX11_count_143 : decode cX11_count 143 = .ok (.ireturn, 1) := by decide +kernel
theorem dX11_count_144 : decode cX11_count 144 = .ok (.aload_n 0, 1) := by decide +kernel
theorem dX11_count_145 : decode cX11_count 145 = .ok (.getfield 110, 3) := by decide +kernel
theorem dX11_count_148 : decode cX11_count 148 = .ok (.ireturn, 1) := by decide +kernel
theorem dX11_count_149 : decode cX11_count 149 = .ok (.aload_n 0, 1) := by decide +kernel
theorem dX11_count_150 : decode cX11_count 150 = .ok (.getfield 89, 3) := by decide +kernel
theorem dX11_count_153 : decode cX11_count 153 = .ok (.invokevirtual 411, 3) := by decide +kernel
theorem dX11_count_156 : decode cX11_count 156 = .ok (.ireturn, 1) := by decide +kernel
theorem dX11_count_157 : decode cX11_count 157 = .ok (.aload_n 0, 1) := by decide +kernel
theorem dX11_count_158 : decode cX11_count 158 = .ok (.getfield 29, 3) := by decide +kernel
theorem dX11_count_161 : decode cX11_count 161 = .ok (.invokevirtual 279, 3) := by decide +kernel
theorem dX11_count_164 : decode cX11_count 164 = .ok (.ireturn, 1) := by decide +kernel
theorem dX11_count_165 : decode cX11_count 165 = .ok (.aload_n 0, 1) := by decide +kernel
theorem dX11_count_166 : decode cX11_count 166 = .ok (.getfield 29, 3) := by decide +kernel
theorem dX11_count_169 : decode cX11_count 169 = .ok (.invokevirtual 264, 3) := by decide +kernel
theorem dX11_count_172 : decode cX11_count 172 = .ok (.ireturn, 1) := by decide +kernel
theorem dX11_count_173 : decode cX11_count 173 = .ok (.aload_n 0, 1) := by decide +kernel
theorem dX11_count_174 : decode cX11_count 174 = .ok (.getfield 39, 3) := by decide +kernel
theorem dX11_count_177 : decode cX11_count 177 = .ok (.invokevirtual 412, 3) := by decide +kernel
theorem dX11_count_180 : decode cX11_count 180 = .ok (.ireturn, 1) := by decide +kernel
theorem dX11_count_181 : decode cX11_count 181 = .ok (.ldc 206, 2) := by decide +kernel
theorem dX11_count_183 : decode cX11_count 183 = .ok (.ireturn, 1) := by decide +kernel
theorem dX11_hasTown_0 : decode cX11_hasTown 0 = .ok (.aload_n 0, 1) := by decide +kernel
theorem dX11_hasTown_1 : decode cX11_hasTown 1 = .ok (.getfield 19, 3) := by decide +kernel
theorem dX11_hasTown_4 : decode cX11_hasTown 4 = .ok (.invokevirtual 158, 3) := by decide +kernel
theorem dX11_hasTown_7 : decode cX11_hasTown 7 = .ok (.ifCond .le 7, 3) := by decide +kernel
theorem dX11_hasTown_10 : decode cX11_hasTown 10 = .ok (.iconst 1, 1) := by decide +kernel
theorem dX11_hasTown_11 : decode cX11_hasTown 11 = .ok (.goto 4, 3) := by decide +kernel
theorem dX11_hasTown_14 : decode cX11_hasTown 14 = .ok (.iconst 0, 1) := by decide +kernel
theorem dX11_hasTown_15 : decode cX11_hasTown 15 = .ok (.ireturn, 1) := by decide +kernel
theorem dX11_isPerson_0 : decode cX11_isPerson 0 = .ok (.iload_n 1, 1) := by decide +kernel
theorem dX11_isPerson_1 : decode cX11_isPerson 1 = .ok (.ifCond .lt 18, 3) := by decide +kernel
theorem dX11_isPerson_4 : decode cX11_isPerson 4 = .ok (.iload_n 1, 1) := by decide +kernel
theorem dX11_isPerson_5 : decode cX11_isPerson 5 = .ok (.aload_n 0, 1) := by decide +kernel
theorem dX11_isPerson_6 : decode cX11_isPerson 6 = .ok (.getfield 19, 3) := by decide +kernel
theorem dX11_isPerson_9 : decode cX11_isPerson 9 = .ok (.invokevirtual 158, 3) := by decide +kernel
theorem dX11_isPerson_12 : decode cX11_isPerson 12 = .ok (.if_icmp .ge 7, 3) := by decide +kernel
theorem dX11_isPerson_15 : decode cX11_isPerson 15 = .ok (.iconst 1, 1) := by decide +kernel
theorem dX11_isPerson_16 : decode cX11_isPerson 16 = .ok (.goto 4, 3) := by decide +kernel
theorem dX11_isPerson_19 : decode cX11_isPerson 19 = .ok (.iconst 0, 1) := by decide +kernel
theorem dX11_isPerson_20 : decode cX11_isPerson 20 = .ok (.ireturn, 1) := by decide +kernel
theorem dX11_isHour_0 : decode cX11_isHour 0 = .ok (.iload_n 1, 1) := by decide +kernel
theorem dX11_isHour_1 : decode cX11_isHour 1 = .ok (.ifCond .lt 18, 3) := by decide +kernel
theorem dX11_isHour_4 : decode cX11_isHour 4 = .ok (.iload_n 1, 1) := by decide +kernel
theorem dX11_isHour_5 : decode cX11_isHour 5 = .ok (.aload_n 0, 1) := by decide +kernel
theorem dX11_isHour_6 : decode cX11_isHour 6 = .ok (.getfield 19, 3) := by decide +kernel
theorem dX11_isHour_9 : decode cX11_isHour 9 = .ok (.invokevirtual 305, 3) := by decide +kernel
theorem dX11_isHour_12 : decode cX11_isHour 12 = .ok (.if_icmp .ge 7, 3) := by decide +kernel
theorem dX11_isHour_15 : decode cX11_isHour 15 = .ok (.iconst 1, 1) := by decide +kernel
theorem dX11_isHour_16 : decode cX11_isHour 16 = .ok (.goto 4, 3) := by decide +kernel
theorem dX11_isHour_19 : decode cX11_isHour 19 = .ok (.iconst 0, 1) := by decide +kernel
theorem dX11_isHour_20 : decode cX11_isHour 20 = .ok (.ireturn, 1) := by decide +kernel
theorem dX11_isMarried_0 : decode cX11_isMarried 0 = .ok (.aload_n 0, 1) := by decide +kernel
theorem dX11_isMarried_1 : decode cX11_isMarried 1 = .ok (.iload_n 1, 1) := by decide +kernel
theorem dX11_isMarried_2 : decode cX11_isMarried 2 = .ok (.invokevirtual 178, 3) := by decide +kernel
theorem dX11_isMarried_5 : decode cX11_isMarried 5 = .ok (.ifCond .eq 19, 3) := by decide +kernel
theorem dX11_isMarried_8 : decode cX11_isMarried 8 = .ok (.aload_n 0, 1) := by decide +kernel
theorem dX11_isMarried_9 : decode cX11_isMarried 9 = .ok (.getfield 19, 3) := by decide +kernel
theorem dX11_isMarried_12 : decode cX11_isMarried 12 = .ok (.iload_n 1, 1) := by decide +kernel
theorem dX11_isMarried_13 : decode cX11_isMarried 13 = .ok (.invokevirtual 194, 3) := by decide +kernel
theorem dX11_isMarried_16 : decode cX11_isMarried 16 = .ok (.iconst (-1), 1) := by decide +kernel
theorem dX11_isMarried_17 : decode cX11_isMarried 17 = .ok (.if_icmp .eq 7, 3) := by decide +kernel
theorem dX11_isMarried_20 : decode cX11_isMarried 20 = .ok (.iconst 1, 1) := by decide +kernel
theorem dX11_isMarried_21 : decode cX11_isMarried 21 = .ok (.goto 4, 3) := by decide +kernel
theorem dX11_isMarried_24 : decode cX11_isMarried 24 = .ok (.iconst 0, 1) := by decide +kernel
theorem dX11_isMarried_25 : decode cX11_isMarried 25 = .ok (.ireturn, 1) := by decide +kernel
theorem dX11_isBit_0 : decode cX11_isBit 0 = .ok (.iload_n 0, 1) := by decide +kernel
theorem dX11_isBit_1 : decode cX11_isBit 1 = .ok (.ifCond .eq 8, 3) := by decide +kernel
theorem dX11_isBit_4 : decode cX11_isBit 4 = .ok (.iload_n 0, 1) := by decide +kernel
theorem dX11_isBit_5 : decode cX11_isBit 5 = .ok (.iconst 1, 1) := by decide +kernel
theorem dX11_isBit_6 : decode cX11_isBit 6 = .ok (.if_icmp .ne 7, 3) := by decide +kernel
theorem dX11_isBit_9 : decode cX11_isBit 9 = .ok (.iconst 1, 1) := by decide +kernel
theorem dX11_isBit_10 : decode cX11_isBit 10 = .ok (.goto 4, 3) := by decide +kernel
theorem dX11_isBit_13 : decode cX11_isBit 13 = .ok (.iconst 0, 1) := by decide +kernel
theorem dX11_isBit_14 : decode cX11_isBit 14 = .ok (.ireturn, 1) := by decide +kernel
theorem dX2_init_0 : decode cX2_init 0 = .ok (.aload_n 0, 1) := by decide +kernel
theorem dX2_init_1 : decode cX2_init 1 = .ok (.invokespecial 1, 3) := by decide +kernel
theorem dX2_init_4 : decode cX2_init 4 = .ok (.aload_n 0, 1) := by decide +kernel
theorem dX2_init_5 : decode cX2_init 5 = .ok (.sipush 240, 3) := by decide +kernel
theorem dX2_init_8 : decode cX2_init 8 = .ok (.newarray .int, 2) := by decide +kernel
theorem dX2_init_10 : decode cX2_init 10 = .ok (.putfield 9, 3) := by decide +kernel
theorem dX2_init_13 : decode cX2_init 13 = .ok (.aload_n 0, 1) := by decide +kernel
theorem dX2_init_14 : decode cX2_init 14 = .ok (.bipush 61, 2) := by decide +kernel
theorem dX2_init_16 : decode cX2_init 16 = .ok (.newarray .int, 2) := by decide +kernel
theorem dX2_init_18 : decode cX2_init 18 = .ok (.putfield 15, 3) := by decide +kernel
theorem dX2_init_21 : decode cX2_init 21 = .ok (.aload_n 0, 1) := by decide +kernel
theorem dX2_init_22 : decode cX2_init 22 = .ok (.bipush 61, 2) := by decide +kernel
theorem dX2_init_24 : decode cX2_init 24 = .ok (.newarray .int, 2) := by decide +kernel
theorem dX2_init_26 : decode cX2_init 26 = .ok (.putfield 18, 3) := by decide +kernel
theorem dX2_init_29 : decode cX2_init 29 = .ok (.aload_n 0, 1) := by decide +kernel
theorem dX2_init_30 : decode cX2_init 30 = .ok (.bipush 61, 2) := by decide +kernel
theorem dX2_init_32 : decode cX2_init 32 = .ok (.newarray .int, 2) := by decide +kernel
theorem dX2_init_34 : decode cX2_init 34 = .ok (.putfield 21, 3) := by decide +kernel
theorem dX2_init_37 : decode cX2_init 37 = .ok (.aload_n 0, 1) := by decide +kernel
theorem dX2_init_38 : decode cX2_init 38 = .ok (.bipush 32, 2) := by decide +kernel
theorem dX2_init_40 : decode cX2_init 40 = .ok (.newarray .int, 2) := by decide +kernel
theorem dX2_init_42 : decode cX2_init 42 = .ok (.putfield 24, 3) := by decide +kernel
theorem dX2_init_45 : decode cX2_init 45 = .ok (.return_, 1) := by decide +kernel
theorem dX2_clear_0 : decode cX2_clear 0 = .ok (.aload_n 0, 1) := by decide +kernel
theorem dX2_clear_1 : decode cX2_clear 1 = .ok (.iconst 0, 1) := by decide +kernel
theorem dX2_clear_2 : decode cX2_clear 2 = .ok (.putfield 27, 3) := by decide +kernel
theorem dX2_clear_5 : decode cX2_clear 5 = .ok (.aload_n 0, 1) := by decide +kernel
theorem dX2_clear_6 : decode cX2_clear 6 = .ok (.iconst 0, 1) := by decide +kernel
theorem dX2_clear_7 : decode cX2_clear 7 = .ok (.putfield 31, 3) := by decide +kernel
theorem dX2_clear_10 : decode cX2_clear 10 = .ok (.return_, 1) := by decide +kernel
theorem dX2_open_0 : decode cX2_open 0 = .ok (.aload_n 0, 1) := by decide +kernel
theorem dX2_open_1 : decode cX2_open 1 = .ok (.getfield 31, 3) := by decide +kernel
theorem dX2_open_4 : decode cX2_open 4 = .ok (.bipush 61, 2) := by decide +kernel
theorem dX2_open_6 : decode cX2_open 6 = .ok (.if_icmp .ge 49, 3) := by decide +kernel
theorem dX2_open_9 : decode cX2_open 9 = .ok (.aload_n 0, 1) := by decide +kernel
theorem dX2_open_10 : decode cX2_open 10 = .ok (.getfield 21, 3) := by decide +kernel
theorem dX2_open_13 : decode cX2_open 13 = .ok (.aload_n 0, 1) := by decide +kernel
theorem dX2_open_14 : decode cX2_open 14 = .ok (.getfield 31, 3) := by decide +kernel
theorem dX2_open_17 : decode cX2_open 17 = .ok (.iload_n 1, 1) := by decide +kernel
theorem dX2_open_18 : decode cX2_open 18 = .ok (.iastore, 1) := by decide +kernel
theorem dX2_open_19 : decode cX2_open 19 = .ok (.aload_n 0, 1) := by decide +kernel
theorem dX2_open_20 : decode cX2_open 20 = .ok (.getfield 15, 3) := by decide +kernel
theorem dX2_open_23 : decode cX2_open 23 = .ok (.aload_n 0, 1) := by decide +kernel
theorem dX2_open_24 : decode cX2_open 24 = .ok (.getfield 31, 3) := by decide +kernel
theorem dX2_open_27 : decode cX2_open 27 = .ok (.aload_n 0, 1) := by decide +kernel
theorem dX2_open_28 : decode cX2_open 28 = .ok (.getfield 27, 3) := by decide +kernel
theorem dX2_open_31 : decode cX2_open 31 = .ok (.iastore, 1) := by decide +kernel
theorem dX2_open_32 : decode cX2_open 32 = .ok (.aload_n 0, 1) := by decide +kernel
theorem dX2_open_33 : decode cX2_open 33 = .ok (.getfield 18, 3) := by decide +kernel
theorem dX2_open_36 : decode cX2_open 36 = .ok (.aload_n 0, 1) := by decide +kernel
theorem dX2_open_37 : decode cX2_open 37 = .ok (.getfield 31, 3) := by decide +kernel
theorem dX2_open_40 : decode cX2_open 40 = .ok (.aload_n 0, 1) := by decide +kernel
theorem dX2_open_41 : decode cX2_open 41 = .ok (.getfield 27, 3) := by decide +kernel
theorem dX2_open_44 : decode cX2_open 44 = .ok (.iastore, 1) := by decide +kernel
theorem dX2_open_45 : decode cX2_open 45 = .ok (.aload_n 0, 1) := by decide +kernel
theorem dX2_open_46 : decode cX2_open 46 = .ok (.dup, 1) := by decide +kernel
theorem dX2_open_47 : decode cX2_open 47 = .ok (.getfield 31, 3) := by decide +kernel
theorem dX2_open_50 : decode cX2_open 50 = .ok (.iconst 1, 1) := by decide +kernel
theorem dX2_open_51 : decode cX2_open 51 = .ok (.iadd, 1) := by decide +kernel
theorem dX2_open_52 : decode cX2_open 52 = .ok (.putfield 31, 3) := by decide +kernel
theorem dX2_open_55 : decode cX2_open 55 = .ok (.return_, 1) := by decide +kernel
theorem dX2_endCondition_0 : decode cX2_endCondition 0 = .ok (.aload_n 0, 1) := by decide +kernel
theorem dX2_endCondition_1 : decode cX2_endCondition 1 = .ok (.getfield 31, 3) := by decide +kernel
theorem dX2_endCondition_4 : decode cX2_endCondition 4 = .ok (.ifCond .le 18, 3) := by decide +kernel
theorem dX2_endCondition_7 : decode cX2_endCondition 7 = .ok (.aload_n 0, 1) := by decide +kernel
theorem dX2_endCondition_8 : decode cX2_endCondition 8 = .ok (.getfield 18, 3) := by decide +kernel
theorem dX2_endCondition_11 : decode cX2_endCondition 11 = .ok (.aload_n 0, 1) := by decide +kernel
theorem dX2_endCondition_12 : decode cX2_endCondition 12 = .ok (.getfield 31, 3) := by decide +kernel
theorem dX2_endCondition_15 : decode cX2_endCondition 15 = .ok (.iconst 1, 1) := by decide +kernel
theorem dX2_endCondition_16 : decode cX2_endCondition 16 = .ok (.isub, 1) := by decide +kernel
theorem dX2_endCondition_17 : decode cX2_endCondition 17 = .ok (.aload_n 0, 1) := by decide +kernel
theorem dX2_endCondition_18 : decode cX2_endCondition 18 = .ok (.getfield 27, 3) := by decide +kernel
theorem dX2_endCondition_21 : decode cX2_endCondition 21 = .ok (.iastore, 1) := by decide +kernel
theorem dX2_endCondition_22 : decode cX2_endCondition 22 = .ok (.return_, 1) := by decide +kernel
theorem dX2_put_0 : decode cX2_put 0 = .ok (.aload_n 0, 1) := by decide +kernel
theorem dX2_put_1 : decode cX2_put 1 = .ok (.getfield 27, 3) := by decide +kernel
theorem dX2_put_4 : decode cX2_put 4 = .ok (.sipush 240, 3) := by decide +kernel
theorem dX2_put_7 : decode cX2_put 7 = .ok (.if_icmp .ge 23, 3) := by decide +kernel
theorem dX2_put_10 : decode cX2_put 10 = .ok (.aload_n 0, 1) := by decide +kernel
theorem dX2_put_11 : decode cX2_put 11 = .ok (.getfield 9, 3) := by decide +kernel
theorem dX2_put_14 : decode cX2_put 14 = .ok (.aload_n 0, 1) := by decide +kernel
theorem dX2_put_15 : decode cX2_put 15 = .ok (.getfield 27, 3) := by decide +kernel
theorem dX2_put_18 : decode cX2_put 18 = .ok (.iload_n 1, 1) := by decide +kernel
theorem dX2_put_19 : decode cX2_put 19 = .ok (.iastore, 1) := by decide +kernel
theorem dX2_put_20 : decode cX2_put 20 = .ok (.aload_n 0, 1) := by decide +kernel
theorem dX2_put_21 : decode cX2_put 21 = .ok (.dup, 1) := by decide +kernel
theorem dX2_put_22 : decode cX2_put 22 = .ok (.getfield 27, 3) := by decide +kernel
theorem dX2_put_25 : decode cX2_put 25 = .ok (.iconst 1, 1) := by decide +kernel
theorem dX2_put_26 : decode cX2_put 26 = .ok (.iadd, 1) := by decide +kernel
theorem dX2_put_27 : decode cX2_put 27 = .ok (.putfield 27, 3) := by decide +kernel
theorem dX2_put_30 : decode cX2_put 30 = .ok (.return_, 1) := by decide +kernel
theorem dX2_worth_0 : decode cX2_worth 0 = .ok (.iconst 0, 1) := by decide +kernel
theorem dX2_worth_1 : decode cX2_worth 1 = .ok (.istore_n 3, 1) := by decide +kernel
theorem dX2_worth_2 : decode cX2_worth 2 = .ok (.iload_n 3, 1) := by decide +kernel
theorem dX2_worth_3 : decode cX2_worth 3 = .ok (.aload_n 0, 1) := by decide +kernel
theorem dX2_worth_4 : decode cX2_worth 4 = .ok (.getfield 31, 3) := by decide +kernel
theorem dX2_worth_7 : decode cX2_worth 7 = .ok (.if_icmp .ge 103, 3) := by decide +kernel
theorem dX2_worth_10 : decode cX2_worth 10 = .ok (.aload_n 0, 1) := by decide +kernel
theorem dX2_worth_11 : decode cX2_worth 11 = .ok (.getfield 21, 3) := by decide +kernel
theorem dX2_worth_14 : decode cX2_worth 14 = .ok (.iload_n 3, 1) := by decide +kernel
theorem dX2_worth_15 : decode cX2_worth 15 = .ok (.iaload, 1) := by decide +kernel
theorem dX2_worth_16 : decode cX2_worth 16 = .ok (.iload_n 1, 1) := by decide +kernel
theorem dX2_worth_17 : decode cX2_worth 17 = .ok (.if_icmp .ne 87, 3) := by decide +kernel
theorem dX2_worth_20 : decode cX2_worth 20 = .ok (.aload_n 0, 1) := by decide +kernel
theorem dX2_worth_21 : decode cX2_worth 21 = .ok (.getfield 18, 3) := by decide +kernel
theorem dX2_worth_24 : decode cX2_worth 24 = .ok (.iload_n 3, 1) := by decide +kernel
theorem dX2_worth_25 : decode cX2_worth 25 = .ok (.iaload, 1) := by decide +kernel
theorem dX2_worth_26 : decode cX2_worth 26 = .ok (.aload_n 0, 1) := by decide +kernel
theorem dX2_worth_27 : decode cX2_worth 27 = .ok (.getfield 15, 3) := by decide +kernel
theorem dX2_worth_30 : decode cX2_worth 30 = .ok (.iload_n 3, 1) := by decide +kernel
theorem dX2_worth_31 : decode cX2_worth 31 = .ok (.iaload, 1) := by decide +kernel
theorem dX2_worth_32 : decode cX2_worth 32 = .ok (.if_icmp .eq 23, 3) := by decide +kernel
theorem dX2_worth_35 : decode cX2_worth 35 = .ok (.aload_n 0, 1) := by decide +kernel
theorem dX2_worth_36 : decode cX2_worth 36 = .ok (.aload_n 0, 1) := by decide +kernel
theorem dX2_worth_37 : decode cX2_worth 37 = .ok (.getfield 15, 3) := by decide +kernel
theorem dX2_worth_40 : decode cX2_worth 40 = .ok (.iload_n 3, 1) := by decide +kernel
theorem dX2_worth_41 : decode cX2_worth 41 = .ok (.iaload, 1) := by decide +kernel
theorem dX2_worth_42 : decode cX2_worth 42 = .ok (.aload_n 0, 1) := by decide +kernel
theorem dX2_worth_43 : decode cX2_worth 43 = .ok (.getfield 18, 3) := by decide +kernel
theorem dX2_worth_46 : decode cX2_worth 46 = .ok (.iload_n 3, 1) := by decide +kernel
theorem dX2_worth_47 : decode cX2_worth 47 = .ok (.iaload, 1) := by decide +kernel
theorem dX2_worth_48 : decode cX2_worth 48 = .ok (.aload_n 2, 1) := by decide +kernel
theorem dX2_worth_49 : decode cX2_worth 49 = .ok (.invokevirtual 34, 3) := by decide +kernel
theorem dX2_worth_52 : decode cX2_worth 52 = .ok (.ifCond .eq 7, 3) := by decide +kernel
theorem dX2_worth_55 : decode cX2_worth 55 = .ok (.iconst 1, 1) := by decide +kernel
theorem dX2_worth_56 : decode cX2_worth 56 = .ok (.goto 4, 3) := by decide +kernel
theorem dX2_worth_59 : decode cX2_worth 59 = .ok (.iconst 0, 1) := by decide +kernel
theorem dX2_worth_60 : decode cX2_worth 60 = .ok (.istore 4, 2) := by decide +kernel
theorem dX2_worth_62 : decode cX2_worth 62 = .ok (.iload 4, 2) := by decide +kernel
theorem dX2_worth_64 : decode cX2_worth 64 = .ok (.ifCond .eq 40, 3) := by decide +kernel
theorem dX2_worth_67 : decode cX2_worth 67 = .ok (.aload_n 0, 1) := by decide +kernel
theorem dX2_worth_68 : decode cX2_worth 68 = .ok (.aload_n 0, 1) := by decide +kernel
theorem dX2_worth_69 : decode cX2_worth 69 = .ok (.getfield 18, 3) := by decide +kernel
theorem dX2_worth_72 : decode cX2_worth 72 = .ok (.iload_n 3, 1) := by decide +kernel
theorem dX2_worth_73 : decode cX2_worth 73 = .ok (.iaload, 1) := by decide +kernel
theorem dX2_worth_74 : decode cX2_worth 74 = .ok (.iload_n 3, 1) := by decide +kernel
theorem dX2_worth_75 : decode cX2_worth 75 = .ok (.iconst 1, 1) := by decide +kernel
theorem dX2_worth_76 : decode cX2_worth 76 = .ok (.iadd, 1) := by decide +kernel
theorem dX2_worth_77 : decode cX2_worth 77 = .ok (.aload_n 0, 1) := by decide +kernel
theorem dX2_worth_78 : decode cX2_worth 78 = .ok (.getfield 31, 3) := by decide +kernel
theorem dX2_worth_81 : decode cX2_worth 81 = .ok (.if_icmp .ge 14, 3) := by decide +kernel
theorem dX2_worth_84 : decode cX2_worth 84 = .ok (.aload_n 0, 1) := by decide +kernel
theorem dX2_worth_85 : decode cX2_worth 85 = .ok (.getfield 15, 3) := by decide +kernel
theorem dX2_worth_88 : decode cX2_worth 88 = .ok (.iload_n 3, 1) := by decide +kernel
theorem dX2_worth_89 : decode cX2_worth 89 = .ok (.iconst 1, 1) := by decide +kernel
theorem dX2_worth_90 : decode cX2_worth 90 = .ok (.iadd, 1) := by decide +kernel
theorem dX2_worth_91 : decode cX2_worth 91 = .ok (.iaload, 1) := by decide +kernel
theorem dX2_worth_92 : decode cX2_worth 92 = .ok (.goto 7, 3) := by decide +kernel
theorem dX2_worth_95 : decode cX2_worth 95 = .ok (.aload_n 0, 1) := by decide +kernel
theorem dX2_worth_96 : decode cX2_worth 96 = .ok (.getfield 27, 3) := by decide +kernel
theorem dX2_worth_99 : decode cX2_worth 99 = .ok (.aload_n 2, 1) := by decide +kernel
theorem dX2_worth_100 : decode cX2_worth 100 = .ok (.invokevirtual 34, 3) := by decide +kernel
theorem dX2_worth_103 : decode cX2_worth 103 = .ok (.ireturn, 1) := by decide +kernel
theorem dX2_worth_104 : decode cX2_worth 104 = .ok (.iinc 3 1, 3) := by decide +kernel
theorem dX2_worth_107 : decode cX2_worth 107 = .ok (.goto (-105), 3) := by decide +kernel
theorem dX2_worth_110 : decode cX2_worth 110 = .ok (.iconst 0, 1) := by decide +kernel
theorem dX2_worth_111 : decode cX2_worth 111 = .ok (.ireturn, 1) := by decide +kernel
theorem dX2_run_0 : decode cX2_run 0 = .ok (.iconst 0, 1) := by decide +kernel
theorem dX2_run_1 : decode cX2_run 1 = .ok (.istore 4, 2) := by decide +kernel
theorem dX2_run_3 : decode cX2_run 3 = .ok (.iload_n 1, 1) := by decide +kernel
theorem dX2_run_4 : decode cX2_run 4 = .ok (.istore 5, 2) := by decide +kernel
theorem dX2_run_6 : decode cX2_run 6 = .ok (.iload 5, 2) := by decide +kernel
theorem dX2_run_8 : decode cX2_run 8 = .ok (.iload_n 2, 1) := by decide +kernel
theorem dX2_run_9 : decode cX2_run 9 = .ok (.if_icmp .ge 139, 3) := by decide +kernel
theorem dX2_run_12 : decode cX2_run 12 = .ok (.aload_n 0, 1) := by decide +kernel
theorem dX2_run_13 : decode cX2_run 13 = .ok (.getfield 9, 3) := by decide +kernel
theorem dX2_run_16 : decode cX2_run 16 = .ok (.iload 5, 2) := by decide +kernel
theorem dX2_run_18 : decode cX2_run 18 = .ok (.iaload, 1) := by decide +kernel
theorem dX2_run_19 : decode cX2_run 19 = .ok (.istore 6, 2) := by decide +kernel
theorem dX2_run_21 : decode cX2_run 21 = .ok (.iload 6, 2) := by decide +kernel
theorem dX2_run_23 : decode cX2_run 23 = .ok (.ifCond .lt 44, 3) := by decide +kernel
theorem dX2_run_26 : decode cX2_run 26 = .ok (.iload 4, 2) := by decide +kernel
theorem dX2_run_28 : decode cX2_run 28 = .ok (.bipush 32, 2) := by decide +kernel
theorem dX2_run_30 : decode cX2_run 30 = .ok (.if_icmp .ge 112, 3) := by decide +kernel
theorem dX2_run_33 : decode cX2_run 33 = .ok (.aload_n 0, 1) := by decide +kernel
theorem dX2_run_34 : decode cX2_run 34 = .ok (.getfield 24, 3) := by decide +kernel
theorem dX2_run_37 : decode cX2_run 37 = .ok (.iload 4, 2) := by decide +kernel
theorem dX2_run_39 : decode cX2_run 39 = .ok (.iload 6, 2) := by decide +kernel
theorem dX2_run_41 : decode cX2_run 41 = .ok (.sipush 10000, 3) := by decide +kernel
theorem dX2_run_44 : decode cX2_run 44 = .ok (.if_icmp .ge 8, 3) := by decide +kernel
theorem dX2_run_47 : decode cX2_run 47 = .ok (.iload 6, 2) := by decide +kernel
theorem dX2_run_49 : decode cX2_run 49 = .ok (.goto 11, 3) := by decide +kernel
theorem dX2_run_52 : decode cX2_run 52 = .ok (.aload_n 3, 1) := by decide +kernel
theorem dX2_run_53 : decode cX2_run 53 = .ok (.iload 6, 2) := by decide +kernel
theorem dX2_run_55 : decode cX2_run 55 = .ok (.sipush 10000, 3) := by decide +kernel
theorem dX2_run_58 : decode cX2_run 58 = .ok (.isub, 1) := by decide +kernel
theorem dX2_run_59 : decode cX2_run 59 = .ok (.iaload, 1) := by decide +kernel
theorem dX2_run_60 : decode cX2_run 60 = .ok (.iastore, 1) := by decide +kernel
theorem dX2_run_61 : decode cX2_run 61 = .ok (.iinc 4 1, 3) := by decide +kernel
theorem dX2_run_64 : decode cX2_run 64 = .ok (.goto 78, 3) := by decide +kernel
theorem dX2_run_67 : decode cX2_run 67 = .ok (.iload 6, 2) := by decide +kernel
theorem dX2_run_69 : decode cX2_run 69 = .ok (.bipush (-33), 2) := by decide +kernel
theorem dX2_run_71 : decode cX2_run 71 = .ok (.if_icmp .ne 31, 3) := by decide +kernel
theorem dX2_run_74 : decode cX2_run 74 = .ok (.iload 4, 2) := by decide +kernel
theorem dX2_run_76 : decode cX2_run 76 = .ok (.ifCond .le 66, 3) := by decide +kernel
theorem dX2_run_79 : decode cX2_run 79 = .ok (.aload_n 0, 1) := by decide +kernel
theorem dX2_run_80 : decode cX2_run 80 = .ok (.getfield 24, 3) := by decide +kernel
theorem dX2_run_83 : decode cX2_run 83 = .ok (.iload 4, 2) := by decide +kernel
theorem dX2_run_85 : decode cX2_run 85 = .ok (.iconst 1, 1) := by decide +kernel
theorem dX2_run_86 : decode cX2_run 86 = .ok (.isub, 1) := by decide +kernel
theorem dX2_run_87 : decode cX2_run 87 = .ok (.iconst 1, 1) := by decide +kernel
theorem dX2_run_88 : decode cX2_run 88 = .ok (.aload_n 0, 1) := by decide +kernel
theorem dX2_run_89 : decode cX2_run 89 = .ok (.getfield 24, 3) := by decide +kernel
theorem dX2_run_92 : decode cX2_run 92 = .ok (.iload 4, 2) := by decide +kernel
theorem dX2_run_94 : decode cX2_run 94 = .ok (.iconst 1, 1) := by decide +kernel
theorem dX2_run_95 : decode cX2_run 95 = .ok (.isub, 1) := by decide +kernel
theorem dX2_run_96 : decode cX2_run 96 = .ok (.iaload, 1) := by decide +kernel
theorem dX2_run_97 : decode cX2_run 97 = .ok (.isub, 1) := by decide +kernel
theorem dX2_run_98 : decode cX2_run 98 = .ok (.iastore, 1) := by decide +kernel
theorem dX2_run_99 : decode cX2_run 99 = .ok (.goto 43, 3) := by decide +kernel
theorem dX2_run_102 : decode cX2_run 102 = .ok (.iload 4, 2) := by decide +kernel
theorem dX2_run_104 : decode cX2_run 104 = .ok (.iconst 1, 1) := by decide +kernel
theorem dX2_run_105 : decode cX2_run 105 = .ok (.if_icmp .le 37, 3) := by decide +kernel
theorem dX2_run_108 : decode cX2_run 108 = .ok (.iinc 4 (-1), 3) := by decide +kernel
theorem dX2_run_111 : decode cX2_run 111 = .ok (.aload_n 0, 1) := by decide +kernel
theorem dX2_run_112 : decode cX2_run 112 = .ok (.getfield 24, 3) := by decide +kernel
theorem dX2_run_115 : decode cX2_run 115 = .ok (.iload 4, 2) := by decide +kernel
theorem dX2_run_117 : decode cX2_run 117 = .ok (.iconst 1, 1) := by decide +kernel
theorem dX2_run_118 : decode cX2_run 118 = .ok (.isub, 1) := by decide +kernel
theorem dX2_run_119 : decode cX2_run 119 = .ok (.iload 6, 2) := by decide +kernel
theorem dX2_run_121 : decode cX2_run 121 = .ok (.ineg, 1) := by decide +kernel
theorem dX2_run_122 : decode cX2_run 122 = .ok (.aload_n 0, 1) := by decide +kernel
theorem dX2_run_123 : decode cX2_run 123 = .ok (.getfield 24, 3) := by decide +kernel
theorem dX2_run_126 : decode cX2_run 126 = .ok (.iload 4, 2) := by decide +kernel
theorem dX2_run_128 : decode cX2_run 128 = .ok (.iconst 1, 1) := by decide +kernel
theorem dX2_run_129 : decode cX2_run 129 = .ok (.isub, 1) := by decide +kernel
theorem dX2_run_130 : decode cX2_run 130 = .ok (.iaload, 1) := by decide +kernel
theorem dX2_run_131 : decode cX2_run 131 = .ok (.aload_n 0, 1) := by decide +kernel
theorem dX2_run_132 : decode cX2_run 132 = .ok (.getfield 24, 3) := by decide +kernel
theorem dX2_run_135 : decode cX2_run 135 = .ok (.iload 4, 2) := by decide +kernel
theorem dX2_run_137 : decode cX2_run 137 = .ok (.iaload, 1) := by decide +kernel
theorem dX2_run_138 : decode cX2_run 138 = .ok (.invokestatic 38, 3) := by decide +kernel
theorem dX2_run_141 : decode cX2_run 141 = .ok (.iastore, 1) := by decide +kernel
theorem dX2_run_142 : decode cX2_run 142 = .ok (.iinc 5 1, 3) := by decide +kernel
theorem dX2_run_145 : decode cX2_run 145 = .ok (.goto (-139), 3) := by decide +kernel
theorem dX2_run_148 : decode cX2_run 148 = .ok (.iload 4, 2) := by decide +kernel
theorem dX2_run_150 : decode cX2_run 150 = .ok (.ifCond .le 12, 3) := by decide +kernel
theorem dX2_run_153 : decode cX2_run 153 = .ok (.aload_n 0, 1) := by decide +kernel
theorem dX2_run_154 : decode cX2_run 154 = .ok (.getfield 24, 3) := by decide +kernel
theorem dX2_run_157 : decode cX2_run 157 = .ok (.iconst 0, 1) := by decide +kernel
theorem dX2_run_158 : decode cX2_run 158 = .ok (.iaload, 1) := by decide +kernel
theorem dX2_run_159 : decode cX2_run 159 = .ok (.goto 4, 3) := by decide +kernel
theorem dX2_run_162 : decode cX2_run 162 = .ok (.iconst 0, 1) := by decide +kernel
theorem dX2_run_163 : decode cX2_run 163 = .ok (.ireturn, 1) := by decide +kernel
theorem dX2_reckon_0 : decode cX2_reckon 0 = .ok (.iload_n 0, 1) := by decide +kernel
theorem dX2_reckon_1 : decode cX2_reckon 1 = .ok (.tableswitch 195 38 62 #[191, 195, 195, 195, 133, 115, 195, 124, 195, 142, 195, 195, 195, 195, 195, 195, 195, 195, 195, 195, 195, 195, 169, 158, 180], 115) := by decide +kernel
theorem dX2_reckon_116 : decode cX2_reckon 116 = .ok (.iload_n 1, 1) := by decide +kernel
theorem dX2_reckon_117 : decode cX2_reckon 117 = .ok (.i2l, 1) := by decide +kernel
theorem dX2_reckon_118 : decode cX2_reckon 118 = .ok (.iload_n 2, 1) := by decide +kernel
theorem dX2_reckon_119 : decode cX2_reckon 119 = .ok (.i2l, 1) := by decide +kernel
theorem dX2_reckon_120 : decode cX2_reckon 120 = .ok (.ladd, 1) := by decide +kernel
theorem dX2_reckon_121 : decode cX2_reckon 121 = .ok (.lstore_n 3, 1) := by decide +kernel
theorem dX2_reckon_122 : decode cX2_reckon 122 = .ok (.goto 78, 3) := by decide +kernel
theorem dX2_reckon_125 : decode cX2_reckon 125 = .ok (.iload_n 1, 1) := by decide +kernel
theorem dX2_reckon_126 : decode cX2_reckon 126 = .ok (.i2l, 1) := by decide +kernel
theorem dX2_reckon_127 : decode cX2_reckon 127 = .ok (.iload_n 2, 1) := by decide +kernel
theorem dX2_reckon_128 : decode cX2_reckon 128 = .ok (.i2l, 1) := by decide +kernel
theorem dX2_reckon_129 : decode cX2_reckon 129 = .ok (.lsub, 1) := by decide +kernel
theorem dX2_reckon_130 : decode cX2_reckon 130 = .ok (.lstore_n 3, 1) := by decide +kernel
theorem dX2_reckon_131 : decode cX2_reckon 131 = .ok (.goto 69, 3) := by decide +kernel
theorem dX2_reckon_134 : decode cX2_reckon 134 = .ok (.iload_n 1, 1) := by decide +kernel
theorem dX2_reckon_135 : decode cX2_reckon 135 = .ok (.i2l, 1) := by decide +kernel
theorem dX2_reckon_136 : decode cX2_reckon 136 = .ok (.iload_n 2, 1) := by decide +kernel
theorem dX2_reckon_137 : decode cX2_reckon 137 = .ok (.i2l, 1) := by decide +kernel
theorem dX2_reckon_138 : decode cX2_reckon 138 = .ok (.lmul, 1) := by decide +kernel
theorem dX2_reckon_139 : decode cX2_reckon 139 = .ok (.lstore_n 3, 1) := by decide +kernel
theorem dX2_reckon_140 : decode cX2_reckon 140 = .ok (.goto 60, 3) := by decide +kernel
theorem dX2_reckon_143 : decode cX2_reckon 143 = .ok (.iload_n 2, 1) := by decide +kernel
theorem dX2_reckon_144 : decode cX2_reckon 144 = .ok (.ifCond .ne 7, 3) := by decide +kernel
theorem dX2_reckon_147 : decode cX2_reckon 147 = .ok (.lconst 0, 1) := by decide +kernel
theorem dX2_reckon_148 : decode cX2_reckon 148 = .ok (.goto 7, 3) := by decide +kernel
theorem dX2_reckon_151 : decode cX2_reckon 151 = .ok (.iload_n 1, 1) := by decide +kernel
theorem dX2_reckon_152 : decode cX2_reckon 152 = .ok (.iload_n 2, 1) := by decide +kernel
theorem dX2_reckon_153 : decode cX2_reckon 153 = .ok (.idiv, 1) := by decide +kernel
theorem dX2_reckon_154 : decode cX2_reckon 154 = .ok (.i2l, 1) := by decide +kernel
theorem dX2_reckon_155 : decode cX2_reckon 155 = .ok (.lstore_n 3, 1) := by decide +kernel
theorem dX2_reckon_156 : decode cX2_reckon 156 = .ok (.goto 44, 3) := by decide +kernel
theorem dX2_reckon_159 : decode cX2_reckon 159 = .ok (.iload_n 1, 1) := by decide +kernel
theorem dX2_reckon_160 : decode cX2_reckon 160 = .ok (.iload_n 2, 1) := by decide +kernel
theorem dX2_reckon_161 : decode cX2_reckon 161 = .ok (.if_icmp .ne 7, 3) := by decide +kernel
theorem dX2_reckon_164 : decode cX2_reckon 164 = .ok (.iconst 1, 1) := by decide +kernel
theorem dX2_reckon_165 : decode cX2_reckon 165 = .ok (.goto 4, 3) := by decide +kernel
theorem dX2_reckon_168 : decode cX2_reckon 168 = .ok (.iconst 0, 1) := by decide +kernel
theorem dX2_reckon_169 : decode cX2_reckon 169 = .ok (.ireturn, 1) := by decide +kernel
theorem dX2_reckon_170 : decode cX2_reckon 170 = .ok (.iload_n 1, 1) := by decide +kernel
theorem dX2_reckon_171 : decode cX2_reckon 171 = .ok (.iload_n 2, 1) := by decide +kernel
theorem dX2_reckon_172 : decode cX2_reckon 172 = .ok (.if_icmp .ge 7, 3) := by decide +kernel
theorem dX2_reckon_175 : decode cX2_reckon 175 = .ok (.iconst 1, 1) := by decide +kernel
theorem dX2_reckon_176 : decode cX2_reckon 176 = .ok (.goto 4, 3) := by decide +kernel
theorem dX2_reckon_179 : decode cX2_reckon 179 = .ok (.iconst 0, 1) := by decide +kernel
theorem dX2_reckon_180 : decode cX2_reckon 180 = .ok (.ireturn, 1) := by decide +kernel
theorem dX2_reckon_181 : decode cX2_reckon 181 = .ok (.iload_n 1, 1) := by decide +kernel
theorem dX2_reckon_182 : decode cX2_reckon 182 = .ok (.iload_n 2, 1) := by decide +kernel
theorem dX2_reckon_183 : decode cX2_reckon 183 = .ok (.if_icmp .le 7, 3) := by decide +kernel
theorem dX2_reckon_186 : decode cX2_reckon 186 = .ok (.iconst 1, 1) := by decide +kernel
theorem dX2_reckon_187 : decode cX2_reckon 187 = .ok (.goto 4, 3) := by decide +kernel
theorem dX2_reckon_190 : decode cX2_reckon 190 = .ok (.iconst 0, 1) := by decide +kernel
theorem dX2_reckon_191 : decode cX2_reckon 191 = .ok (.ireturn, 1) := by decide +kernel
theorem dX2_reckon_192 : decode cX2_reckon 192 = .ok (.iload_n 1, 1) := by decide +kernel
theorem dX2_reckon_193 : decode cX2_reckon 193 = .ok (.iload_n 2, 1) := by decide +kernel
theorem dX2_reckon_194 : decode cX2_reckon 194 = .ok (.iand, 1) := by decide +kernel
theorem dX2_reckon_195 : decode cX2_reckon 195 = .ok (.ireturn, 1) := by decide +kernel
theorem dX2_reckon_196 : decode cX2_reckon 196 = .ok (.iload_n 1, 1) := by decide +kernel
theorem dX2_reckon_197 : decode cX2_reckon 197 = .ok (.iload_n 2, 1) := by decide +kernel
theorem dX2_reckon_198 : decode cX2_reckon 198 = .ok (.ior, 1) := by decide +kernel
theorem dX2_reckon_199 : decode cX2_reckon 199 = .ok (.ireturn, 1) := by decide +kernel
theorem dX2_reckon_200 : decode cX2_reckon 200 = .ok (.lload_n 3, 1) := by decide +kernel
theorem dX2_reckon_201 : decode cX2_reckon 201 = .ok (.ldc2_w 42, 3) := by decide +kernel
theorem dX2_reckon_204 : decode cX2_reckon 204 = .ok (.lcmp, 1) := by decide +kernel
theorem dX2_reckon_205 : decode cX2_reckon 205 = .ok (.ifCond .le 6, 3) := by decide +kernel
theorem dX2_reckon_208 : decode cX2_reckon 208 = .ok (.ldc 44, 2) := by decide +kernel
theorem dX2_reckon_210 : decode cX2_reckon 210 = .ok (.ireturn, 1) := by decide +kernel
theorem dX2_reckon_211 : decode cX2_reckon 211 = .ok (.lload_n 3, 1) := by decide +kernel
theorem dX2_reckon_212 : decode cX2_reckon 212 = .ok (.ldc2_w 45, 3) := by decide +kernel
theorem dX2_reckon_215 : decode cX2_reckon 215 = .ok (.lcmp, 1) := by decide +kernel
theorem dX2_reckon_216 : decode cX2_reckon 216 = .ok (.ifCond .ge 8, 3) := by decide +kernel
theorem dX2_reckon_219 : decode cX2_reckon 219 = .ok (.ldc 47, 2) := by decide +kernel
theorem dX2_reckon_221 : decode cX2_reckon 221 = .ok (.goto 5, 3) := by decide +kernel
theorem dX2_reckon_224 : decode cX2_reckon 224 = .ok (.lload_n 3, 1) := by decide +kernel
theorem dX2_reckon_225 : decode cX2_reckon 225 = .ok (.l2i, 1) := by decide +kernel
theorem dX2_reckon_226 : decode cX2_reckon 226 = .ok (.ireturn, 1) := by decide +kernel
theorem dX3_init_0 : decode cX3_init 0 = .ok (.aload_n 0, 1) := by decide +kernel
theorem dX3_init_1 : decode cX3_init 1 = .ok (.invokespecial 3, 3) := by decide +kernel
theorem dX3_init_4 : decode cX3_init 4 = .ok (.aload_n 0, 1) := by decide +kernel
theorem dX3_init_5 : decode cX3_init 5 = .ok (.aload_n 1, 1) := by decide +kernel
theorem dX3_init_6 : decode cX3_init 6 = .ok (.putfield 9, 3) := by decide +kernel
theorem dX3_init_9 : decode cX3_init 9 = .ok (.aload_n 0, 1) := by decide +kernel
theorem dX3_init_10 : decode cX3_init 10 = .ok (.aload_n 2, 1) := by decide +kernel
theorem dX3_init_11 : decode cX3_init 11 = .ok (.putfield 15, 3) := by decide +kernel
theorem dX3_init_14 : decode cX3_init 14 = .ok (.return_, 1) := by decide +kernel
theorem dX3_read_0 : decode cX3_read 0 = .ok (.aload_n 0, 1) := by decide +kernel
theorem dX3_read_1 : decode cX3_read 1 = .ok (.aload_n 1, 1) := by decide +kernel
theorem dX3_read_2 : decode cX3_read 2 = .ok (.putfield 15, 3) := by decide +kernel
theorem dX3_read_5 : decode cX3_read 5 = .ok (.aload_n 0, 1) := by decide +kernel
theorem dX3_read_6 : decode cX3_read 6 = .ok (.getfield 15, 3) := by decide +kernel
theorem dX3_read_9 : decode cX3_read 9 = .ok (.invokevirtual 19, 3) := by decide +kernel
theorem dX3_read_12 : decode cX3_read 12 = .ok (.aload_n 0, 1) := by decide +kernel
theorem dX3_read_13 : decode cX3_read 13 = .ok (.getfield 9, 3) := by decide +kernel
theorem dX3_read_16 : decode cX3_read 16 = .ok (.invokevirtual 24, 3) := by decide +kernel
theorem dX3_read_19 : decode cX3_read 19 = .ok (.aload_n 0, 1) := by decide +kernel
theorem dX3_read_20 : decode cX3_read 20 = .ok (.invokevirtual 29, 3) := by decide +kernel
theorem dX3_read_23 : decode cX3_read 23 = .ok (.istore_n 2, 1) := by decide +kernel
theorem dX3_read_24 : decode cX3_read 24 = .ok (.iconst 0, 1) := by decide +kernel
theorem dX3_read_25 : decode cX3_read 25 = .ok (.istore_n 3, 1) := by decide +kernel
theorem dX3_read_26 : decode cX3_read 26 = .ok (.iload_n 3, 1) := by decide +kernel
theorem dX3_read_27 : decode cX3_read 27 = .ok (.sipush 240, 3) := by decide +kernel
theorem dX3_read_30 : decode cX3_read 30 = .ok (.if_icmp .ge 37, 3) := by decide +kernel
theorem dX3_read_33 : decode cX3_read 33 = .ok (.iload_n 2, 1) := by decide +kernel
theorem dX3_read_34 : decode cX3_read 34 = .ok (.ifCond .eq 33, 3) := by decide +kernel
theorem dX3_read_37 : decode cX3_read 37 = .ok (.aload_n 0, 1) := by decide +kernel
theorem dX3_read_38 : decode cX3_read 38 = .ok (.getfield 9, 3) := by decide +kernel
theorem dX3_read_41 : decode cX3_read 41 = .ok (.invokevirtual 33, 3) := by decide +kernel
theorem dX3_read_44 : decode cX3_read 44 = .ok (.bipush 59, 2) := by decide +kernel
theorem dX3_read_46 : decode cX3_read 46 = .ok (.if_icmp .ne 21, 3) := by decide +kernel
theorem dX3_read_49 : decode cX3_read 49 = .ok (.aload_n 0, 1) := by decide +kernel
theorem dX3_read_50 : decode cX3_read 50 = .ok (.getfield 9, 3) := by decide +kernel
theorem dX3_read_53 : decode cX3_read 53 = .ok (.invokevirtual 37, 3) := by decide +kernel
theorem dX3_read_56 : decode cX3_read 56 = .ok (.aload_n 0, 1) := by decide +kernel
theorem dX3_read_57 : decode cX3_read 57 = .ok (.invokevirtual 29, 3) := by decide +kernel
theorem dX3_read_60 : decode cX3_read 60 = .ok (.istore_n 2, 1) := by decide +kernel
theorem dX3_read_61 : decode cX3_read 61 = .ok (.iinc 3 1, 3) := by decide +kernel
theorem dX3_read_64 : decode cX3_read 64 = .ok (.goto (-38), 3) := by decide +kernel
theorem dX3_read_67 : decode cX3_read 67 = .ok (.iload_n 2, 1) := by decide +kernel
theorem dX3_read_68 : decode cX3_read 68 = .ok (.ifCond .eq 22, 3) := by decide +kernel
theorem dX3_read_71 : decode cX3_read 71 = .ok (.aload_n 0, 1) := by decide +kernel
theorem dX3_read_72 : decode cX3_read 72 = .ok (.getfield 9, 3) := by decide +kernel
theorem dX3_read_75 : decode cX3_read 75 = .ok (.invokevirtual 33, 3) := by decide +kernel
theorem dX3_read_78 : decode cX3_read 78 = .ok (.iconst (-1), 1) := by decide +kernel
theorem dX3_read_79 : decode cX3_read 79 = .ok (.if_icmp .eq 11, 3) := by decide +kernel
theorem dX3_read_82 : decode cX3_read 82 = .ok (.aload_n 0, 1) := by decide +kernel
theorem dX3_read_83 : decode cX3_read 83 = .ok (.getfield 9, 3) := by decide +kernel
theorem dX3_read_86 : decode cX3_read 86 = .ok (.invokevirtual 40, 3) := by decide +kernel
theorem dX3_read_89 : decode cX3_read 89 = .ok (.pop, 1) := by decide +kernel
theorem dX3_read_90 : decode cX3_read 90 = .ok (.aload_n 0, 1) := by decide +kernel
theorem dX3_read_91 : decode cX3_read 91 = .ok (.getfield 9, 3) := by decide +kernel
theorem dX3_read_94 : decode cX3_read 94 = .ok (.invokevirtual 43, 3) := by decide +kernel
theorem dX3_read_97 : decode cX3_read 97 = .ok (.ireturn, 1) := by decide +kernel
theorem dX3_readClause_0 : decode cX3_readClause 0 = .ok (.aload_n 0, 1) := by decide +kernel
theorem dX3_readClause_1 : decode cX3_readClause 1 = .ok (.getfield 9, 3) := by decide +kernel
theorem dX3_readClause_4 : decode cX3_readClause 4 = .ok (.invokevirtual 33, 3) := by decide +kernel
theorem dX3_readClause_7 : decode cX3_readClause 7 = .ok (.istore_n 1, 1) := by decide +kernel
theorem dX3_readClause_8 : decode cX3_readClause 8 = .ok (.iload_n 1, 1) := by decide +kernel
theorem dX3_readClause_9 : decode cX3_readClause 9 = .ok (.bipush 121, 2) := by decide +kernel
theorem dX3_readClause_11 : decode cX3_readClause 11 = .ok (.if_icmp .eq 17, 3) := by decide +kernel
theorem dX3_readClause_14 : decode cX3_readClause 14 = .ok (.iload_n 1, 1) := by decide +kernel
theorem dX3_readClause_15 : decode cX3_readClause 15 = .ok (.bipush 118, 2) := by decide +kernel
theorem dX3_readClause_17 : decode cX3_readClause 17 = .ok (.if_icmp .eq 11, 3) := by decide +kernel
theorem dX3_readClause_20 : decode cX3_readClause 20 = .ok (.aload_n 0, 1) := by decide +kernel
theorem dX3_readClause_21 : decode cX3_readClause 21 = .ok (.getfield 9, 3) := by decide +kernel
theorem dX3_readClause_24 : decode cX3_readClause 24 = .ok (.invokevirtual 40, 3) := by decide +kernel
theorem dX3_readClause_27 : decode cX3_readClause 27 = .ok (.ireturn, 1) := by decide +kernel
theorem dX3_readClause_28 : decode cX3_readClause 28 = .ok (.aload_n 0, 1) := by decide +kernel
theorem dX3_readClause_29 : decode cX3_readClause 29 = .ok (.getfield 9, 3) := by decide +kernel
theorem dX3_readClause_32 : decode cX3_readClause 32 = .ok (.invokevirtual 37, 3) := by decide +kernel
theorem dX3_readClause_35 : decode cX3_readClause 35 = .ok (.aload_n 0, 1) := by decide +kernel
theorem dX3_readClause_36 : decode cX3_readClause 36 = .ok (.getfield 9, 3) := by decide +kernel
theorem dX3_readClause_39 : decode cX3_readClause 39 = .ok (.bipush 58, 2) := by decide +kernel
theorem dX3_readClause_41 : decode cX3_readClause 41 = .ok (.invokevirtual 46, 3) := by decide +kernel
theorem dX3_readClause_44 : decode cX3_readClause 44 = .ok (.ifCond .ne 5, 3) := by decide +kernel
theorem dX3_readClause_47 : decode cX3_readClause 47 = .ok (.iconst 0, 1) := by decide +kernel
theorem dX3_readClause_48 : decode cX3_readClause 48 = .ok (.ireturn, 1) := by decide +kernel
theorem dX3_readClause_49 : decode cX3_readClause 49 = .ok (.aload_n 0, 1) := by decide +kernel
theorem dX3_readClause_50 : decode cX3_readClause 50 = .ok (.getfield 15, 3) := by decide +kernel
theorem dX3_readClause_53 : decode cX3_readClause 53 = .ok (.iload_n 1, 1) := by decide +kernel
theorem dX3_readClause_54 : decode cX3_readClause 54 = .ok (.invokevirtual 50, 3) := by decide +kernel
theorem dX3_readClause_57 : decode cX3_readClause 57 = .ok (.aload_n 0, 1) := by decide +kernel
theorem dX3_readClause_58 : decode cX3_readClause 58 = .ok (.getfield 9, 3) := by decide +kernel
theorem dX3_readClause_61 : decode cX3_readClause 61 = .ok (.invokevirtual 33, 3) := by decide +kernel
theorem dX3_readClause_64 : decode cX3_readClause 64 = .ok (.istore_n 2, 1) := by decide +kernel
theorem dX3_readClause_65 : decode cX3_readClause 65 = .ok (.iload_n 2, 1) := by decide +kernel
theorem dX3_readClause_66 : decode cX3_readClause 66 = .ok (.bipush 33, 2) := by decide +kernel
theorem dX3_readClause_68 : decode cX3_readClause 68 = .ok (.if_icmp .eq 9, 3) := by decide +kernel
theorem dX3_readClause_71 : decode cX3_readClause 71 = .ok (.iload_n 2, 1) := by decide +kernel
theorem dX3_readClause_72 : decode cX3_readClause 72 = .ok (.bipush 40, 2) := by decide +kernel
theorem dX3_readClause_74 : decode cX3_readClause 74 = .ok (.if_icmp .ne 24, 3) := by decide +kernel
theorem dX3_readClause_77 : decode cX3_readClause 77 = .ok (.aload_n 0, 1) := by decide +kernel
theorem dX3_readClause_78 : decode cX3_readClause 78 = .ok (.iconst 0, 1) := by decide +kernel
theorem dX3_readClause_79 : decode cX3_readClause 79 = .ok (.invokevirtual 54, 3) := by decide +kernel
theorem dX3_readClause_82 : decode cX3_readClause 82 = .ok (.ifCond .eq 14, 3) := by decide +kernel
theorem dX3_readClause_85 : decode cX3_readClause 85 = .ok (.aload_n 0, 1) := by decide +kernel
theorem dX3_readClause_86 : decode cX3_readClause 86 = .ok (.invokevirtual 57, 3) := by decide +kernel
theorem dX3_readClause_89 : decode cX3_readClause 89 = .ok (.ifCond .eq 7, 3) := by decide +kernel
theorem dX3_readClause_92 : decode cX3_readClause 92 = .ok (.iconst 1, 1) := by decide +kernel
theorem dX3_readClause_93 : decode cX3_readClause 93 = .ok (.goto 4, 3) := by decide +kernel
theorem dX3_readClause_96 : decode cX3_readClause 96 = .ok (.iconst 0, 1) := by decide +kernel
theorem dX3_readClause_97 : decode cX3_readClause 97 = .ok (.ireturn, 1) := by decide +kernel
theorem dX3_readClause_98 : decode cX3_readClause 98 = .ok (.aload_n 0, 1) := by decide +kernel
theorem dX3_readClause_99 : decode cX3_readClause 99 = .ok (.iconst 0, 1) := by decide +kernel
theorem dX3_readClause_100 : decode cX3_readClause 100 = .ok (.invokevirtual 60, 3) := by decide +kernel
theorem dX3_readClause_103 : decode cX3_readClause 103 = .ok (.ifCond .ne 5, 3) := by decide +kernel
theorem dX3_readClause_106 : decode cX3_readClause 106 = .ok (.iconst 0, 1) := by decide +kernel
theorem dX3_readClause_107 : decode cX3_readClause 107 = .ok (.ireturn, 1) := by decide +kernel
theorem dX3_readClause_108 : decode cX3_readClause 108 = .ok (.aload_n 0, 1) := by decide +kernel
theorem dX3_readClause_109 : decode cX3_readClause 109 = .ok (.getfield 9, 3) := by decide +kernel
theorem dX3_readClause_112 : decode cX3_readClause 112 = .ok (.invokevirtual 33, 3) := by decide +kernel
theorem dX3_readClause_115 : decode cX3_readClause 115 = .ok (.invokestatic 63, 3) := by decide +kernel
theorem dX3_readClause_118 : decode cX3_readClause 118 = .ok (.ifCond .eq 26, 3) := by decide +kernel
theorem dX3_readClause_121 : decode cX3_readClause 121 = .ok (.aload_n 0, 1) := by decide +kernel
theorem dX3_readClause_122 : decode cX3_readClause 122 = .ok (.iconst 0, 1) := by decide +kernel
theorem dX3_readClause_123 : decode cX3_readClause 123 = .ok (.invokevirtual 66, 3) := by decide +kernel
theorem dX3_readClause_126 : decode cX3_readClause 126 = .ok (.ifCond .eq 22, 3) := by decide +kernel
theorem dX3_readClause_129 : decode cX3_readClause 129 = .ok (.aload_n 0, 1) := by decide +kernel
theorem dX3_readClause_130 : decode cX3_readClause 130 = .ok (.iconst 0, 1) := by decide +kernel
theorem dX3_readClause_131 : decode cX3_readClause 131 = .ok (.invokevirtual 69, 3) := by decide +kernel
theorem dX3_readClause_134 : decode cX3_readClause 134 = .ok (.ifCond .eq 14, 3) := by decide +kernel
theorem dX3_readClause_137 : decode cX3_readClause 137 = .ok (.aload_n 0, 1) := by decide +kernel
theorem dX3_readClause_138 : decode cX3_readClause 138 = .ok (.invokevirtual 57, 3) := by decide +kernel
theorem dX3_readClause_141 : decode cX3_readClause 141 = .ok (.ifCond .eq 7, 3) := by decide +kernel
theorem dX3_readClause_144 : decode cX3_readClause 144 = .ok (.iconst 1, 1) := by decide +kernel
theorem dX3_readClause_145 : decode cX3_readClause 145 = .ok (.goto 4, 3) := by decide +kernel
theorem dX3_readClause_148 : decode cX3_readClause 148 = .ok (.iconst 0, 1) := by decide +kernel
theorem dX3_readClause_149 : decode cX3_readClause 149 = .ok (.ireturn, 1) := by decide +kernel
theorem dX3_readRuling_0 : decode cX3_readRuling 0 = .ok (.aload_n 0, 1) := by decide +kernel
theorem dX3_readRuling_1 : decode cX3_readRuling 1 = .ok (.getfield 9, 3) := by decide +kernel
theorem dX3_readRuling_4 : decode cX3_readRuling 4 = .ok (.bipush 63, 2) := by decide +kernel
theorem dX3_readRuling_6 : decode cX3_readRuling 6 = .ok (.invokevirtual 46, 3) := by decide +kernel
theorem dX3_readRuling_9 : decode cX3_readRuling 9 = .ok (.ifCond .ne 5, 3) := by decide +kernel
theorem dX3_readRuling_12 : decode cX3_readRuling 12 = .ok (.iconst 0, 1) := by decide +kernel
theorem dX3_readRuling_13 : decode cX3_readRuling 13 = .ok (.ireturn, 1) := by decide +kernel
theorem dX3_readRuling_14 : decode cX3_readRuling 14 = .ok (.aload_n 0, 1) := by decide +kernel
theorem dX3_readRuling_15 : decode cX3_readRuling 15 = .ok (.getfield 15, 3) := by decide +kernel
theorem dX3_readRuling_18 : decode cX3_readRuling 18 = .ok (.invokevirtual 72, 3) := by decide +kernel
theorem dX3_readRuling_21 : decode cX3_readRuling 21 = .ok (.aload_n 0, 1) := by decide +kernel
theorem dX3_readRuling_22 : decode cX3_readRuling 22 = .ok (.iconst 0, 1) := by decide +kernel
theorem dX3_readRuling_23 : decode cX3_readRuling 23 = .ok (.invokevirtual 60, 3) := by decide +kernel
theorem dX3_readRuling_26 : decode cX3_readRuling 26 = .ok (.ireturn, 1) := by decide +kernel
theorem dX3_readCondition_0 : decode cX3_readCondition 0 = .ok (.aload_n 0, 1) := by decide +kernel
theorem dX3_readCondition_1 : decode cX3_readCondition 1 = .ok (.iload_n 1, 1) := by decide +kernel
theorem dX3_readCondition_2 : decode cX3_readCondition 2 = .ok (.invokevirtual 75, 3) := by decide +kernel
theorem dX3_readCondition_5 : decode cX3_readCondition 5 = .ok (.ifCond .eq 15, 3) := by decide +kernel
theorem dX3_readCondition_8 : decode cX3_readCondition 8 = .ok (.aload_n 0, 1) := by decide +kernel
theorem dX3_readCondition_9 : decode cX3_readCondition 9 = .ok (.iload_n 1, 1) := by decide +kernel
theorem dX3_readCondition_10 : decode cX3_readCondition 10 = .ok (.invokevirtual 69, 3) := by decide +kernel
theorem dX3_readCondition_13 : decode cX3_readCondition 13 = .ok (.ifCond .eq 7, 3) := by decide +kernel
theorem dX3_readCondition_16 : decode cX3_readCondition 16 = .ok (.iconst 1, 1) := by decide +kernel
theorem dX3_readCondition_17 : decode cX3_readCondition 17 = .ok (.goto 4, 3) := by decide +kernel
theorem dX3_readCondition_20 : decode cX3_readCondition 20 = .ok (.iconst 0, 1) := by decide +kernel
theorem dX3_readCondition_21 : decode cX3_readCondition 21 = .ok (.ireturn, 1) := by decide +kernel
theorem dX3_readTail_0 : decode cX3_readTail 0 = .ok (.aload_n 0, 1) := by decide +kernel
theorem dX3_readTail_1 : decode cX3_readTail 1 = .ok (.iload_n 1, 1) := by decide +kernel
theorem dX3_readTail_2 : decode cX3_readTail 2 = .ok (.invokevirtual 78, 3) := by decide +kernel
theorem dX3_readTail_5 : decode cX3_readTail 5 = .ok (.istore_n 2, 1) := by decide +kernel
theorem dX3_readTail_6 : decode cX3_readTail 6 = .ok (.iconst 0, 1) := by decide +kernel
theorem dX3_readTail_7 : decode cX3_readTail 7 = .ok (.istore_n 3, 1) := by decide +kernel
theorem dX3_readTail_8 : decode cX3_readTail 8 = .ok (.iload_n 3, 1) := by decide +kernel
theorem dX3_readTail_9 : decode cX3_readTail 9 = .ok (.sipush 240, 3) := by decide +kernel
theorem dX3_readTail_12 : decode cX3_readTail 12 = .ok (.if_icmp .ge 63, 3) := by decide +kernel
theorem dX3_readTail_15 : decode cX3_readTail 15 = .ok (.iload_n 2, 1) := by decide +kernel
theorem dX3_readTail_16 : decode cX3_readTail 16 = .ok (.ifCond .eq 59, 3) := by decide +kernel
theorem dX3_readTail_19 : decode cX3_readTail 19 = .ok (.aload_n 0, 1) := by decide +kernel
theorem dX3_readTail_20 : decode cX3_readTail 20 = .ok (.getfield 9, 3) := by decide +kernel
theorem dX3_readTail_23 : decode cX3_readTail 23 = .ok (.invokevirtual 33, 3) := by decide +kernel
theorem dX3_readTail_26 : decode cX3_readTail 26 = .ok (.bipush 124, 2) := by decide +kernel
theorem dX3_readTail_28 : decode cX3_readTail 28 = .ok (.if_icmp .ne 47, 3) := by decide +kernel
theorem dX3_readTail_31 : decode cX3_readTail 31 = .ok (.aload_n 0, 1) := by decide +kernel
theorem dX3_readTail_32 : decode cX3_readTail 32 = .ok (.getfield 9, 3) := by decide +kernel
theorem dX3_readTail_35 : decode cX3_readTail 35 = .ok (.invokevirtual 37, 3) := by decide +kernel
theorem dX3_readTail_38 : decode cX3_readTail 38 = .ok (.aload_n 0, 1) := by decide +kernel
theorem dX3_readTail_39 : decode cX3_readTail 39 = .ok (.iload_n 1, 1) := by decide +kernel
theorem dX3_readTail_40 : decode cX3_readTail 40 = .ok (.invokevirtual 75, 3) := by decide +kernel
theorem dX3_readTail_43 : decode cX3_readTail 43 = .ok (.ifCond .eq 15, 3) := by decide +kernel
theorem dX3_readTail_46 : decode cX3_readTail 46 = .ok (.aload_n 0, 1) := by decide +kernel
theorem dX3_readTail_47 : decode cX3_readTail 47 = .ok (.iload_n 1, 1) := by decide +kernel
theorem dX3_readTail_48 : decode cX3_readTail 48 = .ok (.invokevirtual 78, 3) := by decide +kernel
theorem dX3_readTail_51 : decode cX3_readTail 51 = .ok (.ifCond .eq 7, 3) := by decide +kernel
theorem dX3_readTail_54 : decode cX3_readTail 54 = .ok (.iconst 1, 1) := by decide +kernel
theorem dX3_readTail_55 : decode cX3_readTail 55 = .ok (.goto 4, 3) := by decide +kernel
theorem dX3_readTail_58 : decode cX3_readTail 58 = .ok (.iconst 0, 1) := by decide +kernel
theorem dX3_readTail_59 : decode cX3_readTail 59 = .ok (.istore_n 2, 1) := by decide +kernel
theorem dX3_readTail_60 : decode cX3_readTail 60 = .ok (.aload_n 0, 1) := by decide +kernel
theorem dX3_readTail_61 : decode cX3_readTail 61 = .ok (.getfield 15, 3) := by decide +kernel
theorem dX3_readTail_64 : decode cX3_readTail 64 = .ok (.bipush (-124), 2) := by decide +kernel
theorem dX3_readTail_66 : decode cX3_readTail 66 = .ok (.invokevirtual 81, 3) := by decide +kernel
theorem dX3_readTail_69 : decode cX3_readTail 69 = .ok (.iinc 3 1, 3) := by decide +kernel
theorem dX3_readTail_72 : decode cX3_readTail 72 = .ok (.goto (-64), 3) := by decide +kernel
theorem dX3_readTail_75 : decode cX3_readTail 75 = .ok (.iload_n 2, 1) := by decide +kernel
theorem dX3_readTail_76 : decode cX3_readTail 76 = .ok (.ireturn, 1) := by decide +kernel
theorem dX3_readTruthTail_0 : decode cX3_readTruthTail 0 = .ok (.iconst 1, 1) := by decide +kernel
theorem dX3_readTruthTail_1 : decode cX3_readTruthTail 1 = .ok (.istore_n 2, 1) := by decide +kernel
theorem dX3_readTruthTail_2 : decode cX3_readTruthTail 2 = .ok (.iconst 0, 1) := by decide +kernel
theorem dX3_readTruthTail_3 : decode cX3_readTruthTail 3 = .ok (.istore_n 3, 1) := by decide +kernel
theorem dX3_readTruthTail_4 : decode cX3_readTruthTail 4 = .ok (.iload_n 3, 1) := by decide +kernel
theorem dX3_readTruthTail_5 : decode cX3_readTruthTail 5 = .ok (.sipush 240, 3) := by decide +kernel
theorem dX3_readTruthTail_8 : decode cX3_readTruthTail 8 = .ok (.if_icmp .ge 47, 3) := by decide +kernel
theorem dX3_readTruthTail_11 : decode cX3_readTruthTail 11 = .ok (.iload_n 2, 1) := by decide +kernel
theorem dX3_readTruthTail_12 : decode cX3_readTruthTail 12 = .ok (.ifCond .eq 43, 3) := by decide +kernel
theorem dX3_readTruthTail_15 : decode cX3_readTruthTail 15 = .ok (.aload_n 0, 1) := by decide +kernel
theorem dX3_readTruthTail_16 : decode cX3_readTruthTail 16 = .ok (.getfield 9, 3) := by decide +kernel
theorem dX3_readTruthTail_19 : decode cX3_readTruthTail 19 = .ok (.invokevirtual 33, 3) := by decide +kernel
theorem dX3_readTruthTail_22 : decode cX3_readTruthTail 22 = .ok (.bipush 38, 2) := by decide +kernel
theorem dX3_readTruthTail_24 : decode cX3_readTruthTail 24 = .ok (.if_icmp .ne 31, 3) := by decide +kernel
theorem dX3_readTruthTail_27 : decode cX3_readTruthTail 27 = .ok (.aload_n 0, 1) := by decide +kernel
theorem dX3_readTruthTail_28 : decode cX3_readTruthTail 28 = .ok (.getfield 9, 3) := by decide +kernel
theorem dX3_readTruthTail_31 : decode cX3_readTruthTail 31 = .ok (.invokevirtual 37, 3) := by decide +kernel
theorem dX3_readTruthTail_34 : decode cX3_readTruthTail 34 = .ok (.aload_n 0, 1) := by decide +kernel
theorem dX3_readTruthTail_35 : decode cX3_readTruthTail 35 = .ok (.iload_n 1, 1) := by decide +kernel
theorem dX3_readTruthTail_36 : decode cX3_readTruthTail 36 = .ok (.invokevirtual 75, 3) := by decide +kernel
theorem dX3_readTruthTail_39 : decode cX3_readTruthTail 39 = .ok (.istore_n 2, 1) := by decide +kernel
theorem dX3_readTruthTail_40 : decode cX3_readTruthTail 40 = .ok (.aload_n 0, 1) := by decide +kernel
theorem dX3_readTruthTail_41 : decode cX3_readTruthTail 41 = .ok (.getfield 15, 3) := by decide +kernel
theorem dX3_readTruthTail_44 : decode cX3_readTruthTail 44 = .ok (.bipush (-38), 2) := by decide +kernel
theorem dX3_readTruthTail_46 : decode cX3_readTruthTail 46 = .ok (.invokevirtual 81, 3) := by decide +kernel
theorem dX3_readTruthTail_49 : decode cX3_readTruthTail 49 = .ok (.iinc 3 1, 3) := by decide +kernel
theorem dX3_readTruthTail_52 : decode cX3_readTruthTail 52 = .ok (.goto (-48), 3) := by decide +kernel
theorem dX3_readTruthTail_55 : decode cX3_readTruthTail 55 = .ok (.iload_n 2, 1) := by decide +kernel
theorem dX3_readTruthTail_56 : decode cX3_readTruthTail 56 = .ok (.ireturn, 1) := by decide +kernel
theorem dX3_readUnit_0 : decode cX3_readUnit 0 = .ok (.aload_n 0, 1) := by decide +kernel
theorem dX3_readUnit_1 : decode cX3_readUnit 1 = .ok (.getfield 9, 3) := by decide +kernel
theorem dX3_readUnit_4 : decode cX3_readUnit 4 = .ok (.invokevirtual 33, 3) := by decide +kernel
theorem dX3_readUnit_7 : decode cX3_readUnit 7 = .ok (.istore_n 2, 1) := by decide +kernel
theorem dX3_readUnit_8 : decode cX3_readUnit 8 = .ok (.iload_n 2, 1) := by decide +kernel
theorem dX3_readUnit_9 : decode cX3_readUnit 9 = .ok (.bipush 33, 2) := by decide +kernel
theorem dX3_readUnit_11 : decode cX3_readUnit 11 = .ok (.if_icmp .eq 31, 3) := by decide +kernel
theorem dX3_readUnit_14 : decode cX3_readUnit 14 = .ok (.iload_n 2, 1) := by decide +kernel
theorem dX3_readUnit_15 : decode cX3_readUnit 15 = .ok (.bipush 40, 2) := by decide +kernel
theorem dX3_readUnit_17 : decode cX3_readUnit 17 = .ok (.if_icmp .eq 25, 3) := by decide +kernel
theorem dX3_readUnit_20 : decode cX3_readUnit 20 = .ok (.aload_n 0, 1) := by decide +kernel
theorem dX3_readUnit_21 : decode cX3_readUnit 21 = .ok (.iload_n 1, 1) := by decide +kernel
theorem dX3_readUnit_22 : decode cX3_readUnit 22 = .ok (.invokevirtual 60, 3) := by decide +kernel
theorem dX3_readUnit_25 : decode cX3_readUnit 25 = .ok (.ifCond .eq 15, 3) := by decide +kernel
theorem dX3_readUnit_28 : decode cX3_readUnit 28 = .ok (.aload_n 0, 1) := by decide +kernel
theorem dX3_readUnit_29 : decode cX3_readUnit 29 = .ok (.iload_n 1, 1) := by decide +kernel
theorem dX3_readUnit_30 : decode cX3_readUnit 30 = .ok (.invokevirtual 66, 3) := by decide +kernel
theorem dX3_readUnit_33 : decode cX3_readUnit 33 = .ok (.ifCond .eq 7, 3) := by decide +kernel
theorem dX3_readUnit_36 : decode cX3_readUnit 36 = .ok (.iconst 1, 1) := by decide +kernel
theorem dX3_readUnit_37 : decode cX3_readUnit 37 = .ok (.goto 4, 3) := by decide +kernel
theorem dX3_readUnit_40 : decode cX3_readUnit 40 = .ok (.iconst 0, 1) := by decide +kernel
theorem dX3_readUnit_41 : decode cX3_readUnit 41 = .ok (.ireturn, 1) := by decide +kernel
theorem dX3_readUnit_42 : decode cX3_readUnit 42 = .ok (.iload_n 1, 1) := by decide +kernel
theorem dX3_readUnit_43 : decode cX3_readUnit 43 = .ok (.bipush 6, 2) := by decide +kernel
theorem dX3_readUnit_45 : decode cX3_readUnit 45 = .ok (.if_icmp .lt 11, 3) := by decide +kernel
theorem dX3_readUnit_48 : decode cX3_readUnit 48 = .ok (.aload_n 0, 1) := by decide +kernel
theorem dX3_readUnit_49 : decode cX3_readUnit 49 = .ok (.getfield 9, 3) := by decide +kernel
theorem dX3_readUnit_52 : decode cX3_readUnit 52 = .ok (.invokevirtual 40, 3) := by decide +kernel
theorem dX3_readUnit_55 : decode cX3_readUnit 55 = .ok (.ireturn, 1) := by decide +kernel
theorem dX3_readUnit_56 : decode cX3_readUnit 56 = .ok (.aload_n 0, 1) := by decide +kernel
theorem dX3_readUnit_57 : decode cX3_readUnit 57 = .ok (.getfield 9, 3) := by decide +kernel
theorem dX3_readUnit_60 : decode cX3_readUnit 60 = .ok (.invokevirtual 37, 3) := by decide +kernel
theorem dX3_readUnit_63 : decode cX3_readUnit 63 = .ok (.iload_n 2, 1) := by decide +kernel
theorem dX3_readUnit_64 : decode cX3_readUnit 64 = .ok (.bipush 40, 2) := by decide +kernel
theorem dX3_readUnit_66 : decode cX3_readUnit 66 = .ok (.if_icmp .ne 31, 3) := by decide +kernel
theorem dX3_readUnit_69 : decode cX3_readUnit 69 = .ok (.aload_n 0, 1) := by decide +kernel
theorem dX3_readUnit_70 : decode cX3_readUnit 70 = .ok (.iload_n 1, 1) := by decide +kernel
theorem dX3_readUnit_71 : decode cX3_readUnit 71 = .ok (.iconst 1, 1) := by decide +kernel
theorem dX3_readUnit_72 : decode cX3_readUnit 72 = .ok (.iadd, 1) := by decide +kernel
theorem dX3_readUnit_73 : decode cX3_readUnit 73 = .ok (.invokevirtual 54, 3) := by decide +kernel
theorem dX3_readUnit_76 : decode cX3_readUnit 76 = .ok (.ifCond .eq 19, 3) := by decide +kernel
theorem dX3_readUnit_79 : decode cX3_readUnit 79 = .ok (.aload_n 0, 1) := by decide +kernel
theorem dX3_readUnit_80 : decode cX3_readUnit 80 = .ok (.getfield 9, 3) := by decide +kernel
theorem dX3_readUnit_83 : decode cX3_readUnit 83 = .ok (.bipush 41, 2) := by decide +kernel
theorem dX3_readUnit_85 : decode cX3_readUnit 85 = .ok (.invokevirtual 46, 3) := by decide +kernel
theorem dX3_readUnit_88 : decode cX3_readUnit 88 = .ok (.ifCond .eq 7, 3) := by decide +kernel
theorem dX3_readUnit_91 : decode cX3_readUnit 91 = .ok (.iconst 1, 1) := by decide +kernel
theorem dX3_readUnit_92 : decode cX3_readUnit 92 = .ok (.goto 4, 3) := by decide +kernel
theorem dX3_readUnit_95 : decode cX3_readUnit 95 = .ok (.iconst 0, 1) := by decide +kernel
theorem dX3_readUnit_96 : decode cX3_readUnit 96 = .ok (.ireturn, 1) := by decide +kernel
theorem dX3_readUnit_97 : decode cX3_readUnit 97 = .ok (.aload_n 0, 1) := by decide +kernel
theorem dX3_readUnit_98 : decode cX3_readUnit 98 = .ok (.iload_n 1, 1) := by decide +kernel
theorem dX3_readUnit_99 : decode cX3_readUnit 99 = .ok (.iconst 1, 1) := by decide +kernel
theorem dX3_readUnit_100 : decode cX3_readUnit 100 = .ok (.iadd, 1) := by decide +kernel
theorem dX3_readUnit_101 : decode cX3_readUnit 101 = .ok (.invokevirtual 75, 3) := by decide +kernel
theorem dX3_readUnit_104 : decode cX3_readUnit 104 = .ok (.istore_n 3, 1) := by decide +kernel
theorem dX3_readUnit_105 : decode cX3_readUnit 105 = .ok (.aload_n 0, 1) := by decide +kernel
theorem dX3_readUnit_106 : decode cX3_readUnit 106 = .ok (.getfield 15, 3) := by decide +kernel
theorem dX3_readUnit_109 : decode cX3_readUnit 109 = .ok (.bipush (-33), 2) := by decide +kernel
theorem dX3_readUnit_111 : decode cX3_readUnit 111 = .ok (.invokevirtual 81, 3) := by decide +kernel
theorem dX3_readUnit_114 : decode cX3_readUnit 114 = .ok (.iload_n 3, 1) := by decide +kernel
theorem dX3_readUnit_115 : decode cX3_readUnit 115 = .ok (.ireturn, 1) := by decide +kernel
theorem dX3_compares_0 : decode cX3_compares 0 = .ok (.iload_n 0, 1) := by decide +kernel
theorem dX3_compares_1 : decode cX3_compares 1 = .ok (.bipush 61, 2) := by decide +kernel
theorem dX3_compares_3 : decode cX3_compares 3 = .ok (.if_icmp .eq 15, 3) := by decide +kernel
theorem dX3_compares_6 : decode cX3_compares 6 = .ok (.iload_n 0, 1) := by decide +kernel
theorem dX3_compares_7 : decode cX3_compares 7 = .ok (.bipush 60, 2) := by decide +kernel
theorem dX3_compares_9 : decode cX3_compares 9 = .ok (.if_icmp .eq 9, 3) := by decide +kernel
theorem dX3_compares_12 : decode cX3_compares 12 = .ok (.iload_n 0, 1) := by decide +kernel
theorem dX3_compares_13 : decode cX3_compares 13 = .ok (.bipush 62, 2) := by decide +kernel
theorem dX3_compares_15 : decode cX3_compares 15 = .ok (.if_icmp .ne 7, 3) := by decide +kernel
theorem dX3_compares_18 : decode cX3_compares 18 = .ok (.iconst 1, 1) := by decide +kernel
theorem dX3_compares_19 : decode cX3_compares 19 = .ok (.goto 4, 3) := by decide +kernel
theorem dX3_compares_22 : decode cX3_compares 22 = .ok (.iconst 0, 1) := by decide +kernel
theorem dX3_compares_23 : decode cX3_compares 23 = .ok (.ireturn, 1) := by decide +kernel
theorem dX3_readComparison_0 : decode cX3_readComparison 0 = .ok (.aload_n 0, 1) := by decide +kernel
theorem dX3_readComparison_1 : decode cX3_readComparison 1 = .ok (.getfield 9, 3) := by decide +kernel
theorem dX3_readComparison_4 : decode cX3_readComparison 4 = .ok (.invokevirtual 33, 3) := by decide +kernel
theorem dX3_readComparison_7 : decode cX3_readComparison 7 = .ok (.istore_n 2, 1) := by decide +kernel
theorem dX3_readComparison_8 : decode cX3_readComparison 8 = .ok (.iload_n 2, 1) := by decide +kernel
theorem dX3_readComparison_9 : decode cX3_readComparison 9 = .ok (.invokestatic 63, 3) := by decide +kernel
theorem dX3_readComparison_12 : decode cX3_readComparison 12 = .ok (.ifCond .ne 11, 3) := by decide +kernel
theorem dX3_readComparison_15 : decode cX3_readComparison 15 = .ok (.aload_n 0, 1) := by decide +kernel
theorem dX3_readComparison_16 : decode cX3_readComparison 16 = .ok (.getfield 9, 3) := by decide +kernel
theorem dX3_readComparison_19 : decode cX3_readComparison 19 = .ok (.invokevirtual 40, 3) := by decide +kernel
theorem dX3_readComparison_22 : decode cX3_readComparison 22 = .ok (.ireturn, 1) := by decide +kernel
theorem dX3_readComparison_23 : decode cX3_readComparison 23 = .ok (.aload_n 0, 1) := by decide +kernel
theorem dX3_readComparison_24 : decode cX3_readComparison 24 = .ok (.getfield 9, 3) := by decide +kernel
theorem dX3_readComparison_27 : decode cX3_readComparison 27 = .ok (.invokevirtual 37, 3) := by decide +kernel
theorem dX3_readComparison_30 : decode cX3_readComparison 30 = .ok (.aload_n 0, 1) := by decide +kernel
theorem dX3_readComparison_31 : decode cX3_readComparison 31 = .ok (.iload_n 1, 1) := by decide +kernel
theorem dX3_readComparison_32 : decode cX3_readComparison 32 = .ok (.invokevirtual 60, 3) := by decide +kernel
theorem dX3_readComparison_35 : decode cX3_readComparison 35 = .ok (.istore_n 3, 1) := by decide +kernel
theorem dX3_readComparison_36 : decode cX3_readComparison 36 = .ok (.aload_n 0, 1) := by decide +kernel
theorem dX3_readComparison_37 : decode cX3_readComparison 37 = .ok (.getfield 15, 3) := by decide +kernel
theorem dX3_readComparison_40 : decode cX3_readComparison 40 = .ok (.iload_n 2, 1) := by decide +kernel
theorem dX3_readComparison_41 : decode cX3_readComparison 41 = .ok (.ineg, 1) := by decide +kernel
theorem dX3_readComparison_42 : decode cX3_readComparison 42 = .ok (.invokevirtual 81, 3) := by decide +kernel
theorem dX3_readComparison_45 : decode cX3_readComparison 45 = .ok (.iload_n 3, 1) := by decide +kernel
theorem dX3_readComparison_46 : decode cX3_readComparison 46 = .ok (.ireturn, 1) := by decide +kernel
theorem dX3_readSum_0 : decode cX3_readSum 0 = .ok (.aload_n 0, 1) := by decide +kernel
theorem dX3_readSum_1 : decode cX3_readSum 1 = .ok (.iload_n 1, 1) := by decide +kernel
theorem dX3_readSum_2 : decode cX3_readSum 2 = .ok (.invokevirtual 84, 3) := by decide +kernel
theorem dX3_readSum_5 : decode cX3_readSum 5 = .ok (.istore_n 2, 1) := by decide +kernel
theorem dX3_readSum_6 : decode cX3_readSum 6 = .ok (.iconst 0, 1) := by decide +kernel
theorem dX3_readSum_7 : decode cX3_readSum 7 = .ok (.istore_n 3, 1) := by decide +kernel
theorem dX3_readSum_8 : decode cX3_readSum 8 = .ok (.iload_n 3, 1) := by decide +kernel
theorem dX3_readSum_9 : decode cX3_readSum 9 = .ok (.sipush 240, 3) := by decide +kernel
theorem dX3_readSum_12 : decode cX3_readSum 12 = .ok (.if_icmp .ge 61, 3) := by decide +kernel
theorem dX3_readSum_15 : decode cX3_readSum 15 = .ok (.iload_n 2, 1) := by decide +kernel
theorem dX3_readSum_16 : decode cX3_readSum 16 = .ok (.ifCond .eq 57, 3) := by decide +kernel
theorem dX3_readSum_19 : decode cX3_readSum 19 = .ok (.aload_n 0, 1) := by decide +kernel
theorem dX3_readSum_20 : decode cX3_readSum 20 = .ok (.getfield 9, 3) := by decide +kernel
theorem dX3_readSum_23 : decode cX3_readSum 23 = .ok (.invokevirtual 33, 3) := by decide +kernel
theorem dX3_readSum_26 : decode cX3_readSum 26 = .ok (.istore 4, 2) := by decide +kernel
theorem dX3_readSum_28 : decode cX3_readSum 28 = .ok (.iload 4, 2) := by decide +kernel
theorem dX3_readSum_30 : decode cX3_readSum 30 = .ok (.bipush 43, 2) := by decide +kernel
theorem dX3_readSum_32 : decode cX3_readSum 32 = .ok (.if_icmp .eq 12, 3) := by decide +kernel
theorem dX3_readSum_35 : decode cX3_readSum 35 = .ok (.iload 4, 2) := by decide +kernel
theorem dX3_readSum_37 : decode cX3_readSum 37 = .ok (.bipush 45, 2) := by decide +kernel
theorem dX3_readSum_39 : decode cX3_readSum 39 = .ok (.if_icmp .eq 5, 3) := by decide +kernel
theorem dX3_readSum_42 : decode cX3_readSum 42 = .ok (.iconst 1, 1) := by decide +kernel
theorem dX3_readSum_43 : decode cX3_readSum 43 = .ok (.ireturn, 1) := by decide +kernel
theorem dX3_readSum_44 : decode cX3_readSum 44 = .ok (.aload_n 0, 1) := by decide +kernel
theorem dX3_readSum_45 : decode cX3_readSum 45 = .ok (.getfield 9, 3) := by decide +kernel
theorem dX3_readSum_48 : decode cX3_readSum 48 = .ok (.invokevirtual 37, 3) := by decide +kernel
theorem dX3_readSum_51 : decode cX3_readSum 51 = .ok (.aload_n 0, 1) := by decide +kernel
theorem dX3_readSum_52 : decode cX3_readSum 52 = .ok (.iload_n 1, 1) := by decide +kernel
theorem dX3_readSum_53 : decode cX3_readSum 53 = .ok (.invokevirtual 84, 3) := by decide +kernel
theorem dX3_readSum_56 : decode cX3_readSum 56 = .ok (.istore_n 2, 1) := by decide +kernel
theorem dX3_readSum_57 : decode cX3_readSum 57 = .ok (.aload_n 0, 1) := by decide +kernel
theorem dX3_readSum_58 : decode cX3_readSum 58 = .ok (.getfield 15, 3) := by decide +kernel
theorem dX3_readSum_61 : decode cX3_readSum 61 = .ok (.iload 4, 2) := by decide +kernel
theorem dX3_readSum_63 : decode cX3_readSum 63 = .ok (.ineg, 1) := by decide +kernel
theorem dX3_readSum_64 : decode cX3_readSum 64 = .ok (.invokevirtual 81, 3) := by decide +kernel
theorem dX3_readSum_67 : decode cX3_readSum 67 = .ok (.iinc 3 1, 3) := by decide +kernel
theorem dX3_readSum_70 : decode cX3_readSum 70 = .ok (.goto (-62), 3) := by decide +kernel
theorem dX3_readSum_73 : decode cX3_readSum 73 = .ok (.iload_n 2, 1) := by decide +kernel
theorem dX3_readSum_74 : decode cX3_readSum 74 = .ok (.ireturn, 1) := by decide +kernel
theorem dX3_readTerm_0 : decode cX3_readTerm 0 = .ok (.aload_n 0, 1) := by decide +kernel
theorem dX3_readTerm_1 : decode cX3_readTerm 1 = .ok (.iload_n 1, 1) := by decide +kernel
theorem dX3_readTerm_2 : decode cX3_readTerm 2 = .ok (.invokevirtual 87, 3) := by decide +kernel
theorem dX3_readTerm_5 : decode cX3_readTerm 5 = .ok (.istore_n 2, 1) := by decide +kernel
theorem dX3_readTerm_6 : decode cX3_readTerm 6 = .ok (.iconst 0, 1) := by decide +kernel
theorem dX3_readTerm_7 : decode cX3_readTerm 7 = .ok (.istore_n 3, 1) := by decide +kernel
theorem dX3_readTerm_8 : decode cX3_readTerm 8 = .ok (.iload_n 3, 1) := by decide +kernel
theorem dX3_readTerm_9 : decode cX3_readTerm 9 = .ok (.sipush 240, 3) := by decide +kernel
theorem dX3_readTerm_12 : decode cX3_readTerm 12 = .ok (.if_icmp .ge 61, 3) := by decide +kernel
theorem dX3_readTerm_15 : decode cX3_readTerm 15 = .ok (.iload_n 2, 1) := by decide +kernel
theorem dX3_readTerm_16 : decode cX3_readTerm 16 = .ok (.ifCond .eq 57, 3) := by decide +kernel
theorem dX3_readTerm_19 : decode cX3_readTerm 19 = .ok (.aload_n 0, 1) := by decide +kernel
theorem dX3_readTerm_20 : decode cX3_readTerm 20 = .ok (.getfield 9, 3) := by decide +kernel
theorem dX3_readTerm_23 : decode cX3_readTerm 23 = .ok (.invokevirtual 33, 3) := by decide +kernel
theorem dX3_readTerm_26 : decode cX3_readTerm 26 = .ok (.istore 4, 2) := by decide +kernel
theorem dX3_readTerm_28 : decode cX3_readTerm 28 = .ok (.iload 4, 2) := by decide +kernel
theorem dX3_readTerm_30 : decode cX3_readTerm 30 = .ok (.bipush 42, 2) := by decide +kernel
theorem dX3_readTerm_32 : decode cX3_readTerm 32 = .ok (.if_icmp .eq 12, 3) := by decide +kernel
theorem dX3_readTerm_35 : decode cX3_readTerm 35 = .ok (.iload 4, 2) := by decide +kernel
theorem dX3_readTerm_37 : decode cX3_readTerm 37 = .ok (.bipush 47, 2) := by decide +kernel
theorem dX3_readTerm_39 : decode cX3_readTerm 39 = .ok (.if_icmp .eq 5, 3) := by decide +kernel
theorem dX3_readTerm_42 : decode cX3_readTerm 42 = .ok (.iconst 1, 1) := by decide +kernel
theorem dX3_readTerm_43 : decode cX3_readTerm 43 = .ok (.ireturn, 1) := by decide +kernel
theorem dX3_readTerm_44 : decode cX3_readTerm 44 = .ok (.aload_n 0, 1) := by decide +kernel
theorem dX3_readTerm_45 : decode cX3_readTerm 45 = .ok (.getfield 9, 3) := by decide +kernel
theorem dX3_readTerm_48 : decode cX3_readTerm 48 = .ok (.invokevirtual 37, 3) := by decide +kernel
theorem dX3_readTerm_51 : decode cX3_readTerm 51 = .ok (.aload_n 0, 1) := by decide +kernel
theorem dX3_readTerm_52 : decode cX3_readTerm 52 = .ok (.iload_n 1, 1) := by decide +kernel
theorem dX3_readTerm_53 : decode cX3_readTerm 53 = .ok (.invokevirtual 87, 3) := by decide +kernel
theorem dX3_readTerm_56 : decode cX3_readTerm 56 = .ok (.istore_n 2, 1) := by decide +kernel
theorem dX3_readTerm_57 : decode cX3_readTerm 57 = .ok (.aload_n 0, 1) := by decide +kernel
theorem dX3_readTerm_58 : decode cX3_readTerm 58 = .ok (.getfield 15, 3) := by decide +kernel
theorem dX3_readTerm_61 : decode cX3_readTerm 61 = .ok (.iload 4, 2) := by decide +kernel
theorem dX3_readTerm_63 : decode cX3_readTerm 63 = .ok (.ineg, 1) := by decide +kernel
theorem dX3_readTerm_64 : decode cX3_readTerm 64 = .ok (.invokevirtual 81, 3) := by decide +kernel
theorem dX3_readTerm_67 : decode cX3_readTerm 67 = .ok (.iinc 3 1, 3) := by decide +kernel
theorem dX3_readTerm_70 : decode cX3_readTerm 70 = .ok (.goto (-62), 3) := by decide +kernel
theorem dX3_readTerm_73 : decode cX3_readTerm 73 = .ok (.iload_n 2, 1) := by decide +kernel
theorem dX3_readTerm_74 : decode cX3_readTerm 74 = .ok (.ireturn, 1) := by decide +kernel
theorem dX3_readAtom_0 : decode cX3_readAtom 0 = .ok (.aload_n 0, 1) := by decide +kernel
theorem dX3_readAtom_1 : decode cX3_readAtom 1 = .ok (.getfield 9, 3) := by decide +kernel
theorem dX3_readAtom_4 : decode cX3_readAtom 4 = .ok (.invokevirtual 33, 3) := by decide +kernel
theorem dX3_readAtom_7 : decode cX3_readAtom 7 = .ok (.istore_n 2, 1) := by decide +kernel
theorem dX3_readAtom_8 : decode cX3_readAtom 8 = .ok (.iload_n 2, 1) := by decide +kernel
theorem dX3_readAtom_9 : decode cX3_readAtom 9 = .ok (.iconst (-1), 1) := by decide +kernel
theorem dX3_readAtom_10 : decode cX3_readAtom 10 = .ok (.if_icmp .ne 11, 3) := by decide +kernel
theorem dX3_readAtom_13 : decode cX3_readAtom 13 = .ok (.aload_n 0, 1) := by decide +kernel
theorem dX3_readAtom_14 : decode cX3_readAtom 14 = .ok (.getfield 9, 3) := by decide +kernel
theorem dX3_readAtom_17 : decode cX3_readAtom 17 = .ok (.invokevirtual 40, 3) := by decide +kernel
theorem dX3_readAtom_20 : decode cX3_readAtom 20 = .ok (.ireturn, 1) := by decide +kernel
theorem dX3_readAtom_21 : decode cX3_readAtom 21 = .ok (.iload_n 2, 1) := by decide +kernel
theorem dX3_readAtom_22 : decode cX3_readAtom 22 = .ok (.bipush 91, 2) := by decide +kernel
theorem dX3_readAtom_24 : decode cX3_readAtom 24 = .ok (.if_icmp .ne 52, 3) := by decide +kernel
theorem dX3_readAtom_27 : decode cX3_readAtom 27 = .ok (.iload_n 1, 1) := by decide +kernel
theorem dX3_readAtom_28 : decode cX3_readAtom 28 = .ok (.bipush 6, 2) := by decide +kernel
theorem dX3_readAtom_30 : decode cX3_readAtom 30 = .ok (.if_icmp .lt 11, 3) := by decide +kernel
theorem dX3_readAtom_33 : decode cX3_readAtom 33 = .ok (.aload_n 0, 1) := by decide +kernel
theorem dX3_readAtom_34 : decode cX3_readAtom 34 = .ok (.getfield 9, 3) := by decide +kernel
theorem dX3_readAtom_37 : decode cX3_readAtom 37 = .ok (.invokevirtual 40, 3) := by decide +kernel
theorem dX3_readAtom_40 : decode cX3_readAtom 40 = .ok (.ireturn, 1) := by decide +kernel
theorem dX3_readAtom_41 : decode cX3_readAtom 41 = .ok (.aload_n 0, 1) := by decide +kernel
theorem dX3_readAtom_42 : decode cX3_readAtom 42 = .ok (.getfield 9, 3) := by decide +kernel
theorem dX3_readAtom_45 : decode cX3_readAtom 45 = .ok (.invokevirtual 37, 3) := by decide +kernel
theorem dX3_readAtom_48 : decode cX3_readAtom 48 = .ok (.aload_n 0, 1) := by decide +kernel
theorem dX3_readAtom_49 : decode cX3_readAtom 49 = .ok (.iload_n 1, 1) := by decide +kernel
theorem dX3_readAtom_50 : decode cX3_readAtom 50 = .ok (.iconst 1, 1) := by decide +kernel
theorem dX3_readAtom_51 : decode cX3_readAtom 51 = .ok (.iadd, 1) := by decide +kernel
theorem dX3_readAtom_52 : decode cX3_readAtom 52 = .ok (.invokevirtual 60, 3) := by decide +kernel
theorem dX3_readAtom_55 : decode cX3_readAtom 55 = .ok (.ifCond .eq 19, 3) := by decide +kernel
theorem dX3_readAtom_58 : decode cX3_readAtom 58 = .ok (.aload_n 0, 1) := by decide +kernel
theorem dX3_readAtom_59 : decode cX3_readAtom 59 = .ok (.getfield 9, 3) := by decide +kernel
theorem dX3_readAtom_62 : decode cX3_readAtom 62 = .ok (.bipush 93, 2) := by decide +kernel
theorem dX3_readAtom_64 : decode cX3_readAtom 64 = .ok (.invokevirtual 46, 3) := by decide +kernel
theorem dX3_readAtom_67 : decode cX3_readAtom 67 = .ok (.ifCond .eq 7, 3) := by decide +kernel
theorem dX3_readAtom_70 : decode cX3_readAtom 70 = .ok (.iconst 1, 1) := by decide +kernel
theorem dX3_readAtom_71 : decode cX3_readAtom 71 = .ok (.goto 4, 3) := by decide +kernel
theorem dX3_readAtom_74 : decode cX3_readAtom 74 = .ok (.iconst 0, 1) := by decide +kernel
theorem dX3_readAtom_75 : decode cX3_readAtom 75 = .ok (.ireturn, 1) := by decide +kernel
theorem dX3_readAtom_76 : decode cX3_readAtom 76 = .ok (.ldc 90, 2) := by decide +kernel
theorem dX3_readAtom_78 : decode cX3_readAtom 78 = .ok (.iload_n 2, 1) := by decide +kernel
theorem dX3_readAtom_79 : decode cX3_readAtom 79 = .ok (.i2c, 1) := by decide +kernel
theorem dX3_readAtom_80 : decode cX3_readAtom 80 = .ok (.invokevirtual 92, 3) := by decide +kernel
theorem dX3_readAtom_83 : decode cX3_readAtom 83 = .ok (.istore_n 3, 1) := by decide +kernel
theorem dX3_readAtom_84 : decode cX3_readAtom 84 = .ok (.iload_n 3, 1) := by decide +kernel
theorem dX3_readAtom_85 : decode cX3_readAtom 85 = .ok (.ifCond .lt 24, 3) := by decide +kernel
theorem dX3_readAtom_88 : decode cX3_readAtom 88 = .ok (.aload_n 0, 1) := by decide +kernel
theorem dX3_readAtom_89 : decode cX3_readAtom 89 = .ok (.getfield 9, 3) := by decide +kernel
theorem dX3_readAtom_92 : decode cX3_readAtom 92 = .ok (.invokevirtual 37, 3) := by decide +kernel
theorem dX3_readAtom_95 : decode cX3_readAtom 95 = .ok (.aload_n 0, 1) := by decide +kernel
theorem dX3_readAtom_96 : decode cX3_readAtom 96 = .ok (.getfield 15, 3) := by decide +kernel
theorem dX3_readAtom_99 : decode cX3_readAtom 99 = .ok (.sipush 10000, 3) := by decide +kernel
theorem dX3_readAtom_102 : decode cX3_readAtom 102 = .ok (.iload_n 3, 1) := by decide +kernel
theorem dX3_readAtom_103 : decode cX3_readAtom 103 = .ok (.iadd, 1) := by decide +kernel
theorem dX3_readAtom_104 : decode cX3_readAtom 104 = .ok (.invokevirtual 81, 3) := by decide +kernel
theorem dX3_readAtom_107 : decode cX3_readAtom 107 = .ok (.iconst 1, 1) := by decide +kernel
theorem dX3_readAtom_108 : decode cX3_readAtom 108 = .ok (.ireturn, 1) := by decide +kernel
theorem dX3_readAtom_109 : decode cX3_readAtom 109 = .ok (.aload_n 0, 1) := by decide +kernel
theorem dX3_readAtom_110 : decode cX3_readAtom 110 = .ok (.getfield 9, 3) := by decide +kernel
theorem dX3_readAtom_113 : decode cX3_readAtom 113 = .ok (.iconst 4, 1) := by decide +kernel
theorem dX3_readAtom_114 : decode cX3_readAtom 114 = .ok (.invokevirtual 98, 3) := by decide +kernel
theorem dX3_readAtom_117 : decode cX3_readAtom 117 = .ok (.istore 4, 2) := by decide +kernel
theorem dX3_readAtom_119 : decode cX3_readAtom 119 = .ok (.iload 4, 2) := by decide +kernel
theorem dX3_readAtom_121 : decode cX3_readAtom 121 = .ok (.iconst (-1), 1) := by decide +kernel
theorem dX3_readAtom_122 : decode cX3_readAtom 122 = .ok (.if_icmp .ne 5, 3) := by decide +kernel
theorem dX3_readAtom_125 : decode cX3_readAtom 125 = .ok (.iconst 0, 1) := by decide +kernel
theorem dX3_readAtom_126 : decode cX3_readAtom 126 = .ok (.ireturn, 1) := by decide +kernel
theorem dX3_readAtom_127 : decode cX3_readAtom 127 = .ok (.aload_n 0, 1) := by decide +kernel
theorem dX3_readAtom_128 : decode cX3_readAtom 128 = .ok (.getfield 15, 3) := by decide +kernel
theorem dX3_readAtom_131 : decode cX3_readAtom 131 = .ok (.iload 4, 2) := by decide +kernel
theorem dX3_readAtom_133 : decode cX3_readAtom 133 = .ok (.invokevirtual 81, 3) := by decide +kernel
theorem dX3_readAtom_136 : decode cX3_readAtom 136 = .ok (.iconst 1, 1) := by decide +kernel
theorem dX3_readAtom_137 : decode cX3_readAtom 137 = .ok (.ireturn, 1) := by decide +kernel
theorem dX4_init_0 : decode cX4_init 0 = .ok (.aload_n 0, 1) := by decide +kernel
theorem dX4_init_1 : decode cX4_init 1 = .ok (.invokespecial 3, 3) := by decide +kernel
theorem dX4_init_4 : decode cX4_init 4 = .ok (.aload_n 0, 1) := by decide +kernel
theorem dX4_init_5 : decode cX4_init 5 = .ok (.iconst 4, 1) := by decide +kernel
theorem dX4_init_6 : decode cX4_init 6 = .ok (.anewarray 9, 3) := by decide +kernel
theorem dX4_init_9 : decode cX4_init 9 = .ok (.putfield 11, 3) := by decide +kernel
theorem dX4_init_12 : decode cX4_init 12 = .ok (.aload_n 0, 1) := by decide +kernel
theorem dX4_init_13 : decode cX4_init 13 = .ok (.bipush 6, 2) := by decide +kernel
theorem dX4_init_15 : decode cX4_init 15 = .ok (.newarray .int, 2) := by decide +kernel
theorem dX4_init_17 : decode cX4_init 17 = .ok (.putfield 17, 3) := by decide +kernel
theorem dX4_init_20 : decode cX4_init 20 = .ok (.aload_n 0, 1) := by decide +kernel
theorem dX4_init_21 : decode cX4_init 21 = .ok (.iconst (-1), 1) := by decide +kernel
theorem dX4_init_22 : decode cX4_init 22 = .ok (.putfield 21, 3) := by decide +kernel
theorem dX4_init_25 : decode cX4_init 25 = .ok (.aload_n 0, 1) := by decide +kernel
theorem dX4_init_26 : decode cX4_init 26 = .ok (.aload_n 1, 1) := by decide +kernel
theorem dX4_init_27 : decode cX4_init 27 = .ok (.putfield 25, 3) := by decide +kernel
theorem dX4_init_30 : decode cX4_init 30 = .ok (.aload_n 0, 1) := by decide +kernel
theorem dX4_init_31 : decode cX4_init 31 = .ok (.aload_n 2, 1) := by decide +kernel
theorem dX4_init_32 : decode cX4_init 32 = .ok (.putfield 29, 3) := by decide +kernel
theorem dX4_init_35 : decode cX4_init 35 = .ok (.iconst 0, 1) := by decide +kernel
theorem dX4_init_36 : decode cX4_init 36 = .ok (.istore_n 3, 1) := by decide +kernel
theorem dX4_init_37 : decode cX4_init 37 = .ok (.iload_n 3, 1) := by decide +kernel
theorem dX4_init_38 : decode cX4_init 38 = .ok (.iconst 4, 1) := by decide +kernel
theorem dX4_init_39 : decode cX4_init 39 = .ok (.if_icmp .ge 22, 3) := by decide +kernel
theorem dX4_init_42 : decode cX4_init 42 = .ok (.aload_n 0, 1) := by decide +kernel
theorem dX4_init_43 : decode cX4_init 43 = .ok (.getfield 11, 3) := by decide +kernel
theorem dX4_init_46 : decode cX4_init 46 = .ok (.iload_n 3, 1) := by decide +kernel
theorem dX4_init_47 : decode cX4_init 47 = .ok (.new 9, 3) := by decide +kernel
theorem dX4_init_50 : decode cX4_init 50 = .ok (.dup, 1) := by decide +kernel
theorem dX4_init_51 : decode cX4_init 51 = .ok (.invokespecial 33, 3) := by decide +kernel
theorem dX4_init_54 : decode cX4_init 54 = .ok (.aastore, 1) := by decide +kernel
theorem dX4_init_55 : decode cX4_init 55 = .ok (.iinc 3 1, 3) := by decide +kernel
theorem dX4_init_58 : decode cX4_init 58 = .ok (.goto (-21), 3) := by decide +kernel
theorem dX4_init_61 : decode cX4_init 61 = .ok (.return_, 1) := by decide +kernel
theorem dX4_laws_0 : decode cX4_laws 0 = .ok (.aload_n 0, 1) := by decide +kernel
theorem dX4_laws_1 : decode cX4_laws 1 = .ok (.getfield 34, 3) := by decide +kernel
theorem dX4_laws_4 : decode cX4_laws 4 = .ok (.ireturn, 1) := by decide +kernel
theorem dX4_holding_0 : decode cX4_holding 0 = .ok (.aload_n 0, 1) := by decide +kernel
theorem dX4_holding_1 : decode cX4_holding 1 = .ok (.getfield 21, 3) := by decide +kernel
theorem dX4_holding_4 : decode cX4_holding 4 = .ok (.ireturn, 1) := by decide +kernel
theorem dX4_has_0 : decode cX4_has 0 = .ok (.iload_n 1, 1) := by decide +kernel
theorem dX4_has_1 : decode cX4_has 1 = .ok (.ifCond .lt 15, 3) := by decide +kernel
theorem dX4_has_4 : decode cX4_has 4 = .ok (.iload_n 1, 1) := by decide +kernel
theorem dX4_has_5 : decode cX4_has 5 = .ok (.aload_n 0, 1) := by decide +kernel
theorem dX4_has_6 : decode cX4_has 6 = .ok (.getfield 34, 3) := by decide +kernel
theorem dX4_has_9 : decode cX4_has 9 = .ok (.if_icmp .ge 7, 3) := by decide +kernel
theorem dX4_has_12 : decode cX4_has 12 = .ok (.iconst 1, 1) := by decide +kernel
theorem dX4_has_13 : decode cX4_has 13 = .ok (.goto 4, 3) := by decide +kernel
theorem dX4_has_16 : decode cX4_has 16 = .ok (.iconst 0, 1) := by decide +kernel
theorem dX4_has_17 : decode cX4_has 17 = .ok (.ireturn, 1) := by decide +kernel
theorem dX4_hold_0 : decode cX4_hold 0 = .ok (.iload_n 1, 1) := by decide +kernel
theorem dX4_hold_1 : decode cX4_hold 1 = .ok (.iconst (-1), 1) := by decide +kernel
theorem dX4_hold_2 : decode cX4_hold 2 = .ok (.if_icmp .eq 13, 3) := by decide +kernel
theorem dX4_hold_5 : decode cX4_hold 5 = .ok (.aload_n 0, 1) := by decide +kernel
theorem dX4_hold_6 : decode cX4_hold 6 = .ok (.iload_n 1, 1) := by decide +kernel
theorem dX4_hold_7 : decode cX4_hold 7 = .ok (.invokevirtual 37, 3) := by decide +kernel
theorem dX4_hold_10 : decode cX4_hold 10 = .ok (.ifCond .ne 5, 3) := by decide +kernel
theorem dX4_hold_13 : decode cX4_hold 13 = .ok (.iconst 0, 1) := by decide +kernel
theorem dX4_hold_14 : decode cX4_hold 14 = .ok (.ireturn, 1) := by decide +kernel
theorem dX4_hold_15 : decode cX4_hold 15 = .ok (.aload_n 0, 1) := by decide +kernel
theorem dX4_hold_16 : decode cX4_hold 16 = .ok (.iload_n 1, 1) := by decide +kernel
theorem dX4_hold_17 : decode cX4_hold 17 = .ok (.putfield 21, 3) := by decide +kernel
theorem dX4_hold_20 : decode cX4_hold 20 = .ok (.iconst 1, 1) := by decide +kernel
theorem dX4_hold_21 : decode cX4_hold 21 = .ok (.ireturn, 1) := by decide +kernel
theorem dX4_hasRoom_0 : decode cX4_hasRoom 0 = .ok (.aload_n 0, 1) := by decide +kernel
theorem dX4_hasRoom_1 : decode cX4_hasRoom 1 = .ok (.getfield 34, 3) := by decide +kernel
theorem dX4_hasRoom_4 : decode cX4_hasRoom 4 = .ok (.iconst 4, 1) := by decide +kernel
theorem dX4_hasRoom_5 : decode cX4_hasRoom 5 = .ok (.if_icmp .ge 7, 3) := by decide +kernel
theorem dX4_hasRoom_8 : decode cX4_hasRoom 8 = .ok (.iconst 1, 1) := by decide +kernel
theorem dX4_hasRoom_9 : decode cX4_hasRoom 9 = .ok (.goto 4, 3) := by decide +kernel
theorem dX4_hasRoom_12 : decode cX4_hasRoom 12 = .ok (.iconst 0, 1) := by decide +kernel
theorem dX4_hasRoom_13 : decode cX4_hasRoom 13 = .ok (.ireturn, 1) := by decide +kernel
theorem dX4_nextLaw_0 : decode cX4_nextLaw 0 = .ok (.aload_n 0, 1) := by decide +kernel
theorem dX4_nextLaw_1 : decode cX4_nextLaw 1 = .ok (.getfield 11, 3) := by decide +kernel
theorem dX4_nextLaw_4 : decode cX4_nextLaw 4 = .ok (.aload_n 0, 1) := by decide +kernel
theorem dX4_nextLaw_5 : decode cX4_nextLaw 5 = .ok (.invokevirtual 41, 3) := by decide +kernel
theorem dX4_nextLaw_8 : decode cX4_nextLaw 8 = .ok (.ifCond .eq 10, 3) := by decide +kernel
theorem dX4_nextLaw_11 : decode cX4_nextLaw 11 = .ok (.aload_n 0, 1) := by decide +kernel
theorem dX4_nextLaw_12 : decode cX4_nextLaw 12 = .ok (.getfield 34, 3) := by decide +kernel
theorem dX4_nextLaw_15 : decode cX4_nextLaw 15 = .ok (.goto 4, 3) := by decide +kernel
theorem dX4_nextLaw_18 : decode cX4_nextLaw 18 = .ok (.iconst 3, 1) := by decide +kernel
theorem dX4_nextLaw_19 : decode cX4_nextLaw 19 = .ok (.aaload, 1) := by decide +kernel
theorem dX4_nextLaw_20 : decode cX4_nextLaw 20 = .ok (.areturn, 1) := by decide +kernel
theorem dX4_addNext_0 : decode cX4_addNext 0 = .ok (.aload_n 0, 1) := by decide +kernel
theorem dX4_addNext_1 : decode cX4_addNext 1 = .ok (.invokevirtual 41, 3) := by decide +kernel
theorem dX4_addNext_4 : decode cX4_addNext 4 = .ok (.ifCond .ne 5, 3) := by decide +kernel
theorem dX4_addNext_7 : decode cX4_addNext 7 = .ok (.iconst (-1), 1) := by decide +kernel
theorem dX4_addNext_8 : decode cX4_addNext 8 = .ok (.ireturn, 1) := by decide +kernel
theorem dX4_addNext_9 : decode cX4_addNext 9 = .ok (.aload_n 0, 1) := by decide +kernel
theorem dX4_addNext_10 : decode cX4_addNext 10 = .ok (.dup, 1) := by decide +kernel
theorem dX4_addNext_11 : decode cX4_addNext 11 = .ok (.getfield 34, 3) := by decide +kernel
theorem dX4_addNext_14 : decode cX4_addNext 14 = .ok (.iconst 1, 1) := by decide +kernel
theorem dX4_addNext_15 : decode cX4_addNext 15 = .ok (.iadd, 1) := by decide +kernel
theorem dX4_addNext_16 : decode cX4_addNext 16 = .ok (.putfield 34, 3) := by decide +kernel
theorem dX4_addNext_19 : decode cX4_addNext 19 = .ok (.aload_n 0, 1) := by decide +kernel
theorem dX4_addNext_20 : decode cX4_addNext 20 = .ok (.getfield 34, 3) := by decide +kernel
theorem dX4_addNext_23 : decode cX4_addNext 23 = .ok (.iconst 1, 1) := by decide +kernel
theorem dX4_addNext_24 : decode cX4_addNext 24 = .ok (.isub, 1) := by decide +kernel
theorem dX4_addNext_25 : decode cX4_addNext 25 = .ok (.ireturn, 1) := by decide +kernel
theorem dX4_wakesNow_0 : decode cX4_wakesNow 0 = .ok (.aload_n 0, 1) := by decide +kernel
theorem dX4_wakesNow_1 : decode cX4_wakesNow 1 = .ok (.iload_n 1, 1) := by decide +kernel
theorem dX4_wakesNow_2 : decode cX4_wakesNow 2 = .ok (.iload_n 2, 1) := by decide +kernel
theorem dX4_wakesNow_3 : decode cX4_wakesNow 3 = .ok (.aload_n 0, 1) := by decide +kernel
theorem dX4_wakesNow_4 : decode cX4_wakesNow 4 = .ok (.getfield 29, 3) := by decide +kernel
theorem dX4_wakesNow_7 : decode cX4_wakesNow 7 = .ok (.iload_n 1, 1) := by decide +kernel
theorem dX4_wakesNow_8 : decode cX4_wakesNow 8 = .ok (.iconst 0, 1) := by decide +kernel
theorem dX4_wakesNow_9 : decode cX4_wakesNow 9 = .ok (.invokevirtual 47, 3) := by decide +kernel
theorem dX4_wakesNow_12 : decode cX4_wakesNow 12 = .ok (.aload_n 0, 1) := by decide +kernel
theorem dX4_wakesNow_13 : decode cX4_wakesNow 13 = .ok (.getfield 29, 3) := by decide +kernel
theorem dX4_wakesNow_16 : decode cX4_wakesNow 16 = .ok (.iload_n 1, 1) := by decide +kernel
theorem dX4_wakesNow_17 : decode cX4_wakesNow 17 = .ok (.iconst 1, 1) := by decide +kernel
theorem dX4_wakesNow_18 : decode cX4_wakesNow 18 = .ok (.invokevirtual 47, 3) := by decide +kernel
theorem dX4_wakesNow_21 : decode cX4_wakesNow 21 = .ok (.invokevirtual 51, 3) := by decide +kernel
theorem dX4_wakesNow_24 : decode cX4_wakesNow 24 = .ok (.ireturn, 1) := by decide +kernel
theorem dX4_wakesWith_0 : decode cX4_wakesWith 0 = .ok (.aload_n 0, 1) := by decide +kernel
theorem dX4_wakesWith_1 : decode cX4_wakesWith 1 = .ok (.iload_n 2, 1) := by decide +kernel
theorem dX4_wakesWith_2 : decode cX4_wakesWith 2 = .ok (.iload_n 3, 1) := by decide +kernel
theorem dX4_wakesWith_3 : decode cX4_wakesWith 3 = .ok (.iload_n 1, 1) := by decide +kernel
theorem dX4_wakesWith_4 : decode cX4_wakesWith 4 = .ok (.aload_n 0, 1) := by decide +kernel
theorem dX4_wakesWith_5 : decode cX4_wakesWith 5 = .ok (.getfield 29, 3) := by decide +kernel
theorem dX4_wakesWith_8 : decode cX4_wakesWith 8 = .ok (.iload_n 2, 1) := by decide +kernel
theorem dX4_wakesWith_9 : decode cX4_wakesWith 9 = .ok (.iconst 1, 1) := by decide +kernel
theorem dX4_wakesWith_10 : decode cX4_wakesWith 10 = .ok (.invokevirtual 47, 3) := by decide +kernel
theorem dX4_wakesWith_13 : decode cX4_wakesWith 13 = .ok (.invokevirtual 51, 3) := by decide +kernel
theorem dX4_wakesWith_16 : decode cX4_wakesWith 16 = .ok (.ireturn, 1) := by decide +kernel
theorem dX4_wakesIf_0 : decode cX4_wakesIf 0 = .ok (.aload_n 0, 1) := by decide +kernel
theorem dX4_wakesIf_1 : decode cX4_wakesIf 1 = .ok (.getfield 25, 3) := by decide +kernel
theorem dX4_wakesIf_4 : decode cX4_wakesIf 4 = .ok (.iload_n 1, 1) := by decide +kernel
theorem dX4_wakesIf_5 : decode cX4_wakesIf 5 = .ok (.iconst 1, 1) := by decide +kernel
theorem dX4_wakesIf_6 : decode cX4_wakesIf 6 = .ok (.invokevirtual 57, 3) := by decide +kernel
theorem dX4_wakesIf_9 : decode cX4_wakesIf 9 = .ok (.istore 5, 2) := by decide +kernel
theorem dX4_wakesIf_11 : decode cX4_wakesIf 11 = .ok (.aload_n 0, 1) := by decide +kernel
theorem dX4_wakesIf_12 : decode cX4_wakesIf 12 = .ok (.getfield 29, 3) := by decide +kernel
theorem dX4_wakesIf_15 : decode cX4_wakesIf 15 = .ok (.iload_n 1, 1) := by decide +kernel
theorem dX4_wakesIf_16 : decode cX4_wakesIf 16 = .ok (.iconst 2, 1) := by decide +kernel
theorem dX4_wakesIf_17 : decode cX4_wakesIf 17 = .ok (.invokevirtual 47, 3) := by decide +kernel
theorem dX4_wakesIf_20 : decode cX4_wakesIf 20 = .ok (.istore 6, 2) := by decide +kernel
theorem dX4_wakesIf_22 : decode cX4_wakesIf 22 = .ok (.iload 5, 2) := by decide +kernel
theorem dX4_wakesIf_24 : decode cX4_wakesIf 24 = .ok (.iload 4, 2) := by decide +kernel
theorem dX4_wakesIf_26 : decode cX4_wakesIf 26 = .ok (.iadd, 1) := by decide +kernel
theorem dX4_wakesIf_27 : decode cX4_wakesIf 27 = .ok (.iload_n 3, 1) := by decide +kernel
theorem dX4_wakesIf_28 : decode cX4_wakesIf 28 = .ok (.isub, 1) := by decide +kernel
theorem dX4_wakesIf_29 : decode cX4_wakesIf 29 = .ok (.iload 6, 2) := by decide +kernel
theorem dX4_wakesIf_31 : decode cX4_wakesIf 31 = .ok (.isub, 1) := by decide +kernel
theorem dX4_wakesIf_32 : decode cX4_wakesIf 32 = .ok (.istore 7, 2) := by decide +kernel
theorem dX4_wakesIf_34 : decode cX4_wakesIf 34 = .ok (.aload_n 0, 1) := by decide +kernel
theorem dX4_wakesIf_35 : decode cX4_wakesIf 35 = .ok (.aload_n 0, 1) := by decide +kernel
theorem dX4_wakesIf_36 : decode cX4_wakesIf 36 = .ok (.getfield 21, 3) := by decide +kernel
theorem dX4_wakesIf_39 : decode cX4_wakesIf 39 = .ok (.invokevirtual 37, 3) := by decide +kernel
theorem dX4_wakesIf_42 : decode cX4_wakesIf 42 = .ok (.ifCond .eq 36, 3) := by decide +kernel
theorem dX4_wakesIf_45 : decode cX4_wakesIf 45 = .ok (.aload_n 0, 1) := by decide +kernel
theorem dX4_wakesIf_46 : decode cX4_wakesIf 46 = .ok (.iload_n 3, 1) := by decide +kernel
theorem dX4_wakesIf_47 : decode cX4_wakesIf 47 = .ok (.iload 5, 2) := by decide +kernel
theorem dX4_wakesIf_49 : decode cX4_wakesIf 49 = .ok (.iload 4, 2) := by decide +kernel
theorem dX4_wakesIf_51 : decode cX4_wakesIf 51 = .ok (.iload 6, 2) := by decide +kernel
theorem dX4_wakesIf_53 : decode cX4_wakesIf 53 = .ok (.iload_n 2, 1) := by decide +kernel
theorem dX4_wakesIf_54 : decode cX4_wakesIf 54 = .ok (.iconst 0, 1) := by decide +kernel
theorem dX4_wakesIf_55 : decode cX4_wakesIf 55 = .ok (.invokevirtual 60, 3) := by decide +kernel
theorem dX4_wakesIf_58 : decode cX4_wakesIf 58 = .ok (.aload_n 0, 1) := by decide +kernel
theorem dX4_wakesIf_59 : decode cX4_wakesIf 59 = .ok (.getfield 11, 3) := by decide +kernel
theorem dX4_wakesIf_62 : decode cX4_wakesIf 62 = .ok (.aload_n 0, 1) := by decide +kernel
theorem dX4_wakesIf_63 : decode cX4_wakesIf 63 = .ok (.getfield 21, 3) := by decide +kernel
theorem dX4_wakesIf_66 : decode cX4_wakesIf 66 = .ok (.aaload, 1) := by decide +kernel
theorem dX4_wakesIf_67 : decode cX4_wakesIf 67 = .ok (.bipush 121, 2) := by decide +kernel
theorem dX4_wakesIf_69 : decode cX4_wakesIf 69 = .ok (.aload_n 0, 1) := by decide +kernel
theorem dX4_wakesIf_70 : decode cX4_wakesIf 70 = .ok (.getfield 17, 3) := by decide +kernel
theorem dX4_wakesIf_73 : decode cX4_wakesIf 73 = .ok (.invokevirtual 64, 3) := by decide +kernel
theorem dX4_wakesIf_76 : decode cX4_wakesIf 76 = .ok (.istore 7, 2) := by decide +kernel
theorem dX4_wakesIf_78 : decode cX4_wakesIf 78 = .ok (.aload_n 0, 1) := by decide +kernel
theorem dX4_wakesIf_79 : decode cX4_wakesIf 79 = .ok (.getfield 29, 3) := by decide +kernel
theorem dX4_wakesIf_82 : decode cX4_wakesIf 82 = .ok (.iload_n 1, 1) := by decide +kernel
theorem dX4_wakesIf_83 : decode cX4_wakesIf 83 = .ok (.iconst 3, 1) := by decide +kernel
theorem dX4_wakesIf_84 : decode cX4_wakesIf 84 = .ok (.invokevirtual 47, 3) := by decide +kernel
theorem dX4_wakesIf_87 : decode cX4_wakesIf 87 = .ok (.ifCond .eq 16, 3) := by decide +kernel
theorem dX4_wakesIf_90 : decode cX4_wakesIf 90 = .ok (.iload 7, 2) := by decide +kernel
theorem dX4_wakesIf_92 : decode cX4_wakesIf 92 = .ok (.aload_n 0, 1) := by decide +kernel
theorem dX4_wakesIf_93 : decode cX4_wakesIf 93 = .ok (.getfield 25, 3) := by decide +kernel
theorem dX4_wakesIf_96 : decode cX4_wakesIf 96 = .ok (.iconst 2, 1) := by decide +kernel
theorem dX4_wakesIf_97 : decode cX4_wakesIf 97 = .ok (.invokevirtual 68, 3) := by decide +kernel
theorem dX4_wakesIf_100 : decode cX4_wakesIf 100 = .ok (.iadd, 1) := by decide +kernel
theorem dX4_wakesIf_101 : decode cX4_wakesIf 101 = .ok (.istore 7, 2) := by decide +kernel
theorem dX4_wakesIf_103 : decode cX4_wakesIf 103 = .ok (.iconst 0, 1) := by decide +kernel
theorem dX4_wakesIf_104 : decode cX4_wakesIf 104 = .ok (.iload 7, 2) := by decide +kernel
theorem dX4_wakesIf_106 : decode cX4_wakesIf 106 = .ok (.bipush 10, 2) := by decide +kernel
theorem dX4_wakesIf_108 : decode cX4_wakesIf 108 = .ok (.invokestatic 72, 3) := by decide +kernel
theorem dX4_wakesIf_111 : decode cX4_wakesIf 111 = .ok (.invokestatic 77, 3) := by decide +kernel
theorem dX4_wakesIf_114 : decode cX4_wakesIf 114 = .ok (.ireturn, 1) := by decide +kernel
theorem dX4_spell_0 : decode cX4_spell 0 = .ok (.aload_n 0, 1) := by decide +kernel
theorem dX4_spell_1 : decode cX4_spell 1 = .ok (.getfield 17, 3) := by decide +kernel
theorem dX4_spell_4 : decode cX4_spell 4 = .ok (.iconst 0, 1) := by decide +kernel
theorem dX4_spell_5 : decode cX4_spell 5 = .ok (.iload_n 1, 1) := by decide +kernel
theorem dX4_spell_6 : decode cX4_spell 6 = .ok (.iastore, 1) := by decide +kernel
theorem dX4_spell_7 : decode cX4_spell 7 = .ok (.aload_n 0, 1) := by decide +kernel
theorem dX4_spell_8 : decode cX4_spell 8 = .ok (.getfield 17, 3) := by decide +kernel
theorem dX4_spell_11 : decode cX4_spell 11 = .ok (.iconst 1, 1) := by decide +kernel
theorem dX4_spell_12 : decode cX4_spell 12 = .ok (.iload_n 2, 1) := by decide +kernel
theorem dX4_spell_13 : decode cX4_spell 13 = .ok (.iastore, 1) := by decide +kernel
theorem dX4_spell_14 : decode cX4_spell 14 = .ok (.aload_n 0, 1) := by decide +kernel
theorem dX4_spell_15 : decode cX4_spell 15 = .ok (.getfield 17, 3) := by decide +kernel
theorem dX4_spell_18 : decode cX4_spell 18 = .ok (.iconst 2, 1) := by decide +kernel
theorem dX4_spell_19 : decode cX4_spell 19 = .ok (.iload_n 3, 1) := by decide +kernel
theorem dX4_spell_20 : decode cX4_spell 20 = .ok (.iastore, 1) := by decide +kernel
theorem dX4_spell_21 : decode cX4_spell 21 = .ok (.aload_n 0, 1) := by decide +kernel
theorem dX4_spell_22 : decode cX4_spell 22 = .ok (.getfield 17, 3) := by decide +kernel
theorem dX4_spell_25 : decode cX4_spell 25 = .ok (.iconst 3, 1) := by decide +kernel
theorem dX4_spell_26 : decode cX4_spell 26 = .ok (.iload 4, 2) := by decide +kernel
theorem dX4_spell_28 : decode cX4_spell 28 = .ok (.iastore, 1) := by decide +kernel
theorem dX4_spell_29 : decode cX4_spell 29 = .ok (.aload_n 0, 1) := by decide +kernel
theorem dX4_spell_30 : decode cX4_spell 30 = .ok (.getfield 17, 3) := by decide +kernel
theorem dX4_spell_33 : decode cX4_spell 33 = .ok (.iconst 4, 1) := by decide +kernel
theorem dX4_spell_34 : decode cX4_spell 34 = .ok (.iload 5, 2) := by decide +kernel
theorem dX4_spell_36 : decode cX4_spell 36 = .ok (.iastore, 1) := by decide +kernel
theorem dX4_spell_37 : decode cX4_spell 37 = .ok (.aload_n 0, 1) := by decide +kernel
theorem dX4_spell_38 : decode cX4_spell 38 = .ok (.getfield 17, 3) := by decide +kernel
theorem dX4_spell_41 : decode cX4_spell 41 = .ok (.iconst 5, 1) := by decide +kernel
theorem dX4_spell_42 : decode cX4_spell 42 = .ok (.iload 6, 2) := by decide +kernel
theorem dX4_spell_44 : decode cX4_spell 44 = .ok (.iastore, 1) := by decide +kernel
theorem dX4_spell_45 : decode cX4_spell 45 = .ok (.return_, 1) := by decide +kernel
theorem dX4_pointsBy_0 : decode cX4_pointsBy 0 = .ok (.aload_n 0, 1) := by decide +kernel
theorem dX4_pointsBy_1 : decode cX4_pointsBy 1 = .ok (.iload_n 1, 1) := by decide +kernel
theorem dX4_pointsBy_2 : decode cX4_pointsBy 2 = .ok (.invokevirtual 37, 3) := by decide +kernel
theorem dX4_pointsBy_5 : decode cX4_pointsBy 5 = .ok (.ifCond .ne 14, 3) := by decide +kernel
theorem dX4_pointsBy_8 : decode cX4_pointsBy 8 = .ok (.iload 4, 2) := by decide +kernel
theorem dX4_pointsBy_10 : decode cX4_pointsBy 10 = .ok (.ifCond .ne 7, 3) := by decide +kernel
theorem dX4_pointsBy_13 : decode cX4_pointsBy 13 = .ok (.iconst 1, 1) := by decide +kernel
theorem dX4_pointsBy_14 : decode cX4_pointsBy 14 = .ok (.goto 4, 3) := by decide +kernel
theorem dX4_pointsBy_17 : decode cX4_pointsBy 17 = .ok (.iconst (-1), 1) := by decide +kernel
theorem dX4_pointsBy_18 : decode cX4_pointsBy 18 = .ok (.ireturn, 1) := by decide +kernel
theorem dX4_pointsBy_19 : decode cX4_pointsBy 19 = .ok (.aload_n 0, 1) := by decide +kernel
theorem dX4_pointsBy_20 : decode cX4_pointsBy 20 = .ok (.aload_n 0, 1) := by decide +kernel
theorem dX4_pointsBy_21 : decode cX4_pointsBy 21 = .ok (.getfield 29, 3) := by decide +kernel
theorem dX4_pointsBy_24 : decode cX4_pointsBy 24 = .ok (.iload_n 2, 1) := by decide +kernel
theorem dX4_pointsBy_25 : decode cX4_pointsBy 25 = .ok (.iconst 0, 1) := by decide +kernel
theorem dX4_pointsBy_26 : decode cX4_pointsBy 26 = .ok (.invokevirtual 47, 3) := by decide +kernel
theorem dX4_pointsBy_29 : decode cX4_pointsBy 29 = .ok (.aload_n 0, 1) := by decide +kernel
theorem dX4_pointsBy_30 : decode cX4_pointsBy 30 = .ok (.getfield 25, 3) := by decide +kernel
theorem dX4_pointsBy_33 : decode cX4_pointsBy 33 = .ok (.iload_n 2, 1) := by decide +kernel
theorem dX4_pointsBy_34 : decode cX4_pointsBy 34 = .ok (.iconst 1, 1) := by decide +kernel
theorem dX4_pointsBy_35 : decode cX4_pointsBy 35 = .ok (.invokevirtual 57, 3) := by decide +kernel
theorem dX4_pointsBy_38 : decode cX4_pointsBy 38 = .ok (.aload_n 0, 1) := by decide +kernel
theorem dX4_pointsBy_39 : decode cX4_pointsBy 39 = .ok (.getfield 29, 3) := by decide +kernel
theorem dX4_pointsBy_42 : decode cX4_pointsBy 42 = .ok (.iload_n 2, 1) := by decide +kernel
theorem dX4_pointsBy_43 : decode cX4_pointsBy 43 = .ok (.iconst 1, 1) := by decide +kernel
theorem dX4_pointsBy_44 : decode cX4_pointsBy 44 = .ok (.invokevirtual 47, 3) := by decide +kernel
theorem dX4_pointsBy_47 : decode cX4_pointsBy 47 = .ok (.iload 5, 2) := by decide +kernel
theorem dX4_pointsBy_49 : decode cX4_pointsBy 49 = .ok (.iload_n 3, 1) := by decide +kernel
theorem dX4_pointsBy_50 : decode cX4_pointsBy 50 = .ok (.iload 4, 2) := by decide +kernel
theorem dX4_pointsBy_52 : decode cX4_pointsBy 52 = .ok (.invokevirtual 60, 3) := by decide +kernel
theorem dX4_pointsBy_55 : decode cX4_pointsBy 55 = .ok (.aload_n 0, 1) := by decide +kernel
theorem dX4_pointsBy_56 : decode cX4_pointsBy 56 = .ok (.getfield 11, 3) := by decide +kernel
theorem dX4_pointsBy_59 : decode cX4_pointsBy 59 = .ok (.iload_n 1, 1) := by decide +kernel
theorem dX4_pointsBy_60 : decode cX4_pointsBy 60 = .ok (.aaload, 1) := by decide +kernel
theorem dX4_pointsBy_61 : decode cX4_pointsBy 61 = .ok (.bipush 118, 2) := by decide +kernel
theorem dX4_pointsBy_63 : decode cX4_pointsBy 63 = .ok (.aload_n 0, 1) := by decide +kernel
theorem dX4_pointsBy_64 : decode cX4_pointsBy 64 = .ok (.getfield 17, 3) := by decide +kernel
theorem dX4_pointsBy_67 : decode cX4_pointsBy 67 = .ok (.invokevirtual 64, 3) := by decide +kernel
theorem dX4_pointsBy_70 : decode cX4_pointsBy 70 = .ok (.istore 6, 2) := by decide +kernel
theorem dX4_pointsBy_72 : decode cX4_pointsBy 72 = .ok (.bipush (-9), 2) := by decide +kernel
theorem dX4_pointsBy_74 : decode cX4_pointsBy 74 = .ok (.iload 6, 2) := by decide +kernel
theorem dX4_pointsBy_76 : decode cX4_pointsBy 76 = .ok (.bipush 9, 2) := by decide +kernel
theorem dX4_pointsBy_78 : decode cX4_pointsBy 78 = .ok (.invokestatic 72, 3) := by decide +kernel
theorem dX4_pointsBy_81 : decode cX4_pointsBy 81 = .ok (.invokestatic 77, 3) := by decide +kernel
theorem dX4_pointsBy_84 : decode cX4_pointsBy 84 = .ok (.ireturn, 1) := by decide +kernel
theorem dX4_pointsNow_0 : decode cX4_pointsNow 0 = .ok (.aload_n 0, 1) := by decide +kernel
theorem dX4_pointsNow_1 : decode cX4_pointsNow 1 = .ok (.aload_n 0, 1) := by decide +kernel
theorem dX4_pointsNow_2 : decode cX4_pointsNow 2 = .ok (.getfield 21, 3) := by decide +kernel
theorem dX4_pointsNow_5 : decode cX4_pointsNow 5 = .ok (.iload_n 1, 1) := by decide +kernel
theorem dX4_pointsNow_6 : decode cX4_pointsNow 6 = .ok (.iload_n 2, 1) := by decide +kernel
theorem dX4_pointsNow_7 : decode cX4_pointsNow 7 = .ok (.iload_n 3, 1) := by decide +kernel
theorem dX4_pointsNow_8 : decode cX4_pointsNow 8 = .ok (.aload_n 0, 1) := by decide +kernel
theorem dX4_pointsNow_9 : decode cX4_pointsNow 9 = .ok (.getfield 29, 3) := by decide +kernel
theorem dX4_pointsNow_12 : decode cX4_pointsNow 12 = .ok (.iload_n 1, 1) := by decide +kernel
theorem dX4_pointsNow_13 : decode cX4_pointsNow 13 = .ok (.iconst 2, 1) := by decide +kernel
theorem dX4_pointsNow_14 : decode cX4_pointsNow 14 = .ok (.invokevirtual 47, 3) := by decide +kernel
theorem dX4_pointsNow_17 : decode cX4_pointsNow 17 = .ok (.invokevirtual 80, 3) := by decide +kernel
theorem dX4_pointsNow_20 : decode cX4_pointsNow 20 = .ok (.ireturn, 1) := by decide +kernel
theorem dX4_caseOf_0 : decode cX4_caseOf 0 = .ok (.iconst 0, 1) := by decide +kernel
theorem dX4_caseOf_1 : decode cX4_caseOf 1 = .ok (.istore_n 3, 1) := by decide +kernel
theorem dX4_caseOf_2 : decode cX4_caseOf 2 = .ok (.iconst 0, 1) := by decide +kernel
theorem dX4_caseOf_3 : decode cX4_caseOf 3 = .ok (.istore 4, 2) := by decide +kernel
theorem dX4_caseOf_5 : decode cX4_caseOf 5 = .ok (.iload 4, 2) := by decide +kernel
theorem dX4_caseOf_7 : decode cX4_caseOf 7 = .ok (.aload_n 0, 1) := by decide +kernel
theorem dX4_caseOf_8 : decode cX4_caseOf 8 = .ok (.getfield 29, 3) := by decide +kernel
theorem dX4_caseOf_11 : decode cX4_caseOf 11 = .ok (.invokevirtual 84, 3) := by decide +kernel
theorem dX4_caseOf_14 : decode cX4_caseOf 14 = .ok (.if_icmp .ge 53, 3) := by decide +kernel
theorem dX4_caseOf_17 : decode cX4_caseOf 17 = .ok (.aload_n 0, 1) := by decide +kernel
theorem dX4_caseOf_18 : decode cX4_caseOf 18 = .ok (.getfield 29, 3) := by decide +kernel
theorem dX4_caseOf_21 : decode cX4_caseOf 21 = .ok (.iload 4, 2) := by decide +kernel
theorem dX4_caseOf_23 : decode cX4_caseOf 23 = .ok (.invokevirtual 88, 3) := by decide +kernel
theorem dX4_caseOf_26 : decode cX4_caseOf 26 = .ok (.istore 5, 2) := by decide +kernel
theorem dX4_caseOf_28 : decode cX4_caseOf 28 = .ok (.iload 5, 2) := by decide +kernel
theorem dX4_caseOf_30 : decode cX4_caseOf 30 = .ok (.invokestatic 91, 3) := by decide +kernel
theorem dX4_caseOf_33 : decode cX4_caseOf 33 = .ok (.iload_n 1, 1) := by decide +kernel
theorem dX4_caseOf_34 : decode cX4_caseOf 34 = .ok (.if_icmp .ne 27, 3) := by decide +kernel
theorem dX4_caseOf_37 : decode cX4_caseOf 37 = .ok (.iload_n 3, 1) := by decide +kernel
theorem dX4_caseOf_38 : decode cX4_caseOf 38 = .ok (.aload_n 0, 1) := by decide +kernel
theorem dX4_caseOf_39 : decode cX4_caseOf 39 = .ok (.iload_n 2, 1) := by decide +kernel
theorem dX4_caseOf_40 : decode cX4_caseOf 40 = .ok (.iload_n 1, 1) := by decide +kernel
theorem dX4_caseOf_41 : decode cX4_caseOf 41 = .ok (.iload 5, 2) := by decide +kernel
theorem dX4_caseOf_43 : decode cX4_caseOf 43 = .ok (.invokestatic 94, 3) := by decide +kernel
theorem dX4_caseOf_46 : decode cX4_caseOf 46 = .ok (.iload 5, 2) := by decide +kernel
theorem dX4_caseOf_48 : decode cX4_caseOf 48 = .ok (.invokestatic 97, 3) := by decide +kernel
theorem dX4_caseOf_51 : decode cX4_caseOf 51 = .ok (.iload 5, 2) := by decide +kernel
theorem dX4_caseOf_53 : decode cX4_caseOf 53 = .ok (.invokestatic 100, 3) := by decide +kernel
theorem dX4_caseOf_56 : decode cX4_caseOf 56 = .ok (.invokevirtual 80, 3) := by decide +kernel
theorem dX4_caseOf_59 : decode cX4_caseOf 59 = .ok (.iadd, 1) := by decide +kernel
theorem dX4_caseOf_60 : decode cX4_caseOf 60 = .ok (.istore_n 3, 1) := by decide +kernel
theorem dX4_caseOf_61 : decode cX4_caseOf 61 = .ok (.iinc 4 1, 3) := by decide +kernel
theorem dX4_caseOf_64 : decode cX4_caseOf 64 = .ok (.goto (-59), 3) := by decide +kernel
theorem dX4_caseOf_67 : decode cX4_caseOf 67 = .ok (.iload_n 3, 1) := by decide +kernel
theorem dX4_caseOf_68 : decode cX4_caseOf 68 = .ok (.ireturn, 1) := by decide +kernel
theorem dX5_init_0 : decode cX5_init 0 = .ok (.aload_n 0, 1) := by decide +kernel
theorem dX5_init_1 : decode cX5_init 1 = .ok (.invokespecial 3, 3) := by decide +kernel
theorem dX5_init_4 : decode cX5_init 4 = .ok (.aload_n 0, 1) := by decide +kernel
theorem dX5_init_5 : decode cX5_init 5 = .ok (.bipush 8, 2) := by decide +kernel
theorem dX5_init_7 : decode cX5_init 7 = .ok (.newarray .int, 2) := by decide +kernel
theorem dX5_init_9 : decode cX5_init 9 = .ok (.putfield 9, 3) := by decide +kernel
theorem dX5_init_12 : decode cX5_init 12 = .ok (.aload_n 0, 1) := by decide +kernel
theorem dX5_init_13 : decode cX5_init 13 = .ok (.aload_n 1, 1) := by decide +kernel
theorem dX5_init_14 : decode cX5_init 14 = .ok (.putfield 15, 3) := by decide +kernel
theorem dX5_init_17 : decode cX5_init 17 = .ok (.aload_n 0, 1) := by decide +kernel
theorem dX5_init_18 : decode cX5_init 18 = .ok (.aload_n 2, 1) := by decide +kernel
theorem dX5_init_19 : decode cX5_init 19 = .ok (.putfield 19, 3) := by decide +kernel
theorem dX5_init_22 : decode cX5_init 22 = .ok (.aload_n 0, 1) := by decide +kernel
theorem dX5_init_23 : decode cX5_init 23 = .ok (.aload_n 3, 1) := by decide +kernel
theorem dX5_init_24 : decode cX5_init 24 = .ok (.putfield 23, 3) := by decide +kernel
theorem dX5_init_27 : decode cX5_init 27 = .ok (.aload_n 0, 1) := by decide +kernel
theorem dX5_init_28 : decode cX5_init 28 = .ok (.aload 4, 2) := by decide +kernel
theorem dX5_init_30 : decode cX5_init 30 = .ok (.putfield 27, 3) := by decide +kernel
theorem dX5_init_33 : decode cX5_init 33 = .ok (.return_, 1) := by decide +kernel
theorem dX5_sow_0 : decode cX5_sow 0 = .ok (.aload_n 0, 1) := by decide +kernel
theorem dX5_sow_1 : decode cX5_sow 1 = .ok (.lload_n 1, 1) := by decide +kernel
theorem dX5_sow_2 : decode cX5_sow 2 = .ok (.putfield 31, 3) := by decide +kernel
theorem dX5_sow_5 : decode cX5_sow 5 = .ok (.return_, 1) := by decide +kernel
theorem dX5_draw_0 : decode cX5_draw 0 = .ok (.aload_n 0, 1) := by decide +kernel
theorem dX5_draw_1 : decode cX5_draw 1 = .ok (.aload_n 0, 1) := by decide +kernel
theorem dX5_draw_2 : decode cX5_draw 2 = .ok (.getfield 31, 3) := by decide +kernel
theorem dX5_draw_5 : decode cX5_draw 5 = .ok (.ldc2_w 35, 3) := by decide +kernel
theorem dX5_draw_8 : decode cX5_draw 8 = .ok (.lmul, 1) := by decide +kernel
theorem dX5_draw_9 : decode cX5_draw 9 = .ok (.ldc2_w 37, 3) := by decide +kernel
theorem dX5_draw_12 : decode cX5_draw 12 = .ok (.ladd, 1) := by decide +kernel
theorem dX5_draw_13 : decode cX5_draw 13 = .ok (.putfield 31, 3) := by decide +kernel
theorem dX5_draw_16 : decode cX5_draw 16 = .ok (.iload_n 1, 1) := by decide +kernel
theorem dX5_draw_17 : decode cX5_draw 17 = .ok (.ifCond .le 17, 3) := by decide +kernel
theorem dX5_draw_20 : decode cX5_draw 20 = .ok (.aload_n 0, 1) := by decide +kernel
theorem dX5_draw_21 : decode cX5_draw 21 = .ok (.getfield 31, 3) := by decide +kernel
theorem dX5_draw_24 : decode cX5_draw 24 = .ok (.bipush 33, 2) := by decide +kernel
theorem dX5_draw_26 : decode cX5_draw 26 = .ok (.lushr, 1) := by decide +kernel
theorem dX5_draw_27 : decode cX5_draw 27 = .ok (.iload_n 1, 1) := by decide +kernel
theorem dX5_draw_28 : decode cX5_draw 28 = .ok (.i2l, 1) := by decide +kernel
theorem dX5_draw_29 : decode cX5_draw 29 = .ok (.lrem, 1) := by decide +kernel
theorem dX5_draw_30 : decode cX5_draw 30 = .ok (.l2i, 1) := by decide +kernel
theorem dX5_draw_31 : decode cX5_draw 31 = .ok (.goto 4, 3) := by decide +kernel
theorem dX5_draw_34 : decode cX5_draw 34 = .ok (.iconst 0, 1) := by decide +kernel
theorem dX5_draw_35 : decode cX5_draw 35 = .ok (.ireturn, 1) := by decide +kernel
theorem dX5_year_0 : decode cX5_year 0 = .ok (.aload_n 0, 1) := by decide +kernel
theorem dX5_year_1 : decode cX5_year 1 = .ok (.aload_n 0, 1) := by decide +kernel
theorem dX5_year_2 : decode cX5_year 2 = .ok (.getfield 15, 3) := by decide +kernel
theorem dX5_year_5 : decode cX5_year 5 = .ok (.invokevirtual 39, 3) := by decide +kernel
theorem dX5_year_8 : decode cX5_year 8 = .ok (.invokevirtual 45, 3) := by decide +kernel
theorem dX5_year_11 : decode cX5_year 11 = .ok (.istore_n 2, 1) := by decide +kernel
theorem dX5_year_12 : decode cX5_year 12 = .ok (.aload_n 0, 1) := by decide +kernel
theorem dX5_year_13 : decode cX5_year 13 = .ok (.getfield 19, 3) := by decide +kernel
theorem dX5_year_16 : decode cX5_year 16 = .ok (.iload_n 2, 1) := by decide +kernel
theorem dX5_year_17 : decode cX5_year 17 = .ok (.iconst 1, 1) := by decide +kernel
theorem dX5_year_18 : decode cX5_year 18 = .ok (.aload_n 0, 1) := by decide +kernel
theorem dX5_year_19 : decode cX5_year 19 = .ok (.bipush 10, 2) := by decide +kernel
theorem dX5_year_21 : decode cX5_year 21 = .ok (.invokevirtual 45, 3) := by decide +kernel
theorem dX5_year_24 : decode cX5_year 24 = .ok (.invokevirtual 51, 3) := by decide +kernel
theorem dX5_year_27 : decode cX5_year 27 = .ok (.aload_n 0, 1) := by decide +kernel
theorem dX5_year_28 : decode cX5_year 28 = .ok (.bipush 10, 2) := by decide +kernel
theorem dX5_year_30 : decode cX5_year 30 = .ok (.invokevirtual 45, 3) := by decide +kernel
theorem dX5_year_33 : decode cX5_year 33 = .ok (.iload_n 1, 1) := by decide +kernel
theorem dX5_year_34 : decode cX5_year 34 = .ok (.if_icmp .ge 40, 3) := by decide +kernel
theorem dX5_year_37 : decode cX5_year 37 = .ok (.aload_n 0, 1) := by decide +kernel
theorem dX5_year_38 : decode cX5_year 38 = .ok (.aload_n 0, 1) := by decide +kernel
theorem dX5_year_39 : decode cX5_year 39 = .ok (.getfield 15, 3) := by decide +kernel
theorem dX5_year_42 : decode cX5_year 42 = .ok (.invokevirtual 39, 3) := by decide +kernel
theorem dX5_year_45 : decode cX5_year 45 = .ok (.invokevirtual 45, 3) := by decide +kernel
theorem dX5_year_48 : decode cX5_year 48 = .ok (.istore_n 3, 1) := by decide +kernel
theorem dX5_year_49 : decode cX5_year 49 = .ok (.aload_n 0, 1) := by decide +kernel
theorem dX5_year_50 : decode cX5_year 50 = .ok (.getfield 19, 3) := by decide +kernel
theorem dX5_year_53 : decode cX5_year 53 = .ok (.iload_n 3, 1) := by decide +kernel
theorem dX5_year_54 : decode cX5_year 54 = .ok (.iconst 0, 1) := by decide +kernel
theorem dX5_year_55 : decode cX5_year 55 = .ok (.aload_n 0, 1) := by decide +kernel
theorem dX5_year_56 : decode cX5_year 56 = .ok (.getfield 19, 3) := by decide +kernel
theorem dX5_year_59 : decode cX5_year 59 = .ok (.iload_n 3, 1) := by decide +kernel
theorem dX5_year_60 : decode cX5_year 60 = .ok (.iconst 0, 1) := by decide +kernel
theorem dX5_year_61 : decode cX5_year 61 = .ok (.invokevirtual 55, 3) := by decide +kernel
theorem dX5_year_64 : decode cX5_year 64 = .ok (.iconst 3, 1) := by decide +kernel
theorem dX5_year_65 : decode cX5_year 65 = .ok (.iadd, 1) := by decide +kernel
theorem dX5_year_66 : decode cX5_year 66 = .ok (.bipush 9, 2) := by decide +kernel
theorem dX5_year_68 : decode cX5_year 68 = .ok (.invokestatic 59, 3) := by decide +kernel
theorem dX5_year_71 : decode cX5_year 71 = .ok (.invokevirtual 51, 3) := by decide +kernel
theorem dX5_year_74 : decode cX5_year 74 = .ok (.aload_n 0, 1) := by decide +kernel
theorem dX5_year_75 : decode cX5_year 75 = .ok (.invokevirtual 64, 3) := by decide +kernel
theorem dX5_year_78 : decode cX5_year 78 = .ok (.return_, 1) := by decide +kernel
theorem dX5_pass_0 : decode cX5_pass 0 = .ok (.iconst 0, 1) := by decide +kernel
theorem dX5_pass_1 : decode cX5_pass 1 = .ok (.istore_n 1, 1) := by decide +kernel
theorem dX5_pass_2 : decode cX5_pass 2 = .ok (.iload_n 1, 1) := by decide +kernel
theorem dX5_pass_3 : decode cX5_pass 3 = .ok (.bipush 8, 2) := by decide +kernel
theorem dX5_pass_5 : decode cX5_pass 5 = .ok (.if_icmp .ge 16, 3) := by decide +kernel
theorem dX5_pass_8 : decode cX5_pass 8 = .ok (.aload_n 0, 1) := by decide +kernel
theorem dX5_pass_9 : decode cX5_pass 9 = .ok (.getfield 9, 3) := by decide +kernel
theorem dX5_pass_12 : decode cX5_pass 12 = .ok (.iload_n 1, 1) := by decide +kernel
theorem dX5_pass_13 : decode cX5_pass 13 = .ok (.iconst 0, 1) := by decide +kernel
theorem dX5_pass_14 : decode cX5_pass 14 = .ok (.iastore, 1) := by decide +kernel
theorem dX5_pass_15 : decode cX5_pass 15 = .ok (.iinc 1 1, 3) := by decide +kernel
theorem dX5_pass_18 : decode cX5_pass 18 = .ok (.goto (-16), 3) := by decide +kernel
theorem dX5_pass_21 : decode cX5_pass 21 = .ok (.iconst 0, 1) := by decide +kernel
theorem dX5_pass_22 : decode cX5_pass 22 = .ok (.istore_n 1, 1) := by decide +kernel
theorem dX5_pass_23 : decode cX5_pass 23 = .ok (.iload_n 1, 1) := by decide +kernel
theorem dX5_pass_24 : decode cX5_pass 24 = .ok (.aload_n 0, 1) := by decide +kernel
theorem dX5_pass_25 : decode cX5_pass 25 = .ok (.getfield 15, 3) := by decide +kernel
theorem dX5_pass_28 : decode cX5_pass 28 = .ok (.invokevirtual 67, 3) := by decide +kernel
theorem dX5_pass_31 : decode cX5_pass 31 = .ok (.if_icmp .ge 124, 3) := by decide +kernel
theorem dX5_pass_34 : decode cX5_pass 34 = .ok (.iconst 0, 1) := by decide +kernel
theorem dX5_pass_35 : decode cX5_pass 35 = .ok (.istore_n 2, 1) := by decide +kernel
theorem dX5_pass_36 : decode cX5_pass 36 = .ok (.iload_n 2, 1) := by decide +kernel
theorem dX5_pass_37 : decode cX5_pass 37 = .ok (.aload_n 0, 1) := by decide +kernel
theorem dX5_pass_38 : decode cX5_pass 38 = .ok (.getfield 15, 3) := by decide +kernel
theorem dX5_pass_41 : decode cX5_pass 41 = .ok (.invokevirtual 39, 3) := by decide +kernel
theorem dX5_pass_44 : decode cX5_pass 44 = .ok (.if_icmp .ge 105, 3) := by decide +kernel
theorem dX5_pass_47 : decode cX5_pass 47 = .ok (.aload_n 0, 1) := by decide +kernel
theorem dX5_pass_48 : decode cX5_pass 48 = .ok (.bipush 10, 2) := by decide +kernel
theorem dX5_pass_50 : decode cX5_pass 50 = .ok (.invokevirtual 45, 3) := by decide +kernel
theorem dX5_pass_53 : decode cX5_pass 53 = .ok (.aload_n 0, 1) := by decide +kernel
theorem dX5_pass_54 : decode cX5_pass 54 = .ok (.getfield 23, 3) := by decide +kernel
theorem dX5_pass_57 : decode cX5_pass 57 = .ok (.iload_n 2, 1) := by decide +kernel
theorem dX5_pass_58 : decode cX5_pass 58 = .ok (.iload_n 1, 1) := by decide +kernel
theorem dX5_pass_59 : decode cX5_pass 59 = .ok (.invokevirtual 70, 3) := by decide +kernel
theorem dX5_pass_62 : decode cX5_pass 62 = .ok (.if_icmp .ge 7, 3) := by decide +kernel
theorem dX5_pass_65 : decode cX5_pass 65 = .ok (.iconst 1, 1) := by decide +kernel
theorem dX5_pass_66 : decode cX5_pass 66 = .ok (.goto 4, 3) := by decide +kernel
theorem dX5_pass_69 : decode cX5_pass 69 = .ok (.iconst 0, 1) := by decide +kernel
theorem dX5_pass_70 : decode cX5_pass 70 = .ok (.istore_n 3, 1) := by decide +kernel
theorem dX5_pass_71 : decode cX5_pass 71 = .ok (.aload_n 0, 1) := by decide +kernel
theorem dX5_pass_72 : decode cX5_pass 72 = .ok (.getfield 9, 3) := by decide +kernel
theorem dX5_pass_75 : decode cX5_pass 75 = .ok (.iload_n 2, 1) := by decide +kernel
theorem dX5_pass_76 : decode cX5_pass 76 = .ok (.dup2, 1) := by decide +kernel
theorem dX5_pass_77 : decode cX5_pass 77 = .ok (.iaload, 1) := by decide +kernel
theorem dX5_pass_78 : decode cX5_pass 78 = .ok (.iload_n 3, 1) := by decide +kernel
theorem dX5_pass_79 : decode cX5_pass 79 = .ok (.ifCond .eq 7, 3) := by decide +kernel
theorem dX5_pass_82 : decode cX5_pass 82 = .ok (.iconst 1, 1) := by decide +kernel
theorem dX5_pass_83 : decode cX5_pass 83 = .ok (.goto 4, 3) := by decide +kernel
theorem dX5_pass_86 : decode cX5_pass 86 = .ok (.iconst 0, 1) := by decide +kernel
theorem dX5_pass_87 : decode cX5_pass 87 = .ok (.iadd, 1) := by decide +kernel
theorem dX5_pass_88 : decode cX5_pass 88 = .ok (.iastore, 1) := by decide +kernel
theorem dX5_pass_89 : decode cX5_pass 89 = .ok (.aload_n 0, 1) := by decide +kernel
theorem dX5_pass_90 : decode cX5_pass 90 = .ok (.getfield 27, 3) := by decide +kernel
theorem dX5_pass_93 : decode cX5_pass 93 = .ok (.iload_n 1, 1) := by decide +kernel
theorem dX5_pass_94 : decode cX5_pass 94 = .ok (.invokevirtual 75, 3) := by decide +kernel
theorem dX5_pass_97 : decode cX5_pass 97 = .ok (.iload_n 2, 1) := by decide +kernel
theorem dX5_pass_98 : decode cX5_pass 98 = .ok (.if_icmp .ne 45, 3) := by decide +kernel
theorem dX5_pass_101 : decode cX5_pass 101 = .ok (.aload_n 0, 1) := by decide +kernel
theorem dX5_pass_102 : decode cX5_pass 102 = .ok (.getfield 19, 3) := by decide +kernel
theorem dX5_pass_105 : decode cX5_pass 105 = .ok (.iload_n 2, 1) := by decide +kernel
theorem dX5_pass_106 : decode cX5_pass 106 = .ok (.iconst 5, 1) := by decide +kernel
theorem dX5_pass_107 : decode cX5_pass 107 = .ok (.invokevirtual 55, 3) := by decide +kernel
theorem dX5_pass_110 : decode cX5_pass 110 = .ok (.ifCond .ne 33, 3) := by decide +kernel
theorem dX5_pass_113 : decode cX5_pass 113 = .ok (.aload_n 0, 1) := by decide +kernel
theorem dX5_pass_114 : decode cX5_pass 114 = .ok (.getfield 19, 3) := by decide +kernel
theorem dX5_pass_117 : decode cX5_pass 117 = .ok (.iload_n 1, 1) := by decide +kernel
theorem dX5_pass_118 : decode cX5_pass 118 = .ok (.iload_n 2, 1) := by decide +kernel
theorem dX5_pass_119 : decode cX5_pass 119 = .ok (.iload_n 3, 1) := by decide +kernel
theorem dX5_pass_120 : decode cX5_pass 120 = .ok (.ifCond .ne 15, 3) := by decide +kernel
theorem dX5_pass_123 : decode cX5_pass 123 = .ok (.aload_n 0, 1) := by decide +kernel
theorem dX5_pass_124 : decode cX5_pass 124 = .ok (.getfield 19, 3) := by decide +kernel
theorem dX5_pass_127 : decode cX5_pass 127 = .ok (.iload_n 2, 1) := by decide +kernel
theorem dX5_pass_128 : decode cX5_pass 128 = .ok (.iconst 4, 1) := by decide +kernel
theorem dX5_pass_129 : decode cX5_pass 129 = .ok (.invokevirtual 55, 3) := by decide +kernel
theorem dX5_pass_132 : decode cX5_pass 132 = .ok (.ifCond .eq 7, 3) := by decide +kernel
theorem dX5_pass_135 : decode cX5_pass 135 = .ok (.iconst 1, 1) := by decide +kernel
theorem dX5_pass_136 : decode cX5_pass 136 = .ok (.goto 4, 3) := by decide +kernel
theorem dX5_pass_139 : decode cX5_pass 139 = .ok (.iconst 0, 1) := by decide +kernel
theorem dX5_pass_140 : decode cX5_pass 140 = .ok (.invokevirtual 80, 3) := by decide +kernel
theorem dX5_pass_143 : decode cX5_pass 143 = .ok (.iinc 2 1, 3) := by decide +kernel
theorem dX5_pass_146 : decode cX5_pass 146 = .ok (.goto (-110), 3) := by decide +kernel
theorem dX5_pass_149 : decode cX5_pass 149 = .ok (.iinc 1 1, 3) := by decide +kernel
theorem dX5_pass_152 : decode cX5_pass 152 = .ok (.goto (-129), 3) := by decide +kernel
theorem dX5_pass_155 : decode cX5_pass 155 = .ok (.iconst 0, 1) := by decide +kernel
theorem dX5_pass_156 : decode cX5_pass 156 = .ok (.istore_n 1, 1) := by decide +kernel
theorem dX5_pass_157 : decode cX5_pass 157 = .ok (.iload_n 1, 1) := by decide +kernel
theorem dX5_pass_158 : decode cX5_pass 158 = .ok (.aload_n 0, 1) := by decide +kernel
theorem dX5_pass_159 : decode cX5_pass 159 = .ok (.getfield 15, 3) := by decide +kernel
theorem dX5_pass_162 : decode cX5_pass 162 = .ok (.invokevirtual 39, 3) := by decide +kernel
theorem dX5_pass_165 : decode cX5_pass 165 = .ok (.if_icmp .ge 49, 3) := by decide +kernel
theorem dX5_pass_168 : decode cX5_pass 168 = .ok (.aload_n 0, 1) := by decide +kernel
theorem dX5_pass_169 : decode cX5_pass 169 = .ok (.getfield 19, 3) := by decide +kernel
theorem dX5_pass_172 : decode cX5_pass 172 = .ok (.iload_n 1, 1) := by decide +kernel
theorem dX5_pass_173 : decode cX5_pass 173 = .ok (.iconst 2, 1) := by decide +kernel
theorem dX5_pass_174 : decode cX5_pass 174 = .ok (.aload_n 0, 1) := by decide +kernel
theorem dX5_pass_175 : decode cX5_pass 175 = .ok (.getfield 9, 3) := by decide +kernel
theorem dX5_pass_178 : decode cX5_pass 178 = .ok (.iload_n 1, 1) := by decide +kernel
theorem dX5_pass_179 : decode cX5_pass 179 = .ok (.iaload, 1) := by decide +kernel
theorem dX5_pass_180 : decode cX5_pass 180 = .ok (.bipush 9, 2) := by decide +kernel
theorem dX5_pass_182 : decode cX5_pass 182 = .ok (.invokestatic 59, 3) := by decide +kernel
theorem dX5_pass_185 : decode cX5_pass 185 = .ok (.invokevirtual 51, 3) := by decide +kernel
theorem dX5_pass_188 : decode cX5_pass 188 = .ok (.aload_n 0, 1) := by decide +kernel
theorem dX5_pass_189 : decode cX5_pass 189 = .ok (.getfield 19, 3) := by decide +kernel
theorem dX5_pass_192 : decode cX5_pass 192 = .ok (.iload_n 1, 1) := by decide +kernel
theorem dX5_pass_193 : decode cX5_pass 193 = .ok (.iconst 3, 1) := by decide +kernel
theorem dX5_pass_194 : decode cX5_pass 194 = .ok (.iconst 0, 1) := by decide +kernel
theorem dX5_pass_195 : decode cX5_pass 195 = .ok (.invokevirtual 51, 3) := by decide +kernel
theorem dX5_pass_198 : decode cX5_pass 198 = .ok (.aload_n 0, 1) := by decide +kernel
theorem dX5_pass_199 : decode cX5_pass 199 = .ok (.getfield 19, 3) := by decide +kernel
theorem dX5_pass_202 : decode cX5_pass 202 = .ok (.iload_n 1, 1) := by decide +kernel
theorem dX5_pass_203 : decode cX5_pass 203 = .ok (.iconst 4, 1) := by decide +kernel
theorem dX5_pass_204 : decode cX5_pass 204 = .ok (.iconst 0, 1) := by decide +kernel
theorem dX5_pass_205 : decode cX5_pass 205 = .ok (.invokevirtual 51, 3) := by decide +kernel
theorem dX5_pass_208 : decode cX5_pass 208 = .ok (.iinc 1 1, 3) := by decide +kernel
theorem dX5_pass_211 : decode cX5_pass 211 = .ok (.goto (-54), 3) := by decide +kernel
theorem dX5_pass_214 : decode cX5_pass 214 = .ok (.aload_n 0, 1) := by decide +kernel
theorem dX5_pass_215 : decode cX5_pass 215 = .ok (.getfield 19, 3) := by decide +kernel
theorem dX5_pass_218 : decode cX5_pass 218 = .ok (.invokevirtual 84, 3) := by decide +kernel
theorem dX5_pass_221 : decode cX5_pass 221 = .ok (.return_, 1) := by decide +kernel
theorem dX6_init_0 : decode cX6_init 0 = .ok (.aload_n 0, 1) := by decide +kernel
theorem dX6_init_1 : decode cX6_init 1 = .ok (.invokespecial 5, 3) := by decide +kernel
theorem dX6_init_4 : decode cX6_init 4 = .ok (.aload_n 0, 1) := by decide +kernel
theorem dX6_init_5 : decode cX6_init 5 = .ok (.sipush 173, 3) := by decide +kernel
theorem dX6_init_8 : decode cX6_init 8 = .ok (.newarray .int, 2) := by decide +kernel
theorem dX6_init_10 : decode cX6_init 10 = .ok (.putfield 11, 3) := by decide +kernel
theorem dX6_init_13 : decode cX6_init 13 = .ok (.return_, 1) := by decide +kernel
theorem dX6_copyFrom_0 : decode cX6_copyFrom 0 = .ok (.aload_n 1, 1) := by decide +kernel
theorem dX6_copyFrom_1 : decode cX6_copyFrom 1 = .ok (.getfield 11, 3) := by decide +kernel
theorem dX6_copyFrom_4 : decode cX6_copyFrom 4 = .ok (.iconst 0, 1) := by decide +kernel
theorem dX6_copyFrom_5 : decode cX6_copyFrom 5 = .ok (.aload_n 0, 1) := by decide +kernel
theorem dX6_copyFrom_6 : decode cX6_copyFrom 6 = .ok (.getfield 11, 3) := by decide +kernel
theorem dX6_copyFrom_9 : decode cX6_copyFrom 9 = .ok (.iconst 0, 1) := by decide +kernel
theorem dX6_copyFrom_10 : decode cX6_copyFrom 10 = .ok (.sipush 173, 3) := by decide +kernel
theorem dX6_copyFrom_13 : decode cX6_copyFrom 13 = .ok (.invokestatic 15, 3) := by decide +kernel
theorem dX6_copyFrom_16 : decode cX6_copyFrom 16 = .ok (.return_, 1) := by decide +kernel
theorem dX6_begin_0 : decode cX6_begin 0 = .ok (.iconst 0, 1) := by decide +kernel
theorem dX6_begin_1 : decode cX6_begin 1 = .ok (.istore_n 2, 1) := by decide +kernel
theorem dX6_begin_2 : decode cX6_begin 2 = .ok (.iload_n 2, 1) := by decide +kernel
theorem dX6_begin_3 : decode cX6_begin 3 = .ok (.sipush 173, 3) := by decide +kernel
theorem dX6_begin_6 : decode cX6_begin 6 = .ok (.if_icmp .ge 16, 3) := by decide +kernel
theorem dX6_begin_9 : decode cX6_begin 9 = .ok (.aload_n 0, 1) := by decide +kernel
theorem dX6_begin_10 : decode cX6_begin 10 = .ok (.getfield 11, 3) := by decide +kernel
theorem dX6_begin_13 : decode cX6_begin 13 = .ok (.iload_n 2, 1) := by decide +kernel
theorem dX6_begin_14 : decode cX6_begin 14 = .ok (.iconst 0, 1) := by decide +kernel
theorem dX6_begin_15 : decode cX6_begin 15 = .ok (.iastore, 1) := by decide +kernel
theorem dX6_begin_16 : decode cX6_begin 16 = .ok (.iinc 2 1, 3) := by decide +kernel
theorem dX6_begin_19 : decode cX6_begin 19 = .ok (.goto (-17), 3) := by decide +kernel
theorem dX6_begin_22 : decode cX6_begin 22 = .ok (.iconst 0, 1) := by decide +kernel
theorem dX6_begin_23 : decode cX6_begin 23 = .ok (.istore_n 2, 1) := by decide +kernel
theorem dX6_begin_24 : decode cX6_begin 24 = .ok (.iload_n 2, 1) := by decide +kernel
theorem dX6_begin_25 : decode cX6_begin 25 = .ok (.aload_n 1, 1) := by decide +kernel
theorem dX6_begin_26 : decode cX6_begin 26 = .ok (.invokevirtual 21, 3) := by decide +kernel
theorem dX6_begin_29 : decode cX6_begin 29 = .ok (.if_icmp .ge 45, 3) := by decide +kernel
theorem dX6_begin_32 : decode cX6_begin 32 = .ok (.aload_n 0, 1) := by decide +kernel
theorem dX6_begin_33 : decode cX6_begin 33 = .ok (.iload_n 2, 1) := by decide +kernel
theorem dX6_begin_34 : decode cX6_begin 34 = .ok (.iconst 0, 1) := by decide +kernel
theorem dX6_begin_35 : decode cX6_begin 35 = .ok (.aload_n 1, 1) := by decide +kernel
theorem dX6_begin_36 : decode cX6_begin 36 = .ok (.iload_n 2, 1) := by decide +kernel
theorem dX6_begin_37 : decode cX6_begin 37 = .ok (.iconst 0, 1) := by decide +kernel
theorem dX6_begin_38 : decode cX6_begin 38 = .ok (.invokevirtual 27, 3) := by decide +kernel
theorem dX6_begin_41 : decode cX6_begin 41 = .ok (.invokevirtual 31, 3) := by decide +kernel
theorem dX6_begin_44 : decode cX6_begin 44 = .ok (.aload_n 0, 1) := by decide +kernel
theorem dX6_begin_45 : decode cX6_begin 45 = .ok (.iload_n 2, 1) := by decide +kernel
theorem dX6_begin_46 : decode cX6_begin 46 = .ok (.iconst 1, 1) := by decide +kernel
theorem dX6_begin_47 : decode cX6_begin 47 = .ok (.aload_n 1, 1) := by decide +kernel
theorem dX6_begin_48 : decode cX6_begin 48 = .ok (.iload_n 2, 1) := by decide +kernel
theorem dX6_begin_49 : decode cX6_begin 49 = .ok (.iconst 2, 1) := by decide +kernel
theorem dX6_begin_50 : decode cX6_begin 50 = .ok (.invokevirtual 27, 3) := by decide +kernel
theorem dX6_begin_53 : decode cX6_begin 53 = .ok (.invokevirtual 31, 3) := by decide +kernel
theorem dX6_begin_56 : decode cX6_begin 56 = .ok (.aload_n 0, 1) := by decide +kernel
theorem dX6_begin_57 : decode cX6_begin 57 = .ok (.iload_n 2, 1) := by decide +kernel
theorem dX6_begin_58 : decode cX6_begin 58 = .ok (.iconst 2, 1) := by decide +kernel
theorem dX6_begin_59 : decode cX6_begin 59 = .ok (.aload_n 1, 1) := by decide +kernel
theorem dX6_begin_60 : decode cX6_begin 60 = .ok (.iload_n 2, 1) := by decide +kernel
theorem dX6_begin_61 : decode cX6_begin 61 = .ok (.iconst 3, 1) := by decide +kernel
theorem dX6_begin_62 : decode cX6_begin 62 = .ok (.invokevirtual 27, 3) := by decide +kernel
theorem dX6_begin_65 : decode cX6_begin 65 = .ok (.invokevirtual 31, 3) := by decide +kernel
theorem dX6_begin_68 : decode cX6_begin 68 = .ok (.iinc 2 1, 3) := by decide +kernel
theorem dX6_begin_71 : decode cX6_begin 71 = .ok (.goto (-47), 3) := by decide +kernel
theorem dX6_begin_74 : decode cX6_begin 74 = .ok (.return_, 1) := by decide +kernel
theorem dX6_of_0 : decode cX6_of 0 = .ok (.aload_n 0, 1) := by decide +kernel
theorem dX6_of_1 : decode cX6_of 1 = .ok (.getfield 11, 3) := by decide +kernel
theorem dX6_of_4 : decode cX6_of 4 = .ok (.iload_n 1, 1) := by decide +kernel
theorem dX6_of_5 : decode cX6_of 5 = .ok (.bipush 6, 2) := by decide +kernel
theorem dX6_of_7 : decode cX6_of 7 = .ok (.imul, 1) := by decide +kernel
theorem dX6_of_8 : decode cX6_of 8 = .ok (.iload_n 2, 1) := by decide +kernel
theorem dX6_of_9 : decode cX6_of 9 = .ok (.iadd, 1) := by decide +kernel
theorem dX6_of_10 : decode cX6_of 10 = .ok (.iaload, 1) := by decide +kernel
theorem dX6_of_11 : decode cX6_of 11 = .ok (.ireturn, 1) := by decide +kernel
theorem dX6_set_0 : decode cX6_set 0 = .ok (.aload_n 0, 1) := by decide +kernel
theorem dX6_set_1 : decode cX6_set 1 = .ok (.getfield 11, 3) := by decide +kernel
theorem dX6_set_4 : decode cX6_set 4 = .ok (.iload_n 1, 1) := by decide +kernel
theorem dX6_set_5 : decode cX6_set 5 = .ok (.bipush 6, 2) := by decide +kernel
theorem dX6_set_7 : decode cX6_set 7 = .ok (.imul, 1) := by decide +kernel
theorem dX6_set_8 : decode cX6_set 8 = .ok (.iload_n 2, 1) := by decide +kernel
theorem dX6_set_9 : decode cX6_set 9 = .ok (.iadd, 1) := by decide +kernel
theorem dX6_set_10 : decode cX6_set 10 = .ok (.iload_n 3, 1) := by decide +kernel
theorem dX6_set_11 : decode cX6_set 11 = .ok (.iastore, 1) := by decide +kernel
theorem dX6_set_12 : decode cX6_set 12 = .ok (.return_, 1) := by decide +kernel
theorem dX6_now_0 : decode cX6_now 0 = .ok (.aload_n 0, 1) := by decide +kernel
theorem dX6_now_1 : decode cX6_now 1 = .ok (.getfield 11, 3) := by decide +kernel
theorem dX6_now_4 : decode cX6_now 4 = .ok (.bipush 48, 2) := by decide +kernel
theorem dX6_now_6 : decode cX6_now 6 = .ok (.iaload, 1) := by decide +kernel
theorem dX6_now_7 : decode cX6_now 7 = .ok (.ireturn, 1) := by decide +kernel
theorem dX6_rights_0 : decode cX6_rights 0 = .ok (.aload_n 0, 1) := by decide +kernel
theorem dX6_rights_1 : decode cX6_rights 1 = .ok (.getfield 11, 3) := by decide +kernel
theorem dX6_rights_4 : decode cX6_rights 4 = .ok (.bipush 49, 2) := by decide +kernel
theorem dX6_rights_6 : decode cX6_rights 6 = .ok (.iaload, 1) := by decide +kernel
theorem dX6_rights_7 : decode cX6_rights 7 = .ok (.ireturn, 1) := by decide +kernel
theorem dX6_wrongs_0 : decode cX6_wrongs 0 = .ok (.aload_n 0, 1) := by decide +kernel
theorem dX6_wrongs_1 : decode cX6_wrongs 1 = .ok (.getfield 11, 3) := by decide +kernel
theorem dX6_wrongs_4 : decode cX6_wrongs 4 = .ok (.bipush 50, 2) := by decide +kernel
theorem dX6_wrongs_6 : decode cX6_wrongs 6 = .ok (.iaload, 1) := by decide +kernel
theorem dX6_wrongs_7 : decode cX6_wrongs 7 = .ok (.ireturn, 1) := by decide +kernel
theorem dX6_books_0 : decode cX6_books 0 = .ok (.aload_n 0, 1) := by decide +kernel
theorem dX6_books_1 : decode cX6_books 1 = .ok (.getfield 11, 3) := by decide +kernel
theorem dX6_books_4 : decode cX6_books 4 = .ok (.bipush 51, 2) := by decide +kernel
theorem dX6_books_6 : decode cX6_books 6 = .ok (.iaload, 1) := by decide +kernel
theorem dX6_books_7 : decode cX6_books 7 = .ok (.ireturn, 1) := by decide +kernel
theorem dX6_logs_0 : decode cX6_logs 0 = .ok (.aload_n 0, 1) := by decide +kernel
theorem dX6_logs_1 : decode cX6_logs 1 = .ok (.getfield 11, 3) := by decide +kernel
theorem dX6_logs_4 : decode cX6_logs 4 = .ok (.bipush 52, 2) := by decide +kernel
theorem dX6_logs_6 : decode cX6_logs 6 = .ok (.iaload, 1) := by decide +kernel
theorem dX6_logs_7 : decode cX6_logs 7 = .ok (.ireturn, 1) := by decide +kernel
theorem dX6_nextNight_0 : decode cX6_nextNight 0 = .ok (.aload_n 0, 1) := by decide +kernel
theorem dX6_nextNight_1 : decode cX6_nextNight 1 = .ok (.getfield 11, 3) := by decide +kernel
theorem dX6_nextNight_4 : decode cX6_nextNight 4 = .ok (.bipush 48, 2) := by decide +kernel
theorem dX6_nextNight_6 : decode cX6_nextNight 6 = .ok (.dup2, 1) := by decide +kernel
theorem dX6_nextNight_7 : decode cX6_nextNight 7 = .ok (.iaload, 1) := by decide +kernel
theorem dX6_nextNight_8 : decode cX6_nextNight 8 = .ok (.iconst 1, 1) := by decide +kernel
theorem dX6_nextNight_9 : decode cX6_nextNight 9 = .ok (.iadd, 1) := by decide +kernel
theorem dX6_nextNight_10 : decode cX6_nextNight 10 = .ok (.iastore, 1) := by decide +kernel
theorem dX6_nextNight_11 : decode cX6_nextNight 11 = .ok (.return_, 1) := by decide +kernel
theorem dX6_decide_0 : decode cX6_decide 0 = .ok (.aload_n 0, 1) := by decide +kernel
theorem dX6_decide_1 : decode cX6_decide 1 = .ok (.iload_n 1, 1) := by decide +kernel
theorem dX6_decide_2 : decode cX6_decide 2 = .ok (.iconst 5, 1) := by decide +kernel
theorem dX6_decide_3 : decode cX6_decide 3 = .ok (.iload_n 2, 1) := by decide +kernel
theorem dX6_decide_4 : decode cX6_decide 4 = .ok (.ifCond .eq 7, 3) := by decide +kernel
theorem dX6_decide_7 : decode cX6_decide 7 = .ok (.iconst 1, 1) := by decide +kernel
theorem dX6_decide_8 : decode cX6_decide 8 = .ok (.goto 4, 3) := by decide +kernel
theorem dX6_decide_11 : decode cX6_decide 11 = .ok (.iconst 0, 1) := by decide +kernel
theorem dX6_decide_12 : decode cX6_decide 12 = .ok (.invokevirtual 31, 3) := by decide +kernel
theorem dX6_decide_15 : decode cX6_decide 15 = .ok (.aload_n 0, 1) := by decide +kernel
theorem dX6_decide_16 : decode cX6_decide 16 = .ok (.getfield 11, 3) := by decide +kernel
theorem dX6_decide_19 : decode cX6_decide 19 = .ok (.iload_n 3, 1) := by decide +kernel
theorem dX6_decide_20 : decode cX6_decide 20 = .ok (.ifCond .eq 8, 3) := by decide +kernel
theorem dX6_decide_23 : decode cX6_decide 23 = .ok (.bipush 49, 2) := by decide +kernel
theorem dX6_decide_25 : decode cX6_decide 25 = .ok (.goto 5, 3) := by decide +kernel
theorem dX6_decide_28 : decode cX6_decide 28 = .ok (.bipush 50, 2) := by decide +kernel
theorem dX6_decide_30 : decode cX6_decide 30 = .ok (.dup2, 1) := by decide +kernel
theorem dX6_decide_31 : decode cX6_decide 31 = .ok (.iaload, 1) := by decide +kernel
theorem dX6_decide_32 : decode cX6_decide 32 = .ok (.iconst 1, 1) := by decide +kernel
theorem dX6_decide_33 : decode cX6_decide 33 = .ok (.iadd, 1) := by decide +kernel
theorem dX6_decide_34 : decode cX6_decide 34 = .ok (.iastore, 1) := by decide +kernel
theorem dX6_decide_35 : decode cX6_decide 35 = .ok (.return_, 1) := by decide +kernel
theorem dX6_append_0 : decode cX6_append 0 = .ok (.aload_n 0, 1) := by decide +kernel
theorem dX6_append_1 : decode cX6_append 1 = .ok (.getfield 11, 3) := by decide +kernel
theorem dX6_append_4 : decode cX6_append 4 = .ok (.iload_n 2, 1) := by decide +kernel
theorem dX6_append_5 : decode cX6_append 5 = .ok (.iaload, 1) := by decide +kernel
theorem dX6_append_6 : decode cX6_append 6 = .ok (.bipush 60, 2) := by decide +kernel
theorem dX6_append_8 : decode cX6_append 8 = .ok (.if_icmp .lt 28, 3) := by decide +kernel
theorem dX6_append_11 : decode cX6_append 11 = .ok (.aload_n 0, 1) := by decide +kernel
theorem dX6_append_12 : decode cX6_append 12 = .ok (.getfield 11, 3) := by decide +kernel
theorem dX6_append_15 : decode cX6_append 15 = .ok (.iload_n 1, 1) := by decide +kernel
theorem dX6_append_16 : decode cX6_append 16 = .ok (.iconst 1, 1) := by decide +kernel
theorem dX6_append_17 : decode cX6_append 17 = .ok (.iadd, 1) := by decide +kernel
theorem dX6_append_18 : decode cX6_append 18 = .ok (.aload_n 0, 1) := by decide +kernel
theorem dX6_append_19 : decode cX6_append 19 = .ok (.getfield 11, 3) := by decide +kernel
theorem dX6_append_22 : decode cX6_append 22 = .ok (.iload_n 1, 1) := by decide +kernel
theorem dX6_append_23 : decode cX6_append 23 = .ok (.bipush 59, 2) := by decide +kernel
theorem dX6_append_25 : decode cX6_append 25 = .ok (.invokestatic 15, 3) := by decide +kernel
theorem dX6_append_28 : decode cX6_append 28 = .ok (.aload_n 0, 1) := by decide +kernel
theorem dX6_append_29 : decode cX6_append 29 = .ok (.getfield 11, 3) := by decide +kernel
theorem dX6_append_32 : decode cX6_append 32 = .ok (.iload_n 2, 1) := by decide +kernel
theorem dX6_append_33 : decode cX6_append 33 = .ok (.bipush 59, 2) := by decide +kernel
theorem dX6_append_35 : decode cX6_append 35 = .ok (.iastore, 1) := by decide +kernel
theorem dX6_append_36 : decode cX6_append 36 = .ok (.aload_n 0, 1) := by decide +kernel
theorem dX6_append_37 : decode cX6_append 37 = .ok (.getfield 11, 3) := by decide +kernel
theorem dX6_append_40 : decode cX6_append 40 = .ok (.iload_n 1, 1) := by decide +kernel
theorem dX6_append_41 : decode cX6_append 41 = .ok (.aload_n 0, 1) := by decide +kernel
theorem dX6_append_42 : decode cX6_append 42 = .ok (.getfield 11, 3) := by decide +kernel
theorem dX6_append_45 : decode cX6_append 45 = .ok (.iload_n 2, 1) := by decide +kernel
theorem dX6_append_46 : decode cX6_append 46 = .ok (.iaload, 1) := by decide +kernel
theorem dX6_append_47 : decode cX6_append 47 = .ok (.iadd, 1) := by decide +kernel
theorem dX6_append_48 : decode cX6_append 48 = .ok (.iload_n 3, 1) := by decide +kernel
theorem dX6_append_49 : decode cX6_append 49 = .ok (.iastore, 1) := by decide +kernel
theorem dX6_append_50 : decode cX6_append 50 = .ok (.aload_n 0, 1) := by decide +kernel
theorem dX6_append_51 : decode cX6_append 51 = .ok (.getfield 11, 3) := by decide +kernel
theorem dX6_append_54 : decode cX6_append 54 = .ok (.iload_n 2, 1) := by decide +kernel
theorem dX6_append_55 : decode cX6_append 55 = .ok (.dup2, 1) := by decide +kernel
theorem dX6_append_56 : decode cX6_append 56 = .ok (.iaload, 1) := by decide +kernel
theorem dX6_append_57 : decode cX6_append 57 = .ok (.iconst 1, 1) := by decide +kernel
theorem dX6_append_58 : decode cX6_append 58 = .ok (.iadd, 1) := by decide +kernel
theorem dX6_append_59 : decode cX6_append 59 = .ok (.iastore, 1) := by decide +kernel
theorem dX6_append_60 : decode cX6_append 60 = .ok (.return_, 1) := by decide +kernel
theorem dX6_writeBook_0 : decode cX6_writeBook 0 = .ok (.aload_n 0, 1) := by decide +kernel
theorem dX6_writeBook_1 : decode cX6_writeBook 1 = .ok (.invokevirtual 35, 3) := by decide +kernel
theorem dX6_writeBook_4 : decode cX6_writeBook 4 = .ok (.iload_n 1, 1) := by decide +kernel
theorem dX6_writeBook_5 : decode cX6_writeBook 5 = .ok (.bipush 10, 2) := by decide +kernel
theorem dX6_writeBook_7 : decode cX6_writeBook 7 = .ok (.ishl, 1) := by decide +kernel
theorem dX6_writeBook_8 : decode cX6_writeBook 8 = .ok (.ior, 1) := by decide +kernel
theorem dX6_writeBook_9 : decode cX6_writeBook 9 = .ok (.iload_n 2, 1) := by decide +kernel
theorem dX6_writeBook_10 : decode cX6_writeBook 10 = .ok (.bipush 14, 2) := by decide +kernel
theorem dX6_writeBook_12 : decode cX6_writeBook 12 = .ok (.ishl, 1) := by decide +kernel
theorem dX6_writeBook_13 : decode cX6_writeBook 13 = .ok (.ior, 1) := by decide +kernel
theorem dX6_writeBook_14 : decode cX6_writeBook 14 = .ok (.iload_n 3, 1) := by decide +kernel
theorem dX6_writeBook_15 : decode cX6_writeBook 15 = .ok (.ifCond .eq 7, 3) := by decide +kernel
theorem dX6_writeBook_18 : decode cX6_writeBook 18 = .ok (.iconst 1, 1) := by decide +kernel
theorem dX6_writeBook_19 : decode cX6_writeBook 19 = .ok (.goto 4, 3) := by decide +kernel
theorem dX6_writeBook_22 : decode cX6_writeBook 22 = .ok (.iconst 0, 1) := by decide +kernel
theorem dX6_writeBook_23 : decode cX6_writeBook 23 = .ok (.bipush 17, 2) := by decide +kernel
theorem dX6_writeBook_25 : decode cX6_writeBook 25 = .ok (.ishl, 1) := by decide +kernel
theorem dX6_writeBook_26 : decode cX6_writeBook 26 = .ok (.ior, 1) := by decide +kernel
theorem dX6_writeBook_27 : decode cX6_writeBook 27 = .ok (.aload_n 0, 1) := by decide +kernel
theorem dX6_writeBook_28 : decode cX6_writeBook 28 = .ok (.iload_n 2, 1) := by decide +kernel
theorem dX6_writeBook_29 : decode cX6_writeBook 29 = .ok (.iconst 2, 1) := by decide +kernel
theorem dX6_writeBook_30 : decode cX6_writeBook 30 = .ok (.invokevirtual 38, 3) := by decide +kernel
theorem dX6_writeBook_33 : decode cX6_writeBook 33 = .ok (.bipush 18, 2) := by decide +kernel
theorem dX6_writeBook_35 : decode cX6_writeBook 35 = .ok (.ishl, 1) := by decide +kernel
theorem dX6_writeBook_36 : decode cX6_writeBook 36 = .ok (.ior, 1) := by decide +kernel
theorem dX6_writeBook_37 : decode cX6_writeBook 37 = .ok (.istore 4, 2) := by decide +kernel
theorem dX6_writeBook_39 : decode cX6_writeBook 39 = .ok (.aload_n 0, 1) := by decide +kernel
theorem dX6_writeBook_40 : decode cX6_writeBook 40 = .ok (.bipush 53, 2) := by decide +kernel
theorem dX6_writeBook_42 : decode cX6_writeBook 42 = .ok (.bipush 51, 2) := by decide +kernel
theorem dX6_writeBook_44 : decode cX6_writeBook 44 = .ok (.iload 4, 2) := by decide +kernel
theorem dX6_writeBook_46 : decode cX6_writeBook 46 = .ok (.invokevirtual 41, 3) := by decide +kernel
theorem dX6_writeBook_49 : decode cX6_writeBook 49 = .ok (.return_, 1) := by decide +kernel
theorem dX6_writeLog_0 : decode cX6_writeLog 0 = .ok (.aload_n 0, 1) := by decide +kernel
theorem dX6_writeLog_1 : decode cX6_writeLog 1 = .ok (.bipush 113, 2) := by decide +kernel
theorem dX6_writeLog_3 : decode cX6_writeLog 3 = .ok (.bipush 52, 2) := by decide +kernel
theorem dX6_writeLog_5 : decode cX6_writeLog 5 = .ok (.iload_n 1, 1) := by decide +kernel
theorem dX6_writeLog_6 : decode cX6_writeLog 6 = .ok (.iload_n 2, 1) := by decide +kernel
theorem dX6_writeLog_7 : decode cX6_writeLog 7 = .ok (.ifCond .eq 7, 3) := by decide +kernel
theorem dX6_writeLog_10 : decode cX6_writeLog 10 = .ok (.iconst 1, 1) := by decide +kernel
theorem dX6_writeLog_11 : decode cX6_writeLog 11 = .ok (.goto 4, 3) := by decide +kernel
theorem dX6_writeLog_14 : decode cX6_writeLog 14 = .ok (.iconst 0, 1) := by decide +kernel
theorem dX6_writeLog_15 : decode cX6_writeLog 15 = .ok (.iconst 3, 1) := by decide +kernel
theorem dX6_writeLog_16 : decode cX6_writeLog 16 = .ok (.ishl, 1) := by decide +kernel
theorem dX6_writeLog_17 : decode cX6_writeLog 17 = .ok (.ior, 1) := by decide +kernel
theorem dX6_writeLog_18 : decode cX6_writeLog 18 = .ok (.iload_n 3, 1) := by decide +kernel
theorem dX6_writeLog_19 : decode cX6_writeLog 19 = .ok (.sipush 1000, 3) := by decide +kernel
theorem dX6_writeLog_22 : decode cX6_writeLog 22 = .ok (.iadd, 1) := by decide +kernel
theorem dX6_writeLog_23 : decode cX6_writeLog 23 = .ok (.iconst 4, 1) := by decide +kernel
theorem dX6_writeLog_24 : decode cX6_writeLog 24 = .ok (.ishl, 1) := by decide +kernel
theorem dX6_writeLog_25 : decode cX6_writeLog 25 = .ok (.ior, 1) := by decide +kernel
theorem dX6_writeLog_26 : decode cX6_writeLog 26 = .ok (.invokevirtual 41, 3) := by decide +kernel
theorem dX6_writeLog_29 : decode cX6_writeLog 29 = .ok (.return_, 1) := by decide +kernel
theorem dX6_bookAt_0 : decode cX6_bookAt 0 = .ok (.aload_n 0, 1) := by decide +kernel
theorem dX6_bookAt_1 : decode cX6_bookAt 1 = .ok (.getfield 11, 3) := by decide +kernel
theorem dX6_bookAt_4 : decode cX6_bookAt 4 = .ok (.bipush 53, 2) := by decide +kernel
theorem dX6_bookAt_6 : decode cX6_bookAt 6 = .ok (.iload_n 1, 1) := by decide +kernel
theorem dX6_bookAt_7 : decode cX6_bookAt 7 = .ok (.iadd, 1) := by decide +kernel
theorem dX6_bookAt_8 : decode cX6_bookAt 8 = .ok (.iaload, 1) := by decide +kernel
theorem dX6_bookAt_9 : decode cX6_bookAt 9 = .ok (.ireturn, 1) := by decide +kernel
theorem dX6_logAt_0 : decode cX6_logAt 0 = .ok (.aload_n 0, 1) := by decide +kernel
theorem dX6_logAt_1 : decode cX6_logAt 1 = .ok (.getfield 11, 3) := by decide +kernel
theorem dX6_logAt_4 : decode cX6_logAt 4 = .ok (.bipush 113, 2) := by decide +kernel
theorem dX6_logAt_6 : decode cX6_logAt 6 = .ok (.aload_n 0, 1) := by decide +kernel
theorem dX6_logAt_7 : decode cX6_logAt 7 = .ok (.invokevirtual 44, 3) := by decide +kernel
theorem dX6_logAt_10 : decode cX6_logAt 10 = .ok (.iadd, 1) := by decide +kernel
theorem dX6_logAt_11 : decode cX6_logAt 11 = .ok (.iconst 1, 1) := by decide +kernel
theorem dX6_logAt_12 : decode cX6_logAt 12 = .ok (.isub, 1) := by decide +kernel
theorem dX6_logAt_13 : decode cX6_logAt 13 = .ok (.iload_n 1, 1) := by decide +kernel
theorem dX6_logAt_14 : decode cX6_logAt 14 = .ok (.isub, 1) := by decide +kernel
theorem dX6_logAt_15 : decode cX6_logAt 15 = .ok (.iaload, 1) := by decide +kernel
theorem dX6_logAt_16 : decode cX6_logAt 16 = .ok (.ireturn, 1) := by decide +kernel
theorem dX6_nightOf_0 : decode cX6_nightOf 0 = .ok (.iload_n 0, 1) := by decide +kernel
theorem dX6_nightOf_1 : decode cX6_nightOf 1 = .ok (.sipush 1023, 3) := by decide +kernel
theorem dX6_nightOf_4 : decode cX6_nightOf 4 = .ok (.iand, 1) := by decide +kernel
theorem dX6_nightOf_5 : decode cX6_nightOf 5 = .ok (.ireturn, 1) := by decide +kernel
theorem dX6_hourOf_0 : decode cX6_hourOf 0 = .ok (.iload_n 0, 1) := by decide +kernel
theorem dX6_hourOf_1 : decode cX6_hourOf 1 = .ok (.bipush 10, 2) := by decide +kernel
theorem dX6_hourOf_3 : decode cX6_hourOf 3 = .ok (.ishr, 1) := by decide +kernel
theorem dX6_hourOf_4 : decode cX6_hourOf 4 = .ok (.bipush 15, 2) := by decide +kernel
theorem dX6_hourOf_6 : decode cX6_hourOf 6 = .ok (.iand, 1) := by decide +kernel
theorem dX6_hourOf_7 : decode cX6_hourOf 7 = .ok (.ireturn, 1) := by decide +kernel
theorem dX6_personOf_0 : decode cX6_personOf 0 = .ok (.iload_n 0, 1) := by decide +kernel
theorem dX6_personOf_1 : decode cX6_personOf 1 = .ok (.bipush 14, 2) := by decide +kernel
theorem dX6_personOf_3 : decode cX6_personOf 3 = .ok (.ishr, 1) := by decide +kernel
theorem dX6_personOf_4 : decode cX6_personOf 4 = .ok (.bipush 7, 2) := by decide +kernel
theorem dX6_personOf_6 : decode cX6_personOf 6 = .ok (.iand, 1) := by decide +kernel
theorem dX6_personOf_7 : decode cX6_personOf 7 = .ok (.ireturn, 1) := by decide +kernel
theorem dX6_lampOf_0 : decode cX6_lampOf 0 = .ok (.iload_n 0, 1) := by decide +kernel
theorem dX6_lampOf_1 : decode cX6_lampOf 1 = .ok (.bipush 17, 2) := by decide +kernel
theorem dX6_lampOf_3 : decode cX6_lampOf 3 = .ok (.ishr, 1) := by decide +kernel
theorem dX6_lampOf_4 : decode cX6_lampOf 4 = .ok (.iconst 1, 1) := by decide +kernel
theorem dX6_lampOf_5 : decode cX6_lampOf 5 = .ok (.iand, 1) := by decide +kernel
theorem dX6_lampOf_6 : decode cX6_lampOf 6 = .ok (.ireturn, 1) := by decide +kernel
theorem dX6_tiredOf_0 : decode cX6_tiredOf 0 = .ok (.iload_n 0, 1) := by decide +kernel
theorem dX6_tiredOf_1 : decode cX6_tiredOf 1 = .ok (.bipush 18, 2) := by decide +kernel
theorem dX6_tiredOf_3 : decode cX6_tiredOf 3 = .ok (.ishr, 1) := by decide +kernel
theorem dX6_tiredOf_4 : decode cX6_tiredOf 4 = .ok (.bipush 15, 2) := by decide +kernel
theorem dX6_tiredOf_6 : decode cX6_tiredOf 6 = .ok (.iand, 1) := by decide +kernel
theorem dX6_tiredOf_7 : decode cX6_tiredOf 7 = .ok (.ireturn, 1) := by decide +kernel
theorem dX6_whoOf_0 : decode cX6_whoOf 0 = .ok (.iload_n 0, 1) := by decide +kernel
theorem dX6_whoOf_1 : decode cX6_whoOf 1 = .ok (.bipush 7, 2) := by decide +kernel
theorem dX6_whoOf_3 : decode cX6_whoOf 3 = .ok (.iand, 1) := by decide +kernel
theorem dX6_whoOf_4 : decode cX6_whoOf 4 = .ok (.ireturn, 1) := by decide +kernel
theorem dX6_gaoledOf_0 : decode cX6_gaoledOf 0 = .ok (.iload_n 0, 1) := by decide +kernel
theorem dX6_gaoledOf_1 : decode cX6_gaoledOf 1 = .ok (.iconst 3, 1) := by decide +kernel
theorem dX6_gaoledOf_2 : decode cX6_gaoledOf 2 = .ok (.ishr, 1) := by decide +kernel
theorem dX6_gaoledOf_3 : decode cX6_gaoledOf 3 = .ok (.iconst 1, 1) := by decide +kernel
theorem dX6_gaoledOf_4 : decode cX6_gaoledOf 4 = .ok (.iand, 1) := by decide +kernel
theorem dX6_gaoledOf_5 : decode cX6_gaoledOf 5 = .ok (.ireturn, 1) := by decide +kernel
theorem dX6_pointsOf_0 : decode cX6_pointsOf 0 = .ok (.iload_n 0, 1) := by decide +kernel
theorem dX6_pointsOf_1 : decode cX6_pointsOf 1 = .ok (.iconst 4, 1) := by decide +kernel
theorem dX6_pointsOf_2 : decode cX6_pointsOf 2 = .ok (.ishr, 1) := by decide +kernel
theorem dX6_pointsOf_3 : decode cX6_pointsOf 3 = .ok (.sipush 1000, 3) := by decide +kernel
theorem dX6_pointsOf_6 : decode cX6_pointsOf 6 = .ok (.isub, 1) := by decide +kernel
theorem dX6_pointsOf_7 : decode cX6_pointsOf 7 = .ok (.ireturn, 1) := by decide +kernel
theorem dX6_booksOf_0 : decode cX6_booksOf 0 = .ok (.iconst 0, 1) := by decide +kernel
theorem dX6_booksOf_1 : decode cX6_booksOf 1 = .ok (.istore_n 2, 1) := by decide +kernel
theorem dX6_booksOf_2 : decode cX6_booksOf 2 = .ok (.iconst 0, 1) := by decide +kernel
theorem dX6_booksOf_3 : decode cX6_booksOf 3 = .ok (.istore_n 3, 1) := by decide +kernel
theorem dX6_booksOf_4 : decode cX6_booksOf 4 = .ok (.iload_n 3, 1) := by decide +kernel
theorem dX6_booksOf_5 : decode cX6_booksOf 5 = .ok (.aload_n 0, 1) := by decide +kernel
theorem dX6_booksOf_6 : decode cX6_booksOf 6 = .ok (.invokevirtual 47, 3) := by decide +kernel
theorem dX6_booksOf_9 : decode cX6_booksOf 9 = .ok (.if_icmp .ge 29, 3) := by decide +kernel
theorem dX6_booksOf_12 : decode cX6_booksOf 12 = .ok (.iload_n 2, 1) := by decide +kernel
theorem dX6_booksOf_13 : decode cX6_booksOf 13 = .ok (.aload_n 0, 1) := by decide +kernel
theorem dX6_booksOf_14 : decode cX6_booksOf 14 = .ok (.iload_n 3, 1) := by decide +kernel
theorem dX6_booksOf_15 : decode cX6_booksOf 15 = .ok (.invokevirtual 50, 3) := by decide +kernel
theorem dX6_booksOf_18 : decode cX6_booksOf 18 = .ok (.invokestatic 54, 3) := by decide +kernel
theorem dX6_booksOf_21 : decode cX6_booksOf 21 = .ok (.iload_n 1, 1) := by decide +kernel
theorem dX6_booksOf_22 : decode cX6_booksOf 22 = .ok (.if_icmp .ne 7, 3) := by decide +kernel
theorem dX6_booksOf_25 : decode cX6_booksOf 25 = .ok (.iconst 1, 1) := by decide +kernel
theorem dX6_booksOf_26 : decode cX6_booksOf 26 = .ok (.goto 4, 3) := by decide +kernel
theorem dX6_booksOf_29 : decode cX6_booksOf 29 = .ok (.iconst 0, 1) := by decide +kernel
theorem dX6_booksOf_30 : decode cX6_booksOf 30 = .ok (.iadd, 1) := by decide +kernel
theorem dX6_booksOf_31 : decode cX6_booksOf 31 = .ok (.istore_n 2, 1) := by decide +kernel
theorem dX6_booksOf_32 : decode cX6_booksOf 32 = .ok (.iinc 3 1, 3) := by decide +kernel
theorem dX6_booksOf_35 : decode cX6_booksOf 35 = .ok (.goto (-31), 3) := by decide +kernel
theorem dX6_booksOf_38 : decode cX6_booksOf 38 = .ok (.iload_n 2, 1) := by decide +kernel
theorem dX6_booksOf_39 : decode cX6_booksOf 39 = .ok (.ireturn, 1) := by decide +kernel
theorem dX6_strike_0 : decode cX6_strike 0 = .ok (.iconst 0, 1) := by decide +kernel
theorem dX6_strike_1 : decode cX6_strike 1 = .ok (.istore_n 2, 1) := by decide +kernel
theorem dX6_strike_2 : decode cX6_strike 2 = .ok (.iconst 0, 1) := by decide +kernel
theorem dX6_strike_3 : decode cX6_strike 3 = .ok (.istore_n 3, 1) := by decide +kernel
theorem dX6_strike_4 : decode cX6_strike 4 = .ok (.iload_n 3, 1) := by decide +kernel
theorem dX6_strike_5 : decode cX6_strike 5 = .ok (.aload_n 0, 1) := by decide +kernel
theorem dX6_strike_6 : decode cX6_strike 6 = .ok (.invokevirtual 47, 3) := by decide +kernel
theorem dX6_strike_9 : decode cX6_strike 9 = .ok (.if_icmp .ge 39, 3) := by decide +kernel
theorem dX6_strike_12 : decode cX6_strike 12 = .ok (.aload_n 0, 1) := by decide +kernel
theorem dX6_strike_13 : decode cX6_strike 13 = .ok (.iload_n 3, 1) := by decide +kernel
theorem dX6_strike_14 : decode cX6_strike 14 = .ok (.invokevirtual 50, 3) := by decide +kernel
theorem dX6_strike_17 : decode cX6_strike 17 = .ok (.istore 4, 2) := by decide +kernel
theorem dX6_strike_19 : decode cX6_strike 19 = .ok (.iload 4, 2) := by decide +kernel
theorem dX6_strike_21 : decode cX6_strike 21 = .ok (.invokestatic 54, 3) := by decide +kernel
theorem dX6_strike_24 : decode cX6_strike 24 = .ok (.iload_n 1, 1) := by decide +kernel
theorem dX6_strike_25 : decode cX6_strike 25 = .ok (.if_icmp .eq 17, 3) := by decide +kernel
theorem dX6_strike_28 : decode cX6_strike 28 = .ok (.aload_n 0, 1) := by decide +kernel
theorem dX6_strike_29 : decode cX6_strike 29 = .ok (.getfield 11, 3) := by decide +kernel
theorem dX6_strike_32 : decode cX6_strike 32 = .ok (.bipush 53, 2) := by decide +kernel
theorem dX6_strike_34 : decode cX6_strike 34 = .ok (.iload_n 2, 1) := by decide +kernel
theorem dX6_strike_35 : decode cX6_strike 35 = .ok (.iadd, 1) := by decide +kernel
theorem dX6_strike_36 : decode cX6_strike 36 = .ok (.iload 4, 2) := by decide +kernel
theorem dX6_strike_38 : decode cX6_strike 38 = .ok (.iastore, 1) := by decide +kernel
theorem dX6_strike_39 : decode cX6_strike 39 = .ok (.iinc 2 1, 3) := by decide +kernel
theorem dX6_strike_42 : decode cX6_strike 42 = .ok (.iinc 3 1, 3) := by decide +kernel
theorem dX6_strike_45 : decode cX6_strike 45 = .ok (.goto (-41), 3) := by decide +kernel
theorem dX6_strike_48 : decode cX6_strike 48 = .ok (.aload_n 0, 1) := by decide +kernel
theorem dX6_strike_49 : decode cX6_strike 49 = .ok (.getfield 11, 3) := by decide +kernel
theorem dX6_strike_52 : decode cX6_strike 52 = .ok (.bipush 51, 2) := by decide +kernel
theorem dX6_strike_54 : decode cX6_strike 54 = .ok (.iload_n 2, 1) := by decide +kernel
theorem dX6_strike_55 : decode cX6_strike 55 = .ok (.iastore, 1) := by decide +kernel
theorem dX6_strike_56 : decode cX6_strike 56 = .ok (.return_, 1) := by decide +kernel
theorem dX7_init_0 : decode cX7_init 0 = .ok (.aload_n 0, 1) := by decide +kernel
theorem dX7_init_1 : decode cX7_init 1 = .ok (.invokespecial 3, 3) := by decide +kernel
theorem dX7_init_4 : decode cX7_init 4 = .ok (.aload_n 0, 1) := by decide +kernel
theorem dX7_init_5 : decode cX7_init 5 = .ok (.sipush 240, 3) := by decide +kernel
theorem dX7_init_8 : decode cX7_init 8 = .ok (.newarray .int, 2) := by decide +kernel
theorem dX7_init_10 : decode cX7_init 10 = .ok (.putfield 11, 3) := by decide +kernel
theorem dX7_init_13 : decode cX7_init 13 = .ok (.return_, 1) := by decide +kernel
theorem dX7_size_0 : decode cX7_size 0 = .ok (.aload_n 0, 1) := by decide +kernel
theorem dX7_size_1 : decode cX7_size 1 = .ok (.getfield 15, 3) := by decide +kernel
theorem dX7_size_4 : decode cX7_size 4 = .ok (.ireturn, 1) := by decide +kernel
theorem dX7_told_0 : decode cX7_told 0 = .ok (.iconst 0, 1) := by decide +kernel
theorem dX7_told_1 : decode cX7_told 1 = .ok (.istore_n 1, 1) := by decide +kernel
theorem dX7_told_2 : decode cX7_told 2 = .ok (.bipush 24, 2) := by decide +kernel
theorem dX7_told_4 : decode cX7_told 4 = .ok (.istore_n 2, 1) := by decide +kernel
theorem dX7_told_5 : decode cX7_told 5 = .ok (.iload_n 2, 1) := by decide +kernel
theorem dX7_told_6 : decode cX7_told 6 = .ok (.ifCond .lt 27, 3) := by decide +kernel
theorem dX7_told_9 : decode cX7_told 9 = .ok (.iload_n 1, 1) := by decide +kernel
theorem dX7_told_10 : decode cX7_told 10 = .ok (.iload_n 0, 1) := by decide +kernel
theorem dX7_told_11 : decode cX7_told 11 = .ok (.iload_n 2, 1) := by decide +kernel
theorem dX7_told_12 : decode cX7_told 12 = .ok (.iushr, 1) := by decide +kernel
theorem dX7_told_13 : decode cX7_told 13 = .ok (.sipush 255, 3) := by decide +kernel
theorem dX7_told_16 : decode cX7_told 16 = .ok (.iand, 1) := by decide +kernel
theorem dX7_told_17 : decode cX7_told 17 = .ok (.ifCond .ne 7, 3) := by decide +kernel
theorem dX7_told_20 : decode cX7_told 20 = .ok (.iconst 0, 1) := by decide +kernel
theorem dX7_told_21 : decode cX7_told 21 = .ok (.goto 4, 3) := by decide +kernel
theorem dX7_told_24 : decode cX7_told 24 = .ok (.iconst 1, 1) := by decide +kernel
theorem dX7_told_25 : decode cX7_told 25 = .ok (.iadd, 1) := by decide +kernel
theorem dX7_told_26 : decode cX7_told 26 = .ok (.istore_n 1, 1) := by decide +kernel
theorem dX7_told_27 : decode cX7_told 27 = .ok (.iinc 2 (-8), 3) := by decide +kernel
theorem dX7_told_30 : decode cX7_told 30 = .ok (.goto (-25), 3) := by decide +kernel
theorem dX7_told_33 : decode cX7_told 33 = .ok (.iload_n 1, 1) := by decide +kernel
theorem dX7_told_34 : decode cX7_told 34 = .ok (.ireturn, 1) := by decide +kernel
theorem dX7_put_0 : decode cX7_put 0 = .ok (.bipush 24, 2) := by decide +kernel
theorem dX7_put_2 : decode cX7_put 2 = .ok (.istore_n 2, 1) := by decide +kernel
theorem dX7_put_3 : decode cX7_put 3 = .ok (.iload_n 2, 1) := by decide +kernel
theorem dX7_put_4 : decode cX7_put 4 = .ok (.ifCond .lt 51, 3) := by decide +kernel
theorem dX7_put_7 : decode cX7_put 7 = .ok (.iload_n 1, 1) := by decide +kernel
theorem dX7_put_8 : decode cX7_put 8 = .ok (.iload_n 2, 1) := by decide +kernel
theorem dX7_put_9 : decode cX7_put 9 = .ok (.iushr, 1) := by decide +kernel
theorem dX7_put_10 : decode cX7_put 10 = .ok (.sipush 255, 3) := by decide +kernel
theorem dX7_put_13 : decode cX7_put 13 = .ok (.iand, 1) := by decide +kernel
theorem dX7_put_14 : decode cX7_put 14 = .ok (.istore_n 3, 1) := by decide +kernel
theorem dX7_put_15 : decode cX7_put 15 = .ok (.iload_n 3, 1) := by decide +kernel
theorem dX7_put_16 : decode cX7_put 16 = .ok (.ifCond .eq 33, 3) := by decide +kernel
theorem dX7_put_19 : decode cX7_put 19 = .ok (.aload_n 0, 1) := by decide +kernel
theorem dX7_put_20 : decode cX7_put 20 = .ok (.getfield 15, 3) := by decide +kernel
theorem dX7_put_23 : decode cX7_put 23 = .ok (.sipush 240, 3) := by decide +kernel
theorem dX7_put_26 : decode cX7_put 26 = .ok (.if_icmp .ge 23, 3) := by decide +kernel
theorem dX7_put_29 : decode cX7_put 29 = .ok (.aload_n 0, 1) := by decide +kernel
theorem dX7_put_30 : decode cX7_put 30 = .ok (.getfield 11, 3) := by decide +kernel
theorem dX7_put_33 : decode cX7_put 33 = .ok (.aload_n 0, 1) := by decide +kernel
theorem dX7_put_34 : decode cX7_put 34 = .ok (.getfield 15, 3) := by decide +kernel
theorem dX7_put_37 : decode cX7_put 37 = .ok (.iload_n 3, 1) := by decide +kernel
theorem dX7_put_38 : decode cX7_put 38 = .ok (.iastore, 1) := by decide +kernel
theorem dX7_put_39 : decode cX7_put 39 = .ok (.aload_n 0, 1) := by decide +kernel
theorem dX7_put_40 : decode cX7_put 40 = .ok (.dup, 1) := by decide +kernel
theorem dX7_put_41 : decode cX7_put 41 = .ok (.getfield 15, 3) := by decide +kernel
theorem dX7_put_44 : decode cX7_put 44 = .ok (.iconst 1, 1) := by decide +kernel
theorem dX7_put_45 : decode cX7_put 45 = .ok (.iadd, 1) := by decide +kernel
theorem dX7_put_46 : decode cX7_put 46 = .ok (.putfield 15, 3) := by decide +kernel
theorem dX7_put_49 : decode cX7_put 49 = .ok (.iinc 2 (-8), 3) := by decide +kernel
theorem dX7_put_52 : decode cX7_put 52 = .ok (.goto (-49), 3) := by decide +kernel
theorem dX7_put_55 : decode cX7_put 55 = .ok (.return_, 1) := by decide +kernel
theorem dX7_keep_0 : decode cX7_keep 0 = .ok (.iload_n 1, 1) := by decide +kernel
theorem dX7_keep_1 : decode cX7_keep 1 = .ok (.ifCond .lt 11, 3) := by decide +kernel
theorem dX7_keep_4 : decode cX7_keep 4 = .ok (.iload_n 1, 1) := by decide +kernel
theorem dX7_keep_5 : decode cX7_keep 5 = .ok (.aload_n 0, 1) := by decide +kernel
theorem dX7_keep_6 : decode cX7_keep 6 = .ok (.getfield 15, 3) := by decide +kernel
theorem dX7_keep_9 : decode cX7_keep 9 = .ok (.if_icmp .le 5, 3) := by decide +kernel
theorem dX7_keep_12 : decode cX7_keep 12 = .ok (.iconst 0, 1) := by decide +kernel
theorem dX7_keep_13 : decode cX7_keep 13 = .ok (.ireturn, 1) := by decide +kernel
theorem dX7_keep_14 : decode cX7_keep 14 = .ok (.aload_n 0, 1) := by decide +kernel
theorem dX7_keep_15 : decode cX7_keep 15 = .ok (.iload_n 1, 1) := by decide +kernel
theorem dX7_keep_16 : decode cX7_keep 16 = .ok (.putfield 15, 3) := by decide +kernel
theorem dX7_keep_19 : decode cX7_keep 19 = .ok (.iconst 1, 1) := by decide +kernel
theorem dX7_keep_20 : decode cX7_keep 20 = .ok (.ireturn, 1) := by decide +kernel
theorem dX7_rewind_0 : decode cX7_rewind 0 = .ok (.aload_n 0, 1) := by decide +kernel
theorem dX7_rewind_1 : decode cX7_rewind 1 = .ok (.iconst 0, 1) := by decide +kernel
theorem dX7_rewind_2 : decode cX7_rewind 2 = .ok (.putfield 19, 3) := by decide +kernel
theorem dX7_rewind_5 : decode cX7_rewind 5 = .ok (.aload_n 0, 1) := by decide +kernel
theorem dX7_rewind_6 : decode cX7_rewind 6 = .ok (.iconst (-1), 1) := by decide +kernel
theorem dX7_rewind_7 : decode cX7_rewind 7 = .ok (.putfield 22, 3) := by decide +kernel
theorem dX7_rewind_10 : decode cX7_rewind 10 = .ok (.return_, 1) := by decide +kernel
theorem dX7_firstFault_0 : decode cX7_firstFault 0 = .ok (.aload_n 0, 1) := by decide +kernel
theorem dX7_firstFault_1 : decode cX7_firstFault 1 = .ok (.getfield 22, 3) := by decide +kernel
theorem dX7_firstFault_4 : decode cX7_firstFault 4 = .ok (.ireturn, 1) := by decide +kernel
theorem dX7_look_0 : decode cX7_look 0 = .ok (.aload_n 0, 1) := by decide +kernel
theorem dX7_look_1 : decode cX7_look 1 = .ok (.getfield 19, 3) := by decide +kernel
theorem dX7_look_4 : decode cX7_look 4 = .ok (.aload_n 0, 1) := by decide +kernel
theorem dX7_look_5 : decode cX7_look 5 = .ok (.getfield 15, 3) := by decide +kernel
theorem dX7_look_8 : decode cX7_look 8 = .ok (.if_icmp .ge 30, 3) := by decide +kernel
theorem dX7_look_11 : decode cX7_look 11 = .ok (.aload_n 0, 1) := by decide +kernel
theorem dX7_look_12 : decode cX7_look 12 = .ok (.getfield 11, 3) := by decide +kernel
theorem dX7_look_15 : decode cX7_look 15 = .ok (.aload_n 0, 1) := by decide +kernel
theorem dX7_look_16 : decode cX7_look 16 = .ok (.getfield 19, 3) := by decide +kernel
theorem dX7_look_19 : decode cX7_look 19 = .ok (.iaload, 1) := by decide +kernel
theorem dX7_look_20 : decode cX7_look 20 = .ok (.bipush 32, 2) := by decide +kernel
theorem dX7_look_22 : decode cX7_look 22 = .ok (.if_icmp .ne 16, 3) := by decide +kernel
theorem dX7_look_25 : decode cX7_look 25 = .ok (.aload_n 0, 1) := by decide +kernel
theorem dX7_look_26 : decode cX7_look 26 = .ok (.dup, 1) := by decide +kernel
theorem dX7_look_27 : decode cX7_look 27 = .ok (.getfield 19, 3) := by decide +kernel
theorem dX7_look_30 : decode cX7_look 30 = .ok (.iconst 1, 1) := by decide +kernel
theorem dX7_look_31 : decode cX7_look 31 = .ok (.iadd, 1) := by decide +kernel
theorem dX7_look_32 : decode cX7_look 32 = .ok (.putfield 19, 3) := by decide +kernel
theorem dX7_look_35 : decode cX7_look 35 = .ok (.goto (-35), 3) := by decide +kernel
theorem dX7_look_38 : decode cX7_look 38 = .ok (.aload_n 0, 1) := by decide +kernel
theorem dX7_look_39 : decode cX7_look 39 = .ok (.getfield 19, 3) := by decide +kernel
theorem dX7_look_42 : decode cX7_look 42 = .ok (.aload_n 0, 1) := by decide +kernel
theorem dX7_look_43 : decode cX7_look 43 = .ok (.getfield 15, 3) := by decide +kernel
theorem dX7_look_46 : decode cX7_look 46 = .ok (.if_icmp .ge 15, 3) := by decide +kernel
theorem dX7_look_49 : decode cX7_look 49 = .ok (.aload_n 0, 1) := by decide +kernel
theorem dX7_look_50 : decode cX7_look 50 = .ok (.getfield 11, 3) := by decide +kernel
theorem dX7_look_53 : decode cX7_look 53 = .ok (.aload_n 0, 1) := by decide +kernel
theorem dX7_look_54 : decode cX7_look 54 = .ok (.getfield 19, 3) := by decide +kernel
theorem dX7_look_57 : decode cX7_look 57 = .ok (.iaload, 1) := by decide +kernel
theorem dX7_look_58 : decode cX7_look 58 = .ok (.goto 4, 3) := by decide +kernel
theorem dX7_look_61 : decode cX7_look 61 = .ok (.iconst (-1), 1) := by decide +kernel
theorem dX7_look_62 : decode cX7_look 62 = .ok (.ireturn, 1) := by decide +kernel
theorem dX7_step_0 : decode cX7_step 0 = .ok (.aload_n 0, 1) := by decide +kernel
theorem dX7_step_1 : decode cX7_step 1 = .ok (.getfield 19, 3) := by decide +kernel
theorem dX7_step_4 : decode cX7_step 4 = .ok (.aload_n 0, 1) := by decide +kernel
theorem dX7_step_5 : decode cX7_step 5 = .ok (.getfield 15, 3) := by decide +kernel
theorem dX7_step_8 : decode cX7_step 8 = .ok (.if_icmp .ge 13, 3) := by decide +kernel
theorem dX7_step_11 : decode cX7_step 11 = .ok (.aload_n 0, 1) := by decide +kernel
theorem dX7_step_12 : decode cX7_step 12 = .ok (.dup, 1) := by decide +kernel
theorem dX7_step_13 : decode cX7_step 13 = .ok (.getfield 19, 3) := by decide +kernel
theorem dX7_step_16 : decode cX7_step 16 = .ok (.iconst 1, 1) := by decide +kernel
theorem dX7_step_17 : decode cX7_step 17 = .ok (.iadd, 1) := by decide +kernel
theorem dX7_step_18 : decode cX7_step 18 = .ok (.putfield 19, 3) := by decide +kernel
theorem dX7_step_21 : decode cX7_step 21 = .ok (.return_, 1) := by decide +kernel
theorem dX7_take_0 : decode cX7_take 0 = .ok (.aload_n 0, 1) := by decide +kernel
theorem dX7_take_1 : decode cX7_take 1 = .ok (.invokevirtual 25, 3) := by decide +kernel
theorem dX7_take_4 : decode cX7_take 4 = .ok (.iload_n 1, 1) := by decide +kernel
theorem dX7_take_5 : decode cX7_take 5 = .ok (.if_icmp .eq 8, 3) := by decide +kernel
theorem dX7_take_8 : decode cX7_take 8 = .ok (.aload_n 0, 1) := by decide +kernel
theorem dX7_take_9 : decode cX7_take 9 = .ok (.invokevirtual 29, 3) := by decide +kernel
theorem dX7_take_12 : decode cX7_take 12 = .ok (.ireturn, 1) := by decide +kernel
theorem dX7_take_13 : decode cX7_take 13 = .ok (.aload_n 0, 1) := by decide +kernel
theorem dX7_take_14 : decode cX7_take 14 = .ok (.invokevirtual 33, 3) := by decide +kernel
theorem dX7_take_17 : decode cX7_take 17 = .ok (.iconst 1, 1) := by decide +kernel
theorem dX7_take_18 : decode cX7_take 18 = .ok (.ireturn, 1) := by decide +kernel
theorem dX7_fail_0 : decode cX7_fail 0 = .ok (.aload_n 0, 1) := by decide +kernel
theorem dX7_fail_1 : decode cX7_fail 1 = .ok (.getfield 22, 3) := by decide +kernel
theorem dX7_fail_4 : decode cX7_fail 4 = .ok (.iconst (-1), 1) := by decide +kernel
theorem dX7_fail_5 : decode cX7_fail 5 = .ok (.if_icmp .ne 11, 3) := by decide +kernel
theorem dX7_fail_8 : decode cX7_fail 8 = .ok (.aload_n 0, 1) := by decide +kernel
theorem dX7_fail_9 : decode cX7_fail 9 = .ok (.aload_n 0, 1) := by decide +kernel
theorem dX7_fail_10 : decode cX7_fail 10 = .ok (.getfield 19, 3) := by decide +kernel
theorem dX7_fail_13 : decode cX7_fail 13 = .ok (.putfield 22, 3) := by decide +kernel
theorem dX7_fail_16 : decode cX7_fail 16 = .ok (.iconst 0, 1) := by decide +kernel
theorem dX7_fail_17 : decode cX7_fail 17 = .ok (.ireturn, 1) := by decide +kernel
theorem dX7_failAtDigit_0 : decode cX7_failAtDigit 0 = .ok (.aload_n 0, 1) := by decide +kernel
theorem dX7_failAtDigit_1 : decode cX7_failAtDigit 1 = .ok (.getfield 22, 3) := by decide +kernel
theorem dX7_failAtDigit_4 : decode cX7_failAtDigit 4 = .ok (.iconst (-1), 1) := by decide +kernel
theorem dX7_failAtDigit_5 : decode cX7_failAtDigit 5 = .ok (.if_icmp .ne 17, 3) := by decide +kernel
theorem dX7_failAtDigit_8 : decode cX7_failAtDigit 8 = .ok (.aload_n 0, 1) := by decide +kernel
theorem dX7_failAtDigit_9 : decode cX7_failAtDigit 9 = .ok (.aload_n 0, 1) := by decide +kernel
theorem dX7_failAtDigit_10 : decode cX7_failAtDigit 10 = .ok (.getfield 19, 3) := by decide +kernel
theorem dX7_failAtDigit_13 : decode cX7_failAtDigit 13 = .ok (.iconst 1, 1) := by decide +kernel
theorem dX7_failAtDigit_14 : decode cX7_failAtDigit 14 = .ok (.isub, 1) := by decide +kernel
theorem dX7_failAtDigit_15 : decode cX7_failAtDigit 15 = .ok (.iconst 0, 1) := by decide +kernel
theorem dX7_failAtDigit_16 : decode cX7_failAtDigit 16 = .ok (.invokestatic 36, 3) := by decide +kernel
theorem dX7_failAtDigit_19 : decode cX7_failAtDigit 19 = .ok (.putfield 22, 3) := by decide +kernel
theorem dX7_failAtDigit_22 : decode cX7_failAtDigit 22 = .ok (.return_, 1) := by decide +kernel
theorem dX7_isDigit_0 : decode cX7_isDigit 0 = .ok (.iload_n 0, 1) := by decide +kernel
theorem dX7_isDigit_1 : decode cX7_isDigit 1 = .ok (.bipush 48, 2) := by decide +kernel
theorem dX7_isDigit_3 : decode cX7_isDigit 3 = .ok (.if_icmp .lt 13, 3) := by decide +kernel
theorem dX7_isDigit_6 : decode cX7_isDigit 6 = .ok (.iload_n 0, 1) := by decide +kernel
theorem dX7_isDigit_7 : decode cX7_isDigit 7 = .ok (.bipush 57, 2) := by decide +kernel
theorem dX7_isDigit_9 : decode cX7_isDigit 9 = .ok (.if_icmp .gt 7, 3) := by decide +kernel
theorem dX7_isDigit_12 : decode cX7_isDigit 12 = .ok (.iconst 1, 1) := by decide +kernel
theorem dX7_isDigit_13 : decode cX7_isDigit 13 = .ok (.goto 4, 3) := by decide +kernel
theorem dX7_isDigit_16 : decode cX7_isDigit 16 = .ok (.iconst 0, 1) := by decide +kernel
theorem dX7_isDigit_17 : decode cX7_isDigit 17 = .ok (.ireturn, 1) := by decide +kernel
theorem dX7_number_0 : decode cX7_number 0 = .ok (.iconst 0, 1) := by decide +kernel
theorem dX7_number_1 : decode cX7_number 1 = .ok (.istore_n 2, 1) := by decide +kernel
theorem dX7_number_2 : decode cX7_number 2 = .ok (.aload_n 0, 1) := by decide +kernel
theorem dX7_number_3 : decode cX7_number 3 = .ok (.invokevirtual 25, 3) := by decide +kernel
theorem dX7_number_6 : decode cX7_number 6 = .ok (.invokestatic 42, 3) := by decide +kernel
theorem dX7_number_9 : decode cX7_number 9 = .ok (.ifCond .ne 10, 3) := by decide +kernel
theorem dX7_number_12 : decode cX7_number 12 = .ok (.aload_n 0, 1) := by decide +kernel
theorem dX7_number_13 : decode cX7_number 13 = .ok (.invokevirtual 29, 3) := by decide +kernel
theorem dX7_number_16 : decode cX7_number 16 = .ok (.pop, 1) := by decide +kernel
theorem dX7_number_17 : decode cX7_number 17 = .ok (.iconst (-1), 1) := by decide +kernel
theorem dX7_number_18 : decode cX7_number 18 = .ok (.ireturn, 1) := by decide +kernel
theorem dX7_number_19 : decode cX7_number 19 = .ok (.iconst 0, 1) := by decide +kernel
theorem dX7_number_20 : decode cX7_number 20 = .ok (.istore_n 3, 1) := by decide +kernel
theorem dX7_number_21 : decode cX7_number 21 = .ok (.iload_n 3, 1) := by decide +kernel
theorem dX7_number_22 : decode cX7_number 22 = .ok (.iload_n 1, 1) := by decide +kernel
theorem dX7_number_23 : decode cX7_number 23 = .ok (.if_icmp .ge 63, 3) := by decide +kernel
theorem dX7_number_26 : decode cX7_number 26 = .ok (.aload_n 0, 1) := by decide +kernel
theorem dX7_number_27 : decode cX7_number 27 = .ok (.getfield 19, 3) := by decide +kernel
theorem dX7_number_30 : decode cX7_number 30 = .ok (.aload_n 0, 1) := by decide +kernel
theorem dX7_number_31 : decode cX7_number 31 = .ok (.getfield 15, 3) := by decide +kernel
theorem dX7_number_34 : decode cX7_number 34 = .ok (.if_icmp .ge 52, 3) := by decide +kernel
theorem dX7_number_37 : decode cX7_number 37 = .ok (.aload_n 0, 1) := by decide +kernel
theorem dX7_number_38 : decode cX7_number 38 = .ok (.getfield 11, 3) := by decide +kernel
theorem dX7_number_41 : decode cX7_number 41 = .ok (.aload_n 0, 1) := by decide +kernel
theorem dX7_number_42 : decode cX7_number 42 = .ok (.getfield 19, 3) := by decide +kernel
theorem dX7_number_45 : decode cX7_number 45 = .ok (.iaload, 1) := by decide +kernel
theorem dX7_number_46 : decode cX7_number 46 = .ok (.invokestatic 42, 3) := by decide +kernel
theorem dX7_number_49 : decode cX7_number 49 = .ok (.ifCond .eq 37, 3) := by decide +kernel
theorem dX7_number_52 : decode cX7_number 52 = .ok (.iload_n 2, 1) := by decide +kernel
theorem dX7_number_53 : decode cX7_number 53 = .ok (.bipush 10, 2) := by decide +kernel
theorem dX7_number_55 : decode cX7_number 55 = .ok (.imul, 1) := by decide +kernel
theorem dX7_number_56 : decode cX7_number 56 = .ok (.aload_n 0, 1) := by decide +kernel
theorem dX7_number_57 : decode cX7_number 57 = .ok (.getfield 11, 3) := by decide +kernel
theorem dX7_number_60 : decode cX7_number 60 = .ok (.aload_n 0, 1) := by decide +kernel
theorem dX7_number_61 : decode cX7_number 61 = .ok (.getfield 19, 3) := by decide +kernel
theorem dX7_number_64 : decode cX7_number 64 = .ok (.iaload, 1) := by decide +kernel
theorem dX7_number_65 : decode cX7_number 65 = .ok (.iadd, 1) := by decide +kernel
theorem dX7_number_66 : decode cX7_number 66 = .ok (.bipush 48, 2) := by decide +kernel
theorem dX7_number_68 : decode cX7_number 68 = .ok (.isub, 1) := by decide +kernel
theorem dX7_number_69 : decode cX7_number 69 = .ok (.istore_n 2, 1) := by decide +kernel
theorem dX7_number_70 : decode cX7_number 70 = .ok (.aload_n 0, 1) := by decide +kernel
theorem dX7_number_71 : decode cX7_number 71 = .ok (.dup, 1) := by decide +kernel
theorem dX7_number_72 : decode cX7_number 72 = .ok (.getfield 19, 3) := by decide +kernel
theorem dX7_number_75 : decode cX7_number 75 = .ok (.iconst 1, 1) := by decide +kernel
theorem dX7_number_76 : decode cX7_number 76 = .ok (.iadd, 1) := by decide +kernel
theorem dX7_number_77 : decode cX7_number 77 = .ok (.putfield 19, 3) := by decide +kernel
theorem dX7_number_80 : decode cX7_number 80 = .ok (.iinc 3 1, 3) := by decide +kernel
theorem dX7_number_83 : decode cX7_number 83 = .ok (.goto (-62), 3) := by decide +kernel
theorem dX7_number_86 : decode cX7_number 86 = .ok (.aload_n 0, 1) := by decide +kernel
theorem dX7_number_87 : decode cX7_number 87 = .ok (.getfield 19, 3) := by decide +kernel
theorem dX7_number_90 : decode cX7_number 90 = .ok (.aload_n 0, 1) := by decide +kernel
theorem dX7_number_91 : decode cX7_number 91 = .ok (.getfield 15, 3) := by decide +kernel
theorem dX7_number_94 : decode cX7_number 94 = .ok (.if_icmp .ge 25, 3) := by decide +kernel
theorem dX7_number_97 : decode cX7_number 97 = .ok (.aload_n 0, 1) := by decide +kernel
theorem dX7_number_98 : decode cX7_number 98 = .ok (.getfield 11, 3) := by decide +kernel
theorem dX7_number_101 : decode cX7_number 101 = .ok (.aload_n 0, 1) := by decide +kernel
theorem dX7_number_102 : decode cX7_number 102 = .ok (.getfield 19, 3) := by decide +kernel
theorem dX7_number_105 : decode cX7_number 105 = .ok (.iaload, 1) := by decide +kernel
theorem dX7_number_106 : decode cX7_number 106 = .ok (.invokestatic 42, 3) := by decide +kernel
theorem dX7_number_109 : decode cX7_number 109 = .ok (.ifCond .eq 10, 3) := by decide +kernel
theorem dX7_number_112 : decode cX7_number 112 = .ok (.aload_n 0, 1) := by decide +kernel
theorem dX7_number_113 : decode cX7_number 113 = .ok (.invokevirtual 29, 3) := by decide +kernel
theorem dX7_number_116 : decode cX7_number 116 = .ok (.pop, 1) := by decide +kernel
theorem dX7_number_117 : decode cX7_number 117 = .ok (.iconst (-1), 1) := by decide +kernel
theorem dX7_number_118 : decode cX7_number 118 = .ok (.ireturn, 1) := by decide +kernel
theorem dX7_number_119 : decode cX7_number 119 = .ok (.iload_n 2, 1) := by decide +kernel
theorem dX7_number_120 : decode cX7_number 120 = .ok (.ireturn, 1) := by decide +kernel
theorem dX8_init_0 : decode cX8_init 0 = .ok (.aload_n 0, 1) := by decide +kernel
theorem dX8_init_1 : decode cX8_init 1 = .ok (.invokespecial 3, 3) := by decide +kernel
theorem dX8_init_4 : decode cX8_init 4 = .ok (.aload_n 0, 1) := by decide +kernel
theorem dX8_init_5 : decode cX8_init 5 = .ok (.sipush 6561, 3) := by decide +kernel
theorem dX8_init_8 : decode cX8_init 8 = .ok (.newarray .int, 2) := by decide +kernel
theorem dX8_init_10 : decode cX8_init 10 = .ok (.putfield 11, 3) := by decide +kernel
theorem dX8_init_13 : decode cX8_init 13 = .ok (.aload_n 0, 1) := by decide +kernel
theorem dX8_init_14 : decode cX8_init 14 = .ok (.bipush 8, 2) := by decide +kernel
theorem dX8_init_16 : decode cX8_init 16 = .ok (.newarray .int, 2) := by decide +kernel
theorem dX8_init_18 : decode cX8_init 18 = .ok (.putfield 15, 3) := by decide +kernel
theorem dX8_init_21 : decode cX8_init 21 = .ok (.aload_n 0, 1) := by decide +kernel
theorem dX8_init_22 : decode cX8_init 22 = .ok (.bipush 8, 2) := by decide +kernel
theorem dX8_init_24 : decode cX8_init 24 = .ok (.newarray .int, 2) := by decide +kernel
theorem dX8_init_26 : decode cX8_init 26 = .ok (.putfield 18, 3) := by decide +kernel
theorem dX8_init_29 : decode cX8_init 29 = .ok (.aload_n 0, 1) := by decide +kernel
theorem dX8_init_30 : decode cX8_init 30 = .ok (.bipush 8, 2) := by decide +kernel
theorem dX8_init_32 : decode cX8_init 32 = .ok (.newarray .int, 2) := by decide +kernel
theorem dX8_init_34 : decode cX8_init 34 = .ok (.putfield 21, 3) := by decide +kernel
theorem dX8_init_37 : decode cX8_init 37 = .ok (.aload_n 0, 1) := by decide +kernel
theorem dX8_init_38 : decode cX8_init 38 = .ok (.bipush 72, 2) := by decide +kernel
theorem dX8_init_40 : decode cX8_init 40 = .ok (.newarray .int, 2) := by decide +kernel
theorem dX8_init_42 : decode cX8_init 42 = .ok (.putfield 24, 3) := by decide +kernel
theorem dX8_init_45 : decode cX8_init 45 = .ok (.aload_n 0, 1) := by decide +kernel
theorem dX8_init_46 : decode cX8_init 46 = .ok (.iconst 1, 1) := by decide +kernel
theorem dX8_init_47 : decode cX8_init 47 = .ok (.putfield 27, 3) := by decide +kernel
theorem dX8_init_50 : decode cX8_init 50 = .ok (.aload_n 0, 1) := by decide +kernel
theorem dX8_init_51 : decode cX8_init 51 = .ok (.aload_n 1, 1) := by decide +kernel
theorem dX8_init_52 : decode cX8_init 52 = .ok (.putfield 31, 3) := by decide +kernel
theorem dX8_init_55 : decode cX8_init 55 = .ok (.aload_n 0, 1) := by decide +kernel
theorem dX8_init_56 : decode cX8_init 56 = .ok (.aload_n 2, 1) := by decide +kernel
theorem dX8_init_57 : decode cX8_init 57 = .ok (.putfield 35, 3) := by decide +kernel
theorem dX8_init_60 : decode cX8_init 60 = .ok (.aload_n 0, 1) := by decide +kernel
theorem dX8_init_61 : decode cX8_init 61 = .ok (.aload_n 3, 1) := by decide +kernel
theorem dX8_init_62 : decode cX8_init 62 = .ok (.putfield 39, 3) := by decide +kernel
theorem dX8_init_65 : decode cX8_init 65 = .ok (.return_, 1) := by decide +kernel
theorem dX8_fill_0 : decode cX8_fill 0 = .ok (.aload_n 0, 1) := by decide +kernel
theorem dX8_fill_1 : decode cX8_fill 1 = .ok (.iload_n 1, 1) := by decide +kernel
theorem dX8_fill_2 : decode cX8_fill 2 = .ok (.putfield 27, 3) := by decide +kernel
theorem dX8_fill_5 : decode cX8_fill 5 = .ok (.aload_n 0, 1) := by decide +kernel
theorem dX8_fill_6 : decode cX8_fill 6 = .ok (.invokevirtual 43, 3) := by decide +kernel
theorem dX8_fill_9 : decode cX8_fill 9 = .ok (.istore_n 2, 1) := by decide +kernel
theorem dX8_fill_10 : decode cX8_fill 10 = .ok (.iload_n 2, 1) := by decide +kernel
theorem dX8_fill_11 : decode cX8_fill 11 = .ok (.iconst 1, 1) := by decide +kernel
theorem dX8_fill_12 : decode cX8_fill 12 = .ok (.isub, 1) := by decide +kernel
theorem dX8_fill_13 : decode cX8_fill 13 = .ok (.istore_n 3, 1) := by decide +kernel
theorem dX8_fill_14 : decode cX8_fill 14 = .ok (.iload_n 3, 1) := by decide +kernel
theorem dX8_fill_15 : decode cX8_fill 15 = .ok (.ifCond .lt 20, 3) := by decide +kernel
theorem dX8_fill_18 : decode cX8_fill 18 = .ok (.aload_n 0, 1) := by decide +kernel
theorem dX8_fill_19 : decode cX8_fill 19 = .ok (.getfield 11, 3) := by decide +kernel
theorem dX8_fill_22 : decode cX8_fill 22 = .ok (.iload_n 3, 1) := by decide +kernel
theorem dX8_fill_23 : decode cX8_fill 23 = .ok (.aload_n 0, 1) := by decide +kernel
theorem dX8_fill_24 : decode cX8_fill 24 = .ok (.iload_n 3, 1) := by decide +kernel
theorem dX8_fill_25 : decode cX8_fill 25 = .ok (.invokevirtual 47, 3) := by decide +kernel
theorem dX8_fill_28 : decode cX8_fill 28 = .ok (.iastore, 1) := by decide +kernel
theorem dX8_fill_29 : decode cX8_fill 29 = .ok (.iinc 3 (-1), 3) := by decide +kernel
theorem dX8_fill_32 : decode cX8_fill 32 = .ok (.goto (-18), 3) := by decide +kernel
theorem dX8_fill_35 : decode cX8_fill 35 = .ok (.aload_n 0, 1) := by decide +kernel
theorem dX8_fill_36 : decode cX8_fill 36 = .ok (.getfield 11, 3) := by decide +kernel
theorem dX8_fill_39 : decode cX8_fill 39 = .ok (.iconst 0, 1) := by decide +kernel
theorem dX8_fill_40 : decode cX8_fill 40 = .ok (.iaload, 1) := by decide +kernel
theorem dX8_fill_41 : decode cX8_fill 41 = .ok (.ireturn, 1) := by decide +kernel
theorem dX8_gather_0 : decode cX8_gather 0 = .ok (.iconst 1, 1) := by decide +kernel
theorem dX8_gather_1 : decode cX8_gather 1 = .ok (.istore_n 1, 1) := by decide +kernel
theorem dX8_gather_2 : decode cX8_gather 2 = .ok (.aload_n 0, 1) := by decide +kernel
theorem dX8_gather_3 : decode cX8_gather 3 = .ok (.iconst 0, 1) := by decide +kernel
theorem dX8_gather_4 : decode cX8_gather 4 = .ok (.putfield 51, 3) := by decide +kernel
theorem dX8_gather_7 : decode cX8_gather 7 = .ok (.iconst 0, 1) := by decide +kernel
theorem dX8_gather_8 : decode cX8_gather 8 = .ok (.istore_n 2, 1) := by decide +kernel
theorem dX8_gather_9 : decode cX8_gather 9 = .ok (.iload_n 2, 1) := by decide +kernel
theorem dX8_gather_10 : decode cX8_gather 10 = .ok (.aload_n 0, 1) := by decide +kernel
theorem dX8_gather_11 : decode cX8_gather 11 = .ok (.getfield 31, 3) := by decide +kernel
theorem dX8_gather_14 : decode cX8_gather 14 = .ok (.invokevirtual 54, 3) := by decide +kernel
theorem dX8_gather_17 : decode cX8_gather 17 = .ok (.if_icmp .ge 119, 3) := by decide +kernel
theorem dX8_gather_20 : decode cX8_gather 20 = .ok (.aload_n 0, 1) := by decide +kernel
theorem dX8_gather_21 : decode cX8_gather 21 = .ok (.getfield 35, 3) := by decide +kernel
theorem dX8_gather_24 : decode cX8_gather 24 = .ok (.iload_n 2, 1) := by decide +kernel
theorem dX8_gather_25 : decode cX8_gather 25 = .ok (.iconst 5, 1) := by decide +kernel
theorem dX8_gather_26 : decode cX8_gather 26 = .ok (.invokevirtual 61, 3) := by decide +kernel
theorem dX8_gather_29 : decode cX8_gather 29 = .ok (.ifCond .ne 101, 3) := by decide +kernel
theorem dX8_gather_32 : decode cX8_gather 32 = .ok (.iload_n 1, 1) := by decide +kernel
theorem dX8_gather_33 : decode cX8_gather 33 = .ok (.aload_n 0, 1) := by decide +kernel
theorem dX8_gather_34 : decode cX8_gather 34 = .ok (.getfield 27, 3) := by decide +kernel
theorem dX8_gather_37 : decode cX8_gather 37 = .ok (.iconst 1, 1) := by decide +kernel
theorem dX8_gather_38 : decode cX8_gather 38 = .ok (.iadd, 1) := by decide +kernel
theorem dX8_gather_39 : decode cX8_gather 39 = .ok (.imul, 1) := by decide +kernel
theorem dX8_gather_40 : decode cX8_gather 40 = .ok (.sipush 6561, 3) := by decide +kernel
theorem dX8_gather_43 : decode cX8_gather 43 = .ok (.if_icmp .gt 87, 3) := by decide +kernel
theorem dX8_gather_46 : decode cX8_gather 46 = .ok (.aload_n 0, 1) := by decide +kernel
theorem dX8_gather_47 : decode cX8_gather 47 = .ok (.getfield 18, 3) := by decide +kernel
theorem dX8_gather_50 : decode cX8_gather 50 = .ok (.aload_n 0, 1) := by decide +kernel
theorem dX8_gather_51 : decode cX8_gather 51 = .ok (.getfield 51, 3) := by decide +kernel
theorem dX8_gather_54 : decode cX8_gather 54 = .ok (.iload_n 2, 1) := by decide +kernel
theorem dX8_gather_55 : decode cX8_gather 55 = .ok (.iastore, 1) := by decide +kernel
theorem dX8_gather_56 : decode cX8_gather 56 = .ok (.aload_n 0, 1) := by decide +kernel
theorem dX8_gather_57 : decode cX8_gather 57 = .ok (.getfield 15, 3) := by decide +kernel
theorem dX8_gather_60 : decode cX8_gather 60 = .ok (.aload_n 0, 1) := by decide +kernel
theorem dX8_gather_61 : decode cX8_gather 61 = .ok (.getfield 51, 3) := by decide +kernel
theorem dX8_gather_64 : decode cX8_gather 64 = .ok (.iload_n 1, 1) := by decide +kernel
theorem dX8_gather_65 : decode cX8_gather 65 = .ok (.iastore, 1) := by decide +kernel
theorem dX8_gather_66 : decode cX8_gather 66 = .ok (.iconst 0, 1) := by decide +kernel
theorem dX8_gather_67 : decode cX8_gather 67 = .ok (.istore_n 3, 1) := by decide +kernel
theorem dX8_gather_68 : decode cX8_gather 68 = .ok (.iload_n 3, 1) := by decide +kernel
theorem dX8_gather_69 : decode cX8_gather 69 = .ok (.aload_n 0, 1) := by decide +kernel
theorem dX8_gather_70 : decode cX8_gather 70 = .ok (.getfield 31, 3) := by decide +kernel
theorem dX8_gather_73 : decode cX8_gather 73 = .ok (.invokevirtual 65, 3) := by decide +kernel
theorem dX8_gather_76 : decode cX8_gather 76 = .ok (.if_icmp .ge 35, 3) := by decide +kernel
theorem dX8_gather_79 : decode cX8_gather 79 = .ok (.aload_n 0, 1) := by decide +kernel
theorem dX8_gather_80 : decode cX8_gather 80 = .ok (.getfield 24, 3) := by decide +kernel
theorem dX8_gather_83 : decode cX8_gather 83 = .ok (.aload_n 0, 1) := by decide +kernel
theorem dX8_gather_84 : decode cX8_gather 84 = .ok (.getfield 51, 3) := by decide +kernel
theorem dX8_gather_87 : decode cX8_gather 87 = .ok (.bipush 9, 2) := by decide +kernel
theorem dX8_gather_89 : decode cX8_gather 89 = .ok (.imul, 1) := by decide +kernel
theorem dX8_gather_90 : decode cX8_gather 90 = .ok (.iload_n 3, 1) := by decide +kernel
theorem dX8_gather_91 : decode cX8_gather 91 = .ok (.iadd, 1) := by decide +kernel
theorem dX8_gather_92 : decode cX8_gather 92 = .ok (.bipush 10, 2) := by decide +kernel
theorem dX8_gather_94 : decode cX8_gather 94 = .ok (.aload_n 0, 1) := by decide +kernel
theorem dX8_gather_95 : decode cX8_gather 95 = .ok (.getfield 39, 3) := by decide +kernel
theorem dX8_gather_98 : decode cX8_gather 98 = .ok (.iload_n 2, 1) := by decide +kernel
theorem dX8_gather_99 : decode cX8_gather 99 = .ok (.iload_n 3, 1) := by decide +kernel
theorem dX8_gather_100 : decode cX8_gather 100 = .ok (.invokevirtual 68, 3) := by decide +kernel
theorem dX8_gather_103 : decode cX8_gather 103 = .ok (.isub, 1) := by decide +kernel
theorem dX8_gather_104 : decode cX8_gather 104 = .ok (.iastore, 1) := by decide +kernel
theorem dX8_gather_105 : decode cX8_gather 105 = .ok (.iinc 3 1, 3) := by decide +kernel
theorem dX8_gather_108 : decode cX8_gather 108 = .ok (.goto (-40), 3) := by decide +kernel
theorem dX8_gather_111 : decode cX8_gather 111 = .ok (.aload_n 0, 1) := by decide +kernel
theorem dX8_gather_112 : decode cX8_gather 112 = .ok (.dup, 1) := by decide +kernel
theorem dX8_gather_113 : decode cX8_gather 113 = .ok (.getfield 51, 3) := by decide +kernel
theorem dX8_gather_116 : decode cX8_gather 116 = .ok (.iconst 1, 1) := by decide +kernel
theorem dX8_gather_117 : decode cX8_gather 117 = .ok (.iadd, 1) := by decide +kernel
theorem dX8_gather_118 : decode cX8_gather 118 = .ok (.putfield 51, 3) := by decide +kernel
theorem dX8_gather_121 : decode cX8_gather 121 = .ok (.iload_n 1, 1) := by decide +kernel
theorem dX8_gather_122 : decode cX8_gather 122 = .ok (.aload_n 0, 1) := by decide +kernel
theorem dX8_gather_123 : decode cX8_gather 123 = .ok (.getfield 27, 3) := by decide +kernel
theorem dX8_gather_126 : decode cX8_gather 126 = .ok (.iconst 1, 1) := by decide +kernel
theorem dX8_gather_127 : decode cX8_gather 127 = .ok (.iadd, 1) := by decide +kernel
theorem dX8_gather_128 : decode cX8_gather 128 = .ok (.imul, 1) := by decide +kernel
theorem dX8_gather_129 : decode cX8_gather 129 = .ok (.istore_n 1, 1) := by decide +kernel
theorem dX8_gather_130 : decode cX8_gather 130 = .ok (.iinc 2 1, 3) := by decide +kernel
theorem dX8_gather_133 : decode cX8_gather 133 = .ok (.goto (-124), 3) := by decide +kernel
theorem dX8_gather_136 : decode cX8_gather 136 = .ok (.iload_n 1, 1) := by decide +kernel
theorem dX8_gather_137 : decode cX8_gather 137 = .ok (.ireturn, 1) := by decide +kernel
theorem dX8_spread_0 : decode cX8_spread 0 = .ok (.iload_n 1, 1) := by decide +kernel
theorem dX8_spread_1 : decode cX8_spread 1 = .ok (.istore_n 2, 1) := by decide +kernel
theorem dX8_spread_2 : decode cX8_spread 2 = .ok (.iconst 0, 1) := by decide +kernel
theorem dX8_spread_3 : decode cX8_spread 3 = .ok (.istore_n 3, 1) := by decide +kernel
theorem dX8_spread_4 : decode cX8_spread 4 = .ok (.iconst 0, 1) := by decide +kernel
theorem dX8_spread_5 : decode cX8_spread 5 = .ok (.istore 4, 2) := by decide +kernel
theorem dX8_spread_7 : decode cX8_spread 7 = .ok (.iload 4, 2) := by decide +kernel
theorem dX8_spread_9 : decode cX8_spread 9 = .ok (.aload_n 0, 1) := by decide +kernel
theorem dX8_spread_10 : decode cX8_spread 10 = .ok (.getfield 51, 3) := by decide +kernel
theorem dX8_spread_13 : decode cX8_spread 13 = .ok (.if_icmp .ge 43, 3) := by decide +kernel
theorem dX8_spread_16 : decode cX8_spread 16 = .ok (.aload_n 0, 1) := by decide +kernel
theorem dX8_spread_17 : decode cX8_spread 17 = .ok (.getfield 21, 3) := by decide +kernel
theorem dX8_spread_20 : decode cX8_spread 20 = .ok (.iload 4, 2) := by decide +kernel
theorem dX8_spread_22 : decode cX8_spread 22 = .ok (.iload_n 2, 1) := by decide +kernel
theorem dX8_spread_23 : decode cX8_spread 23 = .ok (.aload_n 0, 1) := by decide +kernel
theorem dX8_spread_24 : decode cX8_spread 24 = .ok (.getfield 27, 3) := by decide +kernel
theorem dX8_spread_27 : decode cX8_spread 27 = .ok (.iconst 1, 1) := by decide +kernel
theorem dX8_spread_28 : decode cX8_spread 28 = .ok (.iadd, 1) := by decide +kernel
theorem dX8_spread_29 : decode cX8_spread 29 = .ok (.irem, 1) := by decide +kernel
theorem dX8_spread_30 : decode cX8_spread 30 = .ok (.iastore, 1) := by decide +kernel
theorem dX8_spread_31 : decode cX8_spread 31 = .ok (.iload_n 2, 1) := by decide +kernel
theorem dX8_spread_32 : decode cX8_spread 32 = .ok (.aload_n 0, 1) := by decide +kernel
theorem dX8_spread_33 : decode cX8_spread 33 = .ok (.getfield 27, 3) := by decide +kernel
theorem dX8_spread_36 : decode cX8_spread 36 = .ok (.iconst 1, 1) := by decide +kernel
theorem dX8_spread_37 : decode cX8_spread 37 = .ok (.iadd, 1) := by decide +kernel
theorem dX8_spread_38 : decode cX8_spread 38 = .ok (.idiv, 1) := by decide +kernel
theorem dX8_spread_39 : decode cX8_spread 39 = .ok (.istore_n 2, 1) := by decide +kernel
theorem dX8_spread_40 : decode cX8_spread 40 = .ok (.iload_n 3, 1) := by decide +kernel
theorem dX8_spread_41 : decode cX8_spread 41 = .ok (.aload_n 0, 1) := by decide +kernel
theorem dX8_spread_42 : decode cX8_spread 42 = .ok (.getfield 21, 3) := by decide +kernel
theorem dX8_spread_45 : decode cX8_spread 45 = .ok (.iload 4, 2) := by decide +kernel
theorem dX8_spread_47 : decode cX8_spread 47 = .ok (.iaload, 1) := by decide +kernel
theorem dX8_spread_48 : decode cX8_spread 48 = .ok (.iadd, 1) := by decide +kernel
theorem dX8_spread_49 : decode cX8_spread 49 = .ok (.istore_n 3, 1) := by decide +kernel
theorem dX8_spread_50 : decode cX8_spread 50 = .ok (.iinc 4 1, 3) := by decide +kernel
theorem dX8_spread_53 : decode cX8_spread 53 = .ok (.goto (-46), 3) := by decide +kernel
theorem dX8_spread_56 : decode cX8_spread 56 = .ok (.iload_n 3, 1) := by decide +kernel
theorem dX8_spread_57 : decode cX8_spread 57 = .ok (.ireturn, 1) := by decide +kernel
theorem dX8_bestFrom_0 : decode cX8_bestFrom 0 = .ok (.aload_n 0, 1) := by decide +kernel
theorem dX8_bestFrom_1 : decode cX8_bestFrom 1 = .ok (.iload_n 1, 1) := by decide +kernel
theorem dX8_bestFrom_2 : decode cX8_bestFrom 2 = .ok (.invokevirtual 73, 3) := by decide +kernel
theorem dX8_bestFrom_5 : decode cX8_bestFrom 5 = .ok (.istore_n 2, 1) := by decide +kernel
theorem dX8_bestFrom_6 : decode cX8_bestFrom 6 = .ok (.iload_n 2, 1) := by decide +kernel
theorem dX8_bestFrom_7 : decode cX8_bestFrom 7 = .ok (.aload_n 0, 1) := by decide +kernel
theorem dX8_bestFrom_8 : decode cX8_bestFrom 8 = .ok (.getfield 31, 3) := by decide +kernel
theorem dX8_bestFrom_11 : decode cX8_bestFrom 11 = .ok (.invokevirtual 65, 3) := by decide +kernel
theorem dX8_bestFrom_14 : decode cX8_bestFrom 14 = .ok (.if_icmp .lt 20, 3) := by decide +kernel
theorem dX8_bestFrom_17 : decode cX8_bestFrom 17 = .ok (.iload_n 2, 1) := by decide +kernel
theorem dX8_bestFrom_18 : decode cX8_bestFrom 18 = .ok (.aload_n 0, 1) := by decide +kernel
theorem dX8_bestFrom_19 : decode cX8_bestFrom 19 = .ok (.getfield 31, 3) := by decide +kernel
theorem dX8_bestFrom_22 : decode cX8_bestFrom 22 = .ok (.invokevirtual 65, 3) := by decide +kernel
theorem dX8_bestFrom_25 : decode cX8_bestFrom 25 = .ok (.if_icmp .ne 7, 3) := by decide +kernel
theorem dX8_bestFrom_28 : decode cX8_bestFrom 28 = .ok (.iconst 0, 1) := by decide +kernel
theorem dX8_bestFrom_29 : decode cX8_bestFrom 29 = .ok (.goto 4, 3) := by decide +kernel
theorem dX8_bestFrom_32 : decode cX8_bestFrom 32 = .ok (.iconst (-1), 1) := by decide +kernel
theorem dX8_bestFrom_33 : decode cX8_bestFrom 33 = .ok (.ireturn, 1) := by decide +kernel
theorem dX8_bestFrom_34 : decode cX8_bestFrom 34 = .ok (.iconst (-1), 1) := by decide +kernel
theorem dX8_bestFrom_35 : decode cX8_bestFrom 35 = .ok (.istore_n 3, 1) := by decide +kernel
theorem dX8_bestFrom_36 : decode cX8_bestFrom 36 = .ok (.iconst 0, 1) := by decide +kernel
theorem dX8_bestFrom_37 : decode cX8_bestFrom 37 = .ok (.istore 4, 2) := by decide +kernel
theorem dX8_bestFrom_39 : decode cX8_bestFrom 39 = .ok (.iload 4, 2) := by decide +kernel
theorem dX8_bestFrom_41 : decode cX8_bestFrom 41 = .ok (.aload_n 0, 1) := by decide +kernel
theorem dX8_bestFrom_42 : decode cX8_bestFrom 42 = .ok (.getfield 51, 3) := by decide +kernel
theorem dX8_bestFrom_45 : decode cX8_bestFrom 45 = .ok (.if_icmp .ge 22, 3) := by decide +kernel
theorem dX8_bestFrom_48 : decode cX8_bestFrom 48 = .ok (.iload_n 3, 1) := by decide +kernel
theorem dX8_bestFrom_49 : decode cX8_bestFrom 49 = .ok (.aload_n 0, 1) := by decide +kernel
theorem dX8_bestFrom_50 : decode cX8_bestFrom 50 = .ok (.iload_n 1, 1) := by decide +kernel
theorem dX8_bestFrom_51 : decode cX8_bestFrom 51 = .ok (.iload 4, 2) := by decide +kernel
theorem dX8_bestFrom_53 : decode cX8_bestFrom 53 = .ok (.iload_n 2, 1) := by decide +kernel
theorem dX8_bestFrom_54 : decode cX8_bestFrom 54 = .ok (.invokevirtual 76, 3) := by decide +kernel
theorem dX8_bestFrom_57 : decode cX8_bestFrom 57 = .ok (.invokestatic 80, 3) := by decide +kernel
theorem dX8_bestFrom_60 : decode cX8_bestFrom 60 = .ok (.istore_n 3, 1) := by decide +kernel
theorem dX8_bestFrom_61 : decode cX8_bestFrom 61 = .ok (.iinc 4 1, 3) := by decide +kernel
theorem dX8_bestFrom_64 : decode cX8_bestFrom 64 = .ok (.goto (-25), 3) := by decide +kernel
theorem dX8_bestFrom_67 : decode cX8_bestFrom 67 = .ok (.iload_n 3, 1) := by decide +kernel
theorem dX8_bestFrom_68 : decode cX8_bestFrom 68 = .ok (.ireturn, 1) := by decide +kernel
theorem dX8_gainBy_0 : decode cX8_gainBy 0 = .ok (.aload_n 0, 1) := by decide +kernel
theorem dX8_gainBy_1 : decode cX8_gainBy 1 = .ok (.getfield 21, 3) := by decide +kernel
theorem dX8_gainBy_4 : decode cX8_gainBy 4 = .ok (.iload_n 2, 1) := by decide +kernel
theorem dX8_gainBy_5 : decode cX8_gainBy 5 = .ok (.iaload, 1) := by decide +kernel
theorem dX8_gainBy_6 : decode cX8_gainBy 6 = .ok (.aload_n 0, 1) := by decide +kernel
theorem dX8_gainBy_7 : decode cX8_gainBy 7 = .ok (.getfield 27, 3) := by decide +kernel
theorem dX8_gainBy_10 : decode cX8_gainBy 10 = .ok (.if_icmp .ge 20, 3) := by decide +kernel
theorem dX8_gainBy_13 : decode cX8_gainBy 13 = .ok (.aload_n 0, 1) := by decide +kernel
theorem dX8_gainBy_14 : decode cX8_gainBy 14 = .ok (.getfield 11, 3) := by decide +kernel
theorem dX8_gainBy_17 : decode cX8_gainBy 17 = .ok (.iload_n 1, 1) := by decide +kernel
theorem dX8_gainBy_18 : decode cX8_gainBy 18 = .ok (.aload_n 0, 1) := by decide +kernel
theorem dX8_gainBy_19 : decode cX8_gainBy 19 = .ok (.getfield 15, 3) := by decide +kernel
theorem dX8_gainBy_22 : decode cX8_gainBy 22 = .ok (.iload_n 2, 1) := by decide +kernel
theorem dX8_gainBy_23 : decode cX8_gainBy 23 = .ok (.iaload, 1) := by decide +kernel
theorem dX8_gainBy_24 : decode cX8_gainBy 24 = .ok (.iadd, 1) := by decide +kernel
theorem dX8_gainBy_25 : decode cX8_gainBy 25 = .ok (.iaload, 1) := by decide +kernel
theorem dX8_gainBy_26 : decode cX8_gainBy 26 = .ok (.iconst (-1), 1) := by decide +kernel
theorem dX8_gainBy_27 : decode cX8_gainBy 27 = .ok (.if_icmp .ne 5, 3) := by decide +kernel
theorem dX8_gainBy_30 : decode cX8_gainBy 30 = .ok (.iconst (-1), 1) := by decide +kernel
theorem dX8_gainBy_31 : decode cX8_gainBy 31 = .ok (.ireturn, 1) := by decide +kernel
theorem dX8_gainBy_32 : decode cX8_gainBy 32 = .ok (.aload_n 0, 1) := by decide +kernel
theorem dX8_gainBy_33 : decode cX8_gainBy 33 = .ok (.getfield 24, 3) := by decide +kernel
theorem dX8_gainBy_36 : decode cX8_gainBy 36 = .ok (.iload_n 2, 1) := by decide +kernel
theorem dX8_gainBy_37 : decode cX8_gainBy 37 = .ok (.bipush 9, 2) := by decide +kernel
theorem dX8_gainBy_39 : decode cX8_gainBy 39 = .ok (.imul, 1) := by decide +kernel
theorem dX8_gainBy_40 : decode cX8_gainBy 40 = .ok (.iload_n 3, 1) := by decide +kernel
theorem dX8_gainBy_41 : decode cX8_gainBy 41 = .ok (.iadd, 1) := by decide +kernel
theorem dX8_gainBy_42 : decode cX8_gainBy 42 = .ok (.iaload, 1) := by decide +kernel
theorem dX8_gainBy_43 : decode cX8_gainBy 43 = .ok (.aload_n 0, 1) := by decide +kernel
theorem dX8_gainBy_44 : decode cX8_gainBy 44 = .ok (.getfield 11, 3) := by decide +kernel
theorem dX8_gainBy_47 : decode cX8_gainBy 47 = .ok (.iload_n 1, 1) := by decide +kernel
theorem dX8_gainBy_48 : decode cX8_gainBy 48 = .ok (.aload_n 0, 1) := by decide +kernel
theorem dX8_gainBy_49 : decode cX8_gainBy 49 = .ok (.getfield 15, 3) := by decide +kernel
theorem dX8_gainBy_52 : decode cX8_gainBy 52 = .ok (.iload_n 2, 1) := by decide +kernel
theorem dX8_gainBy_53 : decode cX8_gainBy 53 = .ok (.iaload, 1) := by decide +kernel
theorem dX8_gainBy_54 : decode cX8_gainBy 54 = .ok (.iadd, 1) := by decide +kernel
theorem dX8_gainBy_55 : decode cX8_gainBy 55 = .ok (.iaload, 1) := by decide +kernel
theorem dX8_gainBy_56 : decode cX8_gainBy 56 = .ok (.iadd, 1) := by decide +kernel
theorem dX8_gainBy_57 : decode cX8_gainBy 57 = .ok (.ireturn, 1) := by decide +kernel
theorem dX8_leastRow_0 : decode cX8_leastRow 0 = .ok (.iconst 0, 1) := by decide +kernel
theorem dX8_leastRow_1 : decode cX8_leastRow 1 = .ok (.istore_n 1, 1) := by decide +kernel
theorem dX8_leastRow_2 : decode cX8_leastRow 2 = .ok (.iconst 0, 1) := by decide +kernel
theorem dX8_leastRow_3 : decode cX8_leastRow 3 = .ok (.istore_n 2, 1) := by decide +kernel
theorem dX8_leastRow_4 : decode cX8_leastRow 4 = .ok (.iconst 0, 1) := by decide +kernel
theorem dX8_leastRow_5 : decode cX8_leastRow 5 = .ok (.istore_n 3, 1) := by decide +kernel
theorem dX8_leastRow_6 : decode cX8_leastRow 6 = .ok (.iload_n 3, 1) := by decide +kernel
theorem dX8_leastRow_7 : decode cX8_leastRow 7 = .ok (.aload_n 0, 1) := by decide +kernel
theorem dX8_leastRow_8 : decode cX8_leastRow 8 = .ok (.getfield 31, 3) := by decide +kernel
theorem dX8_leastRow_11 : decode cX8_leastRow 11 = .ok (.invokevirtual 65, 3) := by decide +kernel
theorem dX8_leastRow_14 : decode cX8_leastRow 14 = .ok (.if_icmp .ge 75, 3) := by decide +kernel
theorem dX8_leastRow_17 : decode cX8_leastRow 17 = .ok (.aload_n 0, 1) := by decide +kernel
theorem dX8_leastRow_18 : decode cX8_leastRow 18 = .ok (.iload_n 1, 1) := by decide +kernel
theorem dX8_leastRow_19 : decode cX8_leastRow 19 = .ok (.invokevirtual 73, 3) := by decide +kernel
theorem dX8_leastRow_22 : decode cX8_leastRow 22 = .ok (.pop, 1) := by decide +kernel
theorem dX8_leastRow_23 : decode cX8_leastRow 23 = .ok (.iconst 0, 1) := by decide +kernel
theorem dX8_leastRow_24 : decode cX8_leastRow 24 = .ok (.istore 4, 2) := by decide +kernel
theorem dX8_leastRow_26 : decode cX8_leastRow 26 = .ok (.iload 4, 2) := by decide +kernel
theorem dX8_leastRow_28 : decode cX8_leastRow 28 = .ok (.aload_n 0, 1) := by decide +kernel
theorem dX8_leastRow_29 : decode cX8_leastRow 29 = .ok (.getfield 51, 3) := by decide +kernel
theorem dX8_leastRow_32 : decode cX8_leastRow 32 = .ok (.iconst 1, 1) := by decide +kernel
theorem dX8_leastRow_33 : decode cX8_leastRow 33 = .ok (.isub, 1) := by decide +kernel
theorem dX8_leastRow_34 : decode cX8_leastRow 34 = .ok (.if_icmp .ge 26, 3) := by decide +kernel
theorem dX8_leastRow_37 : decode cX8_leastRow 37 = .ok (.aload_n 0, 1) := by decide +kernel
theorem dX8_leastRow_38 : decode cX8_leastRow 38 = .ok (.iload_n 1, 1) := by decide +kernel
theorem dX8_leastRow_39 : decode cX8_leastRow 39 = .ok (.iload 4, 2) := by decide +kernel
theorem dX8_leastRow_41 : decode cX8_leastRow 41 = .ok (.iload_n 3, 1) := by decide +kernel
theorem dX8_leastRow_42 : decode cX8_leastRow 42 = .ok (.invokevirtual 76, 3) := by decide +kernel
theorem dX8_leastRow_45 : decode cX8_leastRow 45 = .ok (.aload_n 0, 1) := by decide +kernel
theorem dX8_leastRow_46 : decode cX8_leastRow 46 = .ok (.getfield 11, 3) := by decide +kernel
theorem dX8_leastRow_49 : decode cX8_leastRow 49 = .ok (.iload_n 1, 1) := by decide +kernel
theorem dX8_leastRow_50 : decode cX8_leastRow 50 = .ok (.iaload, 1) := by decide +kernel
theorem dX8_leastRow_51 : decode cX8_leastRow 51 = .ok (.if_icmp .eq 9, 3) := by decide +kernel
theorem dX8_leastRow_54 : decode cX8_leastRow 54 = .ok (.iinc 4 1, 3) := by decide +kernel
theorem dX8_leastRow_57 : decode cX8_leastRow 57 = .ok (.goto (-31), 3) := by decide +kernel
theorem dX8_leastRow_60 : decode cX8_leastRow 60 = .ok (.iload_n 2, 1) := by decide +kernel
theorem dX8_leastRow_61 : decode cX8_leastRow 61 = .ok (.bipush 10, 2) := by decide +kernel
theorem dX8_leastRow_63 : decode cX8_leastRow 63 = .ok (.imul, 1) := by decide +kernel
theorem dX8_leastRow_64 : decode cX8_leastRow 64 = .ok (.aload_n 0, 1) := by decide +kernel
theorem dX8_leastRow_65 : decode cX8_leastRow 65 = .ok (.getfield 18, 3) := by decide +kernel
theorem dX8_leastRow_68 : decode cX8_leastRow 68 = .ok (.iload 4, 2) := by decide +kernel
theorem dX8_leastRow_70 : decode cX8_leastRow 70 = .ok (.iaload, 1) := by decide +kernel
theorem dX8_leastRow_71 : decode cX8_leastRow 71 = .ok (.iadd, 1) := by decide +kernel
theorem dX8_leastRow_72 : decode cX8_leastRow 72 = .ok (.istore_n 2, 1) := by decide +kernel
theorem dX8_leastRow_73 : decode cX8_leastRow 73 = .ok (.iload_n 1, 1) := by decide +kernel
theorem dX8_leastRow_74 : decode cX8_leastRow 74 = .ok (.aload_n 0, 1) := by decide +kernel
theorem dX8_leastRow_75 : decode cX8_leastRow 75 = .ok (.getfield 15, 3) := by decide +kernel
theorem dX8_leastRow_78 : decode cX8_leastRow 78 = .ok (.iload 4, 2) := by decide +kernel
theorem dX8_leastRow_80 : decode cX8_leastRow 80 = .ok (.iaload, 1) := by decide +kernel
theorem dX8_leastRow_81 : decode cX8_leastRow 81 = .ok (.iadd, 1) := by decide +kernel
theorem dX8_leastRow_82 : decode cX8_leastRow 82 = .ok (.istore_n 1, 1) := by decide +kernel
theorem dX8_leastRow_83 : decode cX8_leastRow 83 = .ok (.iinc 3 1, 3) := by decide +kernel
theorem dX8_leastRow_86 : decode cX8_leastRow 86 = .ok (.goto (-80), 3) := by decide +kernel
theorem dX8_leastRow_89 : decode cX8_leastRow 89 = .ok (.iload_n 2, 1) := by decide +kernel
theorem dX8_leastRow_90 : decode cX8_leastRow 90 = .ok (.ireturn, 1) := by decide +kernel
theorem dX9_init_0 : decode cX9_init 0 = .ok (.aload_n 0, 1) := by decide +kernel
theorem dX9_init_1 : decode cX9_init 1 = .ok (.invokespecial 3, 3) := by decide +kernel
theorem dX9_init_4 : decode cX9_init 4 = .ok (.aload_n 0, 1) := by decide +kernel
theorem dX9_init_5 : decode cX9_init 5 = .ok (.iconst 3, 1) := by decide +kernel
theorem dX9_init_6 : decode cX9_init 6 = .ok (.newarray .int, 2) := by decide +kernel
theorem dX9_init_8 : decode cX9_init 8 = .ok (.putfield 11, 3) := by decide +kernel
theorem dX9_init_11 : decode cX9_init 11 = .ok (.aload_n 0, 1) := by decide +kernel
theorem dX9_init_12 : decode cX9_init 12 = .ok (.bipush 40, 2) := by decide +kernel
theorem dX9_init_14 : decode cX9_init 14 = .ok (.newarray .int, 2) := by decide +kernel
theorem dX9_init_16 : decode cX9_init 16 = .ok (.putfield 15, 3) := by decide +kernel
theorem dX9_init_19 : decode cX9_init 19 = .ok (.return_, 1) := by decide +kernel
theorem dX9_crowd_0 : decode cX9_crowd 0 = .ok (.aload_n 0, 1) := by decide +kernel
theorem dX9_crowd_1 : decode cX9_crowd 1 = .ok (.getfield 18, 3) := by decide +kernel
theorem dX9_crowd_4 : decode cX9_crowd 4 = .ok (.ireturn, 1) := by decide +kernel
theorem dX9_hours_0 : decode cX9_hours 0 = .ok (.aload_n 0, 1) := by decide +kernel
theorem dX9_hours_1 : decode cX9_hours 1 = .ok (.getfield 11, 3) := by decide +kernel
theorem dX9_hours_4 : decode cX9_hours 4 = .ok (.iconst 0, 1) := by decide +kernel
theorem dX9_hours_5 : decode cX9_hours 5 = .ok (.iaload, 1) := by decide +kernel
theorem dX9_hours_6 : decode cX9_hours 6 = .ok (.ireturn, 1) := by decide +kernel
theorem dX9_ruled_0 : decode cX9_ruled 0 = .ok (.aload_n 0, 1) := by decide +kernel
theorem dX9_ruled_1 : decode cX9_ruled 1 = .ok (.getfield 11, 3) := by decide +kernel
theorem dX9_ruled_4 : decode cX9_ruled 4 = .ok (.iload_n 1, 1) := by decide +kernel
theorem dX9_ruled_5 : decode cX9_ruled 5 = .ok (.iaload, 1) := by decide +kernel
theorem dX9_ruled_6 : decode cX9_ruled 6 = .ok (.ireturn, 1) := by decide +kernel
theorem dX9_told_0 : decode cX9_told 0 = .ok (.aload_n 0, 1) := by decide +kernel
theorem dX9_told_1 : decode cX9_told 1 = .ok (.getfield 15, 3) := by decide +kernel
theorem dX9_told_4 : decode cX9_told 4 = .ok (.iload_n 1, 1) := by decide +kernel
theorem dX9_told_5 : decode cX9_told 5 = .ok (.iconst 5, 1) := by decide +kernel
theorem dX9_told_6 : decode cX9_told 6 = .ok (.imul, 1) := by decide +kernel
theorem dX9_told_7 : decode cX9_told 7 = .ok (.iload_n 2, 1) := by decide +kernel
theorem dX9_told_8 : decode cX9_told 8 = .ok (.iadd, 1) := by decide +kernel
theorem dX9_told_9 : decode cX9_told 9 = .ok (.iaload, 1) := by decide +kernel
theorem dX9_told_10 : decode cX9_told 10 = .ok (.ireturn, 1) := by decide +kernel
theorem dX9_spouse_0 : decode cX9_spouse 0 = .ok (.aload_n 0, 1) := by decide +kernel
theorem dX9_spouse_1 : decode cX9_spouse 1 = .ok (.getfield 15, 3) := by decide +kernel
theorem dX9_spouse_4 : decode cX9_spouse 4 = .ok (.iload_n 1, 1) := by decide +kernel
theorem dX9_spouse_5 : decode cX9_spouse 5 = .ok (.iconst 5, 1) := by decide +kernel
theorem dX9_spouse_6 : decode cX9_spouse 6 = .ok (.imul, 1) := by decide +kernel
theorem dX9_spouse_7 : decode cX9_spouse 7 = .ok (.iconst 4, 1) := by decide +kernel
theorem dX9_spouse_8 : decode cX9_spouse 8 = .ok (.iadd, 1) := by decide +kernel
theorem dX9_spouse_9 : decode cX9_spouse 9 = .ok (.iaload, 1) := by decide +kernel
theorem dX9_spouse_10 : decode cX9_spouse 10 = .ok (.istore_n 2, 1) := by decide +kernel
theorem dX9_spouse_11 : decode cX9_spouse 11 = .ok (.iload_n 2, 1) := by decide +kernel
theorem dX9_spouse_12 : decode cX9_spouse 12 = .ok (.aload_n 0, 1) := by decide +kernel
theorem dX9_spouse_13 : decode cX9_spouse 13 = .ok (.getfield 18, 3) := by decide +kernel
theorem dX9_spouse_16 : decode cX9_spouse 16 = .ok (.if_icmp .ge 7, 3) := by decide +kernel
theorem dX9_spouse_19 : decode cX9_spouse 19 = .ok (.iload_n 2, 1) := by decide +kernel
theorem dX9_spouse_20 : decode cX9_spouse 20 = .ok (.goto 4, 3) := by decide +kernel
theorem dX9_spouse_23 : decode cX9_spouse 23 = .ok (.iconst (-1), 1) := by decide +kernel
theorem dX9_spouse_24 : decode cX9_spouse 24 = .ok (.ireturn, 1) := by decide +kernel
theorem dX9_copyFrom_0 : decode cX9_copyFrom 0 = .ok (.aload_n 1, 1) := by decide +kernel
theorem dX9_copyFrom_1 : decode cX9_copyFrom 1 = .ok (.getfield 11, 3) := by decide +kernel
theorem dX9_copyFrom_4 : decode cX9_copyFrom 4 = .ok (.iconst 0, 1) := by decide +kernel
theorem dX9_copyFrom_5 : decode cX9_copyFrom 5 = .ok (.aload_n 0, 1) := by decide +kernel
theorem dX9_copyFrom_6 : decode cX9_copyFrom 6 = .ok (.getfield 11, 3) := by decide +kernel
theorem dX9_copyFrom_9 : decode cX9_copyFrom 9 = .ok (.iconst 0, 1) := by decide +kernel
theorem dX9_copyFrom_10 : decode cX9_copyFrom 10 = .ok (.iconst 3, 1) := by decide +kernel
theorem dX9_copyFrom_11 : decode cX9_copyFrom 11 = .ok (.invokestatic 22, 3) := by decide +kernel
theorem dX9_copyFrom_14 : decode cX9_copyFrom 14 = .ok (.aload_n 1, 1) := by decide +kernel
theorem dX9_copyFrom_15 : decode cX9_copyFrom 15 = .ok (.getfield 15, 3) := by decide +kernel
theorem dX9_copyFrom_18 : decode cX9_copyFrom 18 = .ok (.iconst 0, 1) := by decide +kernel
theorem dX9_copyFrom_19 : decode cX9_copyFrom 19 = .ok (.aload_n 0, 1) := by decide +kernel
theorem dX9_copyFrom_20 : decode cX9_copyFrom 20 = .ok (.getfield 15, 3) := by decide +kernel
theorem dX9_copyFrom_23 : decode cX9_copyFrom 23 = .ok (.iconst 0, 1) := by decide +kernel
theorem dX9_copyFrom_24 : decode cX9_copyFrom 24 = .ok (.aload_n 0, 1) := by decide +kernel
theorem dX9_copyFrom_25 : decode cX9_copyFrom 25 = .ok (.getfield 15, 3) := by decide +kernel
theorem dX9_copyFrom_28 : decode cX9_copyFrom 28 = .ok (.arraylength, 1) := by decide +kernel
theorem dX9_copyFrom_29 : decode cX9_copyFrom 29 = .ok (.invokestatic 22, 3) := by decide +kernel
theorem dX9_copyFrom_32 : decode cX9_copyFrom 32 = .ok (.aload_n 0, 1) := by decide +kernel
theorem dX9_copyFrom_33 : decode cX9_copyFrom 33 = .ok (.aload_n 1, 1) := by decide +kernel
theorem dX9_copyFrom_34 : decode cX9_copyFrom 34 = .ok (.getfield 18, 3) := by decide +kernel
theorem dX9_copyFrom_37 : decode cX9_copyFrom 37 = .ok (.putfield 18, 3) := by decide +kernel
theorem dX9_copyFrom_40 : decode cX9_copyFrom 40 = .ok (.return_, 1) := by decide +kernel
theorem dX9_read_0 : decode cX9_read 0 = .ok (.aload_n 1, 1) := by decide +kernel
theorem dX9_read_1 : decode cX9_read 1 = .ok (.invokevirtual 28, 3) := by decide +kernel
theorem dX9_read_4 : decode cX9_read 4 = .ok (.aload_n 0, 1) := by decide +kernel
theorem dX9_read_5 : decode cX9_read 5 = .ok (.iconst 0, 1) := by decide +kernel
theorem dX9_read_6 : decode cX9_read 6 = .ok (.putfield 18, 3) := by decide +kernel
theorem dX9_read_9 : decode cX9_read 9 = .ok (.aload_n 0, 1) := by decide +kernel
theorem dX9_read_10 : decode cX9_read 10 = .ok (.iconst 0, 1) := by decide +kernel
theorem dX9_read_11 : decode cX9_read 11 = .ok (.putfield 33, 3) := by decide +kernel
theorem dX9_read_14 : decode cX9_read 14 = .ok (.getstatic 37, 3) := by decide +kernel
theorem dX9_read_17 : decode cX9_read 17 = .ok (.iconst 0, 1) := by decide +kernel
theorem dX9_read_18 : decode cX9_read 18 = .ok (.aload_n 0, 1) := by decide +kernel
theorem dX9_read_19 : decode cX9_read 19 = .ok (.getfield 11, 3) := by decide +kernel
theorem dX9_read_22 : decode cX9_read 22 = .ok (.iconst 0, 1) := by decide +kernel
theorem dX9_read_23 : decode cX9_read 23 = .ok (.iconst 3, 1) := by decide +kernel
theorem dX9_read_24 : decode cX9_read 24 = .ok (.invokestatic 22, 3) := by decide +kernel
theorem dX9_read_27 : decode cX9_read 27 = .ok (.aload_n 0, 1) := by decide +kernel
theorem dX9_read_28 : decode cX9_read 28 = .ok (.aload_n 1, 1) := by decide +kernel
theorem dX9_read_29 : decode cX9_read 29 = .ok (.invokevirtual 40, 3) := by decide +kernel
theorem dX9_read_32 : decode cX9_read 32 = .ok (.istore_n 2, 1) := by decide +kernel
theorem dX9_read_33 : decode cX9_read 33 = .ok (.iconst 0, 1) := by decide +kernel
theorem dX9_read_34 : decode cX9_read 34 = .ok (.istore_n 3, 1) := by decide +kernel
theorem dX9_read_35 : decode cX9_read 35 = .ok (.iload_n 3, 1) := by decide +kernel
theorem dX9_read_36 : decode cX9_read 36 = .ok (.sipush 240, 3) := by decide +kernel
theorem dX9_read_39 : decode cX9_read 39 = .ok (.if_icmp .ge 32, 3) := by decide +kernel
theorem dX9_read_42 : decode cX9_read 42 = .ok (.iload_n 2, 1) := by decide +kernel
theorem dX9_read_43 : decode cX9_read 43 = .ok (.ifCond .eq 28, 3) := by decide +kernel
theorem dX9_read_46 : decode cX9_read 46 = .ok (.aload_n 1, 1) := by decide +kernel
theorem dX9_read_47 : decode cX9_read 47 = .ok (.invokevirtual 44, 3) := by decide +kernel
theorem dX9_read_50 : decode cX9_read 50 = .ok (.bipush 59, 2) := by decide +kernel
theorem dX9_read_52 : decode cX9_read 52 = .ok (.if_icmp .ne 19, 3) := by decide +kernel
theorem dX9_read_55 : decode cX9_read 55 = .ok (.aload_n 1, 1) := by decide +kernel
theorem dX9_read_56 : decode cX9_read 56 = .ok (.invokevirtual 48, 3) := by decide +kernel
theorem dX9_read_59 : decode cX9_read 59 = .ok (.aload_n 0, 1) := by decide +kernel
theorem dX9_read_60 : decode cX9_read 60 = .ok (.aload_n 1, 1) := by decide +kernel
theorem dX9_read_61 : decode cX9_read 61 = .ok (.invokevirtual 40, 3) := by decide +kernel
theorem dX9_read_64 : decode cX9_read 64 = .ok (.istore_n 2, 1) := by decide +kernel
theorem dX9_read_65 : decode cX9_read 65 = .ok (.iinc 3 1, 3) := by decide +kernel
theorem dX9_read_68 : decode cX9_read 68 = .ok (.goto (-33), 3) := by decide +kernel
theorem dX9_read_71 : decode cX9_read 71 = .ok (.iload_n 2, 1) := by decide +kernel
theorem dX9_read_72 : decode cX9_read 72 = .ok (.ifCond .eq 30, 3) := by decide +kernel
theorem dX9_read_75 : decode cX9_read 75 = .ok (.aload_n 1, 1) := by decide +kernel
theorem dX9_read_76 : decode cX9_read 76 = .ok (.invokevirtual 44, 3) := by decide +kernel
theorem dX9_read_79 : decode cX9_read 79 = .ok (.iconst (-1), 1) := by decide +kernel
theorem dX9_read_80 : decode cX9_read 80 = .ok (.if_icmp .ne 17, 3) := by decide +kernel
theorem dX9_read_83 : decode cX9_read 83 = .ok (.aload_n 0, 1) := by decide +kernel
theorem dX9_read_84 : decode cX9_read 84 = .ok (.getfield 18, 3) := by decide +kernel
theorem dX9_read_87 : decode cX9_read 87 = .ok (.ifCond .eq 10, 3) := by decide +kernel
theorem dX9_read_90 : decode cX9_read 90 = .ok (.aload_n 0, 1) := by decide +kernel
theorem dX9_read_91 : decode cX9_read 91 = .ok (.invokevirtual 51, 3) := by decide +kernel
theorem dX9_read_94 : decode cX9_read 94 = .ok (.ifCond .ne 8, 3) := by decide +kernel
theorem dX9_read_97 : decode cX9_read 97 = .ok (.aload_n 1, 1) := by decide +kernel
theorem dX9_read_98 : decode cX9_read 98 = .ok (.invokevirtual 55, 3) := by decide +kernel
theorem dX9_read_101 : decode cX9_read 101 = .ok (.pop, 1) := by decide +kernel
theorem dX9_read_102 : decode cX9_read 102 = .ok (.aload_n 1, 1) := by decide +kernel
theorem dX9_read_103 : decode cX9_read 103 = .ok (.invokevirtual 58, 3) := by decide +kernel
theorem dX9_read_106 : decode cX9_read 106 = .ok (.ireturn, 1) := by decide +kernel
theorem dX9_readClause_0 : decode cX9_readClause 0 = .ok (.aload_n 1, 1) := by decide +kernel
theorem dX9_readClause_1 : decode cX9_readClause 1 = .ok (.invokevirtual 44, 3) := by decide +kernel
theorem dX9_readClause_4 : decode cX9_readClause 4 = .ok (.istore_n 2, 1) := by decide +kernel
theorem dX9_readClause_5 : decode cX9_readClause 5 = .ok (.iload_n 2, 1) := by decide +kernel
theorem dX9_readClause_6 : decode cX9_readClause 6 = .ok (.bipush 115, 2) := by decide +kernel
theorem dX9_readClause_8 : decode cX9_readClause 8 = .ok (.if_icmp .ne 37, 3) := by decide +kernel
theorem dX9_readClause_11 : decode cX9_readClause 11 = .ok (.aload_n 0, 1) := by decide +kernel
theorem dX9_readClause_12 : decode cX9_readClause 12 = .ok (.getfield 33, 3) := by decide +kernel
theorem dX9_readClause_15 : decode cX9_readClause 15 = .ok (.ifCond .ne 30, 3) := by decide +kernel
theorem dX9_readClause_18 : decode cX9_readClause 18 = .ok (.aload_n 1, 1) := by decide +kernel
theorem dX9_readClause_19 : decode cX9_readClause 19 = .ok (.invokevirtual 48, 3) := by decide +kernel
theorem dX9_readClause_22 : decode cX9_readClause 22 = .ok (.aload_n 0, 1) := by decide +kernel
theorem dX9_readClause_23 : decode cX9_readClause 23 = .ok (.iconst 1, 1) := by decide +kernel
theorem dX9_readClause_24 : decode cX9_readClause 24 = .ok (.putfield 33, 3) := by decide +kernel
theorem dX9_readClause_27 : decode cX9_readClause 27 = .ok (.aload_n 1, 1) := by decide +kernel
theorem dX9_readClause_28 : decode cX9_readClause 28 = .ok (.ldc 61, 2) := by decide +kernel
theorem dX9_readClause_30 : decode cX9_readClause 30 = .ok (.getstatic 63, 3) := by decide +kernel
theorem dX9_readClause_33 : decode cX9_readClause 33 = .ok (.getstatic 66, 3) := by decide +kernel
theorem dX9_readClause_36 : decode cX9_readClause 36 = .ok (.aload_n 0, 1) := by decide +kernel
theorem dX9_readClause_37 : decode cX9_readClause 37 = .ok (.getfield 11, 3) := by decide +kernel
theorem dX9_readClause_40 : decode cX9_readClause 40 = .ok (.iconst 0, 1) := by decide +kernel
theorem dX9_readClause_41 : decode cX9_readClause 41 = .ok (.invokestatic 69, 3) := by decide +kernel
theorem dX9_readClause_44 : decode cX9_readClause 44 = .ok (.ireturn, 1) := by decide +kernel
theorem dX9_readClause_45 : decode cX9_readClause 45 = .ok (.iload_n 2, 1) := by decide +kernel
theorem dX9_readClause_46 : decode cX9_readClause 46 = .ok (.bipush 112, 2) := by decide +kernel
theorem dX9_readClause_48 : decode cX9_readClause 48 = .ok (.if_icmp .ne 64, 3) := by decide +kernel
theorem dX9_readClause_51 : decode cX9_readClause 51 = .ok (.aload_n 0, 1) := by decide +kernel
theorem dX9_readClause_52 : decode cX9_readClause 52 = .ok (.getfield 18, 3) := by decide +kernel
theorem dX9_readClause_55 : decode cX9_readClause 55 = .ok (.bipush 8, 2) := by decide +kernel
theorem dX9_readClause_57 : decode cX9_readClause 57 = .ok (.if_icmp .ge 55, 3) := by decide +kernel
theorem dX9_readClause_60 : decode cX9_readClause 60 = .ok (.aload_n 1, 1) := by decide +kernel
theorem dX9_readClause_61 : decode cX9_readClause 61 = .ok (.invokevirtual 48, 3) := by decide +kernel
theorem dX9_readClause_64 : decode cX9_readClause 64 = .ok (.aload_n 0, 1) := by decide +kernel
theorem dX9_readClause_65 : decode cX9_readClause 65 = .ok (.getfield 18, 3) := by decide +kernel
theorem dX9_readClause_68 : decode cX9_readClause 68 = .ok (.iconst 5, 1) := by decide +kernel
theorem dX9_readClause_69 : decode cX9_readClause 69 = .ok (.imul, 1) := by decide +kernel
theorem dX9_readClause_70 : decode cX9_readClause 70 = .ok (.istore_n 3, 1) := by decide +kernel
theorem dX9_readClause_71 : decode cX9_readClause 71 = .ok (.aload_n 0, 1) := by decide +kernel
theorem dX9_readClause_72 : decode cX9_readClause 72 = .ok (.dup, 1) := by decide +kernel
theorem dX9_readClause_73 : decode cX9_readClause 73 = .ok (.getfield 18, 3) := by decide +kernel
theorem dX9_readClause_76 : decode cX9_readClause 76 = .ok (.iconst 1, 1) := by decide +kernel
theorem dX9_readClause_77 : decode cX9_readClause 77 = .ok (.iadd, 1) := by decide +kernel
theorem dX9_readClause_78 : decode cX9_readClause 78 = .ok (.putfield 18, 3) := by decide +kernel
theorem dX9_readClause_81 : decode cX9_readClause 81 = .ok (.getstatic 73, 3) := by decide +kernel
theorem dX9_readClause_84 : decode cX9_readClause 84 = .ok (.iconst 0, 1) := by decide +kernel
theorem dX9_readClause_85 : decode cX9_readClause 85 = .ok (.aload_n 0, 1) := by decide +kernel
theorem dX9_readClause_86 : decode cX9_readClause 86 = .ok (.getfield 15, 3) := by decide +kernel
theorem dX9_readClause_89 : decode cX9_readClause 89 = .ok (.iload_n 3, 1) := by decide +kernel
theorem dX9_readClause_90 : decode cX9_readClause 90 = .ok (.iconst 5, 1) := by decide +kernel
theorem dX9_readClause_91 : decode cX9_readClause 91 = .ok (.invokestatic 22, 3) := by decide +kernel
theorem dX9_readClause_94 : decode cX9_readClause 94 = .ok (.aload_n 1, 1) := by decide +kernel
theorem dX9_readClause_95 : decode cX9_readClause 95 = .ok (.ldc 76, 2) := by decide +kernel
theorem dX9_readClause_97 : decode cX9_readClause 97 = .ok (.getstatic 78, 3) := by decide +kernel
theorem dX9_readClause_100 : decode cX9_readClause 100 = .ok (.getstatic 81, 3) := by decide +kernel
theorem dX9_readClause_103 : decode cX9_readClause 103 = .ok (.aload_n 0, 1) := by decide +kernel
theorem dX9_readClause_104 : decode cX9_readClause 104 = .ok (.getfield 15, 3) := by decide +kernel
theorem dX9_readClause_107 : decode cX9_readClause 107 = .ok (.iload_n 3, 1) := by decide +kernel
theorem dX9_readClause_108 : decode cX9_readClause 108 = .ok (.invokestatic 69, 3) := by decide +kernel
theorem dX9_readClause_111 : decode cX9_readClause 111 = .ok (.ireturn, 1) := by decide +kernel
theorem dX9_readClause_112 : decode cX9_readClause 112 = .ok (.aload_n 1, 1) := by decide +kernel
theorem dX9_readClause_113 : decode cX9_readClause 113 = .ok (.invokevirtual 55, 3) := by decide +kernel
theorem dX9_readClause_116 : decode cX9_readClause 116 = .ok (.ireturn, 1) := by decide +kernel
theorem dX9_readItems_0 : decode cX9_readItems 0 = .ok (.iconst 0, 1) := by decide +kernel
theorem dX9_readItems_1 : decode cX9_readItems 1 = .ok (.istore 6, 2) := by decide +kernel
theorem dX9_readItems_3 : decode cX9_readItems 3 = .ok (.iconst 0, 1) := by decide +kernel
theorem dX9_readItems_4 : decode cX9_readItems 4 = .ok (.istore 7, 2) := by decide +kernel
theorem dX9_readItems_6 : decode cX9_readItems 6 = .ok (.iload 7, 2) := by decide +kernel
theorem dX9_readItems_8 : decode cX9_readItems 8 = .ok (.aload_n 1, 1) := by decide +kernel
theorem dX9_readItems_9 : decode cX9_readItems 9 = .ok (.invokevirtual 84, 3) := by decide +kernel
theorem dX9_readItems_12 : decode cX9_readItems 12 = .ok (.if_icmp .ge 79, 3) := by decide +kernel
theorem dX9_readItems_15 : decode cX9_readItems 15 = .ok (.aload_n 0, 1) := by decide +kernel
theorem dX9_readItems_16 : decode cX9_readItems 16 = .ok (.aload_n 1, 1) := by decide +kernel
theorem dX9_readItems_17 : decode cX9_readItems 17 = .ok (.invokestatic 89, 3) := by decide +kernel
theorem dX9_readItems_20 : decode cX9_readItems 20 = .ok (.istore 8, 2) := by decide +kernel
theorem dX9_readItems_22 : decode cX9_readItems 22 = .ok (.iload 8, 2) := by decide +kernel
theorem dX9_readItems_24 : decode cX9_readItems 24 = .ok (.iconst (-1), 1) := by decide +kernel
theorem dX9_readItems_25 : decode cX9_readItems 25 = .ok (.if_icmp .eq 14, 3) := by decide +kernel
theorem dX9_readItems_28 : decode cX9_readItems 28 = .ok (.iload 6, 2) := by decide +kernel
theorem dX9_readItems_30 : decode cX9_readItems 30 = .ok (.iload 8, 2) := by decide +kernel
theorem dX9_readItems_32 : decode cX9_readItems 32 = .ok (.ishr, 1) := by decide +kernel
theorem dX9_readItems_33 : decode cX9_readItems 33 = .ok (.iconst 1, 1) := by decide +kernel
theorem dX9_readItems_34 : decode cX9_readItems 34 = .ok (.iand, 1) := by decide +kernel
theorem dX9_readItems_35 : decode cX9_readItems 35 = .ok (.iconst 1, 1) := by decide +kernel
theorem dX9_readItems_36 : decode cX9_readItems 36 = .ok (.if_icmp .ne 8, 3) := by decide +kernel
theorem dX9_readItems_39 : decode cX9_readItems 39 = .ok (.aload_n 0, 1) := by decide +kernel
theorem dX9_readItems_40 : decode cX9_readItems 40 = .ok (.invokestatic 93, 3) := by decide +kernel
theorem dX9_readItems_43 : decode cX9_readItems 43 = .ok (.ireturn, 1) := by decide +kernel
theorem dX9_readItems_44 : decode cX9_readItems 44 = .ok (.iload 6, 2) := by decide +kernel
theorem dX9_readItems_46 : decode cX9_readItems 46 = .ok (.iconst 1, 1) := by decide +kernel
theorem dX9_readItems_47 : decode cX9_readItems 47 = .ok (.iload 8, 2) := by decide +kernel
theorem dX9_readItems_49 : decode cX9_readItems 49 = .ok (.ishl, 1) := by decide +kernel
theorem dX9_readItems_50 : decode cX9_readItems 50 = .ok (.ior, 1) := by decide +kernel
theorem dX9_readItems_51 : decode cX9_readItems 51 = .ok (.istore 6, 2) := by decide +kernel
theorem dX9_readItems_53 : decode cX9_readItems 53 = .ok (.aload_n 0, 1) := by decide +kernel
theorem dX9_readItems_54 : decode cX9_readItems 54 = .ok (.aload_n 2, 1) := by decide +kernel
theorem dX9_readItems_55 : decode cX9_readItems 55 = .ok (.iload 8, 2) := by decide +kernel
theorem dX9_readItems_57 : decode cX9_readItems 57 = .ok (.iaload, 1) := by decide +kernel
theorem dX9_readItems_58 : decode cX9_readItems 58 = .ok (.aload_n 3, 1) := by decide +kernel
theorem dX9_readItems_59 : decode cX9_readItems 59 = .ok (.iload 8, 2) := by decide +kernel
theorem dX9_readItems_61 : decode cX9_readItems 61 = .ok (.iaload, 1) := by decide +kernel
theorem dX9_readItems_62 : decode cX9_readItems 62 = .ok (.invokestatic 96, 3) := by decide +kernel
theorem dX9_readItems_65 : decode cX9_readItems 65 = .ok (.istore 9, 2) := by decide +kernel
theorem dX9_readItems_67 : decode cX9_readItems 67 = .ok (.iload 9, 2) := by decide +kernel
theorem dX9_readItems_69 : decode cX9_readItems 69 = .ok (.iconst (-1), 1) := by decide +kernel
theorem dX9_readItems_70 : decode cX9_readItems 70 = .ok (.if_icmp .ne 5, 3) := by decide +kernel
theorem dX9_readItems_73 : decode cX9_readItems 73 = .ok (.iconst 0, 1) := by decide +kernel
theorem dX9_readItems_74 : decode cX9_readItems 74 = .ok (.ireturn, 1) := by decide +kernel
theorem dX9_readItems_75 : decode cX9_readItems 75 = .ok (.aload 4, 2) := by decide +kernel
theorem dX9_readItems_77 : decode cX9_readItems 77 = .ok (.iload 5, 2) := by decide +kernel
theorem dX9_readItems_79 : decode cX9_readItems 79 = .ok (.iload 8, 2) := by decide +kernel
theorem dX9_readItems_81 : decode cX9_readItems 81 = .ok (.iadd, 1) := by decide +kernel
theorem dX9_readItems_82 : decode cX9_readItems 82 = .ok (.iload 9, 2) := by decide +kernel
theorem dX9_readItems_84 : decode cX9_readItems 84 = .ok (.iastore, 1) := by decide +kernel
theorem dX9_readItems_85 : decode cX9_readItems 85 = .ok (.iinc 7 1, 3) := by decide +kernel
theorem dX9_readItems_88 : decode cX9_readItems 88 = .ok (.goto (-82), 3) := by decide +kernel
theorem dX9_readItems_91 : decode cX9_readItems 91 = .ok (.aload_n 0, 1) := by decide +kernel
theorem dX9_readItems_92 : decode cX9_readItems 92 = .ok (.invokestatic 93, 3) := by decide +kernel
theorem dX9_readItems_95 : decode cX9_readItems 95 = .ok (.ireturn, 1) := by decide +kernel
theorem dX9_letterAt_0 : decode cX9_letterAt 0 = .ok (.aload_n 0, 1) := by decide +kernel
theorem dX9_letterAt_1 : decode cX9_letterAt 1 = .ok (.invokevirtual 44, 3) := by decide +kernel
theorem dX9_letterAt_4 : decode cX9_letterAt 4 = .ok (.istore_n 2, 1) := by decide +kernel
theorem dX9_letterAt_5 : decode cX9_letterAt 5 = .ok (.iload_n 2, 1) := by decide +kernel
theorem dX9_letterAt_6 : decode cX9_letterAt 6 = .ok (.iconst (-1), 1) := by decide +kernel
theorem dX9_letterAt_7 : decode cX9_letterAt 7 = .ok (.if_icmp .ne 7, 3) := by decide +kernel
theorem dX9_letterAt_10 : decode cX9_letterAt 10 = .ok (.iconst (-1), 1) := by decide +kernel
theorem dX9_letterAt_11 : decode cX9_letterAt 11 = .ok (.goto 9, 3) := by decide +kernel
theorem dX9_letterAt_14 : decode cX9_letterAt 14 = .ok (.aload_n 1, 1) := by decide +kernel
theorem dX9_letterAt_15 : decode cX9_letterAt 15 = .ok (.iload_n 2, 1) := by decide +kernel
theorem dX9_letterAt_16 : decode cX9_letterAt 16 = .ok (.i2c, 1) := by decide +kernel
theorem dX9_letterAt_17 : decode cX9_letterAt 17 = .ok (.invokevirtual 100, 3) := by decide +kernel
theorem dX9_letterAt_20 : decode cX9_letterAt 20 = .ok (.ireturn, 1) := by decide +kernel
theorem dX9_readItem_0 : decode cX9_readItem 0 = .ok (.aload_n 0, 1) := by decide +kernel
theorem dX9_readItem_1 : decode cX9_readItem 1 = .ok (.invokevirtual 48, 3) := by decide +kernel
theorem dX9_readItem_4 : decode cX9_readItem 4 = .ok (.aload_n 0, 1) := by decide +kernel
theorem dX9_readItem_5 : decode cX9_readItem 5 = .ok (.iconst 2, 1) := by decide +kernel
theorem dX9_readItem_6 : decode cX9_readItem 6 = .ok (.invokevirtual 104, 3) := by decide +kernel
theorem dX9_readItem_9 : decode cX9_readItem 9 = .ok (.istore_n 3, 1) := by decide +kernel
theorem dX9_readItem_10 : decode cX9_readItem 10 = .ok (.iload_n 3, 1) := by decide +kernel
theorem dX9_readItem_11 : decode cX9_readItem 11 = .ok (.iconst (-1), 1) := by decide +kernel
theorem dX9_readItem_12 : decode cX9_readItem 12 = .ok (.if_icmp .eq 19, 3) := by decide +kernel
theorem dX9_readItem_15 : decode cX9_readItem 15 = .ok (.iload_n 3, 1) := by decide +kernel
theorem dX9_readItem_16 : decode cX9_readItem 16 = .ok (.iload_n 1, 1) := by decide +kernel
theorem dX9_readItem_17 : decode cX9_readItem 17 = .ok (.if_icmp .lt 8, 3) := by decide +kernel
theorem dX9_readItem_20 : decode cX9_readItem 20 = .ok (.iload_n 3, 1) := by decide +kernel
theorem dX9_readItem_21 : decode cX9_readItem 21 = .ok (.iload_n 2, 1) := by decide +kernel
theorem dX9_readItem_22 : decode cX9_readItem 22 = .ok (.if_icmp .le 9, 3) := by decide +kernel
theorem dX9_readItem_25 : decode cX9_readItem 25 = .ok (.aload_n 0, 1) := by decide +kernel
theorem dX9_readItem_26 : decode cX9_readItem 26 = .ok (.invokevirtual 107, 3) := by decide +kernel
theorem dX9_readItem_29 : decode cX9_readItem 29 = .ok (.iconst (-1), 1) := by decide +kernel
theorem dX9_readItem_30 : decode cX9_readItem 30 = .ok (.ireturn, 1) := by decide +kernel
theorem dX9_readItem_31 : decode cX9_readItem 31 = .ok (.iload_n 3, 1) := by decide +kernel
theorem dX9_readItem_32 : decode cX9_readItem 32 = .ok (.ireturn, 1) := by decide +kernel
theorem dX9_endsClause_0 : decode cX9_endsClause 0 = .ok (.aload_n 0, 1) := by decide +kernel
theorem dX9_endsClause_1 : decode cX9_endsClause 1 = .ok (.invokevirtual 44, 3) := by decide +kernel
theorem dX9_endsClause_4 : decode cX9_endsClause 4 = .ok (.istore_n 1, 1) := by decide +kernel
theorem dX9_endsClause_5 : decode cX9_endsClause 5 = .ok (.iload_n 1, 1) := by decide +kernel
theorem dX9_endsClause_6 : decode cX9_endsClause 6 = .ok (.bipush 59, 2) := by decide +kernel
theorem dX9_endsClause_8 : decode cX9_endsClause 8 = .ok (.if_icmp .eq 15, 3) := by decide +kernel
theorem dX9_endsClause_11 : decode cX9_endsClause 11 = .ok (.iload_n 1, 1) := by decide +kernel
theorem dX9_endsClause_12 : decode cX9_endsClause 12 = .ok (.iconst (-1), 1) := by decide +kernel
theorem dX9_endsClause_13 : decode cX9_endsClause 13 = .ok (.if_icmp .eq 10, 3) := by decide +kernel
theorem dX9_endsClause_16 : decode cX9_endsClause 16 = .ok (.aload_n 0, 1) := by decide +kernel
theorem dX9_endsClause_17 : decode cX9_endsClause 17 = .ok (.invokevirtual 55, 3) := by decide +kernel
theorem dX9_endsClause_20 : decode cX9_endsClause 20 = .ok (.ifCond .eq 7, 3) := by decide +kernel
theorem dX9_endsClause_23 : decode cX9_endsClause 23 = .ok (.iconst 1, 1) := by decide +kernel
theorem dX9_endsClause_24 : decode cX9_endsClause 24 = .ok (.goto 4, 3) := by decide +kernel
theorem dX9_endsClause_27 : decode cX9_endsClause 27 = .ok (.iconst 0, 1) := by decide +kernel
theorem dX9_endsClause_28 : decode cX9_endsClause 28 = .ok (.ireturn, 1) := by decide +kernel
theorem dX9_couplesAgree_0 : decode cX9_couplesAgree 0 = .ok (.iconst 0, 1) := by decide +kernel
theorem dX9_couplesAgree_1 : decode cX9_couplesAgree 1 = .ok (.istore_n 1, 1) := by decide +kernel
theorem dX9_couplesAgree_2 : decode cX9_couplesAgree 2 = .ok (.iload_n 1, 1) := by decide +kernel
theorem dX9_couplesAgree_3 : decode cX9_couplesAgree 3 = .ok (.aload_n 0, 1) := by decide +kernel
theorem dX9_couplesAgree_4 : decode cX9_couplesAgree 4 = .ok (.getfield 18, 3) := by decide +kernel
theorem dX9_couplesAgree_7 : decode cX9_couplesAgree 7 = .ok (.if_icmp .ge 55, 3) := by decide +kernel
theorem dX9_couplesAgree_10 : decode cX9_couplesAgree 10 = .ok (.aload_n 0, 1) := by decide +kernel
theorem dX9_couplesAgree_11 : decode cX9_couplesAgree 11 = .ok (.getfield 15, 3) := by decide +kernel
theorem dX9_couplesAgree_14 : decode cX9_couplesAgree 14 = .ok (.iload_n 1, 1) := by decide +kernel
theorem dX9_couplesAgree_15 : decode cX9_couplesAgree 15 = .ok (.iconst 5, 1) := by decide +kernel
theorem dX9_couplesAgree_16 : decode cX9_couplesAgree 16 = .ok (.imul, 1) := by decide +kernel
theorem dX9_couplesAgree_17 : decode cX9_couplesAgree 17 = .ok (.iconst 4, 1) := by decide +kernel
theorem dX9_couplesAgree_18 : decode cX9_couplesAgree 18 = .ok (.iadd, 1) := by decide +kernel
theorem dX9_couplesAgree_19 : decode cX9_couplesAgree 19 = .ok (.iaload, 1) := by decide +kernel
theorem dX9_couplesAgree_20 : decode cX9_couplesAgree 20 = .ok (.istore_n 2, 1) := by decide +kernel
theorem dX9_couplesAgree_21 : decode cX9_couplesAgree 21 = .ok (.iload_n 2, 1) := by decide +kernel
theorem dX9_couplesAgree_22 : decode cX9_couplesAgree 22 = .ok (.bipush 8, 2) := by decide +kernel
theorem dX9_couplesAgree_24 : decode cX9_couplesAgree 24 = .ok (.if_icmp .eq 32, 3) := by decide +kernel
theorem dX9_couplesAgree_27 : decode cX9_couplesAgree 27 = .ok (.iload_n 2, 1) := by decide +kernel
theorem dX9_couplesAgree_28 : decode cX9_couplesAgree 28 = .ok (.iload_n 1, 1) := by decide +kernel
theorem dX9_couplesAgree_29 : decode cX9_couplesAgree 29 = .ok (.if_icmp .eq 25, 3) := by decide +kernel
theorem dX9_couplesAgree_32 : decode cX9_couplesAgree 32 = .ok (.iload_n 2, 1) := by decide +kernel
theorem dX9_couplesAgree_33 : decode cX9_couplesAgree 33 = .ok (.aload_n 0, 1) := by decide +kernel
theorem dX9_couplesAgree_34 : decode cX9_couplesAgree 34 = .ok (.getfield 18, 3) := by decide +kernel
theorem dX9_couplesAgree_37 : decode cX9_couplesAgree 37 = .ok (.if_icmp .ge 17, 3) := by decide +kernel
theorem dX9_couplesAgree_40 : decode cX9_couplesAgree 40 = .ok (.aload_n 0, 1) := by decide +kernel
theorem dX9_couplesAgree_41 : decode cX9_couplesAgree 41 = .ok (.getfield 15, 3) := by decide +kernel
theorem dX9_couplesAgree_44 : decode cX9_couplesAgree 44 = .ok (.iload_n 2, 1) := by decide +kernel
theorem dX9_couplesAgree_45 : decode cX9_couplesAgree 45 = .ok (.iconst 5, 1) := by decide +kernel
theorem dX9_couplesAgree_46 : decode cX9_couplesAgree 46 = .ok (.imul, 1) := by decide +kernel
theorem dX9_couplesAgree_47 : decode cX9_couplesAgree 47 = .ok (.iconst 4, 1) := by decide +kernel
theorem dX9_couplesAgree_48 : decode cX9_couplesAgree 48 = .ok (.iadd, 1) := by decide +kernel
theorem dX9_couplesAgree_49 : decode cX9_couplesAgree 49 = .ok (.iaload, 1) := by decide +kernel
theorem dX9_couplesAgree_50 : decode cX9_couplesAgree 50 = .ok (.iload_n 1, 1) := by decide +kernel
theorem dX9_couplesAgree_51 : decode cX9_couplesAgree 51 = .ok (.if_icmp .eq 5, 3) := by decide +kernel
theorem dX9_couplesAgree_54 : decode cX9_couplesAgree 54 = .ok (.iconst 0, 1) := by decide +kernel
theorem dX9_couplesAgree_55 : decode cX9_couplesAgree 55 = .ok (.ireturn, 1) := by decide +kernel
theorem dX9_couplesAgree_56 : decode cX9_couplesAgree 56 = .ok (.iinc 1 1, 3) := by decide +kernel
theorem dX9_couplesAgree_59 : decode cX9_couplesAgree 59 = .ok (.goto (-57), 3) := by decide +kernel
theorem dX9_couplesAgree_62 : decode cX9_couplesAgree 62 = .ok (.iconst 1, 1) := by decide +kernel
theorem dX9_couplesAgree_63 : decode cX9_couplesAgree 63 = .ok (.ireturn, 1) := by decide +kernel
