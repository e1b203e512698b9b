theorem dX0_init_0 : decode cX0_init 0 = .ok (.aload_n 0, 1) := by decide +kernel
theorem dX0_init_1 : decode cX0_init 1 = .ok (.invokespecial 3, 3) := by decide +kernel
theorem dX0_init_4 : decode cX0_init 4 = .ok (.aload_n 0, 1) := by decide +kernel
theorem dX0_init_5 : decode cX0_init 5 = .ok (.iconst 0, 1) := by decide +kernel
theorem dX0_init_6 : decode cX0_init 6 = .ok (.putfield 9, 3) := by decide +kernel
theorem dX0_init_9 : decode cX0_init 9 = .ok (.aload_n 0, 1) := by decide +kernel
theorem dX0_init_10 : decode cX0_init 10 = .ok (.ldc 15, 2) := by decide +kernel
theorem dX0_init_12 : decode cX0_init 12 = .ok (.putfield 16, 3) := by decide +kernel
theorem dX0_init_15 : decode cX0_init 15 = .ok (.return_, 1) := by decide +kernel
theorem dX0_clear_0 : decode cX0_clear 0 = .ok (.aload_n 0, 1) := by decide +kernel
theorem dX0_clear_1 : decode cX0_clear 1 = .ok (.iconst 0, 1) := by decide +kernel
theorem dX0_clear_2 : decode cX0_clear 2 = .ok (.putfield 9, 3) := by decide +kernel
theorem dX0_clear_5 : decode cX0_clear 5 = .ok (.aload_n 0, 1) := by decide +kernel
theorem dX0_clear_6 : decode cX0_clear 6 = .ok (.ldc 15, 2) := by decide +kernel
theorem dX0_clear_8 : decode cX0_clear 8 = .ok (.putfield 16, 3) := by decide +kernel
theorem dX0_clear_11 : decode cX0_clear 11 = .ok (.return_, 1) := by decide +kernel
theorem dX0_add_0 : decode cX0_add 0 = .ok (.aload_n 0, 1) := by decide +kernel
theorem dX0_add_1 : decode cX0_add 1 = .ok (.getfield 9, 3) := by decide +kernel
theorem dX0_add_4 : decode cX0_add 4 = .ok (.ifCond .ne 8, 3) := by decide +kernel
theorem dX0_add_7 : decode cX0_add 7 = .ok (.aload_n 0, 1) := by decide +kernel
theorem dX0_add_8 : decode cX0_add 8 = .ok (.iload_n 1, 1) := by decide +kernel
theorem dX0_add_9 : decode cX0_add 9 = .ok (.putfield 16, 3) := by decide +kernel
theorem dX0_add_12 : decode cX0_add 12 = .ok (.aload_n 0, 1) := by decide +kernel
theorem dX0_add_13 : decode cX0_add 13 = .ok (.dup, 1) := by decide +kernel
theorem dX0_add_14 : decode cX0_add 14 = .ok (.getfield 9, 3) := by decide +kernel
theorem dX0_add_17 : decode cX0_add 17 = .ok (.iconst 1, 1) := by decide +kernel
theorem dX0_add_18 : decode cX0_add 18 = .ok (.iadd, 1) := by decide +kernel
theorem dX0_add_19 : decode cX0_add 19 = .ok (.putfield 9, 3) := by decide +kernel
theorem dX0_add_22 : decode cX0_add 22 = .ok (.return_, 1) := by decide +kernel
theorem dX0_tell_0 : decode cX0_tell 0 = .ok (.iload_n 1, 1) := by decide +kernel
theorem dX0_tell_1 : decode cX0_tell 1 = .ok (.ifCond .ne 10, 3) := by decide +kernel
theorem dX0_tell_4 : decode cX0_tell 4 = .ok (.aload_n 0, 1) := by decide +kernel
theorem dX0_tell_5 : decode cX0_tell 5 = .ok (.getfield 9, 3) := by decide +kernel
theorem dX0_tell_8 : decode cX0_tell 8 = .ok (.goto 7, 3) := by decide +kernel
theorem dX0_tell_11 : decode cX0_tell 11 = .ok (.aload_n 0, 1) := by decide +kernel
theorem dX0_tell_12 : decode cX0_tell 12 = .ok (.getfield 16, 3) := by decide +kernel
theorem dX0_tell_15 : decode cX0_tell 15 = .ok (.ireturn, 1) := by decide +kernel
theorem dX1_init_0 : decode cX1_init 0 = .ok (.aload_n 0, 1) := by decide +kernel
theorem dX1_init_1 : decode cX1_init 1 = .ok (.invokespecial 3, 3) := by decide +kernel
theorem dX1_init_4 : decode cX1_init 4 = .ok (.aload_n 0, 1) := by decide +kernel
theorem dX1_init_5 : decode cX1_init 5 = .ok (.bipush 24, 2) := by decide +kernel
theorem dX1_init_7 : decode cX1_init 7 = .ok (.anewarray 9, 3) := by decide +kernel
theorem dX1_init_10 : decode cX1_init 10 = .ok (.putfield 11, 3) := by decide +kernel
theorem dX1_init_13 : decode cX1_init 13 = .ok (.aload_n 0, 1) := by decide +kernel
theorem dX1_init_14 : decode cX1_init 14 = .ok (.iconst 0, 1) := by decide +kernel
theorem dX1_init_15 : decode cX1_init 15 = .ok (.putfield 17, 3) := by decide +kernel
theorem dX1_init_18 : decode cX1_init 18 = .ok (.aload_n 0, 1) := by decide +kernel
theorem dX1_init_19 : decode cX1_init 19 = .ok (.iconst 0, 1) := by decide +kernel
theorem dX1_init_20 : decode cX1_init 20 = .ok (.putfield 21, 3) := by decide +kernel
theorem dX1_init_23 : decode cX1_init 23 = .ok (.iconst 0, 1) := by decide +kernel
theorem dX1_init_24 : decode cX1_init 24 = .ok (.istore_n 1, 1) := by decide +kernel
theorem dX1_init_25 : decode cX1_init 25 = .ok (.iload_n 1, 1) := by decide +kernel
theorem dX1_init_26 : decode cX1_init 26 = .ok (.bipush 24, 2) := by decide +kernel
theorem dX1_init_28 : decode cX1_init 28 = .ok (.if_icmp .ge 22, 3) := by decide +kernel
theorem dX1_init_31 : decode cX1_init 31 = .ok (.aload_n 0, 1) := by decide +kernel
theorem dX1_init_32 : decode cX1_init 32 = .ok (.getfield 11, 3) := by decide +kernel
theorem dX1_init_35 : decode cX1_init 35 = .ok (.iload_n 1, 1) := by decide +kernel
theorem dX1_init_36 : decode cX1_init 36 = .ok (.new 9, 3) := by decide +kernel
theorem dX1_init_39 : decode cX1_init 39 = .ok (.dup, 1) := by decide +kernel
theorem dX1_init_40 : decode cX1_init 40 = .ok (.invokespecial 24, 3) := by decide +kernel
theorem dX1_init_43 : decode cX1_init 43 = .ok (.aastore, 1) := by decide +kernel
theorem dX1_init_44 : decode cX1_init 44 = .ok (.iinc 1 1, 3) := by decide +kernel
theorem dX1_init_47 : decode cX1_init 47 = .ok (.goto (-22), 3) := by decide +kernel
theorem dX1_init_50 : decode cX1_init 50 = .ok (.return_, 1) := by decide +kernel
theorem dX1_clear_0 : decode cX1_clear 0 = .ok (.aload_n 0, 1) := by decide +kernel
theorem dX1_clear_1 : decode cX1_clear 1 = .ok (.iconst 0, 1) := by decide +kernel
theorem dX1_clear_2 : decode cX1_clear 2 = .ok (.putfield 17, 3) := by decide +kernel
theorem dX1_clear_5 : decode cX1_clear 5 = .ok (.aload_n 0, 1) := by decide +kernel
theorem dX1_clear_6 : decode cX1_clear 6 = .ok (.iconst 0, 1) := by decide +kernel
theorem dX1_clear_7 : decode cX1_clear 7 = .ok (.putfield 21, 3) := by decide +kernel
theorem dX1_clear_10 : decode cX1_clear 10 = .ok (.return_, 1) := by decide +kernel
theorem dX1_keep_0 : decode cX1_keep 0 = .ok (.aload_n 0, 1) := by decide +kernel
theorem dX1_keep_1 : decode cX1_keep 1 = .ok (.getfield 11, 3) := by decide +kernel
theorem dX1_keep_4 : decode cX1_keep 4 = .ok (.aload_n 0, 1) := by decide +kernel
theorem dX1_keep_5 : decode cX1_keep 5 = .ok (.getfield 17, 3) := by decide +kernel
theorem dX1_keep_8 : decode cX1_keep 8 = .ok (.aaload, 1) := by decide +kernel
theorem dX1_keep_9 : decode cX1_keep 9 = .ok (.aload_n 1, 1) := by decide +kernel
theorem dX1_keep_10 : decode cX1_keep 10 = .ok (.invokevirtual 25, 3) := by decide +kernel
theorem dX1_keep_13 : decode cX1_keep 13 = .ok (.aload_n 0, 1) := by decide +kernel
theorem dX1_keep_14 : decode cX1_keep 14 = .ok (.aload_n 0, 1) := by decide +kernel
theorem dX1_keep_15 : decode cX1_keep 15 = .ok (.getfield 17, 3) := by decide +kernel
theorem dX1_keep_18 : decode cX1_keep 18 = .ok (.iconst 1, 1) := by decide +kernel
theorem dX1_keep_19 : decode cX1_keep 19 = .ok (.iadd, 1) := by decide +kernel
theorem dX1_keep_20 : decode cX1_keep 20 = .ok (.bipush 24, 2) := by decide +kernel
theorem dX1_keep_22 : decode cX1_keep 22 = .ok (.irem, 1) := by decide +kernel
theorem dX1_keep_23 : decode cX1_keep 23 = .ok (.putfield 17, 3) := by decide +kernel
theorem dX1_keep_26 : decode cX1_keep 26 = .ok (.aload_n 0, 1) := by decide +kernel
theorem dX1_keep_27 : decode cX1_keep 27 = .ok (.aload_n 0, 1) := by decide +kernel
theorem dX1_keep_28 : decode cX1_keep 28 = .ok (.getfield 21, 3) := by decide +kernel
theorem dX1_keep_31 : decode cX1_keep 31 = .ok (.iconst 1, 1) := by decide +kernel
theorem dX1_keep_32 : decode cX1_keep 32 = .ok (.iadd, 1) := by decide +kernel
theorem dX1_keep_33 : decode cX1_keep 33 = .ok (.bipush 24, 2) := by decide +kernel
theorem dX1_keep_35 : decode cX1_keep 35 = .ok (.invokestatic 29, 3) := by decide +kernel
theorem dX1_keep_38 : decode cX1_keep 38 = .ok (.putfield 21, 3) := by decide +kernel
theorem dX1_keep_41 : decode cX1_keep 41 = .ok (.return_, 1) := by decide +kernel
theorem dX1_giveBack_0 : decode cX1_giveBack 0 = .ok (.aload_n 0, 1) := by decide +kernel
theorem dX1_giveBack_1 : decode cX1_giveBack 1 = .ok (.aload_n 0, 1) := by decide +kernel
theorem dX1_giveBack_2 : decode cX1_giveBack 2 = .ok (.getfield 17, 3) := by decide +kernel
theorem dX1_giveBack_5 : decode cX1_giveBack 5 = .ok (.bipush 24, 2) := by decide +kernel
theorem dX1_giveBack_7 : decode cX1_giveBack 7 = .ok (.iadd, 1) := by decide +kernel
theorem dX1_giveBack_8 : decode cX1_giveBack 8 = .ok (.iconst 1, 1) := by decide +kernel
theorem dX1_giveBack_9 : decode cX1_giveBack 9 = .ok (.isub, 1) := by decide +kernel
theorem dX1_giveBack_10 : decode cX1_giveBack 10 = .ok (.bipush 24, 2) := by decide +kernel
theorem dX1_giveBack_12 : decode cX1_giveBack 12 = .ok (.irem, 1) := by decide +kernel
theorem dX1_giveBack_13 : decode cX1_giveBack 13 = .ok (.putfield 17, 3) := by decide +kernel
theorem dX1_giveBack_16 : decode cX1_giveBack 16 = .ok (.aload_n 0, 1) := by decide +kernel
theorem dX1_giveBack_17 : decode cX1_giveBack 17 = .ok (.dup, 1) := by decide +kernel
theorem dX1_giveBack_18 : decode cX1_giveBack 18 = .ok (.getfield 21, 3) := by decide +kernel
theorem dX1_giveBack_21 : decode cX1_giveBack 21 = .ok (.iconst 1, 1) := by decide +kernel
theorem dX1_giveBack_22 : decode cX1_giveBack 22 = .ok (.isub, 1) := by decide +kernel
theorem dX1_giveBack_23 : decode cX1_giveBack 23 = .ok (.putfield 21, 3) := by decide +kernel
theorem dX1_giveBack_26 : decode cX1_giveBack 26 = .ok (.aload_n 1, 1) := by decide +kernel
theorem dX1_giveBack_27 : decode cX1_giveBack 27 = .ok (.aload_n 0, 1) := by decide +kernel
theorem dX1_giveBack_28 : decode cX1_giveBack 28 = .ok (.getfield 11, 3) := by decide +kernel
theorem dX1_giveBack_31 : decode cX1_giveBack 31 = .ok (.aload_n 0, 1) := by decide +kernel
theorem dX1_giveBack_32 : decode cX1_giveBack 32 = .ok (.getfield 17, 3) := by decide +kernel
theorem dX1_giveBack_35 : decode cX1_giveBack 35 = .ok (.aaload, 1) := by decide +kernel
theorem dX1_giveBack_36 : decode cX1_giveBack 36 = .ok (.invokevirtual 25, 3) := by decide +kernel
theorem dX1_giveBack_39 : decode cX1_giveBack 39 = .ok (.return_, 1) := by decide +kernel
theorem dX2_init_0 : decode cX2_init 0 = .ok (.aload_n 0, 1) := by decide +kernel
theorem dX2_init_1 : decode cX2_init 1 = .ok (.invokespecial 3, 3) := by decide +kernel
theorem dX2_init_4 : decode cX2_init 4 = .ok (.aload_n 0, 1) := by decide +kernel
theorem dX2_init_5 : decode cX2_init 5 = .ok (.bipush 6, 2) := by decide +kernel
theorem dX2_init_7 : decode cX2_init 7 = .ok (.newarray .int, 2) := by decide +kernel
theorem dX2_init_9 : decode cX2_init 9 = .ok (.putfield 9, 3) := by decide +kernel
theorem dX2_init_12 : decode cX2_init 12 = .ok (.aload_n 0, 1) := by decide +kernel
theorem dX2_init_13 : decode cX2_init 13 = .ok (.bipush 6, 2) := by decide +kernel
theorem dX2_init_15 : decode cX2_init 15 = .ok (.newarray .int, 2) := by decide +kernel
theorem dX2_init_17 : decode cX2_init 17 = .ok (.putfield 15, 3) := by decide +kernel
theorem dX2_init_20 : decode cX2_init 20 = .ok (.aload_n 0, 1) := by decide +kernel
theorem dX2_init_21 : decode cX2_init 21 = .ok (.bipush 6, 2) := by decide +kernel
theorem dX2_init_23 : decode cX2_init 23 = .ok (.newarray .int, 2) := by decide +kernel
theorem dX2_init_25 : decode cX2_init 25 = .ok (.putfield 18, 3) := by decide +kernel
theorem dX2_init_28 : decode cX2_init 28 = .ok (.aload_n 0, 1) := by decide +kernel
theorem dX2_init_29 : decode cX2_init 29 = .ok (.bipush 6, 2) := by decide +kernel
theorem dX2_init_31 : decode cX2_init 31 = .ok (.newarray .int, 2) := by decide +kernel
theorem dX2_init_33 : decode cX2_init 33 = .ok (.putfield 21, 3) := by decide +kernel
theorem dX2_init_36 : decode cX2_init 36 = .ok (.aload_n 0, 1) := by decide +kernel
theorem dX2_init_37 : decode cX2_init 37 = .ok (.bipush 6, 2) := by decide +kernel
theorem dX2_init_39 : decode cX2_init 39 = .ok (.newarray .int, 2) := by decide +kernel
theorem dX2_init_41 : decode cX2_init 41 = .ok (.putfield 24, 3) := by decide +kernel
theorem dX2_init_44 : decode cX2_init 44 = .ok (.aload_n 0, 1) := by decide +kernel
theorem dX2_init_45 : decode cX2_init 45 = .ok (.iconst 0, 1) := by decide +kernel
theorem dX2_init_46 : decode cX2_init 46 = .ok (.putfield 27, 3) := by decide +kernel
theorem dX2_init_49 : decode cX2_init 49 = .ok (.aload_n 0, 1) := by decide +kernel
theorem dX2_init_50 : decode cX2_init 50 = .ok (.iconst 0, 1) := by decide +kernel
theorem dX2_init_51 : decode cX2_init 51 = .ok (.putfield 31, 3) := by decide +kernel
theorem dX2_init_54 : decode cX2_init 54 = .ok (.aload_n 0, 1) := by decide +kernel
theorem dX2_init_55 : decode cX2_init 55 = .ok (.iconst 0, 1) := by decide +kernel
theorem dX2_init_56 : decode cX2_init 56 = .ok (.putfield 34, 3) := by decide +kernel
theorem dX2_init_59 : decode cX2_init 59 = .ok (.aload_n 0, 1) := by decide +kernel
theorem dX2_init_60 : decode cX2_init 60 = .ok (.iconst 0, 1) := by decide +kernel
theorem dX2_init_61 : decode cX2_init 61 = .ok (.putfield 37, 3) := by decide +kernel
theorem dX2_init_64 : decode cX2_init 64 = .ok (.aload_n 0, 1) := by decide +kernel
theorem dX2_init_65 : decode cX2_init 65 = .ok (.iconst 0, 1) := by decide +kernel
theorem dX2_init_66 : decode cX2_init 66 = .ok (.putfield 40, 3) := by decide +kernel
theorem dX2_init_69 : decode cX2_init 69 = .ok (.return_, 1) := by decide +kernel
theorem dX2_begin_0 : decode cX2_begin 0 = .ok (.aload_n 0, 1) := by decide +kernel
theorem dX2_begin_1 : decode cX2_begin 1 = .ok (.iload_n 1, 1) := by decide +kernel
theorem dX2_begin_2 : decode cX2_begin 2 = .ok (.putfield 27, 3) := by decide +kernel
theorem dX2_begin_5 : decode cX2_begin 5 = .ok (.aload_n 0, 1) := by decide +kernel
theorem dX2_begin_6 : decode cX2_begin 6 = .ok (.iload_n 2, 1) := by decide +kernel
theorem dX2_begin_7 : decode cX2_begin 7 = .ok (.putfield 31, 3) := by decide +kernel
theorem dX2_begin_10 : decode cX2_begin 10 = .ok (.aload_n 0, 1) := by decide +kernel
theorem dX2_begin_11 : decode cX2_begin 11 = .ok (.iconst 0, 1) := by decide +kernel
theorem dX2_begin_12 : decode cX2_begin 12 = .ok (.putfield 34, 3) := by decide +kernel
theorem dX2_begin_15 : decode cX2_begin 15 = .ok (.aload_n 0, 1) := by decide +kernel
theorem dX2_begin_16 : decode cX2_begin 16 = .ok (.iconst 0, 1) := by decide +kernel
theorem dX2_begin_17 : decode cX2_begin 17 = .ok (.putfield 37, 3) := by decide +kernel
theorem dX2_begin_20 : decode cX2_begin 20 = .ok (.aload_n 0, 1) := by decide +kernel
theorem dX2_begin_21 : decode cX2_begin 21 = .ok (.iconst 0, 1) := by decide +kernel
theorem dX2_begin_22 : decode cX2_begin 22 = .ok (.putfield 40, 3) := by decide +kernel
theorem dX2_begin_25 : decode cX2_begin 25 = .ok (.return_, 1) := by decide +kernel
theorem dX2_become_0 : decode cX2_become 0 = .ok (.iconst 0, 1) := by decide +kernel
theorem dX2_become_1 : decode cX2_become 1 = .ok (.istore_n 2, 1) := by decide +kernel
theorem dX2_become_2 : decode cX2_become 2 = .ok (.iload_n 2, 1) := by decide +kernel
theorem dX2_become_3 : decode cX2_become 3 = .ok (.bipush 6, 2) := by decide +kernel
theorem dX2_become_5 : decode cX2_become 5 = .ok (.if_icmp .ge 69, 3) := by decide +kernel
theorem dX2_become_8 : decode cX2_become 8 = .ok (.aload_n 0, 1) := by decide +kernel
theorem dX2_become_9 : decode cX2_become 9 = .ok (.getfield 9, 3) := by decide +kernel
theorem dX2_become_12 : decode cX2_become 12 = .ok (.iload_n 2, 1) := by decide +kernel
theorem dX2_become_13 : decode cX2_become 13 = .ok (.aload_n 1, 1) := by decide +kernel
theorem dX2_become_14 : decode cX2_become 14 = .ok (.getfield 9, 3) := by decide +kernel
theorem dX2_become_17 : decode cX2_become 17 = .ok (.iload_n 2, 1) := by decide +kernel
theorem dX2_become_18 : decode cX2_become 18 = .ok (.iaload, 1) := by decide +kernel
theorem dX2_become_19 : decode cX2_become 19 = .ok (.iastore, 1) := by decide +kernel
theorem dX2_become_20 : decode cX2_become 20 = .ok (.aload_n 0, 1) := by decide +kernel
theorem dX2_become_21 : decode cX2_become 21 = .ok (.getfield 15, 3) := by decide +kernel
theorem dX2_become_24 : decode cX2_become 24 = .ok (.iload_n 2, 1) := by decide +kernel
theorem dX2_become_25 : decode cX2_become 25 = .ok (.aload_n 1, 1) := by decide +kernel
theorem dX2_become_26 : decode cX2_become 26 = .ok (.getfield 15, 3) := by decide +kernel
theorem dX2_become_29 : decode cX2_become 29 = .ok (.iload_n 2, 1) := by decide +kernel
theorem dX2_become_30 : decode cX2_become 30 = .ok (.iaload, 1) := by decide +kernel
theorem dX2_become_31 : decode cX2_become 31 = .ok (.iastore, 1) := by decide +kernel
theorem dX2_become_32 : decode cX2_become 32 = .ok (.aload_n 0, 1) := by decide +kernel
theorem dX2_become_33 : decode cX2_become 33 = .ok (.getfield 18, 3) := by decide +kernel
theorem dX2_become_36 : decode cX2_become 36 = .ok (.iload_n 2, 1) := by decide +kernel
theorem dX2_become_37 : decode cX2_become 37 = .ok (.aload_n 1, 1) := by decide +kernel
theorem dX2_become_38 : decode cX2_become 38 = .ok (.getfield 18, 3) := by decide +kernel
theorem dX2_become_41 : decode cX2_become 41 = .ok (.iload_n 2, 1) := by decide +kernel
theorem dX2_become_42 : decode cX2_become 42 = .ok (.iaload, 1) := by decide +kernel
theorem dX2_become_43 : decode cX2_become 43 = .ok (.iastore, 1) := by decide +kernel
theorem dX2_become_44 : decode cX2_become 44 = .ok (.aload_n 0, 1) := by decide +kernel
theorem dX2_become_45 : decode cX2_become 45 = .ok (.getfield 21, 3) := by decide +kernel
theorem dX2_become_48 : decode cX2_become 48 = .ok (.iload_n 2, 1) := by decide +kernel
theorem dX2_become_49 : decode cX2_become 49 = .ok (.aload_n 1, 1) := by decide +kernel
theorem dX2_become_50 : decode cX2_become 50 = .ok (.getfield 21, 3) := by decide +kernel
theorem dX2_become_53 : decode cX2_become 53 = .ok (.iload_n 2, 1) := by decide +kernel
theorem dX2_become_54 : decode cX2_become 54 = .ok (.iaload, 1) := by decide +kernel
theorem dX2_become_55 : decode cX2_become 55 = .ok (.iastore, 1) := by decide +kernel
theorem dX2_become_56 : decode cX2_become 56 = .ok (.aload_n 0, 1) := by decide +kernel
theorem dX2_become_57 : decode cX2_become 57 = .ok (.getfield 24, 3) := by decide +kernel
theorem dX2_become_60 : decode cX2_become 60 = .ok (.iload_n 2, 1) := by decide +kernel
theorem dX2_become_61 : decode cX2_become 61 = .ok (.aload_n 1, 1) := by decide +kernel
theorem dX2_become_62 : decode cX2_become 62 = .ok (.getfield 24, 3) := by decide +kernel
theorem dX2_become_65 : decode cX2_become 65 = .ok (.iload_n 2, 1) := by decide +kernel
theorem dX2_become_66 : decode cX2_become 66 = .ok (.iaload, 1) := by decide +kernel
theorem dX2_become_67 : decode cX2_become 67 = .ok (.iastore, 1) := by decide +kernel
theorem dX2_become_68 : decode cX2_become 68 = .ok (.iinc 2 1, 3) := by decide +kernel
theorem dX2_become_71 : decode cX2_become 71 = .ok (.goto (-69), 3) := by decide +kernel
theorem dX2_become_74 : decode cX2_become 74 = .ok (.aload_n 0, 1) := by decide +kernel
theorem dX2_become_75 : decode cX2_become 75 = .ok (.aload_n 1, 1) := by decide +kernel
theorem dX2_become_76 : decode cX2_become 76 = .ok (.getfield 27, 3) := by decide +kernel
theorem dX2_become_79 : decode cX2_become 79 = .ok (.putfield 27, 3) := by decide +kernel
theorem dX2_become_82 : decode cX2_become 82 = .ok (.aload_n 0, 1) := by decide +kernel
theorem dX2_become_83 : decode cX2_become 83 = .ok (.aload_n 1, 1) := by decide +kernel
theorem dX2_become_84 : decode cX2_become 84 = .ok (.getfield 31, 3) := by decide +kernel
theorem dX2_become_87 : decode cX2_become 87 = .ok (.putfield 31, 3) := by decide +kernel
theorem dX2_become_90 : decode cX2_become 90 = .ok (.aload_n 0, 1) := by decide +kernel
theorem dX2_become_91 : decode cX2_become 91 = .ok (.aload_n 1, 1) := by decide +kernel
theorem dX2_become_92 : decode cX2_become 92 = .ok (.getfield 34, 3) := by decide +kernel
theorem dX2_become_95 : decode cX2_become 95 = .ok (.putfield 34, 3) := by decide +kernel
theorem dX2_become_98 : decode cX2_become 98 = .ok (.aload_n 0, 1) := by decide +kernel
theorem dX2_become_99 : decode cX2_become 99 = .ok (.aload_n 1, 1) := by decide +kernel
theorem dX2_become_100 : decode cX2_become 100 = .ok (.getfield 37, 3) := by decide +kernel
theorem dX2_become_103 : decode cX2_become 103 = .ok (.putfield 37, 3) := by decide +kernel
theorem dX2_become_106 : decode cX2_become 106 = .ok (.aload_n 0, 1) := by decide +kernel
theorem dX2_become_107 : decode cX2_become 107 = .ok (.aload_n 1, 1) := by decide +kernel
theorem dX2_become_108 : decode cX2_become 108 = .ok (.getfield 40, 3) := by decide +kernel
theorem dX2_become_111 : decode cX2_become 111 = .ok (.putfield 40, 3) := by decide +kernel
theorem dX2_become_114 : decode cX2_become 114 = .ok (.return_, 1) := by decide +kernel
theorem dX2_tellPerson_0 : decode cX2_tellPerson 0 = .ok (.iload_n 2, 1) := by decide +kernel
theorem dX2_tellPerson_1 : decode cX2_tellPerson 1 = .ok (.tableswitch 48 0 2 #[27, 34, 41], 27) := by decide +kernel
theorem dX2_tellPerson_28 : decode cX2_tellPerson 28 = .ok (.aload_n 0, 1) := by decide +kernel
theorem dX2_tellPerson_29 : decode cX2_tellPerson 29 = .ok (.getfield 18, 3) := by decide +kernel
theorem dX2_tellPerson_32 : decode cX2_tellPerson 32 = .ok (.iload_n 1, 1) := by decide +kernel
theorem dX2_tellPerson_33 : decode cX2_tellPerson 33 = .ok (.iaload, 1) := by decide +kernel
theorem dX2_tellPerson_34 : decode cX2_tellPerson 34 = .ok (.ireturn, 1) := by decide +kernel
theorem dX2_tellPerson_35 : decode cX2_tellPerson 35 = .ok (.aload_n 0, 1) := by decide +kernel
theorem dX2_tellPerson_36 : decode cX2_tellPerson 36 = .ok (.getfield 21, 3) := by decide +kernel
theorem dX2_tellPerson_39 : decode cX2_tellPerson 39 = .ok (.iload_n 1, 1) := by decide +kernel
theorem dX2_tellPerson_40 : decode cX2_tellPerson 40 = .ok (.iaload, 1) := by decide +kernel
theorem dX2_tellPerson_41 : decode cX2_tellPerson 41 = .ok (.ireturn, 1) := by decide +kernel
theorem dX2_tellPerson_42 : decode cX2_tellPerson 42 = .ok (.aload_n 0, 1) := by decide +kernel
theorem dX2_tellPerson_43 : decode cX2_tellPerson 43 = .ok (.getfield 24, 3) := by decide +kernel
theorem dX2_tellPerson_46 : decode cX2_tellPerson 46 = .ok (.iload_n 1, 1) := by decide +kernel
theorem dX2_tellPerson_47 : decode cX2_tellPerson 47 = .ok (.iaload, 1) := by decide +kernel
theorem dX2_tellPerson_48 : decode cX2_tellPerson 48 = .ok (.ireturn, 1) := by decide +kernel
theorem dX2_tellPerson_49 : decode cX2_tellPerson 49 = .ok (.ldc 43, 2) := by decide +kernel
theorem dX2_tellPerson_51 : decode cX2_tellPerson 51 = .ok (.ireturn, 1) := by decide +kernel
theorem dX2_hasSomebodyAt_0 : decode cX2_hasSomebodyAt 0 = .ok (.iconst 0, 1) := by decide +kernel
theorem dX2_hasSomebodyAt_1 : decode cX2_hasSomebodyAt 1 = .ok (.istore_n 2, 1) := by decide +kernel
theorem dX2_hasSomebodyAt_2 : decode cX2_hasSomebodyAt 2 = .ok (.iload_n 2, 1) := by decide +kernel
theorem dX2_hasSomebodyAt_3 : decode cX2_hasSomebodyAt 3 = .ok (.aload_n 0, 1) := by decide +kernel
theorem dX2_hasSomebodyAt_4 : decode cX2_hasSomebodyAt 4 = .ok (.getfield 34, 3) := by decide +kernel
theorem dX2_hasSomebodyAt_7 : decode cX2_hasSomebodyAt 7 = .ok (.if_icmp .ge 21, 3) := by decide +kernel
theorem dX2_hasSomebodyAt_10 : decode cX2_hasSomebodyAt 10 = .ok (.aload_n 0, 1) := by decide +kernel
theorem dX2_hasSomebodyAt_11 : decode cX2_hasSomebodyAt 11 = .ok (.getfield 18, 3) := by decide +kernel
theorem dX2_hasSomebodyAt_14 : decode cX2_hasSomebodyAt 14 = .ok (.iload_n 2, 1) := by decide +kernel
theorem dX2_hasSomebodyAt_15 : decode cX2_hasSomebodyAt 15 = .ok (.iaload, 1) := by decide +kernel
theorem dX2_hasSomebodyAt_16 : decode cX2_hasSomebodyAt 16 = .ok (.iload_n 1, 1) := by decide +kernel
theorem dX2_hasSomebodyAt_17 : decode cX2_hasSomebodyAt 17 = .ok (.if_icmp .ne 5, 3) := by decide +kernel
theorem dX2_hasSomebodyAt_20 : decode cX2_hasSomebodyAt 20 = .ok (.iconst 1, 1) := by decide +kernel
theorem dX2_hasSomebodyAt_21 : decode cX2_hasSomebodyAt 21 = .ok (.ireturn, 1) := by decide +kernel
theorem dX2_hasSomebodyAt_22 : decode cX2_hasSomebodyAt 22 = .ok (.iinc 2 1, 3) := by decide +kernel
theorem dX2_hasSomebodyAt_25 : decode cX2_hasSomebodyAt 25 = .ok (.goto (-23), 3) := by decide +kernel
theorem dX2_hasSomebodyAt_28 : decode cX2_hasSomebodyAt 28 = .ok (.iconst 0, 1) := by decide +kernel
theorem dX2_hasSomebodyAt_29 : decode cX2_hasSomebodyAt 29 = .ok (.ireturn, 1) := by decide +kernel
theorem dX2_holder_0 : decode cX2_holder 0 = .ok (.iconst 0, 1) := by decide +kernel
theorem dX2_holder_1 : decode cX2_holder 1 = .ok (.istore_n 2, 1) := by decide +kernel
theorem dX2_holder_2 : decode cX2_holder 2 = .ok (.iload_n 2, 1) := by decide +kernel
theorem dX2_holder_3 : decode cX2_holder 3 = .ok (.aload_n 0, 1) := by decide +kernel
theorem dX2_holder_4 : decode cX2_holder 4 = .ok (.getfield 34, 3) := by decide +kernel
theorem dX2_holder_7 : decode cX2_holder 7 = .ok (.iconst 1, 1) := by decide +kernel
theorem dX2_holder_8 : decode cX2_holder 8 = .ok (.isub, 1) := by decide +kernel
theorem dX2_holder_9 : decode cX2_holder 9 = .ok (.if_icmp .ge 19, 3) := by decide +kernel
theorem dX2_holder_12 : decode cX2_holder 12 = .ok (.aload_n 0, 1) := by decide +kernel
theorem dX2_holder_13 : decode cX2_holder 13 = .ok (.getfield 24, 3) := by decide +kernel
theorem dX2_holder_16 : decode cX2_holder 16 = .ok (.iload_n 2, 1) := by decide +kernel
theorem dX2_holder_17 : decode cX2_holder 17 = .ok (.iaload, 1) := by decide +kernel
theorem dX2_holder_18 : decode cX2_holder 18 = .ok (.iload_n 1, 1) := by decide +kernel
theorem dX2_holder_19 : decode cX2_holder 19 = .ok (.if_icmp .eq 9, 3) := by decide +kernel
theorem dX2_holder_22 : decode cX2_holder 22 = .ok (.iinc 2 1, 3) := by decide +kernel
theorem dX2_holder_25 : decode cX2_holder 25 = .ok (.goto (-23), 3) := by decide +kernel
theorem dX2_holder_28 : decode cX2_holder 28 = .ok (.iload_n 2, 1) := by decide +kernel
theorem dX2_holder_29 : decode cX2_holder 29 = .ok (.ireturn, 1) := by decide +kernel
theorem dX2_isCarriedAs_0 : decode cX2_isCarriedAs 0 = .ok (.iconst 0, 1) := by decide +kernel
theorem dX2_isCarriedAs_1 : decode cX2_isCarriedAs 1 = .ok (.istore_n 2, 1) := by decide +kernel
theorem dX2_isCarriedAs_2 : decode cX2_isCarriedAs 2 = .ok (.iload_n 2, 1) := by decide +kernel
theorem dX2_isCarriedAs_3 : decode cX2_isCarriedAs 3 = .ok (.aload_n 0, 1) := by decide +kernel
theorem dX2_isCarriedAs_4 : decode cX2_isCarriedAs 4 = .ok (.getfield 34, 3) := by decide +kernel
theorem dX2_isCarriedAs_7 : decode cX2_isCarriedAs 7 = .ok (.if_icmp .ge 26, 3) := by decide +kernel
theorem dX2_isCarriedAs_10 : decode cX2_isCarriedAs 10 = .ok (.aload_n 0, 1) := by decide +kernel
theorem dX2_isCarriedAs_11 : decode cX2_isCarriedAs 11 = .ok (.getfield 24, 3) := by decide +kernel
theorem dX2_isCarriedAs_14 : decode cX2_isCarriedAs 14 = .ok (.iload_n 2, 1) := by decide +kernel
theorem dX2_isCarriedAs_15 : decode cX2_isCarriedAs 15 = .ok (.iaload, 1) := by decide +kernel
theorem dX2_isCarriedAs_16 : decode cX2_isCarriedAs 16 = .ok (.aload_n 1, 1) := by decide +kernel
theorem dX2_isCarriedAs_17 : decode cX2_isCarriedAs 17 = .ok (.getfield 44, 3) := by decide +kernel
theorem dX2_isCarriedAs_20 : decode cX2_isCarriedAs 20 = .ok (.iload_n 2, 1) := by decide +kernel
theorem dX2_isCarriedAs_21 : decode cX2_isCarriedAs 21 = .ok (.iaload, 1) := by decide +kernel
theorem dX2_isCarriedAs_22 : decode cX2_isCarriedAs 22 = .ok (.if_icmp .eq 5, 3) := by decide +kernel
theorem dX2_isCarriedAs_25 : decode cX2_isCarriedAs 25 = .ok (.iconst 0, 1) := by decide +kernel
theorem dX2_isCarriedAs_26 : decode cX2_isCarriedAs 26 = .ok (.ireturn, 1) := by decide +kernel
theorem dX2_isCarriedAs_27 : decode cX2_isCarriedAs 27 = .ok (.iinc 2 1, 3) := by decide +kernel
theorem dX2_isCarriedAs_30 : decode cX2_isCarriedAs 30 = .ok (.goto (-28), 3) := by decide +kernel
theorem dX2_isCarriedAs_33 : decode cX2_isCarriedAs 33 = .ok (.iconst 1, 1) := by decide +kernel
theorem dX2_isCarriedAs_34 : decode cX2_isCarriedAs 34 = .ok (.ireturn, 1) := by decide +kernel
theorem dX2_sets_0 : decode cX2_sets 0 = .ok (.iconst 1, 1) := by decide +kernel
theorem dX2_sets_1 : decode cX2_sets 1 = .ok (.aload_n 0, 1) := by decide +kernel
theorem dX2_sets_2 : decode cX2_sets 2 = .ok (.getfield 34, 3) := by decide +kernel
theorem dX2_sets_5 : decode cX2_sets 5 = .ok (.ishl, 1) := by decide +kernel
theorem dX2_sets_6 : decode cX2_sets 6 = .ok (.ireturn, 1) := by decide +kernel
theorem dX2_canSetOut_0 : decode cX2_canSetOut 0 = .ok (.iconst 0, 1) := by decide +kernel
theorem dX2_canSetOut_1 : decode cX2_canSetOut 1 = .ok (.istore_n 2, 1) := by decide +kernel
theorem dX2_canSetOut_2 : decode cX2_canSetOut 2 = .ok (.iload_n 2, 1) := by decide +kernel
theorem dX2_canSetOut_3 : decode cX2_canSetOut 3 = .ok (.aload_n 0, 1) := by decide +kernel
theorem dX2_canSetOut_4 : decode cX2_canSetOut 4 = .ok (.getfield 34, 3) := by decide +kernel
theorem dX2_canSetOut_7 : decode cX2_canSetOut 7 = .ok (.if_icmp .ge 30, 3) := by decide +kernel
theorem dX2_canSetOut_10 : decode cX2_canSetOut 10 = .ok (.aload_n 0, 1) := by decide +kernel
theorem dX2_canSetOut_11 : decode cX2_canSetOut 11 = .ok (.getfield 9, 3) := by decide +kernel
theorem dX2_canSetOut_14 : decode cX2_canSetOut 14 = .ok (.iload_n 2, 1) := by decide +kernel
theorem dX2_canSetOut_15 : decode cX2_canSetOut 15 = .ok (.iaload, 1) := by decide +kernel
theorem dX2_canSetOut_16 : decode cX2_canSetOut 16 = .ok (.iconst 5, 1) := by decide +kernel
theorem dX2_canSetOut_17 : decode cX2_canSetOut 17 = .ok (.if_icmp .ne 14, 3) := by decide +kernel
theorem dX2_canSetOut_20 : decode cX2_canSetOut 20 = .ok (.iload_n 1, 1) := by decide +kernel
theorem dX2_canSetOut_21 : decode cX2_canSetOut 21 = .ok (.iload_n 2, 1) := by decide +kernel
theorem dX2_canSetOut_22 : decode cX2_canSetOut 22 = .ok (.ishr, 1) := by decide +kernel
theorem dX2_canSetOut_23 : decode cX2_canSetOut 23 = .ok (.iconst 1, 1) := by decide +kernel
theorem dX2_canSetOut_24 : decode cX2_canSetOut 24 = .ok (.iand, 1) := by decide +kernel
theorem dX2_canSetOut_25 : decode cX2_canSetOut 25 = .ok (.iconst 1, 1) := by decide +kernel
theorem dX2_canSetOut_26 : decode cX2_canSetOut 26 = .ok (.if_icmp .ne 5, 3) := by decide +kernel
theorem dX2_canSetOut_29 : decode cX2_canSetOut 29 = .ok (.iconst 0, 1) := by decide +kernel
theorem dX2_canSetOut_30 : decode cX2_canSetOut 30 = .ok (.ireturn, 1) := by decide +kernel
theorem dX2_canSetOut_31 : decode cX2_canSetOut 31 = .ok (.iinc 2 1, 3) := by decide +kernel
theorem dX2_canSetOut_34 : decode cX2_canSetOut 34 = .ok (.goto (-32), 3) := by decide +kernel
theorem dX2_canSetOut_37 : decode cX2_canSetOut 37 = .ok (.iconst 1, 1) := by decide +kernel
theorem dX2_canSetOut_38 : decode cX2_canSetOut 38 = .ok (.ireturn, 1) := by decide +kernel
theorem dX2_setOut_0 : decode cX2_setOut 0 = .ok (.iconst 0, 1) := by decide +kernel
theorem dX2_setOut_1 : decode cX2_setOut 1 = .ok (.istore_n 2, 1) := by decide +kernel
theorem dX2_setOut_2 : decode cX2_setOut 2 = .ok (.iload_n 2, 1) := by decide +kernel
theorem dX2_setOut_3 : decode cX2_setOut 3 = .ok (.aload_n 0, 1) := by decide +kernel
theorem dX2_setOut_4 : decode cX2_setOut 4 = .ok (.getfield 34, 3) := by decide +kernel
theorem dX2_setOut_7 : decode cX2_setOut 7 = .ok (.if_icmp .ge 39, 3) := by decide +kernel
theorem dX2_setOut_10 : decode cX2_setOut 10 = .ok (.aload_n 0, 1) := by decide +kernel
theorem dX2_setOut_11 : decode cX2_setOut 11 = .ok (.getfield 9, 3) := by decide +kernel
theorem dX2_setOut_14 : decode cX2_setOut 14 = .ok (.iload_n 2, 1) := by decide +kernel
theorem dX2_setOut_15 : decode cX2_setOut 15 = .ok (.iaload, 1) := by decide +kernel
theorem dX2_setOut_16 : decode cX2_setOut 16 = .ok (.iconst 5, 1) := by decide +kernel
theorem dX2_setOut_17 : decode cX2_setOut 17 = .ok (.if_icmp .eq 23, 3) := by decide +kernel
theorem dX2_setOut_20 : decode cX2_setOut 20 = .ok (.aload_n 0, 1) := by decide +kernel
theorem dX2_setOut_21 : decode cX2_setOut 21 = .ok (.getfield 21, 3) := by decide +kernel
theorem dX2_setOut_24 : decode cX2_setOut 24 = .ok (.iload_n 2, 1) := by decide +kernel
theorem dX2_setOut_25 : decode cX2_setOut 25 = .ok (.iload_n 1, 1) := by decide +kernel
theorem dX2_setOut_26 : decode cX2_setOut 26 = .ok (.iload_n 2, 1) := by decide +kernel
theorem dX2_setOut_27 : decode cX2_setOut 27 = .ok (.ishr, 1) := by decide +kernel
theorem dX2_setOut_28 : decode cX2_setOut 28 = .ok (.iconst 1, 1) := by decide +kernel
theorem dX2_setOut_29 : decode cX2_setOut 29 = .ok (.iand, 1) := by decide +kernel
theorem dX2_setOut_30 : decode cX2_setOut 30 = .ok (.iconst 1, 1) := by decide +kernel
theorem dX2_setOut_31 : decode cX2_setOut 31 = .ok (.if_icmp .ne 7, 3) := by decide +kernel
theorem dX2_setOut_34 : decode cX2_setOut 34 = .ok (.iconst 1, 1) := by decide +kernel
theorem dX2_setOut_35 : decode cX2_setOut 35 = .ok (.goto 4, 3) := by decide +kernel
theorem dX2_setOut_38 : decode cX2_setOut 38 = .ok (.iconst 0, 1) := by decide +kernel
theorem dX2_setOut_39 : decode cX2_setOut 39 = .ok (.iastore, 1) := by decide +kernel
theorem dX2_setOut_40 : decode cX2_setOut 40 = .ok (.iinc 2 1, 3) := by decide +kernel
theorem dX2_setOut_43 : decode cX2_setOut 43 = .ok (.goto (-41), 3) := by decide +kernel
theorem dX2_setOut_46 : decode cX2_setOut 46 = .ok (.return_, 1) := by decide +kernel
theorem dX2_goHalves_0 : decode cX2_goHalves 0 = .ok (.iconst 0, 1) := by decide +kernel
theorem dX2_goHalves_1 : decode cX2_goHalves 1 = .ok (.istore_n 2, 1) := by decide +kernel
theorem dX2_goHalves_2 : decode cX2_goHalves 2 = .ok (.iload_n 2, 1) := by decide +kernel
theorem dX2_goHalves_3 : decode cX2_goHalves 3 = .ok (.iload_n 1, 1) := by decide +kernel
theorem dX2_goHalves_4 : decode cX2_goHalves 4 = .ok (.if_icmp .ge 13, 3) := by decide +kernel
theorem dX2_goHalves_7 : decode cX2_goHalves 7 = .ok (.aload_n 0, 1) := by decide +kernel
theorem dX2_goHalves_8 : decode cX2_goHalves 8 = .ok (.invokevirtual 49, 3) := by decide +kernel
theorem dX2_goHalves_11 : decode cX2_goHalves 11 = .ok (.iinc 2 1, 3) := by decide +kernel
theorem dX2_goHalves_14 : decode cX2_goHalves 14 = .ok (.goto (-12), 3) := by decide +kernel
theorem dX2_goHalves_17 : decode cX2_goHalves 17 = .ok (.return_, 1) := by decide +kernel
theorem dX2_goHalf_0 : decode cX2_goHalf 0 = .ok (.iconst 0, 1) := by decide +kernel
theorem dX2_goHalf_1 : decode cX2_goHalf 1 = .ok (.istore_n 1, 1) := by decide +kernel
theorem dX2_goHalf_2 : decode cX2_goHalf 2 = .ok (.iload_n 1, 1) := by decide +kernel
theorem dX2_goHalf_3 : decode cX2_goHalf 3 = .ok (.aload_n 0, 1) := by decide +kernel
theorem dX2_goHalf_4 : decode cX2_goHalf 4 = .ok (.getfield 34, 3) := by decide +kernel
theorem dX2_goHalf_7 : decode cX2_goHalf 7 = .ok (.if_icmp .ge 24, 3) := by decide +kernel
theorem dX2_goHalf_10 : decode cX2_goHalf 10 = .ok (.aload_n 0, 1) := by decide +kernel
theorem dX2_goHalf_11 : decode cX2_goHalf 11 = .ok (.getfield 9, 3) := by decide +kernel
theorem dX2_goHalf_14 : decode cX2_goHalf 14 = .ok (.iload_n 1, 1) := by decide +kernel
theorem dX2_goHalf_15 : decode cX2_goHalf 15 = .ok (.iaload, 1) := by decide +kernel
theorem dX2_goHalf_16 : decode cX2_goHalf 16 = .ok (.iconst 5, 1) := by decide +kernel
theorem dX2_goHalf_17 : decode cX2_goHalf 17 = .ok (.if_icmp .eq 8, 3) := by decide +kernel
theorem dX2_goHalf_20 : decode cX2_goHalf 20 = .ok (.aload_n 0, 1) := by decide +kernel
theorem dX2_goHalf_21 : decode cX2_goHalf 21 = .ok (.iload_n 1, 1) := by decide +kernel
theorem dX2_goHalf_22 : decode cX2_goHalf 22 = .ok (.invokevirtual 52, 3) := by decide +kernel
theorem dX2_goHalf_25 : decode cX2_goHalf 25 = .ok (.iinc 1 1, 3) := by decide +kernel
theorem dX2_goHalf_28 : decode cX2_goHalf 28 = .ok (.goto (-26), 3) := by decide +kernel
theorem dX2_goHalf_31 : decode cX2_goHalf 31 = .ok (.iconst 1, 1) := by decide +kernel
theorem dX2_goHalf_32 : decode cX2_goHalf 32 = .ok (.istore_n 1, 1) := by decide +kernel
theorem dX2_goHalf_33 : decode cX2_goHalf 33 = .ok (.iload_n 1, 1) := by decide +kernel
theorem dX2_goHalf_34 : decode cX2_goHalf 34 = .ok (.aload_n 0, 1) := by decide +kernel
theorem dX2_goHalf_35 : decode cX2_goHalf 35 = .ok (.getfield 34, 3) := by decide +kernel
theorem dX2_goHalf_38 : decode cX2_goHalf 38 = .ok (.if_icmp .ge 37, 3) := by decide +kernel
theorem dX2_goHalf_41 : decode cX2_goHalf 41 = .ok (.iconst 0, 1) := by decide +kernel
theorem dX2_goHalf_42 : decode cX2_goHalf 42 = .ok (.istore_n 2, 1) := by decide +kernel
theorem dX2_goHalf_43 : decode cX2_goHalf 43 = .ok (.iload_n 2, 1) := by decide +kernel
theorem dX2_goHalf_44 : decode cX2_goHalf 44 = .ok (.iload_n 1, 1) := by decide +kernel
theorem dX2_goHalf_45 : decode cX2_goHalf 45 = .ok (.if_icmp .ge 24, 3) := by decide +kernel
theorem dX2_goHalf_48 : decode cX2_goHalf 48 = .ok (.aload_n 0, 1) := by decide +kernel
theorem dX2_goHalf_49 : decode cX2_goHalf 49 = .ok (.iload_n 1, 1) := by decide +kernel
theorem dX2_goHalf_50 : decode cX2_goHalf 50 = .ok (.iload_n 2, 1) := by decide +kernel
theorem dX2_goHalf_51 : decode cX2_goHalf 51 = .ok (.invokevirtual 56, 3) := by decide +kernel
theorem dX2_goHalf_54 : decode cX2_goHalf 54 = .ok (.ifCond .eq 9, 3) := by decide +kernel
theorem dX2_goHalf_57 : decode cX2_goHalf 57 = .ok (.aload_n 0, 1) := by decide +kernel
theorem dX2_goHalf_58 : decode cX2_goHalf 58 = .ok (.iload_n 1, 1) := by decide +kernel
theorem dX2_goHalf_59 : decode cX2_goHalf 59 = .ok (.iload_n 2, 1) := by decide +kernel
theorem dX2_goHalf_60 : decode cX2_goHalf 60 = .ok (.invokevirtual 60, 3) := by decide +kernel
theorem dX2_goHalf_63 : decode cX2_goHalf 63 = .ok (.iinc 2 1, 3) := by decide +kernel
theorem dX2_goHalf_66 : decode cX2_goHalf 66 = .ok (.goto (-23), 3) := by decide +kernel
theorem dX2_goHalf_69 : decode cX2_goHalf 69 = .ok (.iinc 1 1, 3) := by decide +kernel
theorem dX2_goHalf_72 : decode cX2_goHalf 72 = .ok (.goto (-39), 3) := by decide +kernel
theorem dX2_goHalf_75 : decode cX2_goHalf 75 = .ok (.aload_n 0, 1) := by decide +kernel
theorem dX2_goHalf_76 : decode cX2_goHalf 76 = .ok (.dup, 1) := by decide +kernel
theorem dX2_goHalf_77 : decode cX2_goHalf 77 = .ok (.getfield 37, 3) := by decide +kernel
theorem dX2_goHalf_80 : decode cX2_goHalf 80 = .ok (.iconst 1, 1) := by decide +kernel
theorem dX2_goHalf_81 : decode cX2_goHalf 81 = .ok (.iadd, 1) := by decide +kernel
theorem dX2_goHalf_82 : decode cX2_goHalf 82 = .ok (.putfield 37, 3) := by decide +kernel
theorem dX2_goHalf_85 : decode cX2_goHalf 85 = .ok (.aload_n 0, 1) := by decide +kernel
theorem dX2_goHalf_86 : decode cX2_goHalf 86 = .ok (.invokevirtual 64, 3) := by decide +kernel
theorem dX2_goHalf_89 : decode cX2_goHalf 89 = .ok (.return_, 1) := by decide +kernel
theorem dX2_walk_0 : decode cX2_walk 0 = .ok (.aload_n 0, 1) := by decide +kernel
theorem dX2_walk_1 : decode cX2_walk 1 = .ok (.getfield 18, 3) := by decide +kernel
theorem dX2_walk_4 : decode cX2_walk 4 = .ok (.iload_n 1, 1) := by decide +kernel
theorem dX2_walk_5 : decode cX2_walk 5 = .ok (.iaload, 1) := by decide +kernel
theorem dX2_walk_6 : decode cX2_walk 6 = .ok (.aload_n 0, 1) := by decide +kernel
theorem dX2_walk_7 : decode cX2_walk 7 = .ok (.getfield 21, 3) := by decide +kernel
theorem dX2_walk_10 : decode cX2_walk 10 = .ok (.iload_n 1, 1) := by decide +kernel
theorem dX2_walk_11 : decode cX2_walk 11 = .ok (.iaload, 1) := by decide +kernel
theorem dX2_walk_12 : decode cX2_walk 12 = .ok (.iconst 1, 1) := by decide +kernel
theorem dX2_walk_13 : decode cX2_walk 13 = .ok (.if_icmp .ne 10, 3) := by decide +kernel
theorem dX2_walk_16 : decode cX2_walk 16 = .ok (.aload_n 0, 1) := by decide +kernel
theorem dX2_walk_17 : decode cX2_walk 17 = .ok (.getfield 27, 3) := by decide +kernel
theorem dX2_walk_20 : decode cX2_walk 20 = .ok (.goto 4, 3) := by decide +kernel
theorem dX2_walk_23 : decode cX2_walk 23 = .ok (.iconst 0, 1) := by decide +kernel
theorem dX2_walk_24 : decode cX2_walk 24 = .ok (.if_icmp .ne 8, 3) := by decide +kernel
theorem dX2_walk_27 : decode cX2_walk 27 = .ok (.aload_n 0, 1) := by decide +kernel
theorem dX2_walk_28 : decode cX2_walk 28 = .ok (.iload_n 1, 1) := by decide +kernel
theorem dX2_walk_29 : decode cX2_walk 29 = .ok (.invokevirtual 67, 3) := by decide +kernel
theorem dX2_walk_32 : decode cX2_walk 32 = .ok (.aload_n 0, 1) := by decide +kernel
theorem dX2_walk_33 : decode cX2_walk 33 = .ok (.getfield 18, 3) := by decide +kernel
theorem dX2_walk_36 : decode cX2_walk 36 = .ok (.iload_n 1, 1) := by decide +kernel
theorem dX2_walk_37 : decode cX2_walk 37 = .ok (.dup2, 1) := by decide +kernel
theorem dX2_walk_38 : decode cX2_walk 38 = .ok (.iaload, 1) := by decide +kernel
theorem dX2_walk_39 : decode cX2_walk 39 = .ok (.aload_n 0, 1) := by decide +kernel
theorem dX2_walk_40 : decode cX2_walk 40 = .ok (.getfield 21, 3) := by decide +kernel
theorem dX2_walk_43 : decode cX2_walk 43 = .ok (.iload_n 1, 1) := by decide +kernel
theorem dX2_walk_44 : decode cX2_walk 44 = .ok (.iaload, 1) := by decide +kernel
theorem dX2_walk_45 : decode cX2_walk 45 = .ok (.iconst 1, 1) := by decide +kernel
theorem dX2_walk_46 : decode cX2_walk 46 = .ok (.if_icmp .ne 7, 3) := by decide +kernel
theorem dX2_walk_49 : decode cX2_walk 49 = .ok (.iconst 1, 1) := by decide +kernel
theorem dX2_walk_50 : decode cX2_walk 50 = .ok (.goto 4, 3) := by decide +kernel
theorem dX2_walk_53 : decode cX2_walk 53 = .ok (.iconst (-1), 1) := by decide +kernel
theorem dX2_walk_54 : decode cX2_walk 54 = .ok (.iadd, 1) := by decide +kernel
theorem dX2_walk_55 : decode cX2_walk 55 = .ok (.iastore, 1) := by decide +kernel
theorem dX2_walk_56 : decode cX2_walk 56 = .ok (.return_, 1) := by decide +kernel
theorem dX2_turn_0 : decode cX2_turn 0 = .ok (.aload_n 0, 1) := by decide +kernel
theorem dX2_turn_1 : decode cX2_turn 1 = .ok (.getfield 21, 3) := by decide +kernel
theorem dX2_turn_4 : decode cX2_turn 4 = .ok (.iload_n 1, 1) := by decide +kernel
theorem dX2_turn_5 : decode cX2_turn 5 = .ok (.aload_n 0, 1) := by decide +kernel
theorem dX2_turn_6 : decode cX2_turn 6 = .ok (.getfield 21, 3) := by decide +kernel
theorem dX2_turn_9 : decode cX2_turn 9 = .ok (.iload_n 1, 1) := by decide +kernel
theorem dX2_turn_10 : decode cX2_turn 10 = .ok (.iaload, 1) := by decide +kernel
theorem dX2_turn_11 : decode cX2_turn 11 = .ok (.iconst 1, 1) := by decide +kernel
theorem dX2_turn_12 : decode cX2_turn 12 = .ok (.if_icmp .ne 7, 3) := by decide +kernel
theorem dX2_turn_15 : decode cX2_turn 15 = .ok (.iconst 0, 1) := by decide +kernel
theorem dX2_turn_16 : decode cX2_turn 16 = .ok (.goto 4, 3) := by decide +kernel
theorem dX2_turn_19 : decode cX2_turn 19 = .ok (.iconst 1, 1) := by decide +kernel
theorem dX2_turn_20 : decode cX2_turn 20 = .ok (.iastore, 1) := by decide +kernel
theorem dX2_turn_21 : decode cX2_turn 21 = .ok (.return_, 1) := by decide +kernel
theorem dX2_doMeet_0 : decode cX2_doMeet 0 = .ok (.aload_n 0, 1) := by decide +kernel
theorem dX2_doMeet_1 : decode cX2_doMeet 1 = .ok (.getfield 9, 3) := by decide +kernel
theorem dX2_doMeet_4 : decode cX2_doMeet 4 = .ok (.iload_n 1, 1) := by decide +kernel
theorem dX2_doMeet_5 : decode cX2_doMeet 5 = .ok (.iaload, 1) := by decide +kernel
theorem dX2_doMeet_6 : decode cX2_doMeet 6 = .ok (.iconst 5, 1) := by decide +kernel
theorem dX2_doMeet_7 : decode cX2_doMeet 7 = .ok (.if_icmp .eq 47, 3) := by decide +kernel
theorem dX2_doMeet_10 : decode cX2_doMeet 10 = .ok (.aload_n 0, 1) := by decide +kernel
theorem dX2_doMeet_11 : decode cX2_doMeet 11 = .ok (.getfield 9, 3) := by decide +kernel
theorem dX2_doMeet_14 : decode cX2_doMeet 14 = .ok (.iload_n 2, 1) := by decide +kernel
theorem dX2_doMeet_15 : decode cX2_doMeet 15 = .ok (.iaload, 1) := by decide +kernel
theorem dX2_doMeet_16 : decode cX2_doMeet 16 = .ok (.iconst 5, 1) := by decide +kernel
theorem dX2_doMeet_17 : decode cX2_doMeet 17 = .ok (.if_icmp .eq 37, 3) := by decide +kernel
theorem dX2_doMeet_20 : decode cX2_doMeet 20 = .ok (.aload_n 0, 1) := by decide +kernel
theorem dX2_doMeet_21 : decode cX2_doMeet 21 = .ok (.getfield 18, 3) := by decide +kernel
theorem dX2_doMeet_24 : decode cX2_doMeet 24 = .ok (.iload_n 1, 1) := by decide +kernel
theorem dX2_doMeet_25 : decode cX2_doMeet 25 = .ok (.iaload, 1) := by decide +kernel
theorem dX2_doMeet_26 : decode cX2_doMeet 26 = .ok (.aload_n 0, 1) := by decide +kernel
theorem dX2_doMeet_27 : decode cX2_doMeet 27 = .ok (.getfield 18, 3) := by decide +kernel
theorem dX2_doMeet_30 : decode cX2_doMeet 30 = .ok (.iload_n 2, 1) := by decide +kernel
theorem dX2_doMeet_31 : decode cX2_doMeet 31 = .ok (.iaload, 1) := by decide +kernel
theorem dX2_doMeet_32 : decode cX2_doMeet 32 = .ok (.if_icmp .ne 22, 3) := by decide +kernel
theorem dX2_doMeet_35 : decode cX2_doMeet 35 = .ok (.aload_n 0, 1) := by decide +kernel
theorem dX2_doMeet_36 : decode cX2_doMeet 36 = .ok (.getfield 21, 3) := by decide +kernel
theorem dX2_doMeet_39 : decode cX2_doMeet 39 = .ok (.iload_n 1, 1) := by decide +kernel
theorem dX2_doMeet_40 : decode cX2_doMeet 40 = .ok (.iaload, 1) := by decide +kernel
theorem dX2_doMeet_41 : decode cX2_doMeet 41 = .ok (.aload_n 0, 1) := by decide +kernel
theorem dX2_doMeet_42 : decode cX2_doMeet 42 = .ok (.getfield 21, 3) := by decide +kernel
theorem dX2_doMeet_45 : decode cX2_doMeet 45 = .ok (.iload_n 2, 1) := by decide +kernel
theorem dX2_doMeet_46 : decode cX2_doMeet 46 = .ok (.iaload, 1) := by decide +kernel
theorem dX2_doMeet_47 : decode cX2_doMeet 47 = .ok (.if_icmp .eq 7, 3) := by decide +kernel
theorem dX2_doMeet_50 : decode cX2_doMeet 50 = .ok (.iconst 1, 1) := by decide +kernel
theorem dX2_doMeet_51 : decode cX2_doMeet 51 = .ok (.goto 4, 3) := by decide +kernel
theorem dX2_doMeet_54 : decode cX2_doMeet 54 = .ok (.iconst 0, 1) := by decide +kernel
theorem dX2_doMeet_55 : decode cX2_doMeet 55 = .ok (.ireturn, 1) := by decide +kernel
theorem dX2_meet_0 : decode cX2_meet 0 = .ok (.aload_n 0, 1) := by decide +kernel
theorem dX2_meet_1 : decode cX2_meet 1 = .ok (.getfield 31, 3) := by decide +kernel
theorem dX2_meet_4 : decode cX2_meet 4 = .ok (.iconst 1, 1) := by decide +kernel
theorem dX2_meet_5 : decode cX2_meet 5 = .ok (.if_icmp .ne 4, 3) := by decide +kernel
theorem dX2_meet_8 : decode cX2_meet 8 = .ok (.return_, 1) := by decide +kernel
theorem dX2_meet_9 : decode cX2_meet 9 = .ok (.aload_n 0, 1) := by decide +kernel
theorem dX2_meet_10 : decode cX2_meet 10 = .ok (.getfield 24, 3) := by decide +kernel
theorem dX2_meet_13 : decode cX2_meet 13 = .ok (.iload_n 1, 1) := by decide +kernel
theorem dX2_meet_14 : decode cX2_meet 14 = .ok (.iaload, 1) := by decide +kernel
theorem dX2_meet_15 : decode cX2_meet 15 = .ok (.istore_n 3, 1) := by decide +kernel
theorem dX2_meet_16 : decode cX2_meet 16 = .ok (.aload_n 0, 1) := by decide +kernel
theorem dX2_meet_17 : decode cX2_meet 17 = .ok (.getfield 24, 3) := by decide +kernel
theorem dX2_meet_20 : decode cX2_meet 20 = .ok (.iload_n 1, 1) := by decide +kernel
theorem dX2_meet_21 : decode cX2_meet 21 = .ok (.aload_n 0, 1) := by decide +kernel
theorem dX2_meet_22 : decode cX2_meet 22 = .ok (.getfield 24, 3) := by decide +kernel
theorem dX2_meet_25 : decode cX2_meet 25 = .ok (.iload_n 2, 1) := by decide +kernel
theorem dX2_meet_26 : decode cX2_meet 26 = .ok (.iaload, 1) := by decide +kernel
theorem dX2_meet_27 : decode cX2_meet 27 = .ok (.iastore, 1) := by decide +kernel
theorem dX2_meet_28 : decode cX2_meet 28 = .ok (.aload_n 0, 1) := by decide +kernel
theorem dX2_meet_29 : decode cX2_meet 29 = .ok (.getfield 24, 3) := by decide +kernel
theorem dX2_meet_32 : decode cX2_meet 32 = .ok (.iload_n 2, 1) := by decide +kernel
theorem dX2_meet_33 : decode cX2_meet 33 = .ok (.iload_n 3, 1) := by decide +kernel
theorem dX2_meet_34 : decode cX2_meet 34 = .ok (.iastore, 1) := by decide +kernel
theorem dX2_meet_35 : decode cX2_meet 35 = .ok (.aload_n 0, 1) := by decide +kernel
theorem dX2_meet_36 : decode cX2_meet 36 = .ok (.getfield 31, 3) := by decide +kernel
theorem dX2_meet_39 : decode cX2_meet 39 = .ok (.ifCond .ne 13, 3) := by decide +kernel
theorem dX2_meet_42 : decode cX2_meet 42 = .ok (.aload_n 0, 1) := by decide +kernel
theorem dX2_meet_43 : decode cX2_meet 43 = .ok (.iload_n 1, 1) := by decide +kernel
theorem dX2_meet_44 : decode cX2_meet 44 = .ok (.invokevirtual 67, 3) := by decide +kernel
theorem dX2_meet_47 : decode cX2_meet 47 = .ok (.aload_n 0, 1) := by decide +kernel
theorem dX2_meet_48 : decode cX2_meet 48 = .ok (.iload_n 2, 1) := by decide +kernel
theorem dX2_meet_49 : decode cX2_meet 49 = .ok (.invokevirtual 67, 3) := by decide +kernel
theorem dX2_meet_52 : decode cX2_meet 52 = .ok (.return_, 1) := by decide +kernel
theorem dX2_finish_0 : decode cX2_finish 0 = .ok (.iconst 0, 1) := by decide +kernel
theorem dX2_finish_1 : decode cX2_finish 1 = .ok (.istore_n 1, 1) := by decide +kernel
theorem dX2_finish_2 : decode cX2_finish 2 = .ok (.iload_n 1, 1) := by decide +kernel
theorem dX2_finish_3 : decode cX2_finish 3 = .ok (.aload_n 0, 1) := by decide +kernel
theorem dX2_finish_4 : decode cX2_finish 4 = .ok (.getfield 34, 3) := by decide +kernel
theorem dX2_finish_7 : decode cX2_finish 7 = .ok (.if_icmp .ge 46, 3) := by decide +kernel
theorem dX2_finish_10 : decode cX2_finish 10 = .ok (.aload_n 0, 1) := by decide +kernel
theorem dX2_finish_11 : decode cX2_finish 11 = .ok (.getfield 18, 3) := by decide +kernel
theorem dX2_finish_14 : decode cX2_finish 14 = .ok (.iload_n 1, 1) := by decide +kernel
theorem dX2_finish_15 : decode cX2_finish 15 = .ok (.iaload, 1) := by decide +kernel
theorem dX2_finish_16 : decode cX2_finish 16 = .ok (.aload_n 0, 1) := by decide +kernel
theorem dX2_finish_17 : decode cX2_finish 17 = .ok (.getfield 15, 3) := by decide +kernel
theorem dX2_finish_20 : decode cX2_finish 20 = .ok (.aload_n 0, 1) := by decide +kernel
theorem dX2_finish_21 : decode cX2_finish 21 = .ok (.getfield 24, 3) := by decide +kernel
theorem dX2_finish_24 : decode cX2_finish 24 = .ok (.iload_n 1, 1) := by decide +kernel
theorem dX2_finish_25 : decode cX2_finish 25 = .ok (.iaload, 1) := by decide +kernel
theorem dX2_finish_26 : decode cX2_finish 26 = .ok (.iaload, 1) := by decide +kernel
theorem dX2_finish_27 : decode cX2_finish 27 = .ok (.if_icmp .ne 20, 3) := by decide +kernel
theorem dX2_finish_30 : decode cX2_finish 30 = .ok (.aload_n 0, 1) := by decide +kernel
theorem dX2_finish_31 : decode cX2_finish 31 = .ok (.dup, 1) := by decide +kernel
theorem dX2_finish_32 : decode cX2_finish 32 = .ok (.getfield 40, 3) := by decide +kernel
theorem dX2_finish_35 : decode cX2_finish 35 = .ok (.iconst 1, 1) := by decide +kernel
theorem dX2_finish_36 : decode cX2_finish 36 = .ok (.aload_n 0, 1) := by decide +kernel
theorem dX2_finish_37 : decode cX2_finish 37 = .ok (.getfield 24, 3) := by decide +kernel
theorem dX2_finish_40 : decode cX2_finish 40 = .ok (.iload_n 1, 1) := by decide +kernel
theorem dX2_finish_41 : decode cX2_finish 41 = .ok (.iaload, 1) := by decide +kernel
theorem dX2_finish_42 : decode cX2_finish 42 = .ok (.ishl, 1) := by decide +kernel
theorem dX2_finish_43 : decode cX2_finish 43 = .ok (.ior, 1) := by decide +kernel
theorem dX2_finish_44 : decode cX2_finish 44 = .ok (.putfield 40, 3) := by decide +kernel
theorem dX2_finish_47 : decode cX2_finish 47 = .ok (.iinc 1 1, 3) := by decide +kernel
theorem dX2_finish_50 : decode cX2_finish 50 = .ok (.goto (-48), 3) := by decide +kernel
theorem dX2_finish_53 : decode cX2_finish 53 = .ok (.return_, 1) := by decide +kernel
theorem dX2_halvesUntil_0 : decode cX2_halvesUntil 0 = .ok (.iconst 0, 1) := by decide +kernel
theorem dX2_halvesUntil_1 : decode cX2_halvesUntil 1 = .ok (.istore_n 3, 1) := by decide +kernel
theorem dX2_halvesUntil_2 : decode cX2_halvesUntil 2 = .ok (.iload_n 3, 1) := by decide +kernel
theorem dX2_halvesUntil_3 : decode cX2_halvesUntil 3 = .ok (.iload_n 2, 1) := by decide +kernel
theorem dX2_halvesUntil_4 : decode cX2_halvesUntil 4 = .ok (.if_icmp .gt 30, 3) := by decide +kernel
theorem dX2_halvesUntil_7 : decode cX2_halvesUntil 7 = .ok (.aload_n 0, 1) := by decide +kernel
theorem dX2_halvesUntil_8 : decode cX2_halvesUntil 8 = .ok (.getfield 40, 3) := by decide +kernel
theorem dX2_halvesUntil_11 : decode cX2_halvesUntil 11 = .ok (.iload_n 1, 1) := by decide +kernel
theorem dX2_halvesUntil_12 : decode cX2_halvesUntil 12 = .ok (.iand, 1) := by decide +kernel
theorem dX2_halvesUntil_13 : decode cX2_halvesUntil 13 = .ok (.iload_n 1, 1) := by decide +kernel
theorem dX2_halvesUntil_14 : decode cX2_halvesUntil 14 = .ok (.if_icmp .ne 5, 3) := by decide +kernel
theorem dX2_halvesUntil_17 : decode cX2_halvesUntil 17 = .ok (.iload_n 3, 1) := by decide +kernel
theorem dX2_halvesUntil_18 : decode cX2_halvesUntil 18 = .ok (.ireturn, 1) := by decide +kernel
theorem dX2_halvesUntil_19 : decode cX2_halvesUntil 19 = .ok (.iload_n 3, 1) := by decide +kernel
theorem dX2_halvesUntil_20 : decode cX2_halvesUntil 20 = .ok (.iload_n 2, 1) := by decide +kernel
theorem dX2_halvesUntil_21 : decode cX2_halvesUntil 21 = .ok (.if_icmp .ge 7, 3) := by decide +kernel
theorem dX2_halvesUntil_24 : decode cX2_halvesUntil 24 = .ok (.aload_n 0, 1) := by decide +kernel
theorem dX2_halvesUntil_25 : decode cX2_halvesUntil 25 = .ok (.invokevirtual 49, 3) := by decide +kernel
theorem dX2_halvesUntil_28 : decode cX2_halvesUntil 28 = .ok (.iinc 3 1, 3) := by decide +kernel
theorem dX2_halvesUntil_31 : decode cX2_halvesUntil 31 = .ok (.goto (-29), 3) := by decide +kernel
theorem dX2_halvesUntil_34 : decode cX2_halvesUntil 34 = .ok (.ldc 70, 2) := by decide +kernel
theorem dX2_halvesUntil_36 : decode cX2_halvesUntil 36 = .ok (.ireturn, 1) := by decide +kernel
theorem dX2_holdersAhead_0 : decode cX2_holdersAhead 0 = .ok (.iconst 1, 1) := by decide +kernel
theorem dX2_holdersAhead_1 : decode cX2_holdersAhead 1 = .ok (.aload_n 0, 1) := by decide +kernel
theorem dX2_holdersAhead_2 : decode cX2_holdersAhead 2 = .ok (.iload_n 1, 1) := by decide +kernel
theorem dX2_holdersAhead_3 : decode cX2_holdersAhead 3 = .ok (.invokevirtual 71, 3) := by decide +kernel
theorem dX2_holdersAhead_6 : decode cX2_holdersAhead 6 = .ok (.ishl, 1) := by decide +kernel
theorem dX2_holdersAhead_7 : decode cX2_holdersAhead 7 = .ok (.istore_n 3, 1) := by decide +kernel
theorem dX2_holdersAhead_8 : decode cX2_holdersAhead 8 = .ok (.iconst 0, 1) := by decide +kernel
theorem dX2_holdersAhead_9 : decode cX2_holdersAhead 9 = .ok (.istore 4, 2) := by decide +kernel
theorem dX2_holdersAhead_11 : decode cX2_holdersAhead 11 = .ok (.iload 4, 2) := by decide +kernel
theorem dX2_holdersAhead_13 : decode cX2_holdersAhead 13 = .ok (.iload_n 2, 1) := by decide +kernel
theorem dX2_holdersAhead_14 : decode cX2_holdersAhead 14 = .ok (.if_icmp .ge 23, 3) := by decide +kernel
theorem dX2_holdersAhead_17 : decode cX2_holdersAhead 17 = .ok (.aload_n 0, 1) := by decide +kernel
theorem dX2_holdersAhead_18 : decode cX2_holdersAhead 18 = .ok (.invokevirtual 49, 3) := by decide +kernel
theorem dX2_holdersAhead_21 : decode cX2_holdersAhead 21 = .ok (.iload_n 3, 1) := by decide +kernel
theorem dX2_holdersAhead_22 : decode cX2_holdersAhead 22 = .ok (.iconst 1, 1) := by decide +kernel
theorem dX2_holdersAhead_23 : decode cX2_holdersAhead 23 = .ok (.aload_n 0, 1) := by decide +kernel
theorem dX2_holdersAhead_24 : decode cX2_holdersAhead 24 = .ok (.iload_n 1, 1) := by decide +kernel
theorem dX2_holdersAhead_25 : decode cX2_holdersAhead 25 = .ok (.invokevirtual 71, 3) := by decide +kernel
theorem dX2_holdersAhead_28 : decode cX2_holdersAhead 28 = .ok (.ishl, 1) := by decide +kernel
theorem dX2_holdersAhead_29 : decode cX2_holdersAhead 29 = .ok (.ior, 1) := by decide +kernel
theorem dX2_holdersAhead_30 : decode cX2_holdersAhead 30 = .ok (.istore_n 3, 1) := by decide +kernel
theorem dX2_holdersAhead_31 : decode cX2_holdersAhead 31 = .ok (.iinc 4 1, 3) := by decide +kernel
theorem dX2_holdersAhead_34 : decode cX2_holdersAhead 34 = .ok (.goto (-23), 3) := by decide +kernel
theorem dX2_holdersAhead_37 : decode cX2_holdersAhead 37 = .ok (.iload_n 3, 1) := by decide +kernel
theorem dX2_holdersAhead_38 : decode cX2_holdersAhead 38 = .ok (.ireturn, 1) := by decide +kernel
theorem dX3_init_0 : decode cX3_init 0 = .ok (.aload_n 0, 1) := by decide +kernel
theorem dX3_init_1 : decode cX3_init 1 = .ok (.invokespecial 3, 3) := by decide +kernel
theorem dX3_init_4 : decode cX3_init 4 = .ok (.aload_n 0, 1) := by decide +kernel
theorem dX3_init_5 : decode cX3_init 5 = .ok (.new 9, 3) := by decide +kernel
theorem dX3_init_8 : decode cX3_init 8 = .ok (.dup, 1) := by decide +kernel
theorem dX3_init_9 : decode cX3_init 9 = .ok (.invokespecial 11, 3) := by decide +kernel
theorem dX3_init_12 : decode cX3_init 12 = .ok (.putfield 12, 3) := by decide +kernel
theorem dX3_init_15 : decode cX3_init 15 = .ok (.aload_n 0, 1) := by decide +kernel
theorem dX3_init_16 : decode cX3_init 16 = .ok (.iconst 0, 1) := by decide +kernel
theorem dX3_init_17 : decode cX3_init 17 = .ok (.putfield 18, 3) := by decide +kernel
theorem dX3_init_20 : decode cX3_init 20 = .ok (.aload_n 0, 1) := by decide +kernel
theorem dX3_init_21 : decode cX3_init 21 = .ok (.iconst 0, 1) := by decide +kernel
theorem dX3_init_22 : decode cX3_init 22 = .ok (.putfield 22, 3) := by decide +kernel
theorem dX3_init_25 : decode cX3_init 25 = .ok (.aload_n 0, 1) := by decide +kernel
theorem dX3_init_26 : decode cX3_init 26 = .ok (.iconst 0, 1) := by decide +kernel
theorem dX3_init_27 : decode cX3_init 27 = .ok (.putfield 25, 3) := by decide +kernel
theorem dX3_init_30 : decode cX3_init 30 = .ok (.aload_n 0, 1) := by decide +kernel
theorem dX3_init_31 : decode cX3_init 31 = .ok (.iconst 0, 1) := by decide +kernel
theorem dX3_init_32 : decode cX3_init 32 = .ok (.putfield 28, 3) := by decide +kernel
theorem dX3_init_35 : decode cX3_init 35 = .ok (.aload_n 0, 1) := by decide +kernel
theorem dX3_init_36 : decode cX3_init 36 = .ok (.iconst 0, 1) := by decide +kernel
theorem dX3_init_37 : decode cX3_init 37 = .ok (.putfield 31, 3) := by decide +kernel
theorem dX3_init_40 : decode cX3_init 40 = .ok (.return_, 1) := by decide +kernel
theorem dX3_reads_0 : decode cX3_reads 0 = .ok (.aload_n 0, 1) := by decide +kernel
theorem dX3_reads_1 : decode cX3_reads 1 = .ok (.iconst 0, 1) := by decide +kernel
theorem dX3_reads_2 : decode cX3_reads 2 = .ok (.putfield 18, 3) := by decide +kernel
theorem dX3_reads_5 : decode cX3_reads 5 = .ok (.aload_n 0, 1) := by decide +kernel
theorem dX3_reads_6 : decode cX3_reads 6 = .ok (.aload_n 1, 1) := by decide +kernel
theorem dX3_reads_7 : decode cX3_reads 7 = .ok (.invokevirtual 34, 3) := by decide +kernel
theorem dX3_reads_10 : decode cX3_reads 10 = .ok (.ifCond .ne 5, 3) := by decide +kernel
theorem dX3_reads_13 : decode cX3_reads 13 = .ok (.iconst 0, 1) := by decide +kernel
theorem dX3_reads_14 : decode cX3_reads 14 = .ok (.ireturn, 1) := by decide +kernel
theorem dX3_reads_15 : decode cX3_reads 15 = .ok (.aload_n 0, 1) := by decide +kernel
theorem dX3_reads_16 : decode cX3_reads 16 = .ok (.invokevirtual 38, 3) := by decide +kernel
theorem dX3_reads_19 : decode cX3_reads 19 = .ok (.iconst 0, 1) := by decide +kernel
theorem dX3_reads_20 : decode cX3_reads 20 = .ok (.istore_n 2, 1) := by decide +kernel
theorem dX3_reads_21 : decode cX3_reads 21 = .ok (.iload_n 2, 1) := by decide +kernel
theorem dX3_reads_22 : decode cX3_reads 22 = .ok (.bipush 6, 2) := by decide +kernel
theorem dX3_reads_24 : decode cX3_reads 24 = .ok (.if_icmp .ge 46, 3) := by decide +kernel
theorem dX3_reads_27 : decode cX3_reads 27 = .ok (.aload_n 0, 1) := by decide +kernel
theorem dX3_reads_28 : decode cX3_reads 28 = .ok (.getfield 25, 3) := by decide +kernel
theorem dX3_reads_31 : decode cX3_reads 31 = .ok (.ifCond .eq 39, 3) := by decide +kernel
theorem dX3_reads_34 : decode cX3_reads 34 = .ok (.aload_n 0, 1) := by decide +kernel
theorem dX3_reads_35 : decode cX3_reads 35 = .ok (.ldc 41, 2) := by decide +kernel
theorem dX3_reads_37 : decode cX3_reads 37 = .ok (.invokevirtual 43, 3) := by decide +kernel
theorem dX3_reads_40 : decode cX3_reads 40 = .ok (.ifCond .ne 9, 3) := by decide +kernel
theorem dX3_reads_43 : decode cX3_reads 43 = .ok (.aload_n 0, 1) := by decide +kernel
theorem dX3_reads_44 : decode cX3_reads 44 = .ok (.iconst 1, 1) := by decide +kernel
theorem dX3_reads_45 : decode cX3_reads 45 = .ok (.invokevirtual 47, 3) := by decide +kernel
theorem dX3_reads_48 : decode cX3_reads 48 = .ok (.ireturn, 1) := by decide +kernel
theorem dX3_reads_49 : decode cX3_reads 49 = .ok (.aload_n 0, 1) := by decide +kernel
theorem dX3_reads_50 : decode cX3_reads 50 = .ok (.aload_n 1, 1) := by decide +kernel
theorem dX3_reads_51 : decode cX3_reads 51 = .ok (.iload_n 2, 1) := by decide +kernel
theorem dX3_reads_52 : decode cX3_reads 52 = .ok (.invokevirtual 51, 3) := by decide +kernel
theorem dX3_reads_55 : decode cX3_reads 55 = .ok (.ifCond .ne 5, 3) := by decide +kernel
theorem dX3_reads_58 : decode cX3_reads 58 = .ok (.iconst 0, 1) := by decide +kernel
theorem dX3_reads_59 : decode cX3_reads 59 = .ok (.ireturn, 1) := by decide +kernel
theorem dX3_reads_60 : decode cX3_reads 60 = .ok (.aload_n 0, 1) := by decide +kernel
theorem dX3_reads_61 : decode cX3_reads 61 = .ok (.invokevirtual 38, 3) := by decide +kernel
theorem dX3_reads_64 : decode cX3_reads 64 = .ok (.iinc 2 1, 3) := by decide +kernel
theorem dX3_reads_67 : decode cX3_reads 67 = .ok (.goto (-46), 3) := by decide +kernel
theorem dX3_reads_70 : decode cX3_reads 70 = .ok (.aload_n 0, 1) := by decide +kernel
theorem dX3_reads_71 : decode cX3_reads 71 = .ok (.getfield 25, 3) := by decide +kernel
theorem dX3_reads_74 : decode cX3_reads 74 = .ok (.ifCond .eq 22, 3) := by decide +kernel
theorem dX3_reads_77 : decode cX3_reads 77 = .ok (.aload_n 0, 1) := by decide +kernel
theorem dX3_reads_78 : decode cX3_reads 78 = .ok (.aload_n 0, 1) := by decide +kernel
theorem dX3_reads_79 : decode cX3_reads 79 = .ok (.ldc 41, 2) := by decide +kernel
theorem dX3_reads_81 : decode cX3_reads 81 = .ok (.invokevirtual 43, 3) := by decide +kernel
theorem dX3_reads_84 : decode cX3_reads 84 = .ok (.ifCond .eq 7, 3) := by decide +kernel
theorem dX3_reads_87 : decode cX3_reads 87 = .ok (.iconst 3, 1) := by decide +kernel
theorem dX3_reads_88 : decode cX3_reads 88 = .ok (.goto 4, 3) := by decide +kernel
theorem dX3_reads_91 : decode cX3_reads 91 = .ok (.iconst 1, 1) := by decide +kernel
theorem dX3_reads_92 : decode cX3_reads 92 = .ok (.invokevirtual 47, 3) := by decide +kernel
theorem dX3_reads_95 : decode cX3_reads 95 = .ok (.ireturn, 1) := by decide +kernel
theorem dX3_reads_96 : decode cX3_reads 96 = .ok (.aload_n 1, 1) := by decide +kernel
theorem dX3_reads_97 : decode cX3_reads 97 = .ok (.invokevirtual 55, 3) := by decide +kernel
theorem dX3_reads_100 : decode cX3_reads 100 = .ok (.iconst 1, 1) := by decide +kernel
theorem dX3_reads_101 : decode cX3_reads 101 = .ok (.ireturn, 1) := by decide +kernel
theorem dX3_readsLane_0 : decode cX3_readsLane 0 = .ok (.aload_n 0, 1) := by decide +kernel
theorem dX3_readsLane_1 : decode cX3_readsLane 1 = .ok (.invokevirtual 38, 3) := by decide +kernel
theorem dX3_readsLane_4 : decode cX3_readsLane 4 = .ok (.aload_n 0, 1) := by decide +kernel
theorem dX3_readsLane_5 : decode cX3_readsLane 5 = .ok (.ldc 60, 2) := by decide +kernel
theorem dX3_readsLane_7 : decode cX3_readsLane 7 = .ok (.invokevirtual 43, 3) := by decide +kernel
theorem dX3_readsLane_10 : decode cX3_readsLane 10 = .ok (.ifCond .ne 9, 3) := by decide +kernel
theorem dX3_readsLane_13 : decode cX3_readsLane 13 = .ok (.aload_n 0, 1) := by decide +kernel
theorem dX3_readsLane_14 : decode cX3_readsLane 14 = .ok (.iconst 1, 1) := by decide +kernel
theorem dX3_readsLane_15 : decode cX3_readsLane 15 = .ok (.invokevirtual 47, 3) := by decide +kernel
theorem dX3_readsLane_18 : decode cX3_readsLane 18 = .ok (.ireturn, 1) := by decide +kernel
theorem dX3_readsLane_19 : decode cX3_readsLane 19 = .ok (.aload_n 0, 1) := by decide +kernel
theorem dX3_readsLane_20 : decode cX3_readsLane 20 = .ok (.iconst 2, 1) := by decide +kernel
theorem dX3_readsLane_21 : decode cX3_readsLane 21 = .ok (.bipush 30, 2) := by decide +kernel
theorem dX3_readsLane_23 : decode cX3_readsLane 23 = .ok (.invokevirtual 62, 3) := by decide +kernel
theorem dX3_readsLane_26 : decode cX3_readsLane 26 = .ok (.ifCond .ne 5, 3) := by decide +kernel
theorem dX3_readsLane_29 : decode cX3_readsLane 29 = .ok (.iconst 0, 1) := by decide +kernel
theorem dX3_readsLane_30 : decode cX3_readsLane 30 = .ok (.ireturn, 1) := by decide +kernel
theorem dX3_readsLane_31 : decode cX3_readsLane 31 = .ok (.aload_n 0, 1) := by decide +kernel
theorem dX3_readsLane_32 : decode cX3_readsLane 32 = .ok (.getfield 28, 3) := by decide +kernel
theorem dX3_readsLane_35 : decode cX3_readsLane 35 = .ok (.istore_n 2, 1) := by decide +kernel
theorem dX3_readsLane_36 : decode cX3_readsLane 36 = .ok (.aload_n 0, 1) := by decide +kernel
theorem dX3_readsLane_37 : decode cX3_readsLane 37 = .ok (.iconst 0, 1) := by decide +kernel
theorem dX3_readsLane_38 : decode cX3_readsLane 38 = .ok (.iconst 2, 1) := by decide +kernel
theorem dX3_readsLane_39 : decode cX3_readsLane 39 = .ok (.invokevirtual 62, 3) := by decide +kernel
theorem dX3_readsLane_42 : decode cX3_readsLane 42 = .ok (.ifCond .ne 5, 3) := by decide +kernel
theorem dX3_readsLane_45 : decode cX3_readsLane 45 = .ok (.iconst 0, 1) := by decide +kernel
theorem dX3_readsLane_46 : decode cX3_readsLane 46 = .ok (.ireturn, 1) := by decide +kernel
theorem dX3_readsLane_47 : decode cX3_readsLane 47 = .ok (.aload_n 1, 1) := by decide +kernel
theorem dX3_readsLane_48 : decode cX3_readsLane 48 = .ok (.iconst 2, 1) := by decide +kernel
theorem dX3_readsLane_49 : decode cX3_readsLane 49 = .ok (.iload_n 2, 1) := by decide +kernel
theorem dX3_readsLane_50 : decode cX3_readsLane 50 = .ok (.imul, 1) := by decide +kernel
theorem dX3_readsLane_51 : decode cX3_readsLane 51 = .ok (.aload_n 0, 1) := by decide +kernel
theorem dX3_readsLane_52 : decode cX3_readsLane 52 = .ok (.getfield 28, 3) := by decide +kernel
theorem dX3_readsLane_55 : decode cX3_readsLane 55 = .ok (.invokevirtual 66, 3) := by decide +kernel
theorem dX3_readsLane_58 : decode cX3_readsLane 58 = .ok (.aload_n 0, 1) := by decide +kernel
theorem dX3_readsLane_59 : decode cX3_readsLane 59 = .ok (.invokevirtual 70, 3) := by decide +kernel
theorem dX3_readsLane_62 : decode cX3_readsLane 62 = .ok (.ireturn, 1) := by decide +kernel
theorem dX3_readsOne_0 : decode cX3_readsOne 0 = .ok (.aload_n 0, 1) := by decide +kernel
theorem dX3_readsOne_1 : decode cX3_readsOne 1 = .ok (.invokevirtual 38, 3) := by decide +kernel
theorem dX3_readsOne_4 : decode cX3_readsOne 4 = .ok (.aload_n 0, 1) := by decide +kernel
theorem dX3_readsOne_5 : decode cX3_readsOne 5 = .ok (.invokevirtual 74, 3) := by decide +kernel
theorem dX3_readsOne_8 : decode cX3_readsOne 8 = .ok (.istore_n 3, 1) := by decide +kernel
theorem dX3_readsOne_9 : decode cX3_readsOne 9 = .ok (.iload_n 3, 1) := by decide +kernel
theorem dX3_readsOne_10 : decode cX3_readsOne 10 = .ok (.ldc 78, 2) := by decide +kernel
theorem dX3_readsOne_12 : decode cX3_readsOne 12 = .ok (.if_icmp .ne 9, 3) := by decide +kernel
theorem dX3_readsOne_15 : decode cX3_readsOne 15 = .ok (.aload_n 0, 1) := by decide +kernel
theorem dX3_readsOne_16 : decode cX3_readsOne 16 = .ok (.iconst 1, 1) := by decide +kernel
theorem dX3_readsOne_17 : decode cX3_readsOne 17 = .ok (.invokevirtual 47, 3) := by decide +kernel
theorem dX3_readsOne_20 : decode cX3_readsOne 20 = .ok (.ireturn, 1) := by decide +kernel
theorem dX3_readsOne_21 : decode cX3_readsOne 21 = .ok (.aload_n 1, 1) := by decide +kernel
theorem dX3_readsOne_22 : decode cX3_readsOne 22 = .ok (.getfield 79, 3) := by decide +kernel
theorem dX3_readsOne_25 : decode cX3_readsOne 25 = .ok (.iload_n 2, 1) := by decide +kernel
theorem dX3_readsOne_26 : decode cX3_readsOne 26 = .ok (.iload_n 3, 1) := by decide +kernel
theorem dX3_readsOne_27 : decode cX3_readsOne 27 = .ok (.iastore, 1) := by decide +kernel
theorem dX3_readsOne_28 : decode cX3_readsOne 28 = .ok (.aload_n 0, 1) := by decide +kernel
theorem dX3_readsOne_29 : decode cX3_readsOne 29 = .ok (.aload_n 1, 1) := by decide +kernel
theorem dX3_readsOne_30 : decode cX3_readsOne 30 = .ok (.getfield 83, 3) := by decide +kernel
theorem dX3_readsOne_33 : decode cX3_readsOne 33 = .ok (.invokevirtual 86, 3) := by decide +kernel
theorem dX3_readsOne_36 : decode cX3_readsOne 36 = .ok (.ifCond .ne 5, 3) := by decide +kernel
theorem dX3_readsOne_39 : decode cX3_readsOne 39 = .ok (.iconst 0, 1) := by decide +kernel
theorem dX3_readsOne_40 : decode cX3_readsOne 40 = .ok (.ireturn, 1) := by decide +kernel
theorem dX3_readsOne_41 : decode cX3_readsOne 41 = .ok (.aload_n 1, 1) := by decide +kernel
theorem dX3_readsOne_42 : decode cX3_readsOne 42 = .ok (.aload_n 0, 1) := by decide +kernel
theorem dX3_readsOne_43 : decode cX3_readsOne 43 = .ok (.getfield 28, 3) := by decide +kernel
theorem dX3_readsOne_46 : decode cX3_readsOne 46 = .ok (.invokevirtual 89, 3) := by decide +kernel
theorem dX3_readsOne_49 : decode cX3_readsOne 49 = .ok (.ifCond .eq 9, 3) := by decide +kernel
theorem dX3_readsOne_52 : decode cX3_readsOne 52 = .ok (.aload_n 0, 1) := by decide +kernel
theorem dX3_readsOne_53 : decode cX3_readsOne 53 = .ok (.iconst 2, 1) := by decide +kernel
theorem dX3_readsOne_54 : decode cX3_readsOne 54 = .ok (.invokevirtual 47, 3) := by decide +kernel
theorem dX3_readsOne_57 : decode cX3_readsOne 57 = .ok (.ireturn, 1) := by decide +kernel
theorem dX3_readsOne_58 : decode cX3_readsOne 58 = .ok (.aload_n 1, 1) := by decide +kernel
theorem dX3_readsOne_59 : decode cX3_readsOne 59 = .ok (.getfield 92, 3) := by decide +kernel
theorem dX3_readsOne_62 : decode cX3_readsOne 62 = .ok (.iload_n 2, 1) := by decide +kernel
theorem dX3_readsOne_63 : decode cX3_readsOne 63 = .ok (.aload_n 0, 1) := by decide +kernel
theorem dX3_readsOne_64 : decode cX3_readsOne 64 = .ok (.getfield 28, 3) := by decide +kernel
theorem dX3_readsOne_67 : decode cX3_readsOne 67 = .ok (.iastore, 1) := by decide +kernel
theorem dX3_readsOne_68 : decode cX3_readsOne 68 = .ok (.aload_n 0, 1) := by decide +kernel
theorem dX3_readsOne_69 : decode cX3_readsOne 69 = .ok (.iconst 0, 1) := by decide +kernel
theorem dX3_readsOne_70 : decode cX3_readsOne 70 = .ok (.iconst 1, 1) := by decide +kernel
theorem dX3_readsOne_71 : decode cX3_readsOne 71 = .ok (.invokevirtual 62, 3) := by decide +kernel
theorem dX3_readsOne_74 : decode cX3_readsOne 74 = .ok (.ifCond .ne 5, 3) := by decide +kernel
theorem dX3_readsOne_77 : decode cX3_readsOne 77 = .ok (.iconst 0, 1) := by decide +kernel
theorem dX3_readsOne_78 : decode cX3_readsOne 78 = .ok (.ireturn, 1) := by decide +kernel
theorem dX3_readsOne_79 : decode cX3_readsOne 79 = .ok (.aload_n 1, 1) := by decide +kernel
theorem dX3_readsOne_80 : decode cX3_readsOne 80 = .ok (.getfield 95, 3) := by decide +kernel
theorem dX3_readsOne_83 : decode cX3_readsOne 83 = .ok (.iload_n 2, 1) := by decide +kernel
theorem dX3_readsOne_84 : decode cX3_readsOne 84 = .ok (.aload_n 0, 1) := by decide +kernel
theorem dX3_readsOne_85 : decode cX3_readsOne 85 = .ok (.getfield 28, 3) := by decide +kernel
theorem dX3_readsOne_88 : decode cX3_readsOne 88 = .ok (.iastore, 1) := by decide +kernel
theorem dX3_readsOne_89 : decode cX3_readsOne 89 = .ok (.aload_n 0, 1) := by decide +kernel
theorem dX3_readsOne_90 : decode cX3_readsOne 90 = .ok (.aload_n 1, 1) := by decide +kernel
theorem dX3_readsOne_91 : decode cX3_readsOne 91 = .ok (.getfield 83, 3) := by decide +kernel
theorem dX3_readsOne_94 : decode cX3_readsOne 94 = .ok (.invokevirtual 86, 3) := by decide +kernel
theorem dX3_readsOne_97 : decode cX3_readsOne 97 = .ok (.ifCond .ne 5, 3) := by decide +kernel
theorem dX3_readsOne_100 : decode cX3_readsOne 100 = .ok (.iconst 0, 1) := by decide +kernel
theorem dX3_readsOne_101 : decode cX3_readsOne 101 = .ok (.ireturn, 1) := by decide +kernel
theorem dX3_readsOne_102 : decode cX3_readsOne 102 = .ok (.aload_n 1, 1) := by decide +kernel
theorem dX3_readsOne_103 : decode cX3_readsOne 103 = .ok (.getfield 98, 3) := by decide +kernel
theorem dX3_readsOne_106 : decode cX3_readsOne 106 = .ok (.iload_n 2, 1) := by decide +kernel
theorem dX3_readsOne_107 : decode cX3_readsOne 107 = .ok (.aload_n 0, 1) := by decide +kernel
theorem dX3_readsOne_108 : decode cX3_readsOne 108 = .ok (.getfield 28, 3) := by decide +kernel
theorem dX3_readsOne_111 : decode cX3_readsOne 111 = .ok (.iastore, 1) := by decide +kernel
theorem dX3_readsOne_112 : decode cX3_readsOne 112 = .ok (.aload_n 1, 1) := by decide +kernel
theorem dX3_readsOne_113 : decode cX3_readsOne 113 = .ok (.getfield 101, 3) := by decide +kernel
theorem dX3_readsOne_116 : decode cX3_readsOne 116 = .ok (.iload_n 2, 1) := by decide +kernel
theorem dX3_readsOne_117 : decode cX3_readsOne 117 = .ok (.iload_n 2, 1) := by decide +kernel
theorem dX3_readsOne_118 : decode cX3_readsOne 118 = .ok (.iastore, 1) := by decide +kernel
theorem dX3_readsOne_119 : decode cX3_readsOne 119 = .ok (.aload_n 1, 1) := by decide +kernel
theorem dX3_readsOne_120 : decode cX3_readsOne 120 = .ok (.iload_n 2, 1) := by decide +kernel
theorem dX3_readsOne_121 : decode cX3_readsOne 121 = .ok (.iconst 1, 1) := by decide +kernel
theorem dX3_readsOne_122 : decode cX3_readsOne 122 = .ok (.iadd, 1) := by decide +kernel
theorem dX3_readsOne_123 : decode cX3_readsOne 123 = .ok (.putfield 104, 3) := by decide +kernel
theorem dX3_readsOne_126 : decode cX3_readsOne 126 = .ok (.aload_n 0, 1) := by decide +kernel
theorem dX3_readsOne_127 : decode cX3_readsOne 127 = .ok (.invokevirtual 70, 3) := by decide +kernel
theorem dX3_readsOne_130 : decode cX3_readsOne 130 = .ok (.ireturn, 1) := by decide +kernel
theorem dX3_readsSpot_0 : decode cX3_readsSpot 0 = .ok (.aload_n 0, 1) := by decide +kernel
theorem dX3_readsSpot_1 : decode cX3_readsSpot 1 = .ok (.iconst 0, 1) := by decide +kernel
theorem dX3_readsSpot_2 : decode cX3_readsSpot 2 = .ok (.iload_n 1, 1) := by decide +kernel
theorem dX3_readsSpot_3 : decode cX3_readsSpot 3 = .ok (.invokevirtual 62, 3) := by decide +kernel
theorem dX3_readsSpot_6 : decode cX3_readsSpot 6 = .ok (.ifCond .ne 5, 3) := by decide +kernel
theorem dX3_readsSpot_9 : decode cX3_readsSpot 9 = .ok (.iconst 0, 1) := by decide +kernel
theorem dX3_readsSpot_10 : decode cX3_readsSpot 10 = .ok (.ireturn, 1) := by decide +kernel
theorem dX3_readsSpot_11 : decode cX3_readsSpot 11 = .ok (.aload_n 0, 1) := by decide +kernel
theorem dX3_readsSpot_12 : decode cX3_readsSpot 12 = .ok (.getfield 28, 3) := by decide +kernel
theorem dX3_readsSpot_15 : decode cX3_readsSpot 15 = .ok (.iconst 2, 1) := by decide +kernel
theorem dX3_readsSpot_16 : decode cX3_readsSpot 16 = .ok (.irem, 1) := by decide +kernel
theorem dX3_readsSpot_17 : decode cX3_readsSpot 17 = .ok (.ifCond .eq 11, 3) := by decide +kernel
theorem dX3_readsSpot_20 : decode cX3_readsSpot 20 = .ok (.aload_n 0, 1) := by decide +kernel
theorem dX3_readsSpot_21 : decode cX3_readsSpot 21 = .ok (.iconst 2, 1) := by decide +kernel
theorem dX3_readsSpot_22 : decode cX3_readsSpot 22 = .ok (.invokevirtual 47, 3) := by decide +kernel
theorem dX3_readsSpot_25 : decode cX3_readsSpot 25 = .ok (.ifCond .eq 7, 3) := by decide +kernel
theorem dX3_readsSpot_28 : decode cX3_readsSpot 28 = .ok (.iconst 1, 1) := by decide +kernel
theorem dX3_readsSpot_29 : decode cX3_readsSpot 29 = .ok (.goto 4, 3) := by decide +kernel
theorem dX3_readsSpot_32 : decode cX3_readsSpot 32 = .ok (.iconst 0, 1) := by decide +kernel
theorem dX3_readsSpot_33 : decode cX3_readsSpot 33 = .ok (.ireturn, 1) := by decide +kernel
theorem dX3_readsNumber_0 : decode cX3_readsNumber 0 = .ok (.aload_n 0, 1) := by decide +kernel
theorem dX3_readsNumber_1 : decode cX3_readsNumber 1 = .ok (.invokevirtual 38, 3) := by decide +kernel
theorem dX3_readsNumber_4 : decode cX3_readsNumber 4 = .ok (.aload_n 0, 1) := by decide +kernel
theorem dX3_readsNumber_5 : decode cX3_readsNumber 5 = .ok (.getfield 25, 3) := by decide +kernel
theorem dX3_readsNumber_8 : decode cX3_readsNumber 8 = .ok (.iconst 2, 1) := by decide +kernel
theorem dX3_readsNumber_9 : decode cX3_readsNumber 9 = .ok (.if_icmp .eq 9, 3) := by decide +kernel
theorem dX3_readsNumber_12 : decode cX3_readsNumber 12 = .ok (.aload_n 0, 1) := by decide +kernel
theorem dX3_readsNumber_13 : decode cX3_readsNumber 13 = .ok (.iconst 1, 1) := by decide +kernel
theorem dX3_readsNumber_14 : decode cX3_readsNumber 14 = .ok (.invokevirtual 47, 3) := by decide +kernel
theorem dX3_readsNumber_17 : decode cX3_readsNumber 17 = .ok (.ireturn, 1) := by decide +kernel
theorem dX3_readsNumber_18 : decode cX3_readsNumber 18 = .ok (.aload_n 0, 1) := by decide +kernel
theorem dX3_readsNumber_19 : decode cX3_readsNumber 19 = .ok (.getfield 28, 3) := by decide +kernel
theorem dX3_readsNumber_22 : decode cX3_readsNumber 22 = .ok (.iload_n 1, 1) := by decide +kernel
theorem dX3_readsNumber_23 : decode cX3_readsNumber 23 = .ok (.if_icmp .lt 11, 3) := by decide +kernel
theorem dX3_readsNumber_26 : decode cX3_readsNumber 26 = .ok (.aload_n 0, 1) := by decide +kernel
theorem dX3_readsNumber_27 : decode cX3_readsNumber 27 = .ok (.getfield 28, 3) := by decide +kernel
theorem dX3_readsNumber_30 : decode cX3_readsNumber 30 = .ok (.iload_n 2, 1) := by decide +kernel
theorem dX3_readsNumber_31 : decode cX3_readsNumber 31 = .ok (.if_icmp .le 11, 3) := by decide +kernel
theorem dX3_readsNumber_34 : decode cX3_readsNumber 34 = .ok (.aload_n 0, 1) := by decide +kernel
theorem dX3_readsNumber_35 : decode cX3_readsNumber 35 = .ok (.iconst 2, 1) := by decide +kernel
theorem dX3_readsNumber_36 : decode cX3_readsNumber 36 = .ok (.invokevirtual 47, 3) := by decide +kernel
theorem dX3_readsNumber_39 : decode cX3_readsNumber 39 = .ok (.ifCond .eq 7, 3) := by decide +kernel
theorem dX3_readsNumber_42 : decode cX3_readsNumber 42 = .ok (.iconst 1, 1) := by decide +kernel
theorem dX3_readsNumber_43 : decode cX3_readsNumber 43 = .ok (.goto 4, 3) := by decide +kernel
theorem dX3_readsNumber_46 : decode cX3_readsNumber 46 = .ok (.iconst 0, 1) := by decide +kernel
theorem dX3_readsNumber_47 : decode cX3_readsNumber 47 = .ok (.ireturn, 1) := by decide +kernel
theorem dX3_readsSign_0 : decode cX3_readsSign 0 = .ok (.aload_n 0, 1) := by decide +kernel
theorem dX3_readsSign_1 : decode cX3_readsSign 1 = .ok (.invokevirtual 38, 3) := by decide +kernel
theorem dX3_readsSign_4 : decode cX3_readsSign 4 = .ok (.aload_n 0, 1) := by decide +kernel
theorem dX3_readsSign_5 : decode cX3_readsSign 5 = .ok (.getfield 25, 3) := by decide +kernel
theorem dX3_readsSign_8 : decode cX3_readsSign 8 = .ok (.iconst 3, 1) := by decide +kernel
theorem dX3_readsSign_9 : decode cX3_readsSign 9 = .ok (.if_icmp .eq 11, 3) := by decide +kernel
theorem dX3_readsSign_12 : decode cX3_readsSign 12 = .ok (.aload_n 0, 1) := by decide +kernel
theorem dX3_readsSign_13 : decode cX3_readsSign 13 = .ok (.iconst 1, 1) := by decide +kernel
theorem dX3_readsSign_14 : decode cX3_readsSign 14 = .ok (.invokevirtual 47, 3) := by decide +kernel
theorem dX3_readsSign_17 : decode cX3_readsSign 17 = .ok (.ifCond .eq 7, 3) := by decide +kernel
theorem dX3_readsSign_20 : decode cX3_readsSign 20 = .ok (.iconst 1, 1) := by decide +kernel
theorem dX3_readsSign_21 : decode cX3_readsSign 21 = .ok (.goto 4, 3) := by decide +kernel
theorem dX3_readsSign_24 : decode cX3_readsSign 24 = .ok (.iconst 0, 1) := by decide +kernel
theorem dX3_readsSign_25 : decode cX3_readsSign 25 = .ok (.ireturn, 1) := by decide +kernel
theorem dX3_kindTold_0 : decode cX3_kindTold 0 = .ok (.aload_n 0, 1) := by decide +kernel
theorem dX3_kindTold_1 : decode cX3_kindTold 1 = .ok (.ldc 107, 2) := by decide +kernel
theorem dX3_kindTold_3 : decode cX3_kindTold 3 = .ok (.invokevirtual 43, 3) := by decide +kernel
theorem dX3_kindTold_6 : decode cX3_kindTold 6 = .ok (.ifCond .eq 5, 3) := by decide +kernel
theorem dX3_kindTold_9 : decode cX3_kindTold 9 = .ok (.iconst 1, 1) := by decide +kernel
theorem dX3_kindTold_10 : decode cX3_kindTold 10 = .ok (.ireturn, 1) := by decide +kernel
theorem dX3_kindTold_11 : decode cX3_kindTold 11 = .ok (.aload_n 0, 1) := by decide +kernel
theorem dX3_kindTold_12 : decode cX3_kindTold 12 = .ok (.ldc 109, 2) := by decide +kernel
theorem dX3_kindTold_14 : decode cX3_kindTold 14 = .ok (.invokevirtual 43, 3) := by decide +kernel
theorem dX3_kindTold_17 : decode cX3_kindTold 17 = .ok (.ifCond .eq 5, 3) := by decide +kernel
theorem dX3_kindTold_20 : decode cX3_kindTold 20 = .ok (.iconst 2, 1) := by decide +kernel
theorem dX3_kindTold_21 : decode cX3_kindTold 21 = .ok (.ireturn, 1) := by decide +kernel
theorem dX3_kindTold_22 : decode cX3_kindTold 22 = .ok (.aload_n 0, 1) := by decide +kernel
theorem dX3_kindTold_23 : decode cX3_kindTold 23 = .ok (.ldc 111, 2) := by decide +kernel
theorem dX3_kindTold_25 : decode cX3_kindTold 25 = .ok (.invokevirtual 43, 3) := by decide +kernel
theorem dX3_kindTold_28 : decode cX3_kindTold 28 = .ok (.ifCond .eq 5, 3) := by decide +kernel
theorem dX3_kindTold_31 : decode cX3_kindTold 31 = .ok (.iconst 4, 1) := by decide +kernel
theorem dX3_kindTold_32 : decode cX3_kindTold 32 = .ok (.ireturn, 1) := by decide +kernel
theorem dX3_kindTold_33 : decode cX3_kindTold 33 = .ok (.aload_n 0, 1) := by decide +kernel
theorem dX3_kindTold_34 : decode cX3_kindTold 34 = .ok (.ldc 113, 2) := by decide +kernel
theorem dX3_kindTold_36 : decode cX3_kindTold 36 = .ok (.invokevirtual 43, 3) := by decide +kernel
theorem dX3_kindTold_39 : decode cX3_kindTold 39 = .ok (.ifCond .eq 5, 3) := by decide +kernel
theorem dX3_kindTold_42 : decode cX3_kindTold 42 = .ok (.iconst 3, 1) := by decide +kernel
theorem dX3_kindTold_43 : decode cX3_kindTold 43 = .ok (.ireturn, 1) := by decide +kernel
theorem dX3_kindTold_44 : decode cX3_kindTold 44 = .ok (.aload_n 0, 1) := by decide +kernel
theorem dX3_kindTold_45 : decode cX3_kindTold 45 = .ok (.ldc 115, 2) := by decide +kernel
theorem dX3_kindTold_47 : decode cX3_kindTold 47 = .ok (.invokevirtual 43, 3) := by decide +kernel
theorem dX3_kindTold_50 : decode cX3_kindTold 50 = .ok (.ifCond .eq 7, 3) := by decide +kernel
theorem dX3_kindTold_53 : decode cX3_kindTold 53 = .ok (.iconst 5, 1) := by decide +kernel
theorem dX3_kindTold_54 : decode cX3_kindTold 54 = .ok (.goto 5, 3) := by decide +kernel
theorem dX3_kindTold_57 : decode cX3_kindTold 57 = .ok (.ldc 78, 2) := by decide +kernel
theorem dX3_kindTold_59 : decode cX3_kindTold 59 = .ok (.ireturn, 1) := by decide +kernel
theorem dX3_hasFault_0 : decode cX3_hasFault 0 = .ok (.aload_n 0, 1) := by decide +kernel
theorem dX3_hasFault_1 : decode cX3_hasFault 1 = .ok (.iload_n 1, 1) := by decide +kernel
theorem dX3_hasFault_2 : decode cX3_hasFault 2 = .ok (.putfield 31, 3) := by decide +kernel
theorem dX3_hasFault_5 : decode cX3_hasFault 5 = .ok (.iconst 0, 1) := by decide +kernel
theorem dX3_hasFault_6 : decode cX3_hasFault 6 = .ok (.ireturn, 1) := by decide +kernel
theorem dX3_next_0 : decode cX3_next 0 = .ok (.aload_n 0, 1) := by decide +kernel
theorem dX3_next_1 : decode cX3_next 1 = .ok (.getfield 18, 3) := by decide +kernel
theorem dX3_next_4 : decode cX3_next 4 = .ok (.aload_n 0, 1) := by decide +kernel
theorem dX3_next_5 : decode cX3_next 5 = .ok (.getfield 12, 3) := by decide +kernel
theorem dX3_next_8 : decode cX3_next 8 = .ok (.getfield 117, 3) := by decide +kernel
theorem dX3_next_11 : decode cX3_next 11 = .ok (.if_icmp .ge 34, 3) := by decide +kernel
theorem dX3_next_14 : decode cX3_next 14 = .ok (.aload_n 0, 1) := by decide +kernel
theorem dX3_next_15 : decode cX3_next 15 = .ok (.getfield 12, 3) := by decide +kernel
theorem dX3_next_18 : decode cX3_next 18 = .ok (.getfield 120, 3) := by decide +kernel
theorem dX3_next_21 : decode cX3_next 21 = .ok (.aload_n 0, 1) := by decide +kernel
theorem dX3_next_22 : decode cX3_next 22 = .ok (.getfield 18, 3) := by decide +kernel
theorem dX3_next_25 : decode cX3_next 25 = .ok (.caload, 1) := by decide +kernel
theorem dX3_next_26 : decode cX3_next 26 = .ok (.invokestatic 124, 3) := by decide +kernel
theorem dX3_next_29 : decode cX3_next 29 = .ok (.ifCond .eq 16, 3) := by decide +kernel
theorem dX3_next_32 : decode cX3_next 32 = .ok (.aload_n 0, 1) := by decide +kernel
theorem dX3_next_33 : decode cX3_next 33 = .ok (.dup, 1) := by decide +kernel
theorem dX3_next_34 : decode cX3_next 34 = .ok (.getfield 18, 3) := by decide +kernel
theorem dX3_next_37 : decode cX3_next 37 = .ok (.iconst 1, 1) := by decide +kernel
theorem dX3_next_38 : decode cX3_next 38 = .ok (.iadd, 1) := by decide +kernel
theorem dX3_next_39 : decode cX3_next 39 = .ok (.putfield 18, 3) := by decide +kernel
theorem dX3_next_42 : decode cX3_next 42 = .ok (.goto (-42), 3) := by decide +kernel
theorem dX3_next_45 : decode cX3_next 45 = .ok (.aload_n 0, 1) := by decide +kernel
theorem dX3_next_46 : decode cX3_next 46 = .ok (.aload_n 0, 1) := by decide +kernel
theorem dX3_next_47 : decode cX3_next 47 = .ok (.getfield 18, 3) := by decide +kernel
theorem dX3_next_50 : decode cX3_next 50 = .ok (.putfield 22, 3) := by decide +kernel
theorem dX3_next_53 : decode cX3_next 53 = .ok (.aload_n 0, 1) := by decide +kernel
theorem dX3_next_54 : decode cX3_next 54 = .ok (.getfield 18, 3) := by decide +kernel
theorem dX3_next_57 : decode cX3_next 57 = .ok (.aload_n 0, 1) := by decide +kernel
theorem dX3_next_58 : decode cX3_next 58 = .ok (.getfield 12, 3) := by decide +kernel
theorem dX3_next_61 : decode cX3_next 61 = .ok (.getfield 117, 3) := by decide +kernel
theorem dX3_next_64 : decode cX3_next 64 = .ok (.if_icmp .lt 11, 3) := by decide +kernel
theorem dX3_next_67 : decode cX3_next 67 = .ok (.aload_n 0, 1) := by decide +kernel
theorem dX3_next_68 : decode cX3_next 68 = .ok (.iconst 0, 1) := by decide +kernel
theorem dX3_next_69 : decode cX3_next 69 = .ok (.putfield 25, 3) := by decide +kernel
theorem dX3_next_72 : decode cX3_next 72 = .ok (.goto 227, 3) := by decide +kernel
theorem dX3_next_75 : decode cX3_next 75 = .ok (.aload_n 0, 1) := by decide +kernel
theorem dX3_next_76 : decode cX3_next 76 = .ok (.getfield 12, 3) := by decide +kernel
theorem dX3_next_79 : decode cX3_next 79 = .ok (.getfield 120, 3) := by decide +kernel
theorem dX3_next_82 : decode cX3_next 82 = .ok (.aload_n 0, 1) := by decide +kernel
theorem dX3_next_83 : decode cX3_next 83 = .ok (.getfield 18, 3) := by decide +kernel
theorem dX3_next_86 : decode cX3_next 86 = .ok (.caload, 1) := by decide +kernel
theorem dX3_next_87 : decode cX3_next 87 = .ok (.invokestatic 128, 3) := by decide +kernel
theorem dX3_next_90 : decode cX3_next 90 = .ok (.ifCond .eq 53, 3) := by decide +kernel
theorem dX3_next_93 : decode cX3_next 93 = .ok (.aload_n 0, 1) := by decide +kernel
theorem dX3_next_94 : decode cX3_next 94 = .ok (.iconst 1, 1) := by decide +kernel
theorem dX3_next_95 : decode cX3_next 95 = .ok (.putfield 25, 3) := by decide +kernel
theorem dX3_next_98 : decode cX3_next 98 = .ok (.aload_n 0, 1) := by decide +kernel
theorem dX3_next_99 : decode cX3_next 99 = .ok (.getfield 18, 3) := by decide +kernel
theorem dX3_next_102 : decode cX3_next 102 = .ok (.aload_n 0, 1) := by decide +kernel
theorem dX3_next_103 : decode cX3_next 103 = .ok (.getfield 12, 3) := by decide +kernel
theorem dX3_next_106 : decode cX3_next 106 = .ok (.getfield 117, 3) := by decide +kernel
theorem dX3_next_109 : decode cX3_next 109 = .ok (.if_icmp .ge 190, 3) := by decide +kernel
theorem dX3_next_112 : decode cX3_next 112 = .ok (.aload_n 0, 1) := by decide +kernel
theorem dX3_next_113 : decode cX3_next 113 = .ok (.getfield 12, 3) := by decide +kernel
theorem dX3_next_116 : decode cX3_next 116 = .ok (.getfield 120, 3) := by decide +kernel
theorem dX3_next_119 : decode cX3_next 119 = .ok (.aload_n 0, 1) := by decide +kernel
theorem dX3_next_120 : decode cX3_next 120 = .ok (.getfield 18, 3) := by decide +kernel
theorem dX3_next_123 : decode cX3_next 123 = .ok (.caload, 1) := by decide +kernel
theorem dX3_next_124 : decode cX3_next 124 = .ok (.invokestatic 128, 3) := by decide +kernel
theorem dX3_next_127 : decode cX3_next 127 = .ok (.ifCond .eq 172, 3) := by decide +kernel
theorem dX3_next_130 : decode cX3_next 130 = .ok (.aload_n 0, 1) := by decide +kernel
theorem dX3_next_131 : decode cX3_next 131 = .ok (.dup, 1) := by decide +kernel
theorem dX3_next_132 : decode cX3_next 132 = .ok (.getfield 18, 3) := by decide +kernel
theorem dX3_next_135 : decode cX3_next 135 = .ok (.iconst 1, 1) := by decide +kernel
theorem dX3_next_136 : decode cX3_next 136 = .ok (.iadd, 1) := by decide +kernel
theorem dX3_next_137 : decode cX3_next 137 = .ok (.putfield 18, 3) := by decide +kernel
theorem dX3_next_140 : decode cX3_next 140 = .ok (.goto (-42), 3) := by decide +kernel
theorem dX3_next_143 : decode cX3_next 143 = .ok (.aload_n 0, 1) := by decide +kernel
theorem dX3_next_144 : decode cX3_next 144 = .ok (.getfield 12, 3) := by decide +kernel
theorem dX3_next_147 : decode cX3_next 147 = .ok (.getfield 120, 3) := by decide +kernel
theorem dX3_next_150 : decode cX3_next 150 = .ok (.aload_n 0, 1) := by decide +kernel
theorem dX3_next_151 : decode cX3_next 151 = .ok (.getfield 18, 3) := by decide +kernel
theorem dX3_next_154 : decode cX3_next 154 = .ok (.caload, 1) := by decide +kernel
theorem dX3_next_155 : decode cX3_next 155 = .ok (.invokestatic 131, 3) := by decide +kernel
theorem dX3_next_158 : decode cX3_next 158 = .ok (.ifCond .eq 105, 3) := by decide +kernel
theorem dX3_next_161 : decode cX3_next 161 = .ok (.aload_n 0, 1) := by decide +kernel
theorem dX3_next_162 : decode cX3_next 162 = .ok (.iconst 0, 1) := by decide +kernel
theorem dX3_next_163 : decode cX3_next 163 = .ok (.putfield 28, 3) := by decide +kernel
theorem dX3_next_166 : decode cX3_next 166 = .ok (.aload_n 0, 1) := by decide +kernel
theorem dX3_next_167 : decode cX3_next 167 = .ok (.getfield 18, 3) := by decide +kernel
theorem dX3_next_170 : decode cX3_next 170 = .ok (.aload_n 0, 1) := by decide +kernel
theorem dX3_next_171 : decode cX3_next 171 = .ok (.getfield 12, 3) := by decide +kernel
theorem dX3_next_174 : decode cX3_next 174 = .ok (.getfield 117, 3) := by decide +kernel
theorem dX3_next_177 : decode cX3_next 177 = .ok (.if_icmp .ge 61, 3) := by decide +kernel
theorem dX3_next_180 : decode cX3_next 180 = .ok (.aload_n 0, 1) := by decide +kernel
theorem dX3_next_181 : decode cX3_next 181 = .ok (.getfield 12, 3) := by decide +kernel
theorem dX3_next_184 : decode cX3_next 184 = .ok (.getfield 120, 3) := by decide +kernel
theorem dX3_next_187 : decode cX3_next 187 = .ok (.aload_n 0, 1) := by decide +kernel
theorem dX3_next_188 : decode cX3_next 188 = .ok (.getfield 18, 3) := by decide +kernel
theorem dX3_next_191 : decode cX3_next 191 = .ok (.caload, 1) := by decide +kernel
theorem dX3_next_192 : decode cX3_next 192 = .ok (.invokestatic 131, 3) := by decide +kernel
theorem dX3_next_195 : decode cX3_next 195 = .ok (.ifCond .eq 43, 3) := by decide +kernel
theorem dX3_next_198 : decode cX3_next 198 = .ok (.aload_n 0, 1) := by decide +kernel
theorem dX3_next_199 : decode cX3_next 199 = .ok (.bipush 10, 2) := by decide +kernel
theorem dX3_next_201 : decode cX3_next 201 = .ok (.aload_n 0, 1) := by decide +kernel
theorem dX3_next_202 : decode cX3_next 202 = .ok (.getfield 28, 3) := by decide +kernel
theorem dX3_next_205 : decode cX3_next 205 = .ok (.imul, 1) := by decide +kernel
theorem dX3_next_206 : decode cX3_next 206 = .ok (.aload_n 0, 1) := by decide +kernel
theorem dX3_next_207 : decode cX3_next 207 = .ok (.getfield 12, 3) := by decide +kernel
theorem dX3_next_210 : decode cX3_next 210 = .ok (.getfield 120, 3) := by decide +kernel
theorem dX3_next_213 : decode cX3_next 213 = .ok (.aload_n 0, 1) := by decide +kernel
theorem dX3_next_214 : decode cX3_next 214 = .ok (.getfield 18, 3) := by decide +kernel
theorem dX3_next_217 : decode cX3_next 217 = .ok (.caload, 1) := by decide +kernel
theorem dX3_next_218 : decode cX3_next 218 = .ok (.bipush 48, 2) := by decide +kernel
theorem dX3_next_220 : decode cX3_next 220 = .ok (.isub, 1) := by decide +kernel
theorem dX3_next_221 : decode cX3_next 221 = .ok (.iadd, 1) := by decide +kernel
theorem dX3_next_222 : decode cX3_next 222 = .ok (.putfield 28, 3) := by decide +kernel
theorem dX3_next_225 : decode cX3_next 225 = .ok (.aload_n 0, 1) := by decide +kernel
theorem dX3_next_226 : decode cX3_next 226 = .ok (.dup, 1) := by decide +kernel
theorem dX3_next_227 : decode cX3_next 227 = .ok (.getfield 18, 3) := by decide +kernel
theorem dX3_next_230 : decode cX3_next 230 = .ok (.iconst 1, 1) := by decide +kernel
theorem dX3_next_231 : decode cX3_next 231 = .ok (.iadd, 1) := by decide +kernel
theorem dX3_next_232 : decode cX3_next 232 = .ok (.putfield 18, 3) := by decide +kernel
theorem dX3_next_235 : decode cX3_next 235 = .ok (.goto (-69), 3) := by decide +kernel
theorem dX3_next_238 : decode cX3_next 238 = .ok (.aload_n 0, 1) := by decide +kernel
theorem dX3_next_239 : decode cX3_next 239 = .ok (.aload_n 0, 1) := by decide +kernel
theorem dX3_next_240 : decode cX3_next 240 = .ok (.getfield 18, 3) := by decide +kernel
theorem dX3_next_243 : decode cX3_next 243 = .ok (.aload_n 0, 1) := by decide +kernel
theorem dX3_next_244 : decode cX3_next 244 = .ok (.getfield 22, 3) := by decide +kernel
theorem dX3_next_247 : decode cX3_next 247 = .ok (.isub, 1) := by decide +kernel
theorem dX3_next_248 : decode cX3_next 248 = .ok (.iconst 3, 1) := by decide +kernel
theorem dX3_next_249 : decode cX3_next 249 = .ok (.if_icmp .gt 7, 3) := by decide +kernel
theorem dX3_next_252 : decode cX3_next 252 = .ok (.iconst 2, 1) := by decide +kernel
theorem dX3_next_253 : decode cX3_next 253 = .ok (.goto 4, 3) := by decide +kernel
theorem dX3_next_256 : decode cX3_next 256 = .ok (.iconst 4, 1) := by decide +kernel
theorem dX3_next_257 : decode cX3_next 257 = .ok (.putfield 25, 3) := by decide +kernel
theorem dX3_next_260 : decode cX3_next 260 = .ok (.goto 39, 3) := by decide +kernel
theorem dX3_next_263 : decode cX3_next 263 = .ok (.aload_n 0, 1) := by decide +kernel
theorem dX3_next_264 : decode cX3_next 264 = .ok (.aload_n 0, 1) := by decide +kernel
theorem dX3_next_265 : decode cX3_next 265 = .ok (.getfield 12, 3) := by decide +kernel
theorem dX3_next_268 : decode cX3_next 268 = .ok (.getfield 120, 3) := by decide +kernel
theorem dX3_next_271 : decode cX3_next 271 = .ok (.aload_n 0, 1) := by decide +kernel
theorem dX3_next_272 : decode cX3_next 272 = .ok (.getfield 18, 3) := by decide +kernel
theorem dX3_next_275 : decode cX3_next 275 = .ok (.caload, 1) := by decide +kernel
theorem dX3_next_276 : decode cX3_next 276 = .ok (.bipush 59, 2) := by decide +kernel
theorem dX3_next_278 : decode cX3_next 278 = .ok (.if_icmp .ne 7, 3) := by decide +kernel
theorem dX3_next_281 : decode cX3_next 281 = .ok (.iconst 3, 1) := by decide +kernel
theorem dX3_next_282 : decode cX3_next 282 = .ok (.goto 4, 3) := by decide +kernel
theorem dX3_next_285 : decode cX3_next 285 = .ok (.iconst 4, 1) := by decide +kernel
theorem dX3_next_286 : decode cX3_next 286 = .ok (.putfield 25, 3) := by decide +kernel
theorem dX3_next_289 : decode cX3_next 289 = .ok (.aload_n 0, 1) := by decide +kernel
theorem dX3_next_290 : decode cX3_next 290 = .ok (.dup, 1) := by decide +kernel
theorem dX3_next_291 : decode cX3_next 291 = .ok (.getfield 18, 3) := by decide +kernel
theorem dX3_next_294 : decode cX3_next 294 = .ok (.iconst 1, 1) := by decide +kernel
theorem dX3_next_295 : decode cX3_next 295 = .ok (.iadd, 1) := by decide +kernel
theorem dX3_next_296 : decode cX3_next 296 = .ok (.putfield 18, 3) := by decide +kernel
theorem dX3_next_299 : decode cX3_next 299 = .ok (.return_, 1) := by decide +kernel
theorem dX3_isWord_0 : decode cX3_isWord 0 = .ok (.aload_n 0, 1) := by decide +kernel
theorem dX3_isWord_1 : decode cX3_isWord 1 = .ok (.getfield 25, 3) := by decide +kernel
theorem dX3_isWord_4 : decode cX3_isWord 4 = .ok (.iconst 1, 1) := by decide +kernel
theorem dX3_isWord_5 : decode cX3_isWord 5 = .ok (.if_icmp .ne 19, 3) := by decide +kernel
theorem dX3_isWord_8 : decode cX3_isWord 8 = .ok (.aload_n 0, 1) := by decide +kernel
theorem dX3_isWord_9 : decode cX3_isWord 9 = .ok (.getfield 18, 3) := by decide +kernel
theorem dX3_isWord_12 : decode cX3_isWord 12 = .ok (.aload_n 0, 1) := by decide +kernel
theorem dX3_isWord_13 : decode cX3_isWord 13 = .ok (.getfield 22, 3) := by decide +kernel
theorem dX3_isWord_16 : decode cX3_isWord 16 = .ok (.isub, 1) := by decide +kernel
theorem dX3_isWord_17 : decode cX3_isWord 17 = .ok (.aload_n 1, 1) := by decide +kernel
theorem dX3_isWord_18 : decode cX3_isWord 18 = .ok (.invokevirtual 134, 3) := by decide +kernel
theorem dX3_isWord_21 : decode cX3_isWord 21 = .ok (.if_icmp .eq 5, 3) := by decide +kernel
theorem dX3_isWord_24 : decode cX3_isWord 24 = .ok (.iconst 0, 1) := by decide +kernel
theorem dX3_isWord_25 : decode cX3_isWord 25 = .ok (.ireturn, 1) := by decide +kernel
theorem dX3_isWord_26 : decode cX3_isWord 26 = .ok (.iconst 0, 1) := by decide +kernel
theorem dX3_isWord_27 : decode cX3_isWord 27 = .ok (.istore_n 2, 1) := by decide +kernel
theorem dX3_isWord_28 : decode cX3_isWord 28 = .ok (.iload_n 2, 1) := by decide +kernel
theorem dX3_isWord_29 : decode cX3_isWord 29 = .ok (.aload_n 1, 1) := by decide +kernel
theorem dX3_isWord_30 : decode cX3_isWord 30 = .ok (.invokevirtual 134, 3) := by decide +kernel
theorem dX3_isWord_33 : decode cX3_isWord 33 = .ok (.if_icmp .ge 33, 3) := by decide +kernel
theorem dX3_isWord_36 : decode cX3_isWord 36 = .ok (.aload_n 0, 1) := by decide +kernel
theorem dX3_isWord_37 : decode cX3_isWord 37 = .ok (.getfield 12, 3) := by decide +kernel
theorem dX3_isWord_40 : decode cX3_isWord 40 = .ok (.getfield 120, 3) := by decide +kernel
theorem dX3_isWord_43 : decode cX3_isWord 43 = .ok (.aload_n 0, 1) := by decide +kernel
theorem dX3_isWord_44 : decode cX3_isWord 44 = .ok (.getfield 22, 3) := by decide +kernel
theorem dX3_isWord_47 : decode cX3_isWord 47 = .ok (.iload_n 2, 1) := by decide +kernel
theorem dX3_isWord_48 : decode cX3_isWord 48 = .ok (.iadd, 1) := by decide +kernel
theorem dX3_isWord_49 : decode cX3_isWord 49 = .ok (.caload, 1) := by decide +kernel
theorem dX3_isWord_50 : decode cX3_isWord 50 = .ok (.aload_n 1, 1) := by decide +kernel
theorem dX3_isWord_51 : decode cX3_isWord 51 = .ok (.iload_n 2, 1) := by decide +kernel
theorem dX3_isWord_52 : decode cX3_isWord 52 = .ok (.invokevirtual 138, 3) := by decide +kernel
theorem dX3_isWord_55 : decode cX3_isWord 55 = .ok (.if_icmp .eq 5, 3) := by decide +kernel
theorem dX3_isWord_58 : decode cX3_isWord 58 = .ok (.iconst 0, 1) := by decide +kernel
theorem dX3_isWord_59 : decode cX3_isWord 59 = .ok (.ireturn, 1) := by decide +kernel
theorem dX3_isWord_60 : decode cX3_isWord 60 = .ok (.iinc 2 1, 3) := by decide +kernel
theorem dX3_isWord_63 : decode cX3_isWord 63 = .ok (.goto (-35), 3) := by decide +kernel
theorem dX3_isWord_66 : decode cX3_isWord 66 = .ok (.iconst 1, 1) := by decide +kernel
theorem dX3_isWord_67 : decode cX3_isWord 67 = .ok (.ireturn, 1) := by decide +kernel
theorem dX3_isBlank_0 : decode cX3_isBlank 0 = .ok (.iload_n 0, 1) := by decide +kernel
theorem dX3_isBlank_1 : decode cX3_isBlank 1 = .ok (.bipush 32, 2) := by decide +kernel
theorem dX3_isBlank_3 : decode cX3_isBlank 3 = .ok (.if_icmp .eq 9, 3) := by decide +kernel
theorem dX3_isBlank_6 : decode cX3_isBlank 6 = .ok (.iload_n 0, 1) := by decide +kernel
theorem dX3_isBlank_7 : decode cX3_isBlank 7 = .ok (.bipush 10, 2) := by decide +kernel
theorem dX3_isBlank_9 : decode cX3_isBlank 9 = .ok (.if_icmp .ne 7, 3) := by decide +kernel
theorem dX3_isBlank_12 : decode cX3_isBlank 12 = .ok (.iconst 1, 1) := by decide +kernel
theorem dX3_isBlank_13 : decode cX3_isBlank 13 = .ok (.goto 4, 3) := by decide +kernel
theorem dX3_isBlank_16 : decode cX3_isBlank 16 = .ok (.iconst 0, 1) := by decide +kernel
theorem dX3_isBlank_17 : decode cX3_isBlank 17 = .ok (.ireturn, 1) := by decide +kernel
theorem dX3_isLetter_0 : decode cX3_isLetter 0 = .ok (.iload_n 0, 1) := by decide +kernel
theorem dX3_isLetter_1 : decode cX3_isLetter 1 = .ok (.bipush 97, 2) := by decide +kernel
theorem dX3_isLetter_3 : decode cX3_isLetter 3 = .ok (.if_icmp .lt 13, 3) := by decide +kernel
theorem dX3_isLetter_6 : decode cX3_isLetter 6 = .ok (.iload_n 0, 1) := by decide +kernel
theorem dX3_isLetter_7 : decode cX3_isLetter 7 = .ok (.bipush 122, 2) := by decide +kernel
theorem dX3_isLetter_9 : decode cX3_isLetter 9 = .ok (.if_icmp .gt 7, 3) := by decide +kernel
theorem dX3_isLetter_12 : decode cX3_isLetter 12 = .ok (.iconst 1, 1) := by decide +kernel
theorem dX3_isLetter_13 : decode cX3_isLetter 13 = .ok (.goto 4, 3) := by decide +kernel
theorem dX3_isLetter_16 : decode cX3_isLetter 16 = .ok (.iconst 0, 1) := by decide +kernel
theorem dX3_isLetter_17 : decode cX3_isLetter 17 = .ok (.ireturn, 1) := by decide +kernel
theorem dX3_isFigure_0 : decode cX3_isFigure 0 = .ok (.iload_n 0, 1) := by decide +kernel
theorem dX3_isFigure_1 : decode cX3_isFigure 1 = .ok (.bipush 48, 2) := by decide +kernel
theorem dX3_isFigure_3 : decode cX3_isFigure 3 = .ok (.if_icmp .lt 13, 3) := by decide +kernel
theorem dX3_isFigure_6 : decode cX3_isFigure 6 = .ok (.iload_n 0, 1) := by decide +kernel
theorem dX3_isFigure_7 : decode cX3_isFigure 7 = .ok (.bipush 57, 2) := by decide +kernel
theorem dX3_isFigure_9 : decode cX3_isFigure 9 = .ok (.if_icmp .gt 7, 3) := by decide +kernel
theorem dX3_isFigure_12 : decode cX3_isFigure 12 = .ok (.iconst 1, 1) := by decide +kernel
theorem dX3_isFigure_13 : decode cX3_isFigure 13 = .ok (.goto 4, 3) := by decide +kernel
theorem dX3_isFigure_16 : decode cX3_isFigure 16 = .ok (.iconst 0, 1) := by decide +kernel
theorem dX3_isFigure_17 : decode cX3_isFigure 17 = .ok (.ireturn, 1) := by decide +kernel
theorem dX4_init_0 : decode cX4_init 0 = .ok (.aload_n 0, 1) := by decide +kernel
theorem dX4_init_1 : decode cX4_init 1 = .ok (.invokespecial 3, 3) := by decide +kernel
theorem dX4_init_4 : decode cX4_init 4 = .ok (.aload_n 0, 1) := by decide +kernel
theorem dX4_init_5 : decode cX4_init 5 = .ok (.bipush 40, 2) := by decide +kernel
theorem dX4_init_7 : decode cX4_init 7 = .ok (.newarray .int, 2) := by decide +kernel
theorem dX4_init_9 : decode cX4_init 9 = .ok (.putfield 9, 3) := by decide +kernel
theorem dX4_init_12 : decode cX4_init 12 = .ok (.aload_n 0, 1) := by decide +kernel
theorem dX4_init_13 : decode cX4_init 13 = .ok (.iconst 0, 1) := by decide +kernel
theorem dX4_init_14 : decode cX4_init 14 = .ok (.putfield 15, 3) := by decide +kernel
theorem dX4_init_17 : decode cX4_init 17 = .ok (.aload_n 0, 1) := by decide +kernel
theorem dX4_init_18 : decode cX4_init 18 = .ok (.iconst 0, 1) := by decide +kernel
theorem dX4_init_19 : decode cX4_init 19 = .ok (.putfield 19, 3) := by decide +kernel
theorem dX4_init_22 : decode cX4_init 22 = .ok (.aload_n 0, 1) := by decide +kernel
theorem dX4_init_23 : decode cX4_init 23 = .ok (.iconst 0, 1) := by decide +kernel
theorem dX4_init_24 : decode cX4_init 24 = .ok (.putfield 23, 3) := by decide +kernel
theorem dX4_init_27 : decode cX4_init 27 = .ok (.return_, 1) := by decide +kernel
theorem dX4_begin_0 : decode cX4_begin 0 = .ok (.aload_n 0, 1) := by decide +kernel
theorem dX4_begin_1 : decode cX4_begin 1 = .ok (.iconst 1, 1) := by decide +kernel
theorem dX4_begin_2 : decode cX4_begin 2 = .ok (.putfield 15, 3) := by decide +kernel
theorem dX4_begin_5 : decode cX4_begin 5 = .ok (.aload_n 0, 1) := by decide +kernel
theorem dX4_begin_6 : decode cX4_begin 6 = .ok (.iload_n 1, 1) := by decide +kernel
theorem dX4_begin_7 : decode cX4_begin 7 = .ok (.putfield 19, 3) := by decide +kernel
theorem dX4_begin_10 : decode cX4_begin 10 = .ok (.aload_n 0, 1) := by decide +kernel
theorem dX4_begin_11 : decode cX4_begin 11 = .ok (.iload_n 2, 1) := by decide +kernel
theorem dX4_begin_12 : decode cX4_begin 12 = .ok (.putfield 23, 3) := by decide +kernel
theorem dX4_begin_15 : decode cX4_begin 15 = .ok (.iconst 0, 1) := by decide +kernel
theorem dX4_begin_16 : decode cX4_begin 16 = .ok (.istore_n 3, 1) := by decide +kernel
theorem dX4_begin_17 : decode cX4_begin 17 = .ok (.iload_n 3, 1) := by decide +kernel
theorem dX4_begin_18 : decode cX4_begin 18 = .ok (.bipush 40, 2) := by decide +kernel
theorem dX4_begin_20 : decode cX4_begin 20 = .ok (.if_icmp .ge 16, 3) := by decide +kernel
theorem dX4_begin_23 : decode cX4_begin 23 = .ok (.aload_n 0, 1) := by decide +kernel
theorem dX4_begin_24 : decode cX4_begin 24 = .ok (.getfield 9, 3) := by decide +kernel
theorem dX4_begin_27 : decode cX4_begin 27 = .ok (.iload_n 3, 1) := by decide +kernel
theorem dX4_begin_28 : decode cX4_begin 28 = .ok (.iconst 0, 1) := by decide +kernel
theorem dX4_begin_29 : decode cX4_begin 29 = .ok (.iastore, 1) := by decide +kernel
theorem dX4_begin_30 : decode cX4_begin 30 = .ok (.iinc 3 1, 3) := by decide +kernel
theorem dX4_begin_33 : decode cX4_begin 33 = .ok (.goto (-16), 3) := by decide +kernel
theorem dX4_begin_36 : decode cX4_begin 36 = .ok (.return_, 1) := by decide +kernel
theorem dX4_narrowed_0 : decode cX4_narrowed 0 = .ok (.aload_n 0, 1) := by decide +kernel
theorem dX4_narrowed_1 : decode cX4_narrowed 1 = .ok (.getfield 19, 3) := by decide +kernel
theorem dX4_narrowed_4 : decode cX4_narrowed 4 = .ok (.ifCond .ne 6, 3) := by decide +kernel
theorem dX4_narrowed_7 : decode cX4_narrowed 7 = .ok (.iload_n 1, 1) := by decide +kernel
theorem dX4_narrowed_8 : decode cX4_narrowed 8 = .ok (.i2b, 1) := by decide +kernel
theorem dX4_narrowed_9 : decode cX4_narrowed 9 = .ok (.ireturn, 1) := by decide +kernel
theorem dX4_narrowed_10 : decode cX4_narrowed 10 = .ok (.aload_n 0, 1) := by decide +kernel
theorem dX4_narrowed_11 : decode cX4_narrowed 11 = .ok (.getfield 19, 3) := by decide +kernel
theorem dX4_narrowed_14 : decode cX4_narrowed 14 = .ok (.iconst 1, 1) := by decide +kernel
theorem dX4_narrowed_15 : decode cX4_narrowed 15 = .ok (.if_icmp .ne 8, 3) := by decide +kernel
theorem dX4_narrowed_18 : decode cX4_narrowed 18 = .ok (.iload_n 1, 1) := by decide +kernel
theorem dX4_narrowed_19 : decode cX4_narrowed 19 = .ok (.i2s, 1) := by decide +kernel
theorem dX4_narrowed_20 : decode cX4_narrowed 20 = .ok (.goto 4, 3) := by decide +kernel
theorem dX4_narrowed_23 : decode cX4_narrowed 23 = .ok (.iload_n 1, 1) := by decide +kernel
theorem dX4_narrowed_24 : decode cX4_narrowed 24 = .ok (.ireturn, 1) := by decide +kernel
theorem dX4_hasRun_0 : decode cX4_hasRun 0 = .ok (.iload_n 2, 1) := by decide +kernel
theorem dX4_hasRun_1 : decode cX4_hasRun 1 = .ok (.ifCond .lt 29, 3) := by decide +kernel
theorem dX4_hasRun_4 : decode cX4_hasRun 4 = .ok (.iload_n 2, 1) := by decide +kernel
theorem dX4_hasRun_5 : decode cX4_hasRun 5 = .ok (.aload_n 0, 1) := by decide +kernel
theorem dX4_hasRun_6 : decode cX4_hasRun 6 = .ok (.getfield 23, 3) := by decide +kernel
theorem dX4_hasRun_9 : decode cX4_hasRun 9 = .ok (.if_icmp .gt 21, 3) := by decide +kernel
theorem dX4_hasRun_12 : decode cX4_hasRun 12 = .ok (.iload_n 1, 1) := by decide +kernel
theorem dX4_hasRun_13 : decode cX4_hasRun 13 = .ok (.ifCond .lt 17, 3) := by decide +kernel
theorem dX4_hasRun_16 : decode cX4_hasRun 16 = .ok (.iload_n 1, 1) := by decide +kernel
theorem dX4_hasRun_17 : decode cX4_hasRun 17 = .ok (.aload_n 0, 1) := by decide +kernel
theorem dX4_hasRun_18 : decode cX4_hasRun 18 = .ok (.getfield 23, 3) := by decide +kernel
theorem dX4_hasRun_21 : decode cX4_hasRun 21 = .ok (.iload_n 2, 1) := by decide +kernel
theorem dX4_hasRun_22 : decode cX4_hasRun 22 = .ok (.isub, 1) := by decide +kernel
theorem dX4_hasRun_23 : decode cX4_hasRun 23 = .ok (.if_icmp .gt 7, 3) := by decide +kernel
theorem dX4_hasRun_26 : decode cX4_hasRun 26 = .ok (.iconst 1, 1) := by decide +kernel
theorem dX4_hasRun_27 : decode cX4_hasRun 27 = .ok (.goto 4, 3) := by decide +kernel
theorem dX4_hasRun_30 : decode cX4_hasRun 30 = .ok (.iconst 0, 1) := by decide +kernel
theorem dX4_hasRun_31 : decode cX4_hasRun 31 = .ok (.ireturn, 1) := by decide +kernel
theorem dX4_isAllBelow_0 : decode cX4_isAllBelow 0 = .ok (.iconst 0, 1) := by decide +kernel
theorem dX4_isAllBelow_1 : decode cX4_isAllBelow 1 = .ok (.istore_n 2, 1) := by decide +kernel
theorem dX4_isAllBelow_2 : decode cX4_isAllBelow 2 = .ok (.iload_n 2, 1) := by decide +kernel
theorem dX4_isAllBelow_3 : decode cX4_isAllBelow 3 = .ok (.iload_n 1, 1) := by decide +kernel
theorem dX4_isAllBelow_4 : decode cX4_isAllBelow 4 = .ok (.if_icmp .ge 24, 3) := by decide +kernel
theorem dX4_isAllBelow_7 : decode cX4_isAllBelow 7 = .ok (.aload_n 0, 1) := by decide +kernel
theorem dX4_isAllBelow_8 : decode cX4_isAllBelow 8 = .ok (.getfield 9, 3) := by decide +kernel
theorem dX4_isAllBelow_11 : decode cX4_isAllBelow 11 = .ok (.iload_n 2, 1) := by decide +kernel
theorem dX4_isAllBelow_12 : decode cX4_isAllBelow 12 = .ok (.iaload, 1) := by decide +kernel
theorem dX4_isAllBelow_13 : decode cX4_isAllBelow 13 = .ok (.iload_n 1, 1) := by decide +kernel
theorem dX4_isAllBelow_14 : decode cX4_isAllBelow 14 = .ok (.invokestatic 26, 3) := by decide +kernel
theorem dX4_isAllBelow_17 : decode cX4_isAllBelow 17 = .ok (.ifCond .ne 5, 3) := by decide +kernel
theorem dX4_isAllBelow_20 : decode cX4_isAllBelow 20 = .ok (.iconst 0, 1) := by decide +kernel
theorem dX4_isAllBelow_21 : decode cX4_isAllBelow 21 = .ok (.ireturn, 1) := by decide +kernel
theorem dX4_isAllBelow_22 : decode cX4_isAllBelow 22 = .ok (.iinc 2 1, 3) := by decide +kernel
theorem dX4_isAllBelow_25 : decode cX4_isAllBelow 25 = .ok (.goto (-23), 3) := by decide +kernel
theorem dX4_isAllBelow_28 : decode cX4_isAllBelow 28 = .ok (.iconst 1, 1) := by decide +kernel
theorem dX4_isAllBelow_29 : decode cX4_isAllBelow 29 = .ok (.ireturn, 1) := by decide +kernel
theorem dX5_init_0 : decode cX5_init 0 = .ok (.aload_n 0, 1) := by decide +kernel
theorem dX5_init_1 : decode cX5_init 1 = .ok (.invokespecial 3, 3) := by decide +kernel
theorem dX5_init_4 : decode cX5_init 4 = .ok (.aload_n 0, 1) := by decide +kernel
theorem dX5_init_5 : decode cX5_init 5 = .ok (.sipush 400, 3) := by decide +kernel
theorem dX5_init_8 : decode cX5_init 8 = .ok (.newarray .char, 2) := by decide +kernel
theorem dX5_init_10 : decode cX5_init 10 = .ok (.putfield 9, 3) := by decide +kernel
theorem dX5_init_13 : decode cX5_init 13 = .ok (.aload_n 0, 1) := by decide +kernel
theorem dX5_init_14 : decode cX5_init 14 = .ok (.iconst 0, 1) := by decide +kernel
theorem dX5_init_15 : decode cX5_init 15 = .ok (.putfield 15, 3) := by decide +kernel
theorem dX5_init_18 : decode cX5_init 18 = .ok (.return_, 1) := by decide +kernel
theorem dX5_append_0 : decode cX5_append 0 = .ok (.aload_n 0, 1) := by decide +kernel
theorem dX5_append_1 : decode cX5_append 1 = .ok (.getfield 15, 3) := by decide +kernel
theorem dX5_append_4 : decode cX5_append 4 = .ok (.sipush 400, 3) := by decide +kernel
theorem dX5_append_7 : decode cX5_append 7 = .ok (.if_icmp .ge 23, 3) := by decide +kernel
theorem dX5_append_10 : decode cX5_append 10 = .ok (.aload_n 0, 1) := by decide +kernel
theorem dX5_append_11 : decode cX5_append 11 = .ok (.getfield 9, 3) := by decide +kernel
theorem dX5_append_14 : decode cX5_append 14 = .ok (.aload_n 0, 1) := by decide +kernel
theorem dX5_append_15 : decode cX5_append 15 = .ok (.getfield 15, 3) := by decide +kernel
theorem dX5_append_18 : decode cX5_append 18 = .ok (.iload_n 1, 1) := by decide +kernel
theorem dX5_append_19 : decode cX5_append 19 = .ok (.castore, 1) := by decide +kernel
theorem dX5_append_20 : decode cX5_append 20 = .ok (.aload_n 0, 1) := by decide +kernel
theorem dX5_append_21 : decode cX5_append 21 = .ok (.dup, 1) := by decide +kernel
theorem dX5_append_22 : decode cX5_append 22 = .ok (.getfield 15, 3) := by decide +kernel
theorem dX5_append_25 : decode cX5_append 25 = .ok (.iconst 1, 1) := by decide +kernel
theorem dX5_append_26 : decode cX5_append 26 = .ok (.iadd, 1) := by decide +kernel
theorem dX5_append_27 : decode cX5_append 27 = .ok (.putfield 15, 3) := by decide +kernel
theorem dX5_append_30 : decode cX5_append 30 = .ok (.return_, 1) := by decide +kernel
theorem dX6_init_0 : decode cX6_init 0 = .ok (.aload_n 0, 1) := by decide +kernel
theorem dX6_init_1 : decode cX6_init 1 = .ok (.invokespecial 3, 3) := by decide +kernel
theorem dX6_init_4 : decode cX6_init 4 = .ok (.aload_n 0, 1) := by decide +kernel
theorem dX6_init_5 : decode cX6_init 5 = .ok (.bipush 16, 2) := by decide +kernel
theorem dX6_init_7 : decode cX6_init 7 = .ok (.newarray .int, 2) := by decide +kernel
theorem dX6_init_9 : decode cX6_init 9 = .ok (.putfield 9, 3) := by decide +kernel
theorem dX6_init_12 : decode cX6_init 12 = .ok (.aload_n 0, 1) := by decide +kernel
theorem dX6_init_13 : decode cX6_init 13 = .ok (.iconst 0, 1) := by decide +kernel
theorem dX6_init_14 : decode cX6_init 14 = .ok (.putfield 15, 3) := by decide +kernel
theorem dX6_init_17 : decode cX6_init 17 = .ok (.return_, 1) := by decide +kernel
theorem dX6_leave_0 : decode cX6_leave 0 = .ok (.aload_n 0, 1) := by decide +kernel
theorem dX6_leave_1 : decode cX6_leave 1 = .ok (.getfield 15, 3) := by decide +kernel
theorem dX6_leave_4 : decode cX6_leave 4 = .ok (.bipush 16, 2) := by decide +kernel
theorem dX6_leave_6 : decode cX6_leave 6 = .ok (.if_icmp .ge 23, 3) := by decide +kernel
theorem dX6_leave_9 : decode cX6_leave 9 = .ok (.aload_n 0, 1) := by decide +kernel
theorem dX6_leave_10 : decode cX6_leave 10 = .ok (.getfield 9, 3) := by decide +kernel
theorem dX6_leave_13 : decode cX6_leave 13 = .ok (.aload_n 0, 1) := by decide +kernel
theorem dX6_leave_14 : decode cX6_leave 14 = .ok (.getfield 15, 3) := by decide +kernel
theorem dX6_leave_17 : decode cX6_leave 17 = .ok (.iload_n 1, 1) := by decide +kernel
theorem dX6_leave_18 : decode cX6_leave 18 = .ok (.iastore, 1) := by decide +kernel
theorem dX6_leave_19 : decode cX6_leave 19 = .ok (.aload_n 0, 1) := by decide +kernel
theorem dX6_leave_20 : decode cX6_leave 20 = .ok (.dup, 1) := by decide +kernel
theorem dX6_leave_21 : decode cX6_leave 21 = .ok (.getfield 15, 3) := by decide +kernel
theorem dX6_leave_24 : decode cX6_leave 24 = .ok (.iconst 1, 1) := by decide +kernel
theorem dX6_leave_25 : decode cX6_leave 25 = .ok (.iadd, 1) := by decide +kernel
theorem dX6_leave_26 : decode cX6_leave 26 = .ok (.putfield 15, 3) := by decide +kernel
theorem dX6_leave_29 : decode cX6_leave 29 = .ok (.return_, 1) := by decide +kernel
theorem dX7_init_0 : decode cX7_init 0 = .ok (.aload_n 0, 1) := by decide +kernel
theorem dX7_init_1 : decode cX7_init 1 = .ok (.invokespecial 1, 3) := by decide +kernel
theorem dX7_init_4 : decode cX7_init 4 = .ok (.aload_n 0, 1) := by decide +kernel
theorem dX7_init_5 : decode cX7_init 5 = .ok (.bipush 8, 2) := by decide +kernel
theorem dX7_init_7 : decode cX7_init 7 = .ok (.anewarray 9, 3) := by decide +kernel
theorem dX7_init_10 : decode cX7_init 10 = .ok (.putfield 11, 3) := by decide +kernel
theorem dX7_init_13 : decode cX7_init 13 = .ok (.aload_n 0, 1) := by decide +kernel
theorem dX7_init_14 : decode cX7_init 14 = .ok (.new 15, 3) := by decide +kernel
theorem dX7_init_17 : decode cX7_init 17 = .ok (.dup, 1) := by decide +kernel
theorem dX7_init_18 : decode cX7_init 18 = .ok (.invokespecial 17, 3) := by decide +kernel
theorem dX7_init_21 : decode cX7_init 21 = .ok (.putfield 18, 3) := by decide +kernel
theorem dX7_init_24 : decode cX7_init 24 = .ok (.aload_n 0, 1) := by decide +kernel
theorem dX7_init_25 : decode cX7_init 25 = .ok (.new 22, 3) := by decide +kernel
theorem dX7_init_28 : decode cX7_init 28 = .ok (.dup, 1) := by decide +kernel
theorem dX7_init_29 : decode cX7_init 29 = .ok (.invokespecial 24, 3) := by decide +kernel
theorem dX7_init_32 : decode cX7_init 32 = .ok (.putfield 25, 3) := by decide +kernel
theorem dX7_init_35 : decode cX7_init 35 = .ok (.aload_n 0, 1) := by decide +kernel
theorem dX7_init_36 : decode cX7_init 36 = .ok (.new 22, 3) := by decide +kernel
theorem dX7_init_39 : decode cX7_init 39 = .ok (.dup, 1) := by decide +kernel
theorem dX7_init_40 : decode cX7_init 40 = .ok (.invokespecial 24, 3) := by decide +kernel
theorem dX7_init_43 : decode cX7_init 43 = .ok (.putfield 29, 3) := by decide +kernel
theorem dX7_init_46 : decode cX7_init 46 = .ok (.aload_n 0, 1) := by decide +kernel
theorem dX7_init_47 : decode cX7_init 47 = .ok (.new 22, 3) := by decide +kernel
theorem dX7_init_50 : decode cX7_init 50 = .ok (.dup, 1) := by decide +kernel
theorem dX7_init_51 : decode cX7_init 51 = .ok (.invokespecial 24, 3) := by decide +kernel
theorem dX7_init_54 : decode cX7_init 54 = .ok (.putfield 32, 3) := by decide +kernel
theorem dX7_init_57 : decode cX7_init 57 = .ok (.aload_n 0, 1) := by decide +kernel
theorem dX7_init_58 : decode cX7_init 58 = .ok (.iconst 2, 1) := by decide +kernel
theorem dX7_init_59 : decode cX7_init 59 = .ok (.anewarray 22, 3) := by decide +kernel
theorem dX7_init_62 : decode cX7_init 62 = .ok (.putfield 35, 3) := by decide +kernel
theorem dX7_init_65 : decode cX7_init 65 = .ok (.aload_n 0, 1) := by decide +kernel
theorem dX7_init_66 : decode cX7_init 66 = .ok (.iconst 2, 1) := by decide +kernel
theorem dX7_init_67 : decode cX7_init 67 = .ok (.newarray .boolean, 2) := by decide +kernel
theorem dX7_init_69 : decode cX7_init 69 = .ok (.putfield 39, 3) := by decide +kernel
theorem dX7_init_72 : decode cX7_init 72 = .ok (.aload_n 0, 1) := by decide +kernel
theorem dX7_init_73 : decode cX7_init 73 = .ok (.new 43, 3) := by decide +kernel
theorem dX7_init_76 : decode cX7_init 76 = .ok (.dup, 1) := by decide +kernel
theorem dX7_init_77 : decode cX7_init 77 = .ok (.invokespecial 45, 3) := by decide +kernel
theorem dX7_init_80 : decode cX7_init 80 = .ok (.putfield 46, 3) := by decide +kernel
theorem dX7_init_83 : decode cX7_init 83 = .ok (.aload_n 0, 1) := by decide +kernel
theorem dX7_init_84 : decode cX7_init 84 = .ok (.new 50, 3) := by decide +kernel
theorem dX7_init_87 : decode cX7_init 87 = .ok (.dup, 1) := by decide +kernel
theorem dX7_init_88 : decode cX7_init 88 = .ok (.invokespecial 52, 3) := by decide +kernel
theorem dX7_init_91 : decode cX7_init 91 = .ok (.putfield 53, 3) := by decide +kernel
theorem dX7_init_94 : decode cX7_init 94 = .ok (.aload_n 0, 1) := by decide +kernel
theorem dX7_init_95 : decode cX7_init 95 = .ok (.new 57, 3) := by decide +kernel
theorem dX7_init_98 : decode cX7_init 98 = .ok (.dup, 1) := by decide +kernel
theorem dX7_init_99 : decode cX7_init 99 = .ok (.invokespecial 59, 3) := by decide +kernel
theorem dX7_init_102 : decode cX7_init 102 = .ok (.putfield 60, 3) := by decide +kernel
theorem dX7_init_105 : decode cX7_init 105 = .ok (.aload_n 0, 1) := by decide +kernel
theorem dX7_init_106 : decode cX7_init 106 = .ok (.iconst 0, 1) := by decide +kernel
theorem dX7_init_107 : decode cX7_init 107 = .ok (.putfield 64, 3) := by decide +kernel
theorem dX7_init_110 : decode cX7_init 110 = .ok (.aload_n 0, 1) := by decide +kernel
theorem dX7_init_111 : decode cX7_init 111 = .ok (.iconst 0, 1) := by decide +kernel
theorem dX7_init_112 : decode cX7_init 112 = .ok (.putfield 68, 3) := by decide +kernel
theorem dX7_init_115 : decode cX7_init 115 = .ok (.aload_n 0, 1) := by decide +kernel
theorem dX7_init_116 : decode cX7_init 116 = .ok (.iconst 0, 1) := by decide +kernel
theorem dX7_init_117 : decode cX7_init 117 = .ok (.putfield 72, 3) := by decide +kernel
theorem dX7_init_120 : decode cX7_init 120 = .ok (.iconst 0, 1) := by decide +kernel
theorem dX7_init_121 : decode cX7_init 121 = .ok (.istore_n 1, 1) := by decide +kernel
theorem dX7_init_122 : decode cX7_init 122 = .ok (.iload_n 1, 1) := by decide +kernel
theorem dX7_init_123 : decode cX7_init 123 = .ok (.bipush 8, 2) := by decide +kernel
theorem dX7_init_125 : decode cX7_init 125 = .ok (.if_icmp .ge 22, 3) := by decide +kernel
theorem dX7_init_128 : decode cX7_init 128 = .ok (.aload_n 0, 1) := by decide +kernel
theorem dX7_init_129 : decode cX7_init 129 = .ok (.getfield 11, 3) := by decide +kernel
theorem dX7_init_132 : decode cX7_init 132 = .ok (.iload_n 1, 1) := by decide +kernel
theorem dX7_init_133 : decode cX7_init 133 = .ok (.new 9, 3) := by decide +kernel
theorem dX7_init_136 : decode cX7_init 136 = .ok (.dup, 1) := by decide +kernel
theorem dX7_init_137 : decode cX7_init 137 = .ok (.invokespecial 75, 3) := by decide +kernel
theorem dX7_init_140 : decode cX7_init 140 = .ok (.aastore, 1) := by decide +kernel
theorem dX7_init_141 : decode cX7_init 141 = .ok (.iinc 1 1, 3) := by decide +kernel
theorem dX7_init_144 : decode cX7_init 144 = .ok (.goto (-22), 3) := by decide +kernel
theorem dX7_init_147 : decode cX7_init 147 = .ok (.iconst 0, 1) := by decide +kernel
theorem dX7_init_148 : decode cX7_init 148 = .ok (.istore_n 1, 1) := by decide +kernel
theorem dX7_init_149 : decode cX7_init 149 = .ok (.iload_n 1, 1) := by decide +kernel
theorem dX7_init_150 : decode cX7_init 150 = .ok (.iconst 2, 1) := by decide +kernel
theorem dX7_init_151 : decode cX7_init 151 = .ok (.if_icmp .ge 22, 3) := by decide +kernel
theorem dX7_init_154 : decode cX7_init 154 = .ok (.aload_n 0, 1) := by decide +kernel
theorem dX7_init_155 : decode cX7_init 155 = .ok (.getfield 35, 3) := by decide +kernel
theorem dX7_init_158 : decode cX7_init 158 = .ok (.iload_n 1, 1) := by decide +kernel
theorem dX7_init_159 : decode cX7_init 159 = .ok (.new 22, 3) := by decide +kernel
theorem dX7_init_162 : decode cX7_init 162 = .ok (.dup, 1) := by decide +kernel
theorem dX7_init_163 : decode cX7_init 163 = .ok (.invokespecial 24, 3) := by decide +kernel
theorem dX7_init_166 : decode cX7_init 166 = .ok (.aastore, 1) := by decide +kernel
theorem dX7_init_167 : decode cX7_init 167 = .ok (.iinc 1 1, 3) := by decide +kernel
theorem dX7_init_170 : decode cX7_init 170 = .ok (.goto (-21), 3) := by decide +kernel
theorem dX7_init_173 : decode cX7_init 173 = .ok (.return_, 1) := by decide +kernel
theorem dX7_row_0 : decode cX7_row 0 = .ok (.iload_n 1, 1) := by decide +kernel
theorem dX7_row_1 : decode cX7_row 1 = .ok (.bipush 8, 2) := by decide +kernel
theorem dX7_row_3 : decode cX7_row 3 = .ok (.invokestatic 76, 3) := by decide +kernel
theorem dX7_row_6 : decode cX7_row 6 = .ok (.ifCond .eq 18, 3) := by decide +kernel
theorem dX7_row_9 : decode cX7_row 9 = .ok (.iload_n 2, 1) := by decide +kernel
theorem dX7_row_10 : decode cX7_row 10 = .ok (.ifCond .lt 14, 3) := by decide +kernel
theorem dX7_row_13 : decode cX7_row 13 = .ok (.iload_n 2, 1) := by decide +kernel
theorem dX7_row_14 : decode cX7_row 14 = .ok (.iconst 2, 1) := by decide +kernel
theorem dX7_row_15 : decode cX7_row 15 = .ok (.if_icmp .gt 9, 3) := by decide +kernel
theorem dX7_row_18 : decode cX7_row 18 = .ok (.iload_n 3, 1) := by decide +kernel
theorem dX7_row_19 : decode cX7_row 19 = .ok (.bipush 40, 2) := by decide +kernel
theorem dX7_row_21 : decode cX7_row 21 = .ok (.if_icmp .le 6, 3) := by decide +kernel
theorem dX7_row_24 : decode cX7_row 24 = .ok (.ldc 80, 2) := by decide +kernel
theorem dX7_row_26 : decode cX7_row 26 = .ok (.ireturn, 1) := by decide +kernel
theorem dX7_row_27 : decode cX7_row 27 = .ok (.iload_n 3, 1) := by decide +kernel
theorem dX7_row_28 : decode cX7_row 28 = .ok (.ifCond .ge 9, 3) := by decide +kernel
theorem dX7_row_31 : decode cX7_row 31 = .ok (.aload_n 0, 1) := by decide +kernel
theorem dX7_row_32 : decode cX7_row 32 = .ok (.iconst 4, 1) := by decide +kernel
theorem dX7_row_33 : decode cX7_row 33 = .ok (.invokevirtual 81, 3) := by decide +kernel
theorem dX7_row_36 : decode cX7_row 36 = .ok (.ireturn, 1) := by decide +kernel
theorem dX7_row_37 : decode cX7_row 37 = .ok (.aload_n 0, 1) := by decide +kernel
theorem dX7_row_38 : decode cX7_row 38 = .ok (.getfield 11, 3) := by decide +kernel
theorem dX7_row_41 : decode cX7_row 41 = .ok (.iload_n 1, 1) := by decide +kernel
theorem dX7_row_42 : decode cX7_row 42 = .ok (.aaload, 1) := by decide +kernel
theorem dX7_row_43 : decode cX7_row 43 = .ok (.iload_n 2, 1) := by decide +kernel
theorem dX7_row_44 : decode cX7_row 44 = .ok (.iload_n 3, 1) := by decide +kernel
theorem dX7_row_45 : decode cX7_row 45 = .ok (.invokevirtual 85, 3) := by decide +kernel
theorem dX7_row_48 : decode cX7_row 48 = .ok (.aload_n 0, 1) := by decide +kernel
theorem dX7_row_49 : decode cX7_row 49 = .ok (.iload_n 3, 1) := by decide +kernel
theorem dX7_row_50 : decode cX7_row 50 = .ok (.invokevirtual 89, 3) := by decide +kernel
theorem dX7_row_53 : decode cX7_row 53 = .ok (.ireturn, 1) := by decide +kernel
theorem dX7_set_0 : decode cX7_set 0 = .ok (.iload_n 1, 1) := by decide +kernel
theorem dX7_set_1 : decode cX7_set 1 = .ok (.bipush 8, 2) := by decide +kernel
theorem dX7_set_3 : decode cX7_set 3 = .ok (.invokestatic 76, 3) := by decide +kernel
theorem dX7_set_6 : decode cX7_set 6 = .ok (.ifCond .ne 6, 3) := by decide +kernel
theorem dX7_set_9 : decode cX7_set 9 = .ok (.ldc 80, 2) := by decide +kernel
theorem dX7_set_11 : decode cX7_set 11 = .ok (.ireturn, 1) := by decide +kernel
theorem dX7_set_12 : decode cX7_set 12 = .ok (.aload_n 0, 1) := by decide +kernel
theorem dX7_set_13 : decode cX7_set 13 = .ok (.getfield 11, 3) := by decide +kernel
theorem dX7_set_16 : decode cX7_set 16 = .ok (.iload_n 1, 1) := by decide +kernel
theorem dX7_set_17 : decode cX7_set 17 = .ok (.aaload, 1) := by decide +kernel
theorem dX7_set_18 : decode cX7_set 18 = .ok (.astore 4, 2) := by decide +kernel
theorem dX7_set_20 : decode cX7_set 20 = .ok (.aload 4, 2) := by decide +kernel
theorem dX7_set_22 : decode cX7_set 22 = .ok (.getfield 92, 3) := by decide +kernel
theorem dX7_set_25 : decode cX7_set 25 = .ok (.ifCond .ne 9, 3) := by decide +kernel
theorem dX7_set_28 : decode cX7_set 28 = .ok (.aload_n 0, 1) := by decide +kernel
theorem dX7_set_29 : decode cX7_set 29 = .ok (.iconst 1, 1) := by decide +kernel
theorem dX7_set_30 : decode cX7_set 30 = .ok (.invokevirtual 81, 3) := by decide +kernel
theorem dX7_set_33 : decode cX7_set 33 = .ok (.ireturn, 1) := by decide +kernel
theorem dX7_set_34 : decode cX7_set 34 = .ok (.iload_n 2, 1) := by decide +kernel
theorem dX7_set_35 : decode cX7_set 35 = .ok (.aload 4, 2) := by decide +kernel
theorem dX7_set_37 : decode cX7_set 37 = .ok (.getfield 95, 3) := by decide +kernel
theorem dX7_set_40 : decode cX7_set 40 = .ok (.invokestatic 76, 3) := by decide +kernel
theorem dX7_set_43 : decode cX7_set 43 = .ok (.ifCond .ne 9, 3) := by decide +kernel
theorem dX7_set_46 : decode cX7_set 46 = .ok (.aload_n 0, 1) := by decide +kernel
theorem dX7_set_47 : decode cX7_set 47 = .ok (.iconst 2, 1) := by decide +kernel
theorem dX7_set_48 : decode cX7_set 48 = .ok (.invokevirtual 81, 3) := by decide +kernel
theorem dX7_set_51 : decode cX7_set 51 = .ok (.ireturn, 1) := by decide +kernel
theorem dX7_set_52 : decode cX7_set 52 = .ok (.aload 4, 2) := by decide +kernel
theorem dX7_set_54 : decode cX7_set 54 = .ok (.getfield 98, 3) := by decide +kernel
theorem dX7_set_57 : decode cX7_set 57 = .ok (.iload_n 2, 1) := by decide +kernel
theorem dX7_set_58 : decode cX7_set 58 = .ok (.aload 4, 2) := by decide +kernel
theorem dX7_set_60 : decode cX7_set 60 = .ok (.iload_n 3, 1) := by decide +kernel
theorem dX7_set_61 : decode cX7_set 61 = .ok (.invokevirtual 102, 3) := by decide +kernel
theorem dX7_set_64 : decode cX7_set 64 = .ok (.iastore, 1) := by decide +kernel
theorem dX7_set_65 : decode cX7_set 65 = .ok (.aload_n 0, 1) := by decide +kernel
theorem dX7_set_66 : decode cX7_set 66 = .ok (.aload 4, 2) := by decide +kernel
theorem dX7_set_68 : decode cX7_set 68 = .ok (.getfield 98, 3) := by decide +kernel
theorem dX7_set_71 : decode cX7_set 71 = .ok (.iload_n 2, 1) := by decide +kernel
theorem dX7_set_72 : decode cX7_set 72 = .ok (.iaload, 1) := by decide +kernel
theorem dX7_set_73 : decode cX7_set 73 = .ok (.invokevirtual 89, 3) := by decide +kernel
theorem dX7_set_76 : decode cX7_set 76 = .ok (.ireturn, 1) := by decide +kernel
theorem dX7_copy_0 : decode cX7_copy 0 = .ok (.iload_n 1, 1) := by decide +kernel
theorem dX7_copy_1 : decode cX7_copy 1 = .ok (.bipush 8, 2) := by decide +kernel
theorem dX7_copy_3 : decode cX7_copy 3 = .ok (.invokestatic 76, 3) := by decide +kernel
theorem dX7_copy_6 : decode cX7_copy 6 = .ok (.ifCond .eq 12, 3) := by decide +kernel
theorem dX7_copy_9 : decode cX7_copy 9 = .ok (.iload_n 3, 1) := by decide +kernel
theorem dX7_copy_10 : decode cX7_copy 10 = .ok (.bipush 8, 2) := by decide +kernel
theorem dX7_copy_12 : decode cX7_copy 12 = .ok (.invokestatic 76, 3) := by decide +kernel
theorem dX7_copy_15 : decode cX7_copy 15 = .ok (.ifCond .ne 6, 3) := by decide +kernel
theorem dX7_copy_18 : decode cX7_copy 18 = .ok (.ldc 80, 2) := by decide +kernel
theorem dX7_copy_20 : decode cX7_copy 20 = .ok (.ireturn, 1) := by decide +kernel
theorem dX7_copy_21 : decode cX7_copy 21 = .ok (.aload_n 0, 1) := by decide +kernel
theorem dX7_copy_22 : decode cX7_copy 22 = .ok (.getfield 11, 3) := by decide +kernel
theorem dX7_copy_25 : decode cX7_copy 25 = .ok (.iload_n 1, 1) := by decide +kernel
theorem dX7_copy_26 : decode cX7_copy 26 = .ok (.aaload, 1) := by decide +kernel
theorem dX7_copy_27 : decode cX7_copy 27 = .ok (.astore 6, 2) := by decide +kernel
theorem dX7_copy_29 : decode cX7_copy 29 = .ok (.aload_n 0, 1) := by decide +kernel
theorem dX7_copy_30 : decode cX7_copy 30 = .ok (.getfield 11, 3) := by decide +kernel
theorem dX7_copy_33 : decode cX7_copy 33 = .ok (.iload_n 3, 1) := by decide +kernel
theorem dX7_copy_34 : decode cX7_copy 34 = .ok (.aaload, 1) := by decide +kernel
theorem dX7_copy_35 : decode cX7_copy 35 = .ok (.astore 7, 2) := by decide +kernel
theorem dX7_copy_37 : decode cX7_copy 37 = .ok (.aload 6, 2) := by decide +kernel
theorem dX7_copy_39 : decode cX7_copy 39 = .ok (.getfield 92, 3) := by decide +kernel
theorem dX7_copy_42 : decode cX7_copy 42 = .ok (.ifCond .eq 11, 3) := by decide +kernel
theorem dX7_copy_45 : decode cX7_copy 45 = .ok (.aload 7, 2) := by decide +kernel
theorem dX7_copy_47 : decode cX7_copy 47 = .ok (.getfield 92, 3) := by decide +kernel
theorem dX7_copy_50 : decode cX7_copy 50 = .ok (.ifCond .ne 9, 3) := by decide +kernel
theorem dX7_copy_53 : decode cX7_copy 53 = .ok (.aload_n 0, 1) := by decide +kernel
theorem dX7_copy_54 : decode cX7_copy 54 = .ok (.iconst 1, 1) := by decide +kernel
theorem dX7_copy_55 : decode cX7_copy 55 = .ok (.invokevirtual 81, 3) := by decide +kernel
theorem dX7_copy_58 : decode cX7_copy 58 = .ok (.ireturn, 1) := by decide +kernel
theorem dX7_copy_59 : decode cX7_copy 59 = .ok (.aload 6, 2) := by decide +kernel
theorem dX7_copy_61 : decode cX7_copy 61 = .ok (.getfield 105, 3) := by decide +kernel
theorem dX7_copy_64 : decode cX7_copy 64 = .ok (.aload 7, 2) := by decide +kernel
theorem dX7_copy_66 : decode cX7_copy 66 = .ok (.getfield 105, 3) := by decide +kernel
theorem dX7_copy_69 : decode cX7_copy 69 = .ok (.if_icmp .eq 9, 3) := by decide +kernel
theorem dX7_copy_72 : decode cX7_copy 72 = .ok (.aload_n 0, 1) := by decide +kernel
theorem dX7_copy_73 : decode cX7_copy 73 = .ok (.iconst 5, 1) := by decide +kernel
theorem dX7_copy_74 : decode cX7_copy 74 = .ok (.invokevirtual 81, 3) := by decide +kernel
theorem dX7_copy_77 : decode cX7_copy 77 = .ok (.ireturn, 1) := by decide +kernel
theorem dX7_copy_78 : decode cX7_copy 78 = .ok (.aload 6, 2) := by decide +kernel
theorem dX7_copy_80 : decode cX7_copy 80 = .ok (.iload_n 2, 1) := by decide +kernel
theorem dX7_copy_81 : decode cX7_copy 81 = .ok (.iload 5, 2) := by decide +kernel
theorem dX7_copy_83 : decode cX7_copy 83 = .ok (.invokevirtual 108, 3) := by decide +kernel
theorem dX7_copy_86 : decode cX7_copy 86 = .ok (.ifCond .eq 15, 3) := by decide +kernel
theorem dX7_copy_89 : decode cX7_copy 89 = .ok (.aload 7, 2) := by decide +kernel
theorem dX7_copy_91 : decode cX7_copy 91 = .ok (.iload 4, 2) := by decide +kernel
theorem dX7_copy_93 : decode cX7_copy 93 = .ok (.iload 5, 2) := by decide +kernel
theorem dX7_copy_95 : decode cX7_copy 95 = .ok (.invokevirtual 108, 3) := by decide +kernel
theorem dX7_copy_98 : decode cX7_copy 98 = .ok (.ifCond .ne 9, 3) := by decide +kernel
theorem dX7_copy_101 : decode cX7_copy 101 = .ok (.aload_n 0, 1) := by decide +kernel
theorem dX7_copy_102 : decode cX7_copy 102 = .ok (.iconst 2, 1) := by decide +kernel
theorem dX7_copy_103 : decode cX7_copy 103 = .ok (.invokevirtual 81, 3) := by decide +kernel
theorem dX7_copy_106 : decode cX7_copy 106 = .ok (.ireturn, 1) := by decide +kernel
theorem dX7_copy_107 : decode cX7_copy 107 = .ok (.aload 6, 2) := by decide +kernel
theorem dX7_copy_109 : decode cX7_copy 109 = .ok (.getfield 98, 3) := by decide +kernel
theorem dX7_copy_112 : decode cX7_copy 112 = .ok (.iload_n 2, 1) := by decide +kernel
theorem dX7_copy_113 : decode cX7_copy 113 = .ok (.aload 7, 2) := by decide +kernel
theorem dX7_copy_115 : decode cX7_copy 115 = .ok (.getfield 98, 3) := by decide +kernel
theorem dX7_copy_118 : decode cX7_copy 118 = .ok (.iload 4, 2) := by decide +kernel
theorem dX7_copy_120 : decode cX7_copy 120 = .ok (.iload 5, 2) := by decide +kernel
theorem dX7_copy_122 : decode cX7_copy 122 = .ok (.invokestatic 111, 3) := by decide +kernel
theorem dX7_copy_125 : decode cX7_copy 125 = .ok (.aload_n 0, 1) := by decide +kernel
theorem dX7_copy_126 : decode cX7_copy 126 = .ok (.iload 5, 2) := by decide +kernel
theorem dX7_copy_128 : decode cX7_copy 128 = .ok (.invokevirtual 89, 3) := by decide +kernel
theorem dX7_copy_131 : decode cX7_copy 131 = .ok (.ireturn, 1) := by decide +kernel
theorem dX7_drop_0 : decode cX7_drop 0 = .ok (.iload_n 1, 1) := by decide +kernel
theorem dX7_drop_1 : decode cX7_drop 1 = .ok (.bipush 8, 2) := by decide +kernel
theorem dX7_drop_3 : decode cX7_drop 3 = .ok (.invokestatic 76, 3) := by decide +kernel
theorem dX7_drop_6 : decode cX7_drop 6 = .ok (.ifCond .ne 6, 3) := by decide +kernel
theorem dX7_drop_9 : decode cX7_drop 9 = .ok (.ldc 80, 2) := by decide +kernel
theorem dX7_drop_11 : decode cX7_drop 11 = .ok (.ireturn, 1) := by decide +kernel
theorem dX7_drop_12 : decode cX7_drop 12 = .ok (.aload_n 0, 1) := by decide +kernel
theorem dX7_drop_13 : decode cX7_drop 13 = .ok (.getfield 11, 3) := by decide +kernel
theorem dX7_drop_16 : decode cX7_drop 16 = .ok (.iload_n 1, 1) := by decide +kernel
theorem dX7_drop_17 : decode cX7_drop 17 = .ok (.aaload, 1) := by decide +kernel
theorem dX7_drop_18 : decode cX7_drop 18 = .ok (.astore_n 2, 1) := by decide +kernel
theorem dX7_drop_19 : decode cX7_drop 19 = .ok (.aload_n 2, 1) := by decide +kernel
theorem dX7_drop_20 : decode cX7_drop 20 = .ok (.getfield 92, 3) := by decide +kernel
theorem dX7_drop_23 : decode cX7_drop 23 = .ok (.ifCond .ne 9, 3) := by decide +kernel
theorem dX7_drop_26 : decode cX7_drop 26 = .ok (.aload_n 0, 1) := by decide +kernel
theorem dX7_drop_27 : decode cX7_drop 27 = .ok (.iconst 1, 1) := by decide +kernel
theorem dX7_drop_28 : decode cX7_drop 28 = .ok (.invokevirtual 81, 3) := by decide +kernel
theorem dX7_drop_31 : decode cX7_drop 31 = .ok (.ireturn, 1) := by decide +kernel
theorem dX7_drop_32 : decode cX7_drop 32 = .ok (.aload_n 2, 1) := by decide +kernel
theorem dX7_drop_33 : decode cX7_drop 33 = .ok (.iconst 0, 1) := by decide +kernel
theorem dX7_drop_34 : decode cX7_drop 34 = .ok (.putfield 92, 3) := by decide +kernel
theorem dX7_drop_37 : decode cX7_drop 37 = .ok (.aload_n 0, 1) := by decide +kernel
theorem dX7_drop_38 : decode cX7_drop 38 = .ok (.aload_n 2, 1) := by decide +kernel
theorem dX7_drop_39 : decode cX7_drop 39 = .ok (.getfield 95, 3) := by decide +kernel
theorem dX7_drop_42 : decode cX7_drop 42 = .ok (.invokevirtual 89, 3) := by decide +kernel
theorem dX7_drop_45 : decode cX7_drop 45 = .ok (.ireturn, 1) := by decide +kernel
theorem dX7_feed_0 : decode cX7_feed 0 = .ok (.iload_n 3, 1) := by decide +kernel
theorem dX7_feed_1 : decode cX7_feed 1 = .ok (.iconst 1, 1) := by decide +kernel
theorem dX7_feed_2 : decode cX7_feed 2 = .ok (.if_icmp .lt 9, 3) := by decide +kernel
theorem dX7_feed_5 : decode cX7_feed 5 = .ok (.iload_n 3, 1) := by decide +kernel
theorem dX7_feed_6 : decode cX7_feed 6 = .ok (.bipush 8, 2) := by decide +kernel
theorem dX7_feed_8 : decode cX7_feed 8 = .ok (.if_icmp .le 6, 3) := by decide +kernel
theorem dX7_feed_11 : decode cX7_feed 11 = .ok (.ldc 80, 2) := by decide +kernel
theorem dX7_feed_13 : decode cX7_feed 13 = .ok (.ireturn, 1) := by decide +kernel
theorem dX7_feed_14 : decode cX7_feed 14 = .ok (.aload_n 0, 1) := by decide +kernel
theorem dX7_feed_15 : decode cX7_feed 15 = .ok (.getfield 18, 3) := by decide +kernel
theorem dX7_feed_18 : decode cX7_feed 18 = .ok (.getfield 117, 3) := by decide +kernel
theorem dX7_feed_21 : decode cX7_feed 21 = .ok (.astore 4, 2) := by decide +kernel
theorem dX7_feed_23 : decode cX7_feed 23 = .ok (.aload 4, 2) := by decide +kernel
theorem dX7_feed_25 : decode cX7_feed 25 = .ok (.getfield 121, 3) := by decide +kernel
theorem dX7_feed_28 : decode cX7_feed 28 = .ok (.iload_n 3, 1) := by decide +kernel
theorem dX7_feed_29 : decode cX7_feed 29 = .ok (.iadd, 1) := by decide +kernel
theorem dX7_feed_30 : decode cX7_feed 30 = .ok (.sipush 400, 3) := by decide +kernel
theorem dX7_feed_33 : decode cX7_feed 33 = .ok (.if_icmp .le 6, 3) := by decide +kernel
theorem dX7_feed_36 : decode cX7_feed 36 = .ok (.ldc 124, 2) := by decide +kernel
theorem dX7_feed_38 : decode cX7_feed 38 = .ok (.ireturn, 1) := by decide +kernel
theorem dX7_feed_39 : decode cX7_feed 39 = .ok (.iload_n 3, 1) := by decide +kernel
theorem dX7_feed_40 : decode cX7_feed 40 = .ok (.iconst 1, 1) := by decide +kernel
theorem dX7_feed_41 : decode cX7_feed 41 = .ok (.isub, 1) := by decide +kernel
theorem dX7_feed_42 : decode cX7_feed 42 = .ok (.istore 5, 2) := by decide +kernel
theorem dX7_feed_44 : decode cX7_feed 44 = .ok (.iload 5, 2) := by decide +kernel
theorem dX7_feed_46 : decode cX7_feed 46 = .ok (.ifCond .lt 27, 3) := by decide +kernel
theorem dX7_feed_49 : decode cX7_feed 49 = .ok (.aload 4, 2) := by decide +kernel
theorem dX7_feed_51 : decode cX7_feed 51 = .ok (.lload_n 1, 1) := by decide +kernel
theorem dX7_feed_52 : decode cX7_feed 52 = .ok (.bipush 8, 2) := by decide +kernel
theorem dX7_feed_54 : decode cX7_feed 54 = .ok (.iload 5, 2) := by decide +kernel
theorem dX7_feed_56 : decode cX7_feed 56 = .ok (.imul, 1) := by decide +kernel
theorem dX7_feed_57 : decode cX7_feed 57 = .ok (.lushr, 1) := by decide +kernel
theorem dX7_feed_58 : decode cX7_feed 58 = .ok (.ldc2_w 125, 3) := by decide +kernel
theorem dX7_feed_61 : decode cX7_feed 61 = .ok (.land, 1) := by decide +kernel
theorem dX7_feed_62 : decode cX7_feed 62 = .ok (.l2i, 1) := by decide +kernel
theorem dX7_feed_63 : decode cX7_feed 63 = .ok (.i2c, 1) := by decide +kernel
theorem dX7_feed_64 : decode cX7_feed 64 = .ok (.invokevirtual 127, 3) := by decide +kernel
theorem dX7_feed_67 : decode cX7_feed 67 = .ok (.iinc 5 (-1), 3) := by decide +kernel
theorem dX7_feed_70 : decode cX7_feed 70 = .ok (.goto (-26), 3) := by decide +kernel
theorem dX7_feed_73 : decode cX7_feed 73 = .ok (.aload 4, 2) := by decide +kernel
theorem dX7_feed_75 : decode cX7_feed 75 = .ok (.getfield 121, 3) := by decide +kernel
theorem dX7_feed_78 : decode cX7_feed 78 = .ok (.ireturn, 1) := by decide +kernel
theorem dX7_path_0 : decode cX7_path 0 = .ok (.aload_n 0, 1) := by decide +kernel
theorem dX7_path_1 : decode cX7_path 1 = .ok (.getfield 18, 3) := by decide +kernel
theorem dX7_path_4 : decode cX7_path 4 = .ok (.aload_n 0, 1) := by decide +kernel
theorem dX7_path_5 : decode cX7_path 5 = .ok (.getfield 29, 3) := by decide +kernel
theorem dX7_path_8 : decode cX7_path 8 = .ok (.invokevirtual 131, 3) := by decide +kernel
theorem dX7_path_11 : decode cX7_path 11 = .ok (.istore_n 1, 1) := by decide +kernel
theorem dX7_path_12 : decode cX7_path 12 = .ok (.aload_n 0, 1) := by decide +kernel
theorem dX7_path_13 : decode cX7_path 13 = .ok (.getfield 18, 3) := by decide +kernel
theorem dX7_path_16 : decode cX7_path 16 = .ok (.getfield 117, 3) := by decide +kernel
theorem dX7_path_19 : decode cX7_path 19 = .ok (.iconst 0, 1) := by decide +kernel
theorem dX7_path_20 : decode cX7_path 20 = .ok (.putfield 121, 3) := by decide +kernel
theorem dX7_path_23 : decode cX7_path 23 = .ok (.iload_n 1, 1) := by decide +kernel
theorem dX7_path_24 : decode cX7_path 24 = .ok (.ifCond .ne 25, 3) := by decide +kernel
theorem dX7_path_27 : decode cX7_path 27 = .ok (.aload_n 0, 1) := by decide +kernel
theorem dX7_path_28 : decode cX7_path 28 = .ok (.aload_n 0, 1) := by decide +kernel
theorem dX7_path_29 : decode cX7_path 29 = .ok (.getfield 18, 3) := by decide +kernel
theorem dX7_path_32 : decode cX7_path 32 = .ok (.getfield 135, 3) := by decide +kernel
theorem dX7_path_35 : decode cX7_path 35 = .ok (.putfield 68, 3) := by decide +kernel
theorem dX7_path_38 : decode cX7_path 38 = .ok (.ldc 138, 2) := by decide +kernel
theorem dX7_path_40 : decode cX7_path 40 = .ok (.aload_n 0, 1) := by decide +kernel
theorem dX7_path_41 : decode cX7_path 41 = .ok (.getfield 18, 3) := by decide +kernel
theorem dX7_path_44 : decode cX7_path 44 = .ok (.getfield 139, 3) := by decide +kernel
theorem dX7_path_47 : decode cX7_path 47 = .ok (.isub, 1) := by decide +kernel
theorem dX7_path_48 : decode cX7_path 48 = .ok (.ireturn, 1) := by decide +kernel
theorem dX7_path_49 : decode cX7_path 49 = .ok (.aload_n 0, 1) := by decide +kernel
theorem dX7_path_50 : decode cX7_path 50 = .ok (.getfield 25, 3) := by decide +kernel
theorem dX7_path_53 : decode cX7_path 53 = .ok (.aload_n 0, 1) := by decide +kernel
theorem dX7_path_54 : decode cX7_path 54 = .ok (.getfield 29, 3) := by decide +kernel
theorem dX7_path_57 : decode cX7_path 57 = .ok (.invokevirtual 142, 3) := by decide +kernel
theorem dX7_path_60 : decode cX7_path 60 = .ok (.aload_n 0, 1) := by decide +kernel
theorem dX7_path_61 : decode cX7_path 61 = .ok (.iconst 1, 1) := by decide +kernel
theorem dX7_path_62 : decode cX7_path 62 = .ok (.putfield 64, 3) := by decide +kernel
theorem dX7_path_65 : decode cX7_path 65 = .ok (.aload_n 0, 1) := by decide +kernel
theorem dX7_path_66 : decode cX7_path 66 = .ok (.getfield 46, 3) := by decide +kernel
theorem dX7_path_69 : decode cX7_path 69 = .ok (.invokevirtual 146, 3) := by decide +kernel
theorem dX7_path_72 : decode cX7_path 72 = .ok (.aload_n 0, 1) := by decide +kernel
theorem dX7_path_73 : decode cX7_path 73 = .ok (.getfield 25, 3) := by decide +kernel
theorem dX7_path_76 : decode cX7_path 76 = .ok (.getfield 149, 3) := by decide +kernel
theorem dX7_path_79 : decode cX7_path 79 = .ok (.ireturn, 1) := by decide +kernel
theorem dX7_fault_0 : decode cX7_fault 0 = .ok (.aload_n 0, 1) := by decide +kernel
theorem dX7_fault_1 : decode cX7_fault 1 = .ok (.getfield 68, 3) := by decide +kernel
theorem dX7_fault_4 : decode cX7_fault 4 = .ok (.ireturn, 1) := by decide +kernel
theorem dX7_halves_0 : decode cX7_halves 0 = .ok (.aload_n 0, 1) := by decide +kernel
theorem dX7_halves_1 : decode cX7_halves 1 = .ok (.getfield 64, 3) := by decide +kernel
theorem dX7_halves_4 : decode cX7_halves 4 = .ok (.ifCond .ne 6, 3) := by decide +kernel
theorem dX7_halves_7 : decode cX7_halves 7 = .ok (.ldc 152, 2) := by decide +kernel
theorem dX7_halves_9 : decode cX7_halves 9 = .ok (.ireturn, 1) := by decide +kernel
theorem dX7_halves_10 : decode cX7_halves 10 = .ok (.iload_n 1, 1) := by decide +kernel
theorem dX7_halves_11 : decode cX7_halves 11 = .ok (.iconst 1, 1) := by decide +kernel
theorem dX7_halves_12 : decode cX7_halves 12 = .ok (.if_icmp .lt 9, 3) := by decide +kernel
theorem dX7_halves_15 : decode cX7_halves 15 = .ok (.iload_n 1, 1) := by decide +kernel
theorem dX7_halves_16 : decode cX7_halves 16 = .ok (.bipush 60, 2) := by decide +kernel
theorem dX7_halves_18 : decode cX7_halves 18 = .ok (.if_icmp .le 6, 3) := by decide +kernel
theorem dX7_halves_21 : decode cX7_halves 21 = .ok (.ldc 80, 2) := by decide +kernel
theorem dX7_halves_23 : decode cX7_halves 23 = .ok (.ireturn, 1) := by decide +kernel
theorem dX7_halves_24 : decode cX7_halves 24 = .ok (.aload_n 0, 1) := by decide +kernel
theorem dX7_halves_25 : decode cX7_halves 25 = .ok (.getfield 25, 3) := by decide +kernel
theorem dX7_halves_28 : decode cX7_halves 28 = .ok (.getfield 153, 3) := by decide +kernel
theorem dX7_halves_31 : decode cX7_halves 31 = .ok (.iload_n 1, 1) := by decide +kernel
theorem dX7_halves_32 : decode cX7_halves 32 = .ok (.iadd, 1) := by decide +kernel
theorem dX7_halves_33 : decode cX7_halves 33 = .ok (.sipush 9999, 3) := by decide +kernel
theorem dX7_halves_36 : decode cX7_halves 36 = .ok (.if_icmp .le 6, 3) := by decide +kernel
theorem dX7_halves_39 : decode cX7_halves 39 = .ok (.ldc 124, 2) := by decide +kernel
theorem dX7_halves_41 : decode cX7_halves 41 = .ok (.ireturn, 1) := by decide +kernel
theorem dX7_halves_42 : decode cX7_halves 42 = .ok (.aload_n 0, 1) := by decide +kernel
theorem dX7_halves_43 : decode cX7_halves 43 = .ok (.getfield 25, 3) := by decide +kernel
theorem dX7_halves_46 : decode cX7_halves 46 = .ok (.getfield 156, 3) := by decide +kernel
theorem dX7_halves_49 : decode cX7_halves 49 = .ok (.istore_n 2, 1) := by decide +kernel
theorem dX7_halves_50 : decode cX7_halves 50 = .ok (.iconst 0, 1) := by decide +kernel
theorem dX7_halves_51 : decode cX7_halves 51 = .ok (.istore_n 3, 1) := by decide +kernel
theorem dX7_halves_52 : decode cX7_halves 52 = .ok (.iload_n 3, 1) := by decide +kernel
theorem dX7_halves_53 : decode cX7_halves 53 = .ok (.iload_n 1, 1) := by decide +kernel
theorem dX7_halves_54 : decode cX7_halves 54 = .ok (.if_icmp .ge 27, 3) := by decide +kernel
theorem dX7_halves_57 : decode cX7_halves 57 = .ok (.aload_n 0, 1) := by decide +kernel
theorem dX7_halves_58 : decode cX7_halves 58 = .ok (.getfield 46, 3) := by decide +kernel
theorem dX7_halves_61 : decode cX7_halves 61 = .ok (.aload_n 0, 1) := by decide +kernel
theorem dX7_halves_62 : decode cX7_halves 62 = .ok (.getfield 25, 3) := by decide +kernel
theorem dX7_halves_65 : decode cX7_halves 65 = .ok (.invokevirtual 159, 3) := by decide +kernel
theorem dX7_halves_68 : decode cX7_halves 68 = .ok (.aload_n 0, 1) := by decide +kernel
theorem dX7_halves_69 : decode cX7_halves 69 = .ok (.getfield 25, 3) := by decide +kernel
theorem dX7_halves_72 : decode cX7_halves 72 = .ok (.invokevirtual 162, 3) := by decide +kernel
theorem dX7_halves_75 : decode cX7_halves 75 = .ok (.iinc 3 1, 3) := by decide +kernel
theorem dX7_halves_78 : decode cX7_halves 78 = .ok (.goto (-26), 3) := by decide +kernel
theorem dX7_halves_81 : decode cX7_halves 81 = .ok (.aload_n 0, 1) := by decide +kernel
theorem dX7_halves_82 : decode cX7_halves 82 = .ok (.getfield 25, 3) := by decide +kernel
theorem dX7_halves_85 : decode cX7_halves 85 = .ok (.getfield 156, 3) := by decide +kernel
theorem dX7_halves_88 : decode cX7_halves 88 = .ok (.iload_n 2, 1) := by decide +kernel
theorem dX7_halves_89 : decode cX7_halves 89 = .ok (.iconst (-1), 1) := by decide +kernel
theorem dX7_halves_90 : decode cX7_halves 90 = .ok (.ixor, 1) := by decide +kernel
theorem dX7_halves_91 : decode cX7_halves 91 = .ok (.iand, 1) := by decide +kernel
theorem dX7_halves_92 : decode cX7_halves 92 = .ok (.ireturn, 1) := by decide +kernel
theorem dX7_undo_0 : decode cX7_undo 0 = .ok (.aload_n 0, 1) := by decide +kernel
theorem dX7_undo_1 : decode cX7_undo 1 = .ok (.getfield 46, 3) := by decide +kernel
theorem dX7_undo_4 : decode cX7_undo 4 = .ok (.getfield 165, 3) := by decide +kernel
theorem dX7_undo_7 : decode cX7_undo 7 = .ok (.ifCond .ne 6, 3) := by decide +kernel
theorem dX7_undo_10 : decode cX7_undo 10 = .ok (.ldc 152, 2) := by decide +kernel
theorem dX7_undo_12 : decode cX7_undo 12 = .ok (.ireturn, 1) := by decide +kernel
theorem dX7_undo_13 : decode cX7_undo 13 = .ok (.aload_n 0, 1) := by decide +kernel
theorem dX7_undo_14 : decode cX7_undo 14 = .ok (.getfield 46, 3) := by decide +kernel
theorem dX7_undo_17 : decode cX7_undo 17 = .ok (.aload_n 0, 1) := by decide +kernel
theorem dX7_undo_18 : decode cX7_undo 18 = .ok (.getfield 25, 3) := by decide +kernel
theorem dX7_undo_21 : decode cX7_undo 21 = .ok (.invokevirtual 166, 3) := by decide +kernel
theorem dX7_undo_24 : decode cX7_undo 24 = .ok (.aload_n 0, 1) := by decide +kernel
theorem dX7_undo_25 : decode cX7_undo 25 = .ok (.getfield 46, 3) := by decide +kernel
theorem dX7_undo_28 : decode cX7_undo 28 = .ok (.getfield 165, 3) := by decide +kernel
theorem dX7_undo_31 : decode cX7_undo 31 = .ok (.ireturn, 1) := by decide +kernel
theorem dX7_person_0 : decode cX7_person 0 = .ok (.iload_n 1, 1) := by decide +kernel
theorem dX7_person_1 : decode cX7_person 1 = .ok (.aload_n 0, 1) := by decide +kernel
theorem dX7_person_2 : decode cX7_person 2 = .ok (.getfield 25, 3) := by decide +kernel
theorem dX7_person_5 : decode cX7_person 5 = .ok (.getfield 149, 3) := by decide +kernel
theorem dX7_person_8 : decode cX7_person 8 = .ok (.invokestatic 76, 3) := by decide +kernel
theorem dX7_person_11 : decode cX7_person 11 = .ok (.ifCond .ne 6, 3) := by decide +kernel
theorem dX7_person_14 : decode cX7_person 14 = .ok (.ldc 80, 2) := by decide +kernel
theorem dX7_person_16 : decode cX7_person 16 = .ok (.ireturn, 1) := by decide +kernel
theorem dX7_person_17 : decode cX7_person 17 = .ok (.aload_n 0, 1) := by decide +kernel
theorem dX7_person_18 : decode cX7_person 18 = .ok (.getfield 25, 3) := by decide +kernel
theorem dX7_person_21 : decode cX7_person 21 = .ok (.iload_n 1, 1) := by decide +kernel
theorem dX7_person_22 : decode cX7_person 22 = .ok (.iload_n 2, 1) := by decide +kernel
theorem dX7_person_23 : decode cX7_person 23 = .ok (.invokevirtual 169, 3) := by decide +kernel
theorem dX7_person_26 : decode cX7_person 26 = .ok (.ireturn, 1) := by decide +kernel
theorem dX7_errand_0 : decode cX7_errand 0 = .ok (.iload_n 1, 1) := by decide +kernel
theorem dX7_errand_1 : decode cX7_errand 1 = .ok (.aload_n 0, 1) := by decide +kernel
theorem dX7_errand_2 : decode cX7_errand 2 = .ok (.getfield 25, 3) := by decide +kernel
theorem dX7_errand_5 : decode cX7_errand 5 = .ok (.getfield 149, 3) := by decide +kernel
theorem dX7_errand_8 : decode cX7_errand 8 = .ok (.invokestatic 76, 3) := by decide +kernel
theorem dX7_errand_11 : decode cX7_errand 11 = .ok (.ifCond .ne 6, 3) := by decide +kernel
theorem dX7_errand_14 : decode cX7_errand 14 = .ok (.ldc 80, 2) := by decide +kernel
theorem dX7_errand_16 : decode cX7_errand 16 = .ok (.ireturn, 1) := by decide +kernel
theorem dX7_errand_17 : decode cX7_errand 17 = .ok (.iload_n 2, 1) := by decide +kernel
theorem dX7_errand_18 : decode cX7_errand 18 = .ok (.tableswitch 78 0 3 #[30, 40, 52, 61], 30) := by decide +kernel
theorem dX7_errand_48 : decode cX7_errand 48 = .ok (.aload_n 0, 1) := by decide +kernel
theorem dX7_errand_49 : decode cX7_errand 49 = .ok (.getfield 25, 3) := by decide +kernel
theorem dX7_errand_52 : decode cX7_errand 52 = .ok (.getfield 173, 3) := by decide +kernel
theorem dX7_errand_55 : decode cX7_errand 55 = .ok (.iload_n 1, 1) := by decide +kernel
theorem dX7_errand_56 : decode cX7_errand 56 = .ok (.iaload, 1) := by decide +kernel
theorem dX7_errand_57 : decode cX7_errand 57 = .ok (.ireturn, 1) := by decide +kernel
theorem dX7_errand_58 : decode cX7_errand 58 = .ok (.aload_n 0, 1) := by decide +kernel
theorem dX7_errand_59 : decode cX7_errand 59 = .ok (.getfield 25, 3) := by decide +kernel
theorem dX7_errand_62 : decode cX7_errand 62 = .ok (.getfield 156, 3) := by decide +kernel
theorem dX7_errand_65 : decode cX7_errand 65 = .ok (.iload_n 1, 1) := by decide +kernel
theorem dX7_errand_66 : decode cX7_errand 66 = .ok (.ishr, 1) := by decide +kernel
theorem dX7_errand_67 : decode cX7_errand 67 = .ok (.iconst 1, 1) := by decide +kernel
theorem dX7_errand_68 : decode cX7_errand 68 = .ok (.iand, 1) := by decide +kernel
theorem dX7_errand_69 : decode cX7_errand 69 = .ok (.ireturn, 1) := by decide +kernel
theorem dX7_errand_70 : decode cX7_errand 70 = .ok (.aload_n 0, 1) := by decide +kernel
theorem dX7_errand_71 : decode cX7_errand 71 = .ok (.getfield 25, 3) := by decide +kernel
theorem dX7_errand_74 : decode cX7_errand 74 = .ok (.iload_n 1, 1) := by decide +kernel
theorem dX7_errand_75 : decode cX7_errand 75 = .ok (.invokevirtual 176, 3) := by decide +kernel
theorem dX7_errand_78 : decode cX7_errand 78 = .ok (.ireturn, 1) := by decide +kernel
theorem dX7_errand_79 : decode cX7_errand 79 = .ok (.aload_n 0, 1) := by decide +kernel
theorem dX7_errand_80 : decode cX7_errand 80 = .ok (.getfield 25, 3) := by decide +kernel
theorem dX7_errand_83 : decode cX7_errand 83 = .ok (.getfield 179, 3) := by decide +kernel
theorem dX7_errand_86 : decode cX7_errand 86 = .ok (.aload_n 0, 1) := by decide +kernel
theorem dX7_errand_87 : decode cX7_errand 87 = .ok (.getfield 25, 3) := by decide +kernel
theorem dX7_errand_90 : decode cX7_errand 90 = .ok (.iload_n 1, 1) := by decide +kernel
theorem dX7_errand_91 : decode cX7_errand 91 = .ok (.invokevirtual 176, 3) := by decide +kernel
theorem dX7_errand_94 : decode cX7_errand 94 = .ok (.iaload, 1) := by decide +kernel
theorem dX7_errand_95 : decode cX7_errand 95 = .ok (.ireturn, 1) := by decide +kernel
theorem dX7_errand_96 : decode cX7_errand 96 = .ok (.ldc 80, 2) := by decide +kernel
theorem dX7_errand_98 : decode cX7_errand 98 = .ok (.ireturn, 1) := by decide +kernel
theorem dX7_ahead_0 : decode cX7_ahead 0 = .ok (.iload_n 1, 1) := by decide +kernel
theorem dX7_ahead_1 : decode cX7_ahead 1 = .ok (.aload_n 0, 1) := by decide +kernel
theorem dX7_ahead_2 : decode cX7_ahead 2 = .ok (.getfield 25, 3) := by decide +kernel
theorem dX7_ahead_5 : decode cX7_ahead 5 = .ok (.getfield 149, 3) := by decide +kernel
theorem dX7_ahead_8 : decode cX7_ahead 8 = .ok (.invokestatic 76, 3) := by decide +kernel
theorem dX7_ahead_11 : decode cX7_ahead 11 = .ok (.ifCond .eq 10, 3) := by decide +kernel
theorem dX7_ahead_14 : decode cX7_ahead 14 = .ok (.iload_n 2, 1) := by decide +kernel
theorem dX7_ahead_15 : decode cX7_ahead 15 = .ok (.invokestatic 182, 3) := by decide +kernel
theorem dX7_ahead_18 : decode cX7_ahead 18 = .ok (.ifCond .ne 6, 3) := by decide +kernel
theorem dX7_ahead_21 : decode cX7_ahead 21 = .ok (.ldc 80, 2) := by decide +kernel
theorem dX7_ahead_23 : decode cX7_ahead 23 = .ok (.ireturn, 1) := by decide +kernel
theorem dX7_ahead_24 : decode cX7_ahead 24 = .ok (.aload_n 0, 1) := by decide +kernel
theorem dX7_ahead_25 : decode cX7_ahead 25 = .ok (.getfield 32, 3) := by decide +kernel
theorem dX7_ahead_28 : decode cX7_ahead 28 = .ok (.aload_n 0, 1) := by decide +kernel
theorem dX7_ahead_29 : decode cX7_ahead 29 = .ok (.getfield 25, 3) := by decide +kernel
theorem dX7_ahead_32 : decode cX7_ahead 32 = .ok (.invokevirtual 142, 3) := by decide +kernel
theorem dX7_ahead_35 : decode cX7_ahead 35 = .ok (.aload_n 0, 1) := by decide +kernel
theorem dX7_ahead_36 : decode cX7_ahead 36 = .ok (.getfield 32, 3) := by decide +kernel
theorem dX7_ahead_39 : decode cX7_ahead 39 = .ok (.iload_n 2, 1) := by decide +kernel
theorem dX7_ahead_40 : decode cX7_ahead 40 = .ok (.invokevirtual 186, 3) := by decide +kernel
theorem dX7_ahead_43 : decode cX7_ahead 43 = .ok (.aload_n 0, 1) := by decide +kernel
theorem dX7_ahead_44 : decode cX7_ahead 44 = .ok (.getfield 32, 3) := by decide +kernel
theorem dX7_ahead_47 : decode cX7_ahead 47 = .ok (.iload_n 1, 1) := by decide +kernel
theorem dX7_ahead_48 : decode cX7_ahead 48 = .ok (.iload_n 3, 1) := by decide +kernel
theorem dX7_ahead_49 : decode cX7_ahead 49 = .ok (.invokevirtual 169, 3) := by decide +kernel
theorem dX7_ahead_52 : decode cX7_ahead 52 = .ok (.ireturn, 1) := by decide +kernel
theorem dX7_done_0 : decode cX7_done 0 = .ok (.iload_n 1, 1) := by decide +kernel
theorem dX7_done_1 : decode cX7_done 1 = .ok (.aload_n 0, 1) := by decide +kernel
theorem dX7_done_2 : decode cX7_done 2 = .ok (.getfield 25, 3) := by decide +kernel
theorem dX7_done_5 : decode cX7_done 5 = .ok (.getfield 149, 3) := by decide +kernel
theorem dX7_done_8 : decode cX7_done 8 = .ok (.invokestatic 76, 3) := by decide +kernel
theorem dX7_done_11 : decode cX7_done 11 = .ok (.ifCond .eq 11, 3) := by decide +kernel
theorem dX7_done_14 : decode cX7_done 14 = .ok (.iload_n 2, 1) := by decide +kernel
theorem dX7_done_15 : decode cX7_done 15 = .ok (.iconst 2, 1) := by decide +kernel
theorem dX7_done_16 : decode cX7_done 16 = .ok (.invokestatic 76, 3) := by decide +kernel
theorem dX7_done_19 : decode cX7_done 19 = .ok (.ifCond .ne 6, 3) := by decide +kernel
theorem dX7_done_22 : decode cX7_done 22 = .ok (.ldc 80, 2) := by decide +kernel
theorem dX7_done_24 : decode cX7_done 24 = .ok (.ireturn, 1) := by decide +kernel
theorem dX7_done_25 : decode cX7_done 25 = .ok (.aload_n 0, 1) := by decide +kernel
theorem dX7_done_26 : decode cX7_done 26 = .ok (.getfield 32, 3) := by decide +kernel
theorem dX7_done_29 : decode cX7_done 29 = .ok (.aload_n 0, 1) := by decide +kernel
theorem dX7_done_30 : decode cX7_done 30 = .ok (.getfield 25, 3) := by decide +kernel
theorem dX7_done_33 : decode cX7_done 33 = .ok (.invokevirtual 142, 3) := by decide +kernel
theorem dX7_done_36 : decode cX7_done 36 = .ok (.aload_n 0, 1) := by decide +kernel
theorem dX7_done_37 : decode cX7_done 37 = .ok (.getfield 32, 3) := by decide +kernel
theorem dX7_done_40 : decode cX7_done 40 = .ok (.iconst 1, 1) := by decide +kernel
theorem dX7_done_41 : decode cX7_done 41 = .ok (.iload_n 1, 1) := by decide +kernel
theorem dX7_done_42 : decode cX7_done 42 = .ok (.ishl, 1) := by decide +kernel
theorem dX7_done_43 : decode cX7_done 43 = .ok (.bipush 120, 2) := by decide +kernel
theorem dX7_done_45 : decode cX7_done 45 = .ok (.invokevirtual 190, 3) := by decide +kernel
theorem dX7_done_48 : decode cX7_done 48 = .ok (.istore_n 3, 1) := by decide +kernel
theorem dX7_done_49 : decode cX7_done 49 = .ok (.iload_n 3, 1) := by decide +kernel
theorem dX7_done_50 : decode cX7_done 50 = .ok (.ldc 193, 2) := by decide +kernel
theorem dX7_done_52 : decode cX7_done 52 = .ok (.if_icmp .ne 6, 3) := by decide +kernel
theorem dX7_done_55 : decode cX7_done 55 = .ok (.ldc 193, 2) := by decide +kernel
theorem dX7_done_57 : decode cX7_done 57 = .ok (.ireturn, 1) := by decide +kernel
theorem dX7_done_58 : decode cX7_done 58 = .ok (.iload_n 2, 1) := by decide +kernel
theorem dX7_done_59 : decode cX7_done 59 = .ok (.ifCond .ne 7, 3) := by decide +kernel
theorem dX7_done_62 : decode cX7_done 62 = .ok (.iload_n 3, 1) := by decide +kernel
theorem dX7_done_63 : decode cX7_done 63 = .ok (.goto 11, 3) := by decide +kernel
theorem dX7_done_66 : decode cX7_done 66 = .ok (.aload_n 0, 1) := by decide +kernel
theorem dX7_done_67 : decode cX7_done 67 = .ok (.getfield 32, 3) := by decide +kernel
theorem dX7_done_70 : decode cX7_done 70 = .ok (.iload_n 1, 1) := by decide +kernel
theorem dX7_done_71 : decode cX7_done 71 = .ok (.invokevirtual 176, 3) := by decide +kernel
theorem dX7_done_74 : decode cX7_done 74 = .ok (.ireturn, 1) := by decide +kernel
theorem dX7_secret_0 : decode cX7_secret 0 = .ok (.iload_n 1, 1) := by decide +kernel
theorem dX7_secret_1 : decode cX7_secret 1 = .ok (.aload_n 0, 1) := by decide +kernel
theorem dX7_secret_2 : decode cX7_secret 2 = .ok (.getfield 25, 3) := by decide +kernel
theorem dX7_secret_5 : decode cX7_secret 5 = .ok (.getfield 149, 3) := by decide +kernel
theorem dX7_secret_8 : decode cX7_secret 8 = .ok (.invokestatic 76, 3) := by decide +kernel
theorem dX7_secret_11 : decode cX7_secret 11 = .ok (.ifCond .eq 10, 3) := by decide +kernel
theorem dX7_secret_14 : decode cX7_secret 14 = .ok (.iload_n 2, 1) := by decide +kernel
theorem dX7_secret_15 : decode cX7_secret 15 = .ok (.invokestatic 182, 3) := by decide +kernel
theorem dX7_secret_18 : decode cX7_secret 18 = .ok (.ifCond .ne 6, 3) := by decide +kernel
theorem dX7_secret_21 : decode cX7_secret 21 = .ok (.ldc 80, 2) := by decide +kernel
theorem dX7_secret_23 : decode cX7_secret 23 = .ok (.ireturn, 1) := by decide +kernel
theorem dX7_secret_24 : decode cX7_secret 24 = .ok (.aload_n 0, 1) := by decide +kernel
theorem dX7_secret_25 : decode cX7_secret 25 = .ok (.getfield 32, 3) := by decide +kernel
theorem dX7_secret_28 : decode cX7_secret 28 = .ok (.aload_n 0, 1) := by decide +kernel
theorem dX7_secret_29 : decode cX7_secret 29 = .ok (.getfield 25, 3) := by decide +kernel
theorem dX7_secret_32 : decode cX7_secret 32 = .ok (.invokevirtual 142, 3) := by decide +kernel
theorem dX7_secret_35 : decode cX7_secret 35 = .ok (.aload_n 0, 1) := by decide +kernel
theorem dX7_secret_36 : decode cX7_secret 36 = .ok (.getfield 32, 3) := by decide +kernel
theorem dX7_secret_39 : decode cX7_secret 39 = .ok (.iload_n 1, 1) := by decide +kernel
theorem dX7_secret_40 : decode cX7_secret 40 = .ok (.iload_n 2, 1) := by decide +kernel
theorem dX7_secret_41 : decode cX7_secret 41 = .ok (.invokevirtual 194, 3) := by decide +kernel
theorem dX7_secret_44 : decode cX7_secret 44 = .ok (.ireturn, 1) := by decide +kernel
theorem dX7_soon_0 : decode cX7_soon 0 = .ok (.aload_n 0, 1) := by decide +kernel
theorem dX7_soon_1 : decode cX7_soon 1 = .ok (.getfield 64, 3) := by decide +kernel
theorem dX7_soon_4 : decode cX7_soon 4 = .ok (.ifCond .ne 6, 3) := by decide +kernel
theorem dX7_soon_7 : decode cX7_soon 7 = .ok (.ldc 152, 2) := by decide +kernel
theorem dX7_soon_9 : decode cX7_soon 9 = .ok (.ireturn, 1) := by decide +kernel
theorem dX7_soon_10 : decode cX7_soon 10 = .ok (.iload_n 1, 1) := by decide +kernel
theorem dX7_soon_11 : decode cX7_soon 11 = .ok (.iconst 2, 1) := by decide +kernel
theorem dX7_soon_12 : decode cX7_soon 12 = .ok (.invokestatic 76, 3) := by decide +kernel
theorem dX7_soon_15 : decode cX7_soon 15 = .ok (.ifCond .ne 6, 3) := by decide +kernel
theorem dX7_soon_18 : decode cX7_soon 18 = .ok (.ldc 80, 2) := by decide +kernel
theorem dX7_soon_20 : decode cX7_soon 20 = .ok (.ireturn, 1) := by decide +kernel
theorem dX7_soon_21 : decode cX7_soon 21 = .ok (.aload_n 0, 1) := by decide +kernel
theorem dX7_soon_22 : decode cX7_soon 22 = .ok (.getfield 25, 3) := by decide +kernel
theorem dX7_soon_25 : decode cX7_soon 25 = .ok (.invokevirtual 197, 3) := by decide +kernel
theorem dX7_soon_28 : decode cX7_soon 28 = .ok (.iconst 1, 1) := by decide +kernel
theorem dX7_soon_29 : decode cX7_soon 29 = .ok (.isub, 1) := by decide +kernel
theorem dX7_soon_30 : decode cX7_soon 30 = .ok (.istore_n 2, 1) := by decide +kernel
theorem dX7_soon_31 : decode cX7_soon 31 = .ok (.ldc 193, 2) := by decide +kernel
theorem dX7_soon_33 : decode cX7_soon 33 = .ok (.istore_n 3, 1) := by decide +kernel
theorem dX7_soon_34 : decode cX7_soon 34 = .ok (.ldc 193, 2) := by decide +kernel
theorem dX7_soon_36 : decode cX7_soon 36 = .ok (.istore 4, 2) := by decide +kernel
theorem dX7_soon_38 : decode cX7_soon 38 = .ok (.iconst 0, 1) := by decide +kernel
theorem dX7_soon_39 : decode cX7_soon 39 = .ok (.istore 5, 2) := by decide +kernel
theorem dX7_soon_41 : decode cX7_soon 41 = .ok (.iload 5, 2) := by decide +kernel
theorem dX7_soon_43 : decode cX7_soon 43 = .ok (.aload_n 0, 1) := by decide +kernel
theorem dX7_soon_44 : decode cX7_soon 44 = .ok (.getfield 25, 3) := by decide +kernel
theorem dX7_soon_47 : decode cX7_soon 47 = .ok (.invokevirtual 197, 3) := by decide +kernel
theorem dX7_soon_50 : decode cX7_soon 50 = .ok (.if_icmp .ge 60, 3) := by decide +kernel
theorem dX7_soon_53 : decode cX7_soon 53 = .ok (.aload_n 0, 1) := by decide +kernel
theorem dX7_soon_54 : decode cX7_soon 54 = .ok (.iload 5, 2) := by decide +kernel
theorem dX7_soon_56 : decode cX7_soon 56 = .ok (.invokevirtual 201, 3) := by decide +kernel
theorem dX7_soon_59 : decode cX7_soon 59 = .ok (.ifCond .eq 45, 3) := by decide +kernel
theorem dX7_soon_62 : decode cX7_soon 62 = .ok (.iload_n 3, 1) := by decide +kernel
theorem dX7_soon_63 : decode cX7_soon 63 = .ok (.ldc 193, 2) := by decide +kernel
theorem dX7_soon_65 : decode cX7_soon 65 = .ok (.if_icmp .ne 8, 3) := by decide +kernel
theorem dX7_soon_68 : decode cX7_soon 68 = .ok (.bipush 120, 2) := by decide +kernel
theorem dX7_soon_70 : decode cX7_soon 70 = .ok (.goto 6, 3) := by decide +kernel
theorem dX7_soon_73 : decode cX7_soon 73 = .ok (.iload_n 3, 1) := by decide +kernel
theorem dX7_soon_74 : decode cX7_soon 74 = .ok (.iconst 1, 1) := by decide +kernel
theorem dX7_soon_75 : decode cX7_soon 75 = .ok (.isub, 1) := by decide +kernel
theorem dX7_soon_76 : decode cX7_soon 76 = .ok (.istore 6, 2) := by decide +kernel
theorem dX7_soon_78 : decode cX7_soon 78 = .ok (.aload_n 0, 1) := by decide +kernel
theorem dX7_soon_79 : decode cX7_soon 79 = .ok (.getfield 32, 3) := by decide +kernel
theorem dX7_soon_82 : decode cX7_soon 82 = .ok (.iload_n 2, 1) := by decide +kernel
theorem dX7_soon_83 : decode cX7_soon 83 = .ok (.iload 6, 2) := by decide +kernel
theorem dX7_soon_85 : decode cX7_soon 85 = .ok (.invokevirtual 190, 3) := by decide +kernel
theorem dX7_soon_88 : decode cX7_soon 88 = .ok (.istore 7, 2) := by decide +kernel
theorem dX7_soon_90 : decode cX7_soon 90 = .ok (.iload 7, 2) := by decide +kernel
theorem dX7_soon_92 : decode cX7_soon 92 = .ok (.ldc 193, 2) := by decide +kernel
theorem dX7_soon_94 : decode cX7_soon 94 = .ok (.if_icmp .eq 10, 3) := by decide +kernel
theorem dX7_soon_97 : decode cX7_soon 97 = .ok (.iload 7, 2) := by decide +kernel
theorem dX7_soon_99 : decode cX7_soon 99 = .ok (.istore_n 3, 1) := by decide +kernel
theorem dX7_soon_100 : decode cX7_soon 100 = .ok (.iload 5, 2) := by decide +kernel
theorem dX7_soon_102 : decode cX7_soon 102 = .ok (.istore 4, 2) := by decide +kernel
theorem dX7_soon_104 : decode cX7_soon 104 = .ok (.iinc 5 1, 3) := by decide +kernel
theorem dX7_soon_107 : decode cX7_soon 107 = .ok (.goto (-66), 3) := by decide +kernel
theorem dX7_soon_110 : decode cX7_soon 110 = .ok (.iload_n 1, 1) := by decide +kernel
theorem dX7_soon_111 : decode cX7_soon 111 = .ok (.ifCond .ne 7, 3) := by decide +kernel
theorem dX7_soon_114 : decode cX7_soon 114 = .ok (.iload_n 3, 1) := by decide +kernel
theorem dX7_soon_115 : decode cX7_soon 115 = .ok (.goto 5, 3) := by decide +kernel
theorem dX7_soon_118 : decode cX7_soon 118 = .ok (.iload 4, 2) := by decide +kernel
theorem dX7_soon_120 : decode cX7_soon 120 = .ok (.ireturn, 1) := by decide +kernel
theorem dX7_clean_0 : decode cX7_clean 0 = .ok (.iload_n 1, 1) := by decide +kernel
theorem dX7_clean_1 : decode cX7_clean 1 = .ok (.aload_n 0, 1) := by decide +kernel
theorem dX7_clean_2 : decode cX7_clean 2 = .ok (.getfield 25, 3) := by decide +kernel
theorem dX7_clean_5 : decode cX7_clean 5 = .ok (.getfield 149, 3) := by decide +kernel
theorem dX7_clean_8 : decode cX7_clean 8 = .ok (.invokestatic 76, 3) := by decide +kernel
theorem dX7_clean_11 : decode cX7_clean 11 = .ok (.ifCond .eq 33, 3) := by decide +kernel
theorem dX7_clean_14 : decode cX7_clean 14 = .ok (.iload_n 2, 1) := by decide +kernel
theorem dX7_clean_15 : decode cX7_clean 15 = .ok (.aload_n 0, 1) := by decide +kernel
theorem dX7_clean_16 : decode cX7_clean 16 = .ok (.getfield 25, 3) := by decide +kernel
theorem dX7_clean_19 : decode cX7_clean 19 = .ok (.invokevirtual 197, 3) := by decide +kernel
theorem dX7_clean_22 : decode cX7_clean 22 = .ok (.invokestatic 76, 3) := by decide +kernel
theorem dX7_clean_25 : decode cX7_clean 25 = .ok (.ifCond .eq 19, 3) := by decide +kernel
theorem dX7_clean_28 : decode cX7_clean 28 = .ok (.iload_n 3, 1) := by decide +kernel
theorem dX7_clean_29 : decode cX7_clean 29 = .ok (.invokestatic 182, 3) := by decide +kernel
theorem dX7_clean_32 : decode cX7_clean 32 = .ok (.ifCond .eq 12, 3) := by decide +kernel
theorem dX7_clean_35 : decode cX7_clean 35 = .ok (.iload 4, 2) := by decide +kernel
theorem dX7_clean_37 : decode cX7_clean 37 = .ok (.iconst 2, 1) := by decide +kernel
theorem dX7_clean_38 : decode cX7_clean 38 = .ok (.invokestatic 76, 3) := by decide +kernel
theorem dX7_clean_41 : decode cX7_clean 41 = .ok (.ifCond .ne 6, 3) := by decide +kernel
theorem dX7_clean_44 : decode cX7_clean 44 = .ok (.ldc 80, 2) := by decide +kernel
theorem dX7_clean_46 : decode cX7_clean 46 = .ok (.ireturn, 1) := by decide +kernel
theorem dX7_clean_47 : decode cX7_clean 47 = .ok (.aload_n 0, 1) := by decide +kernel
theorem dX7_clean_48 : decode cX7_clean 48 = .ok (.getfield 60, 3) := by decide +kernel
theorem dX7_clean_51 : decode cX7_clean 51 = .ok (.invokevirtual 204, 3) := by decide +kernel
theorem dX7_clean_54 : decode cX7_clean 54 = .ok (.iconst 0, 1) := by decide +kernel
theorem dX7_clean_55 : decode cX7_clean 55 = .ok (.istore 5, 2) := by decide +kernel
theorem dX7_clean_57 : decode cX7_clean 57 = .ok (.iload 5, 2) := by decide +kernel
theorem dX7_clean_59 : decode cX7_clean 59 = .ok (.aload_n 0, 1) := by decide +kernel
theorem dX7_clean_60 : decode cX7_clean 60 = .ok (.getfield 25, 3) := by decide +kernel
theorem dX7_clean_63 : decode cX7_clean 63 = .ok (.invokevirtual 197, 3) := by decide +kernel
theorem dX7_clean_66 : decode cX7_clean 66 = .ok (.if_icmp .ge 41, 3) := by decide +kernel
theorem dX7_clean_69 : decode cX7_clean 69 = .ok (.aload_n 0, 1) := by decide +kernel
theorem dX7_clean_70 : decode cX7_clean 70 = .ok (.iload 5, 2) := by decide +kernel
theorem dX7_clean_72 : decode cX7_clean 72 = .ok (.invokevirtual 201, 3) := by decide +kernel
theorem dX7_clean_75 : decode cX7_clean 75 = .ok (.ifCond .eq 26, 3) := by decide +kernel
theorem dX7_clean_78 : decode cX7_clean 78 = .ok (.aload_n 0, 1) := by decide +kernel
theorem dX7_clean_79 : decode cX7_clean 79 = .ok (.getfield 32, 3) := by decide +kernel
theorem dX7_clean_82 : decode cX7_clean 82 = .ok (.iload_n 1, 1) := by decide +kernel
theorem dX7_clean_83 : decode cX7_clean 83 = .ok (.iload_n 3, 1) := by decide +kernel
theorem dX7_clean_84 : decode cX7_clean 84 = .ok (.invokevirtual 194, 3) := by decide +kernel
theorem dX7_clean_87 : decode cX7_clean 87 = .ok (.iload_n 2, 1) := by decide +kernel
theorem dX7_clean_88 : decode cX7_clean 88 = .ok (.iand, 1) := by decide +kernel
theorem dX7_clean_89 : decode cX7_clean 89 = .ok (.ifCond .ne 12, 3) := by decide +kernel
theorem dX7_clean_92 : decode cX7_clean 92 = .ok (.aload_n 0, 1) := by decide +kernel
theorem dX7_clean_93 : decode cX7_clean 93 = .ok (.getfield 60, 3) := by decide +kernel
theorem dX7_clean_96 : decode cX7_clean 96 = .ok (.iload 5, 2) := by decide +kernel
theorem dX7_clean_98 : decode cX7_clean 98 = .ok (.invokevirtual 205, 3) := by decide +kernel
theorem dX7_clean_101 : decode cX7_clean 101 = .ok (.iinc 5 1, 3) := by decide +kernel
theorem dX7_clean_104 : decode cX7_clean 104 = .ok (.goto (-47), 3) := by decide +kernel
theorem dX7_clean_107 : decode cX7_clean 107 = .ok (.aload_n 0, 1) := by decide +kernel
theorem dX7_clean_108 : decode cX7_clean 108 = .ok (.getfield 60, 3) := by decide +kernel
theorem dX7_clean_111 : decode cX7_clean 111 = .ok (.iload 4, 2) := by decide +kernel
theorem dX7_clean_113 : decode cX7_clean 113 = .ok (.invokevirtual 208, 3) := by decide +kernel
theorem dX7_clean_116 : decode cX7_clean 116 = .ok (.ireturn, 1) := by decide +kernel
theorem dX7_hands_0 : decode cX7_hands 0 = .ok (.iload_n 1, 1) := by decide +kernel
theorem dX7_hands_1 : decode cX7_hands 1 = .ok (.aload_n 0, 1) := by decide +kernel
theorem dX7_hands_2 : decode cX7_hands 2 = .ok (.getfield 25, 3) := by decide +kernel
theorem dX7_hands_5 : decode cX7_hands 5 = .ok (.getfield 149, 3) := by decide +kernel
theorem dX7_hands_8 : decode cX7_hands 8 = .ok (.invokestatic 76, 3) := by decide +kernel
theorem dX7_hands_11 : decode cX7_hands 11 = .ok (.ifCond .eq 18, 3) := by decide +kernel
theorem dX7_hands_14 : decode cX7_hands 14 = .ok (.iload_n 2, 1) := by decide +kernel
theorem dX7_hands_15 : decode cX7_hands 15 = .ok (.invokestatic 182, 3) := by decide +kernel
theorem dX7_hands_18 : decode cX7_hands 18 = .ok (.ifCond .eq 11, 3) := by decide +kernel
theorem dX7_hands_21 : decode cX7_hands 21 = .ok (.iload_n 3, 1) := by decide +kernel
theorem dX7_hands_22 : decode cX7_hands 22 = .ok (.iconst 2, 1) := by decide +kernel
theorem dX7_hands_23 : decode cX7_hands 23 = .ok (.invokestatic 76, 3) := by decide +kernel
theorem dX7_hands_26 : decode cX7_hands 26 = .ok (.ifCond .ne 6, 3) := by decide +kernel
theorem dX7_hands_29 : decode cX7_hands 29 = .ok (.ldc 80, 2) := by decide +kernel
theorem dX7_hands_31 : decode cX7_hands 31 = .ok (.ireturn, 1) := by decide +kernel
theorem dX7_hands_32 : decode cX7_hands 32 = .ok (.iconst 0, 1) := by decide +kernel
theorem dX7_hands_33 : decode cX7_hands 33 = .ok (.istore 4, 2) := by decide +kernel
theorem dX7_hands_35 : decode cX7_hands 35 = .ok (.iconst 0, 1) := by decide +kernel
theorem dX7_hands_36 : decode cX7_hands 36 = .ok (.istore 5, 2) := by decide +kernel
theorem dX7_hands_38 : decode cX7_hands 38 = .ok (.iconst 0, 1) := by decide +kernel
theorem dX7_hands_39 : decode cX7_hands 39 = .ok (.istore 6, 2) := by decide +kernel
theorem dX7_hands_41 : decode cX7_hands 41 = .ok (.iload 6, 2) := by decide +kernel
theorem dX7_hands_43 : decode cX7_hands 43 = .ok (.aload_n 0, 1) := by decide +kernel
theorem dX7_hands_44 : decode cX7_hands 44 = .ok (.getfield 25, 3) := by decide +kernel
theorem dX7_hands_47 : decode cX7_hands 47 = .ok (.invokevirtual 197, 3) := by decide +kernel
theorem dX7_hands_50 : decode cX7_hands 50 = .ok (.if_icmp .ge 38, 3) := by decide +kernel
theorem dX7_hands_53 : decode cX7_hands 53 = .ok (.aload_n 0, 1) := by decide +kernel
theorem dX7_hands_54 : decode cX7_hands 54 = .ok (.iload 6, 2) := by decide +kernel
theorem dX7_hands_56 : decode cX7_hands 56 = .ok (.invokevirtual 201, 3) := by decide +kernel
theorem dX7_hands_59 : decode cX7_hands 59 = .ok (.ifCond .eq 23, 3) := by decide +kernel
theorem dX7_hands_62 : decode cX7_hands 62 = .ok (.iload 4, 2) := by decide +kernel
theorem dX7_hands_64 : decode cX7_hands 64 = .ok (.aload_n 0, 1) := by decide +kernel
theorem dX7_hands_65 : decode cX7_hands 65 = .ok (.getfield 32, 3) := by decide +kernel
theorem dX7_hands_68 : decode cX7_hands 68 = .ok (.iload_n 1, 1) := by decide +kernel
theorem dX7_hands_69 : decode cX7_hands 69 = .ok (.iload_n 2, 1) := by decide +kernel
theorem dX7_hands_70 : decode cX7_hands 70 = .ok (.invokevirtual 194, 3) := by decide +kernel
theorem dX7_hands_73 : decode cX7_hands 73 = .ok (.invokestatic 211, 3) := by decide +kernel
theorem dX7_hands_76 : decode cX7_hands 76 = .ok (.iadd, 1) := by decide +kernel
theorem dX7_hands_77 : decode cX7_hands 77 = .ok (.istore 4, 2) := by decide +kernel
theorem dX7_hands_79 : decode cX7_hands 79 = .ok (.iinc 5 1, 3) := by decide +kernel
theorem dX7_hands_82 : decode cX7_hands 82 = .ok (.iinc 6 1, 3) := by decide +kernel
theorem dX7_hands_85 : decode cX7_hands 85 = .ok (.goto (-44), 3) := by decide +kernel
theorem dX7_hands_88 : decode cX7_hands 88 = .ok (.iload 5, 2) := by decide +kernel
theorem dX7_hands_90 : decode cX7_hands 90 = .ok (.iconst 1, 1) := by decide +kernel
theorem dX7_hands_91 : decode cX7_hands 91 = .ok (.if_icmp .le 25, 3) := by decide +kernel
theorem dX7_hands_94 : decode cX7_hands 94 = .ok (.iload 4, 2) := by decide +kernel
theorem dX7_hands_96 : decode cX7_hands 96 = .ok (.iconst 2, 1) := by decide +kernel
theorem dX7_hands_97 : decode cX7_hands 97 = .ok (.irem, 1) := by decide +kernel
theorem dX7_hands_98 : decode cX7_hands 98 = .ok (.ifCond .ne 18, 3) := by decide +kernel
theorem dX7_hands_101 : decode cX7_hands 101 = .ok (.iload 4, 2) := by decide +kernel
theorem dX7_hands_103 : decode cX7_hands 103 = .ok (.iconst 2, 1) := by decide +kernel
theorem dX7_hands_104 : decode cX7_hands 104 = .ok (.idiv, 1) := by decide +kernel
theorem dX7_hands_105 : decode cX7_hands 105 = .ok (.istore 4, 2) := by decide +kernel
theorem dX7_hands_107 : decode cX7_hands 107 = .ok (.iload 5, 2) := by decide +kernel
theorem dX7_hands_109 : decode cX7_hands 109 = .ok (.iconst 2, 1) := by decide +kernel
theorem dX7_hands_110 : decode cX7_hands 110 = .ok (.idiv, 1) := by decide +kernel
theorem dX7_hands_111 : decode cX7_hands 111 = .ok (.istore 5, 2) := by decide +kernel
theorem dX7_hands_113 : decode cX7_hands 113 = .ok (.goto (-25), 3) := by decide +kernel
theorem dX7_hands_116 : decode cX7_hands 116 = .ok (.iload_n 3, 1) := by decide +kernel
theorem dX7_hands_117 : decode cX7_hands 117 = .ok (.ifCond .ne 8, 3) := by decide +kernel
theorem dX7_hands_120 : decode cX7_hands 120 = .ok (.iload 4, 2) := by decide +kernel
theorem dX7_hands_122 : decode cX7_hands 122 = .ok (.goto 5, 3) := by decide +kernel
theorem dX7_hands_125 : decode cX7_hands 125 = .ok (.iload 5, 2) := by decide +kernel
theorem dX7_hands_127 : decode cX7_hands 127 = .ok (.ireturn, 1) := by decide +kernel
theorem dX7_began_0 : decode cX7_began 0 = .ok (.aload_n 0, 1) := by decide +kernel
theorem dX7_began_1 : decode cX7_began 1 = .ok (.getfield 64, 3) := by decide +kernel
theorem dX7_began_4 : decode cX7_began 4 = .ok (.ifCond .ne 6, 3) := by decide +kernel
theorem dX7_began_7 : decode cX7_began 7 = .ok (.ldc 152, 2) := by decide +kernel
theorem dX7_began_9 : decode cX7_began 9 = .ok (.ireturn, 1) := by decide +kernel
theorem dX7_began_10 : decode cX7_began 10 = .ok (.iload_n 1, 1) := by decide +kernel
theorem dX7_began_11 : decode cX7_began 11 = .ok (.bipush 8, 2) := by decide +kernel
theorem dX7_began_13 : decode cX7_began 13 = .ok (.invokestatic 76, 3) := by decide +kernel
theorem dX7_began_16 : decode cX7_began 16 = .ok (.ifCond .eq 18, 3) := by decide +kernel
theorem dX7_began_19 : decode cX7_began 19 = .ok (.iload_n 2, 1) := by decide +kernel
theorem dX7_began_20 : decode cX7_began 20 = .ok (.invokestatic 182, 3) := by decide +kernel
theorem dX7_began_23 : decode cX7_began 23 = .ok (.ifCond .eq 11, 3) := by decide +kernel
theorem dX7_began_26 : decode cX7_began 26 = .ok (.iload_n 3, 1) := by decide +kernel
theorem dX7_began_27 : decode cX7_began 27 = .ok (.iconst 2, 1) := by decide +kernel
theorem dX7_began_28 : decode cX7_began 28 = .ok (.invokestatic 76, 3) := by decide +kernel
theorem dX7_began_31 : decode cX7_began 31 = .ok (.ifCond .ne 6, 3) := by decide +kernel
theorem dX7_began_34 : decode cX7_began 34 = .ok (.ldc 80, 2) := by decide +kernel
theorem dX7_began_36 : decode cX7_began 36 = .ok (.ireturn, 1) := by decide +kernel
theorem dX7_began_37 : decode cX7_began 37 = .ok (.aload_n 0, 1) := by decide +kernel
theorem dX7_began_38 : decode cX7_began 38 = .ok (.getfield 11, 3) := by decide +kernel
theorem dX7_began_41 : decode cX7_began 41 = .ok (.iload_n 1, 1) := by decide +kernel
theorem dX7_began_42 : decode cX7_began 42 = .ok (.aaload, 1) := by decide +kernel
theorem dX7_began_43 : decode cX7_began 43 = .ok (.astore 4, 2) := by decide +kernel
theorem dX7_began_45 : decode cX7_began 45 = .ok (.aload 4, 2) := by decide +kernel
theorem dX7_began_47 : decode cX7_began 47 = .ok (.getfield 92, 3) := by decide +kernel
theorem dX7_began_50 : decode cX7_began 50 = .ok (.ifCond .ne 9, 3) := by decide +kernel
theorem dX7_began_53 : decode cX7_began 53 = .ok (.aload_n 0, 1) := by decide +kernel
theorem dX7_began_54 : decode cX7_began 54 = .ok (.iconst 1, 1) := by decide +kernel
theorem dX7_began_55 : decode cX7_began 55 = .ok (.invokevirtual 81, 3) := by decide +kernel
theorem dX7_began_58 : decode cX7_began 58 = .ok (.ireturn, 1) := by decide +kernel
theorem dX7_began_59 : decode cX7_began 59 = .ok (.aload 4, 2) := by decide +kernel
theorem dX7_began_61 : decode cX7_began 61 = .ok (.getfield 95, 3) := by decide +kernel
theorem dX7_began_64 : decode cX7_began 64 = .ok (.aload_n 0, 1) := by decide +kernel
theorem dX7_began_65 : decode cX7_began 65 = .ok (.getfield 25, 3) := by decide +kernel
theorem dX7_began_68 : decode cX7_began 68 = .ok (.getfield 149, 3) := by decide +kernel
theorem dX7_began_71 : decode cX7_began 71 = .ok (.if_icmp .ge 9, 3) := by decide +kernel
theorem dX7_began_74 : decode cX7_began 74 = .ok (.aload_n 0, 1) := by decide +kernel
theorem dX7_began_75 : decode cX7_began 75 = .ok (.iconst 2, 1) := by decide +kernel
theorem dX7_began_76 : decode cX7_began 76 = .ok (.invokevirtual 81, 3) := by decide +kernel
theorem dX7_began_79 : decode cX7_began 79 = .ok (.ireturn, 1) := by decide +kernel
theorem dX7_began_80 : decode cX7_began 80 = .ok (.aload 4, 2) := by decide +kernel
theorem dX7_began_82 : decode cX7_began 82 = .ok (.aload_n 0, 1) := by decide +kernel
theorem dX7_began_83 : decode cX7_began 83 = .ok (.getfield 25, 3) := by decide +kernel
theorem dX7_began_86 : decode cX7_began 86 = .ok (.getfield 149, 3) := by decide +kernel
theorem dX7_began_89 : decode cX7_began 89 = .ok (.invokevirtual 216, 3) := by decide +kernel
theorem dX7_began_92 : decode cX7_began 92 = .ok (.ifCond .ne 6, 3) := by decide +kernel
theorem dX7_began_95 : decode cX7_began 95 = .ok (.ldc 80, 2) := by decide +kernel
theorem dX7_began_97 : decode cX7_began 97 = .ok (.ireturn, 1) := by decide +kernel
theorem dX7_began_98 : decode cX7_began 98 = .ok (.aload_n 0, 1) := by decide +kernel
theorem dX7_began_99 : decode cX7_began 99 = .ok (.getfield 60, 3) := by decide +kernel
theorem dX7_began_102 : decode cX7_began 102 = .ok (.invokevirtual 204, 3) := by decide +kernel
theorem dX7_began_105 : decode cX7_began 105 = .ok (.iconst 0, 1) := by decide +kernel
theorem dX7_began_106 : decode cX7_began 106 = .ok (.istore 5, 2) := by decide +kernel
theorem dX7_began_108 : decode cX7_began 108 = .ok (.iload 5, 2) := by decide +kernel
theorem dX7_began_110 : decode cX7_began 110 = .ok (.aload_n 0, 1) := by decide +kernel
theorem dX7_began_111 : decode cX7_began 111 = .ok (.getfield 25, 3) := by decide +kernel
theorem dX7_began_114 : decode cX7_began 114 = .ok (.invokevirtual 197, 3) := by decide +kernel
theorem dX7_began_117 : decode cX7_began 117 = .ok (.if_icmp .ge 47, 3) := by decide +kernel
theorem dX7_began_120 : decode cX7_began 120 = .ok (.aload_n 0, 1) := by decide +kernel
theorem dX7_began_121 : decode cX7_began 121 = .ok (.iload 5, 2) := by decide +kernel
theorem dX7_began_123 : decode cX7_began 123 = .ok (.invokevirtual 201, 3) := by decide +kernel
theorem dX7_began_126 : decode cX7_began 126 = .ok (.ifCond .eq 32, 3) := by decide +kernel
theorem dX7_began_129 : decode cX7_began 129 = .ok (.aload_n 0, 1) := by decide +kernel
theorem dX7_began_130 : decode cX7_began 130 = .ok (.getfield 32, 3) := by decide +kernel
theorem dX7_began_133 : decode cX7_began 133 = .ok (.iload_n 2, 1) := by decide +kernel
theorem dX7_began_134 : decode cX7_began 134 = .ok (.invokevirtual 186, 3) := by decide +kernel
theorem dX7_began_137 : decode cX7_began 137 = .ok (.aload_n 0, 1) := by decide +kernel
theorem dX7_began_138 : decode cX7_began 138 = .ok (.getfield 32, 3) := by decide +kernel
theorem dX7_began_141 : decode cX7_began 141 = .ok (.aload 4, 2) := by decide +kernel
theorem dX7_began_143 : decode cX7_began 143 = .ok (.invokevirtual 219, 3) := by decide +kernel
theorem dX7_began_146 : decode cX7_began 146 = .ok (.ifCond .eq 12, 3) := by decide +kernel
theorem dX7_began_149 : decode cX7_began 149 = .ok (.aload_n 0, 1) := by decide +kernel
theorem dX7_began_150 : decode cX7_began 150 = .ok (.getfield 60, 3) := by decide +kernel
theorem dX7_began_153 : decode cX7_began 153 = .ok (.iload 5, 2) := by decide +kernel
theorem dX7_began_155 : decode cX7_began 155 = .ok (.invokevirtual 205, 3) := by decide +kernel
theorem dX7_began_158 : decode cX7_began 158 = .ok (.iinc 5 1, 3) := by decide +kernel
theorem dX7_began_161 : decode cX7_began 161 = .ok (.goto (-53), 3) := by decide +kernel
theorem dX7_began_164 : decode cX7_began 164 = .ok (.aload_n 0, 1) := by decide +kernel
theorem dX7_began_165 : decode cX7_began 165 = .ok (.aload_n 0, 1) := by decide +kernel
theorem dX7_began_166 : decode cX7_began 166 = .ok (.getfield 60, 3) := by decide +kernel
theorem dX7_began_169 : decode cX7_began 169 = .ok (.iload_n 3, 1) := by decide +kernel
theorem dX7_began_170 : decode cX7_began 170 = .ok (.invokevirtual 208, 3) := by decide +kernel
theorem dX7_began_173 : decode cX7_began 173 = .ok (.invokevirtual 89, 3) := by decide +kernel
theorem dX7_began_176 : decode cX7_began 176 = .ok (.ireturn, 1) := by decide +kernel
theorem dX7_image_0 : decode cX7_image 0 = .ok (.iload_n 1, 1) := by decide +kernel
theorem dX7_image_1 : decode cX7_image 1 = .ok (.iconst 2, 1) := by decide +kernel
theorem dX7_image_2 : decode cX7_image 2 = .ok (.invokestatic 76, 3) := by decide +kernel
theorem dX7_image_5 : decode cX7_image 5 = .ok (.ifCond .ne 6, 3) := by decide +kernel
theorem dX7_image_8 : decode cX7_image 8 = .ok (.ldc 80, 2) := by decide +kernel
theorem dX7_image_10 : decode cX7_image 10 = .ok (.ireturn, 1) := by decide +kernel
theorem dX7_image_11 : decode cX7_image 11 = .ok (.aload_n 0, 1) := by decide +kernel
theorem dX7_image_12 : decode cX7_image 12 = .ok (.getfield 64, 3) := by decide +kernel
theorem dX7_image_15 : decode cX7_image 15 = .ok (.ifCond .ne 6, 3) := by decide +kernel
theorem dX7_image_18 : decode cX7_image 18 = .ok (.ldc 152, 2) := by decide +kernel
theorem dX7_image_20 : decode cX7_image 20 = .ok (.ireturn, 1) := by decide +kernel
theorem dX7_image_21 : decode cX7_image 21 = .ok (.aload_n 0, 1) := by decide +kernel
theorem dX7_image_22 : decode cX7_image 22 = .ok (.getfield 35, 3) := by decide +kernel
theorem dX7_image_25 : decode cX7_image 25 = .ok (.iload_n 1, 1) := by decide +kernel
theorem dX7_image_26 : decode cX7_image 26 = .ok (.aaload, 1) := by decide +kernel
theorem dX7_image_27 : decode cX7_image 27 = .ok (.aload_n 0, 1) := by decide +kernel
theorem dX7_image_28 : decode cX7_image 28 = .ok (.getfield 25, 3) := by decide +kernel
theorem dX7_image_31 : decode cX7_image 31 = .ok (.invokevirtual 142, 3) := by decide +kernel
theorem dX7_image_34 : decode cX7_image 34 = .ok (.aload_n 0, 1) := by decide +kernel
theorem dX7_image_35 : decode cX7_image 35 = .ok (.getfield 39, 3) := by decide +kernel
theorem dX7_image_38 : decode cX7_image 38 = .ok (.iload_n 1, 1) := by decide +kernel
theorem dX7_image_39 : decode cX7_image 39 = .ok (.iconst 1, 1) := by decide +kernel
theorem dX7_image_40 : decode cX7_image 40 = .ok (.bastore, 1) := by decide +kernel
theorem dX7_image_41 : decode cX7_image 41 = .ok (.iconst 1, 1) := by decide +kernel
theorem dX7_image_42 : decode cX7_image 42 = .ok (.ireturn, 1) := by decide +kernel
theorem dX7_restore_0 : decode cX7_restore 0 = .ok (.iload_n 1, 1) := by decide +kernel
theorem dX7_restore_1 : decode cX7_restore 1 = .ok (.iconst 2, 1) := by decide +kernel
theorem dX7_restore_2 : decode cX7_restore 2 = .ok (.invokestatic 76, 3) := by decide +kernel
theorem dX7_restore_5 : decode cX7_restore 5 = .ok (.ifCond .ne 6, 3) := by decide +kernel
theorem dX7_restore_8 : decode cX7_restore 8 = .ok (.ldc 80, 2) := by decide +kernel
theorem dX7_restore_10 : decode cX7_restore 10 = .ok (.ireturn, 1) := by decide +kernel
theorem dX7_restore_11 : decode cX7_restore 11 = .ok (.aload_n 0, 1) := by decide +kernel
theorem dX7_restore_12 : decode cX7_restore 12 = .ok (.getfield 39, 3) := by decide +kernel
theorem dX7_restore_15 : decode cX7_restore 15 = .ok (.iload_n 1, 1) := by decide +kernel
theorem dX7_restore_16 : decode cX7_restore 16 = .ok (.baload, 1) := by decide +kernel
theorem dX7_restore_17 : decode cX7_restore 17 = .ok (.ifCond .ne 6, 3) := by decide +kernel
theorem dX7_restore_20 : decode cX7_restore 20 = .ok (.ldc 152, 2) := by decide +kernel
theorem dX7_restore_22 : decode cX7_restore 22 = .ok (.ireturn, 1) := by decide +kernel
theorem dX7_restore_23 : decode cX7_restore 23 = .ok (.aload_n 0, 1) := by decide +kernel
theorem dX7_restore_24 : decode cX7_restore 24 = .ok (.getfield 25, 3) := by decide +kernel
theorem dX7_restore_27 : decode cX7_restore 27 = .ok (.aload_n 0, 1) := by decide +kernel
theorem dX7_restore_28 : decode cX7_restore 28 = .ok (.getfield 35, 3) := by decide +kernel
theorem dX7_restore_31 : decode cX7_restore 31 = .ok (.iload_n 1, 1) := by decide +kernel
theorem dX7_restore_32 : decode cX7_restore 32 = .ok (.aaload, 1) := by decide +kernel
theorem dX7_restore_33 : decode cX7_restore 33 = .ok (.invokevirtual 142, 3) := by decide +kernel
theorem dX7_restore_36 : decode cX7_restore 36 = .ok (.aload_n 0, 1) := by decide +kernel
theorem dX7_restore_37 : decode cX7_restore 37 = .ok (.getfield 46, 3) := by decide +kernel
theorem dX7_restore_40 : decode cX7_restore 40 = .ok (.invokevirtual 146, 3) := by decide +kernel
theorem dX7_restore_43 : decode cX7_restore 43 = .ok (.iconst 1, 1) := by decide +kernel
theorem dX7_restore_44 : decode cX7_restore 44 = .ok (.ireturn, 1) := by decide +kernel
theorem dX7_kind_0 : decode cX7_kind 0 = .ok (.iload_n 1, 1) := by decide +kernel
theorem dX7_kind_1 : decode cX7_kind 1 = .ok (.aload_n 0, 1) := by decide +kernel
theorem dX7_kind_2 : decode cX7_kind 2 = .ok (.getfield 25, 3) := by decide +kernel
theorem dX7_kind_5 : decode cX7_kind 5 = .ok (.getfield 149, 3) := by decide +kernel
theorem dX7_kind_8 : decode cX7_kind 8 = .ok (.invokestatic 76, 3) := by decide +kernel
theorem dX7_kind_11 : decode cX7_kind 11 = .ok (.ifCond .eq 15, 3) := by decide +kernel
theorem dX7_kind_14 : decode cX7_kind 14 = .ok (.aload_n 0, 1) := by decide +kernel
theorem dX7_kind_15 : decode cX7_kind 15 = .ok (.getfield 25, 3) := by decide +kernel
theorem dX7_kind_18 : decode cX7_kind 18 = .ok (.getfield 223, 3) := by decide +kernel
theorem dX7_kind_21 : decode cX7_kind 21 = .ok (.iload_n 1, 1) := by decide +kernel
theorem dX7_kind_22 : decode cX7_kind 22 = .ok (.iaload, 1) := by decide +kernel
theorem dX7_kind_23 : decode cX7_kind 23 = .ok (.goto 5, 3) := by decide +kernel
theorem dX7_kind_26 : decode cX7_kind 26 = .ok (.ldc 80, 2) := by decide +kernel
theorem dX7_kind_28 : decode cX7_kind 28 = .ok (.ireturn, 1) := by decide +kernel
theorem dX7_as_0 : decode cX7_as 0 = .ok (.iload_n 1, 1) := by decide +kernel
theorem dX7_as_1 : decode cX7_as 1 = .ok (.aload_n 0, 1) := by decide +kernel
theorem dX7_as_2 : decode cX7_as 2 = .ok (.getfield 25, 3) := by decide +kernel
theorem dX7_as_5 : decode cX7_as 5 = .ok (.getfield 149, 3) := by decide +kernel
theorem dX7_as_8 : decode cX7_as 8 = .ok (.invokestatic 76, 3) := by decide +kernel
theorem dX7_as_11 : decode cX7_as 11 = .ok (.ifCond .eq 12, 3) := by decide +kernel
theorem dX7_as_14 : decode cX7_as 14 = .ok (.iload_n 2, 1) := by decide +kernel
theorem dX7_as_15 : decode cX7_as 15 = .ok (.bipush 6, 2) := by decide +kernel
theorem dX7_as_17 : decode cX7_as 17 = .ok (.invokestatic 76, 3) := by decide +kernel
theorem dX7_as_20 : decode cX7_as 20 = .ok (.ifCond .ne 6, 3) := by decide +kernel
theorem dX7_as_23 : decode cX7_as 23 = .ok (.ldc 80, 2) := by decide +kernel
theorem dX7_as_25 : decode cX7_as 25 = .ok (.ireturn, 1) := by decide +kernel
theorem dX7_as_26 : decode cX7_as 26 = .ok (.aload_n 0, 1) := by decide +kernel
theorem dX7_as_27 : decode cX7_as 27 = .ok (.getfield 25, 3) := by decide +kernel
theorem dX7_as_30 : decode cX7_as 30 = .ok (.getfield 223, 3) := by decide +kernel
theorem dX7_as_33 : decode cX7_as 33 = .ok (.iload_n 1, 1) := by decide +kernel
theorem dX7_as_34 : decode cX7_as 34 = .ok (.iaload, 1) := by decide +kernel
theorem dX7_as_35 : decode cX7_as 35 = .ok (.iload_n 2, 1) := by decide +kernel
theorem dX7_as_36 : decode cX7_as 36 = .ok (.invokestatic 226, 3) := by decide +kernel
theorem dX7_as_39 : decode cX7_as 39 = .ok (.ifCond .eq 11, 3) := by decide +kernel
theorem dX7_as_42 : decode cX7_as 42 = .ok (.aload_n 0, 1) := by decide +kernel
theorem dX7_as_43 : decode cX7_as 43 = .ok (.iload_n 1, 1) := by decide +kernel
theorem dX7_as_44 : decode cX7_as 44 = .ok (.invokevirtual 89, 3) := by decide +kernel
theorem dX7_as_47 : decode cX7_as 47 = .ok (.goto 8, 3) := by decide +kernel
theorem dX7_as_50 : decode cX7_as 50 = .ok (.aload_n 0, 1) := by decide +kernel
theorem dX7_as_51 : decode cX7_as 51 = .ok (.iconst 3, 1) := by decide +kernel
theorem dX7_as_52 : decode cX7_as 52 = .ok (.invokevirtual 81, 3) := by decide +kernel
theorem dX7_as_55 : decode cX7_as 55 = .ok (.ireturn, 1) := by decide +kernel
theorem dX7_ask_0 : decode cX7_ask 0 = .ok (.iload_n 1, 1) := by decide +kernel
theorem dX7_ask_1 : decode cX7_ask 1 = .ok (.aload_n 0, 1) := by decide +kernel
theorem dX7_ask_2 : decode cX7_ask 2 = .ok (.getfield 25, 3) := by decide +kernel
theorem dX7_ask_5 : decode cX7_ask 5 = .ok (.getfield 149, 3) := by decide +kernel
theorem dX7_ask_8 : decode cX7_ask 8 = .ok (.invokestatic 76, 3) := by decide +kernel
theorem dX7_ask_11 : decode cX7_ask 11 = .ok (.ifCond .eq 12, 3) := by decide +kernel
theorem dX7_ask_14 : decode cX7_ask 14 = .ok (.iload_n 2, 1) := by decide +kernel
theorem dX7_ask_15 : decode cX7_ask 15 = .ok (.ifCond .lt 8, 3) := by decide +kernel
theorem dX7_ask_18 : decode cX7_ask 18 = .ok (.iload_n 2, 1) := by decide +kernel
theorem dX7_ask_19 : decode cX7_ask 19 = .ok (.iconst 1, 1) := by decide +kernel
theorem dX7_ask_20 : decode cX7_ask 20 = .ok (.if_icmp .le 6, 3) := by decide +kernel
theorem dX7_ask_23 : decode cX7_ask 23 = .ok (.ldc 80, 2) := by decide +kernel
theorem dX7_ask_25 : decode cX7_ask 25 = .ok (.ireturn, 1) := by decide +kernel
theorem dX7_ask_26 : decode cX7_ask 26 = .ok (.aload_n 0, 1) := by decide +kernel
theorem dX7_ask_27 : decode cX7_ask 27 = .ok (.getfield 53, 3) := by decide +kernel
theorem dX7_ask_30 : decode cX7_ask 30 = .ok (.iconst 0, 1) := by decide +kernel
theorem dX7_ask_31 : decode cX7_ask 31 = .ok (.putfield 229, 3) := by decide +kernel
theorem dX7_ask_34 : decode cX7_ask 34 = .ok (.aload_n 0, 1) := by decide +kernel
theorem dX7_ask_35 : decode cX7_ask 35 = .ok (.iload_n 2, 1) := by decide +kernel
theorem dX7_ask_36 : decode cX7_ask 36 = .ok (.iload_n 1, 1) := by decide +kernel
theorem dX7_ask_37 : decode cX7_ask 37 = .ok (.iconst 0, 1) := by decide +kernel
theorem dX7_ask_38 : decode cX7_ask 38 = .ok (.invokevirtual 230, 3) := by decide +kernel
theorem dX7_ask_41 : decode cX7_ask 41 = .ok (.ireturn, 1) := by decide +kernel
theorem dX7_trace_0 : decode cX7_trace 0 = .ok (.iload_n 1, 1) := by decide +kernel
theorem dX7_trace_1 : decode cX7_trace 1 = .ok (.aload_n 0, 1) := by decide +kernel
theorem dX7_trace_2 : decode cX7_trace 2 = .ok (.getfield 53, 3) := by decide +kernel
theorem dX7_trace_5 : decode cX7_trace 5 = .ok (.getfield 229, 3) := by decide +kernel
theorem dX7_trace_8 : decode cX7_trace 8 = .ok (.invokestatic 76, 3) := by decide +kernel
theorem dX7_trace_11 : decode cX7_trace 11 = .ok (.ifCond .eq 15, 3) := by decide +kernel
theorem dX7_trace_14 : decode cX7_trace 14 = .ok (.aload_n 0, 1) := by decide +kernel
theorem dX7_trace_15 : decode cX7_trace 15 = .ok (.getfield 53, 3) := by decide +kernel
theorem dX7_trace_18 : decode cX7_trace 18 = .ok (.getfield 234, 3) := by decide +kernel
theorem dX7_trace_21 : decode cX7_trace 21 = .ok (.iload_n 1, 1) := by decide +kernel
theorem dX7_trace_22 : decode cX7_trace 22 = .ok (.iaload, 1) := by decide +kernel
theorem dX7_trace_23 : decode cX7_trace 23 = .ok (.goto 5, 3) := by decide +kernel
theorem dX7_trace_26 : decode cX7_trace 26 = .ok (.ldc 193, 2) := by decide +kernel
theorem dX7_trace_28 : decode cX7_trace 28 = .ok (.ireturn, 1) := by decide +kernel
theorem dX7_count_0 : decode cX7_count 0 = .ok (.iload_n 1, 1) := by decide +kernel
theorem dX7_count_1 : decode cX7_count 1 = .ok (.tableswitch 90 0 5 #[39, 44, 52, 60, 68, 79], 39) := by decide +kernel
theorem dX7_count_40 : decode cX7_count 40 = .ok (.aload_n 0, 1) := by decide +kernel
theorem dX7_count_41 : decode cX7_count 41 = .ok (.invokevirtual 237, 3) := by decide +kernel
theorem dX7_count_44 : decode cX7_count 44 = .ok (.ireturn, 1) := by decide +kernel
theorem dX7_count_45 : decode cX7_count 45 = .ok (.aload_n 0, 1) := by decide +kernel
theorem dX7_count_46 : decode cX7_count 46 = .ok (.getfield 25, 3) := by decide +kernel
theorem dX7_count_49 : decode cX7_count 49 = .ok (.getfield 149, 3) := by decide +kernel
theorem dX7_count_52 : decode cX7_count 52 = .ok (.ireturn, 1) := by decide +kernel
theorem dX7_count_53 : decode cX7_count 53 = .ok (.aload_n 0, 1) := by decide +kernel
theorem dX7_count_54 : decode cX7_count 54 = .ok (.getfield 25, 3) := by decide +kernel
theorem dX7_count_57 : decode cX7_count 57 = .ok (.getfield 153, 3) := by decide +kernel
theorem dX7_count_60 : decode cX7_count 60 = .ok (.ireturn, 1) := by decide +kernel
theorem dX7_count_61 : decode cX7_count 61 = .ok (.aload_n 0, 1) := by decide +kernel
theorem dX7_count_62 : decode cX7_count 62 = .ok (.getfield 46, 3) := by decide +kernel
theorem dX7_count_65 : decode cX7_count 65 = .ok (.getfield 165, 3) := by decide +kernel
theorem dX7_count_68 : decode cX7_count 68 = .ok (.ireturn, 1) := by decide +kernel
theorem dX7_count_69 : decode cX7_count 69 = .ok (.aload_n 0, 1) := by decide +kernel
theorem dX7_count_70 : decode cX7_count 70 = .ok (.getfield 25, 3) := by decide +kernel
theorem dX7_count_73 : decode cX7_count 73 = .ok (.getfield 156, 3) := by decide +kernel
theorem dX7_count_76 : decode cX7_count 76 = .ok (.invokestatic 211, 3) := by decide +kernel
theorem dX7_count_79 : decode cX7_count 79 = .ok (.ireturn, 1) := by decide +kernel
theorem dX7_count_80 : decode cX7_count 80 = .ok (.aload_n 0, 1) := by decide +kernel
theorem dX7_count_81 : decode cX7_count 81 = .ok (.getfield 18, 3) := by decide +kernel
theorem dX7_count_84 : decode cX7_count 84 = .ok (.getfield 117, 3) := by decide +kernel
theorem dX7_count_87 : decode cX7_count 87 = .ok (.getfield 121, 3) := by decide +kernel
theorem dX7_count_90 : decode cX7_count 90 = .ok (.ireturn, 1) := by decide +kernel
theorem dX7_count_91 : decode cX7_count 91 = .ok (.ldc 80, 2) := by decide +kernel
theorem dX7_count_93 : decode cX7_count 93 = .ok (.ireturn, 1) := by decide +kernel
theorem dX7_status_0 : decode cX7_status 0 = .ok (.aload_n 0, 1) := by decide +kernel
theorem dX7_status_1 : decode cX7_status 1 = .ok (.getfield 72, 3) := by decide +kernel
theorem dX7_status_4 : decode cX7_status 4 = .ok (.ireturn, 1) := by decide +kernel
theorem dX7_isWithin_0 : decode cX7_isWithin 0 = .ok (.iload_n 0, 1) := by decide +kernel
theorem dX7_isWithin_1 : decode cX7_isWithin 1 = .ok (.ifCond .lt 12, 3) := by decide +kernel
theorem dX7_isWithin_4 : decode cX7_isWithin 4 = .ok (.iload_n 0, 1) := by decide +kernel
theorem dX7_isWithin_5 : decode cX7_isWithin 5 = .ok (.iload_n 1, 1) := by decide +kernel
theorem dX7_isWithin_6 : decode cX7_isWithin 6 = .ok (.if_icmp .ge 7, 3) := by decide +kernel
theorem dX7_isWithin_9 : decode cX7_isWithin 9 = .ok (.iconst 1, 1) := by decide +kernel
theorem dX7_isWithin_10 : decode cX7_isWithin 10 = .ok (.goto 4, 3) := by decide +kernel
theorem dX7_isWithin_13 : decode cX7_isWithin 13 = .ok (.iconst 0, 1) := by decide +kernel
theorem dX7_isWithin_14 : decode cX7_isWithin 14 = .ok (.ireturn, 1) := by decide +kernel
theorem dX7_isForetold_0 : decode cX7_isForetold 0 = .ok (.iload_n 0, 1) := by decide +kernel
theorem dX7_isForetold_1 : decode cX7_isForetold 1 = .ok (.bipush 121, 2) := by decide +kernel
theorem dX7_isForetold_3 : decode cX7_isForetold 3 = .ok (.invokestatic 76, 3) := by decide +kernel
theorem dX7_isForetold_6 : decode cX7_isForetold 6 = .ok (.ireturn, 1) := by decide +kernel
theorem dX7_found_0 : decode cX7_found 0 = .ok (.aload_n 0, 1) := by decide +kernel
theorem dX7_found_1 : decode cX7_found 1 = .ok (.iload_n 1, 1) := by decide +kernel
theorem dX7_found_2 : decode cX7_found 2 = .ok (.putfield 72, 3) := by decide +kernel
theorem dX7_found_5 : decode cX7_found 5 = .ok (.ldc 240, 2) := by decide +kernel
theorem dX7_found_7 : decode cX7_found 7 = .ok (.iload_n 1, 1) := by decide +kernel
theorem dX7_found_8 : decode cX7_found 8 = .ok (.isub, 1) := by decide +kernel
theorem dX7_found_9 : decode cX7_found 9 = .ok (.ireturn, 1) := by decide +kernel
theorem dX7_foundNone_0 : decode cX7_foundNone 0 = .ok (.aload_n 0, 1) := by decide +kernel
theorem dX7_foundNone_1 : decode cX7_foundNone 1 = .ok (.iconst 0, 1) := by decide +kernel
theorem dX7_foundNone_2 : decode cX7_foundNone 2 = .ok (.putfield 72, 3) := by decide +kernel
theorem dX7_foundNone_5 : decode cX7_foundNone 5 = .ok (.iload_n 1, 1) := by decide +kernel
theorem dX7_foundNone_6 : decode cX7_foundNone 6 = .ok (.ireturn, 1) := by decide +kernel
theorem dX7_rowsThere_0 : decode cX7_rowsThere 0 = .ok (.iconst 0, 1) := by decide +kernel
theorem dX7_rowsThere_1 : decode cX7_rowsThere 1 = .ok (.istore_n 1, 1) := by decide +kernel
theorem dX7_rowsThere_2 : decode cX7_rowsThere 2 = .ok (.iconst 0, 1) := by decide +kernel
theorem dX7_rowsThere_3 : decode cX7_rowsThere 3 = .ok (.istore_n 2, 1) := by decide +kernel
theorem dX7_rowsThere_4 : decode cX7_rowsThere 4 = .ok (.iload_n 2, 1) := by decide +kernel
theorem dX7_rowsThere_5 : decode cX7_rowsThere 5 = .ok (.bipush 8, 2) := by decide +kernel
theorem dX7_rowsThere_7 : decode cX7_rowsThere 7 = .ok (.if_icmp .ge 24, 3) := by decide +kernel
theorem dX7_rowsThere_10 : decode cX7_rowsThere 10 = .ok (.aload_n 0, 1) := by decide +kernel
theorem dX7_rowsThere_11 : decode cX7_rowsThere 11 = .ok (.getfield 11, 3) := by decide +kernel
theorem dX7_rowsThere_14 : decode cX7_rowsThere 14 = .ok (.iload_n 2, 1) := by decide +kernel
theorem dX7_rowsThere_15 : decode cX7_rowsThere 15 = .ok (.aaload, 1) := by decide +kernel
theorem dX7_rowsThere_16 : decode cX7_rowsThere 16 = .ok (.getfield 92, 3) := by decide +kernel
theorem dX7_rowsThere_19 : decode cX7_rowsThere 19 = .ok (.ifCond .eq 6, 3) := by decide +kernel
theorem dX7_rowsThere_22 : decode cX7_rowsThere 22 = .ok (.iinc 1 1, 3) := by decide +kernel
theorem dX7_rowsThere_25 : decode cX7_rowsThere 25 = .ok (.iinc 2 1, 3) := by decide +kernel
theorem dX7_rowsThere_28 : decode cX7_rowsThere 28 = .ok (.goto (-24), 3) := by decide +kernel
theorem dX7_rowsThere_31 : decode cX7_rowsThere 31 = .ok (.iload_n 1, 1) := by decide +kernel
theorem dX7_rowsThere_32 : decode cX7_rowsThere 32 = .ok (.ireturn, 1) := by decide +kernel
theorem dX7_trialBeginsBy_0 : decode cX7_trialBeginsBy 0 = .ok (.aload_n 0, 1) := by decide +kernel
theorem dX7_trialBeginsBy_1 : decode cX7_trialBeginsBy 1 = .ok (.getfield 25, 3) := by decide +kernel
theorem dX7_trialBeginsBy_4 : decode cX7_trialBeginsBy 4 = .ok (.iload_n 1, 1) := by decide +kernel
theorem dX7_trialBeginsBy_5 : decode cX7_trialBeginsBy 5 = .ok (.invokevirtual 241, 3) := by decide +kernel
theorem dX7_trialBeginsBy_8 : decode cX7_trialBeginsBy 8 = .ok (.ifCond .ne 5, 3) := by decide +kernel
theorem dX7_trialBeginsBy_11 : decode cX7_trialBeginsBy 11 = .ok (.iconst 0, 1) := by decide +kernel
theorem dX7_trialBeginsBy_12 : decode cX7_trialBeginsBy 12 = .ok (.ireturn, 1) := by decide +kernel
theorem dX7_trialBeginsBy_13 : decode cX7_trialBeginsBy 13 = .ok (.aload_n 0, 1) := by decide +kernel
theorem dX7_trialBeginsBy_14 : decode cX7_trialBeginsBy 14 = .ok (.getfield 32, 3) := by decide +kernel
theorem dX7_trialBeginsBy_17 : decode cX7_trialBeginsBy 17 = .ok (.aload_n 0, 1) := by decide +kernel
theorem dX7_trialBeginsBy_18 : decode cX7_trialBeginsBy 18 = .ok (.getfield 25, 3) := by decide +kernel
theorem dX7_trialBeginsBy_21 : decode cX7_trialBeginsBy 21 = .ok (.invokevirtual 142, 3) := by decide +kernel
theorem dX7_trialBeginsBy_24 : decode cX7_trialBeginsBy 24 = .ok (.aload_n 0, 1) := by decide +kernel
theorem dX7_trialBeginsBy_25 : decode cX7_trialBeginsBy 25 = .ok (.getfield 32, 3) := by decide +kernel
theorem dX7_trialBeginsBy_28 : decode cX7_trialBeginsBy 28 = .ok (.iload_n 1, 1) := by decide +kernel
theorem dX7_trialBeginsBy_29 : decode cX7_trialBeginsBy 29 = .ok (.invokevirtual 244, 3) := by decide +kernel
theorem dX7_trialBeginsBy_32 : decode cX7_trialBeginsBy 32 = .ok (.iconst 1, 1) := by decide +kernel
theorem dX7_trialBeginsBy_33 : decode cX7_trialBeginsBy 33 = .ok (.ireturn, 1) := by decide +kernel
theorem dX7_isOf_0 : decode cX7_isOf 0 = .ok (.iload_n 0, 1) := by decide +kernel
theorem dX7_isOf_1 : decode cX7_isOf 1 = .ok (.istore_n 2, 1) := by decide +kernel
theorem dX7_isOf_2 : decode cX7_isOf 2 = .ok (.iconst 0, 1) := by decide +kernel
theorem dX7_isOf_3 : decode cX7_isOf 3 = .ok (.istore_n 3, 1) := by decide +kernel
theorem dX7_isOf_4 : decode cX7_isOf 4 = .ok (.iload_n 3, 1) := by decide +kernel
theorem dX7_isOf_5 : decode cX7_isOf 5 = .ok (.bipush 6, 2) := by decide +kernel
theorem dX7_isOf_7 : decode cX7_isOf 7 = .ok (.if_icmp .ge 20, 3) := by decide +kernel
theorem dX7_isOf_10 : decode cX7_isOf 10 = .ok (.iload_n 2, 1) := by decide +kernel
theorem dX7_isOf_11 : decode cX7_isOf 11 = .ok (.iload_n 1, 1) := by decide +kernel
theorem dX7_isOf_12 : decode cX7_isOf 12 = .ok (.if_icmp .eq 15, 3) := by decide +kernel
theorem dX7_isOf_15 : decode cX7_isOf 15 = .ok (.getstatic 247, 3) := by decide +kernel
theorem dX7_isOf_18 : decode cX7_isOf 18 = .ok (.iload_n 2, 1) := by decide +kernel
theorem dX7_isOf_19 : decode cX7_isOf 19 = .ok (.iaload, 1) := by decide +kernel
theorem dX7_isOf_20 : decode cX7_isOf 20 = .ok (.istore_n 2, 1) := by decide +kernel
theorem dX7_isOf_21 : decode cX7_isOf 21 = .ok (.iinc 3 1, 3) := by decide +kernel
theorem dX7_isOf_24 : decode cX7_isOf 24 = .ok (.goto (-20), 3) := by decide +kernel
theorem dX7_isOf_27 : decode cX7_isOf 27 = .ok (.iload_n 2, 1) := by decide +kernel
theorem dX7_isOf_28 : decode cX7_isOf 28 = .ok (.iload_n 1, 1) := by decide +kernel
theorem dX7_isOf_29 : decode cX7_isOf 29 = .ok (.if_icmp .ne 7, 3) := by decide +kernel
theorem dX7_isOf_32 : decode cX7_isOf 32 = .ok (.iconst 1, 1) := by decide +kernel
theorem dX7_isOf_33 : decode cX7_isOf 33 = .ok (.goto 4, 3) := by decide +kernel
theorem dX7_isOf_36 : decode cX7_isOf 36 = .ok (.iconst 0, 1) := by decide +kernel
theorem dX7_isOf_37 : decode cX7_isOf 37 = .ok (.ireturn, 1) := by decide +kernel
theorem dX7_nearestBody_0 : decode cX7_nearestBody 0 = .ok (.iload_n 1, 1) := by decide +kernel
theorem dX7_nearestBody_1 : decode cX7_nearestBody 1 = .ok (.istore_n 2, 1) := by decide +kernel
theorem dX7_nearestBody_2 : decode cX7_nearestBody 2 = .ok (.iconst 0, 1) := by decide +kernel
theorem dX7_nearestBody_3 : decode cX7_nearestBody 3 = .ok (.istore_n 3, 1) := by decide +kernel
theorem dX7_nearestBody_4 : decode cX7_nearestBody 4 = .ok (.iload_n 3, 1) := by decide +kernel
theorem dX7_nearestBody_5 : decode cX7_nearestBody 5 = .ok (.bipush 6, 2) := by decide +kernel
theorem dX7_nearestBody_7 : decode cX7_nearestBody 7 = .ok (.if_icmp .ge 21, 3) := by decide +kernel
theorem dX7_nearestBody_10 : decode cX7_nearestBody 10 = .ok (.aload_n 0, 1) := by decide +kernel
theorem dX7_nearestBody_11 : decode cX7_nearestBody 11 = .ok (.iload_n 2, 1) := by decide +kernel
theorem dX7_nearestBody_12 : decode cX7_nearestBody 12 = .ok (.iaload, 1) := by decide +kernel
theorem dX7_nearestBody_13 : decode cX7_nearestBody 13 = .ok (.ifCond .ne 15, 3) := by decide +kernel
theorem dX7_nearestBody_16 : decode cX7_nearestBody 16 = .ok (.getstatic 247, 3) := by decide +kernel
theorem dX7_nearestBody_19 : decode cX7_nearestBody 19 = .ok (.iload_n 2, 1) := by decide +kernel
theorem dX7_nearestBody_20 : decode cX7_nearestBody 20 = .ok (.iaload, 1) := by decide +kernel
theorem dX7_nearestBody_21 : decode cX7_nearestBody 21 = .ok (.istore_n 2, 1) := by decide +kernel
theorem dX7_nearestBody_22 : decode cX7_nearestBody 22 = .ok (.iinc 3 1, 3) := by decide +kernel
theorem dX7_nearestBody_25 : decode cX7_nearestBody 25 = .ok (.goto (-21), 3) := by decide +kernel
theorem dX7_nearestBody_28 : decode cX7_nearestBody 28 = .ok (.aload_n 0, 1) := by decide +kernel
theorem dX7_nearestBody_29 : decode cX7_nearestBody 29 = .ok (.iload_n 2, 1) := by decide +kernel
theorem dX7_nearestBody_30 : decode cX7_nearestBody 30 = .ok (.iaload, 1) := by decide +kernel
theorem dX7_nearestBody_31 : decode cX7_nearestBody 31 = .ok (.ireturn, 1) := by decide +kernel
theorem dX7_asked_0 : decode cX7_asked 0 = .ok (.iload_n 1, 1) := by decide +kernel
theorem dX7_asked_1 : decode cX7_asked 1 = .ok (.ifCond .ne 9, 3) := by decide +kernel
theorem dX7_asked_4 : decode cX7_asked 4 = .ok (.getstatic 250, 3) := by decide +kernel
theorem dX7_asked_7 : decode cX7_asked 7 = .ok (.goto 6, 3) := by decide +kernel
theorem dX7_asked_10 : decode cX7_asked 10 = .ok (.getstatic 253, 3) := by decide +kernel
theorem dX7_asked_13 : decode cX7_asked 13 = .ok (.astore 4, 2) := by decide +kernel
theorem dX7_asked_15 : decode cX7_asked 15 = .ok (.aload_n 0, 1) := by decide +kernel
theorem dX7_asked_16 : decode cX7_asked 16 = .ok (.aload 4, 2) := by decide +kernel
theorem dX7_asked_18 : decode cX7_asked 18 = .ok (.aload_n 0, 1) := by decide +kernel
theorem dX7_asked_19 : decode cX7_asked 19 = .ok (.getfield 25, 3) := by decide +kernel
theorem dX7_asked_22 : decode cX7_asked 22 = .ok (.getfield 223, 3) := by decide +kernel
theorem dX7_asked_25 : decode cX7_asked 25 = .ok (.iload_n 2, 1) := by decide +kernel
theorem dX7_asked_26 : decode cX7_asked 26 = .ok (.iaload, 1) := by decide +kernel
theorem dX7_asked_27 : decode cX7_asked 27 = .ok (.invokestatic 256, 3) := by decide +kernel
theorem dX7_asked_30 : decode cX7_asked 30 = .ok (.iload_n 2, 1) := by decide +kernel
theorem dX7_asked_31 : decode cX7_asked 31 = .ok (.iload_n 3, 1) := by decide +kernel
theorem dX7_asked_32 : decode cX7_asked 32 = .ok (.invokevirtual 260, 3) := by decide +kernel
theorem dX7_asked_35 : decode cX7_asked 35 = .ok (.ireturn, 1) := by decide +kernel
theorem dX7_given_0 : decode cX7_given 0 = .ok (.iload_n 3, 1) := by decide +kernel
theorem dX7_given_1 : decode cX7_given 1 = .ok (.bipush 16, 2) := by decide +kernel
theorem dX7_given_3 : decode cX7_given 3 = .ok (.if_icmp .lt 5, 3) := by decide +kernel
theorem dX7_given_6 : decode cX7_given 6 = .ok (.iconst 0, 1) := by decide +kernel
theorem dX7_given_7 : decode cX7_given 7 = .ok (.ireturn, 1) := by decide +kernel
theorem dX7_given_8 : decode cX7_given 8 = .ok (.iload_n 3, 1) := by decide +kernel
theorem dX7_given_9 : decode cX7_given 9 = .ok (.iconst 1, 1) := by decide +kernel
theorem dX7_given_10 : decode cX7_given 10 = .ok (.iadd, 1) := by decide +kernel
theorem dX7_given_11 : decode cX7_given 11 = .ok (.istore 4, 2) := by decide +kernel
theorem dX7_given_13 : decode cX7_given 13 = .ok (.aload_n 0, 1) := by decide +kernel
theorem dX7_given_14 : decode cX7_given 14 = .ok (.getfield 53, 3) := by decide +kernel
theorem dX7_given_17 : decode cX7_given 17 = .ok (.iload_n 1, 1) := by decide +kernel
theorem dX7_given_18 : decode cX7_given 18 = .ok (.invokevirtual 263, 3) := by decide +kernel
theorem dX7_given_21 : decode cX7_given 21 = .ok (.iload_n 1, 1) := by decide +kernel
theorem dX7_given_22 : decode cX7_given 22 = .ok (.tableswitch 206 10 24 #[74, 84, 103, 114, 127, 206, 206, 206, 206, 206, 139, 141, 161, 175, 194], 74) := by decide +kernel
theorem dX7_given_96 : decode cX7_given 96 = .ok (.aload_n 0, 1) := by decide +kernel
theorem dX7_given_97 : decode cX7_given 97 = .ok (.getfield 25, 3) := by decide +kernel
theorem dX7_given_100 : decode cX7_given 100 = .ok (.getfield 179, 3) := by decide +kernel
theorem dX7_given_103 : decode cX7_given 103 = .ok (.iload_n 2, 1) := by decide +kernel
theorem dX7_given_104 : decode cX7_given 104 = .ok (.iaload, 1) := by decide +kernel
theorem dX7_given_105 : decode cX7_given 105 = .ok (.ireturn, 1) := by decide +kernel
theorem dX7_given_106 : decode cX7_given 106 = .ok (.aload_n 0, 1) := by decide +kernel
theorem dX7_given_107 : decode cX7_given 107 = .ok (.bipush 10, 2) := by decide +kernel
theorem dX7_given_109 : decode cX7_given 109 = .ok (.iload_n 2, 1) := by decide +kernel
theorem dX7_given_110 : decode cX7_given 110 = .ok (.iload 4, 2) := by decide +kernel
theorem dX7_given_112 : decode cX7_given 112 = .ok (.invokevirtual 260, 3) := by decide +kernel
theorem dX7_given_115 : decode cX7_given 115 = .ok (.aload_n 0, 1) := by decide +kernel
theorem dX7_given_116 : decode cX7_given 116 = .ok (.iconst 1, 1) := by decide +kernel
theorem dX7_given_117 : decode cX7_given 117 = .ok (.iload_n 2, 1) := by decide +kernel
theorem dX7_given_118 : decode cX7_given 118 = .ok (.iload 4, 2) := by decide +kernel
theorem dX7_given_120 : decode cX7_given 120 = .ok (.invokevirtual 230, 3) := by decide +kernel
theorem dX7_given_123 : decode cX7_given 123 = .ok (.iadd, 1) := by decide +kernel
theorem dX7_given_124 : decode cX7_given 124 = .ok (.ireturn, 1) := by decide +kernel
theorem dX7_given_125 : decode cX7_given 125 = .ok (.aload_n 0, 1) := by decide +kernel
theorem dX7_given_126 : decode cX7_given 126 = .ok (.bipush 11, 2) := by decide +kernel
theorem dX7_given_128 : decode cX7_given 128 = .ok (.iload_n 2, 1) := by decide +kernel
theorem dX7_given_129 : decode cX7_given 129 = .ok (.iload 4, 2) := by decide +kernel
theorem dX7_given_131 : decode cX7_given 131 = .ok (.invokevirtual 260, 3) := by decide +kernel
theorem dX7_given_134 : decode cX7_given 134 = .ok (.ineg, 1) := by decide +kernel
theorem dX7_given_135 : decode cX7_given 135 = .ok (.ireturn, 1) := by decide +kernel
theorem dX7_given_136 : decode cX7_given 136 = .ok (.aload_n 0, 1) := by decide +kernel
theorem dX7_given_137 : decode cX7_given 137 = .ok (.bipush 10, 2) := by decide +kernel
theorem dX7_given_139 : decode cX7_given 139 = .ok (.iload_n 2, 1) := by decide +kernel
theorem dX7_given_140 : decode cX7_given 140 = .ok (.iload 4, 2) := by decide +kernel
theorem dX7_given_142 : decode cX7_given 142 = .ok (.invokevirtual 260, 3) := by decide +kernel
theorem dX7_given_145 : decode cX7_given 145 = .ok (.bipush 100, 2) := by decide +kernel
theorem dX7_given_147 : decode cX7_given 147 = .ok (.isub, 1) := by decide +kernel
theorem dX7_given_148 : decode cX7_given 148 = .ok (.ireturn, 1) := by decide +kernel
theorem dX7_given_149 : decode cX7_given 149 = .ok (.iconst 2, 1) := by decide +kernel
theorem dX7_given_150 : decode cX7_given 150 = .ok (.aload_n 0, 1) := by decide +kernel
theorem dX7_given_151 : decode cX7_given 151 = .ok (.bipush 13, 2) := by decide +kernel
theorem dX7_given_153 : decode cX7_given 153 = .ok (.iload_n 2, 1) := by decide +kernel
theorem dX7_given_154 : decode cX7_given 154 = .ok (.iload 4, 2) := by decide +kernel
theorem dX7_given_156 : decode cX7_given 156 = .ok (.invokevirtual 260, 3) := by decide +kernel
theorem dX7_given_159 : decode cX7_given 159 = .ok (.imul, 1) := by decide +kernel
theorem dX7_given_160 : decode cX7_given 160 = .ok (.ireturn, 1) := by decide +kernel
theorem dX7_given_161 : decode cX7_given 161 = .ok (.iload_n 2, 1) := by decide +kernel
theorem dX7_given_162 : decode cX7_given 162 = .ok (.ireturn, 1) := by decide +kernel
theorem dX7_given_163 : decode cX7_given 163 = .ok (.aload_n 0, 1) := by decide +kernel
theorem dX7_given_164 : decode cX7_given 164 = .ok (.bipush 20, 2) := by decide +kernel
theorem dX7_given_166 : decode cX7_given 166 = .ok (.iload_n 2, 1) := by decide +kernel
theorem dX7_given_167 : decode cX7_given 167 = .ok (.iload 4, 2) := by decide +kernel
theorem dX7_given_169 : decode cX7_given 169 = .ok (.invokevirtual 260, 3) := by decide +kernel
theorem dX7_given_172 : decode cX7_given 172 = .ok (.aload_n 0, 1) := by decide +kernel
theorem dX7_given_173 : decode cX7_given 173 = .ok (.getfield 25, 3) := by decide +kernel
theorem dX7_given_176 : decode cX7_given 176 = .ok (.getfield 266, 3) := by decide +kernel
theorem dX7_given_179 : decode cX7_given 179 = .ok (.iload_n 2, 1) := by decide +kernel
theorem dX7_given_180 : decode cX7_given 180 = .ok (.iaload, 1) := by decide +kernel
theorem dX7_given_181 : decode cX7_given 181 = .ok (.iadd, 1) := by decide +kernel
theorem dX7_given_182 : decode cX7_given 182 = .ok (.ireturn, 1) := by decide +kernel
theorem dX7_given_183 : decode cX7_given 183 = .ok (.aload_n 0, 1) := by decide +kernel
theorem dX7_given_184 : decode cX7_given 184 = .ok (.bipush 21, 2) := by decide +kernel
theorem dX7_given_186 : decode cX7_given 186 = .ok (.iload_n 2, 1) := by decide +kernel
theorem dX7_given_187 : decode cX7_given 187 = .ok (.iload 4, 2) := by decide +kernel
theorem dX7_given_189 : decode cX7_given 189 = .ok (.invokevirtual 260, 3) := by decide +kernel
theorem dX7_given_192 : decode cX7_given 192 = .ok (.sipush 1000, 3) := by decide +kernel
theorem dX7_given_195 : decode cX7_given 195 = .ok (.isub, 1) := by decide +kernel
theorem dX7_given_196 : decode cX7_given 196 = .ok (.ireturn, 1) := by decide +kernel
theorem dX7_given_197 : decode cX7_given 197 = .ok (.aload_n 0, 1) := by decide +kernel
theorem dX7_given_198 : decode cX7_given 198 = .ok (.bipush 20, 2) := by decide +kernel
theorem dX7_given_200 : decode cX7_given 200 = .ok (.iload_n 2, 1) := by decide +kernel
theorem dX7_given_201 : decode cX7_given 201 = .ok (.iload 4, 2) := by decide +kernel
theorem dX7_given_203 : decode cX7_given 203 = .ok (.invokevirtual 260, 3) := by decide +kernel
theorem dX7_given_206 : decode cX7_given 206 = .ok (.aload_n 0, 1) := by decide +kernel
theorem dX7_given_207 : decode cX7_given 207 = .ok (.iconst 0, 1) := by decide +kernel
theorem dX7_given_208 : decode cX7_given 208 = .ok (.iload_n 2, 1) := by decide +kernel
theorem dX7_given_209 : decode cX7_given 209 = .ok (.iload 4, 2) := by decide +kernel
theorem dX7_given_211 : decode cX7_given 211 = .ok (.invokevirtual 230, 3) := by decide +kernel
theorem dX7_given_214 : decode cX7_given 214 = .ok (.isub, 1) := by decide +kernel
theorem dX7_given_215 : decode cX7_given 215 = .ok (.ireturn, 1) := by decide +kernel
theorem dX7_given_216 : decode cX7_given 216 = .ok (.iconst 2, 1) := by decide +kernel
theorem dX7_given_217 : decode cX7_given 217 = .ok (.aload_n 0, 1) := by decide +kernel
theorem dX7_given_218 : decode cX7_given 218 = .ok (.bipush 21, 2) := by decide +kernel
theorem dX7_given_220 : decode cX7_given 220 = .ok (.iload_n 2, 1) := by decide +kernel
theorem dX7_given_221 : decode cX7_given 221 = .ok (.iload 4, 2) := by decide +kernel
theorem dX7_given_223 : decode cX7_given 223 = .ok (.invokevirtual 260, 3) := by decide +kernel
theorem dX7_given_226 : decode cX7_given 226 = .ok (.imul, 1) := by decide +kernel
theorem dX7_given_227 : decode cX7_given 227 = .ok (.ireturn, 1) := by decide +kernel
theorem dX7_given_228 : decode cX7_given 228 = .ok (.iconst 0, 1) := by decide +kernel
theorem dX7_given_229 : decode cX7_given 229 = .ok (.ireturn, 1) := by decide +kernel
theorem dX8_init_0 : decode cX8_init 0 = .ok (.aload_n 0, 1) := by decide +kernel
theorem dX8_init_1 : decode cX8_init 1 = .ok (.invokespecial 1, 3) := by decide +kernel
theorem dX8_init_4 : decode cX8_init 4 = .ok (.aload_n 0, 1) := by decide +kernel
theorem dX8_init_5 : decode cX8_init 5 = .ok (.bipush 124, 2) := by decide +kernel
theorem dX8_init_7 : decode cX8_init 7 = .ok (.newarray .int, 2) := by decide +kernel
theorem dX8_init_9 : decode cX8_init 9 = .ok (.putfield 7, 3) := by decide +kernel
theorem dX8_init_12 : decode cX8_init 12 = .ok (.aload_n 0, 1) := by decide +kernel
theorem dX8_init_13 : decode cX8_init 13 = .ok (.sipush 336, 3) := by decide +kernel
theorem dX8_init_16 : decode cX8_init 16 = .ok (.newarray .int, 2) := by decide +kernel
theorem dX8_init_18 : decode cX8_init 18 = .ok (.putfield 13, 3) := by decide +kernel
theorem dX8_init_21 : decode cX8_init 21 = .ok (.aload_n 0, 1) := by decide +kernel
theorem dX8_init_22 : decode cX8_init 22 = .ok (.sipush 400, 3) := by decide +kernel
theorem dX8_init_25 : decode cX8_init 25 = .ok (.newarray .int, 2) := by decide +kernel
theorem dX8_init_27 : decode cX8_init 27 = .ok (.putfield 16, 3) := by decide +kernel
theorem dX8_init_30 : decode cX8_init 30 = .ok (.aload_n 0, 1) := by decide +kernel
theorem dX8_init_31 : decode cX8_init 31 = .ok (.bipush 8, 2) := by decide +kernel
theorem dX8_init_33 : decode cX8_init 33 = .ok (.newarray .int, 2) := by decide +kernel
theorem dX8_init_35 : decode cX8_init 35 = .ok (.dup, 1) := by decide +kernel
theorem dX8_init_36 : decode cX8_init 36 = .ok (.iconst 0, 1) := by decide +kernel
theorem dX8_init_37 : decode cX8_init 37 = .ok (.ldc 19, 2) := by decide +kernel
theorem dX8_init_39 : decode cX8_init 39 = .ok (.iastore, 1) := by decide +kernel
theorem dX8_init_40 : decode cX8_init 40 = .ok (.dup, 1) := by decide +kernel
theorem dX8_init_41 : decode cX8_init 41 = .ok (.iconst 1, 1) := by decide +kernel
theorem dX8_init_42 : decode cX8_init 42 = .ok (.ldc 19, 2) := by decide +kernel
theorem dX8_init_44 : decode cX8_init 44 = .ok (.iastore, 1) := by decide +kernel
theorem dX8_init_45 : decode cX8_init 45 = .ok (.dup, 1) := by decide +kernel
theorem dX8_init_46 : decode cX8_init 46 = .ok (.iconst 2, 1) := by decide +kernel
theorem dX8_init_47 : decode cX8_init 47 = .ok (.ldc 19, 2) := by decide +kernel
theorem dX8_init_49 : decode cX8_init 49 = .ok (.iastore, 1) := by decide +kernel
theorem dX8_init_50 : decode cX8_init 50 = .ok (.dup, 1) := by decide +kernel
theorem dX8_init_51 : decode cX8_init 51 = .ok (.iconst 3, 1) := by decide +kernel
theorem dX8_init_52 : decode cX8_init 52 = .ok (.ldc 19, 2) := by decide +kernel
theorem dX8_init_54 : decode cX8_init 54 = .ok (.iastore, 1) := by decide +kernel
theorem dX8_init_55 : decode cX8_init 55 = .ok (.dup, 1) := by decide +kernel
theorem dX8_init_56 : decode cX8_init 56 = .ok (.iconst 4, 1) := by decide +kernel
theorem dX8_init_57 : decode cX8_init 57 = .ok (.ldc 19, 2) := by decide +kernel
theorem dX8_init_59 : decode cX8_init 59 = .ok (.iastore, 1) := by decide +kernel
theorem dX8_init_60 : decode cX8_init 60 = .ok (.dup, 1) := by decide +kernel
theorem dX8_init_61 : decode cX8_init 61 = .ok (.iconst 5, 1) := by decide +kernel
theorem dX8_init_62 : decode cX8_init 62 = .ok (.ldc 19, 2) := by decide +kernel
theorem dX8_init_64 : decode cX8_init 64 = .ok (.iastore, 1) := by decide +kernel
theorem dX8_init_65 : decode cX8_init 65 = .ok (.dup, 1) := by decide +kernel
theorem dX8_init_66 : decode cX8_init 66 = .ok (.bipush 6, 2) := by decide +kernel
theorem dX8_init_68 : decode cX8_init 68 = .ok (.ldc 19, 2) := by decide +kernel
theorem dX8_init_70 : decode cX8_init 70 = .ok (.iastore, 1) := by decide +kernel
theorem dX8_init_71 : decode cX8_init 71 = .ok (.dup, 1) := by decide +kernel
theorem dX8_init_72 : decode cX8_init 72 = .ok (.bipush 7, 2) := by decide +kernel
theorem dX8_init_74 : decode cX8_init 74 = .ok (.ldc 19, 2) := by decide +kernel
theorem dX8_init_76 : decode cX8_init 76 = .ok (.iastore, 1) := by decide +kernel
theorem dX8_init_77 : decode cX8_init 77 = .ok (.putfield 20, 3) := by decide +kernel
theorem dX8_init_80 : decode cX8_init 80 = .ok (.aload_n 0, 1) := by decide +kernel
theorem dX8_init_81 : decode cX8_init 81 = .ok (.bipush 8, 2) := by decide +kernel
theorem dX8_init_83 : decode cX8_init 83 = .ok (.newarray .int, 2) := by decide +kernel
theorem dX8_init_85 : decode cX8_init 85 = .ok (.putfield 23, 3) := by decide +kernel
theorem dX8_init_88 : decode cX8_init 88 = .ok (.aload_n 0, 1) := by decide +kernel
theorem dX8_init_89 : decode cX8_init 89 = .ok (.sipush 320, 3) := by decide +kernel
theorem dX8_init_92 : decode cX8_init 92 = .ok (.newarray .int, 2) := by decide +kernel
theorem dX8_init_94 : decode cX8_init 94 = .ok (.putfield 26, 3) := by decide +kernel
theorem dX8_init_97 : decode cX8_init 97 = .ok (.aload_n 0, 1) := by decide +kernel
theorem dX8_init_98 : decode cX8_init 98 = .ok (.bipush 16, 2) := by decide +kernel
theorem dX8_init_100 : decode cX8_init 100 = .ok (.newarray .int, 2) := by decide +kernel
theorem dX8_init_102 : decode cX8_init 102 = .ok (.putfield 29, 3) := by decide +kernel
theorem dX8_init_105 : decode cX8_init 105 = .ok (.aload_n 0, 1) := by decide +kernel
theorem dX8_init_106 : decode cX8_init 106 = .ok (.bipush 24, 2) := by decide +kernel
theorem dX8_init_108 : decode cX8_init 108 = .ok (.newarray .int, 2) := by decide +kernel
theorem dX8_init_110 : decode cX8_init 110 = .ok (.putfield 32, 3) := by decide +kernel
theorem dX8_init_113 : decode cX8_init 113 = .ok (.return_, 1) := by decide +kernel
theorem dX8_in_0 : decode cX8_in 0 = .ok (.lload_n 0, 1) := by decide +kernel
theorem dX8_in_1 : decode cX8_in 1 = .ok (.lload_n 2, 1) := by decide +kernel
theorem dX8_in_2 : decode cX8_in 2 = .ok (.lcmp, 1) := by decide +kernel
theorem dX8_in_3 : decode cX8_in 3 = .ok (.ifCond .lt 14, 3) := by decide +kernel
theorem dX8_in_6 : decode cX8_in 6 = .ok (.lload_n 0, 1) := by decide +kernel
theorem dX8_in_7 : decode cX8_in 7 = .ok (.lload 4, 2) := by decide +kernel
theorem dX8_in_9 : decode cX8_in 9 = .ok (.lcmp, 1) := by decide +kernel
theorem dX8_in_10 : decode cX8_in 10 = .ok (.ifCond .gt 7, 3) := by decide +kernel
theorem dX8_in_13 : decode cX8_in 13 = .ok (.iconst 1, 1) := by decide +kernel
theorem dX8_in_14 : decode cX8_in 14 = .ok (.goto 4, 3) := by decide +kernel
theorem dX8_in_17 : decode cX8_in 17 = .ok (.iconst 0, 1) := by decide +kernel
theorem dX8_in_18 : decode cX8_in 18 = .ok (.ireturn, 1) := by decide +kernel
theorem dX8_has_0 : decode cX8_has 0 = .ok (.iload_n 0, 1) := by decide +kernel
theorem dX8_has_1 : decode cX8_has 1 = .ok (.iload_n 1, 1) := by decide +kernel
theorem dX8_has_2 : decode cX8_has 2 = .ok (.ishr, 1) := by decide +kernel
theorem dX8_has_3 : decode cX8_has 3 = .ok (.iconst 1, 1) := by decide +kernel
theorem dX8_has_4 : decode cX8_has 4 = .ok (.iand, 1) := by decide +kernel
theorem dX8_has_5 : decode cX8_has 5 = .ok (.iconst 1, 1) := by decide +kernel
theorem dX8_has_6 : decode cX8_has 6 = .ok (.if_icmp .ne 7, 3) := by decide +kernel
theorem dX8_has_9 : decode cX8_has 9 = .ok (.iconst 1, 1) := by decide +kernel
theorem dX8_has_10 : decode cX8_has 10 = .ok (.goto 4, 3) := by decide +kernel
theorem dX8_has_13 : decode cX8_has 13 = .ok (.iconst 0, 1) := by decide +kernel
theorem dX8_has_14 : decode cX8_has 14 = .ok (.ireturn, 1) := by decide +kernel
theorem dX8_bits_0 : decode cX8_bits 0 = .ok (.iconst 0, 1) := by decide +kernel
theorem dX8_bits_1 : decode cX8_bits 1 = .ok (.istore_n 1, 1) := by decide +kernel
theorem dX8_bits_2 : decode cX8_bits 2 = .ok (.iconst 0, 1) := by decide +kernel
theorem dX8_bits_3 : decode cX8_bits 3 = .ok (.istore_n 2, 1) := by decide +kernel
theorem dX8_bits_4 : decode cX8_bits 4 = .ok (.iload_n 2, 1) := by decide +kernel
theorem dX8_bits_5 : decode cX8_bits 5 = .ok (.bipush 8, 2) := by decide +kernel
theorem dX8_bits_7 : decode cX8_bits 7 = .ok (.if_icmp .ge 17, 3) := by decide +kernel
theorem dX8_bits_10 : decode cX8_bits 10 = .ok (.iload_n 1, 1) := by decide +kernel
theorem dX8_bits_11 : decode cX8_bits 11 = .ok (.iload_n 0, 1) := by decide +kernel
theorem dX8_bits_12 : decode cX8_bits 12 = .ok (.iload_n 2, 1) := by decide +kernel
theorem dX8_bits_13 : decode cX8_bits 13 = .ok (.ishr, 1) := by decide +kernel
theorem dX8_bits_14 : decode cX8_bits 14 = .ok (.iconst 1, 1) := by decide +kernel
theorem dX8_bits_15 : decode cX8_bits 15 = .ok (.iand, 1) := by decide +kernel
theorem dX8_bits_16 : decode cX8_bits 16 = .ok (.iadd, 1) := by decide +kernel
theorem dX8_bits_17 : decode cX8_bits 17 = .ok (.istore_n 1, 1) := by decide +kernel
theorem dX8_bits_18 : decode cX8_bits 18 = .ok (.iinc 2 1, 3) := by decide +kernel
theorem dX8_bits_21 : decode cX8_bits 21 = .ok (.goto (-17), 3) := by decide +kernel
theorem dX8_bits_24 : decode cX8_bits 24 = .ok (.iload_n 1, 1) := by decide +kernel
theorem dX8_bits_25 : decode cX8_bits 25 = .ok (.ireturn, 1) := by decide +kernel
theorem dX8_find_0 : decode cX8_find 0 = .ok (.aload_n 0, 1) := by decide +kernel
theorem dX8_find_1 : decode cX8_find 1 = .ok (.iload_n 1, 1) := by decide +kernel
theorem dX8_find_2 : decode cX8_find 2 = .ok (.putfield 35, 3) := by decide +kernel
theorem dX8_find_5 : decode cX8_find 5 = .ok (.ldc 39, 2) := by decide +kernel
theorem dX8_find_7 : decode cX8_find 7 = .ok (.iload_n 1, 1) := by decide +kernel
theorem dX8_find_8 : decode cX8_find 8 = .ok (.isub, 1) := by decide +kernel
theorem dX8_find_9 : decode cX8_find 9 = .ok (.ireturn, 1) := by decide +kernel
theorem dX8_give_0 : decode cX8_give 0 = .ok (.aload_n 0, 1) := by decide +kernel
theorem dX8_give_1 : decode cX8_give 1 = .ok (.iconst 0, 1) := by decide +kernel
theorem dX8_give_2 : decode cX8_give 2 = .ok (.putfield 35, 3) := by decide +kernel
theorem dX8_give_5 : decode cX8_give 5 = .ok (.iload_n 1, 1) := by decide +kernel
theorem dX8_give_6 : decode cX8_give 6 = .ok (.ireturn, 1) := by decide +kernel
theorem dX8_isRow_0 : decode cX8_isRow 0 = .ok (.iload_n 0, 1) := by decide +kernel
theorem dX8_isRow_1 : decode cX8_isRow 1 = .ok (.i2l, 1) := by decide +kernel
theorem dX8_isRow_2 : decode cX8_isRow 2 = .ok (.lconst 0, 1) := by decide +kernel
theorem dX8_isRow_3 : decode cX8_isRow 3 = .ok (.ldc2_w 40, 3) := by decide +kernel
theorem dX8_isRow_6 : decode cX8_isRow 6 = .ok (.invokestatic 42, 3) := by decide +kernel
theorem dX8_isRow_9 : decode cX8_isRow 9 = .ok (.ireturn, 1) := by decide +kernel
theorem dX8_row_0 : decode cX8_row 0 = .ok (.iload_n 1, 1) := by decide +kernel
theorem dX8_row_1 : decode cX8_row 1 = .ok (.invokestatic 46, 3) := by decide +kernel
theorem dX8_row_4 : decode cX8_row 4 = .ok (.ifCond .eq 21, 3) := by decide +kernel
theorem dX8_row_7 : decode cX8_row 7 = .ok (.iload_n 2, 1) := by decide +kernel
theorem dX8_row_8 : decode cX8_row 8 = .ok (.i2l, 1) := by decide +kernel
theorem dX8_row_9 : decode cX8_row 9 = .ok (.lconst 0, 1) := by decide +kernel
theorem dX8_row_10 : decode cX8_row 10 = .ok (.ldc2_w 50, 3) := by decide +kernel
theorem dX8_row_13 : decode cX8_row 13 = .ok (.invokestatic 42, 3) := by decide +kernel
theorem dX8_row_16 : decode cX8_row 16 = .ok (.ifCond .eq 9, 3) := by decide +kernel
theorem dX8_row_19 : decode cX8_row 19 = .ok (.iload_n 3, 1) := by decide +kernel
theorem dX8_row_20 : decode cX8_row 20 = .ok (.bipush 40, 2) := by decide +kernel
theorem dX8_row_22 : decode cX8_row 22 = .ok (.if_icmp .le 6, 3) := by decide +kernel
theorem dX8_row_25 : decode cX8_row 25 = .ok (.ldc 52, 2) := by decide +kernel
theorem dX8_row_27 : decode cX8_row 27 = .ok (.ireturn, 1) := by decide +kernel
theorem dX8_row_28 : decode cX8_row 28 = .ok (.iload_n 3, 1) := by decide +kernel
theorem dX8_row_29 : decode cX8_row 29 = .ok (.ifCond .ge 9, 3) := by decide +kernel
theorem dX8_row_32 : decode cX8_row 32 = .ok (.aload_n 0, 1) := by decide +kernel
theorem dX8_row_33 : decode cX8_row 33 = .ok (.iconst 4, 1) := by decide +kernel
theorem dX8_row_34 : decode cX8_row 34 = .ok (.invokevirtual 53, 3) := by decide +kernel
theorem dX8_row_37 : decode cX8_row 37 = .ok (.ireturn, 1) := by decide +kernel
theorem dX8_row_38 : decode cX8_row 38 = .ok (.aload_n 0, 1) := by decide +kernel
theorem dX8_row_39 : decode cX8_row 39 = .ok (.getfield 20, 3) := by decide +kernel
theorem dX8_row_42 : decode cX8_row 42 = .ok (.iload_n 1, 1) := by decide +kernel
theorem dX8_row_43 : decode cX8_row 43 = .ok (.iload_n 2, 1) := by decide +kernel
theorem dX8_row_44 : decode cX8_row 44 = .ok (.iastore, 1) := by decide +kernel
theorem dX8_row_45 : decode cX8_row 45 = .ok (.aload_n 0, 1) := by decide +kernel
theorem dX8_row_46 : decode cX8_row 46 = .ok (.getfield 23, 3) := by decide +kernel
theorem dX8_row_49 : decode cX8_row 49 = .ok (.iload_n 1, 1) := by decide +kernel
theorem dX8_row_50 : decode cX8_row 50 = .ok (.iload_n 3, 1) := by decide +kernel
theorem dX8_row_51 : decode cX8_row 51 = .ok (.iastore, 1) := by decide +kernel
theorem dX8_row_52 : decode cX8_row 52 = .ok (.iconst 0, 1) := by decide +kernel
theorem dX8_row_53 : decode cX8_row 53 = .ok (.istore 4, 2) := by decide +kernel
theorem dX8_row_55 : decode cX8_row 55 = .ok (.iload 4, 2) := by decide +kernel
theorem dX8_row_57 : decode cX8_row 57 = .ok (.iload_n 3, 1) := by decide +kernel
theorem dX8_row_58 : decode cX8_row 58 = .ok (.if_icmp .ge 22, 3) := by decide +kernel
theorem dX8_row_61 : decode cX8_row 61 = .ok (.aload_n 0, 1) := by decide +kernel
theorem dX8_row_62 : decode cX8_row 62 = .ok (.getfield 26, 3) := by decide +kernel
theorem dX8_row_65 : decode cX8_row 65 = .ok (.bipush 40, 2) := by decide +kernel
theorem dX8_row_67 : decode cX8_row 67 = .ok (.iload_n 1, 1) := by decide +kernel
theorem dX8_row_68 : decode cX8_row 68 = .ok (.imul, 1) := by decide +kernel
theorem dX8_row_69 : decode cX8_row 69 = .ok (.iload 4, 2) := by decide +kernel
theorem dX8_row_71 : decode cX8_row 71 = .ok (.iadd, 1) := by decide +kernel
theorem dX8_row_72 : decode cX8_row 72 = .ok (.iconst 0, 1) := by decide +kernel
theorem dX8_row_73 : decode cX8_row 73 = .ok (.iastore, 1) := by decide +kernel
theorem dX8_row_74 : decode cX8_row 74 = .ok (.iinc 4 1, 3) := by decide +kernel
theorem dX8_row_77 : decode cX8_row 77 = .ok (.goto (-22), 3) := by decide +kernel
theorem dX8_row_80 : decode cX8_row 80 = .ok (.aload_n 0, 1) := by decide +kernel
theorem dX8_row_81 : decode cX8_row 81 = .ok (.iload_n 3, 1) := by decide +kernel
theorem dX8_row_82 : decode cX8_row 82 = .ok (.invokevirtual 57, 3) := by decide +kernel
theorem dX8_row_85 : decode cX8_row 85 = .ok (.ireturn, 1) := by decide +kernel
theorem dX8_set_0 : decode cX8_set 0 = .ok (.iload_n 1, 1) := by decide +kernel
theorem dX8_set_1 : decode cX8_set 1 = .ok (.invokestatic 46, 3) := by decide +kernel
theorem dX8_set_4 : decode cX8_set 4 = .ok (.ifCond .ne 6, 3) := by decide +kernel
theorem dX8_set_7 : decode cX8_set 7 = .ok (.ldc 52, 2) := by decide +kernel
theorem dX8_set_9 : decode cX8_set 9 = .ok (.ireturn, 1) := by decide +kernel
theorem dX8_set_10 : decode cX8_set 10 = .ok (.aload_n 0, 1) := by decide +kernel
theorem dX8_set_11 : decode cX8_set 11 = .ok (.getfield 20, 3) := by decide +kernel
theorem dX8_set_14 : decode cX8_set 14 = .ok (.iload_n 1, 1) := by decide +kernel
theorem dX8_set_15 : decode cX8_set 15 = .ok (.iaload, 1) := by decide +kernel
theorem dX8_set_16 : decode cX8_set 16 = .ok (.ldc 19, 2) := by decide +kernel
theorem dX8_set_18 : decode cX8_set 18 = .ok (.if_icmp .ne 9, 3) := by decide +kernel
theorem dX8_set_21 : decode cX8_set 21 = .ok (.aload_n 0, 1) := by decide +kernel
theorem dX8_set_22 : decode cX8_set 22 = .ok (.iconst 1, 1) := by decide +kernel
theorem dX8_set_23 : decode cX8_set 23 = .ok (.invokevirtual 53, 3) := by decide +kernel
theorem dX8_set_26 : decode cX8_set 26 = .ok (.ireturn, 1) := by decide +kernel
theorem dX8_set_27 : decode cX8_set 27 = .ok (.iload_n 2, 1) := by decide +kernel
theorem dX8_set_28 : decode cX8_set 28 = .ok (.i2l, 1) := by decide +kernel
theorem dX8_set_29 : decode cX8_set 29 = .ok (.lconst 0, 1) := by decide +kernel
theorem dX8_set_30 : decode cX8_set 30 = .ok (.aload_n 0, 1) := by decide +kernel
theorem dX8_set_31 : decode cX8_set 31 = .ok (.getfield 23, 3) := by decide +kernel
theorem dX8_set_34 : decode cX8_set 34 = .ok (.iload_n 1, 1) := by decide +kernel
theorem dX8_set_35 : decode cX8_set 35 = .ok (.iaload, 1) := by decide +kernel
theorem dX8_set_36 : decode cX8_set 36 = .ok (.iconst 1, 1) := by decide +kernel
theorem dX8_set_37 : decode cX8_set 37 = .ok (.isub, 1) := by decide +kernel
theorem dX8_set_38 : decode cX8_set 38 = .ok (.i2l, 1) := by decide +kernel
theorem dX8_set_39 : decode cX8_set 39 = .ok (.invokestatic 42, 3) := by decide +kernel
theorem dX8_set_42 : decode cX8_set 42 = .ok (.ifCond .ne 9, 3) := by decide +kernel
theorem dX8_set_45 : decode cX8_set 45 = .ok (.aload_n 0, 1) := by decide +kernel
theorem dX8_set_46 : decode cX8_set 46 = .ok (.iconst 2, 1) := by decide +kernel
theorem dX8_set_47 : decode cX8_set 47 = .ok (.invokevirtual 53, 3) := by decide +kernel
theorem dX8_set_50 : decode cX8_set 50 = .ok (.ireturn, 1) := by decide +kernel
theorem dX8_set_51 : decode cX8_set 51 = .ok (.aload_n 0, 1) := by decide +kernel
theorem dX8_set_52 : decode cX8_set 52 = .ok (.getfield 26, 3) := by decide +kernel
theorem dX8_set_55 : decode cX8_set 55 = .ok (.bipush 40, 2) := by decide +kernel
theorem dX8_set_57 : decode cX8_set 57 = .ok (.iload_n 1, 1) := by decide +kernel
theorem dX8_set_58 : decode cX8_set 58 = .ok (.imul, 1) := by decide +kernel
theorem dX8_set_59 : decode cX8_set 59 = .ok (.iload_n 2, 1) := by decide +kernel
theorem dX8_set_60 : decode cX8_set 60 = .ok (.iadd, 1) := by decide +kernel
theorem dX8_set_61 : decode cX8_set 61 = .ok (.aload_n 0, 1) := by decide +kernel
theorem dX8_set_62 : decode cX8_set 62 = .ok (.getfield 20, 3) := by decide +kernel
theorem dX8_set_65 : decode cX8_set 65 = .ok (.iload_n 1, 1) := by decide +kernel
theorem dX8_set_66 : decode cX8_set 66 = .ok (.iaload, 1) := by decide +kernel
theorem dX8_set_67 : decode cX8_set 67 = .ok (.ifCond .ne 8, 3) := by decide +kernel
theorem dX8_set_70 : decode cX8_set 70 = .ok (.iload_n 3, 1) := by decide +kernel
theorem dX8_set_71 : decode cX8_set 71 = .ok (.i2b, 1) := by decide +kernel
theorem dX8_set_72 : decode cX8_set 72 = .ok (.goto 19, 3) := by decide +kernel
theorem dX8_set_75 : decode cX8_set 75 = .ok (.aload_n 0, 1) := by decide +kernel
theorem dX8_set_76 : decode cX8_set 76 = .ok (.getfield 20, 3) := by decide +kernel
theorem dX8_set_79 : decode cX8_set 79 = .ok (.iload_n 1, 1) := by decide +kernel
theorem dX8_set_80 : decode cX8_set 80 = .ok (.iaload, 1) := by decide +kernel
theorem dX8_set_81 : decode cX8_set 81 = .ok (.iconst 1, 1) := by decide +kernel
theorem dX8_set_82 : decode cX8_set 82 = .ok (.if_icmp .ne 8, 3) := by decide +kernel
theorem dX8_set_85 : decode cX8_set 85 = .ok (.iload_n 3, 1) := by decide +kernel
theorem dX8_set_86 : decode cX8_set 86 = .ok (.i2s, 1) := by decide +kernel
theorem dX8_set_87 : decode cX8_set 87 = .ok (.goto 4, 3) := by decide +kernel
theorem dX8_set_90 : decode cX8_set 90 = .ok (.iload_n 3, 1) := by decide +kernel
theorem dX8_set_91 : decode cX8_set 91 = .ok (.iastore, 1) := by decide +kernel
theorem dX8_set_92 : decode cX8_set 92 = .ok (.aload_n 0, 1) := by decide +kernel
theorem dX8_set_93 : decode cX8_set 93 = .ok (.aload_n 0, 1) := by decide +kernel
theorem dX8_set_94 : decode cX8_set 94 = .ok (.getfield 26, 3) := by decide +kernel
theorem dX8_set_97 : decode cX8_set 97 = .ok (.bipush 40, 2) := by decide +kernel
theorem dX8_set_99 : decode cX8_set 99 = .ok (.iload_n 1, 1) := by decide +kernel
theorem dX8_set_100 : decode cX8_set 100 = .ok (.imul, 1) := by decide +kernel
theorem dX8_set_101 : decode cX8_set 101 = .ok (.iload_n 2, 1) := by decide +kernel
theorem dX8_set_102 : decode cX8_set 102 = .ok (.iadd, 1) := by decide +kernel
theorem dX8_set_103 : decode cX8_set 103 = .ok (.iaload, 1) := by decide +kernel
theorem dX8_set_104 : decode cX8_set 104 = .ok (.invokevirtual 57, 3) := by decide +kernel
theorem dX8_set_107 : decode cX8_set 107 = .ok (.ireturn, 1) := by decide +kernel
theorem dX8_isSpan_0 : decode cX8_isSpan 0 = .ok (.iload_n 2, 1) := by decide +kernel
theorem dX8_isSpan_1 : decode cX8_isSpan 1 = .ok (.ifCond .lt 27, 3) := by decide +kernel
theorem dX8_isSpan_4 : decode cX8_isSpan 4 = .ok (.iload_n 3, 1) := by decide +kernel
theorem dX8_isSpan_5 : decode cX8_isSpan 5 = .ok (.ifCond .lt 23, 3) := by decide +kernel
theorem dX8_isSpan_8 : decode cX8_isSpan 8 = .ok (.iload_n 2, 1) := by decide +kernel
theorem dX8_isSpan_9 : decode cX8_isSpan 9 = .ok (.i2l, 1) := by decide +kernel
theorem dX8_isSpan_10 : decode cX8_isSpan 10 = .ok (.iload_n 3, 1) := by decide +kernel
theorem dX8_isSpan_11 : decode cX8_isSpan 11 = .ok (.i2l, 1) := by decide +kernel
theorem dX8_isSpan_12 : decode cX8_isSpan 12 = .ok (.ladd, 1) := by decide +kernel
theorem dX8_isSpan_13 : decode cX8_isSpan 13 = .ok (.aload_n 0, 1) := by decide +kernel
theorem dX8_isSpan_14 : decode cX8_isSpan 14 = .ok (.getfield 23, 3) := by decide +kernel
theorem dX8_isSpan_17 : decode cX8_isSpan 17 = .ok (.iload_n 1, 1) := by decide +kernel
theorem dX8_isSpan_18 : decode cX8_isSpan 18 = .ok (.iaload, 1) := by decide +kernel
theorem dX8_isSpan_19 : decode cX8_isSpan 19 = .ok (.i2l, 1) := by decide +kernel
theorem dX8_isSpan_20 : decode cX8_isSpan 20 = .ok (.lcmp, 1) := by decide +kernel
theorem dX8_isSpan_21 : decode cX8_isSpan 21 = .ok (.ifCond .gt 7, 3) := by decide +kernel
theorem dX8_isSpan_24 : decode cX8_isSpan 24 = .ok (.iconst 1, 1) := by decide +kernel
theorem dX8_isSpan_25 : decode cX8_isSpan 25 = .ok (.goto 4, 3) := by decide +kernel
theorem dX8_isSpan_28 : decode cX8_isSpan 28 = .ok (.iconst 0, 1) := by decide +kernel
theorem dX8_isSpan_29 : decode cX8_isSpan 29 = .ok (.ireturn, 1) := by decide +kernel
theorem dX8_copy_0 : decode cX8_copy 0 = .ok (.iload_n 1, 1) := by decide +kernel
theorem dX8_copy_1 : decode cX8_copy 1 = .ok (.invokestatic 46, 3) := by decide +kernel
theorem dX8_copy_4 : decode cX8_copy 4 = .ok (.ifCond .eq 10, 3) := by decide +kernel
theorem dX8_copy_7 : decode cX8_copy 7 = .ok (.iload_n 3, 1) := by decide +kernel
theorem dX8_copy_8 : decode cX8_copy 8 = .ok (.invokestatic 46, 3) := by decide +kernel
theorem dX8_copy_11 : decode cX8_copy 11 = .ok (.ifCond .ne 6, 3) := by decide +kernel
theorem dX8_copy_14 : decode cX8_copy 14 = .ok (.ldc 52, 2) := by decide +kernel
theorem dX8_copy_16 : decode cX8_copy 16 = .ok (.ireturn, 1) := by decide +kernel
theorem dX8_copy_17 : decode cX8_copy 17 = .ok (.aload_n 0, 1) := by decide +kernel
theorem dX8_copy_18 : decode cX8_copy 18 = .ok (.getfield 20, 3) := by decide +kernel
theorem dX8_copy_21 : decode cX8_copy 21 = .ok (.iload_n 1, 1) := by decide +kernel
theorem dX8_copy_22 : decode cX8_copy 22 = .ok (.iaload, 1) := by decide +kernel
theorem dX8_copy_23 : decode cX8_copy 23 = .ok (.ldc 19, 2) := by decide +kernel
theorem dX8_copy_25 : decode cX8_copy 25 = .ok (.if_icmp .eq 14, 3) := by decide +kernel
theorem dX8_copy_28 : decode cX8_copy 28 = .ok (.aload_n 0, 1) := by decide +kernel
theorem dX8_copy_29 : decode cX8_copy 29 = .ok (.getfield 20, 3) := by decide +kernel
theorem dX8_copy_32 : decode cX8_copy 32 = .ok (.iload_n 3, 1) := by decide +kernel
theorem dX8_copy_33 : decode cX8_copy 33 = .ok (.iaload, 1) := by decide +kernel
theorem dX8_copy_34 : decode cX8_copy 34 = .ok (.ldc 19, 2) := by decide +kernel
theorem dX8_copy_36 : decode cX8_copy 36 = .ok (.if_icmp .ne 9, 3) := by decide +kernel
theorem dX8_copy_39 : decode cX8_copy 39 = .ok (.aload_n 0, 1) := by decide +kernel
theorem dX8_copy_40 : decode cX8_copy 40 = .ok (.iconst 1, 1) := by decide +kernel
theorem dX8_copy_41 : decode cX8_copy 41 = .ok (.invokevirtual 53, 3) := by decide +kernel
theorem dX8_copy_44 : decode cX8_copy 44 = .ok (.ireturn, 1) := by decide +kernel
theorem dX8_copy_45 : decode cX8_copy 45 = .ok (.aload_n 0, 1) := by decide +kernel
theorem dX8_copy_46 : decode cX8_copy 46 = .ok (.getfield 20, 3) := by decide +kernel
theorem dX8_copy_49 : decode cX8_copy 49 = .ok (.iload_n 1, 1) := by decide +kernel
theorem dX8_copy_50 : decode cX8_copy 50 = .ok (.iaload, 1) := by decide +kernel
theorem dX8_copy_51 : decode cX8_copy 51 = .ok (.aload_n 0, 1) := by decide +kernel
theorem dX8_copy_52 : decode cX8_copy 52 = .ok (.getfield 20, 3) := by decide +kernel
theorem dX8_copy_55 : decode cX8_copy 55 = .ok (.iload_n 3, 1) := by decide +kernel
theorem dX8_copy_56 : decode cX8_copy 56 = .ok (.iaload, 1) := by decide +kernel
theorem dX8_copy_57 : decode cX8_copy 57 = .ok (.if_icmp .eq 9, 3) := by decide +kernel
theorem dX8_copy_60 : decode cX8_copy 60 = .ok (.aload_n 0, 1) := by decide +kernel
theorem dX8_copy_61 : decode cX8_copy 61 = .ok (.iconst 5, 1) := by decide +kernel
theorem dX8_copy_62 : decode cX8_copy 62 = .ok (.invokevirtual 53, 3) := by decide +kernel
theorem dX8_copy_65 : decode cX8_copy 65 = .ok (.ireturn, 1) := by decide +kernel
theorem dX8_copy_66 : decode cX8_copy 66 = .ok (.aload_n 0, 1) := by decide +kernel
theorem dX8_copy_67 : decode cX8_copy 67 = .ok (.iload_n 1, 1) := by decide +kernel
theorem dX8_copy_68 : decode cX8_copy 68 = .ok (.iload_n 2, 1) := by decide +kernel
theorem dX8_copy_69 : decode cX8_copy 69 = .ok (.iload 5, 2) := by decide +kernel
theorem dX8_copy_71 : decode cX8_copy 71 = .ok (.invokevirtual 60, 3) := by decide +kernel
theorem dX8_copy_74 : decode cX8_copy 74 = .ok (.ifCond .eq 15, 3) := by decide +kernel
theorem dX8_copy_77 : decode cX8_copy 77 = .ok (.aload_n 0, 1) := by decide +kernel
theorem dX8_copy_78 : decode cX8_copy 78 = .ok (.iload_n 3, 1) := by decide +kernel
theorem dX8_copy_79 : decode cX8_copy 79 = .ok (.iload 4, 2) := by decide +kernel
theorem dX8_copy_81 : decode cX8_copy 81 = .ok (.iload 5, 2) := by decide +kernel
theorem dX8_copy_83 : decode cX8_copy 83 = .ok (.invokevirtual 60, 3) := by decide +kernel
theorem dX8_copy_86 : decode cX8_copy 86 = .ok (.ifCond .ne 9, 3) := by decide +kernel
theorem dX8_copy_89 : decode cX8_copy 89 = .ok (.aload_n 0, 1) := by decide +kernel
theorem dX8_copy_90 : decode cX8_copy 90 = .ok (.iconst 2, 1) := by decide +kernel
theorem dX8_copy_91 : decode cX8_copy 91 = .ok (.invokevirtual 53, 3) := by decide +kernel
theorem dX8_copy_94 : decode cX8_copy 94 = .ok (.ireturn, 1) := by decide +kernel
theorem dX8_copy_95 : decode cX8_copy 95 = .ok (.iconst 0, 1) := by decide +kernel
theorem dX8_copy_96 : decode cX8_copy 96 = .ok (.istore 6, 2) := by decide +kernel
theorem dX8_copy_98 : decode cX8_copy 98 = .ok (.iload 6, 2) := by decide +kernel
theorem dX8_copy_100 : decode cX8_copy 100 = .ok (.iload 5, 2) := by decide +kernel
theorem dX8_copy_102 : decode cX8_copy 102 = .ok (.if_icmp .ge 63, 3) := by decide +kernel
theorem dX8_copy_105 : decode cX8_copy 105 = .ok (.iload_n 1, 1) := by decide +kernel
theorem dX8_copy_106 : decode cX8_copy 106 = .ok (.iload_n 3, 1) := by decide +kernel
theorem dX8_copy_107 : decode cX8_copy 107 = .ok (.if_icmp .ne 19, 3) := by decide +kernel
theorem dX8_copy_110 : decode cX8_copy 110 = .ok (.iload_n 2, 1) := by decide +kernel
theorem dX8_copy_111 : decode cX8_copy 111 = .ok (.iload 4, 2) := by decide +kernel
theorem dX8_copy_113 : decode cX8_copy 113 = .ok (.if_icmp .ge 13, 3) := by decide +kernel
theorem dX8_copy_116 : decode cX8_copy 116 = .ok (.iload 5, 2) := by decide +kernel
theorem dX8_copy_118 : decode cX8_copy 118 = .ok (.iconst 1, 1) := by decide +kernel
theorem dX8_copy_119 : decode cX8_copy 119 = .ok (.isub, 1) := by decide +kernel
theorem dX8_copy_120 : decode cX8_copy 120 = .ok (.iload 6, 2) := by decide +kernel
theorem dX8_copy_122 : decode cX8_copy 122 = .ok (.isub, 1) := by decide +kernel
theorem dX8_copy_123 : decode cX8_copy 123 = .ok (.goto 5, 3) := by decide +kernel
theorem dX8_copy_126 : decode cX8_copy 126 = .ok (.iload 6, 2) := by decide +kernel
theorem dX8_copy_128 : decode cX8_copy 128 = .ok (.istore 7, 2) := by decide +kernel
theorem dX8_copy_130 : decode cX8_copy 130 = .ok (.aload_n 0, 1) := by decide +kernel
theorem dX8_copy_131 : decode cX8_copy 131 = .ok (.getfield 26, 3) := by decide +kernel
theorem dX8_copy_134 : decode cX8_copy 134 = .ok (.bipush 40, 2) := by decide +kernel
theorem dX8_copy_136 : decode cX8_copy 136 = .ok (.iload_n 3, 1) := by decide +kernel
theorem dX8_copy_137 : decode cX8_copy 137 = .ok (.imul, 1) := by decide +kernel
theorem dX8_copy_138 : decode cX8_copy 138 = .ok (.iload 4, 2) := by decide +kernel
theorem dX8_copy_140 : decode cX8_copy 140 = .ok (.iadd, 1) := by decide +kernel
theorem dX8_copy_141 : decode cX8_copy 141 = .ok (.iload 7, 2) := by decide +kernel
theorem dX8_copy_143 : decode cX8_copy 143 = .ok (.iadd, 1) := by decide +kernel
theorem dX8_copy_144 : decode cX8_copy 144 = .ok (.aload_n 0, 1) := by decide +kernel
theorem dX8_copy_145 : decode cX8_copy 145 = .ok (.getfield 26, 3) := by decide +kernel
theorem dX8_copy_148 : decode cX8_copy 148 = .ok (.bipush 40, 2) := by decide +kernel
theorem dX8_copy_150 : decode cX8_copy 150 = .ok (.iload_n 1, 1) := by decide +kernel
theorem dX8_copy_151 : decode cX8_copy 151 = .ok (.imul, 1) := by decide +kernel
theorem dX8_copy_152 : decode cX8_copy 152 = .ok (.iload_n 2, 1) := by decide +kernel
theorem dX8_copy_153 : decode cX8_copy 153 = .ok (.iadd, 1) := by decide +kernel
theorem dX8_copy_154 : decode cX8_copy 154 = .ok (.iload 7, 2) := by decide +kernel
theorem dX8_copy_156 : decode cX8_copy 156 = .ok (.iadd, 1) := by decide +kernel
theorem dX8_copy_157 : decode cX8_copy 157 = .ok (.iaload, 1) := by decide +kernel
theorem dX8_copy_158 : decode cX8_copy 158 = .ok (.iastore, 1) := by decide +kernel
theorem dX8_copy_159 : decode cX8_copy 159 = .ok (.iinc 6 1, 3) := by decide +kernel
theorem dX8_copy_162 : decode cX8_copy 162 = .ok (.goto (-64), 3) := by decide +kernel
theorem dX8_copy_165 : decode cX8_copy 165 = .ok (.aload_n 0, 1) := by decide +kernel
theorem dX8_copy_166 : decode cX8_copy 166 = .ok (.iload 5, 2) := by decide +kernel
theorem dX8_copy_168 : decode cX8_copy 168 = .ok (.invokevirtual 57, 3) := by decide +kernel
theorem dX8_copy_171 : decode cX8_copy 171 = .ok (.ireturn, 1) := by decide +kernel
theorem dX8_drop_0 : decode cX8_drop 0 = .ok (.iload_n 1, 1) := by decide +kernel
theorem dX8_drop_1 : decode cX8_drop 1 = .ok (.invokestatic 46, 3) := by decide +kernel
theorem dX8_drop_4 : decode cX8_drop 4 = .ok (.ifCond .ne 6, 3) := by decide +kernel
theorem dX8_drop_7 : decode cX8_drop 7 = .ok (.ldc 52, 2) := by decide +kernel
theorem dX8_drop_9 : decode cX8_drop 9 = .ok (.ireturn, 1) := by decide +kernel
theorem dX8_drop_10 : decode cX8_drop 10 = .ok (.aload_n 0, 1) := by decide +kernel
theorem dX8_drop_11 : decode cX8_drop 11 = .ok (.getfield 20, 3) := by decide +kernel
theorem dX8_drop_14 : decode cX8_drop 14 = .ok (.iload_n 1, 1) := by decide +kernel
theorem dX8_drop_15 : decode cX8_drop 15 = .ok (.iaload, 1) := by decide +kernel
theorem dX8_drop_16 : decode cX8_drop 16 = .ok (.ldc 19, 2) := by decide +kernel
theorem dX8_drop_18 : decode cX8_drop 18 = .ok (.if_icmp .ne 9, 3) := by decide +kernel
theorem dX8_drop_21 : decode cX8_drop 21 = .ok (.aload_n 0, 1) := by decide +kernel
theorem dX8_drop_22 : decode cX8_drop 22 = .ok (.iconst 1, 1) := by decide +kernel
theorem dX8_drop_23 : decode cX8_drop 23 = .ok (.invokevirtual 53, 3) := by decide +kernel
theorem dX8_drop_26 : decode cX8_drop 26 = .ok (.ireturn, 1) := by decide +kernel
theorem dX8_drop_27 : decode cX8_drop 27 = .ok (.aload_n 0, 1) := by decide +kernel
theorem dX8_drop_28 : decode cX8_drop 28 = .ok (.getfield 20, 3) := by decide +kernel
theorem dX8_drop_31 : decode cX8_drop 31 = .ok (.iload_n 1, 1) := by decide +kernel
theorem dX8_drop_32 : decode cX8_drop 32 = .ok (.ldc 19, 2) := by decide +kernel
theorem dX8_drop_34 : decode cX8_drop 34 = .ok (.iastore, 1) := by decide +kernel
theorem dX8_drop_35 : decode cX8_drop 35 = .ok (.aload_n 0, 1) := by decide +kernel
theorem dX8_drop_36 : decode cX8_drop 36 = .ok (.aload_n 0, 1) := by decide +kernel
theorem dX8_drop_37 : decode cX8_drop 37 = .ok (.getfield 23, 3) := by decide +kernel
theorem dX8_drop_40 : decode cX8_drop 40 = .ok (.iload_n 1, 1) := by decide +kernel
theorem dX8_drop_41 : decode cX8_drop 41 = .ok (.iaload, 1) := by decide +kernel
theorem dX8_drop_42 : decode cX8_drop 42 = .ok (.invokevirtual 57, 3) := by decide +kernel
theorem dX8_drop_45 : decode cX8_drop 45 = .ok (.ireturn, 1) := by decide +kernel
theorem dX8_feed_0 : decode cX8_feed 0 = .ok (.iload_n 3, 1) := by decide +kernel
theorem dX8_feed_1 : decode cX8_feed 1 = .ok (.i2l, 1) := by decide +kernel
theorem dX8_feed_2 : decode cX8_feed 2 = .ok (.lconst 1, 1) := by decide +kernel
theorem dX8_feed_3 : decode cX8_feed 3 = .ok (.ldc2_w 64, 3) := by decide +kernel
theorem dX8_feed_6 : decode cX8_feed 6 = .ok (.invokestatic 42, 3) := by decide +kernel
theorem dX8_feed_9 : decode cX8_feed 9 = .ok (.ifCond .ne 6, 3) := by decide +kernel
theorem dX8_feed_12 : decode cX8_feed 12 = .ok (.ldc 52, 2) := by decide +kernel
theorem dX8_feed_14 : decode cX8_feed 14 = .ok (.ireturn, 1) := by decide +kernel
theorem dX8_feed_15 : decode cX8_feed 15 = .ok (.aload_n 0, 1) := by decide +kernel
theorem dX8_feed_16 : decode cX8_feed 16 = .ok (.getfield 66, 3) := by decide +kernel
theorem dX8_feed_19 : decode cX8_feed 19 = .ok (.iload_n 3, 1) := by decide +kernel
theorem dX8_feed_20 : decode cX8_feed 20 = .ok (.iadd, 1) := by decide +kernel
theorem dX8_feed_21 : decode cX8_feed 21 = .ok (.sipush 400, 3) := by decide +kernel
theorem dX8_feed_24 : decode cX8_feed 24 = .ok (.if_icmp .le 6, 3) := by decide +kernel
theorem dX8_feed_27 : decode cX8_feed 27 = .ok (.ldc 69, 2) := by decide +kernel
theorem dX8_feed_29 : decode cX8_feed 29 = .ok (.ireturn, 1) := by decide +kernel
theorem dX8_feed_30 : decode cX8_feed 30 = .ok (.iload_n 3, 1) := by decide +kernel
theorem dX8_feed_31 : decode cX8_feed 31 = .ok (.iconst 1, 1) := by decide +kernel
theorem dX8_feed_32 : decode cX8_feed 32 = .ok (.isub, 1) := by decide +kernel
theorem dX8_feed_33 : decode cX8_feed 33 = .ok (.istore 4, 2) := by decide +kernel
theorem dX8_feed_35 : decode cX8_feed 35 = .ok (.iload 4, 2) := by decide +kernel
theorem dX8_feed_37 : decode cX8_feed 37 = .ok (.ifCond .lt 40, 3) := by decide +kernel
theorem dX8_feed_40 : decode cX8_feed 40 = .ok (.aload_n 0, 1) := by decide +kernel
theorem dX8_feed_41 : decode cX8_feed 41 = .ok (.getfield 16, 3) := by decide +kernel
theorem dX8_feed_44 : decode cX8_feed 44 = .ok (.aload_n 0, 1) := by decide +kernel
theorem dX8_feed_45 : decode cX8_feed 45 = .ok (.getfield 66, 3) := by decide +kernel
theorem dX8_feed_48 : decode cX8_feed 48 = .ok (.lload_n 1, 1) := by decide +kernel
theorem dX8_feed_49 : decode cX8_feed 49 = .ok (.bipush 8, 2) := by decide +kernel
theorem dX8_feed_51 : decode cX8_feed 51 = .ok (.iload 4, 2) := by decide +kernel
theorem dX8_feed_53 : decode cX8_feed 53 = .ok (.imul, 1) := by decide +kernel
theorem dX8_feed_54 : decode cX8_feed 54 = .ok (.lshr, 1) := by decide +kernel
theorem dX8_feed_55 : decode cX8_feed 55 = .ok (.ldc2_w 70, 3) := by decide +kernel
theorem dX8_feed_58 : decode cX8_feed 58 = .ok (.land, 1) := by decide +kernel
theorem dX8_feed_59 : decode cX8_feed 59 = .ok (.l2i, 1) := by decide +kernel
theorem dX8_feed_60 : decode cX8_feed 60 = .ok (.iastore, 1) := by decide +kernel
theorem dX8_feed_61 : decode cX8_feed 61 = .ok (.aload_n 0, 1) := by decide +kernel
theorem dX8_feed_62 : decode cX8_feed 62 = .ok (.dup, 1) := by decide +kernel
theorem dX8_feed_63 : decode cX8_feed 63 = .ok (.getfield 66, 3) := by decide +kernel
theorem dX8_feed_66 : decode cX8_feed 66 = .ok (.iconst 1, 1) := by decide +kernel
theorem dX8_feed_67 : decode cX8_feed 67 = .ok (.iadd, 1) := by decide +kernel
theorem dX8_feed_68 : decode cX8_feed 68 = .ok (.putfield 66, 3) := by decide +kernel
theorem dX8_feed_71 : decode cX8_feed 71 = .ok (.iinc 4 (-1), 3) := by decide +kernel
theorem dX8_feed_74 : decode cX8_feed 74 = .ok (.goto (-39), 3) := by decide +kernel
theorem dX8_feed_77 : decode cX8_feed 77 = .ok (.aload_n 0, 1) := by decide +kernel
theorem dX8_feed_78 : decode cX8_feed 78 = .ok (.getfield 66, 3) := by decide +kernel
theorem dX8_feed_81 : decode cX8_feed 81 = .ok (.ireturn, 1) := by decide +kernel
theorem dX8_sort_0 : decode cX8_sort 0 = .ok (.iload_n 0, 1) := by decide +kernel
theorem dX8_sort_1 : decode cX8_sort 1 = .ok (.bipush 97, 2) := by decide +kernel
theorem dX8_sort_3 : decode cX8_sort 3 = .ok (.if_icmp .lt 13, 3) := by decide +kernel
theorem dX8_sort_6 : decode cX8_sort 6 = .ok (.iload_n 0, 1) := by decide +kernel
theorem dX8_sort_7 : decode cX8_sort 7 = .ok (.bipush 122, 2) := by decide +kernel
theorem dX8_sort_9 : decode cX8_sort 9 = .ok (.if_icmp .gt 7, 3) := by decide +kernel
theorem dX8_sort_12 : decode cX8_sort 12 = .ok (.iconst 1, 1) := by decide +kernel
theorem dX8_sort_13 : decode cX8_sort 13 = .ok (.goto 20, 3) := by decide +kernel
theorem dX8_sort_16 : decode cX8_sort 16 = .ok (.iload_n 0, 1) := by decide +kernel
theorem dX8_sort_17 : decode cX8_sort 17 = .ok (.bipush 48, 2) := by decide +kernel
theorem dX8_sort_19 : decode cX8_sort 19 = .ok (.if_icmp .lt 13, 3) := by decide +kernel
theorem dX8_sort_22 : decode cX8_sort 22 = .ok (.iload_n 0, 1) := by decide +kernel
theorem dX8_sort_23 : decode cX8_sort 23 = .ok (.bipush 57, 2) := by decide +kernel
theorem dX8_sort_25 : decode cX8_sort 25 = .ok (.if_icmp .gt 7, 3) := by decide +kernel
theorem dX8_sort_28 : decode cX8_sort 28 = .ok (.iconst 2, 1) := by decide +kernel
theorem dX8_sort_29 : decode cX8_sort 29 = .ok (.goto 4, 3) := by decide +kernel
theorem dX8_sort_32 : decode cX8_sort 32 = .ok (.iconst 0, 1) := by decide +kernel
theorem dX8_sort_33 : decode cX8_sort 33 = .ok (.ireturn, 1) := by decide +kernel
theorem dX8_token_0 : decode cX8_token 0 = .ok (.aload_n 0, 1) := by decide +kernel
theorem dX8_token_1 : decode cX8_token 1 = .ok (.getfield 72, 3) := by decide +kernel
theorem dX8_token_4 : decode cX8_token 4 = .ok (.aload_n 0, 1) := by decide +kernel
theorem dX8_token_5 : decode cX8_token 5 = .ok (.getfield 66, 3) := by decide +kernel
theorem dX8_token_8 : decode cX8_token 8 = .ok (.if_icmp .ge 44, 3) := by decide +kernel
theorem dX8_token_11 : decode cX8_token 11 = .ok (.aload_n 0, 1) := by decide +kernel
theorem dX8_token_12 : decode cX8_token 12 = .ok (.getfield 16, 3) := by decide +kernel
theorem dX8_token_15 : decode cX8_token 15 = .ok (.aload_n 0, 1) := by decide +kernel
theorem dX8_token_16 : decode cX8_token 16 = .ok (.getfield 72, 3) := by decide +kernel
theorem dX8_token_19 : decode cX8_token 19 = .ok (.iaload, 1) := by decide +kernel
theorem dX8_token_20 : decode cX8_token 20 = .ok (.bipush 32, 2) := by decide +kernel
theorem dX8_token_22 : decode cX8_token 22 = .ok (.if_icmp .eq 17, 3) := by decide +kernel
theorem dX8_token_25 : decode cX8_token 25 = .ok (.aload_n 0, 1) := by decide +kernel
theorem dX8_token_26 : decode cX8_token 26 = .ok (.getfield 16, 3) := by decide +kernel
theorem dX8_token_29 : decode cX8_token 29 = .ok (.aload_n 0, 1) := by decide +kernel
theorem dX8_token_30 : decode cX8_token 30 = .ok (.getfield 72, 3) := by decide +kernel
theorem dX8_token_33 : decode cX8_token 33 = .ok (.iaload, 1) := by decide +kernel
theorem dX8_token_34 : decode cX8_token 34 = .ok (.bipush 10, 2) := by decide +kernel
theorem dX8_token_36 : decode cX8_token 36 = .ok (.if_icmp .ne 16, 3) := by decide +kernel
theorem dX8_token_39 : decode cX8_token 39 = .ok (.aload_n 0, 1) := by decide +kernel
theorem dX8_token_40 : decode cX8_token 40 = .ok (.dup, 1) := by decide +kernel
theorem dX8_token_41 : decode cX8_token 41 = .ok (.getfield 72, 3) := by decide +kernel
theorem dX8_token_44 : decode cX8_token 44 = .ok (.iconst 1, 1) := by decide +kernel
theorem dX8_token_45 : decode cX8_token 45 = .ok (.iadd, 1) := by decide +kernel
theorem dX8_token_46 : decode cX8_token 46 = .ok (.putfield 72, 3) := by decide +kernel
theorem dX8_token_49 : decode cX8_token 49 = .ok (.goto (-49), 3) := by decide +kernel
theorem dX8_token_52 : decode cX8_token 52 = .ok (.aload_n 0, 1) := by decide +kernel
theorem dX8_token_53 : decode cX8_token 53 = .ok (.aload_n 0, 1) := by decide +kernel
theorem dX8_token_54 : decode cX8_token 54 = .ok (.getfield 72, 3) := by decide +kernel
theorem dX8_token_57 : decode cX8_token 57 = .ok (.putfield 75, 3) := by decide +kernel
theorem dX8_token_60 : decode cX8_token 60 = .ok (.aload_n 0, 1) := by decide +kernel
theorem dX8_token_61 : decode cX8_token 61 = .ok (.dup, 1) := by decide +kernel
theorem dX8_token_62 : decode cX8_token 62 = .ok (.getfield 72, 3) := by decide +kernel
theorem dX8_token_65 : decode cX8_token 65 = .ok (.aload_n 0, 1) := by decide +kernel
theorem dX8_token_66 : decode cX8_token 66 = .ok (.getfield 72, 3) := by decide +kernel
theorem dX8_token_69 : decode cX8_token 69 = .ok (.aload_n 0, 1) := by decide +kernel
theorem dX8_token_70 : decode cX8_token 70 = .ok (.getfield 66, 3) := by decide +kernel
theorem dX8_token_73 : decode cX8_token 73 = .ok (.if_icmp .ge 7, 3) := by decide +kernel
theorem dX8_token_76 : decode cX8_token 76 = .ok (.iconst 1, 1) := by decide +kernel
theorem dX8_token_77 : decode cX8_token 77 = .ok (.goto 4, 3) := by decide +kernel
theorem dX8_token_80 : decode cX8_token 80 = .ok (.iconst 0, 1) := by decide +kernel
theorem dX8_token_81 : decode cX8_token 81 = .ok (.iadd, 1) := by decide +kernel
theorem dX8_token_82 : decode cX8_token 82 = .ok (.putfield 72, 3) := by decide +kernel
theorem dX8_token_85 : decode cX8_token 85 = .ok (.aload_n 0, 1) := by decide +kernel
theorem dX8_token_86 : decode cX8_token 86 = .ok (.getfield 72, 3) := by decide +kernel
theorem dX8_token_89 : decode cX8_token 89 = .ok (.aload_n 0, 1) := by decide +kernel
theorem dX8_token_90 : decode cX8_token 90 = .ok (.getfield 66, 3) := by decide +kernel
theorem dX8_token_93 : decode cX8_token 93 = .ok (.if_icmp .ge 58, 3) := by decide +kernel
theorem dX8_token_96 : decode cX8_token 96 = .ok (.aload_n 0, 1) := by decide +kernel
theorem dX8_token_97 : decode cX8_token 97 = .ok (.getfield 16, 3) := by decide +kernel
theorem dX8_token_100 : decode cX8_token 100 = .ok (.aload_n 0, 1) := by decide +kernel
theorem dX8_token_101 : decode cX8_token 101 = .ok (.getfield 75, 3) := by decide +kernel
theorem dX8_token_104 : decode cX8_token 104 = .ok (.iaload, 1) := by decide +kernel
theorem dX8_token_105 : decode cX8_token 105 = .ok (.invokestatic 78, 3) := by decide +kernel
theorem dX8_token_108 : decode cX8_token 108 = .ok (.ifCond .le 43, 3) := by decide +kernel
theorem dX8_token_111 : decode cX8_token 111 = .ok (.aload_n 0, 1) := by decide +kernel
theorem dX8_token_112 : decode cX8_token 112 = .ok (.getfield 16, 3) := by decide +kernel
theorem dX8_token_115 : decode cX8_token 115 = .ok (.aload_n 0, 1) := by decide +kernel
theorem dX8_token_116 : decode cX8_token 116 = .ok (.getfield 72, 3) := by decide +kernel
theorem dX8_token_119 : decode cX8_token 119 = .ok (.iaload, 1) := by decide +kernel
theorem dX8_token_120 : decode cX8_token 120 = .ok (.invokestatic 78, 3) := by decide +kernel
theorem dX8_token_123 : decode cX8_token 123 = .ok (.aload_n 0, 1) := by decide +kernel
theorem dX8_token_124 : decode cX8_token 124 = .ok (.getfield 16, 3) := by decide +kernel
theorem dX8_token_127 : decode cX8_token 127 = .ok (.aload_n 0, 1) := by decide +kernel
theorem dX8_token_128 : decode cX8_token 128 = .ok (.getfield 75, 3) := by decide +kernel
theorem dX8_token_131 : decode cX8_token 131 = .ok (.iaload, 1) := by decide +kernel
theorem dX8_token_132 : decode cX8_token 132 = .ok (.invokestatic 78, 3) := by decide +kernel
theorem dX8_token_135 : decode cX8_token 135 = .ok (.if_icmp .ne 16, 3) := by decide +kernel
theorem dX8_token_138 : decode cX8_token 138 = .ok (.aload_n 0, 1) := by decide +kernel
theorem dX8_token_139 : decode cX8_token 139 = .ok (.dup, 1) := by decide +kernel
theorem dX8_token_140 : decode cX8_token 140 = .ok (.getfield 72, 3) := by decide +kernel
theorem dX8_token_143 : decode cX8_token 143 = .ok (.iconst 1, 1) := by decide +kernel
theorem dX8_token_144 : decode cX8_token 144 = .ok (.iadd, 1) := by decide +kernel
theorem dX8_token_145 : decode cX8_token 145 = .ok (.putfield 72, 3) := by decide +kernel
theorem dX8_token_148 : decode cX8_token 148 = .ok (.goto (-63), 3) := by decide +kernel
theorem dX8_token_151 : decode cX8_token 151 = .ok (.aload_n 0, 1) := by decide +kernel
theorem dX8_token_152 : decode cX8_token 152 = .ok (.aload_n 0, 1) := by decide +kernel
theorem dX8_token_153 : decode cX8_token 153 = .ok (.getfield 72, 3) := by decide +kernel
theorem dX8_token_156 : decode cX8_token 156 = .ok (.putfield 81, 3) := by decide +kernel
theorem dX8_token_159 : decode cX8_token 159 = .ok (.return_, 1) := by decide +kernel
theorem dX8_isWord_0 : decode cX8_isWord 0 = .ok (.aload_n 0, 1) := by decide +kernel
theorem dX8_isWord_1 : decode cX8_isWord 1 = .ok (.getfield 81, 3) := by decide +kernel
theorem dX8_isWord_4 : decode cX8_isWord 4 = .ok (.aload_n 0, 1) := by decide +kernel
theorem dX8_isWord_5 : decode cX8_isWord 5 = .ok (.getfield 75, 3) := by decide +kernel
theorem dX8_isWord_8 : decode cX8_isWord 8 = .ok (.isub, 1) := by decide +kernel
theorem dX8_isWord_9 : decode cX8_isWord 9 = .ok (.iload_n 2, 1) := by decide +kernel
theorem dX8_isWord_10 : decode cX8_isWord 10 = .ok (.if_icmp .ne 7, 3) := by decide +kernel
theorem dX8_isWord_13 : decode cX8_isWord 13 = .ok (.iconst 1, 1) := by decide +kernel
theorem dX8_isWord_14 : decode cX8_isWord 14 = .ok (.goto 4, 3) := by decide +kernel
theorem dX8_isWord_17 : decode cX8_isWord 17 = .ok (.iconst 0, 1) := by decide +kernel
theorem dX8_isWord_18 : decode cX8_isWord 18 = .ok (.istore_n 3, 1) := by decide +kernel
theorem dX8_isWord_19 : decode cX8_isWord 19 = .ok (.iconst 0, 1) := by decide +kernel
theorem dX8_isWord_20 : decode cX8_isWord 20 = .ok (.istore 4, 2) := by decide +kernel
theorem dX8_isWord_22 : decode cX8_isWord 22 = .ok (.iload_n 3, 1) := by decide +kernel
theorem dX8_isWord_23 : decode cX8_isWord 23 = .ok (.ifCond .eq 48, 3) := by decide +kernel
theorem dX8_isWord_26 : decode cX8_isWord 26 = .ok (.iload 4, 2) := by decide +kernel
theorem dX8_isWord_28 : decode cX8_isWord 28 = .ok (.iload_n 2, 1) := by decide +kernel
theorem dX8_isWord_29 : decode cX8_isWord 29 = .ok (.if_icmp .ge 42, 3) := by decide +kernel
theorem dX8_isWord_32 : decode cX8_isWord 32 = .ok (.aload_n 0, 1) := by decide +kernel
theorem dX8_isWord_33 : decode cX8_isWord 33 = .ok (.getfield 16, 3) := by decide +kernel
theorem dX8_isWord_36 : decode cX8_isWord 36 = .ok (.aload_n 0, 1) := by decide +kernel
theorem dX8_isWord_37 : decode cX8_isWord 37 = .ok (.getfield 75, 3) := by decide +kernel
theorem dX8_isWord_40 : decode cX8_isWord 40 = .ok (.iload 4, 2) := by decide +kernel
theorem dX8_isWord_42 : decode cX8_isWord 42 = .ok (.iadd, 1) := by decide +kernel
theorem dX8_isWord_43 : decode cX8_isWord 43 = .ok (.iaload, 1) := by decide +kernel
theorem dX8_isWord_44 : decode cX8_isWord 44 = .ok (.bipush 96, 2) := by decide +kernel
theorem dX8_isWord_46 : decode cX8_isWord 46 = .ok (.iload_n 1, 1) := by decide +kernel
theorem dX8_isWord_47 : decode cX8_isWord 47 = .ok (.iconst 5, 1) := by decide +kernel
theorem dX8_isWord_48 : decode cX8_isWord 48 = .ok (.iload 4, 2) := by decide +kernel
theorem dX8_isWord_50 : decode cX8_isWord 50 = .ok (.imul, 1) := by decide +kernel
theorem dX8_isWord_51 : decode cX8_isWord 51 = .ok (.ishr, 1) := by decide +kernel
theorem dX8_isWord_52 : decode cX8_isWord 52 = .ok (.bipush 31, 2) := by decide +kernel
theorem dX8_isWord_54 : decode cX8_isWord 54 = .ok (.iand, 1) := by decide +kernel
theorem dX8_isWord_55 : decode cX8_isWord 55 = .ok (.iadd, 1) := by decide +kernel
theorem dX8_isWord_56 : decode cX8_isWord 56 = .ok (.if_icmp .ne 7, 3) := by decide +kernel
theorem dX8_isWord_59 : decode cX8_isWord 59 = .ok (.iconst 1, 1) := by decide +kernel
theorem dX8_isWord_60 : decode cX8_isWord 60 = .ok (.goto 4, 3) := by decide +kernel
theorem dX8_isWord_63 : decode cX8_isWord 63 = .ok (.iconst 0, 1) := by decide +kernel
theorem dX8_isWord_64 : decode cX8_isWord 64 = .ok (.istore_n 3, 1) := by decide +kernel
theorem dX8_isWord_65 : decode cX8_isWord 65 = .ok (.iinc 4 1, 3) := by decide +kernel
theorem dX8_isWord_68 : decode cX8_isWord 68 = .ok (.goto (-46), 3) := by decide +kernel
theorem dX8_isWord_71 : decode cX8_isWord 71 = .ok (.iload_n 3, 1) := by decide +kernel
theorem dX8_isWord_72 : decode cX8_isWord 72 = .ok (.ireturn, 1) := by decide +kernel
theorem dX8_sortOfWord_0 : decode cX8_sortOfWord 0 = .ok (.aload_n 0, 1) := by decide +kernel
theorem dX8_sortOfWord_1 : decode cX8_sortOfWord 1 = .ok (.sipush 20518, 3) := by decide +kernel
theorem dX8_sortOfWord_4 : decode cX8_sortOfWord 4 = .ok (.iconst 3, 1) := by decide +kernel
theorem dX8_sortOfWord_5 : decode cX8_sortOfWord 5 = .ok (.invokevirtual 84, 3) := by decide +kernel
theorem dX8_sortOfWord_8 : decode cX8_sortOfWord 8 = .ok (.ifCond .eq 7, 3) := by decide +kernel
theorem dX8_sortOfWord_11 : decode cX8_sortOfWord 11 = .ok (.iconst 1, 1) := by decide +kernel
theorem dX8_sortOfWord_12 : decode cX8_sortOfWord 12 = .ok (.goto 63, 3) := by decide +kernel
theorem dX8_sortOfWord_15 : decode cX8_sortOfWord 15 = .ok (.aload_n 0, 1) := by decide +kernel
theorem dX8_sortOfWord_16 : decode cX8_sortOfWord 16 = .ok (.sipush 26082, 3) := by decide +kernel
theorem dX8_sortOfWord_19 : decode cX8_sortOfWord 19 = .ok (.iconst 3, 1) := by decide +kernel
theorem dX8_sortOfWord_20 : decode cX8_sortOfWord 20 = .ok (.invokevirtual 84, 3) := by decide +kernel
theorem dX8_sortOfWord_23 : decode cX8_sortOfWord 23 = .ok (.ifCond .eq 7, 3) := by decide +kernel
theorem dX8_sortOfWord_26 : decode cX8_sortOfWord 26 = .ok (.iconst 2, 1) := by decide +kernel
theorem dX8_sortOfWord_27 : decode cX8_sortOfWord 27 = .ok (.goto 48, 3) := by decide +kernel
theorem dX8_sortOfWord_30 : decode cX8_sortOfWord 30 = .ok (.aload_n 0, 1) := by decide +kernel
theorem dX8_sortOfWord_31 : decode cX8_sortOfWord 31 = .ok (.ldc 88, 2) := by decide +kernel
theorem dX8_sortOfWord_33 : decode cX8_sortOfWord 33 = .ok (.iconst 4, 1) := by decide +kernel
theorem dX8_sortOfWord_34 : decode cX8_sortOfWord 34 = .ok (.invokevirtual 84, 3) := by decide +kernel
theorem dX8_sortOfWord_37 : decode cX8_sortOfWord 37 = .ok (.ifCond .eq 7, 3) := by decide +kernel
theorem dX8_sortOfWord_40 : decode cX8_sortOfWord 40 = .ok (.iconst 4, 1) := by decide +kernel
theorem dX8_sortOfWord_41 : decode cX8_sortOfWord 41 = .ok (.goto 34, 3) := by decide +kernel
theorem dX8_sortOfWord_44 : decode cX8_sortOfWord 44 = .ok (.aload_n 0, 1) := by decide +kernel
theorem dX8_sortOfWord_45 : decode cX8_sortOfWord 45 = .ok (.ldc 89, 2) := by decide +kernel
theorem dX8_sortOfWord_47 : decode cX8_sortOfWord 47 = .ok (.iconst 5, 1) := by decide +kernel
theorem dX8_sortOfWord_48 : decode cX8_sortOfWord 48 = .ok (.invokevirtual 84, 3) := by decide +kernel
theorem dX8_sortOfWord_51 : decode cX8_sortOfWord 51 = .ok (.ifCond .eq 7, 3) := by decide +kernel
theorem dX8_sortOfWord_54 : decode cX8_sortOfWord 54 = .ok (.iconst 3, 1) := by decide +kernel
theorem dX8_sortOfWord_55 : decode cX8_sortOfWord 55 = .ok (.goto 20, 3) := by decide +kernel
theorem dX8_sortOfWord_58 : decode cX8_sortOfWord 58 = .ok (.aload_n 0, 1) := by decide +kernel
theorem dX8_sortOfWord_59 : decode cX8_sortOfWord 59 = .ok (.sipush 24035, 3) := by decide +kernel
theorem dX8_sortOfWord_62 : decode cX8_sortOfWord 62 = .ok (.iconst 3, 1) := by decide +kernel
theorem dX8_sortOfWord_63 : decode cX8_sortOfWord 63 = .ok (.invokevirtual 84, 3) := by decide +kernel
theorem dX8_sortOfWord_66 : decode cX8_sortOfWord 66 = .ok (.ifCond .eq 7, 3) := by decide +kernel
theorem dX8_sortOfWord_69 : decode cX8_sortOfWord 69 = .ok (.iconst 5, 1) := by decide +kernel
theorem dX8_sortOfWord_70 : decode cX8_sortOfWord 70 = .ok (.goto 5, 3) := by decide +kernel
theorem dX8_sortOfWord_73 : decode cX8_sortOfWord 73 = .ok (.ldc 19, 2) := by decide +kernel
theorem dX8_sortOfWord_75 : decode cX8_sortOfWord 75 = .ok (.ireturn, 1) := by decide +kernel
theorem dX8_isSign_0 : decode cX8_isSign 0 = .ok (.aload_n 0, 1) := by decide +kernel
theorem dX8_isSign_1 : decode cX8_isSign 1 = .ok (.getfield 75, 3) := by decide +kernel
theorem dX8_isSign_4 : decode cX8_isSign 4 = .ok (.aload_n 0, 1) := by decide +kernel
theorem dX8_isSign_5 : decode cX8_isSign 5 = .ok (.getfield 66, 3) := by decide +kernel
theorem dX8_isSign_8 : decode cX8_isSign 8 = .ok (.if_icmp .ge 21, 3) := by decide +kernel
theorem dX8_isSign_11 : decode cX8_isSign 11 = .ok (.aload_n 0, 1) := by decide +kernel
theorem dX8_isSign_12 : decode cX8_isSign 12 = .ok (.getfield 16, 3) := by decide +kernel
theorem dX8_isSign_15 : decode cX8_isSign 15 = .ok (.aload_n 0, 1) := by decide +kernel
theorem dX8_isSign_16 : decode cX8_isSign 16 = .ok (.getfield 75, 3) := by decide +kernel
theorem dX8_isSign_19 : decode cX8_isSign 19 = .ok (.iaload, 1) := by decide +kernel
theorem dX8_isSign_20 : decode cX8_isSign 20 = .ok (.bipush 59, 2) := by decide +kernel
theorem dX8_isSign_22 : decode cX8_isSign 22 = .ok (.if_icmp .ne 7, 3) := by decide +kernel
theorem dX8_isSign_25 : decode cX8_isSign 25 = .ok (.iconst 1, 1) := by decide +kernel
theorem dX8_isSign_26 : decode cX8_isSign 26 = .ok (.goto 4, 3) := by decide +kernel
theorem dX8_isSign_29 : decode cX8_isSign 29 = .ok (.iconst 0, 1) := by decide +kernel
theorem dX8_isSign_30 : decode cX8_isSign 30 = .ok (.ireturn, 1) := by decide +kernel
theorem dX8_number_0 : decode cX8_number 0 = .ok (.aload_n 0, 1) := by decide +kernel
theorem dX8_number_1 : decode cX8_number 1 = .ok (.getfield 75, 3) := by decide +kernel
theorem dX8_number_4 : decode cX8_number 4 = .ok (.aload_n 0, 1) := by decide +kernel
theorem dX8_number_5 : decode cX8_number 5 = .ok (.getfield 66, 3) := by decide +kernel
theorem dX8_number_8 : decode cX8_number 8 = .ok (.if_icmp .eq 32, 3) := by decide +kernel
theorem dX8_number_11 : decode cX8_number 11 = .ok (.aload_n 0, 1) := by decide +kernel
theorem dX8_number_12 : decode cX8_number 12 = .ok (.getfield 16, 3) := by decide +kernel
theorem dX8_number_15 : decode cX8_number 15 = .ok (.aload_n 0, 1) := by decide +kernel
theorem dX8_number_16 : decode cX8_number 16 = .ok (.getfield 75, 3) := by decide +kernel
theorem dX8_number_19 : decode cX8_number 19 = .ok (.iaload, 1) := by decide +kernel
theorem dX8_number_20 : decode cX8_number 20 = .ok (.invokestatic 78, 3) := by decide +kernel
theorem dX8_number_23 : decode cX8_number 23 = .ok (.iconst 2, 1) := by decide +kernel
theorem dX8_number_24 : decode cX8_number 24 = .ok (.if_icmp .ne 16, 3) := by decide +kernel
theorem dX8_number_27 : decode cX8_number 27 = .ok (.aload_n 0, 1) := by decide +kernel
theorem dX8_number_28 : decode cX8_number 28 = .ok (.getfield 81, 3) := by decide +kernel
theorem dX8_number_31 : decode cX8_number 31 = .ok (.aload_n 0, 1) := by decide +kernel
theorem dX8_number_32 : decode cX8_number 32 = .ok (.getfield 75, 3) := by decide +kernel
theorem dX8_number_35 : decode cX8_number 35 = .ok (.isub, 1) := by decide +kernel
theorem dX8_number_36 : decode cX8_number 36 = .ok (.iconst 3, 1) := by decide +kernel
theorem dX8_number_37 : decode cX8_number 37 = .ok (.if_icmp .le 11, 3) := by decide +kernel
theorem dX8_number_40 : decode cX8_number 40 = .ok (.aload_n 0, 1) := by decide +kernel
theorem dX8_number_41 : decode cX8_number 41 = .ok (.iconst 1, 1) := by decide +kernel
theorem dX8_number_42 : decode cX8_number 42 = .ok (.putfield 90, 3) := by decide +kernel
theorem dX8_number_45 : decode cX8_number 45 = .ok (.ldc 19, 2) := by decide +kernel
theorem dX8_number_47 : decode cX8_number 47 = .ok (.ireturn, 1) := by decide +kernel
theorem dX8_number_48 : decode cX8_number 48 = .ok (.iconst 0, 1) := by decide +kernel
theorem dX8_number_49 : decode cX8_number 49 = .ok (.istore 4, 2) := by decide +kernel
theorem dX8_number_51 : decode cX8_number 51 = .ok (.aload_n 0, 1) := by decide +kernel
theorem dX8_number_52 : decode cX8_number 52 = .ok (.getfield 75, 3) := by decide +kernel
theorem dX8_number_55 : decode cX8_number 55 = .ok (.istore 5, 2) := by decide +kernel
theorem dX8_number_57 : decode cX8_number 57 = .ok (.iload 5, 2) := by decide +kernel
theorem dX8_number_59 : decode cX8_number 59 = .ok (.aload_n 0, 1) := by decide +kernel
theorem dX8_number_60 : decode cX8_number 60 = .ok (.getfield 81, 3) := by decide +kernel
theorem dX8_number_63 : decode cX8_number 63 = .ok (.if_icmp .ge 27, 3) := by decide +kernel
theorem dX8_number_66 : decode cX8_number 66 = .ok (.bipush 10, 2) := by decide +kernel
theorem dX8_number_68 : decode cX8_number 68 = .ok (.iload 4, 2) := by decide +kernel
theorem dX8_number_70 : decode cX8_number 70 = .ok (.imul, 1) := by decide +kernel
theorem dX8_number_71 : decode cX8_number 71 = .ok (.aload_n 0, 1) := by decide +kernel
theorem dX8_number_72 : decode cX8_number 72 = .ok (.getfield 16, 3) := by decide +kernel
theorem dX8_number_75 : decode cX8_number 75 = .ok (.iload 5, 2) := by decide +kernel
theorem dX8_number_77 : decode cX8_number 77 = .ok (.iaload, 1) := by decide +kernel
theorem dX8_number_78 : decode cX8_number 78 = .ok (.iadd, 1) := by decide +kernel
theorem dX8_number_79 : decode cX8_number 79 = .ok (.bipush 48, 2) := by decide +kernel
theorem dX8_number_81 : decode cX8_number 81 = .ok (.isub, 1) := by decide +kernel
theorem dX8_number_82 : decode cX8_number 82 = .ok (.istore 4, 2) := by decide +kernel
theorem dX8_number_84 : decode cX8_number 84 = .ok (.iinc 5 1, 3) := by decide +kernel
theorem dX8_number_87 : decode cX8_number 87 = .ok (.goto (-30), 3) := by decide +kernel
theorem dX8_number_90 : decode cX8_number 90 = .ok (.iload 4, 2) := by decide +kernel
theorem dX8_number_92 : decode cX8_number 92 = .ok (.i2l, 1) := by decide +kernel
theorem dX8_number_93 : decode cX8_number 93 = .ok (.iload_n 1, 1) := by decide +kernel
theorem dX8_number_94 : decode cX8_number 94 = .ok (.i2l, 1) := by decide +kernel
theorem dX8_number_95 : decode cX8_number 95 = .ok (.iload_n 2, 1) := by decide +kernel
theorem dX8_number_96 : decode cX8_number 96 = .ok (.i2l, 1) := by decide +kernel
theorem dX8_number_97 : decode cX8_number 97 = .ok (.invokestatic 42, 3) := by decide +kernel
theorem dX8_number_100 : decode cX8_number 100 = .ok (.ifCond .eq 15, 3) := by decide +kernel
theorem dX8_number_103 : decode cX8_number 103 = .ok (.iload_n 3, 1) := by decide +kernel
theorem dX8_number_104 : decode cX8_number 104 = .ok (.ifCond .eq 19, 3) := by decide +kernel
theorem dX8_number_107 : decode cX8_number 107 = .ok (.iload 4, 2) := by decide +kernel
theorem dX8_number_109 : decode cX8_number 109 = .ok (.iconst 2, 1) := by decide +kernel
theorem dX8_number_110 : decode cX8_number 110 = .ok (.irem, 1) := by decide +kernel
theorem dX8_number_111 : decode cX8_number 111 = .ok (.iconst 1, 1) := by decide +kernel
theorem dX8_number_112 : decode cX8_number 112 = .ok (.if_icmp .ne 11, 3) := by decide +kernel
theorem dX8_number_115 : decode cX8_number 115 = .ok (.aload_n 0, 1) := by decide +kernel
theorem dX8_number_116 : decode cX8_number 116 = .ok (.iconst 2, 1) := by decide +kernel
theorem dX8_number_117 : decode cX8_number 117 = .ok (.putfield 90, 3) := by decide +kernel
theorem dX8_number_120 : decode cX8_number 120 = .ok (.ldc 19, 2) := by decide +kernel
theorem dX8_number_122 : decode cX8_number 122 = .ok (.ireturn, 1) := by decide +kernel
theorem dX8_number_123 : decode cX8_number 123 = .ok (.aload_n 0, 1) := by decide +kernel
theorem dX8_number_124 : decode cX8_number 124 = .ok (.invokevirtual 93, 3) := by decide +kernel
theorem dX8_number_127 : decode cX8_number 127 = .ok (.iload 4, 2) := by decide +kernel
theorem dX8_number_129 : decode cX8_number 129 = .ok (.ireturn, 1) := by decide +kernel
theorem dX8_readsSign_0 : decode cX8_readsSign 0 = .ok (.aload_n 0, 1) := by decide +kernel
theorem dX8_readsSign_1 : decode cX8_readsSign 1 = .ok (.invokevirtual 96, 3) := by decide +kernel
theorem dX8_readsSign_4 : decode cX8_readsSign 4 = .ok (.ifCond .ne 10, 3) := by decide +kernel
theorem dX8_readsSign_7 : decode cX8_readsSign 7 = .ok (.aload_n 0, 1) := by decide +kernel
theorem dX8_readsSign_8 : decode cX8_readsSign 8 = .ok (.iconst 1, 1) := by decide +kernel
theorem dX8_readsSign_9 : decode cX8_readsSign 9 = .ok (.putfield 90, 3) := by decide +kernel
theorem dX8_readsSign_12 : decode cX8_readsSign 12 = .ok (.iconst 0, 1) := by decide +kernel
theorem dX8_readsSign_13 : decode cX8_readsSign 13 = .ok (.ireturn, 1) := by decide +kernel
theorem dX8_readsSign_14 : decode cX8_readsSign 14 = .ok (.aload_n 0, 1) := by decide +kernel
theorem dX8_readsSign_15 : decode cX8_readsSign 15 = .ok (.invokevirtual 93, 3) := by decide +kernel
theorem dX8_readsSign_18 : decode cX8_readsSign 18 = .ok (.iconst 1, 1) := by decide +kernel
theorem dX8_readsSign_19 : decode cX8_readsSign 19 = .ok (.ireturn, 1) := by decide +kernel
theorem dX8_readsPath_0 : decode cX8_readsPath 0 = .ok (.aload_n 0, 1) := by decide +kernel
theorem dX8_readsPath_1 : decode cX8_readsPath 1 = .ok (.ldc 100, 2) := by decide +kernel
theorem dX8_readsPath_3 : decode cX8_readsPath 3 = .ok (.iconst 4, 1) := by decide +kernel
theorem dX8_readsPath_4 : decode cX8_readsPath 4 = .ok (.invokevirtual 84, 3) := by decide +kernel
theorem dX8_readsPath_7 : decode cX8_readsPath 7 = .ok (.ifCond .ne 10, 3) := by decide +kernel
theorem dX8_readsPath_10 : decode cX8_readsPath 10 = .ok (.aload_n 0, 1) := by decide +kernel
theorem dX8_readsPath_11 : decode cX8_readsPath 11 = .ok (.iconst 1, 1) := by decide +kernel
theorem dX8_readsPath_12 : decode cX8_readsPath 12 = .ok (.putfield 90, 3) := by decide +kernel
theorem dX8_readsPath_15 : decode cX8_readsPath 15 = .ok (.iconst 0, 1) := by decide +kernel
theorem dX8_readsPath_16 : decode cX8_readsPath 16 = .ok (.ireturn, 1) := by decide +kernel
theorem dX8_readsPath_17 : decode cX8_readsPath 17 = .ok (.aload_n 0, 1) := by decide +kernel
theorem dX8_readsPath_18 : decode cX8_readsPath 18 = .ok (.invokevirtual 93, 3) := by decide +kernel
theorem dX8_readsPath_21 : decode cX8_readsPath 21 = .ok (.aload_n 0, 1) := by decide +kernel
theorem dX8_readsPath_22 : decode cX8_readsPath 22 = .ok (.iconst 2, 1) := by decide +kernel
theorem dX8_readsPath_23 : decode cX8_readsPath 23 = .ok (.bipush 30, 2) := by decide +kernel
theorem dX8_readsPath_25 : decode cX8_readsPath 25 = .ok (.iconst 0, 1) := by decide +kernel
theorem dX8_readsPath_26 : decode cX8_readsPath 26 = .ok (.invokevirtual 101, 3) := by decide +kernel
theorem dX8_readsPath_29 : decode cX8_readsPath 29 = .ok (.istore_n 1, 1) := by decide +kernel
theorem dX8_readsPath_30 : decode cX8_readsPath 30 = .ok (.iload_n 1, 1) := by decide +kernel
theorem dX8_readsPath_31 : decode cX8_readsPath 31 = .ok (.ldc 19, 2) := by decide +kernel
theorem dX8_readsPath_33 : decode cX8_readsPath 33 = .ok (.if_icmp .ne 5, 3) := by decide +kernel
theorem dX8_readsPath_36 : decode cX8_readsPath 36 = .ok (.iconst 0, 1) := by decide +kernel
theorem dX8_readsPath_37 : decode cX8_readsPath 37 = .ok (.ireturn, 1) := by decide +kernel
theorem dX8_readsPath_38 : decode cX8_readsPath 38 = .ok (.aload_n 0, 1) := by decide +kernel
theorem dX8_readsPath_39 : decode cX8_readsPath 39 = .ok (.iconst 2, 1) := by decide +kernel
theorem dX8_readsPath_40 : decode cX8_readsPath 40 = .ok (.iload_n 1, 1) := by decide +kernel
theorem dX8_readsPath_41 : decode cX8_readsPath 41 = .ok (.imul, 1) := by decide +kernel
theorem dX8_readsPath_42 : decode cX8_readsPath 42 = .ok (.putfield 105, 3) := by decide +kernel
theorem dX8_readsPath_45 : decode cX8_readsPath 45 = .ok (.aload_n 0, 1) := by decide +kernel
theorem dX8_readsPath_46 : decode cX8_readsPath 46 = .ok (.aload_n 0, 1) := by decide +kernel
theorem dX8_readsPath_47 : decode cX8_readsPath 47 = .ok (.iconst 0, 1) := by decide +kernel
theorem dX8_readsPath_48 : decode cX8_readsPath 48 = .ok (.iconst 2, 1) := by decide +kernel
theorem dX8_readsPath_49 : decode cX8_readsPath 49 = .ok (.iconst 0, 1) := by decide +kernel
theorem dX8_readsPath_50 : decode cX8_readsPath 50 = .ok (.invokevirtual 101, 3) := by decide +kernel
theorem dX8_readsPath_53 : decode cX8_readsPath 53 = .ok (.putfield 108, 3) := by decide +kernel
theorem dX8_readsPath_56 : decode cX8_readsPath 56 = .ok (.aload_n 0, 1) := by decide +kernel
theorem dX8_readsPath_57 : decode cX8_readsPath 57 = .ok (.getfield 108, 3) := by decide +kernel
theorem dX8_readsPath_60 : decode cX8_readsPath 60 = .ok (.ldc 19, 2) := by decide +kernel
theorem dX8_readsPath_62 : decode cX8_readsPath 62 = .ok (.if_icmp .eq 14, 3) := by decide +kernel
theorem dX8_readsPath_65 : decode cX8_readsPath 65 = .ok (.aload_n 0, 1) := by decide +kernel
theorem dX8_readsPath_66 : decode cX8_readsPath 66 = .ok (.invokevirtual 111, 3) := by decide +kernel
theorem dX8_readsPath_69 : decode cX8_readsPath 69 = .ok (.ifCond .eq 7, 3) := by decide +kernel
theorem dX8_readsPath_72 : decode cX8_readsPath 72 = .ok (.iconst 1, 1) := by decide +kernel
theorem dX8_readsPath_73 : decode cX8_readsPath 73 = .ok (.goto 4, 3) := by decide +kernel
theorem dX8_readsPath_76 : decode cX8_readsPath 76 = .ok (.iconst 0, 1) := by decide +kernel
theorem dX8_readsPath_77 : decode cX8_readsPath 77 = .ok (.ireturn, 1) := by decide +kernel
theorem dX8_isTaken_0 : decode cX8_isTaken 0 = .ok (.iconst 0, 1) := by decide +kernel
theorem dX8_isTaken_1 : decode cX8_isTaken 1 = .ok (.istore_n 2, 1) := by decide +kernel
theorem dX8_isTaken_2 : decode cX8_isTaken 2 = .ok (.iconst 0, 1) := by decide +kernel
theorem dX8_isTaken_3 : decode cX8_isTaken 3 = .ok (.istore_n 3, 1) := by decide +kernel
theorem dX8_isTaken_4 : decode cX8_isTaken 4 = .ok (.iload_n 3, 1) := by decide +kernel
theorem dX8_isTaken_5 : decode cX8_isTaken 5 = .ok (.aload_n 0, 1) := by decide +kernel
theorem dX8_isTaken_6 : decode cX8_isTaken 6 = .ok (.getfield 114, 3) := by decide +kernel
theorem dX8_isTaken_9 : decode cX8_isTaken 9 = .ok (.if_icmp .ge 33, 3) := by decide +kernel
theorem dX8_isTaken_12 : decode cX8_isTaken 12 = .ok (.iload_n 2, 1) := by decide +kernel
theorem dX8_isTaken_13 : decode cX8_isTaken 13 = .ok (.ifCond .ne 17, 3) := by decide +kernel
theorem dX8_isTaken_16 : decode cX8_isTaken 16 = .ok (.aload_n 0, 1) := by decide +kernel
theorem dX8_isTaken_17 : decode cX8_isTaken 17 = .ok (.getfield 32, 3) := by decide +kernel
theorem dX8_isTaken_20 : decode cX8_isTaken 20 = .ok (.iconst 4, 1) := by decide +kernel
theorem dX8_isTaken_21 : decode cX8_isTaken 21 = .ok (.iload_n 3, 1) := by decide +kernel
theorem dX8_isTaken_22 : decode cX8_isTaken 22 = .ok (.imul, 1) := by decide +kernel
theorem dX8_isTaken_23 : decode cX8_isTaken 23 = .ok (.iconst 1, 1) := by decide +kernel
theorem dX8_isTaken_24 : decode cX8_isTaken 24 = .ok (.iadd, 1) := by decide +kernel
theorem dX8_isTaken_25 : decode cX8_isTaken 25 = .ok (.iaload, 1) := by decide +kernel
theorem dX8_isTaken_26 : decode cX8_isTaken 26 = .ok (.iload_n 1, 1) := by decide +kernel
theorem dX8_isTaken_27 : decode cX8_isTaken 27 = .ok (.if_icmp .ne 7, 3) := by decide +kernel
theorem dX8_isTaken_30 : decode cX8_isTaken 30 = .ok (.iconst 1, 1) := by decide +kernel
theorem dX8_isTaken_31 : decode cX8_isTaken 31 = .ok (.goto 4, 3) := by decide +kernel
theorem dX8_isTaken_34 : decode cX8_isTaken 34 = .ok (.iconst 0, 1) := by decide +kernel
theorem dX8_isTaken_35 : decode cX8_isTaken 35 = .ok (.istore_n 2, 1) := by decide +kernel
theorem dX8_isTaken_36 : decode cX8_isTaken 36 = .ok (.iinc 3 1, 3) := by decide +kernel
theorem dX8_isTaken_39 : decode cX8_isTaken 39 = .ok (.goto (-35), 3) := by decide +kernel
theorem dX8_isTaken_42 : decode cX8_isTaken 42 = .ok (.iload_n 2, 1) := by decide +kernel
theorem dX8_isTaken_43 : decode cX8_isTaken 43 = .ok (.ireturn, 1) := by decide +kernel
theorem dX8_spotHere_0 : decode cX8_spotHere 0 = .ok (.aload_n 0, 1) := by decide +kernel
theorem dX8_spotHere_1 : decode cX8_spotHere 1 = .ok (.getfield 75, 3) := by decide +kernel
theorem dX8_spotHere_4 : decode cX8_spotHere 4 = .ok (.istore_n 1, 1) := by decide +kernel
theorem dX8_spotHere_5 : decode cX8_spotHere 5 = .ok (.aload_n 0, 1) := by decide +kernel
theorem dX8_spotHere_6 : decode cX8_spotHere 6 = .ok (.getfield 72, 3) := by decide +kernel
theorem dX8_spotHere_9 : decode cX8_spotHere 9 = .ok (.istore_n 2, 1) := by decide +kernel
theorem dX8_spotHere_10 : decode cX8_spotHere 10 = .ok (.aload_n 0, 1) := by decide +kernel
theorem dX8_spotHere_11 : decode cX8_spotHere 11 = .ok (.getfield 81, 3) := by decide +kernel
theorem dX8_spotHere_14 : decode cX8_spotHere 14 = .ok (.istore_n 3, 1) := by decide +kernel
theorem dX8_spotHere_15 : decode cX8_spotHere 15 = .ok (.aload_n 0, 1) := by decide +kernel
theorem dX8_spotHere_16 : decode cX8_spotHere 16 = .ok (.iconst 0, 1) := by decide +kernel
theorem dX8_spotHere_17 : decode cX8_spotHere 17 = .ok (.aload_n 0, 1) := by decide +kernel
theorem dX8_spotHere_18 : decode cX8_spotHere 18 = .ok (.getfield 105, 3) := by decide +kernel
theorem dX8_spotHere_21 : decode cX8_spotHere 21 = .ok (.iconst 1, 1) := by decide +kernel
theorem dX8_spotHere_22 : decode cX8_spotHere 22 = .ok (.invokevirtual 101, 3) := by decide +kernel
theorem dX8_spotHere_25 : decode cX8_spotHere 25 = .ok (.istore 4, 2) := by decide +kernel
theorem dX8_spotHere_27 : decode cX8_spotHere 27 = .ok (.iload 4, 2) := by decide +kernel
theorem dX8_spotHere_29 : decode cX8_spotHere 29 = .ok (.ldc 19, 2) := by decide +kernel
theorem dX8_spotHere_31 : decode cX8_spotHere 31 = .ok (.if_icmp .eq 35, 3) := by decide +kernel
theorem dX8_spotHere_34 : decode cX8_spotHere 34 = .ok (.aload_n 0, 1) := by decide +kernel
theorem dX8_spotHere_35 : decode cX8_spotHere 35 = .ok (.iload 4, 2) := by decide +kernel
theorem dX8_spotHere_37 : decode cX8_spotHere 37 = .ok (.invokevirtual 117, 3) := by decide +kernel
theorem dX8_spotHere_40 : decode cX8_spotHere 40 = .ok (.ifCond .eq 26, 3) := by decide +kernel
theorem dX8_spotHere_43 : decode cX8_spotHere 43 = .ok (.aload_n 0, 1) := by decide +kernel
theorem dX8_spotHere_44 : decode cX8_spotHere 44 = .ok (.iload_n 1, 1) := by decide +kernel
theorem dX8_spotHere_45 : decode cX8_spotHere 45 = .ok (.putfield 75, 3) := by decide +kernel
theorem dX8_spotHere_48 : decode cX8_spotHere 48 = .ok (.aload_n 0, 1) := by decide +kernel
theorem dX8_spotHere_49 : decode cX8_spotHere 49 = .ok (.iload_n 2, 1) := by decide +kernel
theorem dX8_spotHere_50 : decode cX8_spotHere 50 = .ok (.putfield 72, 3) := by decide +kernel
theorem dX8_spotHere_53 : decode cX8_spotHere 53 = .ok (.aload_n 0, 1) := by decide +kernel
theorem dX8_spotHere_54 : decode cX8_spotHere 54 = .ok (.iload_n 3, 1) := by decide +kernel
theorem dX8_spotHere_55 : decode cX8_spotHere 55 = .ok (.putfield 81, 3) := by decide +kernel
theorem dX8_spotHere_58 : decode cX8_spotHere 58 = .ok (.aload_n 0, 1) := by decide +kernel
theorem dX8_spotHere_59 : decode cX8_spotHere 59 = .ok (.iconst 2, 1) := by decide +kernel
theorem dX8_spotHere_60 : decode cX8_spotHere 60 = .ok (.putfield 90, 3) := by decide +kernel
theorem dX8_spotHere_63 : decode cX8_spotHere 63 = .ok (.ldc 19, 2) := by decide +kernel
theorem dX8_spotHere_65 : decode cX8_spotHere 65 = .ok (.ireturn, 1) := by decide +kernel
theorem dX8_spotHere_66 : decode cX8_spotHere 66 = .ok (.iload 4, 2) := by decide +kernel
theorem dX8_spotHere_68 : decode cX8_spotHere 68 = .ok (.ireturn, 1) := by decide +kernel
theorem dX8_readsPerson_0 : decode cX8_readsPerson 0 = .ok (.aload_n 0, 1) := by decide +kernel
theorem dX8_readsPerson_1 : decode cX8_readsPerson 1 = .ok (.ldc 120, 2) := by decide +kernel
theorem dX8_readsPerson_3 : decode cX8_readsPerson 3 = .ok (.bipush 6, 2) := by decide +kernel
theorem dX8_readsPerson_5 : decode cX8_readsPerson 5 = .ok (.invokevirtual 84, 3) := by decide +kernel
theorem dX8_readsPerson_8 : decode cX8_readsPerson 8 = .ok (.ifCond .ne 10, 3) := by decide +kernel
theorem dX8_readsPerson_11 : decode cX8_readsPerson 11 = .ok (.aload_n 0, 1) := by decide +kernel
theorem dX8_readsPerson_12 : decode cX8_readsPerson 12 = .ok (.iconst 1, 1) := by decide +kernel
theorem dX8_readsPerson_13 : decode cX8_readsPerson 13 = .ok (.putfield 90, 3) := by decide +kernel
theorem dX8_readsPerson_16 : decode cX8_readsPerson 16 = .ok (.iconst 0, 1) := by decide +kernel
theorem dX8_readsPerson_17 : decode cX8_readsPerson 17 = .ok (.ireturn, 1) := by decide +kernel
theorem dX8_readsPerson_18 : decode cX8_readsPerson 18 = .ok (.aload_n 0, 1) := by decide +kernel
theorem dX8_readsPerson_19 : decode cX8_readsPerson 19 = .ok (.getfield 114, 3) := by decide +kernel
theorem dX8_readsPerson_22 : decode cX8_readsPerson 22 = .ok (.bipush 6, 2) := by decide +kernel
theorem dX8_readsPerson_24 : decode cX8_readsPerson 24 = .ok (.if_icmp .ne 10, 3) := by decide +kernel
theorem dX8_readsPerson_27 : decode cX8_readsPerson 27 = .ok (.aload_n 0, 1) := by decide +kernel
theorem dX8_readsPerson_28 : decode cX8_readsPerson 28 = .ok (.iconst 3, 1) := by decide +kernel
theorem dX8_readsPerson_29 : decode cX8_readsPerson 29 = .ok (.putfield 90, 3) := by decide +kernel
theorem dX8_readsPerson_32 : decode cX8_readsPerson 32 = .ok (.iconst 0, 1) := by decide +kernel
theorem dX8_readsPerson_33 : decode cX8_readsPerson 33 = .ok (.ireturn, 1) := by decide +kernel
theorem dX8_readsPerson_34 : decode cX8_readsPerson 34 = .ok (.aload_n 0, 1) := by decide +kernel
theorem dX8_readsPerson_35 : decode cX8_readsPerson 35 = .ok (.invokevirtual 93, 3) := by decide +kernel
theorem dX8_readsPerson_38 : decode cX8_readsPerson 38 = .ok (.aload_n 0, 1) := by decide +kernel
theorem dX8_readsPerson_39 : decode cX8_readsPerson 39 = .ok (.invokevirtual 121, 3) := by decide +kernel
theorem dX8_readsPerson_42 : decode cX8_readsPerson 42 = .ok (.istore_n 1, 1) := by decide +kernel
theorem dX8_readsPerson_43 : decode cX8_readsPerson 43 = .ok (.iload_n 1, 1) := by decide +kernel
theorem dX8_readsPerson_44 : decode cX8_readsPerson 44 = .ok (.ldc 19, 2) := by decide +kernel
theorem dX8_readsPerson_46 : decode cX8_readsPerson 46 = .ok (.if_icmp .ne 10, 3) := by decide +kernel
theorem dX8_readsPerson_49 : decode cX8_readsPerson 49 = .ok (.aload_n 0, 1) := by decide +kernel
theorem dX8_readsPerson_50 : decode cX8_readsPerson 50 = .ok (.iconst 1, 1) := by decide +kernel
theorem dX8_readsPerson_51 : decode cX8_readsPerson 51 = .ok (.putfield 90, 3) := by decide +kernel
theorem dX8_readsPerson_54 : decode cX8_readsPerson 54 = .ok (.iconst 0, 1) := by decide +kernel
theorem dX8_readsPerson_55 : decode cX8_readsPerson 55 = .ok (.ireturn, 1) := by decide +kernel
theorem dX8_readsPerson_56 : decode cX8_readsPerson 56 = .ok (.aload_n 0, 1) := by decide +kernel
theorem dX8_readsPerson_57 : decode cX8_readsPerson 57 = .ok (.invokevirtual 93, 3) := by decide +kernel
theorem dX8_readsPerson_60 : decode cX8_readsPerson 60 = .ok (.aload_n 0, 1) := by decide +kernel
theorem dX8_readsPerson_61 : decode cX8_readsPerson 61 = .ok (.invokevirtual 125, 3) := by decide +kernel
theorem dX8_readsPerson_64 : decode cX8_readsPerson 64 = .ok (.istore_n 2, 1) := by decide +kernel
theorem dX8_readsPerson_65 : decode cX8_readsPerson 65 = .ok (.iload_n 2, 1) := by decide +kernel
theorem dX8_readsPerson_66 : decode cX8_readsPerson 66 = .ok (.ldc 19, 2) := by decide +kernel
theorem dX8_readsPerson_68 : decode cX8_readsPerson 68 = .ok (.if_icmp .ne 8, 3) := by decide +kernel
theorem dX8_readsPerson_71 : decode cX8_readsPerson 71 = .ok (.ldc 19, 2) := by decide +kernel
theorem dX8_readsPerson_73 : decode cX8_readsPerson 73 = .ok (.goto 10, 3) := by decide +kernel
theorem dX8_readsPerson_76 : decode cX8_readsPerson 76 = .ok (.aload_n 0, 1) := by decide +kernel
theorem dX8_readsPerson_77 : decode cX8_readsPerson 77 = .ok (.iconst 0, 1) := by decide +kernel
theorem dX8_readsPerson_78 : decode cX8_readsPerson 78 = .ok (.iconst 1, 1) := by decide +kernel
theorem dX8_readsPerson_79 : decode cX8_readsPerson 79 = .ok (.iconst 0, 1) := by decide +kernel
theorem dX8_readsPerson_80 : decode cX8_readsPerson 80 = .ok (.invokevirtual 101, 3) := by decide +kernel
theorem dX8_readsPerson_83 : decode cX8_readsPerson 83 = .ok (.istore_n 3, 1) := by decide +kernel
theorem dX8_readsPerson_84 : decode cX8_readsPerson 84 = .ok (.iload_n 3, 1) := by decide +kernel
theorem dX8_readsPerson_85 : decode cX8_readsPerson 85 = .ok (.ldc 19, 2) := by decide +kernel
theorem dX8_readsPerson_87 : decode cX8_readsPerson 87 = .ok (.if_icmp .ne 8, 3) := by decide +kernel
theorem dX8_readsPerson_90 : decode cX8_readsPerson 90 = .ok (.ldc 19, 2) := by decide +kernel
theorem dX8_readsPerson_92 : decode cX8_readsPerson 92 = .ok (.goto 13, 3) := by decide +kernel
theorem dX8_readsPerson_95 : decode cX8_readsPerson 95 = .ok (.aload_n 0, 1) := by decide +kernel
theorem dX8_readsPerson_96 : decode cX8_readsPerson 96 = .ok (.iconst 0, 1) := by decide +kernel
theorem dX8_readsPerson_97 : decode cX8_readsPerson 97 = .ok (.aload_n 0, 1) := by decide +kernel
theorem dX8_readsPerson_98 : decode cX8_readsPerson 98 = .ok (.getfield 105, 3) := by decide +kernel
theorem dX8_readsPerson_101 : decode cX8_readsPerson 101 = .ok (.iconst 1, 1) := by decide +kernel
theorem dX8_readsPerson_102 : decode cX8_readsPerson 102 = .ok (.invokevirtual 101, 3) := by decide +kernel
theorem dX8_readsPerson_105 : decode cX8_readsPerson 105 = .ok (.istore 4, 2) := by decide +kernel
theorem dX8_readsPerson_107 : decode cX8_readsPerson 107 = .ok (.iload 4, 2) := by decide +kernel
theorem dX8_readsPerson_109 : decode cX8_readsPerson 109 = .ok (.ldc 19, 2) := by decide +kernel
theorem dX8_readsPerson_111 : decode cX8_readsPerson 111 = .ok (.if_icmp .ne 5, 3) := by decide +kernel
theorem dX8_readsPerson_114 : decode cX8_readsPerson 114 = .ok (.iconst 0, 1) := by decide +kernel
theorem dX8_readsPerson_115 : decode cX8_readsPerson 115 = .ok (.ireturn, 1) := by decide +kernel
theorem dX8_readsPerson_116 : decode cX8_readsPerson 116 = .ok (.aload_n 0, 1) := by decide +kernel
theorem dX8_readsPerson_117 : decode cX8_readsPerson 117 = .ok (.getfield 32, 3) := by decide +kernel
theorem dX8_readsPerson_120 : decode cX8_readsPerson 120 = .ok (.iconst 4, 1) := by decide +kernel
theorem dX8_readsPerson_121 : decode cX8_readsPerson 121 = .ok (.aload_n 0, 1) := by decide +kernel
theorem dX8_readsPerson_122 : decode cX8_readsPerson 122 = .ok (.getfield 114, 3) := by decide +kernel
theorem dX8_readsPerson_125 : decode cX8_readsPerson 125 = .ok (.imul, 1) := by decide +kernel
theorem dX8_readsPerson_126 : decode cX8_readsPerson 126 = .ok (.iload_n 1, 1) := by decide +kernel
theorem dX8_readsPerson_127 : decode cX8_readsPerson 127 = .ok (.iastore, 1) := by decide +kernel
theorem dX8_readsPerson_128 : decode cX8_readsPerson 128 = .ok (.aload_n 0, 1) := by decide +kernel
theorem dX8_readsPerson_129 : decode cX8_readsPerson 129 = .ok (.getfield 32, 3) := by decide +kernel
theorem dX8_readsPerson_132 : decode cX8_readsPerson 132 = .ok (.iconst 4, 1) := by decide +kernel
theorem dX8_readsPerson_133 : decode cX8_readsPerson 133 = .ok (.aload_n 0, 1) := by decide +kernel
theorem dX8_readsPerson_134 : decode cX8_readsPerson 134 = .ok (.getfield 114, 3) := by decide +kernel
theorem dX8_readsPerson_137 : decode cX8_readsPerson 137 = .ok (.imul, 1) := by decide +kernel
theorem dX8_readsPerson_138 : decode cX8_readsPerson 138 = .ok (.iconst 1, 1) := by decide +kernel
theorem dX8_readsPerson_139 : decode cX8_readsPerson 139 = .ok (.iadd, 1) := by decide +kernel
theorem dX8_readsPerson_140 : decode cX8_readsPerson 140 = .ok (.iload_n 2, 1) := by decide +kernel
theorem dX8_readsPerson_141 : decode cX8_readsPerson 141 = .ok (.iastore, 1) := by decide +kernel
theorem dX8_readsPerson_142 : decode cX8_readsPerson 142 = .ok (.aload_n 0, 1) := by decide +kernel
theorem dX8_readsPerson_143 : decode cX8_readsPerson 143 = .ok (.getfield 32, 3) := by decide +kernel
theorem dX8_readsPerson_146 : decode cX8_readsPerson 146 = .ok (.iconst 4, 1) := by decide +kernel
theorem dX8_readsPerson_147 : decode cX8_readsPerson 147 = .ok (.aload_n 0, 1) := by decide +kernel
theorem dX8_readsPerson_148 : decode cX8_readsPerson 148 = .ok (.getfield 114, 3) := by decide +kernel
theorem dX8_readsPerson_151 : decode cX8_readsPerson 151 = .ok (.imul, 1) := by decide +kernel
theorem dX8_readsPerson_152 : decode cX8_readsPerson 152 = .ok (.iconst 2, 1) := by decide +kernel
theorem dX8_readsPerson_153 : decode cX8_readsPerson 153 = .ok (.iadd, 1) := by decide +kernel
theorem dX8_readsPerson_154 : decode cX8_readsPerson 154 = .ok (.iload_n 3, 1) := by decide +kernel
theorem dX8_readsPerson_155 : decode cX8_readsPerson 155 = .ok (.iastore, 1) := by decide +kernel
theorem dX8_readsPerson_156 : decode cX8_readsPerson 156 = .ok (.aload_n 0, 1) := by decide +kernel
theorem dX8_readsPerson_157 : decode cX8_readsPerson 157 = .ok (.getfield 32, 3) := by decide +kernel
theorem dX8_readsPerson_160 : decode cX8_readsPerson 160 = .ok (.iconst 4, 1) := by decide +kernel
theorem dX8_readsPerson_161 : decode cX8_readsPerson 161 = .ok (.aload_n 0, 1) := by decide +kernel
theorem dX8_readsPerson_162 : decode cX8_readsPerson 162 = .ok (.getfield 114, 3) := by decide +kernel
theorem dX8_readsPerson_165 : decode cX8_readsPerson 165 = .ok (.imul, 1) := by decide +kernel
theorem dX8_readsPerson_166 : decode cX8_readsPerson 166 = .ok (.iconst 3, 1) := by decide +kernel
theorem dX8_readsPerson_167 : decode cX8_readsPerson 167 = .ok (.iadd, 1) := by decide +kernel
theorem dX8_readsPerson_168 : decode cX8_readsPerson 168 = .ok (.iload 4, 2) := by decide +kernel
theorem dX8_readsPerson_170 : decode cX8_readsPerson 170 = .ok (.iastore, 1) := by decide +kernel
theorem dX8_readsPerson_171 : decode cX8_readsPerson 171 = .ok (.aload_n 0, 1) := by decide +kernel
theorem dX8_readsPerson_172 : decode cX8_readsPerson 172 = .ok (.dup, 1) := by decide +kernel
theorem dX8_readsPerson_173 : decode cX8_readsPerson 173 = .ok (.getfield 114, 3) := by decide +kernel
theorem dX8_readsPerson_176 : decode cX8_readsPerson 176 = .ok (.iconst 1, 1) := by decide +kernel
theorem dX8_readsPerson_177 : decode cX8_readsPerson 177 = .ok (.iadd, 1) := by decide +kernel
theorem dX8_readsPerson_178 : decode cX8_readsPerson 178 = .ok (.putfield 114, 3) := by decide +kernel
theorem dX8_readsPerson_181 : decode cX8_readsPerson 181 = .ok (.aload_n 0, 1) := by decide +kernel
theorem dX8_readsPerson_182 : decode cX8_readsPerson 182 = .ok (.invokevirtual 111, 3) := by decide +kernel
theorem dX8_readsPerson_185 : decode cX8_readsPerson 185 = .ok (.ireturn, 1) := by decide +kernel
theorem dX8_readsAll_0 : decode cX8_readsAll 0 = .ok (.aload_n 0, 1) := by decide +kernel
theorem dX8_readsAll_1 : decode cX8_readsAll 1 = .ok (.iconst 0, 1) := by decide +kernel
theorem dX8_readsAll_2 : decode cX8_readsAll 2 = .ok (.putfield 72, 3) := by decide +kernel
theorem dX8_readsAll_5 : decode cX8_readsAll 5 = .ok (.aload_n 0, 1) := by decide +kernel
theorem dX8_readsAll_6 : decode cX8_readsAll 6 = .ok (.iconst 0, 1) := by decide +kernel
theorem dX8_readsAll_7 : decode cX8_readsAll 7 = .ok (.putfield 114, 3) := by decide +kernel
theorem dX8_readsAll_10 : decode cX8_readsAll 10 = .ok (.aload_n 0, 1) := by decide +kernel
theorem dX8_readsAll_11 : decode cX8_readsAll 11 = .ok (.invokevirtual 93, 3) := by decide +kernel
theorem dX8_readsAll_14 : decode cX8_readsAll 14 = .ok (.aload_n 0, 1) := by decide +kernel
theorem dX8_readsAll_15 : decode cX8_readsAll 15 = .ok (.invokevirtual 128, 3) := by decide +kernel
theorem dX8_readsAll_18 : decode cX8_readsAll 18 = .ok (.ifCond .ne 5, 3) := by decide +kernel
theorem dX8_readsAll_21 : decode cX8_readsAll 21 = .ok (.iconst 0, 1) := by decide +kernel
theorem dX8_readsAll_22 : decode cX8_readsAll 22 = .ok (.ireturn, 1) := by decide +kernel
theorem dX8_readsAll_23 : decode cX8_readsAll 23 = .ok (.aload_n 0, 1) := by decide +kernel
theorem dX8_readsAll_24 : decode cX8_readsAll 24 = .ok (.getfield 75, 3) := by decide +kernel
theorem dX8_readsAll_27 : decode cX8_readsAll 27 = .ok (.aload_n 0, 1) := by decide +kernel
theorem dX8_readsAll_28 : decode cX8_readsAll 28 = .ok (.getfield 66, 3) := by decide +kernel
theorem dX8_readsAll_31 : decode cX8_readsAll 31 = .ok (.if_icmp .ge 12, 3) := by decide +kernel
theorem dX8_readsAll_34 : decode cX8_readsAll 34 = .ok (.aload_n 0, 1) := by decide +kernel
theorem dX8_readsAll_35 : decode cX8_readsAll 35 = .ok (.invokevirtual 131, 3) := by decide +kernel
theorem dX8_readsAll_38 : decode cX8_readsAll 38 = .ok (.ifCond .ne (-15), 3) := by decide +kernel
theorem dX8_readsAll_41 : decode cX8_readsAll 41 = .ok (.iconst 0, 1) := by decide +kernel
theorem dX8_readsAll_42 : decode cX8_readsAll 42 = .ok (.ireturn, 1) := by decide +kernel
theorem dX8_readsAll_43 : decode cX8_readsAll 43 = .ok (.iconst 1, 1) := by decide +kernel
theorem dX8_readsAll_44 : decode cX8_readsAll 44 = .ok (.ireturn, 1) := by decide +kernel
theorem dX8_path_0 : decode cX8_path 0 = .ok (.aload_n 0, 1) := by decide +kernel
theorem dX8_path_1 : decode cX8_path 1 = .ok (.invokevirtual 134, 3) := by decide +kernel
theorem dX8_path_4 : decode cX8_path 4 = .ok (.istore_n 1, 1) := by decide +kernel
theorem dX8_path_5 : decode cX8_path 5 = .ok (.aload_n 0, 1) := by decide +kernel
theorem dX8_path_6 : decode cX8_path 6 = .ok (.getfield 75, 3) := by decide +kernel
theorem dX8_path_9 : decode cX8_path 9 = .ok (.istore_n 2, 1) := by decide +kernel
theorem dX8_path_10 : decode cX8_path 10 = .ok (.aload_n 0, 1) := by decide +kernel
theorem dX8_path_11 : decode cX8_path 11 = .ok (.iconst 0, 1) := by decide +kernel
theorem dX8_path_12 : decode cX8_path 12 = .ok (.putfield 66, 3) := by decide +kernel
theorem dX8_path_15 : decode cX8_path 15 = .ok (.iload_n 1, 1) := by decide +kernel
theorem dX8_path_16 : decode cX8_path 16 = .ok (.ifCond .ne 8, 3) := by decide +kernel
theorem dX8_path_19 : decode cX8_path 19 = .ok (.ldc 137, 2) := by decide +kernel
theorem dX8_path_21 : decode cX8_path 21 = .ok (.iload_n 2, 1) := by decide +kernel
theorem dX8_path_22 : decode cX8_path 22 = .ok (.isub, 1) := by decide +kernel
theorem dX8_path_23 : decode cX8_path 23 = .ok (.ireturn, 1) := by decide +kernel
theorem dX8_path_24 : decode cX8_path 24 = .ok (.aload_n 0, 1) := by decide +kernel
theorem dX8_path_25 : decode cX8_path 25 = .ok (.getfield 7, 3) := by decide +kernel
theorem dX8_path_28 : decode cX8_path 28 = .ok (.iconst 0, 1) := by decide +kernel
theorem dX8_path_29 : decode cX8_path 29 = .ok (.iconst 1, 1) := by decide +kernel
theorem dX8_path_30 : decode cX8_path 30 = .ok (.iastore, 1) := by decide +kernel
theorem dX8_path_31 : decode cX8_path 31 = .ok (.aload_n 0, 1) := by decide +kernel
theorem dX8_path_32 : decode cX8_path 32 = .ok (.getfield 7, 3) := by decide +kernel
theorem dX8_path_35 : decode cX8_path 35 = .ok (.iconst 1, 1) := by decide +kernel
theorem dX8_path_36 : decode cX8_path 36 = .ok (.aload_n 0, 1) := by decide +kernel
theorem dX8_path_37 : decode cX8_path 37 = .ok (.getfield 105, 3) := by decide +kernel
theorem dX8_path_40 : decode cX8_path 40 = .ok (.iastore, 1) := by decide +kernel
theorem dX8_path_41 : decode cX8_path 41 = .ok (.aload_n 0, 1) := by decide +kernel
theorem dX8_path_42 : decode cX8_path 42 = .ok (.getfield 7, 3) := by decide +kernel
theorem dX8_path_45 : decode cX8_path 45 = .ok (.iconst 2, 1) := by decide +kernel
theorem dX8_path_46 : decode cX8_path 46 = .ok (.aload_n 0, 1) := by decide +kernel
theorem dX8_path_47 : decode cX8_path 47 = .ok (.getfield 108, 3) := by decide +kernel
theorem dX8_path_50 : decode cX8_path 50 = .ok (.iastore, 1) := by decide +kernel
theorem dX8_path_51 : decode cX8_path 51 = .ok (.aload_n 0, 1) := by decide +kernel
theorem dX8_path_52 : decode cX8_path 52 = .ok (.getfield 7, 3) := by decide +kernel
theorem dX8_path_55 : decode cX8_path 55 = .ok (.iconst 3, 1) := by decide +kernel
theorem dX8_path_56 : decode cX8_path 56 = .ok (.aload_n 0, 1) := by decide +kernel
theorem dX8_path_57 : decode cX8_path 57 = .ok (.getfield 114, 3) := by decide +kernel
theorem dX8_path_60 : decode cX8_path 60 = .ok (.iastore, 1) := by decide +kernel
theorem dX8_path_61 : decode cX8_path 61 = .ok (.aload_n 0, 1) := by decide +kernel
theorem dX8_path_62 : decode cX8_path 62 = .ok (.getfield 7, 3) := by decide +kernel
theorem dX8_path_65 : decode cX8_path 65 = .ok (.iconst 4, 1) := by decide +kernel
theorem dX8_path_66 : decode cX8_path 66 = .ok (.iconst 0, 1) := by decide +kernel
theorem dX8_path_67 : decode cX8_path 67 = .ok (.iastore, 1) := by decide +kernel
theorem dX8_path_68 : decode cX8_path 68 = .ok (.aload_n 0, 1) := by decide +kernel
theorem dX8_path_69 : decode cX8_path 69 = .ok (.getfield 7, 3) := by decide +kernel
theorem dX8_path_72 : decode cX8_path 72 = .ok (.iconst 5, 1) := by decide +kernel
theorem dX8_path_73 : decode cX8_path 73 = .ok (.iconst 0, 1) := by decide +kernel
theorem dX8_path_74 : decode cX8_path 74 = .ok (.iastore, 1) := by decide +kernel
theorem dX8_path_75 : decode cX8_path 75 = .ok (.aload_n 0, 1) := by decide +kernel
theorem dX8_path_76 : decode cX8_path 76 = .ok (.getfield 7, 3) := by decide +kernel
theorem dX8_path_79 : decode cX8_path 79 = .ok (.bipush 6, 2) := by decide +kernel
theorem dX8_path_81 : decode cX8_path 81 = .ok (.iconst 0, 1) := by decide +kernel
theorem dX8_path_82 : decode cX8_path 82 = .ok (.iastore, 1) := by decide +kernel
theorem dX8_path_83 : decode cX8_path 83 = .ok (.iconst 0, 1) := by decide +kernel
theorem dX8_path_84 : decode cX8_path 84 = .ok (.istore_n 3, 1) := by decide +kernel
theorem dX8_path_85 : decode cX8_path 85 = .ok (.iload_n 3, 1) := by decide +kernel
theorem dX8_path_86 : decode cX8_path 86 = .ok (.aload_n 0, 1) := by decide +kernel
theorem dX8_path_87 : decode cX8_path 87 = .ok (.getfield 114, 3) := by decide +kernel
theorem dX8_path_90 : decode cX8_path 90 = .ok (.if_icmp .ge 96, 3) := by decide +kernel
theorem dX8_path_93 : decode cX8_path 93 = .ok (.aload_n 0, 1) := by decide +kernel
theorem dX8_path_94 : decode cX8_path 94 = .ok (.getfield 7, 3) := by decide +kernel
theorem dX8_path_97 : decode cX8_path 97 = .ok (.bipush 19, 2) := by decide +kernel
theorem dX8_path_99 : decode cX8_path 99 = .ok (.iload_n 3, 1) := by decide +kernel
theorem dX8_path_100 : decode cX8_path 100 = .ok (.iadd, 1) := by decide +kernel
theorem dX8_path_101 : decode cX8_path 101 = .ok (.aload_n 0, 1) := by decide +kernel
theorem dX8_path_102 : decode cX8_path 102 = .ok (.getfield 32, 3) := by decide +kernel
theorem dX8_path_105 : decode cX8_path 105 = .ok (.iconst 4, 1) := by decide +kernel
theorem dX8_path_106 : decode cX8_path 106 = .ok (.iload_n 3, 1) := by decide +kernel
theorem dX8_path_107 : decode cX8_path 107 = .ok (.imul, 1) := by decide +kernel
theorem dX8_path_108 : decode cX8_path 108 = .ok (.iaload, 1) := by decide +kernel
theorem dX8_path_109 : decode cX8_path 109 = .ok (.iastore, 1) := by decide +kernel
theorem dX8_path_110 : decode cX8_path 110 = .ok (.aload_n 0, 1) := by decide +kernel
theorem dX8_path_111 : decode cX8_path 111 = .ok (.getfield 7, 3) := by decide +kernel
theorem dX8_path_114 : decode cX8_path 114 = .ok (.bipush 7, 2) := by decide +kernel
theorem dX8_path_116 : decode cX8_path 116 = .ok (.iload_n 3, 1) := by decide +kernel
theorem dX8_path_117 : decode cX8_path 117 = .ok (.iadd, 1) := by decide +kernel
theorem dX8_path_118 : decode cX8_path 118 = .ok (.aload_n 0, 1) := by decide +kernel
theorem dX8_path_119 : decode cX8_path 119 = .ok (.getfield 32, 3) := by decide +kernel
theorem dX8_path_122 : decode cX8_path 122 = .ok (.iconst 4, 1) := by decide +kernel
theorem dX8_path_123 : decode cX8_path 123 = .ok (.iload_n 3, 1) := by decide +kernel
theorem dX8_path_124 : decode cX8_path 124 = .ok (.imul, 1) := by decide +kernel
theorem dX8_path_125 : decode cX8_path 125 = .ok (.iconst 1, 1) := by decide +kernel
theorem dX8_path_126 : decode cX8_path 126 = .ok (.iadd, 1) := by decide +kernel
theorem dX8_path_127 : decode cX8_path 127 = .ok (.iaload, 1) := by decide +kernel
theorem dX8_path_128 : decode cX8_path 128 = .ok (.iastore, 1) := by decide +kernel
theorem dX8_path_129 : decode cX8_path 129 = .ok (.aload_n 0, 1) := by decide +kernel
theorem dX8_path_130 : decode cX8_path 130 = .ok (.getfield 7, 3) := by decide +kernel
theorem dX8_path_133 : decode cX8_path 133 = .ok (.bipush 6, 2) := by decide +kernel
theorem dX8_path_135 : decode cX8_path 135 = .ok (.dup2, 1) := by decide +kernel
theorem dX8_path_136 : decode cX8_path 136 = .ok (.iaload, 1) := by decide +kernel
theorem dX8_path_137 : decode cX8_path 137 = .ok (.aload_n 0, 1) := by decide +kernel
theorem dX8_path_138 : decode cX8_path 138 = .ok (.getfield 32, 3) := by decide +kernel
theorem dX8_path_141 : decode cX8_path 141 = .ok (.iconst 4, 1) := by decide +kernel
theorem dX8_path_142 : decode cX8_path 142 = .ok (.iload_n 3, 1) := by decide +kernel
theorem dX8_path_143 : decode cX8_path 143 = .ok (.imul, 1) := by decide +kernel
theorem dX8_path_144 : decode cX8_path 144 = .ok (.iconst 2, 1) := by decide +kernel
theorem dX8_path_145 : decode cX8_path 145 = .ok (.iadd, 1) := by decide +kernel
theorem dX8_path_146 : decode cX8_path 146 = .ok (.iaload, 1) := by decide +kernel
theorem dX8_path_147 : decode cX8_path 147 = .ok (.iload_n 3, 1) := by decide +kernel
theorem dX8_path_148 : decode cX8_path 148 = .ok (.ishl, 1) := by decide +kernel
theorem dX8_path_149 : decode cX8_path 149 = .ok (.ior, 1) := by decide +kernel
theorem dX8_path_150 : decode cX8_path 150 = .ok (.iastore, 1) := by decide +kernel
theorem dX8_path_151 : decode cX8_path 151 = .ok (.aload_n 0, 1) := by decide +kernel
theorem dX8_path_152 : decode cX8_path 152 = .ok (.getfield 7, 3) := by decide +kernel
theorem dX8_path_155 : decode cX8_path 155 = .ok (.bipush 25, 2) := by decide +kernel
theorem dX8_path_157 : decode cX8_path 157 = .ok (.iload_n 3, 1) := by decide +kernel
theorem dX8_path_158 : decode cX8_path 158 = .ok (.iadd, 1) := by decide +kernel
theorem dX8_path_159 : decode cX8_path 159 = .ok (.aload_n 0, 1) := by decide +kernel
theorem dX8_path_160 : decode cX8_path 160 = .ok (.getfield 32, 3) := by decide +kernel
theorem dX8_path_163 : decode cX8_path 163 = .ok (.iconst 4, 1) := by decide +kernel
theorem dX8_path_164 : decode cX8_path 164 = .ok (.iload_n 3, 1) := by decide +kernel
theorem dX8_path_165 : decode cX8_path 165 = .ok (.imul, 1) := by decide +kernel
theorem dX8_path_166 : decode cX8_path 166 = .ok (.iconst 3, 1) := by decide +kernel
theorem dX8_path_167 : decode cX8_path 167 = .ok (.iadd, 1) := by decide +kernel
theorem dX8_path_168 : decode cX8_path 168 = .ok (.iaload, 1) := by decide +kernel
theorem dX8_path_169 : decode cX8_path 169 = .ok (.iastore, 1) := by decide +kernel
theorem dX8_path_170 : decode cX8_path 170 = .ok (.aload_n 0, 1) := by decide +kernel
theorem dX8_path_171 : decode cX8_path 171 = .ok (.getfield 7, 3) := by decide +kernel
theorem dX8_path_174 : decode cX8_path 174 = .ok (.bipush 13, 2) := by decide +kernel
theorem dX8_path_176 : decode cX8_path 176 = .ok (.iload_n 3, 1) := by decide +kernel
theorem dX8_path_177 : decode cX8_path 177 = .ok (.iadd, 1) := by decide +kernel
theorem dX8_path_178 : decode cX8_path 178 = .ok (.iload_n 3, 1) := by decide +kernel
theorem dX8_path_179 : decode cX8_path 179 = .ok (.iastore, 1) := by decide +kernel
theorem dX8_path_180 : decode cX8_path 180 = .ok (.iinc 3 1, 3) := by decide +kernel
theorem dX8_path_183 : decode cX8_path 183 = .ok (.goto (-98), 3) := by decide +kernel
theorem dX8_path_186 : decode cX8_path 186 = .ok (.aload_n 0, 1) := by decide +kernel
theorem dX8_path_187 : decode cX8_path 187 = .ok (.iconst 0, 1) := by decide +kernel
theorem dX8_path_188 : decode cX8_path 188 = .ok (.invokevirtual 138, 3) := by decide +kernel
theorem dX8_path_191 : decode cX8_path 191 = .ok (.aload_n 0, 1) := by decide +kernel
theorem dX8_path_192 : decode cX8_path 192 = .ok (.iconst 0, 1) := by decide +kernel
theorem dX8_path_193 : decode cX8_path 193 = .ok (.putfield 142, 3) := by decide +kernel
theorem dX8_path_196 : decode cX8_path 196 = .ok (.aload_n 0, 1) := by decide +kernel
theorem dX8_path_197 : decode cX8_path 197 = .ok (.getfield 114, 3) := by decide +kernel
theorem dX8_path_200 : decode cX8_path 200 = .ok (.ireturn, 1) := by decide +kernel
theorem dX8_fault_0 : decode cX8_fault 0 = .ok (.aload_n 0, 1) := by decide +kernel
theorem dX8_fault_1 : decode cX8_fault 1 = .ok (.getfield 90, 3) := by decide +kernel
theorem dX8_fault_4 : decode cX8_fault 4 = .ok (.ireturn, 1) := by decide +kernel
theorem dX8_isPerson_0 : decode cX8_isPerson 0 = .ok (.iload_n 1, 1) := by decide +kernel
theorem dX8_isPerson_1 : decode cX8_isPerson 1 = .ok (.i2l, 1) := by decide +kernel
theorem dX8_isPerson_2 : decode cX8_isPerson 2 = .ok (.lconst 0, 1) := by decide +kernel
theorem dX8_isPerson_3 : decode cX8_isPerson 3 = .ok (.aload_n 0, 1) := by decide +kernel
theorem dX8_isPerson_4 : decode cX8_isPerson 4 = .ok (.getfield 7, 3) := by decide +kernel
theorem dX8_isPerson_7 : decode cX8_isPerson 7 = .ok (.iconst 3, 1) := by decide +kernel
theorem dX8_isPerson_8 : decode cX8_isPerson 8 = .ok (.iaload, 1) := by decide +kernel
theorem dX8_isPerson_9 : decode cX8_isPerson 9 = .ok (.iconst 1, 1) := by decide +kernel
theorem dX8_isPerson_10 : decode cX8_isPerson 10 = .ok (.isub, 1) := by decide +kernel
theorem dX8_isPerson_11 : decode cX8_isPerson 11 = .ok (.i2l, 1) := by decide +kernel
theorem dX8_isPerson_12 : decode cX8_isPerson 12 = .ok (.invokestatic 42, 3) := by decide +kernel
theorem dX8_isPerson_15 : decode cX8_isPerson 15 = .ok (.ireturn, 1) := by decide +kernel
theorem dX8_isCow_0 : decode cX8_isCow 0 = .ok (.aload_n 0, 1) := by decide +kernel
theorem dX8_isCow_1 : decode cX8_isCow 1 = .ok (.getfield 7, 3) := by decide +kernel
theorem dX8_isCow_4 : decode cX8_isCow 4 = .ok (.bipush 19, 2) := by decide +kernel
theorem dX8_isCow_6 : decode cX8_isCow 6 = .ok (.iload_n 1, 1) := by decide +kernel
theorem dX8_isCow_7 : decode cX8_isCow 7 = .ok (.iadd, 1) := by decide +kernel
theorem dX8_isCow_8 : decode cX8_isCow 8 = .ok (.iaload, 1) := by decide +kernel
theorem dX8_isCow_9 : decode cX8_isCow 9 = .ok (.iconst 5, 1) := by decide +kernel
theorem dX8_isCow_10 : decode cX8_isCow 10 = .ok (.if_icmp .ne 7, 3) := by decide +kernel
theorem dX8_isCow_13 : decode cX8_isCow 13 = .ok (.iconst 1, 1) := by decide +kernel
theorem dX8_isCow_14 : decode cX8_isCow 14 = .ok (.goto 4, 3) := by decide +kernel
theorem dX8_isCow_17 : decode cX8_isCow 17 = .ok (.iconst 0, 1) := by decide +kernel
theorem dX8_isCow_18 : decode cX8_isCow 18 = .ok (.ireturn, 1) := by decide +kernel
theorem dX8_layDone_0 : decode cX8_layDone 0 = .ok (.iconst 0, 1) := by decide +kernel
theorem dX8_layDone_1 : decode cX8_layDone 1 = .ok (.istore_n 2, 1) := by decide +kernel
theorem dX8_layDone_2 : decode cX8_layDone 2 = .ok (.iload_n 2, 1) := by decide +kernel
theorem dX8_layDone_3 : decode cX8_layDone 3 = .ok (.aload_n 0, 1) := by decide +kernel
theorem dX8_layDone_4 : decode cX8_layDone 4 = .ok (.getfield 7, 3) := by decide +kernel
theorem dX8_layDone_7 : decode cX8_layDone 7 = .ok (.iconst 3, 1) := by decide +kernel
theorem dX8_layDone_8 : decode cX8_layDone 8 = .ok (.iaload, 1) := by decide +kernel
theorem dX8_layDone_9 : decode cX8_layDone 9 = .ok (.if_icmp .ge 62, 3) := by decide +kernel
theorem dX8_layDone_12 : decode cX8_layDone 12 = .ok (.aload_n 0, 1) := by decide +kernel
theorem dX8_layDone_13 : decode cX8_layDone 13 = .ok (.getfield 7, 3) := by decide +kernel
theorem dX8_layDone_16 : decode cX8_layDone 16 = .ok (.iload_n 1, 1) := by decide +kernel
theorem dX8_layDone_17 : decode cX8_layDone 17 = .ok (.bipush 13, 2) := by decide +kernel
theorem dX8_layDone_19 : decode cX8_layDone 19 = .ok (.iadd, 1) := by decide +kernel
theorem dX8_layDone_20 : decode cX8_layDone 20 = .ok (.iload_n 2, 1) := by decide +kernel
theorem dX8_layDone_21 : decode cX8_layDone 21 = .ok (.iadd, 1) := by decide +kernel
theorem dX8_layDone_22 : decode cX8_layDone 22 = .ok (.iaload, 1) := by decide +kernel
theorem dX8_layDone_23 : decode cX8_layDone 23 = .ok (.istore_n 3, 1) := by decide +kernel
theorem dX8_layDone_24 : decode cX8_layDone 24 = .ok (.aload_n 0, 1) := by decide +kernel
theorem dX8_layDone_25 : decode cX8_layDone 25 = .ok (.getfield 7, 3) := by decide +kernel
theorem dX8_layDone_28 : decode cX8_layDone 28 = .ok (.iload_n 1, 1) := by decide +kernel
theorem dX8_layDone_29 : decode cX8_layDone 29 = .ok (.iconst 5, 1) := by decide +kernel
theorem dX8_layDone_30 : decode cX8_layDone 30 = .ok (.iadd, 1) := by decide +kernel
theorem dX8_layDone_31 : decode cX8_layDone 31 = .ok (.dup2, 1) := by decide +kernel
theorem dX8_layDone_32 : decode cX8_layDone 32 = .ok (.iaload, 1) := by decide +kernel
theorem dX8_layDone_33 : decode cX8_layDone 33 = .ok (.aload_n 0, 1) := by decide +kernel
theorem dX8_layDone_34 : decode cX8_layDone 34 = .ok (.getfield 7, 3) := by decide +kernel
theorem dX8_layDone_37 : decode cX8_layDone 37 = .ok (.iload_n 1, 1) := by decide +kernel
theorem dX8_layDone_38 : decode cX8_layDone 38 = .ok (.bipush 7, 2) := by decide +kernel
theorem dX8_layDone_40 : decode cX8_layDone 40 = .ok (.iadd, 1) := by decide +kernel
theorem dX8_layDone_41 : decode cX8_layDone 41 = .ok (.iload_n 2, 1) := by decide +kernel
theorem dX8_layDone_42 : decode cX8_layDone 42 = .ok (.iadd, 1) := by decide +kernel
theorem dX8_layDone_43 : decode cX8_layDone 43 = .ok (.iaload, 1) := by decide +kernel
theorem dX8_layDone_44 : decode cX8_layDone 44 = .ok (.aload_n 0, 1) := by decide +kernel
theorem dX8_layDone_45 : decode cX8_layDone 45 = .ok (.getfield 7, 3) := by decide +kernel
theorem dX8_layDone_48 : decode cX8_layDone 48 = .ok (.bipush 25, 2) := by decide +kernel
theorem dX8_layDone_50 : decode cX8_layDone 50 = .ok (.iload_n 3, 1) := by decide +kernel
theorem dX8_layDone_51 : decode cX8_layDone 51 = .ok (.iadd, 1) := by decide +kernel
theorem dX8_layDone_52 : decode cX8_layDone 52 = .ok (.iaload, 1) := by decide +kernel
theorem dX8_layDone_53 : decode cX8_layDone 53 = .ok (.if_icmp .ne 9, 3) := by decide +kernel
theorem dX8_layDone_56 : decode cX8_layDone 56 = .ok (.iconst 1, 1) := by decide +kernel
theorem dX8_layDone_57 : decode cX8_layDone 57 = .ok (.iload_n 3, 1) := by decide +kernel
theorem dX8_layDone_58 : decode cX8_layDone 58 = .ok (.ishl, 1) := by decide +kernel
theorem dX8_layDone_59 : decode cX8_layDone 59 = .ok (.goto 4, 3) := by decide +kernel
theorem dX8_layDone_62 : decode cX8_layDone 62 = .ok (.iconst 0, 1) := by decide +kernel
theorem dX8_layDone_63 : decode cX8_layDone 63 = .ok (.ior, 1) := by decide +kernel
theorem dX8_layDone_64 : decode cX8_layDone 64 = .ok (.iastore, 1) := by decide +kernel
theorem dX8_layDone_65 : decode cX8_layDone 65 = .ok (.iinc 2 1, 3) := by decide +kernel
theorem dX8_layDone_68 : decode cX8_layDone 68 = .ok (.goto (-66), 3) := by decide +kernel
theorem dX8_layDone_71 : decode cX8_layDone 71 = .ok (.return_, 1) := by decide +kernel
theorem dX8_comes_0 : decode cX8_comes 0 = .ok (.aload_n 0, 1) := by decide +kernel
theorem dX8_comes_1 : decode cX8_comes 1 = .ok (.getfield 7, 3) := by decide +kernel
theorem dX8_comes_4 : decode cX8_comes 4 = .ok (.iload_n 1, 1) := by decide +kernel
theorem dX8_comes_5 : decode cX8_comes 5 = .ok (.bipush 7, 2) := by decide +kernel
theorem dX8_comes_7 : decode cX8_comes 7 = .ok (.iadd, 1) := by decide +kernel
theorem dX8_comes_8 : decode cX8_comes 8 = .ok (.iload_n 2, 1) := by decide +kernel
theorem dX8_comes_9 : decode cX8_comes 9 = .ok (.iadd, 1) := by decide +kernel
theorem dX8_comes_10 : decode cX8_comes 10 = .ok (.iaload, 1) := by decide +kernel
theorem dX8_comes_11 : decode cX8_comes 11 = .ok (.istore_n 3, 1) := by decide +kernel
theorem dX8_comes_12 : decode cX8_comes 12 = .ok (.aload_n 0, 1) := by decide +kernel
theorem dX8_comes_13 : decode cX8_comes 13 = .ok (.getfield 7, 3) := by decide +kernel
theorem dX8_comes_16 : decode cX8_comes 16 = .ok (.iload_n 1, 1) := by decide +kernel
theorem dX8_comes_17 : decode cX8_comes 17 = .ok (.bipush 6, 2) := by decide +kernel
theorem dX8_comes_19 : decode cX8_comes 19 = .ok (.iadd, 1) := by decide +kernel
theorem dX8_comes_20 : decode cX8_comes 20 = .ok (.iaload, 1) := by decide +kernel
theorem dX8_comes_21 : decode cX8_comes 21 = .ok (.iload_n 2, 1) := by decide +kernel
theorem dX8_comes_22 : decode cX8_comes 22 = .ok (.invokestatic 145, 3) := by decide +kernel
theorem dX8_comes_25 : decode cX8_comes 25 = .ok (.istore 4, 2) := by decide +kernel
theorem dX8_comes_27 : decode cX8_comes 27 = .ok (.iload_n 3, 1) := by decide +kernel
theorem dX8_comes_28 : decode cX8_comes 28 = .ok (.iload 4, 2) := by decide +kernel
theorem dX8_comes_30 : decode cX8_comes 30 = .ok (.ifCond .eq 12, 3) := by decide +kernel
theorem dX8_comes_33 : decode cX8_comes 33 = .ok (.aload_n 0, 1) := by decide +kernel
theorem dX8_comes_34 : decode cX8_comes 34 = .ok (.getfield 7, 3) := by decide +kernel
theorem dX8_comes_37 : decode cX8_comes 37 = .ok (.iconst 1, 1) := by decide +kernel
theorem dX8_comes_38 : decode cX8_comes 38 = .ok (.iaload, 1) := by decide +kernel
theorem dX8_comes_39 : decode cX8_comes 39 = .ok (.goto 4, 3) := by decide +kernel
theorem dX8_comes_42 : decode cX8_comes 42 = .ok (.iconst 0, 1) := by decide +kernel
theorem dX8_comes_43 : decode cX8_comes 43 = .ok (.if_icmp .ne 7, 3) := by decide +kernel
theorem dX8_comes_46 : decode cX8_comes 46 = .ok (.iconst 1, 1) := by decide +kernel
theorem dX8_comes_47 : decode cX8_comes 47 = .ok (.goto 4, 3) := by decide +kernel
theorem dX8_comes_50 : decode cX8_comes 50 = .ok (.iconst 0, 1) := by decide +kernel
theorem dX8_comes_51 : decode cX8_comes 51 = .ok (.istore 5, 2) := by decide +kernel
theorem dX8_comes_53 : decode cX8_comes 53 = .ok (.aload_n 0, 1) := by decide +kernel
theorem dX8_comes_54 : decode cX8_comes 54 = .ok (.getfield 7, 3) := by decide +kernel
theorem dX8_comes_57 : decode cX8_comes 57 = .ok (.iload_n 1, 1) := by decide +kernel
theorem dX8_comes_58 : decode cX8_comes 58 = .ok (.bipush 6, 2) := by decide +kernel
theorem dX8_comes_60 : decode cX8_comes 60 = .ok (.iadd, 1) := by decide +kernel
theorem dX8_comes_61 : decode cX8_comes 61 = .ok (.dup2, 1) := by decide +kernel
theorem dX8_comes_62 : decode cX8_comes 62 = .ok (.iaload, 1) := by decide +kernel
theorem dX8_comes_63 : decode cX8_comes 63 = .ok (.iload 5, 2) := by decide +kernel
theorem dX8_comes_65 : decode cX8_comes 65 = .ok (.ifCond .eq 9, 3) := by decide +kernel
theorem dX8_comes_68 : decode cX8_comes 68 = .ok (.iconst 1, 1) := by decide +kernel
theorem dX8_comes_69 : decode cX8_comes 69 = .ok (.iload_n 2, 1) := by decide +kernel
theorem dX8_comes_70 : decode cX8_comes 70 = .ok (.ishl, 1) := by decide +kernel
theorem dX8_comes_71 : decode cX8_comes 71 = .ok (.goto 4, 3) := by decide +kernel
theorem dX8_comes_74 : decode cX8_comes 74 = .ok (.iconst 0, 1) := by decide +kernel
theorem dX8_comes_75 : decode cX8_comes 75 = .ok (.ixor, 1) := by decide +kernel
theorem dX8_comes_76 : decode cX8_comes 76 = .ok (.iastore, 1) := by decide +kernel
theorem dX8_comes_77 : decode cX8_comes 77 = .ok (.aload_n 0, 1) := by decide +kernel
theorem dX8_comes_78 : decode cX8_comes 78 = .ok (.getfield 7, 3) := by decide +kernel
theorem dX8_comes_81 : decode cX8_comes 81 = .ok (.iload_n 1, 1) := by decide +kernel
theorem dX8_comes_82 : decode cX8_comes 82 = .ok (.bipush 7, 2) := by decide +kernel
theorem dX8_comes_84 : decode cX8_comes 84 = .ok (.iadd, 1) := by decide +kernel
theorem dX8_comes_85 : decode cX8_comes 85 = .ok (.iload_n 2, 1) := by decide +kernel
theorem dX8_comes_86 : decode cX8_comes 86 = .ok (.iadd, 1) := by decide +kernel
theorem dX8_comes_87 : decode cX8_comes 87 = .ok (.dup2, 1) := by decide +kernel
theorem dX8_comes_88 : decode cX8_comes 88 = .ok (.iaload, 1) := by decide +kernel
theorem dX8_comes_89 : decode cX8_comes 89 = .ok (.aload_n 0, 1) := by decide +kernel
theorem dX8_comes_90 : decode cX8_comes 90 = .ok (.getfield 7, 3) := by decide +kernel
theorem dX8_comes_93 : decode cX8_comes 93 = .ok (.iload_n 1, 1) := by decide +kernel
theorem dX8_comes_94 : decode cX8_comes 94 = .ok (.bipush 6, 2) := by decide +kernel
theorem dX8_comes_96 : decode cX8_comes 96 = .ok (.iadd, 1) := by decide +kernel
theorem dX8_comes_97 : decode cX8_comes 97 = .ok (.iaload, 1) := by decide +kernel
theorem dX8_comes_98 : decode cX8_comes 98 = .ok (.iload_n 2, 1) := by decide +kernel
theorem dX8_comes_99 : decode cX8_comes 99 = .ok (.invokestatic 145, 3) := by decide +kernel
theorem dX8_comes_102 : decode cX8_comes 102 = .ok (.ifCond .eq 7, 3) := by decide +kernel
theorem dX8_comes_105 : decode cX8_comes 105 = .ok (.iconst 1, 1) := by decide +kernel
theorem dX8_comes_106 : decode cX8_comes 106 = .ok (.goto 4, 3) := by decide +kernel
theorem dX8_comes_109 : decode cX8_comes 109 = .ok (.iconst (-1), 1) := by decide +kernel
theorem dX8_comes_110 : decode cX8_comes 110 = .ok (.iadd, 1) := by decide +kernel
theorem dX8_comes_111 : decode cX8_comes 111 = .ok (.iastore, 1) := by decide +kernel
theorem dX8_comes_112 : decode cX8_comes 112 = .ok (.return_, 1) := by decide +kernel
theorem dX8_meet_0 : decode cX8_meet 0 = .ok (.aload_n 0, 1) := by decide +kernel
theorem dX8_meet_1 : decode cX8_meet 1 = .ok (.getfield 7, 3) := by decide +kernel
theorem dX8_meet_4 : decode cX8_meet 4 = .ok (.iload_n 1, 1) := by decide +kernel
theorem dX8_meet_5 : decode cX8_meet 5 = .ok (.bipush 13, 2) := by decide +kernel
theorem dX8_meet_7 : decode cX8_meet 7 = .ok (.iadd, 1) := by decide +kernel
theorem dX8_meet_8 : decode cX8_meet 8 = .ok (.iload_n 2, 1) := by decide +kernel
theorem dX8_meet_9 : decode cX8_meet 9 = .ok (.iadd, 1) := by decide +kernel
theorem dX8_meet_10 : decode cX8_meet 10 = .ok (.iaload, 1) := by decide +kernel
theorem dX8_meet_11 : decode cX8_meet 11 = .ok (.istore 4, 2) := by decide +kernel
theorem dX8_meet_13 : decode cX8_meet 13 = .ok (.aload_n 0, 1) := by decide +kernel
theorem dX8_meet_14 : decode cX8_meet 14 = .ok (.getfield 7, 3) := by decide +kernel
theorem dX8_meet_17 : decode cX8_meet 17 = .ok (.iload_n 1, 1) := by decide +kernel
theorem dX8_meet_18 : decode cX8_meet 18 = .ok (.bipush 13, 2) := by decide +kernel
theorem dX8_meet_20 : decode cX8_meet 20 = .ok (.iadd, 1) := by decide +kernel
theorem dX8_meet_21 : decode cX8_meet 21 = .ok (.iload_n 2, 1) := by decide +kernel
theorem dX8_meet_22 : decode cX8_meet 22 = .ok (.iadd, 1) := by decide +kernel
theorem dX8_meet_23 : decode cX8_meet 23 = .ok (.aload_n 0, 1) := by decide +kernel
theorem dX8_meet_24 : decode cX8_meet 24 = .ok (.getfield 7, 3) := by decide +kernel
theorem dX8_meet_27 : decode cX8_meet 27 = .ok (.iload_n 1, 1) := by decide +kernel
theorem dX8_meet_28 : decode cX8_meet 28 = .ok (.bipush 13, 2) := by decide +kernel
theorem dX8_meet_30 : decode cX8_meet 30 = .ok (.iadd, 1) := by decide +kernel
theorem dX8_meet_31 : decode cX8_meet 31 = .ok (.iload_n 3, 1) := by decide +kernel
theorem dX8_meet_32 : decode cX8_meet 32 = .ok (.iadd, 1) := by decide +kernel
theorem dX8_meet_33 : decode cX8_meet 33 = .ok (.iaload, 1) := by decide +kernel
theorem dX8_meet_34 : decode cX8_meet 34 = .ok (.iastore, 1) := by decide +kernel
theorem dX8_meet_35 : decode cX8_meet 35 = .ok (.aload_n 0, 1) := by decide +kernel
theorem dX8_meet_36 : decode cX8_meet 36 = .ok (.getfield 7, 3) := by decide +kernel
theorem dX8_meet_39 : decode cX8_meet 39 = .ok (.iload_n 1, 1) := by decide +kernel
theorem dX8_meet_40 : decode cX8_meet 40 = .ok (.bipush 13, 2) := by decide +kernel
theorem dX8_meet_42 : decode cX8_meet 42 = .ok (.iadd, 1) := by decide +kernel
theorem dX8_meet_43 : decode cX8_meet 43 = .ok (.iload_n 3, 1) := by decide +kernel
theorem dX8_meet_44 : decode cX8_meet 44 = .ok (.iadd, 1) := by decide +kernel
theorem dX8_meet_45 : decode cX8_meet 45 = .ok (.iload 4, 2) := by decide +kernel
theorem dX8_meet_47 : decode cX8_meet 47 = .ok (.iastore, 1) := by decide +kernel
theorem dX8_meet_48 : decode cX8_meet 48 = .ok (.aload_n 0, 1) := by decide +kernel
theorem dX8_meet_49 : decode cX8_meet 49 = .ok (.getfield 7, 3) := by decide +kernel
theorem dX8_meet_52 : decode cX8_meet 52 = .ok (.iload_n 1, 1) := by decide +kernel
theorem dX8_meet_53 : decode cX8_meet 53 = .ok (.bipush 6, 2) := by decide +kernel
theorem dX8_meet_55 : decode cX8_meet 55 = .ok (.iadd, 1) := by decide +kernel
theorem dX8_meet_56 : decode cX8_meet 56 = .ok (.dup2, 1) := by decide +kernel
theorem dX8_meet_57 : decode cX8_meet 57 = .ok (.iaload, 1) := by decide +kernel
theorem dX8_meet_58 : decode cX8_meet 58 = .ok (.aload_n 0, 1) := by decide +kernel
theorem dX8_meet_59 : decode cX8_meet 59 = .ok (.getfield 7, 3) := by decide +kernel
theorem dX8_meet_62 : decode cX8_meet 62 = .ok (.iconst 2, 1) := by decide +kernel
theorem dX8_meet_63 : decode cX8_meet 63 = .ok (.iaload, 1) := by decide +kernel
theorem dX8_meet_64 : decode cX8_meet 64 = .ok (.ifCond .ne 13, 3) := by decide +kernel
theorem dX8_meet_67 : decode cX8_meet 67 = .ok (.iconst 1, 1) := by decide +kernel
theorem dX8_meet_68 : decode cX8_meet 68 = .ok (.iload_n 2, 1) := by decide +kernel
theorem dX8_meet_69 : decode cX8_meet 69 = .ok (.ishl, 1) := by decide +kernel
theorem dX8_meet_70 : decode cX8_meet 70 = .ok (.iconst 1, 1) := by decide +kernel
theorem dX8_meet_71 : decode cX8_meet 71 = .ok (.iload_n 3, 1) := by decide +kernel
theorem dX8_meet_72 : decode cX8_meet 72 = .ok (.ishl, 1) := by decide +kernel
theorem dX8_meet_73 : decode cX8_meet 73 = .ok (.ior, 1) := by decide +kernel
theorem dX8_meet_74 : decode cX8_meet 74 = .ok (.goto 4, 3) := by decide +kernel
theorem dX8_meet_77 : decode cX8_meet 77 = .ok (.iconst 0, 1) := by decide +kernel
theorem dX8_meet_78 : decode cX8_meet 78 = .ok (.ixor, 1) := by decide +kernel
theorem dX8_meet_79 : decode cX8_meet 79 = .ok (.iastore, 1) := by decide +kernel
theorem dX8_meet_80 : decode cX8_meet 80 = .ok (.return_, 1) := by decide +kernel
theorem dX8_half_0 : decode cX8_half 0 = .ok (.iconst 0, 1) := by decide +kernel
theorem dX8_half_1 : decode cX8_half 1 = .ok (.istore_n 2, 1) := by decide +kernel
theorem dX8_half_2 : decode cX8_half 2 = .ok (.iload_n 2, 1) := by decide +kernel
theorem dX8_half_3 : decode cX8_half 3 = .ok (.aload_n 0, 1) := by decide +kernel
theorem dX8_half_4 : decode cX8_half 4 = .ok (.getfield 7, 3) := by decide +kernel
theorem dX8_half_7 : decode cX8_half 7 = .ok (.iconst 3, 1) := by decide +kernel
theorem dX8_half_8 : decode cX8_half 8 = .ok (.iaload, 1) := by decide +kernel
theorem dX8_half_9 : decode cX8_half 9 = .ok (.if_icmp .ge 23, 3) := by decide +kernel
theorem dX8_half_12 : decode cX8_half 12 = .ok (.aload_n 0, 1) := by decide +kernel
theorem dX8_half_13 : decode cX8_half 13 = .ok (.iload_n 2, 1) := by decide +kernel
theorem dX8_half_14 : decode cX8_half 14 = .ok (.invokevirtual 148, 3) := by decide +kernel
theorem dX8_half_17 : decode cX8_half 17 = .ok (.ifCond .ne 9, 3) := by decide +kernel
theorem dX8_half_20 : decode cX8_half 20 = .ok (.aload_n 0, 1) := by decide +kernel
theorem dX8_half_21 : decode cX8_half 21 = .ok (.iload_n 1, 1) := by decide +kernel
theorem dX8_half_22 : decode cX8_half 22 = .ok (.iload_n 2, 1) := by decide +kernel
theorem dX8_half_23 : decode cX8_half 23 = .ok (.invokevirtual 151, 3) := by decide +kernel
theorem dX8_half_26 : decode cX8_half 26 = .ok (.iinc 2 1, 3) := by decide +kernel
theorem dX8_half_29 : decode cX8_half 29 = .ok (.goto (-27), 3) := by decide +kernel
theorem dX8_half_32 : decode cX8_half 32 = .ok (.iconst 1, 1) := by decide +kernel
theorem dX8_half_33 : decode cX8_half 33 = .ok (.istore_n 2, 1) := by decide +kernel
theorem dX8_half_34 : decode cX8_half 34 = .ok (.iload_n 2, 1) := by decide +kernel
theorem dX8_half_35 : decode cX8_half 35 = .ok (.aload_n 0, 1) := by decide +kernel
theorem dX8_half_36 : decode cX8_half 36 = .ok (.getfield 7, 3) := by decide +kernel
theorem dX8_half_39 : decode cX8_half 39 = .ok (.iconst 3, 1) := by decide +kernel
theorem dX8_half_40 : decode cX8_half 40 = .ok (.iaload, 1) := by decide +kernel
theorem dX8_half_41 : decode cX8_half 41 = .ok (.if_icmp .ge 121, 3) := by decide +kernel
theorem dX8_half_44 : decode cX8_half 44 = .ok (.aload_n 0, 1) := by decide +kernel
theorem dX8_half_45 : decode cX8_half 45 = .ok (.getfield 7, 3) := by decide +kernel
theorem dX8_half_48 : decode cX8_half 48 = .ok (.iconst 2, 1) := by decide +kernel
theorem dX8_half_49 : decode cX8_half 49 = .ok (.iaload, 1) := by decide +kernel
theorem dX8_half_50 : decode cX8_half 50 = .ok (.iconst 1, 1) := by decide +kernel
theorem dX8_half_51 : decode cX8_half 51 = .ok (.if_icmp .eq 111, 3) := by decide +kernel
theorem dX8_half_54 : decode cX8_half 54 = .ok (.iconst 0, 1) := by decide +kernel
theorem dX8_half_55 : decode cX8_half 55 = .ok (.istore_n 3, 1) := by decide +kernel
theorem dX8_half_56 : decode cX8_half 56 = .ok (.iload_n 3, 1) := by decide +kernel
theorem dX8_half_57 : decode cX8_half 57 = .ok (.iload_n 2, 1) := by decide +kernel
theorem dX8_half_58 : decode cX8_half 58 = .ok (.if_icmp .ge 98, 3) := by decide +kernel
theorem dX8_half_61 : decode cX8_half 61 = .ok (.aload_n 0, 1) := by decide +kernel
theorem dX8_half_62 : decode cX8_half 62 = .ok (.getfield 7, 3) := by decide +kernel
theorem dX8_half_65 : decode cX8_half 65 = .ok (.iload_n 1, 1) := by decide +kernel
theorem dX8_half_66 : decode cX8_half 66 = .ok (.bipush 6, 2) := by decide +kernel
theorem dX8_half_68 : decode cX8_half 68 = .ok (.iadd, 1) := by decide +kernel
theorem dX8_half_69 : decode cX8_half 69 = .ok (.iaload, 1) := by decide +kernel
theorem dX8_half_70 : decode cX8_half 70 = .ok (.iload_n 2, 1) := by decide +kernel
theorem dX8_half_71 : decode cX8_half 71 = .ok (.invokestatic 145, 3) := by decide +kernel
theorem dX8_half_74 : decode cX8_half 74 = .ok (.aload_n 0, 1) := by decide +kernel
theorem dX8_half_75 : decode cX8_half 75 = .ok (.getfield 7, 3) := by decide +kernel
theorem dX8_half_78 : decode cX8_half 78 = .ok (.iload_n 1, 1) := by decide +kernel
theorem dX8_half_79 : decode cX8_half 79 = .ok (.bipush 6, 2) := by decide +kernel
theorem dX8_half_81 : decode cX8_half 81 = .ok (.iadd, 1) := by decide +kernel
theorem dX8_half_82 : decode cX8_half 82 = .ok (.iaload, 1) := by decide +kernel
theorem dX8_half_83 : decode cX8_half 83 = .ok (.iload_n 3, 1) := by decide +kernel
theorem dX8_half_84 : decode cX8_half 84 = .ok (.invokestatic 145, 3) := by decide +kernel
theorem dX8_half_87 : decode cX8_half 87 = .ok (.if_icmp .eq 7, 3) := by decide +kernel
theorem dX8_half_90 : decode cX8_half 90 = .ok (.iconst 1, 1) := by decide +kernel
theorem dX8_half_91 : decode cX8_half 91 = .ok (.goto 4, 3) := by decide +kernel
theorem dX8_half_94 : decode cX8_half 94 = .ok (.iconst 0, 1) := by decide +kernel
theorem dX8_half_95 : decode cX8_half 95 = .ok (.istore 4, 2) := by decide +kernel
theorem dX8_half_97 : decode cX8_half 97 = .ok (.iload 4, 2) := by decide +kernel
theorem dX8_half_99 : decode cX8_half 99 = .ok (.ifCond .eq 51, 3) := by decide +kernel
theorem dX8_half_102 : decode cX8_half 102 = .ok (.aload_n 0, 1) := by decide +kernel
theorem dX8_half_103 : decode cX8_half 103 = .ok (.iload_n 2, 1) := by decide +kernel
theorem dX8_half_104 : decode cX8_half 104 = .ok (.invokevirtual 148, 3) := by decide +kernel
theorem dX8_half_107 : decode cX8_half 107 = .ok (.ifCond .ne 43, 3) := by decide +kernel
theorem dX8_half_110 : decode cX8_half 110 = .ok (.aload_n 0, 1) := by decide +kernel
theorem dX8_half_111 : decode cX8_half 111 = .ok (.iload_n 3, 1) := by decide +kernel
theorem dX8_half_112 : decode cX8_half 112 = .ok (.invokevirtual 148, 3) := by decide +kernel
theorem dX8_half_115 : decode cX8_half 115 = .ok (.ifCond .ne 35, 3) := by decide +kernel
theorem dX8_half_118 : decode cX8_half 118 = .ok (.aload_n 0, 1) := by decide +kernel
theorem dX8_half_119 : decode cX8_half 119 = .ok (.getfield 7, 3) := by decide +kernel
theorem dX8_half_122 : decode cX8_half 122 = .ok (.iload_n 1, 1) := by decide +kernel
theorem dX8_half_123 : decode cX8_half 123 = .ok (.bipush 7, 2) := by decide +kernel
theorem dX8_half_125 : decode cX8_half 125 = .ok (.iadd, 1) := by decide +kernel
theorem dX8_half_126 : decode cX8_half 126 = .ok (.iload_n 2, 1) := by decide +kernel
theorem dX8_half_127 : decode cX8_half 127 = .ok (.iadd, 1) := by decide +kernel
theorem dX8_half_128 : decode cX8_half 128 = .ok (.iaload, 1) := by decide +kernel
theorem dX8_half_129 : decode cX8_half 129 = .ok (.aload_n 0, 1) := by decide +kernel
theorem dX8_half_130 : decode cX8_half 130 = .ok (.getfield 7, 3) := by decide +kernel
theorem dX8_half_133 : decode cX8_half 133 = .ok (.iload_n 1, 1) := by decide +kernel
theorem dX8_half_134 : decode cX8_half 134 = .ok (.bipush 7, 2) := by decide +kernel
theorem dX8_half_136 : decode cX8_half 136 = .ok (.iadd, 1) := by decide +kernel
theorem dX8_half_137 : decode cX8_half 137 = .ok (.iload_n 3, 1) := by decide +kernel
theorem dX8_half_138 : decode cX8_half 138 = .ok (.iadd, 1) := by decide +kernel
theorem dX8_half_139 : decode cX8_half 139 = .ok (.iaload, 1) := by decide +kernel
theorem dX8_half_140 : decode cX8_half 140 = .ok (.if_icmp .ne 10, 3) := by decide +kernel
theorem dX8_half_143 : decode cX8_half 143 = .ok (.aload_n 0, 1) := by decide +kernel
theorem dX8_half_144 : decode cX8_half 144 = .ok (.iload_n 1, 1) := by decide +kernel
theorem dX8_half_145 : decode cX8_half 145 = .ok (.iload_n 2, 1) := by decide +kernel
theorem dX8_half_146 : decode cX8_half 146 = .ok (.iload_n 3, 1) := by decide +kernel
theorem dX8_half_147 : decode cX8_half 147 = .ok (.invokevirtual 155, 3) := by decide +kernel
theorem dX8_half_150 : decode cX8_half 150 = .ok (.iinc 3 1, 3) := by decide +kernel
theorem dX8_half_153 : decode cX8_half 153 = .ok (.goto (-97), 3) := by decide +kernel
theorem dX8_half_156 : decode cX8_half 156 = .ok (.iinc 2 1, 3) := by decide +kernel
theorem dX8_half_159 : decode cX8_half 159 = .ok (.goto (-125), 3) := by decide +kernel
theorem dX8_half_162 : decode cX8_half 162 = .ok (.aload_n 0, 1) := by decide +kernel
theorem dX8_half_163 : decode cX8_half 163 = .ok (.iload_n 1, 1) := by decide +kernel
theorem dX8_half_164 : decode cX8_half 164 = .ok (.invokevirtual 138, 3) := by decide +kernel
theorem dX8_half_167 : decode cX8_half 167 = .ok (.return_, 1) := by decide +kernel
theorem dX8_keepPast_0 : decode cX8_keepPast 0 = .ok (.iconst 0, 1) := by decide +kernel
theorem dX8_keepPast_1 : decode cX8_keepPast 1 = .ok (.istore_n 1, 1) := by decide +kernel
theorem dX8_keepPast_2 : decode cX8_keepPast 2 = .ok (.iload_n 1, 1) := by decide +kernel
theorem dX8_keepPast_3 : decode cX8_keepPast 3 = .ok (.sipush 322, 3) := by decide +kernel
theorem dX8_keepPast_6 : decode cX8_keepPast 6 = .ok (.if_icmp .ge 33, 3) := by decide +kernel
theorem dX8_keepPast_9 : decode cX8_keepPast 9 = .ok (.aload_n 0, 1) := by decide +kernel
theorem dX8_keepPast_10 : decode cX8_keepPast 10 = .ok (.getfield 142, 3) := by decide +kernel
theorem dX8_keepPast_13 : decode cX8_keepPast 13 = .ok (.bipush 24, 2) := by decide +kernel
theorem dX8_keepPast_15 : decode cX8_keepPast 15 = .ok (.if_icmp .ne 24, 3) := by decide +kernel
theorem dX8_keepPast_18 : decode cX8_keepPast 18 = .ok (.aload_n 0, 1) := by decide +kernel
theorem dX8_keepPast_19 : decode cX8_keepPast 19 = .ok (.getfield 13, 3) := by decide +kernel
theorem dX8_keepPast_22 : decode cX8_keepPast 22 = .ok (.iload_n 1, 1) := by decide +kernel
theorem dX8_keepPast_23 : decode cX8_keepPast 23 = .ok (.aload_n 0, 1) := by decide +kernel
theorem dX8_keepPast_24 : decode cX8_keepPast 24 = .ok (.getfield 13, 3) := by decide +kernel
theorem dX8_keepPast_27 : decode cX8_keepPast 27 = .ok (.iload_n 1, 1) := by decide +kernel
theorem dX8_keepPast_28 : decode cX8_keepPast 28 = .ok (.bipush 14, 2) := by decide +kernel
theorem dX8_keepPast_30 : decode cX8_keepPast 30 = .ok (.iadd, 1) := by decide +kernel
theorem dX8_keepPast_31 : decode cX8_keepPast 31 = .ok (.iaload, 1) := by decide +kernel
theorem dX8_keepPast_32 : decode cX8_keepPast 32 = .ok (.iastore, 1) := by decide +kernel
theorem dX8_keepPast_33 : decode cX8_keepPast 33 = .ok (.iinc 1 1, 3) := by decide +kernel
theorem dX8_keepPast_36 : decode cX8_keepPast 36 = .ok (.goto (-34), 3) := by decide +kernel
theorem dX8_keepPast_39 : decode cX8_keepPast 39 = .ok (.aload_n 0, 1) := by decide +kernel
theorem dX8_keepPast_40 : decode cX8_keepPast 40 = .ok (.dup, 1) := by decide +kernel
theorem dX8_keepPast_41 : decode cX8_keepPast 41 = .ok (.getfield 142, 3) := by decide +kernel
theorem dX8_keepPast_44 : decode cX8_keepPast 44 = .ok (.aload_n 0, 1) := by decide +kernel
theorem dX8_keepPast_45 : decode cX8_keepPast 45 = .ok (.getfield 142, 3) := by decide +kernel
theorem dX8_keepPast_48 : decode cX8_keepPast 48 = .ok (.bipush 24, 2) := by decide +kernel
theorem dX8_keepPast_50 : decode cX8_keepPast 50 = .ok (.if_icmp .ne 7, 3) := by decide +kernel
theorem dX8_keepPast_53 : decode cX8_keepPast 53 = .ok (.iconst 1, 1) := by decide +kernel
theorem dX8_keepPast_54 : decode cX8_keepPast 54 = .ok (.goto 4, 3) := by decide +kernel
theorem dX8_keepPast_57 : decode cX8_keepPast 57 = .ok (.iconst 0, 1) := by decide +kernel
theorem dX8_keepPast_58 : decode cX8_keepPast 58 = .ok (.isub, 1) := by decide +kernel
theorem dX8_keepPast_59 : decode cX8_keepPast 59 = .ok (.putfield 142, 3) := by decide +kernel
theorem dX8_keepPast_62 : decode cX8_keepPast 62 = .ok (.iconst 0, 1) := by decide +kernel
theorem dX8_keepPast_63 : decode cX8_keepPast 63 = .ok (.istore_n 1, 1) := by decide +kernel
theorem dX8_keepPast_64 : decode cX8_keepPast 64 = .ok (.iload_n 1, 1) := by decide +kernel
theorem dX8_keepPast_65 : decode cX8_keepPast 65 = .ok (.bipush 14, 2) := by decide +kernel
theorem dX8_keepPast_67 : decode cX8_keepPast 67 = .ok (.if_icmp .ge 31, 3) := by decide +kernel
theorem dX8_keepPast_70 : decode cX8_keepPast 70 = .ok (.aload_n 0, 1) := by decide +kernel
theorem dX8_keepPast_71 : decode cX8_keepPast 71 = .ok (.getfield 13, 3) := by decide +kernel
theorem dX8_keepPast_74 : decode cX8_keepPast 74 = .ok (.bipush 14, 2) := by decide +kernel
theorem dX8_keepPast_76 : decode cX8_keepPast 76 = .ok (.aload_n 0, 1) := by decide +kernel
theorem dX8_keepPast_77 : decode cX8_keepPast 77 = .ok (.getfield 142, 3) := by decide +kernel
theorem dX8_keepPast_80 : decode cX8_keepPast 80 = .ok (.imul, 1) := by decide +kernel
theorem dX8_keepPast_81 : decode cX8_keepPast 81 = .ok (.iload_n 1, 1) := by decide +kernel
theorem dX8_keepPast_82 : decode cX8_keepPast 82 = .ok (.iadd, 1) := by decide +kernel
theorem dX8_keepPast_83 : decode cX8_keepPast 83 = .ok (.aload_n 0, 1) := by decide +kernel
theorem dX8_keepPast_84 : decode cX8_keepPast 84 = .ok (.getfield 7, 3) := by decide +kernel
theorem dX8_keepPast_87 : decode cX8_keepPast 87 = .ok (.iconst 5, 1) := by decide +kernel
theorem dX8_keepPast_88 : decode cX8_keepPast 88 = .ok (.iload_n 1, 1) := by decide +kernel
theorem dX8_keepPast_89 : decode cX8_keepPast 89 = .ok (.iadd, 1) := by decide +kernel
theorem dX8_keepPast_90 : decode cX8_keepPast 90 = .ok (.iaload, 1) := by decide +kernel
theorem dX8_keepPast_91 : decode cX8_keepPast 91 = .ok (.iastore, 1) := by decide +kernel
theorem dX8_keepPast_92 : decode cX8_keepPast 92 = .ok (.iinc 1 1, 3) := by decide +kernel
theorem dX8_keepPast_95 : decode cX8_keepPast 95 = .ok (.goto (-31), 3) := by decide +kernel
theorem dX8_keepPast_98 : decode cX8_keepPast 98 = .ok (.aload_n 0, 1) := by decide +kernel
theorem dX8_keepPast_99 : decode cX8_keepPast 99 = .ok (.dup, 1) := by decide +kernel
theorem dX8_keepPast_100 : decode cX8_keepPast 100 = .ok (.getfield 142, 3) := by decide +kernel
theorem dX8_keepPast_103 : decode cX8_keepPast 103 = .ok (.iconst 1, 1) := by decide +kernel
theorem dX8_keepPast_104 : decode cX8_keepPast 104 = .ok (.iadd, 1) := by decide +kernel
theorem dX8_keepPast_105 : decode cX8_keepPast 105 = .ok (.putfield 142, 3) := by decide +kernel
theorem dX8_keepPast_108 : decode cX8_keepPast 108 = .ok (.return_, 1) := by decide +kernel
theorem dX8_halves_0 : decode cX8_halves 0 = .ok (.aload_n 0, 1) := by decide +kernel
theorem dX8_halves_1 : decode cX8_halves 1 = .ok (.getfield 7, 3) := by decide +kernel
theorem dX8_halves_4 : decode cX8_halves 4 = .ok (.iconst 0, 1) := by decide +kernel
theorem dX8_halves_5 : decode cX8_halves 5 = .ok (.iaload, 1) := by decide +kernel
theorem dX8_halves_6 : decode cX8_halves 6 = .ok (.ifCond .ne 6, 3) := by decide +kernel
theorem dX8_halves_9 : decode cX8_halves 9 = .ok (.ldc 159, 2) := by decide +kernel
theorem dX8_halves_11 : decode cX8_halves 11 = .ok (.ireturn, 1) := by decide +kernel
theorem dX8_halves_12 : decode cX8_halves 12 = .ok (.iload_n 1, 1) := by decide +kernel
theorem dX8_halves_13 : decode cX8_halves 13 = .ok (.i2l, 1) := by decide +kernel
theorem dX8_halves_14 : decode cX8_halves 14 = .ok (.lconst 1, 1) := by decide +kernel
theorem dX8_halves_15 : decode cX8_halves 15 = .ok (.ldc2_w 160, 3) := by decide +kernel
theorem dX8_halves_18 : decode cX8_halves 18 = .ok (.invokestatic 42, 3) := by decide +kernel
theorem dX8_halves_21 : decode cX8_halves 21 = .ok (.ifCond .ne 6, 3) := by decide +kernel
theorem dX8_halves_24 : decode cX8_halves 24 = .ok (.ldc 52, 2) := by decide +kernel
theorem dX8_halves_26 : decode cX8_halves 26 = .ok (.ireturn, 1) := by decide +kernel
theorem dX8_halves_27 : decode cX8_halves 27 = .ok (.aload_n 0, 1) := by decide +kernel
theorem dX8_halves_28 : decode cX8_halves 28 = .ok (.getfield 7, 3) := by decide +kernel
theorem dX8_halves_31 : decode cX8_halves 31 = .ok (.iconst 4, 1) := by decide +kernel
theorem dX8_halves_32 : decode cX8_halves 32 = .ok (.iaload, 1) := by decide +kernel
theorem dX8_halves_33 : decode cX8_halves 33 = .ok (.iload_n 1, 1) := by decide +kernel
theorem dX8_halves_34 : decode cX8_halves 34 = .ok (.iadd, 1) := by decide +kernel
theorem dX8_halves_35 : decode cX8_halves 35 = .ok (.sipush 9999, 3) := by decide +kernel
theorem dX8_halves_38 : decode cX8_halves 38 = .ok (.if_icmp .le 6, 3) := by decide +kernel
theorem dX8_halves_41 : decode cX8_halves 41 = .ok (.ldc 69, 2) := by decide +kernel
theorem dX8_halves_43 : decode cX8_halves 43 = .ok (.ireturn, 1) := by decide +kernel
theorem dX8_halves_44 : decode cX8_halves 44 = .ok (.aload_n 0, 1) := by decide +kernel
theorem dX8_halves_45 : decode cX8_halves 45 = .ok (.getfield 7, 3) := by decide +kernel
theorem dX8_halves_48 : decode cX8_halves 48 = .ok (.iconst 5, 1) := by decide +kernel
theorem dX8_halves_49 : decode cX8_halves 49 = .ok (.iaload, 1) := by decide +kernel
theorem dX8_halves_50 : decode cX8_halves 50 = .ok (.istore_n 2, 1) := by decide +kernel
theorem dX8_halves_51 : decode cX8_halves 51 = .ok (.iconst 0, 1) := by decide +kernel
theorem dX8_halves_52 : decode cX8_halves 52 = .ok (.istore_n 3, 1) := by decide +kernel
theorem dX8_halves_53 : decode cX8_halves 53 = .ok (.iload_n 3, 1) := by decide +kernel
theorem dX8_halves_54 : decode cX8_halves 54 = .ok (.iload_n 1, 1) := by decide +kernel
theorem dX8_halves_55 : decode cX8_halves 55 = .ok (.if_icmp .ge 18, 3) := by decide +kernel
theorem dX8_halves_58 : decode cX8_halves 58 = .ok (.aload_n 0, 1) := by decide +kernel
theorem dX8_halves_59 : decode cX8_halves 59 = .ok (.invokevirtual 162, 3) := by decide +kernel
theorem dX8_halves_62 : decode cX8_halves 62 = .ok (.aload_n 0, 1) := by decide +kernel
theorem dX8_halves_63 : decode cX8_halves 63 = .ok (.iconst 0, 1) := by decide +kernel
theorem dX8_halves_64 : decode cX8_halves 64 = .ok (.invokevirtual 165, 3) := by decide +kernel
theorem dX8_halves_67 : decode cX8_halves 67 = .ok (.iinc 3 1, 3) := by decide +kernel
theorem dX8_halves_70 : decode cX8_halves 70 = .ok (.goto (-17), 3) := by decide +kernel
theorem dX8_halves_73 : decode cX8_halves 73 = .ok (.aload_n 0, 1) := by decide +kernel
theorem dX8_halves_74 : decode cX8_halves 74 = .ok (.getfield 7, 3) := by decide +kernel
theorem dX8_halves_77 : decode cX8_halves 77 = .ok (.iconst 4, 1) := by decide +kernel
theorem dX8_halves_78 : decode cX8_halves 78 = .ok (.dup2, 1) := by decide +kernel
theorem dX8_halves_79 : decode cX8_halves 79 = .ok (.iaload, 1) := by decide +kernel
theorem dX8_halves_80 : decode cX8_halves 80 = .ok (.iload_n 1, 1) := by decide +kernel
theorem dX8_halves_81 : decode cX8_halves 81 = .ok (.iadd, 1) := by decide +kernel
theorem dX8_halves_82 : decode cX8_halves 82 = .ok (.iastore, 1) := by decide +kernel
theorem dX8_halves_83 : decode cX8_halves 83 = .ok (.aload_n 0, 1) := by decide +kernel
theorem dX8_halves_84 : decode cX8_halves 84 = .ok (.getfield 7, 3) := by decide +kernel
theorem dX8_halves_87 : decode cX8_halves 87 = .ok (.iconst 5, 1) := by decide +kernel
theorem dX8_halves_88 : decode cX8_halves 88 = .ok (.iaload, 1) := by decide +kernel
theorem dX8_halves_89 : decode cX8_halves 89 = .ok (.iload_n 2, 1) := by decide +kernel
theorem dX8_halves_90 : decode cX8_halves 90 = .ok (.iconst (-1), 1) := by decide +kernel
theorem dX8_halves_91 : decode cX8_halves 91 = .ok (.ixor, 1) := by decide +kernel
theorem dX8_halves_92 : decode cX8_halves 92 = .ok (.iand, 1) := by decide +kernel
theorem dX8_halves_93 : decode cX8_halves 93 = .ok (.ireturn, 1) := by decide +kernel
theorem dX8_undo_0 : decode cX8_undo 0 = .ok (.aload_n 0, 1) := by decide +kernel
theorem dX8_undo_1 : decode cX8_undo 1 = .ok (.getfield 142, 3) := by decide +kernel
theorem dX8_undo_4 : decode cX8_undo 4 = .ok (.ifCond .ne 6, 3) := by decide +kernel
theorem dX8_undo_7 : decode cX8_undo 7 = .ok (.ldc 159, 2) := by decide +kernel
theorem dX8_undo_9 : decode cX8_undo 9 = .ok (.ireturn, 1) := by decide +kernel
theorem dX8_undo_10 : decode cX8_undo 10 = .ok (.aload_n 0, 1) := by decide +kernel
theorem dX8_undo_11 : decode cX8_undo 11 = .ok (.dup, 1) := by decide +kernel
theorem dX8_undo_12 : decode cX8_undo 12 = .ok (.getfield 142, 3) := by decide +kernel
theorem dX8_undo_15 : decode cX8_undo 15 = .ok (.iconst 1, 1) := by decide +kernel
theorem dX8_undo_16 : decode cX8_undo 16 = .ok (.isub, 1) := by decide +kernel
theorem dX8_undo_17 : decode cX8_undo 17 = .ok (.putfield 142, 3) := by decide +kernel
theorem dX8_undo_20 : decode cX8_undo 20 = .ok (.iconst 0, 1) := by decide +kernel
theorem dX8_undo_21 : decode cX8_undo 21 = .ok (.istore_n 1, 1) := by decide +kernel
theorem dX8_undo_22 : decode cX8_undo 22 = .ok (.iload_n 1, 1) := by decide +kernel
theorem dX8_undo_23 : decode cX8_undo 23 = .ok (.bipush 14, 2) := by decide +kernel
theorem dX8_undo_25 : decode cX8_undo 25 = .ok (.if_icmp .ge 31, 3) := by decide +kernel
theorem dX8_undo_28 : decode cX8_undo 28 = .ok (.aload_n 0, 1) := by decide +kernel
theorem dX8_undo_29 : decode cX8_undo 29 = .ok (.getfield 7, 3) := by decide +kernel
theorem dX8_undo_32 : decode cX8_undo 32 = .ok (.iconst 5, 1) := by decide +kernel
theorem dX8_undo_33 : decode cX8_undo 33 = .ok (.iload_n 1, 1) := by decide +kernel
theorem dX8_undo_34 : decode cX8_undo 34 = .ok (.iadd, 1) := by decide +kernel
theorem dX8_undo_35 : decode cX8_undo 35 = .ok (.aload_n 0, 1) := by decide +kernel
theorem dX8_undo_36 : decode cX8_undo 36 = .ok (.getfield 13, 3) := by decide +kernel
theorem dX8_undo_39 : decode cX8_undo 39 = .ok (.bipush 14, 2) := by decide +kernel
theorem dX8_undo_41 : decode cX8_undo 41 = .ok (.aload_n 0, 1) := by decide +kernel
theorem dX8_undo_42 : decode cX8_undo 42 = .ok (.getfield 142, 3) := by decide +kernel
theorem dX8_undo_45 : decode cX8_undo 45 = .ok (.imul, 1) := by decide +kernel
theorem dX8_undo_46 : decode cX8_undo 46 = .ok (.iload_n 1, 1) := by decide +kernel
theorem dX8_undo_47 : decode cX8_undo 47 = .ok (.iadd, 1) := by decide +kernel
theorem dX8_undo_48 : decode cX8_undo 48 = .ok (.iaload, 1) := by decide +kernel
theorem dX8_undo_49 : decode cX8_undo 49 = .ok (.iastore, 1) := by decide +kernel
theorem dX8_undo_50 : decode cX8_undo 50 = .ok (.iinc 1 1, 3) := by decide +kernel
theorem dX8_undo_53 : decode cX8_undo 53 = .ok (.goto (-31), 3) := by decide +kernel
theorem dX8_undo_56 : decode cX8_undo 56 = .ok (.aload_n 0, 1) := by decide +kernel
theorem dX8_undo_57 : decode cX8_undo 57 = .ok (.getfield 7, 3) := by decide +kernel
theorem dX8_undo_60 : decode cX8_undo 60 = .ok (.iconst 4, 1) := by decide +kernel
theorem dX8_undo_61 : decode cX8_undo 61 = .ok (.dup2, 1) := by decide +kernel
theorem dX8_undo_62 : decode cX8_undo 62 = .ok (.iaload, 1) := by decide +kernel
theorem dX8_undo_63 : decode cX8_undo 63 = .ok (.iconst 1, 1) := by decide +kernel
theorem dX8_undo_64 : decode cX8_undo 64 = .ok (.isub, 1) := by decide +kernel
theorem dX8_undo_65 : decode cX8_undo 65 = .ok (.iastore, 1) := by decide +kernel
theorem dX8_undo_66 : decode cX8_undo 66 = .ok (.aload_n 0, 1) := by decide +kernel
theorem dX8_undo_67 : decode cX8_undo 67 = .ok (.getfield 142, 3) := by decide +kernel
theorem dX8_undo_70 : decode cX8_undo 70 = .ok (.ireturn, 1) := by decide +kernel
theorem dX8_factOf_0 : decode cX8_factOf 0 = .ok (.iload_n 3, 1) := by decide +kernel
theorem dX8_factOf_1 : decode cX8_factOf 1 = .ok (.ifCond .ne 17, 3) := by decide +kernel
theorem dX8_factOf_4 : decode cX8_factOf 4 = .ok (.aload_n 0, 1) := by decide +kernel
theorem dX8_factOf_5 : decode cX8_factOf 5 = .ok (.getfield 7, 3) := by decide +kernel
theorem dX8_factOf_8 : decode cX8_factOf 8 = .ok (.iload_n 1, 1) := by decide +kernel
theorem dX8_factOf_9 : decode cX8_factOf 9 = .ok (.bipush 7, 2) := by decide +kernel
theorem dX8_factOf_11 : decode cX8_factOf 11 = .ok (.iadd, 1) := by decide +kernel
theorem dX8_factOf_12 : decode cX8_factOf 12 = .ok (.iload_n 2, 1) := by decide +kernel
theorem dX8_factOf_13 : decode cX8_factOf 13 = .ok (.iadd, 1) := by decide +kernel
theorem dX8_factOf_14 : decode cX8_factOf 14 = .ok (.iaload, 1) := by decide +kernel
theorem dX8_factOf_15 : decode cX8_factOf 15 = .ok (.goto 35, 3) := by decide +kernel
theorem dX8_factOf_18 : decode cX8_factOf 18 = .ok (.iload_n 3, 1) := by decide +kernel
theorem dX8_factOf_19 : decode cX8_factOf 19 = .ok (.iconst 1, 1) := by decide +kernel
theorem dX8_factOf_20 : decode cX8_factOf 20 = .ok (.if_icmp .ne 19, 3) := by decide +kernel
theorem dX8_factOf_23 : decode cX8_factOf 23 = .ok (.aload_n 0, 1) := by decide +kernel
theorem dX8_factOf_24 : decode cX8_factOf 24 = .ok (.getfield 7, 3) := by decide +kernel
theorem dX8_factOf_27 : decode cX8_factOf 27 = .ok (.iload_n 1, 1) := by decide +kernel
theorem dX8_factOf_28 : decode cX8_factOf 28 = .ok (.bipush 6, 2) := by decide +kernel
theorem dX8_factOf_30 : decode cX8_factOf 30 = .ok (.iadd, 1) := by decide +kernel
theorem dX8_factOf_31 : decode cX8_factOf 31 = .ok (.iaload, 1) := by decide +kernel
theorem dX8_factOf_32 : decode cX8_factOf 32 = .ok (.iload_n 2, 1) := by decide +kernel
theorem dX8_factOf_33 : decode cX8_factOf 33 = .ok (.ishr, 1) := by decide +kernel
theorem dX8_factOf_34 : decode cX8_factOf 34 = .ok (.iconst 1, 1) := by decide +kernel
theorem dX8_factOf_35 : decode cX8_factOf 35 = .ok (.iand, 1) := by decide +kernel
theorem dX8_factOf_36 : decode cX8_factOf 36 = .ok (.goto 14, 3) := by decide +kernel
theorem dX8_factOf_39 : decode cX8_factOf 39 = .ok (.aload_n 0, 1) := by decide +kernel
theorem dX8_factOf_40 : decode cX8_factOf 40 = .ok (.getfield 7, 3) := by decide +kernel
theorem dX8_factOf_43 : decode cX8_factOf 43 = .ok (.iload_n 1, 1) := by decide +kernel
theorem dX8_factOf_44 : decode cX8_factOf 44 = .ok (.bipush 13, 2) := by decide +kernel
theorem dX8_factOf_46 : decode cX8_factOf 46 = .ok (.iadd, 1) := by decide +kernel
theorem dX8_factOf_47 : decode cX8_factOf 47 = .ok (.iload_n 2, 1) := by decide +kernel
theorem dX8_factOf_48 : decode cX8_factOf 48 = .ok (.iadd, 1) := by decide +kernel
theorem dX8_factOf_49 : decode cX8_factOf 49 = .ok (.iaload, 1) := by decide +kernel
theorem dX8_factOf_50 : decode cX8_factOf 50 = .ok (.ireturn, 1) := by decide +kernel
theorem dX8_person_0 : decode cX8_person 0 = .ok (.aload_n 0, 1) := by decide +kernel
theorem dX8_person_1 : decode cX8_person 1 = .ok (.iload_n 1, 1) := by decide +kernel
theorem dX8_person_2 : decode cX8_person 2 = .ok (.invokevirtual 168, 3) := by decide +kernel
theorem dX8_person_5 : decode cX8_person 5 = .ok (.ifCond .eq 25, 3) := by decide +kernel
theorem dX8_person_8 : decode cX8_person 8 = .ok (.iload_n 2, 1) := by decide +kernel
theorem dX8_person_9 : decode cX8_person 9 = .ok (.i2l, 1) := by decide +kernel
theorem dX8_person_10 : decode cX8_person 10 = .ok (.lconst 0, 1) := by decide +kernel
theorem dX8_person_11 : decode cX8_person 11 = .ok (.ldc2_w 50, 3) := by decide +kernel
theorem dX8_person_14 : decode cX8_person 14 = .ok (.invokestatic 42, 3) := by decide +kernel
theorem dX8_person_17 : decode cX8_person 17 = .ok (.ifCond .eq 13, 3) := by decide +kernel
theorem dX8_person_20 : decode cX8_person 20 = .ok (.aload_n 0, 1) := by decide +kernel
theorem dX8_person_21 : decode cX8_person 21 = .ok (.iconst 0, 1) := by decide +kernel
theorem dX8_person_22 : decode cX8_person 22 = .ok (.iload_n 1, 1) := by decide +kernel
theorem dX8_person_23 : decode cX8_person 23 = .ok (.iload_n 2, 1) := by decide +kernel
theorem dX8_person_24 : decode cX8_person 24 = .ok (.invokevirtual 171, 3) := by decide +kernel
theorem dX8_person_27 : decode cX8_person 27 = .ok (.goto 5, 3) := by decide +kernel
theorem dX8_person_30 : decode cX8_person 30 = .ok (.ldc 52, 2) := by decide +kernel
theorem dX8_person_32 : decode cX8_person 32 = .ok (.ireturn, 1) := by decide +kernel
theorem dX8_holderOf_0 : decode cX8_holderOf 0 = .ok (.iconst 0, 1) := by decide +kernel
theorem dX8_holderOf_1 : decode cX8_holderOf 1 = .ok (.istore_n 3, 1) := by decide +kernel
theorem dX8_holderOf_2 : decode cX8_holderOf 2 = .ok (.aload_n 0, 1) := by decide +kernel
theorem dX8_holderOf_3 : decode cX8_holderOf 3 = .ok (.getfield 7, 3) := by decide +kernel
theorem dX8_holderOf_6 : decode cX8_holderOf 6 = .ok (.iload_n 1, 1) := by decide +kernel
theorem dX8_holderOf_7 : decode cX8_holderOf 7 = .ok (.bipush 13, 2) := by decide +kernel
theorem dX8_holderOf_9 : decode cX8_holderOf 9 = .ok (.iadd, 1) := by decide +kernel
theorem dX8_holderOf_10 : decode cX8_holderOf 10 = .ok (.iload_n 3, 1) := by decide +kernel
theorem dX8_holderOf_11 : decode cX8_holderOf 11 = .ok (.iadd, 1) := by decide +kernel
theorem dX8_holderOf_12 : decode cX8_holderOf 12 = .ok (.iaload, 1) := by decide +kernel
theorem dX8_holderOf_13 : decode cX8_holderOf 13 = .ok (.iload_n 2, 1) := by decide +kernel
theorem dX8_holderOf_14 : decode cX8_holderOf 14 = .ok (.if_icmp .eq 9, 3) := by decide +kernel
theorem dX8_holderOf_17 : decode cX8_holderOf 17 = .ok (.iinc 3 1, 3) := by decide +kernel
theorem dX8_holderOf_20 : decode cX8_holderOf 20 = .ok (.goto (-18), 3) := by decide +kernel
theorem dX8_holderOf_23 : decode cX8_holderOf 23 = .ok (.iload_n 3, 1) := by decide +kernel
theorem dX8_holderOf_24 : decode cX8_holderOf 24 = .ok (.ireturn, 1) := by decide +kernel
theorem dX8_errand_0 : decode cX8_errand 0 = .ok (.aload_n 0, 1) := by decide +kernel
theorem dX8_errand_1 : decode cX8_errand 1 = .ok (.iload_n 1, 1) := by decide +kernel
theorem dX8_errand_2 : decode cX8_errand 2 = .ok (.invokevirtual 168, 3) := by decide +kernel
theorem dX8_errand_5 : decode cX8_errand 5 = .ok (.ifCond .eq 15, 3) := by decide +kernel
theorem dX8_errand_8 : decode cX8_errand 8 = .ok (.iload_n 2, 1) := by decide +kernel
theorem dX8_errand_9 : decode cX8_errand 9 = .ok (.i2l, 1) := by decide +kernel
theorem dX8_errand_10 : decode cX8_errand 10 = .ok (.lconst 0, 1) := by decide +kernel
theorem dX8_errand_11 : decode cX8_errand 11 = .ok (.ldc2_w 175, 3) := by decide +kernel
theorem dX8_errand_14 : decode cX8_errand 14 = .ok (.invokestatic 42, 3) := by decide +kernel
theorem dX8_errand_17 : decode cX8_errand 17 = .ok (.ifCond .ne 6, 3) := by decide +kernel
theorem dX8_errand_20 : decode cX8_errand 20 = .ok (.ldc 52, 2) := by decide +kernel
theorem dX8_errand_22 : decode cX8_errand 22 = .ok (.ireturn, 1) := by decide +kernel
theorem dX8_errand_23 : decode cX8_errand 23 = .ok (.aload_n 0, 1) := by decide +kernel
theorem dX8_errand_24 : decode cX8_errand 24 = .ok (.iconst 0, 1) := by decide +kernel
theorem dX8_errand_25 : decode cX8_errand 25 = .ok (.iload_n 1, 1) := by decide +kernel
theorem dX8_errand_26 : decode cX8_errand 26 = .ok (.invokevirtual 177, 3) := by decide +kernel
theorem dX8_errand_29 : decode cX8_errand 29 = .ok (.istore_n 3, 1) := by decide +kernel
theorem dX8_errand_30 : decode cX8_errand 30 = .ok (.iload_n 2, 1) := by decide +kernel
theorem dX8_errand_31 : decode cX8_errand 31 = .ok (.ifCond .ne 15, 3) := by decide +kernel
theorem dX8_errand_34 : decode cX8_errand 34 = .ok (.aload_n 0, 1) := by decide +kernel
theorem dX8_errand_35 : decode cX8_errand 35 = .ok (.getfield 7, 3) := by decide +kernel
theorem dX8_errand_38 : decode cX8_errand 38 = .ok (.bipush 25, 2) := by decide +kernel
theorem dX8_errand_40 : decode cX8_errand 40 = .ok (.iload_n 1, 1) := by decide +kernel
theorem dX8_errand_41 : decode cX8_errand 41 = .ok (.iadd, 1) := by decide +kernel
theorem dX8_errand_42 : decode cX8_errand 42 = .ok (.iaload, 1) := by decide +kernel
theorem dX8_errand_43 : decode cX8_errand 43 = .ok (.goto 39, 3) := by decide +kernel
theorem dX8_errand_46 : decode cX8_errand 46 = .ok (.iload_n 2, 1) := by decide +kernel
theorem dX8_errand_47 : decode cX8_errand 47 = .ok (.iconst 1, 1) := by decide +kernel
theorem dX8_errand_48 : decode cX8_errand 48 = .ok (.if_icmp .ne 16, 3) := by decide +kernel
theorem dX8_errand_51 : decode cX8_errand 51 = .ok (.aload_n 0, 1) := by decide +kernel
theorem dX8_errand_52 : decode cX8_errand 52 = .ok (.getfield 7, 3) := by decide +kernel
theorem dX8_errand_55 : decode cX8_errand 55 = .ok (.iconst 5, 1) := by decide +kernel
theorem dX8_errand_56 : decode cX8_errand 56 = .ok (.iaload, 1) := by decide +kernel
theorem dX8_errand_57 : decode cX8_errand 57 = .ok (.iload_n 1, 1) := by decide +kernel
theorem dX8_errand_58 : decode cX8_errand 58 = .ok (.ishr, 1) := by decide +kernel
theorem dX8_errand_59 : decode cX8_errand 59 = .ok (.iconst 1, 1) := by decide +kernel
theorem dX8_errand_60 : decode cX8_errand 60 = .ok (.iand, 1) := by decide +kernel
theorem dX8_errand_61 : decode cX8_errand 61 = .ok (.goto 21, 3) := by decide +kernel
theorem dX8_errand_64 : decode cX8_errand 64 = .ok (.iload_n 2, 1) := by decide +kernel
theorem dX8_errand_65 : decode cX8_errand 65 = .ok (.iconst 2, 1) := by decide +kernel
theorem dX8_errand_66 : decode cX8_errand 66 = .ok (.if_icmp .ne 7, 3) := by decide +kernel
theorem dX8_errand_69 : decode cX8_errand 69 = .ok (.iload_n 3, 1) := by decide +kernel
theorem dX8_errand_70 : decode cX8_errand 70 = .ok (.goto 12, 3) := by decide +kernel
theorem dX8_errand_73 : decode cX8_errand 73 = .ok (.aload_n 0, 1) := by decide +kernel
theorem dX8_errand_74 : decode cX8_errand 74 = .ok (.getfield 7, 3) := by decide +kernel
theorem dX8_errand_77 : decode cX8_errand 77 = .ok (.bipush 7, 2) := by decide +kernel
theorem dX8_errand_79 : decode cX8_errand 79 = .ok (.iload_n 3, 1) := by decide +kernel
theorem dX8_errand_80 : decode cX8_errand 80 = .ok (.iadd, 1) := by decide +kernel
theorem dX8_errand_81 : decode cX8_errand 81 = .ok (.iaload, 1) := by decide +kernel
theorem dX8_errand_82 : decode cX8_errand 82 = .ok (.ireturn, 1) := by decide +kernel
theorem dX8_copy0_0 : decode cX8_copy0 0 = .ok (.iconst 0, 1) := by decide +kernel
theorem dX8_copy0_1 : decode cX8_copy0 1 = .ok (.istore_n 3, 1) := by decide +kernel
theorem dX8_copy0_2 : decode cX8_copy0 2 = .ok (.iload_n 3, 1) := by decide +kernel
theorem dX8_copy0_3 : decode cX8_copy0 3 = .ok (.bipush 31, 2) := by decide +kernel
theorem dX8_copy0_5 : decode cX8_copy0 5 = .ok (.if_icmp .ge 31, 3) := by decide +kernel
theorem dX8_copy0_8 : decode cX8_copy0 8 = .ok (.aload_n 0, 1) := by decide +kernel
theorem dX8_copy0_9 : decode cX8_copy0 9 = .ok (.getfield 7, 3) := by decide +kernel
theorem dX8_copy0_12 : decode cX8_copy0 12 = .ok (.bipush 31, 2) := by decide +kernel
theorem dX8_copy0_14 : decode cX8_copy0 14 = .ok (.iload_n 2, 1) := by decide +kernel
theorem dX8_copy0_15 : decode cX8_copy0 15 = .ok (.imul, 1) := by decide +kernel
theorem dX8_copy0_16 : decode cX8_copy0 16 = .ok (.iload_n 3, 1) := by decide +kernel
theorem dX8_copy0_17 : decode cX8_copy0 17 = .ok (.iadd, 1) := by decide +kernel
theorem dX8_copy0_18 : decode cX8_copy0 18 = .ok (.aload_n 0, 1) := by decide +kernel
theorem dX8_copy0_19 : decode cX8_copy0 19 = .ok (.getfield 7, 3) := by decide +kernel
theorem dX8_copy0_22 : decode cX8_copy0 22 = .ok (.bipush 31, 2) := by decide +kernel
theorem dX8_copy0_24 : decode cX8_copy0 24 = .ok (.iload_n 1, 1) := by decide +kernel
theorem dX8_copy0_25 : decode cX8_copy0 25 = .ok (.imul, 1) := by decide +kernel
theorem dX8_copy0_26 : decode cX8_copy0 26 = .ok (.iload_n 3, 1) := by decide +kernel
theorem dX8_copy0_27 : decode cX8_copy0 27 = .ok (.iadd, 1) := by decide +kernel
theorem dX8_copy0_28 : decode cX8_copy0 28 = .ok (.iaload, 1) := by decide +kernel
theorem dX8_copy0_29 : decode cX8_copy0 29 = .ok (.iastore, 1) := by decide +kernel
theorem dX8_copy0_30 : decode cX8_copy0 30 = .ok (.iinc 3 1, 3) := by decide +kernel
theorem dX8_copy0_33 : decode cX8_copy0 33 = .ok (.goto (-31), 3) := by decide +kernel
theorem dX8_copy0_36 : decode cX8_copy0 36 = .ok (.return_, 1) := by decide +kernel
theorem dX8_isAhead_0 : decode cX8_isAhead 0 = .ok (.iload_n 0, 1) := by decide +kernel
theorem dX8_isAhead_1 : decode cX8_isAhead 1 = .ok (.i2l, 1) := by decide +kernel
theorem dX8_isAhead_2 : decode cX8_isAhead 2 = .ok (.lconst 0, 1) := by decide +kernel
theorem dX8_isAhead_3 : decode cX8_isAhead 3 = .ok (.ldc2_w 181, 3) := by decide +kernel
theorem dX8_isAhead_6 : decode cX8_isAhead 6 = .ok (.invokestatic 42, 3) := by decide +kernel
theorem dX8_isAhead_9 : decode cX8_isAhead 9 = .ok (.ireturn, 1) := by decide +kernel
theorem dX8_ahead_0 : decode cX8_ahead 0 = .ok (.aload_n 0, 1) := by decide +kernel
theorem dX8_ahead_1 : decode cX8_ahead 1 = .ok (.iload_n 1, 1) := by decide +kernel
theorem dX8_ahead_2 : decode cX8_ahead 2 = .ok (.invokevirtual 168, 3) := by decide +kernel
theorem dX8_ahead_5 : decode cX8_ahead 5 = .ok (.ifCond .eq 22, 3) := by decide +kernel
theorem dX8_ahead_8 : decode cX8_ahead 8 = .ok (.iload_n 2, 1) := by decide +kernel
theorem dX8_ahead_9 : decode cX8_ahead 9 = .ok (.invokestatic 183, 3) := by decide +kernel
theorem dX8_ahead_12 : decode cX8_ahead 12 = .ok (.ifCond .eq 15, 3) := by decide +kernel
theorem dX8_ahead_15 : decode cX8_ahead 15 = .ok (.iload_n 3, 1) := by decide +kernel
theorem dX8_ahead_16 : decode cX8_ahead 16 = .ok (.i2l, 1) := by decide +kernel
theorem dX8_ahead_17 : decode cX8_ahead 17 = .ok (.lconst 0, 1) := by decide +kernel
theorem dX8_ahead_18 : decode cX8_ahead 18 = .ok (.ldc2_w 50, 3) := by decide +kernel
theorem dX8_ahead_21 : decode cX8_ahead 21 = .ok (.invokestatic 42, 3) := by decide +kernel
theorem dX8_ahead_24 : decode cX8_ahead 24 = .ok (.ifCond .ne 6, 3) := by decide +kernel
theorem dX8_ahead_27 : decode cX8_ahead 27 = .ok (.ldc 52, 2) := by decide +kernel
theorem dX8_ahead_29 : decode cX8_ahead 29 = .ok (.ireturn, 1) := by decide +kernel
theorem dX8_ahead_30 : decode cX8_ahead 30 = .ok (.aload_n 0, 1) := by decide +kernel
theorem dX8_ahead_31 : decode cX8_ahead 31 = .ok (.iconst 0, 1) := by decide +kernel
theorem dX8_ahead_32 : decode cX8_ahead 32 = .ok (.iconst 3, 1) := by decide +kernel
theorem dX8_ahead_33 : decode cX8_ahead 33 = .ok (.invokevirtual 186, 3) := by decide +kernel
theorem dX8_ahead_36 : decode cX8_ahead 36 = .ok (.iconst 0, 1) := by decide +kernel
theorem dX8_ahead_37 : decode cX8_ahead 37 = .ok (.istore 4, 2) := by decide +kernel
theorem dX8_ahead_39 : decode cX8_ahead 39 = .ok (.iload 4, 2) := by decide +kernel
theorem dX8_ahead_41 : decode cX8_ahead 41 = .ok (.iload_n 2, 1) := by decide +kernel
theorem dX8_ahead_42 : decode cX8_ahead 42 = .ok (.if_icmp .ge 15, 3) := by decide +kernel
theorem dX8_ahead_45 : decode cX8_ahead 45 = .ok (.aload_n 0, 1) := by decide +kernel
theorem dX8_ahead_46 : decode cX8_ahead 46 = .ok (.bipush 93, 2) := by decide +kernel
theorem dX8_ahead_48 : decode cX8_ahead 48 = .ok (.invokevirtual 165, 3) := by decide +kernel
theorem dX8_ahead_51 : decode cX8_ahead 51 = .ok (.iinc 4 1, 3) := by decide +kernel
theorem dX8_ahead_54 : decode cX8_ahead 54 = .ok (.goto (-15), 3) := by decide +kernel
theorem dX8_ahead_57 : decode cX8_ahead 57 = .ok (.aload_n 0, 1) := by decide +kernel
theorem dX8_ahead_58 : decode cX8_ahead 58 = .ok (.bipush 93, 2) := by decide +kernel
theorem dX8_ahead_60 : decode cX8_ahead 60 = .ok (.iload_n 1, 1) := by decide +kernel
theorem dX8_ahead_61 : decode cX8_ahead 61 = .ok (.iload_n 3, 1) := by decide +kernel
theorem dX8_ahead_62 : decode cX8_ahead 62 = .ok (.invokevirtual 171, 3) := by decide +kernel
theorem dX8_ahead_65 : decode cX8_ahead 65 = .ok (.ireturn, 1) := by decide +kernel
theorem dX8_done_0 : decode cX8_done 0 = .ok (.aload_n 0, 1) := by decide +kernel
theorem dX8_done_1 : decode cX8_done 1 = .ok (.iload_n 1, 1) := by decide +kernel
theorem dX8_done_2 : decode cX8_done 2 = .ok (.invokevirtual 168, 3) := by decide +kernel
theorem dX8_done_5 : decode cX8_done 5 = .ok (.ifCond .eq 13, 3) := by decide +kernel
theorem dX8_done_8 : decode cX8_done 8 = .ok (.iload_n 2, 1) := by decide +kernel
theorem dX8_done_9 : decode cX8_done 9 = .ok (.i2l, 1) := by decide +kernel
theorem dX8_done_10 : decode cX8_done 10 = .ok (.lconst 0, 1) := by decide +kernel
theorem dX8_done_11 : decode cX8_done 11 = .ok (.lconst 1, 1) := by decide +kernel
theorem dX8_done_12 : decode cX8_done 12 = .ok (.invokestatic 42, 3) := by decide +kernel
theorem dX8_done_15 : decode cX8_done 15 = .ok (.ifCond .ne 6, 3) := by decide +kernel
theorem dX8_done_18 : decode cX8_done 18 = .ok (.ldc 52, 2) := by decide +kernel
theorem dX8_done_20 : decode cX8_done 20 = .ok (.ireturn, 1) := by decide +kernel
theorem dX8_done_21 : decode cX8_done 21 = .ok (.aload_n 0, 1) := by decide +kernel
theorem dX8_done_22 : decode cX8_done 22 = .ok (.iconst 0, 1) := by decide +kernel
theorem dX8_done_23 : decode cX8_done 23 = .ok (.iconst 3, 1) := by decide +kernel
theorem dX8_done_24 : decode cX8_done 24 = .ok (.invokevirtual 186, 3) := by decide +kernel
theorem dX8_done_27 : decode cX8_done 27 = .ok (.iconst 0, 1) := by decide +kernel
theorem dX8_done_28 : decode cX8_done 28 = .ok (.istore_n 3, 1) := by decide +kernel
theorem dX8_done_29 : decode cX8_done 29 = .ok (.iload_n 3, 1) := by decide +kernel
theorem dX8_done_30 : decode cX8_done 30 = .ok (.bipush 120, 2) := by decide +kernel
theorem dX8_done_32 : decode cX8_done 32 = .ok (.if_icmp .ge 29, 3) := by decide +kernel
theorem dX8_done_35 : decode cX8_done 35 = .ok (.aload_n 0, 1) := by decide +kernel
theorem dX8_done_36 : decode cX8_done 36 = .ok (.getfield 7, 3) := by decide +kernel
theorem dX8_done_39 : decode cX8_done 39 = .ok (.bipush 98, 2) := by decide +kernel
theorem dX8_done_41 : decode cX8_done 41 = .ok (.iaload, 1) := by decide +kernel
theorem dX8_done_42 : decode cX8_done 42 = .ok (.iload_n 1, 1) := by decide +kernel
theorem dX8_done_43 : decode cX8_done 43 = .ok (.invokestatic 145, 3) := by decide +kernel
theorem dX8_done_46 : decode cX8_done 46 = .ok (.ifCond .ne 15, 3) := by decide +kernel
theorem dX8_done_49 : decode cX8_done 49 = .ok (.aload_n 0, 1) := by decide +kernel
theorem dX8_done_50 : decode cX8_done 50 = .ok (.bipush 93, 2) := by decide +kernel
theorem dX8_done_52 : decode cX8_done 52 = .ok (.invokevirtual 165, 3) := by decide +kernel
theorem dX8_done_55 : decode cX8_done 55 = .ok (.iinc 3 1, 3) := by decide +kernel
theorem dX8_done_58 : decode cX8_done 58 = .ok (.goto (-29), 3) := by decide +kernel
theorem dX8_done_61 : decode cX8_done 61 = .ok (.aload_n 0, 1) := by decide +kernel
theorem dX8_done_62 : decode cX8_done 62 = .ok (.getfield 7, 3) := by decide +kernel
theorem dX8_done_65 : decode cX8_done 65 = .ok (.bipush 98, 2) := by decide +kernel
theorem dX8_done_67 : decode cX8_done 67 = .ok (.iaload, 1) := by decide +kernel
theorem dX8_done_68 : decode cX8_done 68 = .ok (.iload_n 1, 1) := by decide +kernel
theorem dX8_done_69 : decode cX8_done 69 = .ok (.invokestatic 145, 3) := by decide +kernel
theorem dX8_done_72 : decode cX8_done 72 = .ok (.ifCond .ne 8, 3) := by decide +kernel
theorem dX8_done_75 : decode cX8_done 75 = .ok (.ldc 19, 2) := by decide +kernel
theorem dX8_done_77 : decode cX8_done 77 = .ok (.goto 18, 3) := by decide +kernel
theorem dX8_done_80 : decode cX8_done 80 = .ok (.iload_n 2, 1) := by decide +kernel
theorem dX8_done_81 : decode cX8_done 81 = .ok (.ifCond .ne 7, 3) := by decide +kernel
theorem dX8_done_84 : decode cX8_done 84 = .ok (.iload_n 3, 1) := by decide +kernel
theorem dX8_done_85 : decode cX8_done 85 = .ok (.goto 10, 3) := by decide +kernel
theorem dX8_done_88 : decode cX8_done 88 = .ok (.aload_n 0, 1) := by decide +kernel
theorem dX8_done_89 : decode cX8_done 89 = .ok (.bipush 93, 2) := by decide +kernel
theorem dX8_done_91 : decode cX8_done 91 = .ok (.iload_n 1, 1) := by decide +kernel
theorem dX8_done_92 : decode cX8_done 92 = .ok (.invokevirtual 177, 3) := by decide +kernel
theorem dX8_done_95 : decode cX8_done 95 = .ok (.ireturn, 1) := by decide +kernel
theorem dX8_secretOf_0 : decode cX8_secretOf 0 = .ok (.iconst 1, 1) := by decide +kernel
theorem dX8_secretOf_1 : decode cX8_secretOf 1 = .ok (.aload_n 0, 1) := by decide +kernel
theorem dX8_secretOf_2 : decode cX8_secretOf 2 = .ok (.bipush 93, 2) := by decide +kernel
theorem dX8_secretOf_4 : decode cX8_secretOf 4 = .ok (.iload_n 1, 1) := by decide +kernel
theorem dX8_secretOf_5 : decode cX8_secretOf 5 = .ok (.invokevirtual 177, 3) := by decide +kernel
theorem dX8_secretOf_8 : decode cX8_secretOf 8 = .ok (.ishl, 1) := by decide +kernel
theorem dX8_secretOf_9 : decode cX8_secretOf 9 = .ok (.istore_n 3, 1) := by decide +kernel
theorem dX8_secretOf_10 : decode cX8_secretOf 10 = .ok (.iconst 0, 1) := by decide +kernel
theorem dX8_secretOf_11 : decode cX8_secretOf 11 = .ok (.istore 4, 2) := by decide +kernel
theorem dX8_secretOf_13 : decode cX8_secretOf 13 = .ok (.iload 4, 2) := by decide +kernel
theorem dX8_secretOf_15 : decode cX8_secretOf 15 = .ok (.iload_n 2, 1) := by decide +kernel
theorem dX8_secretOf_16 : decode cX8_secretOf 16 = .ok (.if_icmp .ge 27, 3) := by decide +kernel
theorem dX8_secretOf_19 : decode cX8_secretOf 19 = .ok (.aload_n 0, 1) := by decide +kernel
theorem dX8_secretOf_20 : decode cX8_secretOf 20 = .ok (.bipush 93, 2) := by decide +kernel
theorem dX8_secretOf_22 : decode cX8_secretOf 22 = .ok (.invokevirtual 165, 3) := by decide +kernel
theorem dX8_secretOf_25 : decode cX8_secretOf 25 = .ok (.iload_n 3, 1) := by decide +kernel
theorem dX8_secretOf_26 : decode cX8_secretOf 26 = .ok (.iconst 1, 1) := by decide +kernel
theorem dX8_secretOf_27 : decode cX8_secretOf 27 = .ok (.aload_n 0, 1) := by decide +kernel
theorem dX8_secretOf_28 : decode cX8_secretOf 28 = .ok (.bipush 93, 2) := by decide +kernel
theorem dX8_secretOf_30 : decode cX8_secretOf 30 = .ok (.iload_n 1, 1) := by decide +kernel
theorem dX8_secretOf_31 : decode cX8_secretOf 31 = .ok (.invokevirtual 177, 3) := by decide +kernel
theorem dX8_secretOf_34 : decode cX8_secretOf 34 = .ok (.ishl, 1) := by decide +kernel
theorem dX8_secretOf_35 : decode cX8_secretOf 35 = .ok (.ior, 1) := by decide +kernel
theorem dX8_secretOf_36 : decode cX8_secretOf 36 = .ok (.istore_n 3, 1) := by decide +kernel
theorem dX8_secretOf_37 : decode cX8_secretOf 37 = .ok (.iinc 4 1, 3) := by decide +kernel
theorem dX8_secretOf_40 : decode cX8_secretOf 40 = .ok (.goto (-27), 3) := by decide +kernel
theorem dX8_secretOf_43 : decode cX8_secretOf 43 = .ok (.iload_n 3, 1) := by decide +kernel
theorem dX8_secretOf_44 : decode cX8_secretOf 44 = .ok (.ireturn, 1) := by decide +kernel
theorem dX8_secret_0 : decode cX8_secret 0 = .ok (.aload_n 0, 1) := by decide +kernel
theorem dX8_secret_1 : decode cX8_secret 1 = .ok (.iload_n 1, 1) := by decide +kernel
theorem dX8_secret_2 : decode cX8_secret 2 = .ok (.invokevirtual 168, 3) := by decide +kernel
theorem dX8_secret_5 : decode cX8_secret 5 = .ok (.ifCond .eq 10, 3) := by decide +kernel
theorem dX8_secret_8 : decode cX8_secret 8 = .ok (.iload_n 2, 1) := by decide +kernel
theorem dX8_secret_9 : decode cX8_secret 9 = .ok (.invokestatic 183, 3) := by decide +kernel
theorem dX8_secret_12 : decode cX8_secret 12 = .ok (.ifCond .ne 6, 3) := by decide +kernel
theorem dX8_secret_15 : decode cX8_secret 15 = .ok (.ldc 52, 2) := by decide +kernel
theorem dX8_secret_17 : decode cX8_secret 17 = .ok (.ireturn, 1) := by decide +kernel
theorem dX8_secret_18 : decode cX8_secret 18 = .ok (.aload_n 0, 1) := by decide +kernel
theorem dX8_secret_19 : decode cX8_secret 19 = .ok (.iconst 0, 1) := by decide +kernel
theorem dX8_secret_20 : decode cX8_secret 20 = .ok (.iconst 3, 1) := by decide +kernel
theorem dX8_secret_21 : decode cX8_secret 21 = .ok (.invokevirtual 186, 3) := by decide +kernel
theorem dX8_secret_24 : decode cX8_secret 24 = .ok (.aload_n 0, 1) := by decide +kernel
theorem dX8_secret_25 : decode cX8_secret 25 = .ok (.iload_n 1, 1) := by decide +kernel
theorem dX8_secret_26 : decode cX8_secret 26 = .ok (.iload_n 2, 1) := by decide +kernel
theorem dX8_secret_27 : decode cX8_secret 27 = .ok (.invokevirtual 189, 3) := by decide +kernel
theorem dX8_secret_30 : decode cX8_secret 30 = .ok (.ireturn, 1) := by decide +kernel
theorem dX8_walkers_0 : decode cX8_walkers 0 = .ok (.iconst 0, 1) := by decide +kernel
theorem dX8_walkers_1 : decode cX8_walkers 1 = .ok (.istore_n 1, 1) := by decide +kernel
theorem dX8_walkers_2 : decode cX8_walkers 2 = .ok (.iconst 0, 1) := by decide +kernel
theorem dX8_walkers_3 : decode cX8_walkers 3 = .ok (.istore_n 2, 1) := by decide +kernel
theorem dX8_walkers_4 : decode cX8_walkers 4 = .ok (.iload_n 2, 1) := by decide +kernel
theorem dX8_walkers_5 : decode cX8_walkers 5 = .ok (.aload_n 0, 1) := by decide +kernel
theorem dX8_walkers_6 : decode cX8_walkers 6 = .ok (.getfield 7, 3) := by decide +kernel
theorem dX8_walkers_9 : decode cX8_walkers 9 = .ok (.iconst 3, 1) := by decide +kernel
theorem dX8_walkers_10 : decode cX8_walkers 10 = .ok (.iaload, 1) := by decide +kernel
theorem dX8_walkers_11 : decode cX8_walkers 11 = .ok (.if_icmp .ge 27, 3) := by decide +kernel
theorem dX8_walkers_14 : decode cX8_walkers 14 = .ok (.iload_n 1, 1) := by decide +kernel
theorem dX8_walkers_15 : decode cX8_walkers 15 = .ok (.aload_n 0, 1) := by decide +kernel
theorem dX8_walkers_16 : decode cX8_walkers 16 = .ok (.iload_n 2, 1) := by decide +kernel
theorem dX8_walkers_17 : decode cX8_walkers 17 = .ok (.invokevirtual 148, 3) := by decide +kernel
theorem dX8_walkers_20 : decode cX8_walkers 20 = .ok (.ifCond .eq 7, 3) := by decide +kernel
theorem dX8_walkers_23 : decode cX8_walkers 23 = .ok (.iconst 0, 1) := by decide +kernel
theorem dX8_walkers_24 : decode cX8_walkers 24 = .ok (.goto 6, 3) := by decide +kernel
theorem dX8_walkers_27 : decode cX8_walkers 27 = .ok (.iconst 1, 1) := by decide +kernel
theorem dX8_walkers_28 : decode cX8_walkers 28 = .ok (.iload_n 2, 1) := by decide +kernel
theorem dX8_walkers_29 : decode cX8_walkers 29 = .ok (.ishl, 1) := by decide +kernel
theorem dX8_walkers_30 : decode cX8_walkers 30 = .ok (.ior, 1) := by decide +kernel
theorem dX8_walkers_31 : decode cX8_walkers 31 = .ok (.istore_n 1, 1) := by decide +kernel
theorem dX8_walkers_32 : decode cX8_walkers 32 = .ok (.iinc 2 1, 3) := by decide +kernel
theorem dX8_walkers_35 : decode cX8_walkers 35 = .ok (.goto (-31), 3) := by decide +kernel
theorem dX8_walkers_38 : decode cX8_walkers 38 = .ok (.iload_n 1, 1) := by decide +kernel
theorem dX8_walkers_39 : decode cX8_walkers 39 = .ok (.ireturn, 1) := by decide +kernel
theorem dX8_setOut_0 : decode cX8_setOut 0 = .ok (.aload_n 0, 1) := by decide +kernel
theorem dX8_setOut_1 : decode cX8_setOut 1 = .ok (.iconst 0, 1) := by decide +kernel
theorem dX8_setOut_2 : decode cX8_setOut 2 = .ok (.iconst 3, 1) := by decide +kernel
theorem dX8_setOut_3 : decode cX8_setOut 3 = .ok (.invokevirtual 186, 3) := by decide +kernel
theorem dX8_setOut_6 : decode cX8_setOut 6 = .ok (.bipush 93, 2) := by decide +kernel
theorem dX8_setOut_8 : decode cX8_setOut 8 = .ok (.istore_n 2, 1) := by decide +kernel
theorem dX8_setOut_9 : decode cX8_setOut 9 = .ok (.aload_n 0, 1) := by decide +kernel
theorem dX8_setOut_10 : decode cX8_setOut 10 = .ok (.getfield 7, 3) := by decide +kernel
theorem dX8_setOut_13 : decode cX8_setOut 13 = .ok (.iload_n 2, 1) := by decide +kernel
theorem dX8_setOut_14 : decode cX8_setOut 14 = .ok (.bipush 6, 2) := by decide +kernel
theorem dX8_setOut_16 : decode cX8_setOut 16 = .ok (.iadd, 1) := by decide +kernel
theorem dX8_setOut_17 : decode cX8_setOut 17 = .ok (.aload_n 0, 1) := by decide +kernel
theorem dX8_setOut_18 : decode cX8_setOut 18 = .ok (.getfield 7, 3) := by decide +kernel
theorem dX8_setOut_21 : decode cX8_setOut 21 = .ok (.iload_n 2, 1) := by decide +kernel
theorem dX8_setOut_22 : decode cX8_setOut 22 = .ok (.bipush 6, 2) := by decide +kernel
theorem dX8_setOut_24 : decode cX8_setOut 24 = .ok (.iadd, 1) := by decide +kernel
theorem dX8_setOut_25 : decode cX8_setOut 25 = .ok (.iaload, 1) := by decide +kernel
theorem dX8_setOut_26 : decode cX8_setOut 26 = .ok (.aload_n 0, 1) := by decide +kernel
theorem dX8_setOut_27 : decode cX8_setOut 27 = .ok (.invokevirtual 192, 3) := by decide +kernel
theorem dX8_setOut_30 : decode cX8_setOut 30 = .ok (.iconst (-1), 1) := by decide +kernel
theorem dX8_setOut_31 : decode cX8_setOut 31 = .ok (.ixor, 1) := by decide +kernel
theorem dX8_setOut_32 : decode cX8_setOut 32 = .ok (.iand, 1) := by decide +kernel
theorem dX8_setOut_33 : decode cX8_setOut 33 = .ok (.iload_n 1, 1) := by decide +kernel
theorem dX8_setOut_34 : decode cX8_setOut 34 = .ok (.ior, 1) := by decide +kernel
theorem dX8_setOut_35 : decode cX8_setOut 35 = .ok (.iastore, 1) := by decide +kernel
theorem dX8_setOut_36 : decode cX8_setOut 36 = .ok (.return_, 1) := by decide +kernel
theorem dX8_isOut_0 : decode cX8_isOut 0 = .ok (.iload_n 1, 1) := by decide +kernel
theorem dX8_isOut_1 : decode cX8_isOut 1 = .ok (.aload_n 0, 1) := by decide +kernel
theorem dX8_isOut_2 : decode cX8_isOut 2 = .ok (.invokevirtual 192, 3) := by decide +kernel
theorem dX8_isOut_5 : decode cX8_isOut 5 = .ok (.iconst (-1), 1) := by decide +kernel
theorem dX8_isOut_6 : decode cX8_isOut 6 = .ok (.ixor, 1) := by decide +kernel
theorem dX8_isOut_7 : decode cX8_isOut 7 = .ok (.iand, 1) := by decide +kernel
theorem dX8_isOut_8 : decode cX8_isOut 8 = .ok (.ifCond .ne 7, 3) := by decide +kernel
theorem dX8_isOut_11 : decode cX8_isOut 11 = .ok (.iconst 1, 1) := by decide +kernel
theorem dX8_isOut_12 : decode cX8_isOut 12 = .ok (.goto 4, 3) := by decide +kernel
theorem dX8_isOut_15 : decode cX8_isOut 15 = .ok (.iconst 0, 1) := by decide +kernel
theorem dX8_isOut_16 : decode cX8_isOut 16 = .ok (.ireturn, 1) := by decide +kernel
theorem dX8_soon_0 : decode cX8_soon 0 = .ok (.aload_n 0, 1) := by decide +kernel
theorem dX8_soon_1 : decode cX8_soon 1 = .ok (.getfield 7, 3) := by decide +kernel
theorem dX8_soon_4 : decode cX8_soon 4 = .ok (.iconst 0, 1) := by decide +kernel
theorem dX8_soon_5 : decode cX8_soon 5 = .ok (.iaload, 1) := by decide +kernel
theorem dX8_soon_6 : decode cX8_soon 6 = .ok (.ifCond .ne 6, 3) := by decide +kernel
theorem dX8_soon_9 : decode cX8_soon 9 = .ok (.ldc 159, 2) := by decide +kernel
theorem dX8_soon_11 : decode cX8_soon 11 = .ok (.ireturn, 1) := by decide +kernel
theorem dX8_soon_12 : decode cX8_soon 12 = .ok (.iload_n 1, 1) := by decide +kernel
theorem dX8_soon_13 : decode cX8_soon 13 = .ok (.i2l, 1) := by decide +kernel
theorem dX8_soon_14 : decode cX8_soon 14 = .ok (.lconst 0, 1) := by decide +kernel
theorem dX8_soon_15 : decode cX8_soon 15 = .ok (.lconst 1, 1) := by decide +kernel
theorem dX8_soon_16 : decode cX8_soon 16 = .ok (.invokestatic 42, 3) := by decide +kernel
theorem dX8_soon_19 : decode cX8_soon 19 = .ok (.ifCond .ne 6, 3) := by decide +kernel
theorem dX8_soon_22 : decode cX8_soon 22 = .ok (.ldc 52, 2) := by decide +kernel
theorem dX8_soon_24 : decode cX8_soon 24 = .ok (.ireturn, 1) := by decide +kernel
theorem dX8_soon_25 : decode cX8_soon 25 = .ok (.iconst 1, 1) := by decide +kernel
theorem dX8_soon_26 : decode cX8_soon 26 = .ok (.aload_n 0, 1) := by decide +kernel
theorem dX8_soon_27 : decode cX8_soon 27 = .ok (.getfield 7, 3) := by decide +kernel
theorem dX8_soon_30 : decode cX8_soon 30 = .ok (.iconst 3, 1) := by decide +kernel
theorem dX8_soon_31 : decode cX8_soon 31 = .ok (.iaload, 1) := by decide +kernel
theorem dX8_soon_32 : decode cX8_soon 32 = .ok (.ishl, 1) := by decide +kernel
theorem dX8_soon_33 : decode cX8_soon 33 = .ok (.iconst 1, 1) := by decide +kernel
theorem dX8_soon_34 : decode cX8_soon 34 = .ok (.isub, 1) := by decide +kernel
theorem dX8_soon_35 : decode cX8_soon 35 = .ok (.istore_n 2, 1) := by decide +kernel
theorem dX8_soon_36 : decode cX8_soon 36 = .ok (.bipush 121, 2) := by decide +kernel
theorem dX8_soon_38 : decode cX8_soon 38 = .ok (.istore_n 3, 1) := by decide +kernel
theorem dX8_soon_39 : decode cX8_soon 39 = .ok (.ldc 19, 2) := by decide +kernel
theorem dX8_soon_41 : decode cX8_soon 41 = .ok (.istore 4, 2) := by decide +kernel
theorem dX8_soon_43 : decode cX8_soon 43 = .ok (.iconst 0, 1) := by decide +kernel
theorem dX8_soon_44 : decode cX8_soon 44 = .ok (.istore 5, 2) := by decide +kernel
theorem dX8_soon_46 : decode cX8_soon 46 = .ok (.iload 5, 2) := by decide +kernel
theorem dX8_soon_48 : decode cX8_soon 48 = .ok (.iload_n 2, 1) := by decide +kernel
theorem dX8_soon_49 : decode cX8_soon 49 = .ok (.if_icmp .gt 78, 3) := by decide +kernel
theorem dX8_soon_52 : decode cX8_soon 52 = .ok (.aload_n 0, 1) := by decide +kernel
theorem dX8_soon_53 : decode cX8_soon 53 = .ok (.iload 5, 2) := by decide +kernel
theorem dX8_soon_55 : decode cX8_soon 55 = .ok (.invokevirtual 195, 3) := by decide +kernel
theorem dX8_soon_58 : decode cX8_soon 58 = .ok (.ifCond .eq 7, 3) := by decide +kernel
theorem dX8_soon_61 : decode cX8_soon 61 = .ok (.iconst 0, 1) := by decide +kernel
theorem dX8_soon_62 : decode cX8_soon 62 = .ok (.goto 4, 3) := by decide +kernel
theorem dX8_soon_65 : decode cX8_soon 65 = .ok (.iload_n 3, 1) := by decide +kernel
theorem dX8_soon_66 : decode cX8_soon 66 = .ok (.istore 6, 2) := by decide +kernel
theorem dX8_soon_68 : decode cX8_soon 68 = .ok (.aload_n 0, 1) := by decide +kernel
theorem dX8_soon_69 : decode cX8_soon 69 = .ok (.iload 5, 2) := by decide +kernel
theorem dX8_soon_71 : decode cX8_soon 71 = .ok (.aload_n 0, 1) := by decide +kernel
theorem dX8_soon_72 : decode cX8_soon 72 = .ok (.invokevirtual 192, 3) := by decide +kernel
theorem dX8_soon_75 : decode cX8_soon 75 = .ok (.iand, 1) := by decide +kernel
theorem dX8_soon_76 : decode cX8_soon 76 = .ok (.invokevirtual 198, 3) := by decide +kernel
theorem dX8_soon_79 : decode cX8_soon 79 = .ok (.iload 6, 2) := by decide +kernel
theorem dX8_soon_81 : decode cX8_soon 81 = .ok (.iload_n 3, 1) := by decide +kernel
theorem dX8_soon_82 : decode cX8_soon 82 = .ok (.if_icmp .ge 26, 3) := by decide +kernel
theorem dX8_soon_85 : decode cX8_soon 85 = .ok (.aload_n 0, 1) := by decide +kernel
theorem dX8_soon_86 : decode cX8_soon 86 = .ok (.getfield 7, 3) := by decide +kernel
theorem dX8_soon_89 : decode cX8_soon 89 = .ok (.bipush 98, 2) := by decide +kernel
theorem dX8_soon_91 : decode cX8_soon 91 = .ok (.iaload, 1) := by decide +kernel
theorem dX8_soon_92 : decode cX8_soon 92 = .ok (.iload_n 2, 1) := by decide +kernel
theorem dX8_soon_93 : decode cX8_soon 93 = .ok (.if_icmp .eq 15, 3) := by decide +kernel
theorem dX8_soon_96 : decode cX8_soon 96 = .ok (.aload_n 0, 1) := by decide +kernel
theorem dX8_soon_97 : decode cX8_soon 97 = .ok (.bipush 93, 2) := by decide +kernel
theorem dX8_soon_99 : decode cX8_soon 99 = .ok (.invokevirtual 165, 3) := by decide +kernel
theorem dX8_soon_102 : decode cX8_soon 102 = .ok (.iinc 6 1, 3) := by decide +kernel
theorem dX8_soon_105 : decode cX8_soon 105 = .ok (.goto (-26), 3) := by decide +kernel
theorem dX8_soon_108 : decode cX8_soon 108 = .ok (.iload 6, 2) := by decide +kernel
theorem dX8_soon_110 : decode cX8_soon 110 = .ok (.iload_n 3, 1) := by decide +kernel
theorem dX8_soon_111 : decode cX8_soon 111 = .ok (.if_icmp .ge 10, 3) := by decide +kernel
theorem dX8_soon_114 : decode cX8_soon 114 = .ok (.iload 6, 2) := by decide +kernel
theorem dX8_soon_116 : decode cX8_soon 116 = .ok (.istore_n 3, 1) := by decide +kernel
theorem dX8_soon_117 : decode cX8_soon 117 = .ok (.iload 5, 2) := by decide +kernel
theorem dX8_soon_119 : decode cX8_soon 119 = .ok (.istore 4, 2) := by decide +kernel
theorem dX8_soon_121 : decode cX8_soon 121 = .ok (.iinc 5 1, 3) := by decide +kernel
theorem dX8_soon_124 : decode cX8_soon 124 = .ok (.goto (-78), 3) := by decide +kernel
theorem dX8_soon_127 : decode cX8_soon 127 = .ok (.iload 4, 2) := by decide +kernel
theorem dX8_soon_129 : decode cX8_soon 129 = .ok (.ldc 19, 2) := by decide +kernel
theorem dX8_soon_131 : decode cX8_soon 131 = .ok (.if_icmp .ne 8, 3) := by decide +kernel
theorem dX8_soon_134 : decode cX8_soon 134 = .ok (.ldc 19, 2) := by decide +kernel
theorem dX8_soon_136 : decode cX8_soon 136 = .ok (.goto 13, 3) := by decide +kernel
theorem dX8_soon_139 : decode cX8_soon 139 = .ok (.iload_n 1, 1) := by decide +kernel
theorem dX8_soon_140 : decode cX8_soon 140 = .ok (.ifCond .ne 7, 3) := by decide +kernel
theorem dX8_soon_143 : decode cX8_soon 143 = .ok (.iload_n 3, 1) := by decide +kernel
theorem dX8_soon_144 : decode cX8_soon 144 = .ok (.goto 5, 3) := by decide +kernel
theorem dX8_soon_147 : decode cX8_soon 147 = .ok (.iload 4, 2) := by decide +kernel
theorem dX8_soon_149 : decode cX8_soon 149 = .ok (.ireturn, 1) := by decide +kernel
theorem dX8_layFit_0 : decode cX8_layFit 0 = .ok (.aload_n 0, 1) := by decide +kernel
theorem dX8_layFit_1 : decode cX8_layFit 1 = .ok (.iload_n 1, 1) := by decide +kernel
theorem dX8_layFit_2 : decode cX8_layFit 2 = .ok (.ifCond .eq 14, 3) := by decide +kernel
theorem dX8_layFit_5 : decode cX8_layFit 5 = .ok (.aload_n 0, 1) := by decide +kernel
theorem dX8_layFit_6 : decode cX8_layFit 6 = .ok (.getfield 201, 3) := by decide +kernel
theorem dX8_layFit_9 : decode cX8_layFit 9 = .ok (.ifCond .ne 7, 3) := by decide +kernel
theorem dX8_layFit_12 : decode cX8_layFit 12 = .ok (.iload_n 2, 1) := by decide +kernel
theorem dX8_layFit_13 : decode cX8_layFit 13 = .ok (.goto 7, 3) := by decide +kernel
theorem dX8_layFit_16 : decode cX8_layFit 16 = .ok (.aload_n 0, 1) := by decide +kernel
theorem dX8_layFit_17 : decode cX8_layFit 17 = .ok (.getfield 204, 3) := by decide +kernel
theorem dX8_layFit_20 : decode cX8_layFit 20 = .ok (.putfield 204, 3) := by decide +kernel
theorem dX8_layFit_23 : decode cX8_layFit 23 = .ok (.aload_n 0, 1) := by decide +kernel
theorem dX8_layFit_24 : decode cX8_layFit 24 = .ok (.dup, 1) := by decide +kernel
theorem dX8_layFit_25 : decode cX8_layFit 25 = .ok (.getfield 201, 3) := by decide +kernel
theorem dX8_layFit_28 : decode cX8_layFit 28 = .ok (.iload_n 1, 1) := by decide +kernel
theorem dX8_layFit_29 : decode cX8_layFit 29 = .ok (.ifCond .eq 7, 3) := by decide +kernel
theorem dX8_layFit_32 : decode cX8_layFit 32 = .ok (.iconst 1, 1) := by decide +kernel
theorem dX8_layFit_33 : decode cX8_layFit 33 = .ok (.goto 4, 3) := by decide +kernel
theorem dX8_layFit_36 : decode cX8_layFit 36 = .ok (.iconst 0, 1) := by decide +kernel
theorem dX8_layFit_37 : decode cX8_layFit 37 = .ok (.iadd, 1) := by decide +kernel
theorem dX8_layFit_38 : decode cX8_layFit 38 = .ok (.putfield 201, 3) := by decide +kernel
theorem dX8_layFit_41 : decode cX8_layFit 41 = .ok (.return_, 1) := by decide +kernel
theorem dX8_layNone_0 : decode cX8_layNone 0 = .ok (.aload_n 0, 1) := by decide +kernel
theorem dX8_layNone_1 : decode cX8_layNone 1 = .ok (.iconst 0, 1) := by decide +kernel
theorem dX8_layNone_2 : decode cX8_layNone 2 = .ok (.putfield 201, 3) := by decide +kernel
theorem dX8_layNone_5 : decode cX8_layNone 5 = .ok (.aload_n 0, 1) := by decide +kernel
theorem dX8_layNone_6 : decode cX8_layNone 6 = .ok (.ldc 19, 2) := by decide +kernel
theorem dX8_layNone_8 : decode cX8_layNone 8 = .ok (.putfield 204, 3) := by decide +kernel
theorem dX8_layNone_11 : decode cX8_layNone 11 = .ok (.return_, 1) := by decide +kernel
theorem dX8_clean_0 : decode cX8_clean 0 = .ok (.aload_n 0, 1) := by decide +kernel
theorem dX8_clean_1 : decode cX8_clean 1 = .ok (.iload_n 1, 1) := by decide +kernel
theorem dX8_clean_2 : decode cX8_clean 2 = .ok (.invokevirtual 168, 3) := by decide +kernel
theorem dX8_clean_5 : decode cX8_clean 5 = .ok (.ifCond .eq 41, 3) := by decide +kernel
theorem dX8_clean_8 : decode cX8_clean 8 = .ok (.iload_n 2, 1) := by decide +kernel
theorem dX8_clean_9 : decode cX8_clean 9 = .ok (.i2l, 1) := by decide +kernel
theorem dX8_clean_10 : decode cX8_clean 10 = .ok (.lconst 0, 1) := by decide +kernel
theorem dX8_clean_11 : decode cX8_clean 11 = .ok (.iconst 1, 1) := by decide +kernel
theorem dX8_clean_12 : decode cX8_clean 12 = .ok (.aload_n 0, 1) := by decide +kernel
theorem dX8_clean_13 : decode cX8_clean 13 = .ok (.getfield 7, 3) := by decide +kernel
theorem dX8_clean_16 : decode cX8_clean 16 = .ok (.iconst 3, 1) := by decide +kernel
theorem dX8_clean_17 : decode cX8_clean 17 = .ok (.iaload, 1) := by decide +kernel
theorem dX8_clean_18 : decode cX8_clean 18 = .ok (.ishl, 1) := by decide +kernel
theorem dX8_clean_19 : decode cX8_clean 19 = .ok (.iconst 1, 1) := by decide +kernel
theorem dX8_clean_20 : decode cX8_clean 20 = .ok (.isub, 1) := by decide +kernel
theorem dX8_clean_21 : decode cX8_clean 21 = .ok (.i2l, 1) := by decide +kernel
theorem dX8_clean_22 : decode cX8_clean 22 = .ok (.invokestatic 42, 3) := by decide +kernel
theorem dX8_clean_25 : decode cX8_clean 25 = .ok (.ifCond .eq 21, 3) := by decide +kernel
theorem dX8_clean_28 : decode cX8_clean 28 = .ok (.iload_n 3, 1) := by decide +kernel
theorem dX8_clean_29 : decode cX8_clean 29 = .ok (.invokestatic 183, 3) := by decide +kernel
theorem dX8_clean_32 : decode cX8_clean 32 = .ok (.ifCond .eq 14, 3) := by decide +kernel
theorem dX8_clean_35 : decode cX8_clean 35 = .ok (.iload 4, 2) := by decide +kernel
theorem dX8_clean_37 : decode cX8_clean 37 = .ok (.i2l, 1) := by decide +kernel
theorem dX8_clean_38 : decode cX8_clean 38 = .ok (.lconst 0, 1) := by decide +kernel
theorem dX8_clean_39 : decode cX8_clean 39 = .ok (.lconst 1, 1) := by decide +kernel
theorem dX8_clean_40 : decode cX8_clean 40 = .ok (.invokestatic 42, 3) := by decide +kernel
theorem dX8_clean_43 : decode cX8_clean 43 = .ok (.ifCond .ne 6, 3) := by decide +kernel
theorem dX8_clean_46 : decode cX8_clean 46 = .ok (.ldc 52, 2) := by decide +kernel
theorem dX8_clean_48 : decode cX8_clean 48 = .ok (.ireturn, 1) := by decide +kernel
theorem dX8_clean_49 : decode cX8_clean 49 = .ok (.aload_n 0, 1) := by decide +kernel
theorem dX8_clean_50 : decode cX8_clean 50 = .ok (.invokevirtual 207, 3) := by decide +kernel
theorem dX8_clean_53 : decode cX8_clean 53 = .ok (.iconst 0, 1) := by decide +kernel
theorem dX8_clean_54 : decode cX8_clean 54 = .ok (.istore 5, 2) := by decide +kernel
theorem dX8_clean_56 : decode cX8_clean 56 = .ok (.iload 5, 2) := by decide +kernel
theorem dX8_clean_58 : decode cX8_clean 58 = .ok (.iconst 1, 1) := by decide +kernel
theorem dX8_clean_59 : decode cX8_clean 59 = .ok (.aload_n 0, 1) := by decide +kernel
theorem dX8_clean_60 : decode cX8_clean 60 = .ok (.getfield 7, 3) := by decide +kernel
theorem dX8_clean_63 : decode cX8_clean 63 = .ok (.iconst 3, 1) := by decide +kernel
theorem dX8_clean_64 : decode cX8_clean 64 = .ok (.iaload, 1) := by decide +kernel
theorem dX8_clean_65 : decode cX8_clean 65 = .ok (.ishl, 1) := by decide +kernel
theorem dX8_clean_66 : decode cX8_clean 66 = .ok (.if_icmp .ge 46, 3) := by decide +kernel
theorem dX8_clean_69 : decode cX8_clean 69 = .ok (.aload_n 0, 1) := by decide +kernel
theorem dX8_clean_70 : decode cX8_clean 70 = .ok (.iload 5, 2) := by decide +kernel
theorem dX8_clean_72 : decode cX8_clean 72 = .ok (.invokevirtual 195, 3) := by decide +kernel
theorem dX8_clean_75 : decode cX8_clean 75 = .ok (.ifCond .eq 31, 3) := by decide +kernel
theorem dX8_clean_78 : decode cX8_clean 78 = .ok (.aload_n 0, 1) := by decide +kernel
theorem dX8_clean_79 : decode cX8_clean 79 = .ok (.iload 5, 2) := by decide +kernel
theorem dX8_clean_81 : decode cX8_clean 81 = .ok (.invokevirtual 198, 3) := by decide +kernel
theorem dX8_clean_84 : decode cX8_clean 84 = .ok (.aload_n 0, 1) := by decide +kernel
theorem dX8_clean_85 : decode cX8_clean 85 = .ok (.aload_n 0, 1) := by decide +kernel
theorem dX8_clean_86 : decode cX8_clean 86 = .ok (.iload_n 1, 1) := by decide +kernel
theorem dX8_clean_87 : decode cX8_clean 87 = .ok (.iload_n 3, 1) := by decide +kernel
theorem dX8_clean_88 : decode cX8_clean 88 = .ok (.invokevirtual 189, 3) := by decide +kernel
theorem dX8_clean_91 : decode cX8_clean 91 = .ok (.iload_n 2, 1) := by decide +kernel
theorem dX8_clean_92 : decode cX8_clean 92 = .ok (.iand, 1) := by decide +kernel
theorem dX8_clean_93 : decode cX8_clean 93 = .ok (.ifCond .ne 7, 3) := by decide +kernel
theorem dX8_clean_96 : decode cX8_clean 96 = .ok (.iconst 1, 1) := by decide +kernel
theorem dX8_clean_97 : decode cX8_clean 97 = .ok (.goto 4, 3) := by decide +kernel
theorem dX8_clean_100 : decode cX8_clean 100 = .ok (.iconst 0, 1) := by decide +kernel
theorem dX8_clean_101 : decode cX8_clean 101 = .ok (.iload 5, 2) := by decide +kernel
theorem dX8_clean_103 : decode cX8_clean 103 = .ok (.invokevirtual 210, 3) := by decide +kernel
theorem dX8_clean_106 : decode cX8_clean 106 = .ok (.iinc 5 1, 3) := by decide +kernel
theorem dX8_clean_109 : decode cX8_clean 109 = .ok (.goto (-53), 3) := by decide +kernel
theorem dX8_clean_112 : decode cX8_clean 112 = .ok (.iload 4, 2) := by decide +kernel
theorem dX8_clean_114 : decode cX8_clean 114 = .ok (.ifCond .ne 10, 3) := by decide +kernel
theorem dX8_clean_117 : decode cX8_clean 117 = .ok (.aload_n 0, 1) := by decide +kernel
theorem dX8_clean_118 : decode cX8_clean 118 = .ok (.getfield 201, 3) := by decide +kernel
theorem dX8_clean_121 : decode cX8_clean 121 = .ok (.goto 7, 3) := by decide +kernel
theorem dX8_clean_124 : decode cX8_clean 124 = .ok (.aload_n 0, 1) := by decide +kernel
theorem dX8_clean_125 : decode cX8_clean 125 = .ok (.getfield 204, 3) := by decide +kernel
theorem dX8_clean_128 : decode cX8_clean 128 = .ok (.ireturn, 1) := by decide +kernel
theorem dX8_hands_0 : decode cX8_hands 0 = .ok (.aload_n 0, 1) := by decide +kernel
theorem dX8_hands_1 : decode cX8_hands 1 = .ok (.iload_n 1, 1) := by decide +kernel
theorem dX8_hands_2 : decode cX8_hands 2 = .ok (.invokevirtual 168, 3) := by decide +kernel
theorem dX8_hands_5 : decode cX8_hands 5 = .ok (.ifCond .eq 20, 3) := by decide +kernel
theorem dX8_hands_8 : decode cX8_hands 8 = .ok (.iload_n 2, 1) := by decide +kernel
theorem dX8_hands_9 : decode cX8_hands 9 = .ok (.invokestatic 183, 3) := by decide +kernel
theorem dX8_hands_12 : decode cX8_hands 12 = .ok (.ifCond .eq 13, 3) := by decide +kernel
theorem dX8_hands_15 : decode cX8_hands 15 = .ok (.iload_n 3, 1) := by decide +kernel
theorem dX8_hands_16 : decode cX8_hands 16 = .ok (.i2l, 1) := by decide +kernel
theorem dX8_hands_17 : decode cX8_hands 17 = .ok (.lconst 0, 1) := by decide +kernel
theorem dX8_hands_18 : decode cX8_hands 18 = .ok (.lconst 1, 1) := by decide +kernel
theorem dX8_hands_19 : decode cX8_hands 19 = .ok (.invokestatic 42, 3) := by decide +kernel
theorem dX8_hands_22 : decode cX8_hands 22 = .ok (.ifCond .ne 6, 3) := by decide +kernel
theorem dX8_hands_25 : decode cX8_hands 25 = .ok (.ldc 52, 2) := by decide +kernel
theorem dX8_hands_27 : decode cX8_hands 27 = .ok (.ireturn, 1) := by decide +kernel
theorem dX8_hands_28 : decode cX8_hands 28 = .ok (.iconst 0, 1) := by decide +kernel
theorem dX8_hands_29 : decode cX8_hands 29 = .ok (.istore 4, 2) := by decide +kernel
theorem dX8_hands_31 : decode cX8_hands 31 = .ok (.iconst 0, 1) := by decide +kernel
theorem dX8_hands_32 : decode cX8_hands 32 = .ok (.istore 5, 2) := by decide +kernel
theorem dX8_hands_34 : decode cX8_hands 34 = .ok (.iconst 0, 1) := by decide +kernel
theorem dX8_hands_35 : decode cX8_hands 35 = .ok (.istore 6, 2) := by decide +kernel
theorem dX8_hands_37 : decode cX8_hands 37 = .ok (.iload 6, 2) := by decide +kernel
theorem dX8_hands_39 : decode cX8_hands 39 = .ok (.iconst 1, 1) := by decide +kernel
theorem dX8_hands_40 : decode cX8_hands 40 = .ok (.aload_n 0, 1) := by decide +kernel
theorem dX8_hands_41 : decode cX8_hands 41 = .ok (.getfield 7, 3) := by decide +kernel
theorem dX8_hands_44 : decode cX8_hands 44 = .ok (.iconst 3, 1) := by decide +kernel
theorem dX8_hands_45 : decode cX8_hands 45 = .ok (.iaload, 1) := by decide +kernel
theorem dX8_hands_46 : decode cX8_hands 46 = .ok (.ishl, 1) := by decide +kernel
theorem dX8_hands_47 : decode cX8_hands 47 = .ok (.if_icmp .ge 41, 3) := by decide +kernel
theorem dX8_hands_50 : decode cX8_hands 50 = .ok (.aload_n 0, 1) := by decide +kernel
theorem dX8_hands_51 : decode cX8_hands 51 = .ok (.iload 6, 2) := by decide +kernel
theorem dX8_hands_53 : decode cX8_hands 53 = .ok (.invokevirtual 195, 3) := by decide +kernel
theorem dX8_hands_56 : decode cX8_hands 56 = .ok (.ifCond .eq 26, 3) := by decide +kernel
theorem dX8_hands_59 : decode cX8_hands 59 = .ok (.aload_n 0, 1) := by decide +kernel
theorem dX8_hands_60 : decode cX8_hands 60 = .ok (.iload 6, 2) := by decide +kernel
theorem dX8_hands_62 : decode cX8_hands 62 = .ok (.invokevirtual 198, 3) := by decide +kernel
theorem dX8_hands_65 : decode cX8_hands 65 = .ok (.iload 4, 2) := by decide +kernel
theorem dX8_hands_67 : decode cX8_hands 67 = .ok (.aload_n 0, 1) := by decide +kernel
theorem dX8_hands_68 : decode cX8_hands 68 = .ok (.iload_n 1, 1) := by decide +kernel
theorem dX8_hands_69 : decode cX8_hands 69 = .ok (.iload_n 2, 1) := by decide +kernel
theorem dX8_hands_70 : decode cX8_hands 70 = .ok (.invokevirtual 189, 3) := by decide +kernel
theorem dX8_hands_73 : decode cX8_hands 73 = .ok (.invokestatic 214, 3) := by decide +kernel
theorem dX8_hands_76 : decode cX8_hands 76 = .ok (.iadd, 1) := by decide +kernel
theorem dX8_hands_77 : decode cX8_hands 77 = .ok (.istore 4, 2) := by decide +kernel
theorem dX8_hands_79 : decode cX8_hands 79 = .ok (.iinc 5 1, 3) := by decide +kernel
theorem dX8_hands_82 : decode cX8_hands 82 = .ok (.iinc 6 1, 3) := by decide +kernel
theorem dX8_hands_85 : decode cX8_hands 85 = .ok (.goto (-48), 3) := by decide +kernel
theorem dX8_hands_88 : decode cX8_hands 88 = .ok (.iload 4, 2) := by decide +kernel
theorem dX8_hands_90 : decode cX8_hands 90 = .ok (.istore 6, 2) := by decide +kernel
theorem dX8_hands_92 : decode cX8_hands 92 = .ok (.iload 5, 2) := by decide +kernel
theorem dX8_hands_94 : decode cX8_hands 94 = .ok (.istore 7, 2) := by decide +kernel
theorem dX8_hands_96 : decode cX8_hands 96 = .ok (.iload 7, 2) := by decide +kernel
theorem dX8_hands_98 : decode cX8_hands 98 = .ok (.ifCond .eq 21, 3) := by decide +kernel
theorem dX8_hands_101 : decode cX8_hands 101 = .ok (.iload 6, 2) := by decide +kernel
theorem dX8_hands_103 : decode cX8_hands 103 = .ok (.iload 7, 2) := by decide +kernel
theorem dX8_hands_105 : decode cX8_hands 105 = .ok (.irem, 1) := by decide +kernel
theorem dX8_hands_106 : decode cX8_hands 106 = .ok (.istore 8, 2) := by decide +kernel
theorem dX8_hands_108 : decode cX8_hands 108 = .ok (.iload 7, 2) := by decide +kernel
theorem dX8_hands_110 : decode cX8_hands 110 = .ok (.istore 6, 2) := by decide +kernel
theorem dX8_hands_112 : decode cX8_hands 112 = .ok (.iload 8, 2) := by decide +kernel
theorem dX8_hands_114 : decode cX8_hands 114 = .ok (.istore 7, 2) := by decide +kernel
theorem dX8_hands_116 : decode cX8_hands 116 = .ok (.goto (-20), 3) := by decide +kernel
theorem dX8_hands_119 : decode cX8_hands 119 = .ok (.iload_n 3, 1) := by decide +kernel
theorem dX8_hands_120 : decode cX8_hands 120 = .ok (.ifCond .ne 11, 3) := by decide +kernel
theorem dX8_hands_123 : decode cX8_hands 123 = .ok (.iload 4, 2) := by decide +kernel
theorem dX8_hands_125 : decode cX8_hands 125 = .ok (.iload 6, 2) := by decide +kernel
theorem dX8_hands_127 : decode cX8_hands 127 = .ok (.idiv, 1) := by decide +kernel
theorem dX8_hands_128 : decode cX8_hands 128 = .ok (.goto 8, 3) := by decide +kernel
theorem dX8_hands_131 : decode cX8_hands 131 = .ok (.iload 5, 2) := by decide +kernel
theorem dX8_hands_133 : decode cX8_hands 133 = .ok (.iload 6, 2) := by decide +kernel
theorem dX8_hands_135 : decode cX8_hands 135 = .ok (.idiv, 1) := by decide +kernel
theorem dX8_hands_136 : decode cX8_hands 136 = .ok (.ireturn, 1) := by decide +kernel
theorem dX8_isAsTold_0 : decode cX8_isAsTold 0 = .ok (.iconst 1, 1) := by decide +kernel
theorem dX8_isAsTold_1 : decode cX8_isAsTold 1 = .ok (.istore_n 2, 1) := by decide +kernel
theorem dX8_isAsTold_2 : decode cX8_isAsTold 2 = .ok (.iconst 0, 1) := by decide +kernel
theorem dX8_isAsTold_3 : decode cX8_isAsTold 3 = .ok (.istore_n 3, 1) := by decide +kernel
theorem dX8_isAsTold_4 : decode cX8_isAsTold 4 = .ok (.iload_n 3, 1) := by decide +kernel
theorem dX8_isAsTold_5 : decode cX8_isAsTold 5 = .ok (.aload_n 0, 1) := by decide +kernel
theorem dX8_isAsTold_6 : decode cX8_isAsTold 6 = .ok (.getfield 7, 3) := by decide +kernel
theorem dX8_isAsTold_9 : decode cX8_isAsTold 9 = .ok (.iconst 3, 1) := by decide +kernel
theorem dX8_isAsTold_10 : decode cX8_isAsTold 10 = .ok (.iaload, 1) := by decide +kernel
theorem dX8_isAsTold_11 : decode cX8_isAsTold 11 = .ok (.if_icmp .ge 42, 3) := by decide +kernel
theorem dX8_isAsTold_14 : decode cX8_isAsTold 14 = .ok (.iload_n 2, 1) := by decide +kernel
theorem dX8_isAsTold_15 : decode cX8_isAsTold 15 = .ok (.ifCond .eq 30, 3) := by decide +kernel
theorem dX8_isAsTold_18 : decode cX8_isAsTold 18 = .ok (.aload_n 0, 1) := by decide +kernel
theorem dX8_isAsTold_19 : decode cX8_isAsTold 19 = .ok (.getfield 7, 3) := by decide +kernel
theorem dX8_isAsTold_22 : decode cX8_isAsTold 22 = .ok (.bipush 106, 2) := by decide +kernel
theorem dX8_isAsTold_24 : decode cX8_isAsTold 24 = .ok (.iload_n 3, 1) := by decide +kernel
theorem dX8_isAsTold_25 : decode cX8_isAsTold 25 = .ok (.iadd, 1) := by decide +kernel
theorem dX8_isAsTold_26 : decode cX8_isAsTold 26 = .ok (.iaload, 1) := by decide +kernel
theorem dX8_isAsTold_27 : decode cX8_isAsTold 27 = .ok (.aload_n 0, 1) := by decide +kernel
theorem dX8_isAsTold_28 : decode cX8_isAsTold 28 = .ok (.getfield 26, 3) := by decide +kernel
theorem dX8_isAsTold_31 : decode cX8_isAsTold 31 = .ok (.bipush 40, 2) := by decide +kernel
theorem dX8_isAsTold_33 : decode cX8_isAsTold 33 = .ok (.iload_n 1, 1) := by decide +kernel
theorem dX8_isAsTold_34 : decode cX8_isAsTold 34 = .ok (.imul, 1) := by decide +kernel
theorem dX8_isAsTold_35 : decode cX8_isAsTold 35 = .ok (.iload_n 3, 1) := by decide +kernel
theorem dX8_isAsTold_36 : decode cX8_isAsTold 36 = .ok (.iadd, 1) := by decide +kernel
theorem dX8_isAsTold_37 : decode cX8_isAsTold 37 = .ok (.iaload, 1) := by decide +kernel
theorem dX8_isAsTold_38 : decode cX8_isAsTold 38 = .ok (.if_icmp .ne 7, 3) := by decide +kernel
theorem dX8_isAsTold_41 : decode cX8_isAsTold 41 = .ok (.iconst 1, 1) := by decide +kernel
theorem dX8_isAsTold_42 : decode cX8_isAsTold 42 = .ok (.goto 4, 3) := by decide +kernel
theorem dX8_isAsTold_45 : decode cX8_isAsTold 45 = .ok (.iconst 0, 1) := by decide +kernel
theorem dX8_isAsTold_46 : decode cX8_isAsTold 46 = .ok (.istore_n 2, 1) := by decide +kernel
theorem dX8_isAsTold_47 : decode cX8_isAsTold 47 = .ok (.iinc 3 1, 3) := by decide +kernel
theorem dX8_isAsTold_50 : decode cX8_isAsTold 50 = .ok (.goto (-46), 3) := by decide +kernel
theorem dX8_isAsTold_53 : decode cX8_isAsTold 53 = .ok (.iload_n 2, 1) := by decide +kernel
theorem dX8_isAsTold_54 : decode cX8_isAsTold 54 = .ok (.ireturn, 1) := by decide +kernel
theorem dX8_began_0 : decode cX8_began 0 = .ok (.aload_n 0, 1) := by decide +kernel
theorem dX8_began_1 : decode cX8_began 1 = .ok (.getfield 7, 3) := by decide +kernel
theorem dX8_began_4 : decode cX8_began 4 = .ok (.iconst 0, 1) := by decide +kernel
theorem dX8_began_5 : decode cX8_began 5 = .ok (.iaload, 1) := by decide +kernel
theorem dX8_began_6 : decode cX8_began 6 = .ok (.ifCond .ne 6, 3) := by decide +kernel
theorem dX8_began_9 : decode cX8_began 9 = .ok (.ldc 159, 2) := by decide +kernel
theorem dX8_began_11 : decode cX8_began 11 = .ok (.ireturn, 1) := by decide +kernel
theorem dX8_began_12 : decode cX8_began 12 = .ok (.iload_n 1, 1) := by decide +kernel
theorem dX8_began_13 : decode cX8_began 13 = .ok (.invokestatic 46, 3) := by decide +kernel
theorem dX8_began_16 : decode cX8_began 16 = .ok (.ifCond .eq 20, 3) := by decide +kernel
theorem dX8_began_19 : decode cX8_began 19 = .ok (.iload_n 2, 1) := by decide +kernel
theorem dX8_began_20 : decode cX8_began 20 = .ok (.invokestatic 183, 3) := by decide +kernel
theorem dX8_began_23 : decode cX8_began 23 = .ok (.ifCond .eq 13, 3) := by decide +kernel
theorem dX8_began_26 : decode cX8_began 26 = .ok (.iload_n 3, 1) := by decide +kernel
theorem dX8_began_27 : decode cX8_began 27 = .ok (.i2l, 1) := by decide +kernel
theorem dX8_began_28 : decode cX8_began 28 = .ok (.lconst 0, 1) := by decide +kernel
theorem dX8_began_29 : decode cX8_began 29 = .ok (.lconst 1, 1) := by decide +kernel
theorem dX8_began_30 : decode cX8_began 30 = .ok (.invokestatic 42, 3) := by decide +kernel
theorem dX8_began_33 : decode cX8_began 33 = .ok (.ifCond .ne 6, 3) := by decide +kernel
theorem dX8_began_36 : decode cX8_began 36 = .ok (.ldc 52, 2) := by decide +kernel
theorem dX8_began_38 : decode cX8_began 38 = .ok (.ireturn, 1) := by decide +kernel
theorem dX8_began_39 : decode cX8_began 39 = .ok (.aload_n 0, 1) := by decide +kernel
theorem dX8_began_40 : decode cX8_began 40 = .ok (.getfield 20, 3) := by decide +kernel
theorem dX8_began_43 : decode cX8_began 43 = .ok (.iload_n 1, 1) := by decide +kernel
theorem dX8_began_44 : decode cX8_began 44 = .ok (.iaload, 1) := by decide +kernel
theorem dX8_began_45 : decode cX8_began 45 = .ok (.ldc 19, 2) := by decide +kernel
theorem dX8_began_47 : decode cX8_began 47 = .ok (.if_icmp .ne 9, 3) := by decide +kernel
theorem dX8_began_50 : decode cX8_began 50 = .ok (.aload_n 0, 1) := by decide +kernel
theorem dX8_began_51 : decode cX8_began 51 = .ok (.iconst 1, 1) := by decide +kernel
theorem dX8_began_52 : decode cX8_began 52 = .ok (.invokevirtual 53, 3) := by decide +kernel
theorem dX8_began_55 : decode cX8_began 55 = .ok (.ireturn, 1) := by decide +kernel
theorem dX8_began_56 : decode cX8_began 56 = .ok (.aload_n 0, 1) := by decide +kernel
theorem dX8_began_57 : decode cX8_began 57 = .ok (.getfield 23, 3) := by decide +kernel
theorem dX8_began_60 : decode cX8_began 60 = .ok (.iload_n 1, 1) := by decide +kernel
theorem dX8_began_61 : decode cX8_began 61 = .ok (.iaload, 1) := by decide +kernel
theorem dX8_began_62 : decode cX8_began 62 = .ok (.aload_n 0, 1) := by decide +kernel
theorem dX8_began_63 : decode cX8_began 63 = .ok (.getfield 7, 3) := by decide +kernel
theorem dX8_began_66 : decode cX8_began 66 = .ok (.iconst 3, 1) := by decide +kernel
theorem dX8_began_67 : decode cX8_began 67 = .ok (.iaload, 1) := by decide +kernel
theorem dX8_began_68 : decode cX8_began 68 = .ok (.if_icmp .ge 9, 3) := by decide +kernel
theorem dX8_began_71 : decode cX8_began 71 = .ok (.aload_n 0, 1) := by decide +kernel
theorem dX8_began_72 : decode cX8_began 72 = .ok (.iconst 2, 1) := by decide +kernel
theorem dX8_began_73 : decode cX8_began 73 = .ok (.invokevirtual 53, 3) := by decide +kernel
theorem dX8_began_76 : decode cX8_began 76 = .ok (.ireturn, 1) := by decide +kernel
theorem dX8_began_77 : decode cX8_began 77 = .ok (.iconst 0, 1) := by decide +kernel
theorem dX8_began_78 : decode cX8_began 78 = .ok (.istore 4, 2) := by decide +kernel
theorem dX8_began_80 : decode cX8_began 80 = .ok (.iload 4, 2) := by decide +kernel
theorem dX8_began_82 : decode cX8_began 82 = .ok (.aload_n 0, 1) := by decide +kernel
theorem dX8_began_83 : decode cX8_began 83 = .ok (.getfield 7, 3) := by decide +kernel
theorem dX8_began_86 : decode cX8_began 86 = .ok (.iconst 3, 1) := by decide +kernel
theorem dX8_began_87 : decode cX8_began 87 = .ok (.iaload, 1) := by decide +kernel
theorem dX8_began_88 : decode cX8_began 88 = .ok (.if_icmp .ge 31, 3) := by decide +kernel
theorem dX8_began_91 : decode cX8_began 91 = .ok (.aload_n 0, 1) := by decide +kernel
theorem dX8_began_92 : decode cX8_began 92 = .ok (.aload_n 0, 1) := by decide +kernel
theorem dX8_began_93 : decode cX8_began 93 = .ok (.getfield 26, 3) := by decide +kernel
theorem dX8_began_96 : decode cX8_began 96 = .ok (.bipush 40, 2) := by decide +kernel
theorem dX8_began_98 : decode cX8_began 98 = .ok (.iload_n 1, 1) := by decide +kernel
theorem dX8_began_99 : decode cX8_began 99 = .ok (.imul, 1) := by decide +kernel
theorem dX8_began_100 : decode cX8_began 100 = .ok (.iload 4, 2) := by decide +kernel
theorem dX8_began_102 : decode cX8_began 102 = .ok (.iadd, 1) := by decide +kernel
theorem dX8_began_103 : decode cX8_began 103 = .ok (.iaload, 1) := by decide +kernel
theorem dX8_began_104 : decode cX8_began 104 = .ok (.invokevirtual 168, 3) := by decide +kernel
theorem dX8_began_107 : decode cX8_began 107 = .ok (.ifCond .ne 6, 3) := by decide +kernel
theorem dX8_began_110 : decode cX8_began 110 = .ok (.ldc 52, 2) := by decide +kernel
theorem dX8_began_112 : decode cX8_began 112 = .ok (.ireturn, 1) := by decide +kernel
theorem dX8_began_113 : decode cX8_began 113 = .ok (.iinc 4 1, 3) := by decide +kernel
theorem dX8_began_116 : decode cX8_began 116 = .ok (.goto (-36), 3) := by decide +kernel
theorem dX8_began_119 : decode cX8_began 119 = .ok (.aload_n 0, 1) := by decide +kernel
theorem dX8_began_120 : decode cX8_began 120 = .ok (.invokevirtual 207, 3) := by decide +kernel
theorem dX8_began_123 : decode cX8_began 123 = .ok (.iconst 0, 1) := by decide +kernel
theorem dX8_began_124 : decode cX8_began 124 = .ok (.istore 4, 2) := by decide +kernel
theorem dX8_began_126 : decode cX8_began 126 = .ok (.iload 4, 2) := by decide +kernel
theorem dX8_began_128 : decode cX8_began 128 = .ok (.iconst 1, 1) := by decide +kernel
theorem dX8_began_129 : decode cX8_began 129 = .ok (.aload_n 0, 1) := by decide +kernel
theorem dX8_began_130 : decode cX8_began 130 = .ok (.getfield 7, 3) := by decide +kernel
theorem dX8_began_133 : decode cX8_began 133 = .ok (.iconst 3, 1) := by decide +kernel
theorem dX8_began_134 : decode cX8_began 134 = .ok (.iaload, 1) := by decide +kernel
theorem dX8_began_135 : decode cX8_began 135 = .ok (.ishl, 1) := by decide +kernel
theorem dX8_began_136 : decode cX8_began 136 = .ok (.if_icmp .ge 42, 3) := by decide +kernel
theorem dX8_began_139 : decode cX8_began 139 = .ok (.aload_n 0, 1) := by decide +kernel
theorem dX8_began_140 : decode cX8_began 140 = .ok (.iload 4, 2) := by decide +kernel
theorem dX8_began_142 : decode cX8_began 142 = .ok (.invokevirtual 195, 3) := by decide +kernel
theorem dX8_began_145 : decode cX8_began 145 = .ok (.ifCond .eq 27, 3) := by decide +kernel
theorem dX8_began_148 : decode cX8_began 148 = .ok (.aload_n 0, 1) := by decide +kernel
theorem dX8_began_149 : decode cX8_began 149 = .ok (.iload 4, 2) := by decide +kernel
theorem dX8_began_151 : decode cX8_began 151 = .ok (.invokevirtual 198, 3) := by decide +kernel
theorem dX8_began_154 : decode cX8_began 154 = .ok (.aload_n 0, 1) := by decide +kernel
theorem dX8_began_155 : decode cX8_began 155 = .ok (.iconst 0, 1) := by decide +kernel
theorem dX8_began_156 : decode cX8_began 156 = .ok (.iload_n 2, 1) := by decide +kernel
theorem dX8_began_157 : decode cX8_began 157 = .ok (.invokevirtual 189, 3) := by decide +kernel
theorem dX8_began_160 : decode cX8_began 160 = .ok (.pop, 1) := by decide +kernel
theorem dX8_began_161 : decode cX8_began 161 = .ok (.aload_n 0, 1) := by decide +kernel
theorem dX8_began_162 : decode cX8_began 162 = .ok (.aload_n 0, 1) := by decide +kernel
theorem dX8_began_163 : decode cX8_began 163 = .ok (.iload_n 1, 1) := by decide +kernel
theorem dX8_began_164 : decode cX8_began 164 = .ok (.invokevirtual 217, 3) := by decide +kernel
theorem dX8_began_167 : decode cX8_began 167 = .ok (.iload 4, 2) := by decide +kernel
theorem dX8_began_169 : decode cX8_began 169 = .ok (.invokevirtual 210, 3) := by decide +kernel
theorem dX8_began_172 : decode cX8_began 172 = .ok (.iinc 4 1, 3) := by decide +kernel
theorem dX8_began_175 : decode cX8_began 175 = .ok (.goto (-49), 3) := by decide +kernel
theorem dX8_began_178 : decode cX8_began 178 = .ok (.aload_n 0, 1) := by decide +kernel
theorem dX8_began_179 : decode cX8_began 179 = .ok (.iload_n 3, 1) := by decide +kernel
theorem dX8_began_180 : decode cX8_began 180 = .ok (.ifCond .ne 10, 3) := by decide +kernel
theorem dX8_began_183 : decode cX8_began 183 = .ok (.aload_n 0, 1) := by decide +kernel
theorem dX8_began_184 : decode cX8_began 184 = .ok (.getfield 201, 3) := by decide +kernel
theorem dX8_began_187 : decode cX8_began 187 = .ok (.goto 7, 3) := by decide +kernel
theorem dX8_began_190 : decode cX8_began 190 = .ok (.aload_n 0, 1) := by decide +kernel
theorem dX8_began_191 : decode cX8_began 191 = .ok (.getfield 204, 3) := by decide +kernel
theorem dX8_began_194 : decode cX8_began 194 = .ok (.invokevirtual 57, 3) := by decide +kernel
theorem dX8_began_197 : decode cX8_began 197 = .ok (.ireturn, 1) := by decide +kernel
theorem dX8_image_0 : decode cX8_image 0 = .ok (.iload_n 1, 1) := by decide +kernel
theorem dX8_image_1 : decode cX8_image 1 = .ok (.i2l, 1) := by decide +kernel
theorem dX8_image_2 : decode cX8_image 2 = .ok (.lconst 0, 1) := by decide +kernel
theorem dX8_image_3 : decode cX8_image 3 = .ok (.lconst 1, 1) := by decide +kernel
theorem dX8_image_4 : decode cX8_image 4 = .ok (.invokestatic 42, 3) := by decide +kernel
theorem dX8_image_7 : decode cX8_image 7 = .ok (.ifCond .ne 6, 3) := by decide +kernel
theorem dX8_image_10 : decode cX8_image 10 = .ok (.ldc 52, 2) := by decide +kernel
theorem dX8_image_12 : decode cX8_image 12 = .ok (.ireturn, 1) := by decide +kernel
theorem dX8_image_13 : decode cX8_image 13 = .ok (.aload_n 0, 1) := by decide +kernel
theorem dX8_image_14 : decode cX8_image 14 = .ok (.getfield 7, 3) := by decide +kernel
theorem dX8_image_17 : decode cX8_image 17 = .ok (.iconst 0, 1) := by decide +kernel
theorem dX8_image_18 : decode cX8_image 18 = .ok (.iaload, 1) := by decide +kernel
theorem dX8_image_19 : decode cX8_image 19 = .ok (.ifCond .ne 6, 3) := by decide +kernel
theorem dX8_image_22 : decode cX8_image 22 = .ok (.ldc 159, 2) := by decide +kernel
theorem dX8_image_24 : decode cX8_image 24 = .ok (.ireturn, 1) := by decide +kernel
theorem dX8_image_25 : decode cX8_image 25 = .ok (.aload_n 0, 1) := by decide +kernel
theorem dX8_image_26 : decode cX8_image 26 = .ok (.iconst 0, 1) := by decide +kernel
theorem dX8_image_27 : decode cX8_image 27 = .ok (.iconst 1, 1) := by decide +kernel
theorem dX8_image_28 : decode cX8_image 28 = .ok (.iload_n 1, 1) := by decide +kernel
theorem dX8_image_29 : decode cX8_image 29 = .ok (.iadd, 1) := by decide +kernel
theorem dX8_image_30 : decode cX8_image 30 = .ok (.invokevirtual 186, 3) := by decide +kernel
theorem dX8_image_33 : decode cX8_image 33 = .ok (.iconst 1, 1) := by decide +kernel
theorem dX8_image_34 : decode cX8_image 34 = .ok (.ireturn, 1) := by decide +kernel
theorem dX8_restore_0 : decode cX8_restore 0 = .ok (.iload_n 1, 1) := by decide +kernel
theorem dX8_restore_1 : decode cX8_restore 1 = .ok (.i2l, 1) := by decide +kernel
theorem dX8_restore_2 : decode cX8_restore 2 = .ok (.lconst 0, 1) := by decide +kernel
theorem dX8_restore_3 : decode cX8_restore 3 = .ok (.lconst 1, 1) := by decide +kernel
theorem dX8_restore_4 : decode cX8_restore 4 = .ok (.invokestatic 42, 3) := by decide +kernel
theorem dX8_restore_7 : decode cX8_restore 7 = .ok (.ifCond .ne 6, 3) := by decide +kernel
theorem dX8_restore_10 : decode cX8_restore 10 = .ok (.ldc 52, 2) := by decide +kernel
theorem dX8_restore_12 : decode cX8_restore 12 = .ok (.ireturn, 1) := by decide +kernel
theorem dX8_restore_13 : decode cX8_restore 13 = .ok (.aload_n 0, 1) := by decide +kernel
theorem dX8_restore_14 : decode cX8_restore 14 = .ok (.getfield 7, 3) := by decide +kernel
theorem dX8_restore_17 : decode cX8_restore 17 = .ok (.bipush 31, 2) := by decide +kernel
theorem dX8_restore_19 : decode cX8_restore 19 = .ok (.iconst 1, 1) := by decide +kernel
theorem dX8_restore_20 : decode cX8_restore 20 = .ok (.iload_n 1, 1) := by decide +kernel
theorem dX8_restore_21 : decode cX8_restore 21 = .ok (.iadd, 1) := by decide +kernel
theorem dX8_restore_22 : decode cX8_restore 22 = .ok (.imul, 1) := by decide +kernel
theorem dX8_restore_23 : decode cX8_restore 23 = .ok (.iconst 0, 1) := by decide +kernel
theorem dX8_restore_24 : decode cX8_restore 24 = .ok (.iadd, 1) := by decide +kernel
theorem dX8_restore_25 : decode cX8_restore 25 = .ok (.iaload, 1) := by decide +kernel
theorem dX8_restore_26 : decode cX8_restore 26 = .ok (.ifCond .ne 6, 3) := by decide +kernel
theorem dX8_restore_29 : decode cX8_restore 29 = .ok (.ldc 159, 2) := by decide +kernel
theorem dX8_restore_31 : decode cX8_restore 31 = .ok (.ireturn, 1) := by decide +kernel
theorem dX8_restore_32 : decode cX8_restore 32 = .ok (.aload_n 0, 1) := by decide +kernel
theorem dX8_restore_33 : decode cX8_restore 33 = .ok (.iconst 1, 1) := by decide +kernel
theorem dX8_restore_34 : decode cX8_restore 34 = .ok (.iload_n 1, 1) := by decide +kernel
theorem dX8_restore_35 : decode cX8_restore 35 = .ok (.iadd, 1) := by decide +kernel
theorem dX8_restore_36 : decode cX8_restore 36 = .ok (.iconst 0, 1) := by decide +kernel
theorem dX8_restore_37 : decode cX8_restore 37 = .ok (.invokevirtual 186, 3) := by decide +kernel
theorem dX8_restore_40 : decode cX8_restore 40 = .ok (.aload_n 0, 1) := by decide +kernel
theorem dX8_restore_41 : decode cX8_restore 41 = .ok (.iconst 0, 1) := by decide +kernel
theorem dX8_restore_42 : decode cX8_restore 42 = .ok (.putfield 142, 3) := by decide +kernel
theorem dX8_restore_45 : decode cX8_restore 45 = .ok (.iconst 1, 1) := by decide +kernel
theorem dX8_restore_46 : decode cX8_restore 46 = .ok (.ireturn, 1) := by decide +kernel
theorem dX8_kind_0 : decode cX8_kind 0 = .ok (.aload_n 0, 1) := by decide +kernel
theorem dX8_kind_1 : decode cX8_kind 1 = .ok (.iload_n 1, 1) := by decide +kernel
theorem dX8_kind_2 : decode cX8_kind 2 = .ok (.invokevirtual 168, 3) := by decide +kernel
theorem dX8_kind_5 : decode cX8_kind 5 = .ok (.ifCond .eq 15, 3) := by decide +kernel
theorem dX8_kind_8 : decode cX8_kind 8 = .ok (.aload_n 0, 1) := by decide +kernel
theorem dX8_kind_9 : decode cX8_kind 9 = .ok (.getfield 7, 3) := by decide +kernel
theorem dX8_kind_12 : decode cX8_kind 12 = .ok (.bipush 19, 2) := by decide +kernel
theorem dX8_kind_14 : decode cX8_kind 14 = .ok (.iload_n 1, 1) := by decide +kernel
theorem dX8_kind_15 : decode cX8_kind 15 = .ok (.iadd, 1) := by decide +kernel
theorem dX8_kind_16 : decode cX8_kind 16 = .ok (.iaload, 1) := by decide +kernel
theorem dX8_kind_17 : decode cX8_kind 17 = .ok (.goto 5, 3) := by decide +kernel
theorem dX8_kind_20 : decode cX8_kind 20 = .ok (.ldc 52, 2) := by decide +kernel
theorem dX8_kind_22 : decode cX8_kind 22 = .ok (.ireturn, 1) := by decide +kernel
theorem dX8_isKind_0 : decode cX8_isKind 0 = .ok (.iload_n 0, 1) := by decide +kernel
theorem dX8_isKind_1 : decode cX8_isKind 1 = .ok (.iconst 1, 1) := by decide +kernel
theorem dX8_isKind_2 : decode cX8_isKind 2 = .ok (.if_icmp .eq 13, 3) := by decide +kernel
theorem dX8_isKind_5 : decode cX8_isKind 5 = .ok (.iload_n 0, 1) := by decide +kernel
theorem dX8_isKind_6 : decode cX8_isKind 6 = .ok (.iconst 2, 1) := by decide +kernel
theorem dX8_isKind_7 : decode cX8_isKind 7 = .ok (.if_icmp .eq 8, 3) := by decide +kernel
theorem dX8_isKind_10 : decode cX8_isKind 10 = .ok (.iload_n 0, 1) := by decide +kernel
theorem dX8_isKind_11 : decode cX8_isKind 11 = .ok (.iconst 3, 1) := by decide +kernel
theorem dX8_isKind_12 : decode cX8_isKind 12 = .ok (.if_icmp .ne 7, 3) := by decide +kernel
theorem dX8_isKind_15 : decode cX8_isKind 15 = .ok (.iconst 1, 1) := by decide +kernel
theorem dX8_isKind_16 : decode cX8_isKind 16 = .ok (.goto 4, 3) := by decide +kernel
theorem dX8_isKind_19 : decode cX8_isKind 19 = .ok (.iconst 0, 1) := by decide +kernel
theorem dX8_isKind_20 : decode cX8_isKind 20 = .ok (.istore_n 2, 1) := by decide +kernel
theorem dX8_isKind_21 : decode cX8_isKind 21 = .ok (.iload_n 1, 1) := by decide +kernel
theorem dX8_isKind_22 : decode cX8_isKind 22 = .ok (.ifCond .eq 27, 3) := by decide +kernel
theorem dX8_isKind_25 : decode cX8_isKind 25 = .ok (.iload_n 1, 1) := by decide +kernel
theorem dX8_isKind_26 : decode cX8_isKind 26 = .ok (.iload_n 0, 1) := by decide +kernel
theorem dX8_isKind_27 : decode cX8_isKind 27 = .ok (.if_icmp .eq 22, 3) := by decide +kernel
theorem dX8_isKind_30 : decode cX8_isKind 30 = .ok (.iload_n 1, 1) := by decide +kernel
theorem dX8_isKind_31 : decode cX8_isKind 31 = .ok (.iconst 1, 1) := by decide +kernel
theorem dX8_isKind_32 : decode cX8_isKind 32 = .ok (.if_icmp .ne 7, 3) := by decide +kernel
theorem dX8_isKind_35 : decode cX8_isKind 35 = .ok (.iload_n 2, 1) := by decide +kernel
theorem dX8_isKind_36 : decode cX8_isKind 36 = .ok (.ifCond .ne 13, 3) := by decide +kernel
theorem dX8_isKind_39 : decode cX8_isKind 39 = .ok (.iload_n 1, 1) := by decide +kernel
theorem dX8_isKind_40 : decode cX8_isKind 40 = .ok (.iconst 4, 1) := by decide +kernel
theorem dX8_isKind_41 : decode cX8_isKind 41 = .ok (.if_icmp .ne 12, 3) := by decide +kernel
theorem dX8_isKind_44 : decode cX8_isKind 44 = .ok (.iload_n 0, 1) := by decide +kernel
theorem dX8_isKind_45 : decode cX8_isKind 45 = .ok (.iconst 5, 1) := by decide +kernel
theorem dX8_isKind_46 : decode cX8_isKind 46 = .ok (.if_icmp .ne 7, 3) := by decide +kernel
theorem dX8_isKind_49 : decode cX8_isKind 49 = .ok (.iconst 1, 1) := by decide +kernel
theorem dX8_isKind_50 : decode cX8_isKind 50 = .ok (.goto 4, 3) := by decide +kernel
theorem dX8_isKind_53 : decode cX8_isKind 53 = .ok (.iconst 0, 1) := by decide +kernel
theorem dX8_isKind_54 : decode cX8_isKind 54 = .ok (.ireturn, 1) := by decide +kernel
theorem dX8_as_0 : decode cX8_as 0 = .ok (.aload_n 0, 1) := by decide +kernel
theorem dX8_as_1 : decode cX8_as 1 = .ok (.iload_n 1, 1) := by decide +kernel
theorem dX8_as_2 : decode cX8_as 2 = .ok (.invokevirtual 168, 3) := by decide +kernel
theorem dX8_as_5 : decode cX8_as 5 = .ok (.ifCond .eq 15, 3) := by decide +kernel
theorem dX8_as_8 : decode cX8_as 8 = .ok (.iload_n 2, 1) := by decide +kernel
theorem dX8_as_9 : decode cX8_as 9 = .ok (.i2l, 1) := by decide +kernel
theorem dX8_as_10 : decode cX8_as 10 = .ok (.lconst 0, 1) := by decide +kernel
theorem dX8_as_11 : decode cX8_as 11 = .ok (.ldc2_w 220, 3) := by decide +kernel
theorem dX8_as_14 : decode cX8_as 14 = .ok (.invokestatic 42, 3) := by decide +kernel
theorem dX8_as_17 : decode cX8_as 17 = .ok (.ifCond .ne 6, 3) := by decide +kernel
theorem dX8_as_20 : decode cX8_as 20 = .ok (.ldc 52, 2) := by decide +kernel
theorem dX8_as_22 : decode cX8_as 22 = .ok (.ireturn, 1) := by decide +kernel
theorem dX8_as_23 : decode cX8_as 23 = .ok (.aload_n 0, 1) := by decide +kernel
theorem dX8_as_24 : decode cX8_as 24 = .ok (.getfield 7, 3) := by decide +kernel
theorem dX8_as_27 : decode cX8_as 27 = .ok (.bipush 19, 2) := by decide +kernel
theorem dX8_as_29 : decode cX8_as 29 = .ok (.iload_n 1, 1) := by decide +kernel
theorem dX8_as_30 : decode cX8_as 30 = .ok (.iadd, 1) := by decide +kernel
theorem dX8_as_31 : decode cX8_as 31 = .ok (.iaload, 1) := by decide +kernel
theorem dX8_as_32 : decode cX8_as 32 = .ok (.iload_n 2, 1) := by decide +kernel
theorem dX8_as_33 : decode cX8_as 33 = .ok (.invokestatic 222, 3) := by decide +kernel
theorem dX8_as_36 : decode cX8_as 36 = .ok (.ifCond .eq 11, 3) := by decide +kernel
theorem dX8_as_39 : decode cX8_as 39 = .ok (.aload_n 0, 1) := by decide +kernel
theorem dX8_as_40 : decode cX8_as 40 = .ok (.iload_n 1, 1) := by decide +kernel
theorem dX8_as_41 : decode cX8_as 41 = .ok (.invokevirtual 57, 3) := by decide +kernel
theorem dX8_as_44 : decode cX8_as 44 = .ok (.goto 8, 3) := by decide +kernel
theorem dX8_as_47 : decode cX8_as 47 = .ok (.aload_n 0, 1) := by decide +kernel
theorem dX8_as_48 : decode cX8_as 48 = .ok (.iconst 3, 1) := by decide +kernel
theorem dX8_as_49 : decode cX8_as 49 = .ok (.invokevirtual 53, 3) := by decide +kernel
theorem dX8_as_52 : decode cX8_as 52 = .ok (.ireturn, 1) := by decide +kernel
theorem dX8_leave_0 : decode cX8_leave 0 = .ok (.aload_n 0, 1) := by decide +kernel
theorem dX8_leave_1 : decode cX8_leave 1 = .ok (.getfield 225, 3) := by decide +kernel
theorem dX8_leave_4 : decode cX8_leave 4 = .ok (.bipush 16, 2) := by decide +kernel
theorem dX8_leave_6 : decode cX8_leave 6 = .ok (.if_icmp .ge 23, 3) := by decide +kernel
theorem dX8_leave_9 : decode cX8_leave 9 = .ok (.aload_n 0, 1) := by decide +kernel
theorem dX8_leave_10 : decode cX8_leave 10 = .ok (.getfield 29, 3) := by decide +kernel
theorem dX8_leave_13 : decode cX8_leave 13 = .ok (.aload_n 0, 1) := by decide +kernel
theorem dX8_leave_14 : decode cX8_leave 14 = .ok (.getfield 225, 3) := by decide +kernel
theorem dX8_leave_17 : decode cX8_leave 17 = .ok (.iload_n 1, 1) := by decide +kernel
theorem dX8_leave_18 : decode cX8_leave 18 = .ok (.iastore, 1) := by decide +kernel
theorem dX8_leave_19 : decode cX8_leave 19 = .ok (.aload_n 0, 1) := by decide +kernel
theorem dX8_leave_20 : decode cX8_leave 20 = .ok (.dup, 1) := by decide +kernel
theorem dX8_leave_21 : decode cX8_leave 21 = .ok (.getfield 225, 3) := by decide +kernel
theorem dX8_leave_24 : decode cX8_leave 24 = .ok (.iconst 1, 1) := by decide +kernel
theorem dX8_leave_25 : decode cX8_leave 25 = .ok (.iadd, 1) := by decide +kernel
theorem dX8_leave_26 : decode cX8_leave 26 = .ok (.putfield 225, 3) := by decide +kernel
theorem dX8_leave_29 : decode cX8_leave 29 = .ok (.return_, 1) := by decide +kernel
theorem dX8_spotBody_0 : decode cX8_spotBody 0 = .ok (.aload_n 0, 1) := by decide +kernel
theorem dX8_spotBody_1 : decode cX8_spotBody 1 = .ok (.bipush 10, 2) := by decide +kernel
theorem dX8_spotBody_3 : decode cX8_spotBody 3 = .ok (.invokevirtual 228, 3) := by decide +kernel
theorem dX8_spotBody_6 : decode cX8_spotBody 6 = .ok (.aload_n 0, 1) := by decide +kernel
theorem dX8_spotBody_7 : decode cX8_spotBody 7 = .ok (.getfield 7, 3) := by decide +kernel
theorem dX8_spotBody_10 : decode cX8_spotBody 10 = .ok (.bipush 7, 2) := by decide +kernel
theorem dX8_spotBody_12 : decode cX8_spotBody 12 = .ok (.iload_n 1, 1) := by decide +kernel
theorem dX8_spotBody_13 : decode cX8_spotBody 13 = .ok (.iadd, 1) := by decide +kernel
theorem dX8_spotBody_14 : decode cX8_spotBody 14 = .ok (.iaload, 1) := by decide +kernel
theorem dX8_spotBody_15 : decode cX8_spotBody 15 = .ok (.ireturn, 1) := by decide +kernel
theorem dX8_numberBody_0 : decode cX8_numberBody 0 = .ok (.aload_n 0, 1) := by decide +kernel
theorem dX8_numberBody_1 : decode cX8_numberBody 1 = .ok (.bipush 20, 2) := by decide +kernel
theorem dX8_numberBody_3 : decode cX8_numberBody 3 = .ok (.invokevirtual 228, 3) := by decide +kernel
theorem dX8_numberBody_6 : decode cX8_numberBody 6 = .ok (.iload_n 1, 1) := by decide +kernel
theorem dX8_numberBody_7 : decode cX8_numberBody 7 = .ok (.ireturn, 1) := by decide +kernel
theorem dX8_errandBody_0 : decode cX8_errandBody 0 = .ok (.aload_n 0, 1) := by decide +kernel
theorem dX8_errandBody_1 : decode cX8_errandBody 1 = .ok (.bipush 21, 2) := by decide +kernel
theorem dX8_errandBody_3 : decode cX8_errandBody 3 = .ok (.invokevirtual 228, 3) := by decide +kernel
theorem dX8_errandBody_6 : decode cX8_errandBody 6 = .ok (.aload_n 0, 1) := by decide +kernel
theorem dX8_errandBody_7 : decode cX8_errandBody 7 = .ok (.iload_n 1, 1) := by decide +kernel
theorem dX8_errandBody_8 : decode cX8_errandBody 8 = .ok (.invokevirtual 231, 3) := by decide +kernel
theorem dX8_errandBody_11 : decode cX8_errandBody 11 = .ok (.aload_n 0, 1) := by decide +kernel
theorem dX8_errandBody_12 : decode cX8_errandBody 12 = .ok (.getfield 7, 3) := by decide +kernel
theorem dX8_errandBody_15 : decode cX8_errandBody 15 = .ok (.bipush 13, 2) := by decide +kernel
theorem dX8_errandBody_17 : decode cX8_errandBody 17 = .ok (.iload_n 1, 1) := by decide +kernel
theorem dX8_errandBody_18 : decode cX8_errandBody 18 = .ok (.iadd, 1) := by decide +kernel
theorem dX8_errandBody_19 : decode cX8_errandBody 19 = .ok (.iaload, 1) := by decide +kernel
theorem dX8_errandBody_20 : decode cX8_errandBody 20 = .ok (.iadd, 1) := by decide +kernel
theorem dX8_errandBody_21 : decode cX8_errandBody 21 = .ok (.ireturn, 1) := by decide +kernel
theorem dX8_markOfFat_0 : decode cX8_markOfFat 0 = .ok (.aload_n 0, 1) := by decide +kernel
theorem dX8_markOfFat_1 : decode cX8_markOfFat 1 = .ok (.getfield 7, 3) := by decide +kernel
theorem dX8_markOfFat_4 : decode cX8_markOfFat 4 = .ok (.bipush 19, 2) := by decide +kernel
theorem dX8_markOfFat_6 : decode cX8_markOfFat 6 = .ok (.iload_n 1, 1) := by decide +kernel
theorem dX8_markOfFat_7 : decode cX8_markOfFat 7 = .ok (.iadd, 1) := by decide +kernel
theorem dX8_markOfFat_8 : decode cX8_markOfFat 8 = .ok (.iaload, 1) := by decide +kernel
theorem dX8_markOfFat_9 : decode cX8_markOfFat 9 = .ok (.istore_n 2, 1) := by decide +kernel
theorem dX8_markOfFat_10 : decode cX8_markOfFat 10 = .ok (.iload_n 2, 1) := by decide +kernel
theorem dX8_markOfFat_11 : decode cX8_markOfFat 11 = .ok (.iconst 1, 1) := by decide +kernel
theorem dX8_markOfFat_12 : decode cX8_markOfFat 12 = .ok (.if_icmp .ne 9, 3) := by decide +kernel
theorem dX8_markOfFat_15 : decode cX8_markOfFat 15 = .ok (.aload_n 0, 1) := by decide +kernel
theorem dX8_markOfFat_16 : decode cX8_markOfFat 16 = .ok (.iload_n 1, 1) := by decide +kernel
theorem dX8_markOfFat_17 : decode cX8_markOfFat 17 = .ok (.invokevirtual 234, 3) := by decide +kernel
theorem dX8_markOfFat_20 : decode cX8_markOfFat 20 = .ok (.ireturn, 1) := by decide +kernel
theorem dX8_markOfFat_21 : decode cX8_markOfFat 21 = .ok (.aload_n 0, 1) := by decide +kernel
theorem dX8_markOfFat_22 : decode cX8_markOfFat 22 = .ok (.iload_n 2, 1) := by decide +kernel
theorem dX8_markOfFat_23 : decode cX8_markOfFat 23 = .ok (.iconst 3, 1) := by decide +kernel
theorem dX8_markOfFat_24 : decode cX8_markOfFat 24 = .ok (.if_icmp .ne 8, 3) := by decide +kernel
theorem dX8_markOfFat_27 : decode cX8_markOfFat 27 = .ok (.bipush 22, 2) := by decide +kernel
theorem dX8_markOfFat_29 : decode cX8_markOfFat 29 = .ok (.goto 5, 3) := by decide +kernel
theorem dX8_markOfFat_32 : decode cX8_markOfFat 32 = .ok (.bipush 24, 2) := by decide +kernel
theorem dX8_markOfFat_34 : decode cX8_markOfFat 34 = .ok (.invokevirtual 228, 3) := by decide +kernel
theorem dX8_markOfFat_37 : decode cX8_markOfFat 37 = .ok (.aload_n 0, 1) := by decide +kernel
theorem dX8_markOfFat_38 : decode cX8_markOfFat 38 = .ok (.iload_n 1, 1) := by decide +kernel
theorem dX8_markOfFat_39 : decode cX8_markOfFat 39 = .ok (.invokevirtual 234, 3) := by decide +kernel
theorem dX8_markOfFat_42 : decode cX8_markOfFat 42 = .ok (.istore_n 3, 1) := by decide +kernel
theorem dX8_markOfFat_43 : decode cX8_markOfFat 43 = .ok (.iload_n 2, 1) := by decide +kernel
theorem dX8_markOfFat_44 : decode cX8_markOfFat 44 = .ok (.iconst 3, 1) := by decide +kernel
theorem dX8_markOfFat_45 : decode cX8_markOfFat 45 = .ok (.if_icmp .ne 11, 3) := by decide +kernel
theorem dX8_markOfFat_48 : decode cX8_markOfFat 48 = .ok (.iload_n 3, 1) := by decide +kernel
theorem dX8_markOfFat_49 : decode cX8_markOfFat 49 = .ok (.sipush 1000, 3) := by decide +kernel
theorem dX8_markOfFat_52 : decode cX8_markOfFat 52 = .ok (.isub, 1) := by decide +kernel
theorem dX8_markOfFat_53 : decode cX8_markOfFat 53 = .ok (.goto 6, 3) := by decide +kernel
theorem dX8_markOfFat_56 : decode cX8_markOfFat 56 = .ok (.iconst 2, 1) := by decide +kernel
theorem dX8_markOfFat_57 : decode cX8_markOfFat 57 = .ok (.iload_n 3, 1) := by decide +kernel
theorem dX8_markOfFat_58 : decode cX8_markOfFat 58 = .ok (.imul, 1) := by decide +kernel
theorem dX8_markOfFat_59 : decode cX8_markOfFat 59 = .ok (.ireturn, 1) := by decide +kernel
theorem dX8_fatBody_0 : decode cX8_fatBody 0 = .ok (.aload_n 0, 1) := by decide +kernel
theorem dX8_fatBody_1 : decode cX8_fatBody 1 = .ok (.bipush 11, 2) := by decide +kernel
theorem dX8_fatBody_3 : decode cX8_fatBody 3 = .ok (.invokevirtual 228, 3) := by decide +kernel
theorem dX8_fatBody_6 : decode cX8_fatBody 6 = .ok (.aload_n 0, 1) := by decide +kernel
theorem dX8_fatBody_7 : decode cX8_fatBody 7 = .ok (.iload_n 1, 1) := by decide +kernel
theorem dX8_fatBody_8 : decode cX8_fatBody 8 = .ok (.invokevirtual 237, 3) := by decide +kernel
theorem dX8_fatBody_11 : decode cX8_fatBody 11 = .ok (.istore_n 2, 1) := by decide +kernel
theorem dX8_fatBody_12 : decode cX8_fatBody 12 = .ok (.iload_n 2, 1) := by decide +kernel
theorem dX8_fatBody_13 : decode cX8_fatBody 13 = .ok (.aload_n 0, 1) := by decide +kernel
theorem dX8_fatBody_14 : decode cX8_fatBody 14 = .ok (.iload_n 1, 1) := by decide +kernel
theorem dX8_fatBody_15 : decode cX8_fatBody 15 = .ok (.invokevirtual 240, 3) := by decide +kernel
theorem dX8_fatBody_18 : decode cX8_fatBody 18 = .ok (.iadd, 1) := by decide +kernel
theorem dX8_fatBody_19 : decode cX8_fatBody 19 = .ok (.ireturn, 1) := by decide +kernel
theorem dX8_monkBody_0 : decode cX8_monkBody 0 = .ok (.aload_n 0, 1) := by decide +kernel
theorem dX8_monkBody_1 : decode cX8_monkBody 1 = .ok (.bipush 13, 2) := by decide +kernel
theorem dX8_monkBody_3 : decode cX8_monkBody 3 = .ok (.invokevirtual 228, 3) := by decide +kernel
theorem dX8_monkBody_6 : decode cX8_monkBody 6 = .ok (.aload_n 0, 1) := by decide +kernel
theorem dX8_monkBody_7 : decode cX8_monkBody 7 = .ok (.iload_n 1, 1) := by decide +kernel
theorem dX8_monkBody_8 : decode cX8_monkBody 8 = .ok (.invokevirtual 237, 3) := by decide +kernel
theorem dX8_monkBody_11 : decode cX8_monkBody 11 = .ok (.bipush 100, 2) := by decide +kernel
theorem dX8_monkBody_13 : decode cX8_monkBody 13 = .ok (.isub, 1) := by decide +kernel
theorem dX8_monkBody_14 : decode cX8_monkBody 14 = .ok (.ireturn, 1) := by decide +kernel
theorem dX8_sizeOfMonk_0 : decode cX8_sizeOfMonk 0 = .ok (.aload_n 0, 1) := by decide +kernel
theorem dX8_sizeOfMonk_1 : decode cX8_sizeOfMonk 1 = .ok (.getfield 7, 3) := by decide +kernel
theorem dX8_sizeOfMonk_4 : decode cX8_sizeOfMonk 4 = .ok (.bipush 19, 2) := by decide +kernel
theorem dX8_sizeOfMonk_6 : decode cX8_sizeOfMonk 6 = .ok (.iload_n 1, 1) := by decide +kernel
theorem dX8_sizeOfMonk_7 : decode cX8_sizeOfMonk 7 = .ok (.iadd, 1) := by decide +kernel
theorem dX8_sizeOfMonk_8 : decode cX8_sizeOfMonk 8 = .ok (.iaload, 1) := by decide +kernel
theorem dX8_sizeOfMonk_9 : decode cX8_sizeOfMonk 9 = .ok (.iconst 4, 1) := by decide +kernel
theorem dX8_sizeOfMonk_10 : decode cX8_sizeOfMonk 10 = .ok (.if_icmp .ne 9, 3) := by decide +kernel
theorem dX8_sizeOfMonk_13 : decode cX8_sizeOfMonk 13 = .ok (.aload_n 0, 1) := by decide +kernel
theorem dX8_sizeOfMonk_14 : decode cX8_sizeOfMonk 14 = .ok (.iload_n 1, 1) := by decide +kernel
theorem dX8_sizeOfMonk_15 : decode cX8_sizeOfMonk 15 = .ok (.invokevirtual 243, 3) := by decide +kernel
theorem dX8_sizeOfMonk_18 : decode cX8_sizeOfMonk 18 = .ok (.ireturn, 1) := by decide +kernel
theorem dX8_sizeOfMonk_19 : decode cX8_sizeOfMonk 19 = .ok (.aload_n 0, 1) := by decide +kernel
theorem dX8_sizeOfMonk_20 : decode cX8_sizeOfMonk 20 = .ok (.bipush 14, 2) := by decide +kernel
theorem dX8_sizeOfMonk_22 : decode cX8_sizeOfMonk 22 = .ok (.invokevirtual 228, 3) := by decide +kernel
theorem dX8_sizeOfMonk_25 : decode cX8_sizeOfMonk 25 = .ok (.iconst 2, 1) := by decide +kernel
theorem dX8_sizeOfMonk_26 : decode cX8_sizeOfMonk 26 = .ok (.aload_n 0, 1) := by decide +kernel
theorem dX8_sizeOfMonk_27 : decode cX8_sizeOfMonk 27 = .ok (.iload_n 1, 1) := by decide +kernel
theorem dX8_sizeOfMonk_28 : decode cX8_sizeOfMonk 28 = .ok (.invokevirtual 243, 3) := by decide +kernel
theorem dX8_sizeOfMonk_31 : decode cX8_sizeOfMonk 31 = .ok (.imul, 1) := by decide +kernel
theorem dX8_sizeOfMonk_32 : decode cX8_sizeOfMonk 32 = .ok (.ireturn, 1) := by decide +kernel
theorem dX8_sizeOfFat_0 : decode cX8_sizeOfFat 0 = .ok (.aload_n 0, 1) := by decide +kernel
theorem dX8_sizeOfFat_1 : decode cX8_sizeOfFat 1 = .ok (.getfield 7, 3) := by decide +kernel
theorem dX8_sizeOfFat_4 : decode cX8_sizeOfFat 4 = .ok (.bipush 19, 2) := by decide +kernel
theorem dX8_sizeOfFat_6 : decode cX8_sizeOfFat 6 = .ok (.iload_n 1, 1) := by decide +kernel
theorem dX8_sizeOfFat_7 : decode cX8_sizeOfFat 7 = .ok (.iadd, 1) := by decide +kernel
theorem dX8_sizeOfFat_8 : decode cX8_sizeOfFat 8 = .ok (.iaload, 1) := by decide +kernel
theorem dX8_sizeOfFat_9 : decode cX8_sizeOfFat 9 = .ok (.iconst 2, 1) := by decide +kernel
theorem dX8_sizeOfFat_10 : decode cX8_sizeOfFat 10 = .ok (.if_icmp .eq 9, 3) := by decide +kernel
theorem dX8_sizeOfFat_13 : decode cX8_sizeOfFat 13 = .ok (.aload_n 0, 1) := by decide +kernel
theorem dX8_sizeOfFat_14 : decode cX8_sizeOfFat 14 = .ok (.iload_n 1, 1) := by decide +kernel
theorem dX8_sizeOfFat_15 : decode cX8_sizeOfFat 15 = .ok (.invokevirtual 246, 3) := by decide +kernel
theorem dX8_sizeOfFat_18 : decode cX8_sizeOfFat 18 = .ok (.ireturn, 1) := by decide +kernel
theorem dX8_sizeOfFat_19 : decode cX8_sizeOfFat 19 = .ok (.aload_n 0, 1) := by decide +kernel
theorem dX8_sizeOfFat_20 : decode cX8_sizeOfFat 20 = .ok (.bipush 12, 2) := by decide +kernel
theorem dX8_sizeOfFat_22 : decode cX8_sizeOfFat 22 = .ok (.invokevirtual 228, 3) := by decide +kernel
theorem dX8_sizeOfFat_25 : decode cX8_sizeOfFat 25 = .ok (.aload_n 0, 1) := by decide +kernel
theorem dX8_sizeOfFat_26 : decode cX8_sizeOfFat 26 = .ok (.iload_n 1, 1) := by decide +kernel
theorem dX8_sizeOfFat_27 : decode cX8_sizeOfFat 27 = .ok (.invokevirtual 246, 3) := by decide +kernel
theorem dX8_sizeOfFat_30 : decode cX8_sizeOfFat 30 = .ok (.ineg, 1) := by decide +kernel
theorem dX8_sizeOfFat_31 : decode cX8_sizeOfFat 31 = .ok (.ireturn, 1) := by decide +kernel
theorem dX8_markOfMonk_0 : decode cX8_markOfMonk 0 = .ok (.aload_n 0, 1) := by decide +kernel
theorem dX8_markOfMonk_1 : decode cX8_markOfMonk 1 = .ok (.bipush 23, 2) := by decide +kernel
theorem dX8_markOfMonk_3 : decode cX8_markOfMonk 3 = .ok (.invokevirtual 228, 3) := by decide +kernel
theorem dX8_markOfMonk_6 : decode cX8_markOfMonk 6 = .ok (.aload_n 0, 1) := by decide +kernel
theorem dX8_markOfMonk_7 : decode cX8_markOfMonk 7 = .ok (.iload_n 1, 1) := by decide +kernel
theorem dX8_markOfMonk_8 : decode cX8_markOfMonk 8 = .ok (.invokevirtual 231, 3) := by decide +kernel
theorem dX8_markOfMonk_11 : decode cX8_markOfMonk 11 = .ok (.istore_n 2, 1) := by decide +kernel
theorem dX8_markOfMonk_12 : decode cX8_markOfMonk 12 = .ok (.iload_n 2, 1) := by decide +kernel
theorem dX8_markOfMonk_13 : decode cX8_markOfMonk 13 = .ok (.aload_n 0, 1) := by decide +kernel
theorem dX8_markOfMonk_14 : decode cX8_markOfMonk 14 = .ok (.iload_n 1, 1) := by decide +kernel
theorem dX8_markOfMonk_15 : decode cX8_markOfMonk 15 = .ok (.invokevirtual 249, 3) := by decide +kernel
theorem dX8_markOfMonk_18 : decode cX8_markOfMonk 18 = .ok (.isub, 1) := by decide +kernel
theorem dX8_markOfMonk_19 : decode cX8_markOfMonk 19 = .ok (.ireturn, 1) := by decide +kernel
theorem dX8_ask_0 : decode cX8_ask 0 = .ok (.aload_n 0, 1) := by decide +kernel
theorem dX8_ask_1 : decode cX8_ask 1 = .ok (.iload_n 1, 1) := by decide +kernel
theorem dX8_ask_2 : decode cX8_ask 2 = .ok (.invokevirtual 168, 3) := by decide +kernel
theorem dX8_ask_5 : decode cX8_ask 5 = .ok (.ifCond .eq 13, 3) := by decide +kernel
theorem dX8_ask_8 : decode cX8_ask 8 = .ok (.iload_n 2, 1) := by decide +kernel
theorem dX8_ask_9 : decode cX8_ask 9 = .ok (.i2l, 1) := by decide +kernel
theorem dX8_ask_10 : decode cX8_ask 10 = .ok (.lconst 0, 1) := by decide +kernel
theorem dX8_ask_11 : decode cX8_ask 11 = .ok (.lconst 1, 1) := by decide +kernel
theorem dX8_ask_12 : decode cX8_ask 12 = .ok (.invokestatic 42, 3) := by decide +kernel
theorem dX8_ask_15 : decode cX8_ask 15 = .ok (.ifCond .ne 6, 3) := by decide +kernel
theorem dX8_ask_18 : decode cX8_ask 18 = .ok (.ldc 52, 2) := by decide +kernel
theorem dX8_ask_20 : decode cX8_ask 20 = .ok (.ireturn, 1) := by decide +kernel
theorem dX8_ask_21 : decode cX8_ask 21 = .ok (.aload_n 0, 1) := by decide +kernel
theorem dX8_ask_22 : decode cX8_ask 22 = .ok (.iconst 0, 1) := by decide +kernel
theorem dX8_ask_23 : decode cX8_ask 23 = .ok (.putfield 225, 3) := by decide +kernel
theorem dX8_ask_26 : decode cX8_ask 26 = .ok (.aload_n 0, 1) := by decide +kernel
theorem dX8_ask_27 : decode cX8_ask 27 = .ok (.getfield 7, 3) := by decide +kernel
theorem dX8_ask_30 : decode cX8_ask 30 = .ok (.bipush 19, 2) := by decide +kernel
theorem dX8_ask_32 : decode cX8_ask 32 = .ok (.iload_n 1, 1) := by decide +kernel
theorem dX8_ask_33 : decode cX8_ask 33 = .ok (.iadd, 1) := by decide +kernel
theorem dX8_ask_34 : decode cX8_ask 34 = .ok (.iaload, 1) := by decide +kernel
theorem dX8_ask_35 : decode cX8_ask 35 = .ok (.iconst 1, 1) := by decide +kernel
theorem dX8_ask_36 : decode cX8_ask 36 = .ok (.invokestatic 222, 3) := by decide +kernel
theorem dX8_ask_39 : decode cX8_ask 39 = .ok (.istore_n 3, 1) := by decide +kernel
theorem dX8_ask_40 : decode cX8_ask 40 = .ok (.iload_n 2, 1) := by decide +kernel
theorem dX8_ask_41 : decode cX8_ask 41 = .ok (.ifCond .ne 23, 3) := by decide +kernel
theorem dX8_ask_44 : decode cX8_ask 44 = .ok (.iload_n 3, 1) := by decide +kernel
theorem dX8_ask_45 : decode cX8_ask 45 = .ok (.ifCond .eq 11, 3) := by decide +kernel
theorem dX8_ask_48 : decode cX8_ask 48 = .ok (.aload_n 0, 1) := by decide +kernel
theorem dX8_ask_49 : decode cX8_ask 49 = .ok (.iload_n 1, 1) := by decide +kernel
theorem dX8_ask_50 : decode cX8_ask 50 = .ok (.invokevirtual 252, 3) := by decide +kernel
theorem dX8_ask_53 : decode cX8_ask 53 = .ok (.goto 28, 3) := by decide +kernel
theorem dX8_ask_56 : decode cX8_ask 56 = .ok (.aload_n 0, 1) := by decide +kernel
theorem dX8_ask_57 : decode cX8_ask 57 = .ok (.iload_n 1, 1) := by decide +kernel
theorem dX8_ask_58 : decode cX8_ask 58 = .ok (.invokevirtual 249, 3) := by decide +kernel
theorem dX8_ask_61 : decode cX8_ask 61 = .ok (.goto 20, 3) := by decide +kernel
theorem dX8_ask_64 : decode cX8_ask 64 = .ok (.iload_n 3, 1) := by decide +kernel
theorem dX8_ask_65 : decode cX8_ask 65 = .ok (.ifCond .eq 11, 3) := by decide +kernel
theorem dX8_ask_68 : decode cX8_ask 68 = .ok (.aload_n 0, 1) := by decide +kernel
theorem dX8_ask_69 : decode cX8_ask 69 = .ok (.iload_n 1, 1) := by decide +kernel
theorem dX8_ask_70 : decode cX8_ask 70 = .ok (.invokevirtual 240, 3) := by decide +kernel
theorem dX8_ask_73 : decode cX8_ask 73 = .ok (.goto 8, 3) := by decide +kernel
theorem dX8_ask_76 : decode cX8_ask 76 = .ok (.aload_n 0, 1) := by decide +kernel
theorem dX8_ask_77 : decode cX8_ask 77 = .ok (.iload_n 1, 1) := by decide +kernel
theorem dX8_ask_78 : decode cX8_ask 78 = .ok (.invokevirtual 255, 3) := by decide +kernel
theorem dX8_ask_81 : decode cX8_ask 81 = .ok (.ireturn, 1) := by decide +kernel
theorem dX8_trace_0 : decode cX8_trace 0 = .ok (.iload_n 1, 1) := by decide +kernel
theorem dX8_trace_1 : decode cX8_trace 1 = .ok (.i2l, 1) := by decide +kernel
theorem dX8_trace_2 : decode cX8_trace 2 = .ok (.lconst 0, 1) := by decide +kernel
theorem dX8_trace_3 : decode cX8_trace 3 = .ok (.aload_n 0, 1) := by decide +kernel
theorem dX8_trace_4 : decode cX8_trace 4 = .ok (.getfield 225, 3) := by decide +kernel
theorem dX8_trace_7 : decode cX8_trace 7 = .ok (.iconst 1, 1) := by decide +kernel
theorem dX8_trace_8 : decode cX8_trace 8 = .ok (.isub, 1) := by decide +kernel
theorem dX8_trace_9 : decode cX8_trace 9 = .ok (.i2l, 1) := by decide +kernel
theorem dX8_trace_10 : decode cX8_trace 10 = .ok (.invokestatic 42, 3) := by decide +kernel
theorem dX8_trace_13 : decode cX8_trace 13 = .ok (.ifCond .eq 12, 3) := by decide +kernel
theorem dX8_trace_16 : decode cX8_trace 16 = .ok (.aload_n 0, 1) := by decide +kernel
theorem dX8_trace_17 : decode cX8_trace 17 = .ok (.getfield 29, 3) := by decide +kernel
theorem dX8_trace_20 : decode cX8_trace 20 = .ok (.iload_n 1, 1) := by decide +kernel
theorem dX8_trace_21 : decode cX8_trace 21 = .ok (.iaload, 1) := by decide +kernel
theorem dX8_trace_22 : decode cX8_trace 22 = .ok (.goto 5, 3) := by decide +kernel
theorem dX8_trace_25 : decode cX8_trace 25 = .ok (.ldc 19, 2) := by decide +kernel
theorem dX8_trace_27 : decode cX8_trace 27 = .ok (.ireturn, 1) := by decide +kernel
theorem dX8_count_0 : decode cX8_count 0 = .ok (.iconst 0, 1) := by decide +kernel
theorem dX8_count_1 : decode cX8_count 1 = .ok (.istore_n 2, 1) := by decide +kernel
theorem dX8_count_2 : decode cX8_count 2 = .ok (.iconst 0, 1) := by decide +kernel
theorem dX8_count_3 : decode cX8_count 3 = .ok (.istore_n 3, 1) := by decide +kernel
theorem dX8_count_4 : decode cX8_count 4 = .ok (.iload_n 3, 1) := by decide +kernel
theorem dX8_count_5 : decode cX8_count 5 = .ok (.bipush 8, 2) := by decide +kernel
theorem dX8_count_7 : decode cX8_count 7 = .ok (.if_icmp .ge 28, 3) := by decide +kernel
theorem dX8_count_10 : decode cX8_count 10 = .ok (.iload_n 2, 1) := by decide +kernel
theorem dX8_count_11 : decode cX8_count 11 = .ok (.aload_n 0, 1) := by decide +kernel
theorem dX8_count_12 : decode cX8_count 12 = .ok (.getfield 20, 3) := by decide +kernel
theorem dX8_count_15 : decode cX8_count 15 = .ok (.iload_n 3, 1) := by decide +kernel
theorem dX8_count_16 : decode cX8_count 16 = .ok (.iaload, 1) := by decide +kernel
theorem dX8_count_17 : decode cX8_count 17 = .ok (.ldc 19, 2) := by decide +kernel
theorem dX8_count_19 : decode cX8_count 19 = .ok (.if_icmp .ne 7, 3) := by decide +kernel
theorem dX8_count_22 : decode cX8_count 22 = .ok (.iconst 0, 1) := by decide +kernel
theorem dX8_count_23 : decode cX8_count 23 = .ok (.goto 4, 3) := by decide +kernel
theorem dX8_count_26 : decode cX8_count 26 = .ok (.iconst 1, 1) := by decide +kernel
theorem dX8_count_27 : decode cX8_count 27 = .ok (.iadd, 1) := by decide +kernel
theorem dX8_count_28 : decode cX8_count 28 = .ok (.istore_n 2, 1) := by decide +kernel
theorem dX8_count_29 : decode cX8_count 29 = .ok (.iinc 3 1, 3) := by decide +kernel
theorem dX8_count_32 : decode cX8_count 32 = .ok (.goto (-28), 3) := by decide +kernel
theorem dX8_count_35 : decode cX8_count 35 = .ok (.iload_n 1, 1) := by decide +kernel
theorem dX8_count_36 : decode cX8_count 36 = .ok (.tableswitch 76 0 5 #[40, 42, 49, 56, 61, 71], 40) := by decide +kernel
theorem dX8_count_76 : decode cX8_count 76 = .ok (.iload_n 2, 1) := by decide +kernel
theorem dX8_count_77 : decode cX8_count 77 = .ok (.ireturn, 1) := by decide +kernel
theorem dX8_count_78 : decode cX8_count 78 = .ok (.aload_n 0, 1) := by decide +kernel
theorem dX8_count_79 : decode cX8_count 79 = .ok (.getfield 7, 3) := by decide +kernel
theorem dX8_count_82 : decode cX8_count 82 = .ok (.iconst 3, 1) := by decide +kernel
theorem dX8_count_83 : decode cX8_count 83 = .ok (.iaload, 1) := by decide +kernel
theorem dX8_count_84 : decode cX8_count 84 = .ok (.ireturn, 1) := by decide +kernel
theorem dX8_count_85 : decode cX8_count 85 = .ok (.aload_n 0, 1) := by decide +kernel
theorem dX8_count_86 : decode cX8_count 86 = .ok (.getfield 7, 3) := by decide +kernel
theorem dX8_count_89 : decode cX8_count 89 = .ok (.iconst 4, 1) := by decide +kernel
theorem dX8_count_90 : decode cX8_count 90 = .ok (.iaload, 1) := by decide +kernel
theorem dX8_count_91 : decode cX8_count 91 = .ok (.ireturn, 1) := by decide +kernel
theorem dX8_count_92 : decode cX8_count 92 = .ok (.aload_n 0, 1) := by decide +kernel
theorem dX8_count_93 : decode cX8_count 93 = .ok (.getfield 142, 3) := by decide +kernel
theorem dX8_count_96 : decode cX8_count 96 = .ok (.ireturn, 1) := by decide +kernel
theorem dX8_count_97 : decode cX8_count 97 = .ok (.aload_n 0, 1) := by decide +kernel
theorem dX8_count_98 : decode cX8_count 98 = .ok (.getfield 7, 3) := by decide +kernel
theorem dX8_count_101 : decode cX8_count 101 = .ok (.iconst 5, 1) := by decide +kernel
theorem dX8_count_102 : decode cX8_count 102 = .ok (.iaload, 1) := by decide +kernel
theorem dX8_count_103 : decode cX8_count 103 = .ok (.invokestatic 214, 3) := by decide +kernel
theorem dX8_count_106 : decode cX8_count 106 = .ok (.ireturn, 1) := by decide +kernel
theorem dX8_count_107 : decode cX8_count 107 = .ok (.aload_n 0, 1) := by decide +kernel
theorem dX8_count_108 : decode cX8_count 108 = .ok (.getfield 66, 3) := by decide +kernel
theorem dX8_count_111 : decode cX8_count 111 = .ok (.ireturn, 1) := by decide +kernel
theorem dX8_count_112 : decode cX8_count 112 = .ok (.ldc 52, 2) := by decide +kernel
theorem dX8_count_114 : decode cX8_count 114 = .ok (.ireturn, 1) := by decide +kernel
theorem dX8_status_0 : decode cX8_status 0 = .ok (.aload_n 0, 1) := by decide +kernel
theorem dX8_status_1 : decode cX8_status 1 = .ok (.getfield 35, 3) := by decide +kernel
theorem dX8_status_4 : decode cX8_status 4 = .ok (.ireturn, 1) := by decide +kernel
theorem dJ6_bitCount_0f7a4_0 : decode cJ6_bitCount_0f7a4 0 = .ok (.iload_n 0, 1) := by decide +kernel
theorem dJ6_bitCount_0f7a4_1 : decode cJ6_bitCount_0f7a4 1 = .ok (.iload_n 0, 1) := by decide +kernel
theorem dJ6_bitCount_0f7a4_2 : decode cJ6_bitCount_0f7a4 2 = .ok (.iconst 1, 1) := by decide +kernel
theorem dJ6_bitCount_0f7a4_3 : decode cJ6_bitCount_0f7a4 3 = .ok (.iushr, 1) := by decide +kernel
theorem dJ6_bitCount_0f7a4_4 : decode cJ6_bitCount_0f7a4 4 = .ok (.ldc_w 265, 3) := by decide +kernel
theorem dJ6_bitCount_0f7a4_7 : decode cJ6_bitCount_0f7a4 7 = .ok (.iand, 1) := by decide +kernel
theorem dJ6_bitCount_0f7a4_8 : decode cJ6_bitCount_0f7a4 8 = .ok (.isub, 1) := by decide +kernel
theorem dJ6_bitCount_0f7a4_9 : decode cJ6_bitCount_0f7a4 9 = .ok (.istore_n 0, 1) := by decide +kernel
theorem dJ6_bitCount_0f7a4_10 : decode cJ6_bitCount_0f7a4 10 = .ok (.iload_n 0, 1) := by decide +kernel
theorem dJ6_bitCount_0f7a4_11 : decode cJ6_bitCount_0f7a4 11 = .ok (.ldc_w 266, 3) := by decide +kernel
theorem dJ6_bitCount_0f7a4_14 : decode cJ6_bitCount_0f7a4 14 = .ok (.iand, 1) := by decide +kernel
theorem dJ6_bitCount_0f7a4_15 : decode cJ6_bitCount_0f7a4 15 = .ok (.iload_n 0, 1) := by decide +kernel
theorem dJ6_bitCount_0f7a4_16 : decode cJ6_bitCount_0f7a4 16 = .ok (.iconst 2, 1) := by decide +kernel
theorem dJ6_bitCount_0f7a4_17 : decode cJ6_bitCount_0f7a4 17 = .ok (.iushr, 1) := by decide +kernel
theorem dJ6_bitCount_0f7a4_18 : decode cJ6_bitCount_0f7a4 18 = .ok (.ldc_w 266, 3) := by decide +kernel
theorem dJ6_bitCount_0f7a4_21 : decode cJ6_bitCount_0f7a4 21 = .ok (.iand, 1) := by decide +kernel
theorem dJ6_bitCount_0f7a4_22 : decode cJ6_bitCount_0f7a4 22 = .ok (.iadd, 1) := by decide +kernel
theorem dJ6_bitCount_0f7a4_23 : decode cJ6_bitCount_0f7a4 23 = .ok (.istore_n 0, 1) := by decide +kernel
theorem dJ6_bitCount_0f7a4_24 : decode cJ6_bitCount_0f7a4 24 = .ok (.iload_n 0, 1) := by decide +kernel
theorem dJ6_bitCount_0f7a4_25 : decode cJ6_bitCount_0f7a4 25 = .ok (.iload_n 0, 1) := by decide +kernel
theorem dJ6_bitCount_0f7a4_26 : decode cJ6_bitCount_0f7a4 26 = .ok (.iconst 4, 1) := by decide +kernel
theorem dJ6_bitCount_0f7a4_27 : decode cJ6_bitCount_0f7a4 27 = .ok (.iushr, 1) := by decide +kernel
theorem dJ6_bitCount_0f7a4_28 : decode cJ6_bitCount_0f7a4 28 = .ok (.iadd, 1) := by decide +kernel
theorem dJ6_bitCount_0f7a4_29 : decode cJ6_bitCount_0f7a4 29 = .ok (.ldc_w 267, 3) := by decide +kernel
theorem dJ6_bitCount_0f7a4_32 : decode cJ6_bitCount_0f7a4 32 = .ok (.iand, 1) := by decide +kernel
theorem dJ6_bitCount_0f7a4_33 : decode cJ6_bitCount_0f7a4 33 = .ok (.istore_n 0, 1) := by decide +kernel
theorem dJ6_bitCount_0f7a4_34 : decode cJ6_bitCount_0f7a4 34 = .ok (.iload_n 0, 1) := by decide +kernel
theorem dJ6_bitCount_0f7a4_35 : decode cJ6_bitCount_0f7a4 35 = .ok (.iload_n 0, 1) := by decide +kernel
theorem dJ6_bitCount_0f7a4_36 : decode cJ6_bitCount_0f7a4 36 = .ok (.bipush 8, 2) := by decide +kernel
theorem dJ6_bitCount_0f7a4_38 : decode cJ6_bitCount_0f7a4 38 = .ok (.iushr, 1) := by decide +kernel
theorem dJ6_bitCount_0f7a4_39 : decode cJ6_bitCount_0f7a4 39 = .ok (.iadd, 1) := by decide +kernel
theorem dJ6_bitCount_0f7a4_40 : decode cJ6_bitCount_0f7a4 40 = .ok (.istore_n 0, 1) := by decide +kernel
theorem dJ6_bitCount_0f7a4_41 : decode cJ6_bitCount_0f7a4 41 = .ok (.iload_n 0, 1) := by decide +kernel
theorem dJ6_bitCount_0f7a4_42 : decode cJ6_bitCount_0f7a4 42 = .ok (.iload_n 0, 1) := by decide +kernel
theorem dJ6_bitCount_0f7a4_43 : decode cJ6_bitCount_0f7a4 43 = .ok (.bipush 16, 2) := by decide +kernel
theorem dJ6_bitCount_0f7a4_45 : decode cJ6_bitCount_0f7a4 45 = .ok (.iushr, 1) := by decide +kernel
theorem dJ6_bitCount_0f7a4_46 : decode cJ6_bitCount_0f7a4 46 = .ok (.iadd, 1) := by decide +kernel
theorem dJ6_bitCount_0f7a4_47 : decode cJ6_bitCount_0f7a4 47 = .ok (.istore_n 0, 1) := by decide +kernel
theorem dJ6_bitCount_0f7a4_48 : decode cJ6_bitCount_0f7a4 48 = .ok (.iload_n 0, 1) := by decide +kernel
theorem dJ6_bitCount_0f7a4_49 : decode cJ6_bitCount_0f7a4 49 = .ok (.bipush 63, 2) := by decide +kernel
theorem dJ6_bitCount_0f7a4_51 : decode cJ6_bitCount_0f7a4 51 = .ok (.iand, 1) := by decide +kernel
theorem dJ6_bitCount_0f7a4_52 : decode cJ6_bitCount_0f7a4 52 = .ok (.ireturn, 1) := by decide +kernel
theorem dJ9_min_7cf53_0 : decode cJ9_min_7cf53 0 = .ok (.iload_n 0, 1) := by decide +kernel
theorem dJ9_min_7cf53_1 : decode cJ9_min_7cf53 1 = .ok (.iload_n 1, 1) := by decide +kernel
theorem dJ9_min_7cf53_2 : decode cJ9_min_7cf53 2 = .ok (.if_icmp .gt 7, 3) := by decide +kernel
theorem dJ9_min_7cf53_5 : decode cJ9_min_7cf53 5 = .ok (.iload_n 0, 1) := by decide +kernel
theorem dJ9_min_7cf53_6 : decode cJ9_min_7cf53 6 = .ok (.goto 4, 3) := by decide +kernel
theorem dJ9_min_7cf53_9 : decode cJ9_min_7cf53 9 = .ok (.iload_n 1, 1) := by decide +kernel
theorem dJ9_min_7cf53_10 : decode cJ9_min_7cf53 10 = .ok (.ireturn, 1) := by decide +kernel
theorem dJ0_length_8abf5_0 : decode cJ0_length_8abf5 0 = .ok (.aload_n 0, 1) := by decide +kernel
theorem dJ0_length_8abf5_1 : decode cJ0_length_8abf5 1 = .ok (.getfield 9, 3) := by decide +kernel
theorem dJ0_length_8abf5_4 : decode cJ0_length_8abf5 4 = .ok (.arraylength, 1) := by decide +kernel
theorem dJ0_length_8abf5_5 : decode cJ0_length_8abf5 5 = .ok (.aload_n 0, 1) := by decide +kernel
theorem dJ0_length_8abf5_6 : decode cJ0_length_8abf5 6 = .ok (.invokevirtual 335, 3) := by decide +kernel
theorem dJ0_length_8abf5_9 : decode cJ0_length_8abf5 9 = .ok (.ishr, 1) := by decide +kernel
theorem dJ0_length_8abf5_10 : decode cJ0_length_8abf5 10 = .ok (.ireturn, 1) := by decide +kernel
theorem dJ0_charAt_5068e_0 : decode cJ0_charAt_5068e 0 = .ok (.aload_n 0, 1) := by decide +kernel
theorem dJ0_charAt_5068e_1 : decode cJ0_charAt_5068e 1 = .ok (.invokevirtual 492, 3) := by decide +kernel
theorem dJ0_charAt_5068e_4 : decode cJ0_charAt_5068e 4 = .ok (.ifCond .eq 12, 3) := by decide +kernel
theorem dJ0_charAt_5068e_7 : decode cJ0_charAt_5068e 7 = .ok (.aload_n 0, 1) := by decide +kernel
theorem dJ0_charAt_5068e_8 : decode cJ0_charAt_5068e 8 = .ok (.getfield 9, 3) := by decide +kernel
theorem dJ0_charAt_5068e_11 : decode cJ0_charAt_5068e 11 = .ok (.iload_n 1, 1) := by decide +kernel
theorem dJ0_charAt_5068e_12 : decode cJ0_charAt_5068e 12 = .ok (.invokestatic 495, 3) := by decide +kernel
theorem dJ0_charAt_5068e_15 : decode cJ0_charAt_5068e 15 = .ok (.ireturn, 1) := by decide +kernel
theorem dJ0_charAt_5068e_16 : decode cJ0_charAt_5068e 16 = .ok (.aload_n 0, 1) := by decide +kernel
theorem dJ0_charAt_5068e_17 : decode cJ0_charAt_5068e 17 = .ok (.getfield 9, 3) := by decide +kernel
theorem dJ0_charAt_5068e_20 : decode cJ0_charAt_5068e 20 = .ok (.iload_n 1, 1) := by decide +kernel
theorem dJ0_charAt_5068e_21 : decode cJ0_charAt_5068e 21 = .ok (.invokestatic 498, 3) := by decide +kernel
theorem dJ0_charAt_5068e_24 : decode cJ0_charAt_5068e 24 = .ok (.ireturn, 1) := by decide +kernel
theorem dJ0_coder_7d493_0 : decode cJ0_coder_7d493 0 = .ok (.getstatic 38, 3) := by decide +kernel
theorem dJ0_coder_7d493_3 : decode cJ0_coder_7d493 3 = .ok (.ifCond .eq 10, 3) := by decide +kernel
theorem dJ0_coder_7d493_6 : decode cJ0_coder_7d493 6 = .ok (.aload_n 0, 1) := by decide +kernel
theorem dJ0_coder_7d493_7 : decode cJ0_coder_7d493 7 = .ok (.getfield 15, 3) := by decide +kernel
theorem dJ0_coder_7d493_10 : decode cJ0_coder_7d493 10 = .ok (.goto 4, 3) := by decide +kernel
theorem dJ0_coder_7d493_13 : decode cJ0_coder_7d493 13 = .ok (.iconst 1, 1) := by decide +kernel
theorem dJ0_coder_7d493_14 : decode cJ0_coder_7d493 14 = .ok (.ireturn, 1) := by decide +kernel
theorem dJ0_isLatin1_aae02_0 : decode cJ0_isLatin1_aae02 0 = .ok (.getstatic 38, 3) := by decide +kernel
theorem dJ0_isLatin1_aae02_3 : decode cJ0_isLatin1_aae02 3 = .ok (.ifCond .eq 14, 3) := by decide +kernel
theorem dJ0_isLatin1_aae02_6 : decode cJ0_isLatin1_aae02 6 = .ok (.aload_n 0, 1) := by decide +kernel
theorem dJ0_isLatin1_aae02_7 : decode cJ0_isLatin1_aae02 7 = .ok (.getfield 15, 3) := by decide +kernel
theorem dJ0_isLatin1_aae02_10 : decode cJ0_isLatin1_aae02 10 = .ok (.ifCond .ne 7, 3) := by decide +kernel
theorem dJ0_isLatin1_aae02_13 : decode cJ0_isLatin1_aae02 13 = .ok (.iconst 1, 1) := by decide +kernel
theorem dJ0_isLatin1_aae02_14 : decode cJ0_isLatin1_aae02 14 = .ok (.goto 4, 3) := by decide +kernel
theorem dJ0_isLatin1_aae02_17 : decode cJ0_isLatin1_aae02 17 = .ok (.iconst 0, 1) := by decide +kernel
theorem dJ0_isLatin1_aae02_18 : decode cJ0_isLatin1_aae02 18 = .ok (.ireturn, 1) := by decide +kernel
theorem dJ0_checkIndex_df160_0 : decode cJ0_checkIndex_df160 0 = .ok (.iload_n 0, 1) := by decide +kernel
theorem dJ0_checkIndex_df160_1 : decode cJ0_checkIndex_df160 1 = .ok (.iload_n 1, 1) := by decide +kernel
theorem dJ0_checkIndex_df160_2 : decode cJ0_checkIndex_df160 2 = .ok (.getstatic 1053, 3) := by decide +kernel
theorem dJ0_checkIndex_df160_5 : decode cJ0_checkIndex_df160 5 = .ok (.invokestatic 1059, 3) := by decide +kernel
theorem dJ0_checkIndex_df160_8 : decode cJ0_checkIndex_df160 8 = .ok (.pop, 1) := by decide +kernel
theorem dJ0_checkIndex_df160_9 : decode cJ0_checkIndex_df160 9 = .ok (.return_, 1) := by decide +kernel
theorem dJ1_charAt_3b067_0 : decode cJ1_charAt_3b067 0 = .ok (.iload_n 1, 1) := by decide +kernel
theorem dJ1_charAt_3b067_1 : decode cJ1_charAt_3b067 1 = .ok (.aload_n 0, 1) := by decide +kernel
theorem dJ1_charAt_3b067_2 : decode cJ1_charAt_3b067 2 = .ok (.arraylength, 1) := by decide +kernel
theorem dJ1_charAt_3b067_3 : decode cJ1_charAt_3b067 3 = .ok (.invokestatic 9, 3) := by decide +kernel
theorem dJ1_charAt_3b067_6 : decode cJ1_charAt_3b067 6 = .ok (.aload_n 0, 1) := by decide +kernel
theorem dJ1_charAt_3b067_7 : decode cJ1_charAt_3b067 7 = .ok (.iload_n 1, 1) := by decide +kernel
theorem dJ1_charAt_3b067_8 : decode cJ1_charAt_3b067 8 = .ok (.baload, 1) := by decide +kernel
theorem dJ1_charAt_3b067_9 : decode cJ1_charAt_3b067 9 = .ok (.sipush 255, 3) := by decide +kernel
theorem dJ1_charAt_3b067_12 : decode cJ1_charAt_3b067 12 = .ok (.iand, 1) := by decide +kernel
theorem dJ1_charAt_3b067_13 : decode cJ1_charAt_3b067 13 = .ok (.i2c, 1) := by decide +kernel
theorem dJ1_charAt_3b067_14 : decode cJ1_charAt_3b067 14 = .ok (.ireturn, 1) := by decide +kernel
theorem dJ2_getChar_3b067_0 : decode cJ2_getChar_3b067 0 = .ok (.getstatic 44, 3) := by decide +kernel
theorem dJ2_getChar_3b067_3 : decode cJ2_getChar_3b067 3 = .ok (.ifCond .ne 25, 3) := by decide +kernel
theorem dJ2_getChar_3b067_6 : decode cJ2_getChar_3b067 6 = .ok (.iload_n 1, 1) := by decide +kernel
theorem dJ2_getChar_3b067_7 : decode cJ2_getChar_3b067 7 = .ok (.ifCond .lt 11, 3) := by decide +kernel
theorem dJ2_getChar_3b067_10 : decode cJ2_getChar_3b067 10 = .ok (.iload_n 1, 1) := by decide +kernel
theorem dJ2_getChar_3b067_11 : decode cJ2_getChar_3b067 11 = .ok (.aload_n 0, 1) := by decide +kernel
theorem dJ2_getChar_3b067_12 : decode cJ2_getChar_3b067 12 = .ok (.invokestatic 48, 3) := by decide +kernel
theorem dJ2_getChar_3b067_15 : decode cJ2_getChar_3b067 15 = .ok (.if_icmp .lt 13, 3) := by decide +kernel
theorem dJ2_getChar_3b067_18 : decode cJ2_getChar_3b067 18 = .ok (.new 52, 3) := by decide +kernel
theorem dJ2_getChar_3b067_21 : decode cJ2_getChar_3b067 21 = .ok (.dup, 1) := by decide +kernel
theorem dJ2_getChar_3b067_22 : decode cJ2_getChar_3b067 22 = .ok (.ldc 54, 2) := by decide +kernel
theorem dJ2_getChar_3b067_24 : decode cJ2_getChar_3b067 24 = .ok (.invokespecial 56, 3) := by decide +kernel
theorem dJ2_getChar_3b067_27 : decode cJ2_getChar_3b067 27 = .ok (.athrow, 1) := by decide +kernel
theorem dJ2_getChar_3b067_28 : decode cJ2_getChar_3b067 28 = .ok (.iload_n 1, 1) := by decide +kernel
theorem dJ2_getChar_3b067_29 : decode cJ2_getChar_3b067 29 = .ok (.iconst 1, 1) := by decide +kernel
theorem dJ2_getChar_3b067_30 : decode cJ2_getChar_3b067 30 = .ok (.ishl, 1) := by decide +kernel
theorem dJ2_getChar_3b067_31 : decode cJ2_getChar_3b067 31 = .ok (.istore_n 1, 1) := by decide +kernel
theorem dJ2_getChar_3b067_32 : decode cJ2_getChar_3b067 32 = .ok (.aload_n 0, 1) := by decide +kernel
theorem dJ2_getChar_3b067_33 : decode cJ2_getChar_3b067 33 = .ok (.iload_n 1, 1) := by decide +kernel
theorem dJ2_getChar_3b067_34 : decode cJ2_getChar_3b067 34 = .ok (.iinc 1 1, 3) := by decide +kernel
theorem dJ2_getChar_3b067_37 : decode cJ2_getChar_3b067 37 = .ok (.baload, 1) := by decide +kernel
theorem dJ2_getChar_3b067_38 : decode cJ2_getChar_3b067 38 = .ok (.sipush 255, 3) := by decide +kernel
theorem dJ2_getChar_3b067_41 : decode cJ2_getChar_3b067 41 = .ok (.iand, 1) := by decide +kernel
theorem dJ2_getChar_3b067_42 : decode cJ2_getChar_3b067 42 = .ok (.getstatic 59, 3) := by decide +kernel
theorem dJ2_getChar_3b067_45 : decode cJ2_getChar_3b067 45 = .ok (.ishl, 1) := by decide +kernel
theorem dJ2_getChar_3b067_46 : decode cJ2_getChar_3b067 46 = .ok (.aload_n 0, 1) := by decide +kernel
theorem dJ2_getChar_3b067_47 : decode cJ2_getChar_3b067 47 = .ok (.iload_n 1, 1) := by decide +kernel
theorem dJ2_getChar_3b067_48 : decode cJ2_getChar_3b067 48 = .ok (.baload, 1) := by decide +kernel
theorem dJ2_getChar_3b067_49 : decode cJ2_getChar_3b067 49 = .ok (.sipush 255, 3) := by decide +kernel
theorem dJ2_getChar_3b067_52 : decode cJ2_getChar_3b067 52 = .ok (.iand, 1) := by decide +kernel
theorem dJ2_getChar_3b067_53 : decode cJ2_getChar_3b067 53 = .ok (.getstatic 63, 3) := by decide +kernel
theorem dJ2_getChar_3b067_56 : decode cJ2_getChar_3b067 56 = .ok (.ishl, 1) := by decide +kernel
theorem dJ2_getChar_3b067_57 : decode cJ2_getChar_3b067 57 = .ok (.ior, 1) := by decide +kernel
theorem dJ2_getChar_3b067_58 : decode cJ2_getChar_3b067 58 = .ok (.i2c, 1) := by decide +kernel
theorem dJ2_getChar_3b067_59 : decode cJ2_getChar_3b067 59 = .ok (.ireturn, 1) := by decide +kernel
theorem dJ2_length_9d52b_0 : decode cJ2_length_9d52b 0 = .ok (.aload_n 0, 1) := by decide +kernel
theorem dJ2_length_9d52b_1 : decode cJ2_length_9d52b 1 = .ok (.arraylength, 1) := by decide +kernel
theorem dJ2_length_9d52b_2 : decode cJ2_length_9d52b 2 = .ok (.iconst 1, 1) := by decide +kernel
theorem dJ2_length_9d52b_3 : decode cJ2_length_9d52b 3 = .ok (.ishr, 1) := by decide +kernel
theorem dJ2_length_9d52b_4 : decode cJ2_length_9d52b 4 = .ok (.ireturn, 1) := by decide +kernel
theorem dJ2_charAt_3b067_0 : decode cJ2_charAt_3b067 0 = .ok (.iload_n 1, 1) := by decide +kernel
theorem dJ2_charAt_3b067_1 : decode cJ2_charAt_3b067 1 = .ok (.aload_n 0, 1) := by decide +kernel
theorem dJ2_charAt_3b067_2 : decode cJ2_charAt_3b067 2 = .ok (.invokestatic 67, 3) := by decide +kernel
theorem dJ2_charAt_3b067_5 : decode cJ2_charAt_3b067 5 = .ok (.aload_n 0, 1) := by decide +kernel
theorem dJ2_charAt_3b067_6 : decode cJ2_charAt_3b067 6 = .ok (.iload_n 1, 1) := by decide +kernel
theorem dJ2_charAt_3b067_7 : decode cJ2_charAt_3b067 7 = .ok (.invokestatic 71, 3) := by decide +kernel
theorem dJ2_charAt_3b067_10 : decode cJ2_charAt_3b067 10 = .ok (.ireturn, 1) := by decide +kernel
theorem dJ2_checkIndex_2214a_0 : decode cJ2_checkIndex_2214a 0 = .ok (.iload_n 0, 1) := by decide +kernel
theorem dJ2_checkIndex_2214a_1 : decode cJ2_checkIndex_2214a 1 = .ok (.aload_n 1, 1) := by decide +kernel
theorem dJ2_checkIndex_2214a_2 : decode cJ2_checkIndex_2214a 2 = .ok (.invokestatic 48, 3) := by decide +kernel
theorem dJ2_checkIndex_2214a_5 : decode cJ2_checkIndex_2214a 5 = .ok (.invokestatic 414, 3) := by decide +kernel
theorem dJ2_checkIndex_2214a_8 : decode cJ2_checkIndex_2214a 8 = .ok (.return_, 1) := by decide +kernel
theorem dJ3_checkIndex_8e157_0 : decode cJ3_checkIndex_8e157 0 = .ok (.iload_n 0, 1) := by decide +kernel
theorem dJ3_checkIndex_8e157_1 : decode cJ3_checkIndex_8e157 1 = .ok (.ifCond .lt 8, 3) := by decide +kernel
theorem dJ3_checkIndex_8e157_4 : decode cJ3_checkIndex_8e157 4 = .ok (.iload_n 0, 1) := by decide +kernel
theorem dJ3_checkIndex_8e157_5 : decode cJ3_checkIndex_8e157 5 = .ok (.iload_n 1, 1) := by decide +kernel
theorem dJ3_checkIndex_8e157_6 : decode cJ3_checkIndex_8e157 6 = .ok (.if_icmp .lt 10, 3) := by decide +kernel
theorem dJ3_checkIndex_8e157_9 : decode cJ3_checkIndex_8e157 9 = .ok (.aload_n 2, 1) := by decide +kernel
theorem dJ3_checkIndex_8e157_10 : decode cJ3_checkIndex_8e157 10 = .ok (.iload_n 0, 1) := by decide +kernel
theorem dJ3_checkIndex_8e157_11 : decode cJ3_checkIndex_8e157 11 = .ok (.iload_n 1, 1) := by decide +kernel
theorem dJ3_checkIndex_8e157_12 : decode cJ3_checkIndex_8e157 12 = .ok (.invokestatic 95, 3) := by decide +kernel
theorem dJ3_checkIndex_8e157_15 : decode cJ3_checkIndex_8e157 15 = .ok (.athrow, 1) := by decide +kernel
theorem dJ3_checkIndex_8e157_16 : decode cJ3_checkIndex_8e157 16 = .ok (.iload_n 0, 1) := by decide +kernel
theorem dJ3_checkIndex_8e157_17 : decode cJ3_checkIndex_8e157 17 = .ok (.ireturn, 1) := by decide +kernel
theorem dL_law_0 : decode cL_law 0 = .ok (.new 7, 3) := by decide +kernel
theorem dL_law_3 : decode cL_law 3 = .ok (.dup, 1) := by decide +kernel
theorem dL_law_4 : decode cL_law 4 = .ok (.invokespecial 9, 3) := by decide +kernel
theorem dL_law_7 : decode cL_law 7 = .ok (.astore_n 1, 1) := by decide +kernel
theorem dL_law_8 : decode cL_law 8 = .ok (.new 10, 3) := by decide +kernel
theorem dL_law_11 : decode cL_law 11 = .ok (.dup, 1) := by decide +kernel
theorem dL_law_12 : decode cL_law 12 = .ok (.invokespecial 12, 3) := by decide +kernel
theorem dL_law_15 : decode cL_law 15 = .ok (.astore_n 2, 1) := by decide +kernel
theorem dL_law_16 : decode cL_law 16 = .ok (.iconst 0, 1) := by decide +kernel
theorem dL_law_17 : decode cL_law 17 = .ok (.istore_n 3, 1) := by decide +kernel
theorem dL_law_18 : decode cL_law 18 = .ok (.iload_n 3, 1) := by decide +kernel
theorem dL_law_19 : decode cL_law 19 = .ok (.aload_n 0, 1) := by decide +kernel
theorem dL_law_20 : decode cL_law 20 = .ok (.arraylength, 1) := by decide +kernel
theorem dL_law_21 : decode cL_law 21 = .ok (.bipush 6, 2) := by decide +kernel
theorem dL_law_23 : decode cL_law 23 = .ok (.isub, 1) := by decide +kernel
theorem dL_law_24 : decode cL_law 24 = .ok (.if_icmp .gt 962, 3) := by decide +kernel
theorem dL_law_27 : decode cL_law 27 = .ok (.aload_n 0, 1) := by decide +kernel
theorem dL_law_28 : decode cL_law 28 = .ok (.iload_n 3, 1) := by decide +kernel
theorem dL_law_29 : decode cL_law 29 = .ok (.iaload, 1) := by decide +kernel
theorem dL_law_30 : decode cL_law 30 = .ok (.bipush 31, 2) := by decide +kernel
theorem dL_law_32 : decode cL_law 32 = .ok (.iand, 1) := by decide +kernel
theorem dL_law_33 : decode cL_law 33 = .ok (.tableswitch 947 0 25 #[119, 162, 205, 268, 291, 354, 367, 380, 403, 416, 449, 482, 525, 558, 591, 614, 667, 710, 753, 776, 799, 822, 855, 888, 911, 934], 119) := by decide +kernel
theorem dL_law_152 : decode cL_law 152 = .ok (.aload_n 1, 1) := by decide +kernel
theorem dL_law_153 : decode cL_law 153 = .ok (.aload_n 0, 1) := by decide +kernel
theorem dL_law_154 : decode cL_law 154 = .ok (.iload_n 3, 1) := by decide +kernel
theorem dL_law_155 : decode cL_law 155 = .ok (.iconst 1, 1) := by decide +kernel
theorem dL_law_156 : decode cL_law 156 = .ok (.iadd, 1) := by decide +kernel
theorem dL_law_157 : decode cL_law 157 = .ok (.iaload, 1) := by decide +kernel
theorem dL_law_158 : decode cL_law 158 = .ok (.aload_n 0, 1) := by decide +kernel
theorem dL_law_159 : decode cL_law 159 = .ok (.iload_n 3, 1) := by decide +kernel
theorem dL_law_160 : decode cL_law 160 = .ok (.iconst 2, 1) := by decide +kernel
theorem dL_law_161 : decode cL_law 161 = .ok (.iadd, 1) := by decide +kernel
theorem dL_law_162 : decode cL_law 162 = .ok (.iaload, 1) := by decide +kernel
theorem dL_law_163 : decode cL_law 163 = .ok (.aload_n 0, 1) := by decide +kernel
theorem dL_law_164 : decode cL_law 164 = .ok (.iload_n 3, 1) := by decide +kernel
theorem dL_law_165 : decode cL_law 165 = .ok (.iconst 3, 1) := by decide +kernel
theorem dL_law_166 : decode cL_law 166 = .ok (.iadd, 1) := by decide +kernel
theorem dL_law_167 : decode cL_law 167 = .ok (.iaload, 1) := by decide +kernel
theorem dL_law_168 : decode cL_law 168 = .ok (.invokevirtual 13, 3) := by decide +kernel
theorem dL_law_171 : decode cL_law 171 = .ok (.aload_n 2, 1) := by decide +kernel
theorem dL_law_172 : decode cL_law 172 = .ok (.aload_n 0, 1) := by decide +kernel
theorem dL_law_173 : decode cL_law 173 = .ok (.iload_n 3, 1) := by decide +kernel
theorem dL_law_174 : decode cL_law 174 = .ok (.iconst 1, 1) := by decide +kernel
theorem dL_law_175 : decode cL_law 175 = .ok (.iadd, 1) := by decide +kernel
theorem dL_law_176 : decode cL_law 176 = .ok (.iaload, 1) := by decide +kernel
theorem dL_law_177 : decode cL_law 177 = .ok (.aload_n 0, 1) := by decide +kernel
theorem dL_law_178 : decode cL_law 178 = .ok (.iload_n 3, 1) := by decide +kernel
theorem dL_law_179 : decode cL_law 179 = .ok (.iconst 2, 1) := by decide +kernel
theorem dL_law_180 : decode cL_law 180 = .ok (.iadd, 1) := by decide +kernel
theorem dL_law_181 : decode cL_law 181 = .ok (.iaload, 1) := by decide +kernel
theorem dL_law_182 : decode cL_law 182 = .ok (.aload_n 0, 1) := by decide +kernel
theorem dL_law_183 : decode cL_law 183 = .ok (.iload_n 3, 1) := by decide +kernel
theorem dL_law_184 : decode cL_law 184 = .ok (.iconst 3, 1) := by decide +kernel
theorem dL_law_185 : decode cL_law 185 = .ok (.iadd, 1) := by decide +kernel
theorem dL_law_186 : decode cL_law 186 = .ok (.iaload, 1) := by decide +kernel
theorem dL_law_187 : decode cL_law 187 = .ok (.invokevirtual 17, 3) := by decide +kernel
theorem dL_law_190 : decode cL_law 190 = .ok (.if_icmp .eq 790, 3) := by decide +kernel
theorem dL_law_193 : decode cL_law 193 = .ok (.iconst 0, 1) := by decide +kernel
theorem dL_law_194 : decode cL_law 194 = .ok (.ireturn, 1) := by decide +kernel
theorem dL_law_195 : decode cL_law 195 = .ok (.aload_n 1, 1) := by decide +kernel
theorem dL_law_196 : decode cL_law 196 = .ok (.aload_n 0, 1) := by decide +kernel
theorem dL_law_197 : decode cL_law 197 = .ok (.iload_n 3, 1) := by decide +kernel
theorem dL_law_198 : decode cL_law 198 = .ok (.iconst 1, 1) := by decide +kernel
theorem dL_law_199 : decode cL_law 199 = .ok (.iadd, 1) := by decide +kernel
theorem dL_law_200 : decode cL_law 200 = .ok (.iaload, 1) := by decide +kernel
theorem dL_law_201 : decode cL_law 201 = .ok (.aload_n 0, 1) := by decide +kernel
theorem dL_law_202 : decode cL_law 202 = .ok (.iload_n 3, 1) := by decide +kernel
theorem dL_law_203 : decode cL_law 203 = .ok (.iconst 2, 1) := by decide +kernel
theorem dL_law_204 : decode cL_law 204 = .ok (.iadd, 1) := by decide +kernel
theorem dL_law_205 : decode cL_law 205 = .ok (.iaload, 1) := by decide +kernel
theorem dL_law_206 : decode cL_law 206 = .ok (.aload_n 0, 1) := by decide +kernel
theorem dL_law_207 : decode cL_law 207 = .ok (.iload_n 3, 1) := by decide +kernel
theorem dL_law_208 : decode cL_law 208 = .ok (.iconst 3, 1) := by decide +kernel
theorem dL_law_209 : decode cL_law 209 = .ok (.iadd, 1) := by decide +kernel
theorem dL_law_210 : decode cL_law 210 = .ok (.iaload, 1) := by decide +kernel
theorem dL_law_211 : decode cL_law 211 = .ok (.invokevirtual 18, 3) := by decide +kernel
theorem dL_law_214 : decode cL_law 214 = .ok (.aload_n 2, 1) := by decide +kernel
theorem dL_law_215 : decode cL_law 215 = .ok (.aload_n 0, 1) := by decide +kernel
theorem dL_law_216 : decode cL_law 216 = .ok (.iload_n 3, 1) := by decide +kernel
theorem dL_law_217 : decode cL_law 217 = .ok (.iconst 1, 1) := by decide +kernel
theorem dL_law_218 : decode cL_law 218 = .ok (.iadd, 1) := by decide +kernel
theorem dL_law_219 : decode cL_law 219 = .ok (.iaload, 1) := by decide +kernel
theorem dL_law_220 : decode cL_law 220 = .ok (.aload_n 0, 1) := by decide +kernel
theorem dL_law_221 : decode cL_law 221 = .ok (.iload_n 3, 1) := by decide +kernel
theorem dL_law_222 : decode cL_law 222 = .ok (.iconst 2, 1) := by decide +kernel
theorem dL_law_223 : decode cL_law 223 = .ok (.iadd, 1) := by decide +kernel
theorem dL_law_224 : decode cL_law 224 = .ok (.iaload, 1) := by decide +kernel
theorem dL_law_225 : decode cL_law 225 = .ok (.aload_n 0, 1) := by decide +kernel
theorem dL_law_226 : decode cL_law 226 = .ok (.iload_n 3, 1) := by decide +kernel
theorem dL_law_227 : decode cL_law 227 = .ok (.iconst 3, 1) := by decide +kernel
theorem dL_law_228 : decode cL_law 228 = .ok (.iadd, 1) := by decide +kernel
theorem dL_law_229 : decode cL_law 229 = .ok (.iaload, 1) := by decide +kernel
theorem dL_law_230 : decode cL_law 230 = .ok (.invokevirtual 21, 3) := by decide +kernel
theorem dL_law_233 : decode cL_law 233 = .ok (.if_icmp .eq 747, 3) := by decide +kernel
theorem dL_law_236 : decode cL_law 236 = .ok (.iconst 0, 1) := by decide +kernel
theorem dL_law_237 : decode cL_law 237 = .ok (.ireturn, 1) := by decide +kernel
theorem dL_law_238 : decode cL_law 238 = .ok (.aload_n 1, 1) := by decide +kernel
theorem dL_law_239 : decode cL_law 239 = .ok (.aload_n 0, 1) := by decide +kernel
theorem dL_law_240 : decode cL_law 240 = .ok (.iload_n 3, 1) := by decide +kernel
theorem dL_law_241 : decode cL_law 241 = .ok (.iconst 1, 1) := by decide +kernel
theorem dL_law_242 : decode cL_law 242 = .ok (.iadd, 1) := by decide +kernel
theorem dL_law_243 : decode cL_law 243 = .ok (.iaload, 1) := by decide +kernel
theorem dL_law_244 : decode cL_law 244 = .ok (.aload_n 0, 1) := by decide +kernel
theorem dL_law_245 : decode cL_law 245 = .ok (.iload_n 3, 1) := by decide +kernel
theorem dL_law_246 : decode cL_law 246 = .ok (.iconst 2, 1) := by decide +kernel
theorem dL_law_247 : decode cL_law 247 = .ok (.iadd, 1) := by decide +kernel
theorem dL_law_248 : decode cL_law 248 = .ok (.iaload, 1) := by decide +kernel
theorem dL_law_249 : decode cL_law 249 = .ok (.aload_n 0, 1) := by decide +kernel
theorem dL_law_250 : decode cL_law 250 = .ok (.iload_n 3, 1) := by decide +kernel
theorem dL_law_251 : decode cL_law 251 = .ok (.iconst 3, 1) := by decide +kernel
theorem dL_law_252 : decode cL_law 252 = .ok (.iadd, 1) := by decide +kernel
theorem dL_law_253 : decode cL_law 253 = .ok (.iaload, 1) := by decide +kernel
theorem dL_law_254 : decode cL_law 254 = .ok (.aload_n 0, 1) := by decide +kernel
theorem dL_law_255 : decode cL_law 255 = .ok (.iload_n 3, 1) := by decide +kernel
theorem dL_law_256 : decode cL_law 256 = .ok (.iconst 4, 1) := by decide +kernel
theorem dL_law_257 : decode cL_law 257 = .ok (.iadd, 1) := by decide +kernel
theorem dL_law_258 : decode cL_law 258 = .ok (.iaload, 1) := by decide +kernel
theorem dL_law_259 : decode cL_law 259 = .ok (.aload_n 0, 1) := by decide +kernel
theorem dL_law_260 : decode cL_law 260 = .ok (.iload_n 3, 1) := by decide +kernel
theorem dL_law_261 : decode cL_law 261 = .ok (.iconst 5, 1) := by decide +kernel
theorem dL_law_262 : decode cL_law 262 = .ok (.iadd, 1) := by decide +kernel
theorem dL_law_263 : decode cL_law 263 = .ok (.iaload, 1) := by decide +kernel
theorem dL_law_264 : decode cL_law 264 = .ok (.invokevirtual 22, 3) := by decide +kernel
theorem dL_law_267 : decode cL_law 267 = .ok (.aload_n 2, 1) := by decide +kernel
theorem dL_law_268 : decode cL_law 268 = .ok (.aload_n 0, 1) := by decide +kernel
theorem dL_law_269 : decode cL_law 269 = .ok (.iload_n 3, 1) := by decide +kernel
theorem dL_law_270 : decode cL_law 270 = .ok (.iconst 1, 1) := by decide +kernel
theorem dL_law_271 : decode cL_law 271 = .ok (.iadd, 1) := by decide +kernel
theorem dL_law_272 : decode cL_law 272 = .ok (.iaload, 1) := by decide +kernel
theorem dL_law_273 : decode cL_law 273 = .ok (.aload_n 0, 1) := by decide +kernel
theorem dL_law_274 : decode cL_law 274 = .ok (.iload_n 3, 1) := by decide +kernel
theorem dL_law_275 : decode cL_law 275 = .ok (.iconst 2, 1) := by decide +kernel
theorem dL_law_276 : decode cL_law 276 = .ok (.iadd, 1) := by decide +kernel
theorem dL_law_277 : decode cL_law 277 = .ok (.iaload, 1) := by decide +kernel
theorem dL_law_278 : decode cL_law 278 = .ok (.aload_n 0, 1) := by decide +kernel
theorem dL_law_279 : decode cL_law 279 = .ok (.iload_n 3, 1) := by decide +kernel
theorem dL_law_280 : decode cL_law 280 = .ok (.iconst 3, 1) := by decide +kernel
theorem dL_law_281 : decode cL_law 281 = .ok (.iadd, 1) := by decide +kernel
theorem dL_law_282 : decode cL_law 282 = .ok (.iaload, 1) := by decide +kernel
theorem dL_law_283 : decode cL_law 283 = .ok (.aload_n 0, 1) := by decide +kernel
theorem dL_law_284 : decode cL_law 284 = .ok (.iload_n 3, 1) := by decide +kernel
theorem dL_law_285 : decode cL_law 285 = .ok (.iconst 4, 1) := by decide +kernel
theorem dL_law_286 : decode cL_law 286 = .ok (.iadd, 1) := by decide +kernel
theorem dL_law_287 : decode cL_law 287 = .ok (.iaload, 1) := by decide +kernel
theorem dL_law_288 : decode cL_law 288 = .ok (.aload_n 0, 1) := by decide +kernel
theorem dL_law_289 : decode cL_law 289 = .ok (.iload_n 3, 1) := by decide +kernel
theorem dL_law_290 : decode cL_law 290 = .ok (.iconst 5, 1) := by decide +kernel
theorem dL_law_291 : decode cL_law 291 = .ok (.iadd, 1) := by decide +kernel
theorem dL_law_292 : decode cL_law 292 = .ok (.iaload, 1) := by decide +kernel
theorem dL_law_293 : decode cL_law 293 = .ok (.invokevirtual 26, 3) := by decide +kernel
theorem dL_law_296 : decode cL_law 296 = .ok (.if_icmp .eq 684, 3) := by decide +kernel
theorem dL_law_299 : decode cL_law 299 = .ok (.iconst 0, 1) := by decide +kernel
theorem dL_law_300 : decode cL_law 300 = .ok (.ireturn, 1) := by decide +kernel
theorem dL_law_301 : decode cL_law 301 = .ok (.aload_n 1, 1) := by decide +kernel
theorem dL_law_302 : decode cL_law 302 = .ok (.aload_n 0, 1) := by decide +kernel
theorem dL_law_303 : decode cL_law 303 = .ok (.iload_n 3, 1) := by decide +kernel
theorem dL_law_304 : decode cL_law 304 = .ok (.iconst 1, 1) := by decide +kernel
theorem dL_law_305 : decode cL_law 305 = .ok (.iadd, 1) := by decide +kernel
theorem dL_law_306 : decode cL_law 306 = .ok (.iaload, 1) := by decide +kernel
theorem dL_law_307 : decode cL_law 307 = .ok (.invokevirtual 27, 3) := by decide +kernel
theorem dL_law_310 : decode cL_law 310 = .ok (.aload_n 2, 1) := by decide +kernel
theorem dL_law_311 : decode cL_law 311 = .ok (.aload_n 0, 1) := by decide +kernel
theorem dL_law_312 : decode cL_law 312 = .ok (.iload_n 3, 1) := by decide +kernel
theorem dL_law_313 : decode cL_law 313 = .ok (.iconst 1, 1) := by decide +kernel
theorem dL_law_314 : decode cL_law 314 = .ok (.iadd, 1) := by decide +kernel
theorem dL_law_315 : decode cL_law 315 = .ok (.iaload, 1) := by decide +kernel
theorem dL_law_316 : decode cL_law 316 = .ok (.invokevirtual 31, 3) := by decide +kernel
theorem dL_law_319 : decode cL_law 319 = .ok (.if_icmp .eq 661, 3) := by decide +kernel
theorem dL_law_322 : decode cL_law 322 = .ok (.iconst 0, 1) := by decide +kernel
theorem dL_law_323 : decode cL_law 323 = .ok (.ireturn, 1) := by decide +kernel
theorem dL_law_324 : decode cL_law 324 = .ok (.aload_n 1, 1) := by decide +kernel
theorem dL_law_325 : decode cL_law 325 = .ok (.aload_n 0, 1) := by decide +kernel
theorem dL_law_326 : decode cL_law 326 = .ok (.iload_n 3, 1) := by decide +kernel
theorem dL_law_327 : decode cL_law 327 = .ok (.iconst 1, 1) := by decide +kernel
theorem dL_law_328 : decode cL_law 328 = .ok (.iadd, 1) := by decide +kernel
theorem dL_law_329 : decode cL_law 329 = .ok (.iaload, 1) := by decide +kernel
theorem dL_law_330 : decode cL_law 330 = .ok (.i2l, 1) := by decide +kernel
theorem dL_law_331 : decode cL_law 331 = .ok (.bipush 32, 2) := by decide +kernel
theorem dL_law_333 : decode cL_law 333 = .ok (.lshl, 1) := by decide +kernel
theorem dL_law_334 : decode cL_law 334 = .ok (.aload_n 0, 1) := by decide +kernel
theorem dL_law_335 : decode cL_law 335 = .ok (.iload_n 3, 1) := by decide +kernel
theorem dL_law_336 : decode cL_law 336 = .ok (.iconst 2, 1) := by decide +kernel
theorem dL_law_337 : decode cL_law 337 = .ok (.iadd, 1) := by decide +kernel
theorem dL_law_338 : decode cL_law 338 = .ok (.iaload, 1) := by decide +kernel
theorem dL_law_339 : decode cL_law 339 = .ok (.i2l, 1) := by decide +kernel
theorem dL_law_340 : decode cL_law 340 = .ok (.ldc2_w 32, 3) := by decide +kernel
theorem dL_law_343 : decode cL_law 343 = .ok (.land, 1) := by decide +kernel
theorem dL_law_344 : decode cL_law 344 = .ok (.lor, 1) := by decide +kernel
theorem dL_law_345 : decode cL_law 345 = .ok (.aload_n 0, 1) := by decide +kernel
theorem dL_law_346 : decode cL_law 346 = .ok (.iload_n 3, 1) := by decide +kernel
theorem dL_law_347 : decode cL_law 347 = .ok (.iconst 3, 1) := by decide +kernel
theorem dL_law_348 : decode cL_law 348 = .ok (.iadd, 1) := by decide +kernel
theorem dL_law_349 : decode cL_law 349 = .ok (.iaload, 1) := by decide +kernel
theorem dL_law_350 : decode cL_law 350 = .ok (.invokevirtual 34, 3) := by decide +kernel
theorem dL_law_353 : decode cL_law 353 = .ok (.aload_n 2, 1) := by decide +kernel
theorem dL_law_354 : decode cL_law 354 = .ok (.aload_n 0, 1) := by decide +kernel
theorem dL_law_355 : decode cL_law 355 = .ok (.iload_n 3, 1) := by decide +kernel
theorem dL_law_356 : decode cL_law 356 = .ok (.iconst 1, 1) := by decide +kernel
theorem dL_law_357 : decode cL_law 357 = .ok (.iadd, 1) := by decide +kernel
theorem dL_law_358 : decode cL_law 358 = .ok (.iaload, 1) := by decide +kernel
theorem dL_law_359 : decode cL_law 359 = .ok (.i2l, 1) := by decide +kernel
theorem dL_law_360 : decode cL_law 360 = .ok (.bipush 32, 2) := by decide +kernel
theorem dL_law_362 : decode cL_law 362 = .ok (.lshl, 1) := by decide +kernel
theorem dL_law_363 : decode cL_law 363 = .ok (.aload_n 0, 1) := by decide +kernel
theorem dL_law_364 : decode cL_law 364 = .ok (.iload_n 3, 1) := by decide +kernel
theorem dL_law_365 : decode cL_law 365 = .ok (.iconst 2, 1) := by decide +kernel
theorem dL_law_366 : decode cL_law 366 = .ok (.iadd, 1) := by decide +kernel
theorem dL_law_367 : decode cL_law 367 = .ok (.iaload, 1) := by decide +kernel
theorem dL_law_368 : decode cL_law 368 = .ok (.i2l, 1) := by decide +kernel
theorem dL_law_369 : decode cL_law 369 = .ok (.ldc2_w 32, 3) := by decide +kernel
theorem dL_law_372 : decode cL_law 372 = .ok (.land, 1) := by decide +kernel
theorem dL_law_373 : decode cL_law 373 = .ok (.lor, 1) := by decide +kernel
theorem dL_law_374 : decode cL_law 374 = .ok (.aload_n 0, 1) := by decide +kernel
theorem dL_law_375 : decode cL_law 375 = .ok (.iload_n 3, 1) := by decide +kernel
theorem dL_law_376 : decode cL_law 376 = .ok (.iconst 3, 1) := by decide +kernel
theorem dL_law_377 : decode cL_law 377 = .ok (.iadd, 1) := by decide +kernel
theorem dL_law_378 : decode cL_law 378 = .ok (.iaload, 1) := by decide +kernel
theorem dL_law_379 : decode cL_law 379 = .ok (.invokevirtual 38, 3) := by decide +kernel
theorem dL_law_382 : decode cL_law 382 = .ok (.if_icmp .eq 598, 3) := by decide +kernel
theorem dL_law_385 : decode cL_law 385 = .ok (.iconst 0, 1) := by decide +kernel
theorem dL_law_386 : decode cL_law 386 = .ok (.ireturn, 1) := by decide +kernel
theorem dL_law_387 : decode cL_law 387 = .ok (.aload_n 1, 1) := by decide +kernel
theorem dL_law_388 : decode cL_law 388 = .ok (.invokevirtual 39, 3) := by decide +kernel
theorem dL_law_391 : decode cL_law 391 = .ok (.aload_n 2, 1) := by decide +kernel
theorem dL_law_392 : decode cL_law 392 = .ok (.invokevirtual 43, 3) := by decide +kernel
theorem dL_law_395 : decode cL_law 395 = .ok (.if_icmp .eq 585, 3) := by decide +kernel
theorem dL_law_398 : decode cL_law 398 = .ok (.iconst 0, 1) := by decide +kernel
theorem dL_law_399 : decode cL_law 399 = .ok (.ireturn, 1) := by decide +kernel
theorem dL_law_400 : decode cL_law 400 = .ok (.aload_n 1, 1) := by decide +kernel
theorem dL_law_401 : decode cL_law 401 = .ok (.invokevirtual 44, 3) := by decide +kernel
theorem dL_law_404 : decode cL_law 404 = .ok (.aload_n 2, 1) := by decide +kernel
theorem dL_law_405 : decode cL_law 405 = .ok (.invokevirtual 47, 3) := by decide +kernel
theorem dL_law_408 : decode cL_law 408 = .ok (.if_icmp .eq 572, 3) := by decide +kernel
theorem dL_law_411 : decode cL_law 411 = .ok (.iconst 0, 1) := by decide +kernel
theorem dL_law_412 : decode cL_law 412 = .ok (.ireturn, 1) := by decide +kernel
theorem dL_law_413 : decode cL_law 413 = .ok (.aload_n 1, 1) := by decide +kernel
theorem dL_law_414 : decode cL_law 414 = .ok (.aload_n 0, 1) := by decide +kernel
theorem dL_law_415 : decode cL_law 415 = .ok (.iload_n 3, 1) := by decide +kernel
theorem dL_law_416 : decode cL_law 416 = .ok (.iconst 1, 1) := by decide +kernel
theorem dL_law_417 : decode cL_law 417 = .ok (.iadd, 1) := by decide +kernel
theorem dL_law_418 : decode cL_law 418 = .ok (.iaload, 1) := by decide +kernel
theorem dL_law_419 : decode cL_law 419 = .ok (.invokevirtual 48, 3) := by decide +kernel
theorem dL_law_422 : decode cL_law 422 = .ok (.aload_n 2, 1) := by decide +kernel
theorem dL_law_423 : decode cL_law 423 = .ok (.aload_n 0, 1) := by decide +kernel
theorem dL_law_424 : decode cL_law 424 = .ok (.iload_n 3, 1) := by decide +kernel
theorem dL_law_425 : decode cL_law 425 = .ok (.iconst 1, 1) := by decide +kernel
theorem dL_law_426 : decode cL_law 426 = .ok (.iadd, 1) := by decide +kernel
theorem dL_law_427 : decode cL_law 427 = .ok (.iaload, 1) := by decide +kernel
theorem dL_law_428 : decode cL_law 428 = .ok (.invokevirtual 51, 3) := by decide +kernel
theorem dL_law_431 : decode cL_law 431 = .ok (.if_icmp .eq 549, 3) := by decide +kernel
theorem dL_law_434 : decode cL_law 434 = .ok (.iconst 0, 1) := by decide +kernel
theorem dL_law_435 : decode cL_law 435 = .ok (.ireturn, 1) := by decide +kernel
theorem dL_law_436 : decode cL_law 436 = .ok (.aload_n 1, 1) := by decide +kernel
theorem dL_law_437 : decode cL_law 437 = .ok (.invokevirtual 52, 3) := by decide +kernel
theorem dL_law_440 : decode cL_law 440 = .ok (.aload_n 2, 1) := by decide +kernel
theorem dL_law_441 : decode cL_law 441 = .ok (.invokevirtual 55, 3) := by decide +kernel
theorem dL_law_444 : decode cL_law 444 = .ok (.if_icmp .eq 536, 3) := by decide +kernel
theorem dL_law_447 : decode cL_law 447 = .ok (.iconst 0, 1) := by decide +kernel
theorem dL_law_448 : decode cL_law 448 = .ok (.ireturn, 1) := by decide +kernel
theorem dL_law_449 : decode cL_law 449 = .ok (.aload_n 1, 1) := by decide +kernel
theorem dL_law_450 : decode cL_law 450 = .ok (.aload_n 0, 1) := by decide +kernel
theorem dL_law_451 : decode cL_law 451 = .ok (.iload_n 3, 1) := by decide +kernel
theorem dL_law_452 : decode cL_law 452 = .ok (.iconst 1, 1) := by decide +kernel
theorem dL_law_453 : decode cL_law 453 = .ok (.iadd, 1) := by decide +kernel
theorem dL_law_454 : decode cL_law 454 = .ok (.iaload, 1) := by decide +kernel
theorem dL_law_455 : decode cL_law 455 = .ok (.aload_n 0, 1) := by decide +kernel
theorem dL_law_456 : decode cL_law 456 = .ok (.iload_n 3, 1) := by decide +kernel
theorem dL_law_457 : decode cL_law 457 = .ok (.iconst 2, 1) := by decide +kernel
theorem dL_law_458 : decode cL_law 458 = .ok (.iadd, 1) := by decide +kernel
theorem dL_law_459 : decode cL_law 459 = .ok (.iaload, 1) := by decide +kernel
theorem dL_law_460 : decode cL_law 460 = .ok (.invokevirtual 56, 3) := by decide +kernel
theorem dL_law_463 : decode cL_law 463 = .ok (.aload_n 2, 1) := by decide +kernel
theorem dL_law_464 : decode cL_law 464 = .ok (.aload_n 0, 1) := by decide +kernel
theorem dL_law_465 : decode cL_law 465 = .ok (.iload_n 3, 1) := by decide +kernel
theorem dL_law_466 : decode cL_law 466 = .ok (.iconst 1, 1) := by decide +kernel
theorem dL_law_467 : decode cL_law 467 = .ok (.iadd, 1) := by decide +kernel
theorem dL_law_468 : decode cL_law 468 = .ok (.iaload, 1) := by decide +kernel
theorem dL_law_469 : decode cL_law 469 = .ok (.aload_n 0, 1) := by decide +kernel
theorem dL_law_470 : decode cL_law 470 = .ok (.iload_n 3, 1) := by decide +kernel
theorem dL_law_471 : decode cL_law 471 = .ok (.iconst 2, 1) := by decide +kernel
theorem dL_law_472 : decode cL_law 472 = .ok (.iadd, 1) := by decide +kernel
theorem dL_law_473 : decode cL_law 473 = .ok (.iaload, 1) := by decide +kernel
theorem dL_law_474 : decode cL_law 474 = .ok (.invokevirtual 60, 3) := by decide +kernel
theorem dL_law_477 : decode cL_law 477 = .ok (.if_icmp .eq 503, 3) := by decide +kernel
theorem dL_law_480 : decode cL_law 480 = .ok (.iconst 0, 1) := by decide +kernel
theorem dL_law_481 : decode cL_law 481 = .ok (.ireturn, 1) := by decide +kernel
theorem dL_law_482 : decode cL_law 482 = .ok (.aload_n 1, 1) := by decide +kernel
theorem dL_law_483 : decode cL_law 483 = .ok (.aload_n 0, 1) := by decide +kernel
theorem dL_law_484 : decode cL_law 484 = .ok (.iload_n 3, 1) := by decide +kernel
theorem dL_law_485 : decode cL_law 485 = .ok (.iconst 1, 1) := by decide +kernel
theorem dL_law_486 : decode cL_law 486 = .ok (.iadd, 1) := by decide +kernel
theorem dL_law_487 : decode cL_law 487 = .ok (.iaload, 1) := by decide +kernel
theorem dL_law_488 : decode cL_law 488 = .ok (.aload_n 0, 1) := by decide +kernel
theorem dL_law_489 : decode cL_law 489 = .ok (.iload_n 3, 1) := by decide +kernel
theorem dL_law_490 : decode cL_law 490 = .ok (.iconst 2, 1) := by decide +kernel
theorem dL_law_491 : decode cL_law 491 = .ok (.iadd, 1) := by decide +kernel
theorem dL_law_492 : decode cL_law 492 = .ok (.iaload, 1) := by decide +kernel
theorem dL_law_493 : decode cL_law 493 = .ok (.invokevirtual 61, 3) := by decide +kernel
theorem dL_law_496 : decode cL_law 496 = .ok (.aload_n 2, 1) := by decide +kernel
theorem dL_law_497 : decode cL_law 497 = .ok (.aload_n 0, 1) := by decide +kernel
theorem dL_law_498 : decode cL_law 498 = .ok (.iload_n 3, 1) := by decide +kernel
theorem dL_law_499 : decode cL_law 499 = .ok (.iconst 1, 1) := by decide +kernel
theorem dL_law_500 : decode cL_law 500 = .ok (.iadd, 1) := by decide +kernel
theorem dL_law_501 : decode cL_law 501 = .ok (.iaload, 1) := by decide +kernel
theorem dL_law_502 : decode cL_law 502 = .ok (.aload_n 0, 1) := by decide +kernel
theorem dL_law_503 : decode cL_law 503 = .ok (.iload_n 3, 1) := by decide +kernel
theorem dL_law_504 : decode cL_law 504 = .ok (.iconst 2, 1) := by decide +kernel
theorem dL_law_505 : decode cL_law 505 = .ok (.iadd, 1) := by decide +kernel
theorem dL_law_506 : decode cL_law 506 = .ok (.iaload, 1) := by decide +kernel
theorem dL_law_507 : decode cL_law 507 = .ok (.invokevirtual 64, 3) := by decide +kernel
theorem dL_law_510 : decode cL_law 510 = .ok (.if_icmp .eq 470, 3) := by decide +kernel
theorem dL_law_513 : decode cL_law 513 = .ok (.iconst 0, 1) := by decide +kernel
theorem dL_law_514 : decode cL_law 514 = .ok (.ireturn, 1) := by decide +kernel
theorem dL_law_515 : decode cL_law 515 = .ok (.aload_n 1, 1) := by decide +kernel
theorem dL_law_516 : decode cL_law 516 = .ok (.aload_n 0, 1) := by decide +kernel
theorem dL_law_517 : decode cL_law 517 = .ok (.iload_n 3, 1) := by decide +kernel
theorem dL_law_518 : decode cL_law 518 = .ok (.iconst 1, 1) := by decide +kernel
theorem dL_law_519 : decode cL_law 519 = .ok (.iadd, 1) := by decide +kernel
theorem dL_law_520 : decode cL_law 520 = .ok (.iaload, 1) := by decide +kernel
theorem dL_law_521 : decode cL_law 521 = .ok (.aload_n 0, 1) := by decide +kernel
theorem dL_law_522 : decode cL_law 522 = .ok (.iload_n 3, 1) := by decide +kernel
theorem dL_law_523 : decode cL_law 523 = .ok (.iconst 2, 1) := by decide +kernel
theorem dL_law_524 : decode cL_law 524 = .ok (.iadd, 1) := by decide +kernel
theorem dL_law_525 : decode cL_law 525 = .ok (.iaload, 1) := by decide +kernel
theorem dL_law_526 : decode cL_law 526 = .ok (.aload_n 0, 1) := by decide +kernel
theorem dL_law_527 : decode cL_law 527 = .ok (.iload_n 3, 1) := by decide +kernel
theorem dL_law_528 : decode cL_law 528 = .ok (.iconst 3, 1) := by decide +kernel
theorem dL_law_529 : decode cL_law 529 = .ok (.iadd, 1) := by decide +kernel
theorem dL_law_530 : decode cL_law 530 = .ok (.iaload, 1) := by decide +kernel
theorem dL_law_531 : decode cL_law 531 = .ok (.invokevirtual 65, 3) := by decide +kernel
theorem dL_law_534 : decode cL_law 534 = .ok (.aload_n 2, 1) := by decide +kernel
theorem dL_law_535 : decode cL_law 535 = .ok (.aload_n 0, 1) := by decide +kernel
theorem dL_law_536 : decode cL_law 536 = .ok (.iload_n 3, 1) := by decide +kernel
theorem dL_law_537 : decode cL_law 537 = .ok (.iconst 1, 1) := by decide +kernel
theorem dL_law_538 : decode cL_law 538 = .ok (.iadd, 1) := by decide +kernel
theorem dL_law_539 : decode cL_law 539 = .ok (.iaload, 1) := by decide +kernel
theorem dL_law_540 : decode cL_law 540 = .ok (.aload_n 0, 1) := by decide +kernel
theorem dL_law_541 : decode cL_law 541 = .ok (.iload_n 3, 1) := by decide +kernel
theorem dL_law_542 : decode cL_law 542 = .ok (.iconst 2, 1) := by decide +kernel
theorem dL_law_543 : decode cL_law 543 = .ok (.iadd, 1) := by decide +kernel
theorem dL_law_544 : decode cL_law 544 = .ok (.iaload, 1) := by decide +kernel
theorem dL_law_545 : decode cL_law 545 = .ok (.aload_n 0, 1) := by decide +kernel
theorem dL_law_546 : decode cL_law 546 = .ok (.iload_n 3, 1) := by decide +kernel
theorem dL_law_547 : decode cL_law 547 = .ok (.iconst 3, 1) := by decide +kernel
theorem dL_law_548 : decode cL_law 548 = .ok (.iadd, 1) := by decide +kernel
theorem dL_law_549 : decode cL_law 549 = .ok (.iaload, 1) := by decide +kernel
theorem dL_law_550 : decode cL_law 550 = .ok (.invokevirtual 68, 3) := by decide +kernel
theorem dL_law_553 : decode cL_law 553 = .ok (.if_icmp .eq 427, 3) := by decide +kernel
theorem dL_law_556 : decode cL_law 556 = .ok (.iconst 0, 1) := by decide +kernel
theorem dL_law_557 : decode cL_law 557 = .ok (.ireturn, 1) := by decide +kernel
theorem dL_law_558 : decode cL_law 558 = .ok (.aload_n 1, 1) := by decide +kernel
theorem dL_law_559 : decode cL_law 559 = .ok (.aload_n 0, 1) := by decide +kernel
theorem dL_law_560 : decode cL_law 560 = .ok (.iload_n 3, 1) := by decide +kernel
theorem dL_law_561 : decode cL_law 561 = .ok (.iconst 1, 1) := by decide +kernel
theorem dL_law_562 : decode cL_law 562 = .ok (.iadd, 1) := by decide +kernel
theorem dL_law_563 : decode cL_law 563 = .ok (.iaload, 1) := by decide +kernel
theorem dL_law_564 : decode cL_law 564 = .ok (.aload_n 0, 1) := by decide +kernel
theorem dL_law_565 : decode cL_law 565 = .ok (.iload_n 3, 1) := by decide +kernel
theorem dL_law_566 : decode cL_law 566 = .ok (.iconst 2, 1) := by decide +kernel
theorem dL_law_567 : decode cL_law 567 = .ok (.iadd, 1) := by decide +kernel
theorem dL_law_568 : decode cL_law 568 = .ok (.iaload, 1) := by decide +kernel
theorem dL_law_569 : decode cL_law 569 = .ok (.invokevirtual 69, 3) := by decide +kernel
theorem dL_law_572 : decode cL_law 572 = .ok (.aload_n 2, 1) := by decide +kernel
theorem dL_law_573 : decode cL_law 573 = .ok (.aload_n 0, 1) := by decide +kernel
theorem dL_law_574 : decode cL_law 574 = .ok (.iload_n 3, 1) := by decide +kernel
theorem dL_law_575 : decode cL_law 575 = .ok (.iconst 1, 1) := by decide +kernel
theorem dL_law_576 : decode cL_law 576 = .ok (.iadd, 1) := by decide +kernel
theorem dL_law_577 : decode cL_law 577 = .ok (.iaload, 1) := by decide +kernel
theorem dL_law_578 : decode cL_law 578 = .ok (.aload_n 0, 1) := by decide +kernel
theorem dL_law_579 : decode cL_law 579 = .ok (.iload_n 3, 1) := by decide +kernel
theorem dL_law_580 : decode cL_law 580 = .ok (.iconst 2, 1) := by decide +kernel
theorem dL_law_581 : decode cL_law 581 = .ok (.iadd, 1) := by decide +kernel
theorem dL_law_582 : decode cL_law 582 = .ok (.iaload, 1) := by decide +kernel
theorem dL_law_583 : decode cL_law 583 = .ok (.invokevirtual 72, 3) := by decide +kernel
theorem dL_law_586 : decode cL_law 586 = .ok (.if_icmp .eq 394, 3) := by decide +kernel
theorem dL_law_589 : decode cL_law 589 = .ok (.iconst 0, 1) := by decide +kernel
theorem dL_law_590 : decode cL_law 590 = .ok (.ireturn, 1) := by decide +kernel
theorem dL_law_591 : decode cL_law 591 = .ok (.aload_n 1, 1) := by decide +kernel
theorem dL_law_592 : decode cL_law 592 = .ok (.aload_n 0, 1) := by decide +kernel
theorem dL_law_593 : decode cL_law 593 = .ok (.iload_n 3, 1) := by decide +kernel
theorem dL_law_594 : decode cL_law 594 = .ok (.iconst 1, 1) := by decide +kernel
theorem dL_law_595 : decode cL_law 595 = .ok (.iadd, 1) := by decide +kernel
theorem dL_law_596 : decode cL_law 596 = .ok (.iaload, 1) := by decide +kernel
theorem dL_law_597 : decode cL_law 597 = .ok (.aload_n 0, 1) := by decide +kernel
theorem dL_law_598 : decode cL_law 598 = .ok (.iload_n 3, 1) := by decide +kernel
theorem dL_law_599 : decode cL_law 599 = .ok (.iconst 2, 1) := by decide +kernel
theorem dL_law_600 : decode cL_law 600 = .ok (.iadd, 1) := by decide +kernel
theorem dL_law_601 : decode cL_law 601 = .ok (.iaload, 1) := by decide +kernel
theorem dL_law_602 : decode cL_law 602 = .ok (.invokevirtual 73, 3) := by decide +kernel
theorem dL_law_605 : decode cL_law 605 = .ok (.aload_n 2, 1) := by decide +kernel
theorem dL_law_606 : decode cL_law 606 = .ok (.aload_n 0, 1) := by decide +kernel
theorem dL_law_607 : decode cL_law 607 = .ok (.iload_n 3, 1) := by decide +kernel
theorem dL_law_608 : decode cL_law 608 = .ok (.iconst 1, 1) := by decide +kernel
theorem dL_law_609 : decode cL_law 609 = .ok (.iadd, 1) := by decide +kernel
theorem dL_law_610 : decode cL_law 610 = .ok (.iaload, 1) := by decide +kernel
theorem dL_law_611 : decode cL_law 611 = .ok (.aload_n 0, 1) := by decide +kernel
theorem dL_law_612 : decode cL_law 612 = .ok (.iload_n 3, 1) := by decide +kernel
theorem dL_law_613 : decode cL_law 613 = .ok (.iconst 2, 1) := by decide +kernel
theorem dL_law_614 : decode cL_law 614 = .ok (.iadd, 1) := by decide +kernel
theorem dL_law_615 : decode cL_law 615 = .ok (.iaload, 1) := by decide +kernel
theorem dL_law_616 : decode cL_law 616 = .ok (.invokevirtual 76, 3) := by decide +kernel
theorem dL_law_619 : decode cL_law 619 = .ok (.if_icmp .eq 361, 3) := by decide +kernel
theorem dL_law_622 : decode cL_law 622 = .ok (.iconst 0, 1) := by decide +kernel
theorem dL_law_623 : decode cL_law 623 = .ok (.ireturn, 1) := by decide +kernel
theorem dL_law_624 : decode cL_law 624 = .ok (.aload_n 1, 1) := by decide +kernel
theorem dL_law_625 : decode cL_law 625 = .ok (.aload_n 0, 1) := by decide +kernel
theorem dL_law_626 : decode cL_law 626 = .ok (.iload_n 3, 1) := by decide +kernel
theorem dL_law_627 : decode cL_law 627 = .ok (.iconst 1, 1) := by decide +kernel
theorem dL_law_628 : decode cL_law 628 = .ok (.iadd, 1) := by decide +kernel
theorem dL_law_629 : decode cL_law 629 = .ok (.iaload, 1) := by decide +kernel
theorem dL_law_630 : decode cL_law 630 = .ok (.invokevirtual 77, 3) := by decide +kernel
theorem dL_law_633 : decode cL_law 633 = .ok (.aload_n 2, 1) := by decide +kernel
theorem dL_law_634 : decode cL_law 634 = .ok (.aload_n 0, 1) := by decide +kernel
theorem dL_law_635 : decode cL_law 635 = .ok (.iload_n 3, 1) := by decide +kernel
theorem dL_law_636 : decode cL_law 636 = .ok (.iconst 1, 1) := by decide +kernel
theorem dL_law_637 : decode cL_law 637 = .ok (.iadd, 1) := by decide +kernel
theorem dL_law_638 : decode cL_law 638 = .ok (.iaload, 1) := by decide +kernel
theorem dL_law_639 : decode cL_law 639 = .ok (.invokevirtual 80, 3) := by decide +kernel
theorem dL_law_642 : decode cL_law 642 = .ok (.if_icmp .eq 338, 3) := by decide +kernel
theorem dL_law_645 : decode cL_law 645 = .ok (.iconst 0, 1) := by decide +kernel
theorem dL_law_646 : decode cL_law 646 = .ok (.ireturn, 1) := by decide +kernel
theorem dL_law_647 : decode cL_law 647 = .ok (.aload_n 1, 1) := by decide +kernel
theorem dL_law_648 : decode cL_law 648 = .ok (.aload_n 0, 1) := by decide +kernel
theorem dL_law_649 : decode cL_law 649 = .ok (.iload_n 3, 1) := by decide +kernel
theorem dL_law_650 : decode cL_law 650 = .ok (.iconst 1, 1) := by decide +kernel
theorem dL_law_651 : decode cL_law 651 = .ok (.iadd, 1) := by decide +kernel
theorem dL_law_652 : decode cL_law 652 = .ok (.iaload, 1) := by decide +kernel
theorem dL_law_653 : decode cL_law 653 = .ok (.aload_n 0, 1) := by decide +kernel
theorem dL_law_654 : decode cL_law 654 = .ok (.iload_n 3, 1) := by decide +kernel
theorem dL_law_655 : decode cL_law 655 = .ok (.iconst 2, 1) := by decide +kernel
theorem dL_law_656 : decode cL_law 656 = .ok (.iadd, 1) := by decide +kernel
theorem dL_law_657 : decode cL_law 657 = .ok (.iaload, 1) := by decide +kernel
theorem dL_law_658 : decode cL_law 658 = .ok (.aload_n 0, 1) := by decide +kernel
theorem dL_law_659 : decode cL_law 659 = .ok (.iload_n 3, 1) := by decide +kernel
theorem dL_law_660 : decode cL_law 660 = .ok (.iconst 3, 1) := by decide +kernel
theorem dL_law_661 : decode cL_law 661 = .ok (.iadd, 1) := by decide +kernel
theorem dL_law_662 : decode cL_law 662 = .ok (.iaload, 1) := by decide +kernel
theorem dL_law_663 : decode cL_law 663 = .ok (.aload_n 0, 1) := by decide +kernel
theorem dL_law_664 : decode cL_law 664 = .ok (.iload_n 3, 1) := by decide +kernel
theorem dL_law_665 : decode cL_law 665 = .ok (.iconst 4, 1) := by decide +kernel
theorem dL_law_666 : decode cL_law 666 = .ok (.iadd, 1) := by decide +kernel
theorem dL_law_667 : decode cL_law 667 = .ok (.iaload, 1) := by decide +kernel
theorem dL_law_668 : decode cL_law 668 = .ok (.invokevirtual 81, 3) := by decide +kernel
theorem dL_law_671 : decode cL_law 671 = .ok (.aload_n 2, 1) := by decide +kernel
theorem dL_law_672 : decode cL_law 672 = .ok (.aload_n 0, 1) := by decide +kernel
theorem dL_law_673 : decode cL_law 673 = .ok (.iload_n 3, 1) := by decide +kernel
theorem dL_law_674 : decode cL_law 674 = .ok (.iconst 1, 1) := by decide +kernel
theorem dL_law_675 : decode cL_law 675 = .ok (.iadd, 1) := by decide +kernel
theorem dL_law_676 : decode cL_law 676 = .ok (.iaload, 1) := by decide +kernel
theorem dL_law_677 : decode cL_law 677 = .ok (.aload_n 0, 1) := by decide +kernel
theorem dL_law_678 : decode cL_law 678 = .ok (.iload_n 3, 1) := by decide +kernel
theorem dL_law_679 : decode cL_law 679 = .ok (.iconst 2, 1) := by decide +kernel
theorem dL_law_680 : decode cL_law 680 = .ok (.iadd, 1) := by decide +kernel
theorem dL_law_681 : decode cL_law 681 = .ok (.iaload, 1) := by decide +kernel
theorem dL_law_682 : decode cL_law 682 = .ok (.aload_n 0, 1) := by decide +kernel
theorem dL_law_683 : decode cL_law 683 = .ok (.iload_n 3, 1) := by decide +kernel
theorem dL_law_684 : decode cL_law 684 = .ok (.iconst 3, 1) := by decide +kernel
theorem dL_law_685 : decode cL_law 685 = .ok (.iadd, 1) := by decide +kernel
theorem dL_law_686 : decode cL_law 686 = .ok (.iaload, 1) := by decide +kernel
theorem dL_law_687 : decode cL_law 687 = .ok (.aload_n 0, 1) := by decide +kernel
theorem dL_law_688 : decode cL_law 688 = .ok (.iload_n 3, 1) := by decide +kernel
theorem dL_law_689 : decode cL_law 689 = .ok (.iconst 4, 1) := by decide +kernel
theorem dL_law_690 : decode cL_law 690 = .ok (.iadd, 1) := by decide +kernel
theorem dL_law_691 : decode cL_law 691 = .ok (.iaload, 1) := by decide +kernel
theorem dL_law_692 : decode cL_law 692 = .ok (.invokevirtual 85, 3) := by decide +kernel
theorem dL_law_695 : decode cL_law 695 = .ok (.if_icmp .eq 285, 3) := by decide +kernel
theorem dL_law_698 : decode cL_law 698 = .ok (.iconst 0, 1) := by decide +kernel
theorem dL_law_699 : decode cL_law 699 = .ok (.ireturn, 1) := by decide +kernel
theorem dL_law_700 : decode cL_law 700 = .ok (.aload_n 1, 1) := by decide +kernel
theorem dL_law_701 : decode cL_law 701 = .ok (.aload_n 0, 1) := by decide +kernel
theorem dL_law_702 : decode cL_law 702 = .ok (.iload_n 3, 1) := by decide +kernel
theorem dL_law_703 : decode cL_law 703 = .ok (.iconst 1, 1) := by decide +kernel
theorem dL_law_704 : decode cL_law 704 = .ok (.iadd, 1) := by decide +kernel
theorem dL_law_705 : decode cL_law 705 = .ok (.iaload, 1) := by decide +kernel
theorem dL_law_706 : decode cL_law 706 = .ok (.aload_n 0, 1) := by decide +kernel
theorem dL_law_707 : decode cL_law 707 = .ok (.iload_n 3, 1) := by decide +kernel
theorem dL_law_708 : decode cL_law 708 = .ok (.iconst 2, 1) := by decide +kernel
theorem dL_law_709 : decode cL_law 709 = .ok (.iadd, 1) := by decide +kernel
theorem dL_law_710 : decode cL_law 710 = .ok (.iaload, 1) := by decide +kernel
theorem dL_law_711 : decode cL_law 711 = .ok (.aload_n 0, 1) := by decide +kernel
theorem dL_law_712 : decode cL_law 712 = .ok (.iload_n 3, 1) := by decide +kernel
theorem dL_law_713 : decode cL_law 713 = .ok (.iconst 3, 1) := by decide +kernel
theorem dL_law_714 : decode cL_law 714 = .ok (.iadd, 1) := by decide +kernel
theorem dL_law_715 : decode cL_law 715 = .ok (.iaload, 1) := by decide +kernel
theorem dL_law_716 : decode cL_law 716 = .ok (.invokevirtual 86, 3) := by decide +kernel
theorem dL_law_719 : decode cL_law 719 = .ok (.aload_n 2, 1) := by decide +kernel
theorem dL_law_720 : decode cL_law 720 = .ok (.aload_n 0, 1) := by decide +kernel
theorem dL_law_721 : decode cL_law 721 = .ok (.iload_n 3, 1) := by decide +kernel
theorem dL_law_722 : decode cL_law 722 = .ok (.iconst 1, 1) := by decide +kernel
theorem dL_law_723 : decode cL_law 723 = .ok (.iadd, 1) := by decide +kernel
theorem dL_law_724 : decode cL_law 724 = .ok (.iaload, 1) := by decide +kernel
theorem dL_law_725 : decode cL_law 725 = .ok (.aload_n 0, 1) := by decide +kernel
theorem dL_law_726 : decode cL_law 726 = .ok (.iload_n 3, 1) := by decide +kernel
theorem dL_law_727 : decode cL_law 727 = .ok (.iconst 2, 1) := by decide +kernel
theorem dL_law_728 : decode cL_law 728 = .ok (.iadd, 1) := by decide +kernel
theorem dL_law_729 : decode cL_law 729 = .ok (.iaload, 1) := by decide +kernel
theorem dL_law_730 : decode cL_law 730 = .ok (.aload_n 0, 1) := by decide +kernel
theorem dL_law_731 : decode cL_law 731 = .ok (.iload_n 3, 1) := by decide +kernel
theorem dL_law_732 : decode cL_law 732 = .ok (.iconst 3, 1) := by decide +kernel
theorem dL_law_733 : decode cL_law 733 = .ok (.iadd, 1) := by decide +kernel
theorem dL_law_734 : decode cL_law 734 = .ok (.iaload, 1) := by decide +kernel
theorem dL_law_735 : decode cL_law 735 = .ok (.invokevirtual 89, 3) := by decide +kernel
theorem dL_law_738 : decode cL_law 738 = .ok (.if_icmp .eq 242, 3) := by decide +kernel
theorem dL_law_741 : decode cL_law 741 = .ok (.iconst 0, 1) := by decide +kernel
theorem dL_law_742 : decode cL_law 742 = .ok (.ireturn, 1) := by decide +kernel
theorem dL_law_743 : decode cL_law 743 = .ok (.aload_n 1, 1) := by decide +kernel
theorem dL_law_744 : decode cL_law 744 = .ok (.aload_n 0, 1) := by decide +kernel
theorem dL_law_745 : decode cL_law 745 = .ok (.iload_n 3, 1) := by decide +kernel
theorem dL_law_746 : decode cL_law 746 = .ok (.iconst 1, 1) := by decide +kernel
theorem dL_law_747 : decode cL_law 747 = .ok (.iadd, 1) := by decide +kernel
theorem dL_law_748 : decode cL_law 748 = .ok (.iaload, 1) := by decide +kernel
theorem dL_law_749 : decode cL_law 749 = .ok (.aload_n 0, 1) := by decide +kernel
theorem dL_law_750 : decode cL_law 750 = .ok (.iload_n 3, 1) := by decide +kernel
theorem dL_law_751 : decode cL_law 751 = .ok (.iconst 2, 1) := by decide +kernel
theorem dL_law_752 : decode cL_law 752 = .ok (.iadd, 1) := by decide +kernel
theorem dL_law_753 : decode cL_law 753 = .ok (.iaload, 1) := by decide +kernel
theorem dL_law_754 : decode cL_law 754 = .ok (.aload_n 0, 1) := by decide +kernel
theorem dL_law_755 : decode cL_law 755 = .ok (.iload_n 3, 1) := by decide +kernel
theorem dL_law_756 : decode cL_law 756 = .ok (.iconst 3, 1) := by decide +kernel
theorem dL_law_757 : decode cL_law 757 = .ok (.iadd, 1) := by decide +kernel
theorem dL_law_758 : decode cL_law 758 = .ok (.iaload, 1) := by decide +kernel
theorem dL_law_759 : decode cL_law 759 = .ok (.invokevirtual 90, 3) := by decide +kernel
theorem dL_law_762 : decode cL_law 762 = .ok (.aload_n 2, 1) := by decide +kernel
theorem dL_law_763 : decode cL_law 763 = .ok (.aload_n 0, 1) := by decide +kernel
theorem dL_law_764 : decode cL_law 764 = .ok (.iload_n 3, 1) := by decide +kernel
theorem dL_law_765 : decode cL_law 765 = .ok (.iconst 1, 1) := by decide +kernel
theorem dL_law_766 : decode cL_law 766 = .ok (.iadd, 1) := by decide +kernel
theorem dL_law_767 : decode cL_law 767 = .ok (.iaload, 1) := by decide +kernel
theorem dL_law_768 : decode cL_law 768 = .ok (.aload_n 0, 1) := by decide +kernel
theorem dL_law_769 : decode cL_law 769 = .ok (.iload_n 3, 1) := by decide +kernel
theorem dL_law_770 : decode cL_law 770 = .ok (.iconst 2, 1) := by decide +kernel
theorem dL_law_771 : decode cL_law 771 = .ok (.iadd, 1) := by decide +kernel
theorem dL_law_772 : decode cL_law 772 = .ok (.iaload, 1) := by decide +kernel
theorem dL_law_773 : decode cL_law 773 = .ok (.aload_n 0, 1) := by decide +kernel
theorem dL_law_774 : decode cL_law 774 = .ok (.iload_n 3, 1) := by decide +kernel
theorem dL_law_775 : decode cL_law 775 = .ok (.iconst 3, 1) := by decide +kernel
theorem dL_law_776 : decode cL_law 776 = .ok (.iadd, 1) := by decide +kernel
theorem dL_law_777 : decode cL_law 777 = .ok (.iaload, 1) := by decide +kernel
theorem dL_law_778 : decode cL_law 778 = .ok (.invokevirtual 93, 3) := by decide +kernel
theorem dL_law_781 : decode cL_law 781 = .ok (.if_icmp .eq 199, 3) := by decide +kernel
theorem dL_law_784 : decode cL_law 784 = .ok (.iconst 0, 1) := by decide +kernel
theorem dL_law_785 : decode cL_law 785 = .ok (.ireturn, 1) := by decide +kernel
theorem dL_law_786 : decode cL_law 786 = .ok (.aload_n 1, 1) := by decide +kernel
theorem dL_law_787 : decode cL_law 787 = .ok (.aload_n 0, 1) := by decide +kernel
theorem dL_law_788 : decode cL_law 788 = .ok (.iload_n 3, 1) := by decide +kernel
theorem dL_law_789 : decode cL_law 789 = .ok (.iconst 1, 1) := by decide +kernel
theorem dL_law_790 : decode cL_law 790 = .ok (.iadd, 1) := by decide +kernel
theorem dL_law_791 : decode cL_law 791 = .ok (.iaload, 1) := by decide +kernel
theorem dL_law_792 : decode cL_law 792 = .ok (.invokevirtual 94, 3) := by decide +kernel
theorem dL_law_795 : decode cL_law 795 = .ok (.aload_n 2, 1) := by decide +kernel
theorem dL_law_796 : decode cL_law 796 = .ok (.aload_n 0, 1) := by decide +kernel
theorem dL_law_797 : decode cL_law 797 = .ok (.iload_n 3, 1) := by decide +kernel
theorem dL_law_798 : decode cL_law 798 = .ok (.iconst 1, 1) := by decide +kernel
theorem dL_law_799 : decode cL_law 799 = .ok (.iadd, 1) := by decide +kernel
theorem dL_law_800 : decode cL_law 800 = .ok (.iaload, 1) := by decide +kernel
theorem dL_law_801 : decode cL_law 801 = .ok (.invokevirtual 97, 3) := by decide +kernel
theorem dL_law_804 : decode cL_law 804 = .ok (.if_icmp .eq 176, 3) := by decide +kernel
theorem dL_law_807 : decode cL_law 807 = .ok (.iconst 0, 1) := by decide +kernel
theorem dL_law_808 : decode cL_law 808 = .ok (.ireturn, 1) := by decide +kernel
theorem dL_law_809 : decode cL_law 809 = .ok (.aload_n 1, 1) := by decide +kernel
theorem dL_law_810 : decode cL_law 810 = .ok (.aload_n 0, 1) := by decide +kernel
theorem dL_law_811 : decode cL_law 811 = .ok (.iload_n 3, 1) := by decide +kernel
theorem dL_law_812 : decode cL_law 812 = .ok (.iconst 1, 1) := by decide +kernel
theorem dL_law_813 : decode cL_law 813 = .ok (.iadd, 1) := by decide +kernel
theorem dL_law_814 : decode cL_law 814 = .ok (.iaload, 1) := by decide +kernel
theorem dL_law_815 : decode cL_law 815 = .ok (.invokevirtual 98, 3) := by decide +kernel
theorem dL_law_818 : decode cL_law 818 = .ok (.aload_n 2, 1) := by decide +kernel
theorem dL_law_819 : decode cL_law 819 = .ok (.aload_n 0, 1) := by decide +kernel
theorem dL_law_820 : decode cL_law 820 = .ok (.iload_n 3, 1) := by decide +kernel
theorem dL_law_821 : decode cL_law 821 = .ok (.iconst 1, 1) := by decide +kernel
theorem dL_law_822 : decode cL_law 822 = .ok (.iadd, 1) := by decide +kernel
theorem dL_law_823 : decode cL_law 823 = .ok (.iaload, 1) := by decide +kernel
theorem dL_law_824 : decode cL_law 824 = .ok (.invokevirtual 101, 3) := by decide +kernel
theorem dL_law_827 : decode cL_law 827 = .ok (.if_icmp .eq 153, 3) := by decide +kernel
theorem dL_law_830 : decode cL_law 830 = .ok (.iconst 0, 1) := by decide +kernel
theorem dL_law_831 : decode cL_law 831 = .ok (.ireturn, 1) := by decide +kernel
theorem dL_law_832 : decode cL_law 832 = .ok (.aload_n 1, 1) := by decide +kernel
theorem dL_law_833 : decode cL_law 833 = .ok (.aload_n 0, 1) := by decide +kernel
theorem dL_law_834 : decode cL_law 834 = .ok (.iload_n 3, 1) := by decide +kernel
theorem dL_law_835 : decode cL_law 835 = .ok (.iconst 1, 1) := by decide +kernel
theorem dL_law_836 : decode cL_law 836 = .ok (.iadd, 1) := by decide +kernel
theorem dL_law_837 : decode cL_law 837 = .ok (.iaload, 1) := by decide +kernel
theorem dL_law_838 : decode cL_law 838 = .ok (.invokevirtual 102, 3) := by decide +kernel
theorem dL_law_841 : decode cL_law 841 = .ok (.aload_n 2, 1) := by decide +kernel
theorem dL_law_842 : decode cL_law 842 = .ok (.aload_n 0, 1) := by decide +kernel
theorem dL_law_843 : decode cL_law 843 = .ok (.iload_n 3, 1) := by decide +kernel
theorem dL_law_844 : decode cL_law 844 = .ok (.iconst 1, 1) := by decide +kernel
theorem dL_law_845 : decode cL_law 845 = .ok (.iadd, 1) := by decide +kernel
theorem dL_law_846 : decode cL_law 846 = .ok (.iaload, 1) := by decide +kernel
theorem dL_law_847 : decode cL_law 847 = .ok (.invokevirtual 105, 3) := by decide +kernel
theorem dL_law_850 : decode cL_law 850 = .ok (.if_icmp .eq 130, 3) := by decide +kernel
theorem dL_law_853 : decode cL_law 853 = .ok (.iconst 0, 1) := by decide +kernel
theorem dL_law_854 : decode cL_law 854 = .ok (.ireturn, 1) := by decide +kernel
theorem dL_law_855 : decode cL_law 855 = .ok (.aload_n 1, 1) := by decide +kernel
theorem dL_law_856 : decode cL_law 856 = .ok (.aload_n 0, 1) := by decide +kernel
theorem dL_law_857 : decode cL_law 857 = .ok (.iload_n 3, 1) := by decide +kernel
theorem dL_law_858 : decode cL_law 858 = .ok (.iconst 1, 1) := by decide +kernel
theorem dL_law_859 : decode cL_law 859 = .ok (.iadd, 1) := by decide +kernel
theorem dL_law_860 : decode cL_law 860 = .ok (.iaload, 1) := by decide +kernel
theorem dL_law_861 : decode cL_law 861 = .ok (.aload_n 0, 1) := by decide +kernel
theorem dL_law_862 : decode cL_law 862 = .ok (.iload_n 3, 1) := by decide +kernel
theorem dL_law_863 : decode cL_law 863 = .ok (.iconst 2, 1) := by decide +kernel
theorem dL_law_864 : decode cL_law 864 = .ok (.iadd, 1) := by decide +kernel
theorem dL_law_865 : decode cL_law 865 = .ok (.iaload, 1) := by decide +kernel
theorem dL_law_866 : decode cL_law 866 = .ok (.invokevirtual 106, 3) := by decide +kernel
theorem dL_law_869 : decode cL_law 869 = .ok (.aload_n 2, 1) := by decide +kernel
theorem dL_law_870 : decode cL_law 870 = .ok (.aload_n 0, 1) := by decide +kernel
theorem dL_law_871 : decode cL_law 871 = .ok (.iload_n 3, 1) := by decide +kernel
theorem dL_law_872 : decode cL_law 872 = .ok (.iconst 1, 1) := by decide +kernel
theorem dL_law_873 : decode cL_law 873 = .ok (.iadd, 1) := by decide +kernel
theorem dL_law_874 : decode cL_law 874 = .ok (.iaload, 1) := by decide +kernel
theorem dL_law_875 : decode cL_law 875 = .ok (.aload_n 0, 1) := by decide +kernel
theorem dL_law_876 : decode cL_law 876 = .ok (.iload_n 3, 1) := by decide +kernel
theorem dL_law_877 : decode cL_law 877 = .ok (.iconst 2, 1) := by decide +kernel
theorem dL_law_878 : decode cL_law 878 = .ok (.iadd, 1) := by decide +kernel
theorem dL_law_879 : decode cL_law 879 = .ok (.iaload, 1) := by decide +kernel
theorem dL_law_880 : decode cL_law 880 = .ok (.invokevirtual 109, 3) := by decide +kernel
theorem dL_law_883 : decode cL_law 883 = .ok (.if_icmp .eq 97, 3) := by decide +kernel
theorem dL_law_886 : decode cL_law 886 = .ok (.iconst 0, 1) := by decide +kernel
theorem dL_law_887 : decode cL_law 887 = .ok (.ireturn, 1) := by decide +kernel
theorem dL_law_888 : decode cL_law 888 = .ok (.aload_n 1, 1) := by decide +kernel
theorem dL_law_889 : decode cL_law 889 = .ok (.aload_n 0, 1) := by decide +kernel
theorem dL_law_890 : decode cL_law 890 = .ok (.iload_n 3, 1) := by decide +kernel
theorem dL_law_891 : decode cL_law 891 = .ok (.iconst 1, 1) := by decide +kernel
theorem dL_law_892 : decode cL_law 892 = .ok (.iadd, 1) := by decide +kernel
theorem dL_law_893 : decode cL_law 893 = .ok (.iaload, 1) := by decide +kernel
theorem dL_law_894 : decode cL_law 894 = .ok (.aload_n 0, 1) := by decide +kernel
theorem dL_law_895 : decode cL_law 895 = .ok (.iload_n 3, 1) := by decide +kernel
theorem dL_law_896 : decode cL_law 896 = .ok (.iconst 2, 1) := by decide +kernel
theorem dL_law_897 : decode cL_law 897 = .ok (.iadd, 1) := by decide +kernel
theorem dL_law_898 : decode cL_law 898 = .ok (.iaload, 1) := by decide +kernel
theorem dL_law_899 : decode cL_law 899 = .ok (.invokevirtual 110, 3) := by decide +kernel
theorem dL_law_902 : decode cL_law 902 = .ok (.aload_n 2, 1) := by decide +kernel
theorem dL_law_903 : decode cL_law 903 = .ok (.aload_n 0, 1) := by decide +kernel
theorem dL_law_904 : decode cL_law 904 = .ok (.iload_n 3, 1) := by decide +kernel
theorem dL_law_905 : decode cL_law 905 = .ok (.iconst 1, 1) := by decide +kernel
theorem dL_law_906 : decode cL_law 906 = .ok (.iadd, 1) := by decide +kernel
theorem dL_law_907 : decode cL_law 907 = .ok (.iaload, 1) := by decide +kernel
theorem dL_law_908 : decode cL_law 908 = .ok (.aload_n 0, 1) := by decide +kernel
theorem dL_law_909 : decode cL_law 909 = .ok (.iload_n 3, 1) := by decide +kernel
theorem dL_law_910 : decode cL_law 910 = .ok (.iconst 2, 1) := by decide +kernel
theorem dL_law_911 : decode cL_law 911 = .ok (.iadd, 1) := by decide +kernel
theorem dL_law_912 : decode cL_law 912 = .ok (.iaload, 1) := by decide +kernel
theorem dL_law_913 : decode cL_law 913 = .ok (.invokevirtual 113, 3) := by decide +kernel
theorem dL_law_916 : decode cL_law 916 = .ok (.if_icmp .eq 64, 3) := by decide +kernel
theorem dL_law_919 : decode cL_law 919 = .ok (.iconst 0, 1) := by decide +kernel
theorem dL_law_920 : decode cL_law 920 = .ok (.ireturn, 1) := by decide +kernel
theorem dL_law_921 : decode cL_law 921 = .ok (.aload_n 1, 1) := by decide +kernel
theorem dL_law_922 : decode cL_law 922 = .ok (.aload_n 0, 1) := by decide +kernel
theorem dL_law_923 : decode cL_law 923 = .ok (.iload_n 3, 1) := by decide +kernel
theorem dL_law_924 : decode cL_law 924 = .ok (.iconst 1, 1) := by decide +kernel
theorem dL_law_925 : decode cL_law 925 = .ok (.iadd, 1) := by decide +kernel
theorem dL_law_926 : decode cL_law 926 = .ok (.iaload, 1) := by decide +kernel
theorem dL_law_927 : decode cL_law 927 = .ok (.invokevirtual 114, 3) := by decide +kernel
theorem dL_law_930 : decode cL_law 930 = .ok (.aload_n 2, 1) := by decide +kernel
theorem dL_law_931 : decode cL_law 931 = .ok (.aload_n 0, 1) := by decide +kernel
theorem dL_law_932 : decode cL_law 932 = .ok (.iload_n 3, 1) := by decide +kernel
theorem dL_law_933 : decode cL_law 933 = .ok (.iconst 1, 1) := by decide +kernel
theorem dL_law_934 : decode cL_law 934 = .ok (.iadd, 1) := by decide +kernel
theorem dL_law_935 : decode cL_law 935 = .ok (.iaload, 1) := by decide +kernel
theorem dL_law_936 : decode cL_law 936 = .ok (.invokevirtual 117, 3) := by decide +kernel
theorem dL_law_939 : decode cL_law 939 = .ok (.if_icmp .eq 41, 3) := by decide +kernel
theorem dL_law_942 : decode cL_law 942 = .ok (.iconst 0, 1) := by decide +kernel
theorem dL_law_943 : decode cL_law 943 = .ok (.ireturn, 1) := by decide +kernel
theorem dL_law_944 : decode cL_law 944 = .ok (.aload_n 1, 1) := by decide +kernel
theorem dL_law_945 : decode cL_law 945 = .ok (.aload_n 0, 1) := by decide +kernel
theorem dL_law_946 : decode cL_law 946 = .ok (.iload_n 3, 1) := by decide +kernel
theorem dL_law_947 : decode cL_law 947 = .ok (.iconst 1, 1) := by decide +kernel
theorem dL_law_948 : decode cL_law 948 = .ok (.iadd, 1) := by decide +kernel
theorem dL_law_949 : decode cL_law 949 = .ok (.iaload, 1) := by decide +kernel
theorem dL_law_950 : decode cL_law 950 = .ok (.invokevirtual 118, 3) := by decide +kernel
theorem dL_law_953 : decode cL_law 953 = .ok (.aload_n 2, 1) := by decide +kernel
theorem dL_law_954 : decode cL_law 954 = .ok (.aload_n 0, 1) := by decide +kernel
theorem dL_law_955 : decode cL_law 955 = .ok (.iload_n 3, 1) := by decide +kernel
theorem dL_law_956 : decode cL_law 956 = .ok (.iconst 1, 1) := by decide +kernel
theorem dL_law_957 : decode cL_law 957 = .ok (.iadd, 1) := by decide +kernel
theorem dL_law_958 : decode cL_law 958 = .ok (.iaload, 1) := by decide +kernel
theorem dL_law_959 : decode cL_law 959 = .ok (.invokevirtual 121, 3) := by decide +kernel
theorem dL_law_962 : decode cL_law 962 = .ok (.if_icmp .eq 18, 3) := by decide +kernel
theorem dL_law_965 : decode cL_law 965 = .ok (.iconst 0, 1) := by decide +kernel
theorem dL_law_966 : decode cL_law 966 = .ok (.ireturn, 1) := by decide +kernel
theorem dL_law_967 : decode cL_law 967 = .ok (.aload_n 1, 1) := by decide +kernel
theorem dL_law_968 : decode cL_law 968 = .ok (.invokevirtual 122, 3) := by decide +kernel
theorem dL_law_971 : decode cL_law 971 = .ok (.aload_n 2, 1) := by decide +kernel
theorem dL_law_972 : decode cL_law 972 = .ok (.invokevirtual 125, 3) := by decide +kernel
theorem dL_law_975 : decode cL_law 975 = .ok (.if_icmp .eq 5, 3) := by decide +kernel
theorem dL_law_978 : decode cL_law 978 = .ok (.iconst 0, 1) := by decide +kernel
theorem dL_law_979 : decode cL_law 979 = .ok (.ireturn, 1) := by decide +kernel
theorem dL_law_980 : decode cL_law 980 = .ok (.iinc 3 6, 3) := by decide +kernel
theorem dL_law_983 : decode cL_law 983 = .ok (.goto (-965), 3) := by decide +kernel
theorem dL_law_986 : decode cL_law 986 = .ok (.iconst 1, 1) := by decide +kernel
theorem dL_law_987 : decode cL_law 987 = .ok (.ireturn, 1) := by decide +kernel
