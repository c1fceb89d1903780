theorem dX0_init_0 : decode cX0_init 0 = .ok (.aload_n 0, 1) := by decide +kernel
theorem dX0_init_1 : decode cX0_init 1 = .ok (.invokespecial 3, 3) := by decide +kernel
theorem dX0_init_4 : decode cX0_init 4 = .ok (.aload_n 0, 1) := by decide +kernel
theorem dX0_init_5 : decode cX0_init 5 = .ok (.bipush 8, 2) := by decide +kernel
theorem dX0_init_7 : decode cX0_init 7 = .ok (.newarray .int, 2) := by decide +kernel
theorem dX0_init_9 : decode cX0_init 9 = .ok (.putfield 9, 3) := by decide +kernel
theorem dX0_init_12 : decode cX0_init 12 = .ok (.aload_n 0, 1) := by decide +kernel
theorem dX0_init_13 : decode cX0_init 13 = .ok (.bipush 8, 2) := by decide +kernel
theorem dX0_init_15 : decode cX0_init 15 = .ok (.newarray .boolean, 2) := by decide +kernel
theorem dX0_init_17 : decode cX0_init 17 = .ok (.putfield 15, 3) := by decide +kernel
theorem dX0_init_20 : decode cX0_init 20 = .ok (.aload_n 0, 1) := by decide +kernel
theorem dX0_init_21 : decode cX0_init 21 = .ok (.bipush 8, 2) := by decide +kernel
theorem dX0_init_23 : decode cX0_init 23 = .ok (.newarray .int, 2) := by decide +kernel
theorem dX0_init_25 : decode cX0_init 25 = .ok (.putfield 19, 3) := by decide +kernel
theorem dX0_init_28 : decode cX0_init 28 = .ok (.return_, 1) := by decide +kernel
theorem dX0_has_0 : decode cX0_has 0 = .ok (.iload_n 1, 1) := by decide +kernel
theorem dX0_has_1 : decode cX0_has 1 = .ok (.ifCond .lt 15, 3) := by decide +kernel
theorem dX0_has_4 : decode cX0_has 4 = .ok (.iload_n 1, 1) := by decide +kernel
theorem dX0_has_5 : decode cX0_has 5 = .ok (.aload_n 0, 1) := by decide +kernel
theorem dX0_has_6 : decode cX0_has 6 = .ok (.getfield 22, 3) := by decide +kernel
theorem dX0_has_9 : decode cX0_has 9 = .ok (.if_icmp .ge 7, 3) := by decide +kernel
theorem dX0_has_12 : decode cX0_has 12 = .ok (.iconst 1, 1) := by decide +kernel
theorem dX0_has_13 : decode cX0_has 13 = .ok (.goto 4, 3) := by decide +kernel
theorem dX0_has_16 : decode cX0_has 16 = .ok (.iconst 0, 1) := by decide +kernel
theorem dX0_has_17 : decode cX0_has 17 = .ok (.ireturn, 1) := by decide +kernel
theorem dX0_join_0 : decode cX0_join 0 = .ok (.aload_n 0, 1) := by decide +kernel
theorem dX0_join_1 : decode cX0_join 1 = .ok (.getfield 22, 3) := by decide +kernel
theorem dX0_join_4 : decode cX0_join 4 = .ok (.istore_n 2, 1) := by decide +kernel
theorem dX0_join_5 : decode cX0_join 5 = .ok (.aload_n 0, 1) := by decide +kernel
theorem dX0_join_6 : decode cX0_join 6 = .ok (.getfield 9, 3) := by decide +kernel
theorem dX0_join_9 : decode cX0_join 9 = .ok (.iload_n 2, 1) := by decide +kernel
theorem dX0_join_10 : decode cX0_join 10 = .ok (.iload_n 1, 1) := by decide +kernel
theorem dX0_join_11 : decode cX0_join 11 = .ok (.iastore, 1) := by decide +kernel
theorem dX0_join_12 : decode cX0_join 12 = .ok (.aload_n 0, 1) := by decide +kernel
theorem dX0_join_13 : decode cX0_join 13 = .ok (.getfield 19, 3) := by decide +kernel
theorem dX0_join_16 : decode cX0_join 16 = .ok (.iload_n 2, 1) := by decide +kernel
theorem dX0_join_17 : decode cX0_join 17 = .ok (.iconst (-1), 1) := by decide +kernel
theorem dX0_join_18 : decode cX0_join 18 = .ok (.iastore, 1) := by decide +kernel
theorem dX0_join_19 : decode cX0_join 19 = .ok (.aload_n 0, 1) := by decide +kernel
theorem dX0_join_20 : decode cX0_join 20 = .ok (.dup, 1) := by decide +kernel
theorem dX0_join_21 : decode cX0_join 21 = .ok (.getfield 22, 3) := by decide +kernel
theorem dX0_join_24 : decode cX0_join 24 = .ok (.iconst 1, 1) := by decide +kernel
theorem dX0_join_25 : decode cX0_join 25 = .ok (.iadd, 1) := by decide +kernel
theorem dX0_join_26 : decode cX0_join 26 = .ok (.putfield 22, 3) := by decide +kernel
theorem dX0_join_29 : decode cX0_join 29 = .ok (.iload_n 2, 1) := by decide +kernel
theorem dX0_join_30 : decode cX0_join 30 = .ok (.ireturn, 1) := by decide +kernel
theorem dX0_isAble_0 : decode cX0_isAble 0 = .ok (.aload_n 0, 1) := by decide +kernel
theorem dX0_isAble_1 : decode cX0_isAble 1 = .ok (.getfield 9, 3) := by decide +kernel
theorem dX0_isAble_4 : decode cX0_isAble 4 = .ok (.iload_n 1, 1) := by decide +kernel
theorem dX0_isAble_5 : decode cX0_isAble 5 = .ok (.iaload, 1) := by decide +kernel
theorem dX0_isAble_6 : decode cX0_isAble 6 = .ok (.iload_n 2, 1) := by decide +kernel
theorem dX0_isAble_7 : decode cX0_isAble 7 = .ok (.ishr, 1) := by decide +kernel
theorem dX0_isAble_8 : decode cX0_isAble 8 = .ok (.iconst 1, 1) := by decide +kernel
theorem dX0_isAble_9 : decode cX0_isAble 9 = .ok (.iand, 1) := by decide +kernel
theorem dX0_isAble_10 : decode cX0_isAble 10 = .ok (.iconst 1, 1) := by decide +kernel
theorem dX0_isAble_11 : decode cX0_isAble 11 = .ok (.if_icmp .ne 7, 3) := by decide +kernel
theorem dX0_isAble_14 : decode cX0_isAble 14 = .ok (.iconst 1, 1) := by decide +kernel
theorem dX0_isAble_15 : decode cX0_isAble 15 = .ok (.goto 4, 3) := by decide +kernel
theorem dX0_isAble_18 : decode cX0_isAble 18 = .ok (.iconst 0, 1) := by decide +kernel
theorem dX0_isAble_19 : decode cX0_isAble 19 = .ok (.ireturn, 1) := by decide +kernel
theorem dX0_isBusy_0 : decode cX0_isBusy 0 = .ok (.aload_n 0, 1) := by decide +kernel
theorem dX0_isBusy_1 : decode cX0_isBusy 1 = .ok (.getfield 19, 3) := by decide +kernel
theorem dX0_isBusy_4 : decode cX0_isBusy 4 = .ok (.iload_n 1, 1) := by decide +kernel
theorem dX0_isBusy_5 : decode cX0_isBusy 5 = .ok (.iaload, 1) := by decide +kernel
theorem dX0_isBusy_6 : decode cX0_isBusy 6 = .ok (.iconst (-1), 1) := by decide +kernel
theorem dX0_isBusy_7 : decode cX0_isBusy 7 = .ok (.if_icmp .eq 7, 3) := by decide +kernel
theorem dX0_isBusy_10 : decode cX0_isBusy 10 = .ok (.iconst 1, 1) := by decide +kernel
theorem dX0_isBusy_11 : decode cX0_isBusy 11 = .ok (.goto 4, 3) := by decide +kernel
theorem dX0_isBusy_14 : decode cX0_isBusy 14 = .ok (.iconst 0, 1) := by decide +kernel
theorem dX0_isBusy_15 : decode cX0_isBusy 15 = .ok (.ireturn, 1) := by decide +kernel
theorem dX0_release_0 : decode cX0_release 0 = .ok (.iconst 0, 1) := by decide +kernel
theorem dX0_release_1 : decode cX0_release 1 = .ok (.istore_n 2, 1) := by decide +kernel
theorem dX0_release_2 : decode cX0_release 2 = .ok (.iload_n 2, 1) := by decide +kernel
theorem dX0_release_3 : decode cX0_release 3 = .ok (.aload_n 0, 1) := by decide +kernel
theorem dX0_release_4 : decode cX0_release 4 = .ok (.getfield 22, 3) := by decide +kernel
theorem dX0_release_7 : decode cX0_release 7 = .ok (.if_icmp .ge 26, 3) := by decide +kernel
theorem dX0_release_10 : decode cX0_release 10 = .ok (.aload_n 0, 1) := by decide +kernel
theorem dX0_release_11 : decode cX0_release 11 = .ok (.getfield 19, 3) := by decide +kernel
theorem dX0_release_14 : decode cX0_release 14 = .ok (.iload_n 2, 1) := by decide +kernel
theorem dX0_release_15 : decode cX0_release 15 = .ok (.iaload, 1) := by decide +kernel
theorem dX0_release_16 : decode cX0_release 16 = .ok (.iload_n 1, 1) := by decide +kernel
theorem dX0_release_17 : decode cX0_release 17 = .ok (.if_icmp .ne 10, 3) := by decide +kernel
theorem dX0_release_20 : decode cX0_release 20 = .ok (.aload_n 0, 1) := by decide +kernel
theorem dX0_release_21 : decode cX0_release 21 = .ok (.getfield 19, 3) := by decide +kernel
theorem dX0_release_24 : decode cX0_release 24 = .ok (.iload_n 2, 1) := by decide +kernel
theorem dX0_release_25 : decode cX0_release 25 = .ok (.iconst (-1), 1) := by decide +kernel
theorem dX0_release_26 : decode cX0_release 26 = .ok (.iastore, 1) := by decide +kernel
theorem dX0_release_27 : decode cX0_release 27 = .ok (.iinc 2 1, 3) := by decide +kernel
theorem dX0_release_30 : decode cX0_release 30 = .ok (.goto (-28), 3) := by decide +kernel
theorem dX0_release_33 : decode cX0_release 33 = .ok (.return_, 1) := by decide +kernel
theorem dX0_replace_0 : decode cX0_replace 0 = .ok (.aload_n 0, 1) := by decide +kernel
theorem dX0_replace_1 : decode cX0_replace 1 = .ok (.iload_n 1, 1) := by decide +kernel
theorem dX0_replace_2 : decode cX0_replace 2 = .ok (.invokevirtual 26, 3) := by decide +kernel
theorem dX0_replace_5 : decode cX0_replace 5 = .ok (.ifCond .eq 44, 3) := by decide +kernel
theorem dX0_replace_8 : decode cX0_replace 8 = .ok (.aload_n 0, 1) := by decide +kernel
theorem dX0_replace_9 : decode cX0_replace 9 = .ok (.iload_n 2, 1) := by decide +kernel
theorem dX0_replace_10 : decode cX0_replace 10 = .ok (.invokevirtual 26, 3) := by decide +kernel
theorem dX0_replace_13 : decode cX0_replace 13 = .ok (.ifCond .eq 36, 3) := by decide +kernel
theorem dX0_replace_16 : decode cX0_replace 16 = .ok (.aload_n 0, 1) := by decide +kernel
theorem dX0_replace_17 : decode cX0_replace 17 = .ok (.getfield 19, 3) := by decide +kernel
theorem dX0_replace_20 : decode cX0_replace 20 = .ok (.iload_n 2, 1) := by decide +kernel
theorem dX0_replace_21 : decode cX0_replace 21 = .ok (.aload_n 0, 1) := by decide +kernel
theorem dX0_replace_22 : decode cX0_replace 22 = .ok (.getfield 19, 3) := by decide +kernel
theorem dX0_replace_25 : decode cX0_replace 25 = .ok (.iload_n 1, 1) := by decide +kernel
theorem dX0_replace_26 : decode cX0_replace 26 = .ok (.iaload, 1) := by decide +kernel
theorem dX0_replace_27 : decode cX0_replace 27 = .ok (.iastore, 1) := by decide +kernel
theorem dX0_replace_28 : decode cX0_replace 28 = .ok (.aload_n 0, 1) := by decide +kernel
theorem dX0_replace_29 : decode cX0_replace 29 = .ok (.getfield 19, 3) := by decide +kernel
theorem dX0_replace_32 : decode cX0_replace 32 = .ok (.iload_n 1, 1) := by decide +kernel
theorem dX0_replace_33 : decode cX0_replace 33 = .ok (.iconst (-1), 1) := by decide +kernel
theorem dX0_replace_34 : decode cX0_replace 34 = .ok (.iastore, 1) := by decide +kernel
theorem dX0_replace_35 : decode cX0_replace 35 = .ok (.aload_n 0, 1) := by decide +kernel
theorem dX0_replace_36 : decode cX0_replace 36 = .ok (.getfield 15, 3) := by decide +kernel
theorem dX0_replace_39 : decode cX0_replace 39 = .ok (.iload_n 1, 1) := by decide +kernel
theorem dX0_replace_40 : decode cX0_replace 40 = .ok (.iconst 0, 1) := by decide +kernel
theorem dX0_replace_41 : decode cX0_replace 41 = .ok (.bastore, 1) := by decide +kernel
theorem dX0_replace_42 : decode cX0_replace 42 = .ok (.aload_n 0, 1) := by decide +kernel
theorem dX0_replace_43 : decode cX0_replace 43 = .ok (.getfield 15, 3) := by decide +kernel
theorem dX0_replace_46 : decode cX0_replace 46 = .ok (.iload_n 2, 1) := by decide +kernel
theorem dX0_replace_47 : decode cX0_replace 47 = .ok (.iconst 1, 1) := by decide +kernel
theorem dX0_replace_48 : decode cX0_replace 48 = .ok (.bastore, 1) := by decide +kernel
theorem dX0_replace_49 : decode cX0_replace 49 = .ok (.return_, 1) := by decide +kernel
theorem dX1_init_0 : decode cX1_init 0 = .ok (.aload_n 0, 1) := by decide +kernel
theorem dX1_init_1 : decode cX1_init 1 = .ok (.invokespecial 3, 3) := by decide +kernel
theorem dX1_init_4 : decode cX1_init 4 = .ok (.aload_n 0, 1) := by decide +kernel
theorem dX1_init_5 : decode cX1_init 5 = .ok (.iconst (-1), 1) := by decide +kernel
theorem dX1_init_6 : decode cX1_init 6 = .ok (.putfield 9, 3) := by decide +kernel
theorem dX1_init_9 : decode cX1_init 9 = .ok (.aload_n 0, 1) := by decide +kernel
theorem dX1_init_10 : decode cX1_init 10 = .ok (.iconst (-1), 1) := by decide +kernel
theorem dX1_init_11 : decode cX1_init 11 = .ok (.putfield 15, 3) := by decide +kernel
theorem dX1_init_14 : decode cX1_init 14 = .ok (.return_, 1) := by decide +kernel
theorem dX1_isOn_0 : decode cX1_isOn 0 = .ok (.aload_n 0, 1) := by decide +kernel
theorem dX1_isOn_1 : decode cX1_isOn 1 = .ok (.getfield 9, 3) := by decide +kernel
theorem dX1_isOn_4 : decode cX1_isOn 4 = .ok (.iconst (-1), 1) := by decide +kernel
theorem dX1_isOn_5 : decode cX1_isOn 5 = .ok (.if_icmp .eq 7, 3) := by decide +kernel
theorem dX1_isOn_8 : decode cX1_isOn 8 = .ok (.iconst 1, 1) := by decide +kernel
theorem dX1_isOn_9 : decode cX1_isOn 9 = .ok (.goto 4, 3) := by decide +kernel
theorem dX1_isOn_12 : decode cX1_isOn 12 = .ok (.iconst 0, 1) := by decide +kernel
theorem dX1_isOn_13 : decode cX1_isOn 13 = .ok (.ireturn, 1) := by decide +kernel
theorem dX1_isFrom_0 : decode cX1_isFrom 0 = .ok (.aload_n 0, 1) := by decide +kernel
theorem dX1_isFrom_1 : decode cX1_isFrom 1 = .ok (.getfield 9, 3) := by decide +kernel
theorem dX1_isFrom_4 : decode cX1_isFrom 4 = .ok (.iload_n 1, 1) := by decide +kernel
theorem dX1_isFrom_5 : decode cX1_isFrom 5 = .ok (.if_icmp .ne 7, 3) := by decide +kernel
theorem dX1_isFrom_8 : decode cX1_isFrom 8 = .ok (.iconst 1, 1) := by decide +kernel
theorem dX1_isFrom_9 : decode cX1_isFrom 9 = .ok (.goto 4, 3) := by decide +kernel
theorem dX1_isFrom_12 : decode cX1_isFrom 12 = .ok (.iconst 0, 1) := by decide +kernel
theorem dX1_isFrom_13 : decode cX1_isFrom 13 = .ok (.ireturn, 1) := by decide +kernel
theorem dX1_involves_0 : decode cX1_involves 0 = .ok (.aload_n 0, 1) := by decide +kernel
theorem dX1_involves_1 : decode cX1_involves 1 = .ok (.getfield 9, 3) := by decide +kernel
theorem dX1_involves_4 : decode cX1_involves 4 = .ok (.iload_n 1, 1) := by decide +kernel
theorem dX1_involves_5 : decode cX1_involves 5 = .ok (.if_icmp .eq 11, 3) := by decide +kernel
theorem dX1_involves_8 : decode cX1_involves 8 = .ok (.aload_n 0, 1) := by decide +kernel
theorem dX1_involves_9 : decode cX1_involves 9 = .ok (.getfield 15, 3) := by decide +kernel
theorem dX1_involves_12 : decode cX1_involves 12 = .ok (.iload_n 1, 1) := by decide +kernel
theorem dX1_involves_13 : decode cX1_involves 13 = .ok (.if_icmp .ne 7, 3) := by decide +kernel
theorem dX1_involves_16 : decode cX1_involves 16 = .ok (.iconst 1, 1) := by decide +kernel
theorem dX1_involves_17 : decode cX1_involves 17 = .ok (.goto 4, 3) := by decide +kernel
theorem dX1_involves_20 : decode cX1_involves 20 = .ok (.iconst 0, 1) := by decide +kernel
theorem dX1_involves_21 : decode cX1_involves 21 = .ok (.ireturn, 1) := by decide +kernel
theorem dX1_open_0 : decode cX1_open 0 = .ok (.aload_n 0, 1) := by decide +kernel
theorem dX1_open_1 : decode cX1_open 1 = .ok (.iload_n 1, 1) := by decide +kernel
theorem dX1_open_2 : decode cX1_open 2 = .ok (.putfield 9, 3) := by decide +kernel
theorem dX1_open_5 : decode cX1_open 5 = .ok (.aload_n 0, 1) := by decide +kernel
theorem dX1_open_6 : decode cX1_open 6 = .ok (.iload_n 2, 1) := by decide +kernel
theorem dX1_open_7 : decode cX1_open 7 = .ok (.putfield 15, 3) := by decide +kernel
theorem dX1_open_10 : decode cX1_open 10 = .ok (.aload_n 0, 1) := by decide +kernel
theorem dX1_open_11 : decode cX1_open 11 = .ok (.iload_n 3, 1) := by decide +kernel
theorem dX1_open_12 : decode cX1_open 12 = .ok (.putfield 18, 3) := by decide +kernel
theorem dX1_open_15 : decode cX1_open 15 = .ok (.return_, 1) := by decide +kernel
theorem dX1_clear_0 : decode cX1_clear 0 = .ok (.aload_n 0, 1) := by decide +kernel
theorem dX1_clear_1 : decode cX1_clear 1 = .ok (.iconst (-1), 1) := by decide +kernel
theorem dX1_clear_2 : decode cX1_clear 2 = .ok (.putfield 9, 3) := by decide +kernel
theorem dX1_clear_5 : decode cX1_clear 5 = .ok (.aload_n 0, 1) := by decide +kernel
theorem dX1_clear_6 : decode cX1_clear 6 = .ok (.iconst (-1), 1) := by decide +kernel
theorem dX1_clear_7 : decode cX1_clear 7 = .ok (.putfield 15, 3) := by decide +kernel
theorem dX1_clear_10 : decode cX1_clear 10 = .ok (.return_, 1) := by decide +kernel
theorem dX2_init_0 : decode cX2_init 0 = .ok (.aload_n 0, 1) := by decide +kernel
theorem dX2_init_1 : decode cX2_init 1 = .ok (.invokespecial 3, 3) := by decide +kernel
theorem dX2_init_4 : decode cX2_init 4 = .ok (.aload_n 0, 1) := by decide +kernel
theorem dX2_init_5 : decode cX2_init 5 = .ok (.sipush 1536, 3) := by decide +kernel
theorem dX2_init_8 : decode cX2_init 8 = .ok (.newarray .char, 2) := by decide +kernel
theorem dX2_init_10 : decode cX2_init 10 = .ok (.putfield 9, 3) := by decide +kernel
theorem dX2_init_13 : decode cX2_init 13 = .ok (.aload_n 0, 1) := by decide +kernel
theorem dX2_init_14 : decode cX2_init 14 = .ok (.sipush 1536, 3) := by decide +kernel
theorem dX2_init_17 : decode cX2_init 17 = .ok (.newarray .int, 2) := by decide +kernel
theorem dX2_init_19 : decode cX2_init 19 = .ok (.putfield 15, 3) := by decide +kernel
theorem dX2_init_22 : decode cX2_init 22 = .ok (.aload_n 0, 1) := by decide +kernel
theorem dX2_init_23 : decode cX2_init 23 = .ok (.sipush 1536, 3) := by decide +kernel
theorem dX2_init_26 : decode cX2_init 26 = .ok (.newarray .int, 2) := by decide +kernel
theorem dX2_init_28 : decode cX2_init 28 = .ok (.putfield 19, 3) := by decide +kernel
theorem dX2_init_31 : decode cX2_init 31 = .ok (.aload_n 0, 1) := by decide +kernel
theorem dX2_init_32 : decode cX2_init 32 = .ok (.sipush 1536, 3) := by decide +kernel
theorem dX2_init_35 : decode cX2_init 35 = .ok (.newarray .int, 2) := by decide +kernel
theorem dX2_init_37 : decode cX2_init 37 = .ok (.putfield 22, 3) := by decide +kernel
theorem dX2_init_40 : decode cX2_init 40 = .ok (.return_, 1) := by decide +kernel
theorem dX2_has_0 : decode cX2_has 0 = .ok (.iload_n 1, 1) := by decide +kernel
theorem dX2_has_1 : decode cX2_has 1 = .ok (.ifCond .lt 15, 3) := by decide +kernel
theorem dX2_has_4 : decode cX2_has 4 = .ok (.iload_n 1, 1) := by decide +kernel
theorem dX2_has_5 : decode cX2_has 5 = .ok (.aload_n 0, 1) := by decide +kernel
theorem dX2_has_6 : decode cX2_has 6 = .ok (.getfield 25, 3) := by decide +kernel
theorem dX2_has_9 : decode cX2_has 9 = .ok (.if_icmp .ge 7, 3) := by decide +kernel
theorem dX2_has_12 : decode cX2_has 12 = .ok (.iconst 1, 1) := by decide +kernel
theorem dX2_has_13 : decode cX2_has 13 = .ok (.goto 4, 3) := by decide +kernel
theorem dX2_has_16 : decode cX2_has 16 = .ok (.iconst 0, 1) := by decide +kernel
theorem dX2_has_17 : decode cX2_has 17 = .ok (.ireturn, 1) := by decide +kernel
theorem dX2_write_0 : decode cX2_write 0 = .ok (.aload_n 0, 1) := by decide +kernel
theorem dX2_write_1 : decode cX2_write 1 = .ok (.getfield 25, 3) := by decide +kernel
theorem dX2_write_4 : decode cX2_write 4 = .ok (.sipush 1536, 3) := by decide +kernel
theorem dX2_write_7 : decode cX2_write 7 = .ok (.if_icmp .ge 54, 3) := by decide +kernel
theorem dX2_write_10 : decode cX2_write 10 = .ok (.aload_n 0, 1) := by decide +kernel
theorem dX2_write_11 : decode cX2_write 11 = .ok (.getfield 9, 3) := by decide +kernel
theorem dX2_write_14 : decode cX2_write 14 = .ok (.aload_n 0, 1) := by decide +kernel
theorem dX2_write_15 : decode cX2_write 15 = .ok (.getfield 25, 3) := by decide +kernel
theorem dX2_write_18 : decode cX2_write 18 = .ok (.iload_n 1, 1) := by decide +kernel
theorem dX2_write_19 : decode cX2_write 19 = .ok (.castore, 1) := by decide +kernel
theorem dX2_write_20 : decode cX2_write 20 = .ok (.aload_n 0, 1) := by decide +kernel
theorem dX2_write_21 : decode cX2_write 21 = .ok (.getfield 15, 3) := by decide +kernel
theorem dX2_write_24 : decode cX2_write 24 = .ok (.aload_n 0, 1) := by decide +kernel
theorem dX2_write_25 : decode cX2_write 25 = .ok (.getfield 25, 3) := by decide +kernel
theorem dX2_write_28 : decode cX2_write 28 = .ok (.iload_n 2, 1) := by decide +kernel
theorem dX2_write_29 : decode cX2_write 29 = .ok (.iastore, 1) := by decide +kernel
theorem dX2_write_30 : decode cX2_write 30 = .ok (.aload_n 0, 1) := by decide +kernel
theorem dX2_write_31 : decode cX2_write 31 = .ok (.getfield 19, 3) := by decide +kernel
theorem dX2_write_34 : decode cX2_write 34 = .ok (.aload_n 0, 1) := by decide +kernel
theorem dX2_write_35 : decode cX2_write 35 = .ok (.getfield 25, 3) := by decide +kernel
theorem dX2_write_38 : decode cX2_write 38 = .ok (.iload_n 3, 1) := by decide +kernel
theorem dX2_write_39 : decode cX2_write 39 = .ok (.iastore, 1) := by decide +kernel
theorem dX2_write_40 : decode cX2_write 40 = .ok (.aload_n 0, 1) := by decide +kernel
theorem dX2_write_41 : decode cX2_write 41 = .ok (.getfield 22, 3) := by decide +kernel
theorem dX2_write_44 : decode cX2_write 44 = .ok (.aload_n 0, 1) := by decide +kernel
theorem dX2_write_45 : decode cX2_write 45 = .ok (.getfield 25, 3) := by decide +kernel
theorem dX2_write_48 : decode cX2_write 48 = .ok (.iload 4, 2) := by decide +kernel
theorem dX2_write_50 : decode cX2_write 50 = .ok (.iastore, 1) := by decide +kernel
theorem dX2_write_51 : decode cX2_write 51 = .ok (.aload_n 0, 1) := by decide +kernel
theorem dX2_write_52 : decode cX2_write 52 = .ok (.dup, 1) := by decide +kernel
theorem dX2_write_53 : decode cX2_write 53 = .ok (.getfield 25, 3) := by decide +kernel
theorem dX2_write_56 : decode cX2_write 56 = .ok (.iconst 1, 1) := by decide +kernel
theorem dX2_write_57 : decode cX2_write 57 = .ok (.iadd, 1) := by decide +kernel
theorem dX2_write_58 : decode cX2_write 58 = .ok (.putfield 25, 3) := by decide +kernel
theorem dX2_write_61 : decode cX2_write 61 = .ok (.return_, 1) := by decide +kernel
theorem dX2_lastState_0 : decode cX2_lastState 0 = .ok (.iload_n 2, 1) := by decide +kernel
theorem dX2_lastState_1 : decode cX2_lastState 1 = .ok (.istore_n 3, 1) := by decide +kernel
theorem dX2_lastState_2 : decode cX2_lastState 2 = .ok (.iconst 0, 1) := by decide +kernel
theorem dX2_lastState_3 : decode cX2_lastState 3 = .ok (.istore 4, 2) := by decide +kernel
theorem dX2_lastState_5 : decode cX2_lastState 5 = .ok (.iload 4, 2) := by decide +kernel
theorem dX2_lastState_7 : decode cX2_lastState 7 = .ok (.aload_n 0, 1) := by decide +kernel
theorem dX2_lastState_8 : decode cX2_lastState 8 = .ok (.getfield 25, 3) := by decide +kernel
theorem dX2_lastState_11 : decode cX2_lastState 11 = .ok (.if_icmp .ge 32, 3) := by decide +kernel
theorem dX2_lastState_14 : decode cX2_lastState 14 = .ok (.aload_n 0, 1) := by decide +kernel
theorem dX2_lastState_15 : decode cX2_lastState 15 = .ok (.getfield 15, 3) := by decide +kernel
theorem dX2_lastState_18 : decode cX2_lastState 18 = .ok (.iload 4, 2) := by decide +kernel
theorem dX2_lastState_20 : decode cX2_lastState 20 = .ok (.iaload, 1) := by decide +kernel
theorem dX2_lastState_21 : decode cX2_lastState 21 = .ok (.iload_n 1, 1) := by decide +kernel
theorem dX2_lastState_22 : decode cX2_lastState 22 = .ok (.if_icmp .ne 15, 3) := by decide +kernel
theorem dX2_lastState_25 : decode cX2_lastState 25 = .ok (.iload_n 3, 1) := by decide +kernel
theorem dX2_lastState_26 : decode cX2_lastState 26 = .ok (.aload_n 0, 1) := by decide +kernel
theorem dX2_lastState_27 : decode cX2_lastState 27 = .ok (.getfield 9, 3) := by decide +kernel
theorem dX2_lastState_30 : decode cX2_lastState 30 = .ok (.iload 4, 2) := by decide +kernel
theorem dX2_lastState_32 : decode cX2_lastState 32 = .ok (.caload, 1) := by decide +kernel
theorem dX2_lastState_33 : decode cX2_lastState 33 = .ok (.invokestatic 29, 3) := by decide +kernel
theorem dX2_lastState_36 : decode cX2_lastState 36 = .ok (.istore_n 3, 1) := by decide +kernel
theorem dX2_lastState_37 : decode cX2_lastState 37 = .ok (.iinc 4 1, 3) := by decide +kernel
theorem dX2_lastState_40 : decode cX2_lastState 40 = .ok (.goto (-35), 3) := by decide +kernel
theorem dX2_lastState_43 : decode cX2_lastState 43 = .ok (.iload_n 3, 1) := by decide +kernel
theorem dX2_lastState_44 : decode cX2_lastState 44 = .ok (.ireturn, 1) := by decide +kernel
theorem dX2_stateAfter_0 : decode cX2_stateAfter 0 = .ok (.iload_n 1, 1) := by decide +kernel
theorem dX2_stateAfter_1 : decode cX2_stateAfter 1 = .ok (.bipush 98, 2) := by decide +kernel
theorem dX2_stateAfter_3 : decode cX2_stateAfter 3 = .ok (.if_icmp .ne 6, 3) := by decide +kernel
theorem dX2_stateAfter_6 : decode cX2_stateAfter 6 = .ok (.bipush 97, 2) := by decide +kernel
theorem dX2_stateAfter_8 : decode cX2_stateAfter 8 = .ok (.ireturn, 1) := by decide +kernel
theorem dX2_stateAfter_9 : decode cX2_stateAfter 9 = .ok (.iload_n 1, 1) := by decide +kernel
theorem dX2_stateAfter_10 : decode cX2_stateAfter 10 = .ok (.bipush 100, 2) := by decide +kernel
theorem dX2_stateAfter_12 : decode cX2_stateAfter 12 = .ok (.if_icmp .ne 6, 3) := by decide +kernel
theorem dX2_stateAfter_15 : decode cX2_stateAfter 15 = .ok (.bipush 100, 2) := by decide +kernel
theorem dX2_stateAfter_17 : decode cX2_stateAfter 17 = .ok (.ireturn, 1) := by decide +kernel
theorem dX2_stateAfter_18 : decode cX2_stateAfter 18 = .ok (.iload_n 1, 1) := by decide +kernel
theorem dX2_stateAfter_19 : decode cX2_stateAfter 19 = .ok (.bipush 102, 2) := by decide +kernel
theorem dX2_stateAfter_21 : decode cX2_stateAfter 21 = .ok (.if_icmp .ne 6, 3) := by decide +kernel
theorem dX2_stateAfter_24 : decode cX2_stateAfter 24 = .ok (.bipush 102, 2) := by decide +kernel
theorem dX2_stateAfter_26 : decode cX2_stateAfter 26 = .ok (.ireturn, 1) := by decide +kernel
theorem dX2_stateAfter_27 : decode cX2_stateAfter 27 = .ok (.iload_n 1, 1) := by decide +kernel
theorem dX2_stateAfter_28 : decode cX2_stateAfter 28 = .ok (.bipush 103, 2) := by decide +kernel
theorem dX2_stateAfter_30 : decode cX2_stateAfter 30 = .ok (.if_icmp .ne 7, 3) := by decide +kernel
theorem dX2_stateAfter_33 : decode cX2_stateAfter 33 = .ok (.iload_n 0, 1) := by decide +kernel
theorem dX2_stateAfter_34 : decode cX2_stateAfter 34 = .ok (.goto 5, 3) := by decide +kernel
theorem dX2_stateAfter_37 : decode cX2_stateAfter 37 = .ok (.bipush 119, 2) := by decide +kernel
theorem dX2_stateAfter_39 : decode cX2_stateAfter 39 = .ok (.ireturn, 1) := by decide +kernel
theorem dX2_countTries_0 : decode cX2_countTries 0 = .ok (.iconst 0, 1) := by decide +kernel
theorem dX2_countTries_1 : decode cX2_countTries 1 = .ok (.istore_n 2, 1) := by decide +kernel
theorem dX2_countTries_2 : decode cX2_countTries 2 = .ok (.iconst 0, 1) := by decide +kernel
theorem dX2_countTries_3 : decode cX2_countTries 3 = .ok (.istore_n 3, 1) := by decide +kernel
theorem dX2_countTries_4 : decode cX2_countTries 4 = .ok (.iload_n 3, 1) := by decide +kernel
theorem dX2_countTries_5 : decode cX2_countTries 5 = .ok (.aload_n 0, 1) := by decide +kernel
theorem dX2_countTries_6 : decode cX2_countTries 6 = .ok (.getfield 25, 3) := by decide +kernel
theorem dX2_countTries_9 : decode cX2_countTries 9 = .ok (.if_icmp .ge 63, 3) := by decide +kernel
theorem dX2_countTries_12 : decode cX2_countTries 12 = .ok (.aload_n 0, 1) := by decide +kernel
theorem dX2_countTries_13 : decode cX2_countTries 13 = .ok (.getfield 15, 3) := by decide +kernel
theorem dX2_countTries_16 : decode cX2_countTries 16 = .ok (.iload_n 3, 1) := by decide +kernel
theorem dX2_countTries_17 : decode cX2_countTries 17 = .ok (.iaload, 1) := by decide +kernel
theorem dX2_countTries_18 : decode cX2_countTries 18 = .ok (.iload_n 1, 1) := by decide +kernel
theorem dX2_countTries_19 : decode cX2_countTries 19 = .ok (.if_icmp .eq 6, 3) := by decide +kernel
theorem dX2_countTries_22 : decode cX2_countTries 22 = .ok (.goto 44, 3) := by decide +kernel
theorem dX2_countTries_25 : decode cX2_countTries 25 = .ok (.aload_n 0, 1) := by decide +kernel
theorem dX2_countTries_26 : decode cX2_countTries 26 = .ok (.getfield 9, 3) := by decide +kernel
theorem dX2_countTries_29 : decode cX2_countTries 29 = .ok (.iload_n 3, 1) := by decide +kernel
theorem dX2_countTries_30 : decode cX2_countTries 30 = .ok (.caload, 1) := by decide +kernel
theorem dX2_countTries_31 : decode cX2_countTries 31 = .ok (.bipush 109, 2) := by decide +kernel
theorem dX2_countTries_33 : decode cX2_countTries 33 = .ok (.if_icmp .eq 14, 3) := by decide +kernel
theorem dX2_countTries_36 : decode cX2_countTries 36 = .ok (.aload_n 0, 1) := by decide +kernel
theorem dX2_countTries_37 : decode cX2_countTries 37 = .ok (.getfield 9, 3) := by decide +kernel
theorem dX2_countTries_40 : decode cX2_countTries 40 = .ok (.iload_n 3, 1) := by decide +kernel
theorem dX2_countTries_41 : decode cX2_countTries 41 = .ok (.caload, 1) := by decide +kernel
theorem dX2_countTries_42 : decode cX2_countTries 42 = .ok (.bipush 102, 2) := by decide +kernel
theorem dX2_countTries_44 : decode cX2_countTries 44 = .ok (.if_icmp .ne 9, 3) := by decide +kernel
theorem dX2_countTries_47 : decode cX2_countTries 47 = .ok (.iinc 2 1, 3) := by decide +kernel
theorem dX2_countTries_50 : decode cX2_countTries 50 = .ok (.goto 16, 3) := by decide +kernel
theorem dX2_countTries_53 : decode cX2_countTries 53 = .ok (.aload_n 0, 1) := by decide +kernel
theorem dX2_countTries_54 : decode cX2_countTries 54 = .ok (.getfield 9, 3) := by decide +kernel
theorem dX2_countTries_57 : decode cX2_countTries 57 = .ok (.iload_n 3, 1) := by decide +kernel
theorem dX2_countTries_58 : decode cX2_countTries 58 = .ok (.caload, 1) := by decide +kernel
theorem dX2_countTries_59 : decode cX2_countTries 59 = .ok (.bipush 117, 2) := by decide +kernel
theorem dX2_countTries_61 : decode cX2_countTries 61 = .ok (.if_icmp .ne 5, 3) := by decide +kernel
theorem dX2_countTries_64 : decode cX2_countTries 64 = .ok (.iconst 0, 1) := by decide +kernel
theorem dX2_countTries_65 : decode cX2_countTries 65 = .ok (.istore_n 2, 1) := by decide +kernel
theorem dX2_countTries_66 : decode cX2_countTries 66 = .ok (.iinc 3 1, 3) := by decide +kernel
theorem dX2_countTries_69 : decode cX2_countTries 69 = .ok (.goto (-65), 3) := by decide +kernel
theorem dX2_countTries_72 : decode cX2_countTries 72 = .ok (.iload_n 2, 1) := by decide +kernel
theorem dX2_countTries_73 : decode cX2_countTries 73 = .ok (.ireturn, 1) := by decide +kernel
theorem dX3_init_0 : decode cX3_init 0 = .ok (.aload_n 0, 1) := by decide +kernel
theorem dX3_init_1 : decode cX3_init 1 = .ok (.invokespecial 3, 3) := by decide +kernel
theorem dX3_init_4 : decode cX3_init 4 = .ok (.aload_n 0, 1) := by decide +kernel
theorem dX3_init_5 : decode cX3_init 5 = .ok (.bipush 16, 2) := by decide +kernel
theorem dX3_init_7 : decode cX3_init 7 = .ok (.newarray .int, 2) := by decide +kernel
theorem dX3_init_9 : decode cX3_init 9 = .ok (.putfield 9, 3) := by decide +kernel
theorem dX3_init_12 : decode cX3_init 12 = .ok (.aload_n 0, 1) := by decide +kernel
theorem dX3_init_13 : decode cX3_init 13 = .ok (.bipush 16, 2) := by decide +kernel
theorem dX3_init_15 : decode cX3_init 15 = .ok (.newarray .int, 2) := by decide +kernel
theorem dX3_init_17 : decode cX3_init 17 = .ok (.putfield 15, 3) := by decide +kernel
theorem dX3_init_20 : decode cX3_init 20 = .ok (.aload_n 0, 1) := by decide +kernel
theorem dX3_init_21 : decode cX3_init 21 = .ok (.bipush 16, 2) := by decide +kernel
theorem dX3_init_23 : decode cX3_init 23 = .ok (.newarray .int, 2) := by decide +kernel
theorem dX3_init_25 : decode cX3_init 25 = .ok (.putfield 18, 3) := by decide +kernel
theorem dX3_init_28 : decode cX3_init 28 = .ok (.aload_n 0, 1) := by decide +kernel
theorem dX3_init_29 : decode cX3_init 29 = .ok (.bipush 16, 2) := by decide +kernel
theorem dX3_init_31 : decode cX3_init 31 = .ok (.newarray .char, 2) := by decide +kernel
theorem dX3_init_33 : decode cX3_init 33 = .ok (.putfield 21, 3) := by decide +kernel
theorem dX3_init_36 : decode cX3_init 36 = .ok (.aload_n 0, 1) := by decide +kernel
theorem dX3_init_37 : decode cX3_init 37 = .ok (.bipush 16, 2) := by decide +kernel
theorem dX3_init_39 : decode cX3_init 39 = .ok (.newarray .boolean, 2) := by decide +kernel
theorem dX3_init_41 : decode cX3_init 41 = .ok (.putfield 25, 3) := by decide +kernel
theorem dX3_init_44 : decode cX3_init 44 = .ok (.aload_n 0, 1) := by decide +kernel
theorem dX3_init_45 : decode cX3_init 45 = .ok (.bipush 16, 2) := by decide +kernel
theorem dX3_init_47 : decode cX3_init 47 = .ok (.newarray .int, 2) := by decide +kernel
theorem dX3_init_49 : decode cX3_init 49 = .ok (.putfield 29, 3) := by decide +kernel
theorem dX3_init_52 : decode cX3_init 52 = .ok (.aload_n 0, 1) := by decide +kernel
theorem dX3_init_53 : decode cX3_init 53 = .ok (.bipush 16, 2) := by decide +kernel
theorem dX3_init_55 : decode cX3_init 55 = .ok (.newarray .int, 2) := by decide +kernel
theorem dX3_init_57 : decode cX3_init 57 = .ok (.putfield 32, 3) := by decide +kernel
theorem dX3_init_60 : decode cX3_init 60 = .ok (.aload_n 0, 1) := by decide +kernel
theorem dX3_init_61 : decode cX3_init 61 = .ok (.bipush 16, 2) := by decide +kernel
theorem dX3_init_63 : decode cX3_init 63 = .ok (.newarray .int, 2) := by decide +kernel
theorem dX3_init_65 : decode cX3_init 65 = .ok (.putfield 35, 3) := by decide +kernel
theorem dX3_init_68 : decode cX3_init 68 = .ok (.aload_n 0, 1) := by decide +kernel
theorem dX3_init_69 : decode cX3_init 69 = .ok (.bipush 32, 2) := by decide +kernel
theorem dX3_init_71 : decode cX3_init 71 = .ok (.newarray .int, 2) := by decide +kernel
theorem dX3_init_73 : decode cX3_init 73 = .ok (.putfield 38, 3) := by decide +kernel
theorem dX3_init_76 : decode cX3_init 76 = .ok (.aload_n 0, 1) := by decide +kernel
theorem dX3_init_77 : decode cX3_init 77 = .ok (.bipush 32, 2) := by decide +kernel
theorem dX3_init_79 : decode cX3_init 79 = .ok (.newarray .char, 2) := by decide +kernel
theorem dX3_init_81 : decode cX3_init 81 = .ok (.putfield 41, 3) := by decide +kernel
theorem dX3_init_84 : decode cX3_init 84 = .ok (.aload_n 0, 1) := by decide +kernel
theorem dX3_init_85 : decode cX3_init 85 = .ok (.bipush 32, 2) := by decide +kernel
theorem dX3_init_87 : decode cX3_init 87 = .ok (.newarray .int, 2) := by decide +kernel
theorem dX3_init_89 : decode cX3_init 89 = .ok (.putfield 44, 3) := by decide +kernel
theorem dX3_init_92 : decode cX3_init 92 = .ok (.aload_n 0, 1) := by decide +kernel
theorem dX3_init_93 : decode cX3_init 93 = .ok (.bipush 16, 2) := by decide +kernel
theorem dX3_init_95 : decode cX3_init 95 = .ok (.newarray .int, 2) := by decide +kernel
theorem dX3_init_97 : decode cX3_init 97 = .ok (.putfield 47, 3) := by decide +kernel
theorem dX3_init_100 : decode cX3_init 100 = .ok (.return_, 1) := by decide +kernel
theorem dX3_has_0 : decode cX3_has 0 = .ok (.iload_n 1, 1) := by decide +kernel
theorem dX3_has_1 : decode cX3_has 1 = .ok (.ifCond .lt 15, 3) := by decide +kernel
theorem dX3_has_4 : decode cX3_has 4 = .ok (.iload_n 1, 1) := by decide +kernel
theorem dX3_has_5 : decode cX3_has 5 = .ok (.aload_n 0, 1) := by decide +kernel
theorem dX3_has_6 : decode cX3_has 6 = .ok (.getfield 50, 3) := by decide +kernel
theorem dX3_has_9 : decode cX3_has 9 = .ok (.if_icmp .ge 7, 3) := by decide +kernel
theorem dX3_has_12 : decode cX3_has 12 = .ok (.iconst 1, 1) := by decide +kernel
theorem dX3_has_13 : decode cX3_has 13 = .ok (.goto 4, 3) := by decide +kernel
theorem dX3_has_16 : decode cX3_has 16 = .ok (.iconst 0, 1) := by decide +kernel
theorem dX3_has_17 : decode cX3_has 17 = .ok (.ireturn, 1) := by decide +kernel
theorem dX3_append_0 : decode cX3_append 0 = .ok (.aload_n 0, 1) := by decide +kernel
theorem dX3_append_1 : decode cX3_append 1 = .ok (.getfield 50, 3) := by decide +kernel
theorem dX3_append_4 : decode cX3_append 4 = .ok (.istore 6, 2) := by decide +kernel
theorem dX3_append_6 : decode cX3_append 6 = .ok (.aload_n 0, 1) := by decide +kernel
theorem dX3_append_7 : decode cX3_append 7 = .ok (.getfield 9, 3) := by decide +kernel
theorem dX3_append_10 : decode cX3_append 10 = .ok (.iload 6, 2) := by decide +kernel
theorem dX3_append_12 : decode cX3_append 12 = .ok (.iload_n 1, 1) := by decide +kernel
theorem dX3_append_13 : decode cX3_append 13 = .ok (.iastore, 1) := by decide +kernel
theorem dX3_append_14 : decode cX3_append 14 = .ok (.aload_n 0, 1) := by decide +kernel
theorem dX3_append_15 : decode cX3_append 15 = .ok (.getfield 15, 3) := by decide +kernel
theorem dX3_append_18 : decode cX3_append 18 = .ok (.iload 6, 2) := by decide +kernel
theorem dX3_append_20 : decode cX3_append 20 = .ok (.iload_n 2, 1) := by decide +kernel
theorem dX3_append_21 : decode cX3_append 21 = .ok (.iastore, 1) := by decide +kernel
theorem dX3_append_22 : decode cX3_append 22 = .ok (.aload_n 0, 1) := by decide +kernel
theorem dX3_append_23 : decode cX3_append 23 = .ok (.getfield 18, 3) := by decide +kernel
theorem dX3_append_26 : decode cX3_append 26 = .ok (.iload 6, 2) := by decide +kernel
theorem dX3_append_28 : decode cX3_append 28 = .ok (.iload_n 3, 1) := by decide +kernel
theorem dX3_append_29 : decode cX3_append 29 = .ok (.iastore, 1) := by decide +kernel
theorem dX3_append_30 : decode cX3_append 30 = .ok (.aload_n 0, 1) := by decide +kernel
theorem dX3_append_31 : decode cX3_append 31 = .ok (.getfield 21, 3) := by decide +kernel
theorem dX3_append_34 : decode cX3_append 34 = .ok (.iload 6, 2) := by decide +kernel
theorem dX3_append_36 : decode cX3_append 36 = .ok (.iload 4, 2) := by decide +kernel
theorem dX3_append_38 : decode cX3_append 38 = .ok (.castore, 1) := by decide +kernel
theorem dX3_append_39 : decode cX3_append 39 = .ok (.aload_n 0, 1) := by decide +kernel
theorem dX3_append_40 : decode cX3_append 40 = .ok (.getfield 25, 3) := by decide +kernel
theorem dX3_append_43 : decode cX3_append 43 = .ok (.iload 6, 2) := by decide +kernel
theorem dX3_append_45 : decode cX3_append 45 = .ok (.iload 5, 2) := by decide +kernel
theorem dX3_append_47 : decode cX3_append 47 = .ok (.bastore, 1) := by decide +kernel
theorem dX3_append_48 : decode cX3_append 48 = .ok (.aload_n 0, 1) := by decide +kernel
theorem dX3_append_49 : decode cX3_append 49 = .ok (.getfield 32, 3) := by decide +kernel
theorem dX3_append_52 : decode cX3_append 52 = .ok (.iload 6, 2) := by decide +kernel
theorem dX3_append_54 : decode cX3_append 54 = .ok (.iconst (-1), 1) := by decide +kernel
theorem dX3_append_55 : decode cX3_append 55 = .ok (.iastore, 1) := by decide +kernel
theorem dX3_append_56 : decode cX3_append 56 = .ok (.aload_n 0, 1) := by decide +kernel
theorem dX3_append_57 : decode cX3_append 57 = .ok (.dup, 1) := by decide +kernel
theorem dX3_append_58 : decode cX3_append 58 = .ok (.getfield 50, 3) := by decide +kernel
theorem dX3_append_61 : decode cX3_append 61 = .ok (.iconst 1, 1) := by decide +kernel
theorem dX3_append_62 : decode cX3_append 62 = .ok (.iadd, 1) := by decide +kernel
theorem dX3_append_63 : decode cX3_append 63 = .ok (.putfield 50, 3) := by decide +kernel
theorem dX3_append_66 : decode cX3_append 66 = .ok (.iload 6, 2) := by decide +kernel
theorem dX3_append_68 : decode cX3_append 68 = .ok (.ireturn, 1) := by decide +kernel
theorem dX3_doesNeed_0 : decode cX3_doesNeed 0 = .ok (.aload_n 0, 1) := by decide +kernel
theorem dX3_doesNeed_1 : decode cX3_doesNeed 1 = .ok (.getfield 29, 3) := by decide +kernel
theorem dX3_doesNeed_4 : decode cX3_doesNeed 4 = .ok (.iload_n 1, 1) := by decide +kernel
theorem dX3_doesNeed_5 : decode cX3_doesNeed 5 = .ok (.iaload, 1) := by decide +kernel
theorem dX3_doesNeed_6 : decode cX3_doesNeed 6 = .ok (.iload_n 2, 1) := by decide +kernel
theorem dX3_doesNeed_7 : decode cX3_doesNeed 7 = .ok (.ishr, 1) := by decide +kernel
theorem dX3_doesNeed_8 : decode cX3_doesNeed 8 = .ok (.iconst 1, 1) := by decide +kernel
theorem dX3_doesNeed_9 : decode cX3_doesNeed 9 = .ok (.iand, 1) := by decide +kernel
theorem dX3_doesNeed_10 : decode cX3_doesNeed 10 = .ok (.iconst 1, 1) := by decide +kernel
theorem dX3_doesNeed_11 : decode cX3_doesNeed 11 = .ok (.if_icmp .ne 7, 3) := by decide +kernel
theorem dX3_doesNeed_14 : decode cX3_doesNeed 14 = .ok (.iconst 1, 1) := by decide +kernel
theorem dX3_doesNeed_15 : decode cX3_doesNeed 15 = .ok (.goto 4, 3) := by decide +kernel
theorem dX3_doesNeed_18 : decode cX3_doesNeed 18 = .ok (.iconst 0, 1) := by decide +kernel
theorem dX3_doesNeed_19 : decode cX3_doesNeed 19 = .ok (.ireturn, 1) := by decide +kernel
theorem dX3_ownerOfFallback_0 : decode cX3_ownerOfFallback 0 = .ok (.iconst 0, 1) := by decide +kernel
theorem dX3_ownerOfFallback_1 : decode cX3_ownerOfFallback 1 = .ok (.istore_n 2, 1) := by decide +kernel
theorem dX3_ownerOfFallback_2 : decode cX3_ownerOfFallback 2 = .ok (.iload_n 2, 1) := by decide +kernel
theorem dX3_ownerOfFallback_3 : decode cX3_ownerOfFallback 3 = .ok (.aload_n 0, 1) := by decide +kernel
theorem dX3_ownerOfFallback_4 : decode cX3_ownerOfFallback 4 = .ok (.getfield 50, 3) := by decide +kernel
theorem dX3_ownerOfFallback_7 : decode cX3_ownerOfFallback 7 = .ok (.if_icmp .ge 21, 3) := by decide +kernel
theorem dX3_ownerOfFallback_10 : decode cX3_ownerOfFallback 10 = .ok (.aload_n 0, 1) := by decide +kernel
theorem dX3_ownerOfFallback_11 : decode cX3_ownerOfFallback 11 = .ok (.getfield 32, 3) := by decide +kernel
theorem dX3_ownerOfFallback_14 : decode cX3_ownerOfFallback 14 = .ok (.iload_n 2, 1) := by decide +kernel
theorem dX3_ownerOfFallback_15 : decode cX3_ownerOfFallback 15 = .ok (.iaload, 1) := by decide +kernel
theorem dX3_ownerOfFallback_16 : decode cX3_ownerOfFallback 16 = .ok (.iload_n 1, 1) := by decide +kernel
theorem dX3_ownerOfFallback_17 : decode cX3_ownerOfFallback 17 = .ok (.if_icmp .ne 5, 3) := by decide +kernel
theorem dX3_ownerOfFallback_20 : decode cX3_ownerOfFallback 20 = .ok (.iload_n 2, 1) := by decide +kernel
theorem dX3_ownerOfFallback_21 : decode cX3_ownerOfFallback 21 = .ok (.ireturn, 1) := by decide +kernel
theorem dX3_ownerOfFallback_22 : decode cX3_ownerOfFallback 22 = .ok (.iinc 2 1, 3) := by decide +kernel
theorem dX3_ownerOfFallback_25 : decode cX3_ownerOfFallback 25 = .ok (.goto (-23), 3) := by decide +kernel
theorem dX3_ownerOfFallback_28 : decode cX3_ownerOfFallback 28 = .ok (.iconst (-1), 1) := by decide +kernel
theorem dX3_ownerOfFallback_29 : decode cX3_ownerOfFallback 29 = .ok (.ireturn, 1) := by decide +kernel
theorem dX3_addCondition_0 : decode cX3_addCondition 0 = .ok (.iload_n 1, 1) := by decide +kernel
theorem dX3_addCondition_1 : decode cX3_addCondition 1 = .ok (.iconst 2, 1) := by decide +kernel
theorem dX3_addCondition_2 : decode cX3_addCondition 2 = .ok (.imul, 1) := by decide +kernel
theorem dX3_addCondition_3 : decode cX3_addCondition 3 = .ok (.aload_n 0, 1) := by decide +kernel
theorem dX3_addCondition_4 : decode cX3_addCondition 4 = .ok (.getfield 35, 3) := by decide +kernel
theorem dX3_addCondition_7 : decode cX3_addCondition 7 = .ok (.iload_n 1, 1) := by decide +kernel
theorem dX3_addCondition_8 : decode cX3_addCondition 8 = .ok (.iaload, 1) := by decide +kernel
theorem dX3_addCondition_9 : decode cX3_addCondition 9 = .ok (.iadd, 1) := by decide +kernel
theorem dX3_addCondition_10 : decode cX3_addCondition 10 = .ok (.istore 5, 2) := by decide +kernel
theorem dX3_addCondition_12 : decode cX3_addCondition 12 = .ok (.aload_n 0, 1) := by decide +kernel
theorem dX3_addCondition_13 : decode cX3_addCondition 13 = .ok (.getfield 38, 3) := by decide +kernel
theorem dX3_addCondition_16 : decode cX3_addCondition 16 = .ok (.iload 5, 2) := by decide +kernel
theorem dX3_addCondition_18 : decode cX3_addCondition 18 = .ok (.iload_n 2, 1) := by decide +kernel
theorem dX3_addCondition_19 : decode cX3_addCondition 19 = .ok (.iastore, 1) := by decide +kernel
theorem dX3_addCondition_20 : decode cX3_addCondition 20 = .ok (.aload_n 0, 1) := by decide +kernel
theorem dX3_addCondition_21 : decode cX3_addCondition 21 = .ok (.getfield 41, 3) := by decide +kernel
theorem dX3_addCondition_24 : decode cX3_addCondition 24 = .ok (.iload 5, 2) := by decide +kernel
theorem dX3_addCondition_26 : decode cX3_addCondition 26 = .ok (.iload_n 3, 1) := by decide +kernel
theorem dX3_addCondition_27 : decode cX3_addCondition 27 = .ok (.castore, 1) := by decide +kernel
theorem dX3_addCondition_28 : decode cX3_addCondition 28 = .ok (.aload_n 0, 1) := by decide +kernel
theorem dX3_addCondition_29 : decode cX3_addCondition 29 = .ok (.getfield 44, 3) := by decide +kernel
theorem dX3_addCondition_32 : decode cX3_addCondition 32 = .ok (.iload 5, 2) := by decide +kernel
theorem dX3_addCondition_34 : decode cX3_addCondition 34 = .ok (.iload 4, 2) := by decide +kernel
theorem dX3_addCondition_36 : decode cX3_addCondition 36 = .ok (.iastore, 1) := by decide +kernel
theorem dX3_addCondition_37 : decode cX3_addCondition 37 = .ok (.aload_n 0, 1) := by decide +kernel
theorem dX3_addCondition_38 : decode cX3_addCondition 38 = .ok (.getfield 35, 3) := by decide +kernel
theorem dX3_addCondition_41 : decode cX3_addCondition 41 = .ok (.iload_n 1, 1) := by decide +kernel
theorem dX3_addCondition_42 : decode cX3_addCondition 42 = .ok (.dup2, 1) := by decide +kernel
theorem dX3_addCondition_43 : decode cX3_addCondition 43 = .ok (.iaload, 1) := by decide +kernel
theorem dX3_addCondition_44 : decode cX3_addCondition 44 = .ok (.iconst 1, 1) := by decide +kernel
theorem dX3_addCondition_45 : decode cX3_addCondition 45 = .ok (.iadd, 1) := by decide +kernel
theorem dX3_addCondition_46 : decode cX3_addCondition 46 = .ok (.iastore, 1) := by decide +kernel
theorem dX3_addCondition_47 : decode cX3_addCondition 47 = .ok (.aload_n 0, 1) := by decide +kernel
theorem dX3_addCondition_48 : decode cX3_addCondition 48 = .ok (.getfield 35, 3) := by decide +kernel
theorem dX3_addCondition_51 : decode cX3_addCondition 51 = .ok (.iload_n 1, 1) := by decide +kernel
theorem dX3_addCondition_52 : decode cX3_addCondition 52 = .ok (.iaload, 1) := by decide +kernel
theorem dX3_addCondition_53 : decode cX3_addCondition 53 = .ok (.ireturn, 1) := by decide +kernel
theorem dX3_sensorOf_0 : decode cX3_sensorOf 0 = .ok (.aload_n 0, 1) := by decide +kernel
theorem dX3_sensorOf_1 : decode cX3_sensorOf 1 = .ok (.getfield 38, 3) := by decide +kernel
theorem dX3_sensorOf_4 : decode cX3_sensorOf 4 = .ok (.iload_n 1, 1) := by decide +kernel
theorem dX3_sensorOf_5 : decode cX3_sensorOf 5 = .ok (.iconst 2, 1) := by decide +kernel
theorem dX3_sensorOf_6 : decode cX3_sensorOf 6 = .ok (.imul, 1) := by decide +kernel
theorem dX3_sensorOf_7 : decode cX3_sensorOf 7 = .ok (.iload_n 2, 1) := by decide +kernel
theorem dX3_sensorOf_8 : decode cX3_sensorOf 8 = .ok (.iadd, 1) := by decide +kernel
theorem dX3_sensorOf_9 : decode cX3_sensorOf 9 = .ok (.iaload, 1) := by decide +kernel
theorem dX3_sensorOf_10 : decode cX3_sensorOf 10 = .ok (.ireturn, 1) := by decide +kernel
theorem dX3_isGuardMet_0 : decode cX3_isGuardMet 0 = .ok (.iconst 0, 1) := by decide +kernel
theorem dX3_isGuardMet_1 : decode cX3_isGuardMet 1 = .ok (.istore_n 3, 1) := by decide +kernel
theorem dX3_isGuardMet_2 : decode cX3_isGuardMet 2 = .ok (.iload_n 3, 1) := by decide +kernel
theorem dX3_isGuardMet_3 : decode cX3_isGuardMet 3 = .ok (.aload_n 0, 1) := by decide +kernel
theorem dX3_isGuardMet_4 : decode cX3_isGuardMet 4 = .ok (.getfield 35, 3) := by decide +kernel
theorem dX3_isGuardMet_7 : decode cX3_isGuardMet 7 = .ok (.iload_n 1, 1) := by decide +kernel
theorem dX3_isGuardMet_8 : decode cX3_isGuardMet 8 = .ok (.iaload, 1) := by decide +kernel
theorem dX3_isGuardMet_9 : decode cX3_isGuardMet 9 = .ok (.if_icmp .ge 59, 3) := by decide +kernel
theorem dX3_isGuardMet_12 : decode cX3_isGuardMet 12 = .ok (.iload_n 1, 1) := by decide +kernel
theorem dX3_isGuardMet_13 : decode cX3_isGuardMet 13 = .ok (.iconst 2, 1) := by decide +kernel
theorem dX3_isGuardMet_14 : decode cX3_isGuardMet 14 = .ok (.imul, 1) := by decide +kernel
theorem dX3_isGuardMet_15 : decode cX3_isGuardMet 15 = .ok (.iload_n 3, 1) := by decide +kernel
theorem dX3_isGuardMet_16 : decode cX3_isGuardMet 16 = .ok (.iadd, 1) := by decide +kernel
theorem dX3_isGuardMet_17 : decode cX3_isGuardMet 17 = .ok (.istore 4, 2) := by decide +kernel
theorem dX3_isGuardMet_19 : decode cX3_isGuardMet 19 = .ok (.aload_n 0, 1) := by decide +kernel
theorem dX3_isGuardMet_20 : decode cX3_isGuardMet 20 = .ok (.getfield 38, 3) := by decide +kernel
theorem dX3_isGuardMet_23 : decode cX3_isGuardMet 23 = .ok (.iload 4, 2) := by decide +kernel
theorem dX3_isGuardMet_25 : decode cX3_isGuardMet 25 = .ok (.iaload, 1) := by decide +kernel
theorem dX3_isGuardMet_26 : decode cX3_isGuardMet 26 = .ok (.istore 5, 2) := by decide +kernel
theorem dX3_isGuardMet_28 : decode cX3_isGuardMet 28 = .ok (.iload 5, 2) := by decide +kernel
theorem dX3_isGuardMet_30 : decode cX3_isGuardMet 30 = .ok (.invokestatic 54, 3) := by decide +kernel
theorem dX3_isGuardMet_33 : decode cX3_isGuardMet 33 = .ok (.ifCond .eq 29, 3) := by decide +kernel
theorem dX3_isGuardMet_36 : decode cX3_isGuardMet 36 = .ok (.aload_n 2, 1) := by decide +kernel
theorem dX3_isGuardMet_37 : decode cX3_isGuardMet 37 = .ok (.iload 5, 2) := by decide +kernel
theorem dX3_isGuardMet_39 : decode cX3_isGuardMet 39 = .ok (.iaload, 1) := by decide +kernel
theorem dX3_isGuardMet_40 : decode cX3_isGuardMet 40 = .ok (.aload_n 0, 1) := by decide +kernel
theorem dX3_isGuardMet_41 : decode cX3_isGuardMet 41 = .ok (.getfield 41, 3) := by decide +kernel
theorem dX3_isGuardMet_44 : decode cX3_isGuardMet 44 = .ok (.iload 4, 2) := by decide +kernel
theorem dX3_isGuardMet_46 : decode cX3_isGuardMet 46 = .ok (.caload, 1) := by decide +kernel
theorem dX3_isGuardMet_47 : decode cX3_isGuardMet 47 = .ok (.aload_n 0, 1) := by decide +kernel
theorem dX3_isGuardMet_48 : decode cX3_isGuardMet 48 = .ok (.getfield 44, 3) := by decide +kernel
theorem dX3_isGuardMet_51 : decode cX3_isGuardMet 51 = .ok (.iload 4, 2) := by decide +kernel
theorem dX3_isGuardMet_53 : decode cX3_isGuardMet 53 = .ok (.iaload, 1) := by decide +kernel
theorem dX3_isGuardMet_54 : decode cX3_isGuardMet 54 = .ok (.invokestatic 58, 3) := by decide +kernel
theorem dX3_isGuardMet_57 : decode cX3_isGuardMet 57 = .ok (.ifCond .ne 5, 3) := by decide +kernel
theorem dX3_isGuardMet_60 : decode cX3_isGuardMet 60 = .ok (.iconst 0, 1) := by decide +kernel
theorem dX3_isGuardMet_61 : decode cX3_isGuardMet 61 = .ok (.ireturn, 1) := by decide +kernel
theorem dX3_isGuardMet_62 : decode cX3_isGuardMet 62 = .ok (.iinc 3 1, 3) := by decide +kernel
theorem dX3_isGuardMet_65 : decode cX3_isGuardMet 65 = .ok (.goto (-63), 3) := by decide +kernel
theorem dX3_isGuardMet_68 : decode cX3_isGuardMet 68 = .ok (.iconst 1, 1) := by decide +kernel
theorem dX3_isGuardMet_69 : decode cX3_isGuardMet 69 = .ok (.ireturn, 1) := by decide +kernel
theorem dX3_isMet_0 : decode cX3_isMet 0 = .ok (.iload_n 1, 1) := by decide +kernel
theorem dX3_isMet_1 : decode cX3_isMet 1 = .ok (.bipush 60, 2) := by decide +kernel
theorem dX3_isMet_3 : decode cX3_isMet 3 = .ok (.if_icmp .ne 14, 3) := by decide +kernel
theorem dX3_isMet_6 : decode cX3_isMet 6 = .ok (.iload_n 0, 1) := by decide +kernel
theorem dX3_isMet_7 : decode cX3_isMet 7 = .ok (.iload_n 2, 1) := by decide +kernel
theorem dX3_isMet_8 : decode cX3_isMet 8 = .ok (.if_icmp .ge 7, 3) := by decide +kernel
theorem dX3_isMet_11 : decode cX3_isMet 11 = .ok (.iconst 1, 1) := by decide +kernel
theorem dX3_isMet_12 : decode cX3_isMet 12 = .ok (.goto 4, 3) := by decide +kernel
theorem dX3_isMet_15 : decode cX3_isMet 15 = .ok (.iconst 0, 1) := by decide +kernel
theorem dX3_isMet_16 : decode cX3_isMet 16 = .ok (.ireturn, 1) := by decide +kernel
theorem dX3_isMet_17 : decode cX3_isMet 17 = .ok (.iload_n 1, 1) := by decide +kernel
theorem dX3_isMet_18 : decode cX3_isMet 18 = .ok (.bipush 62, 2) := by decide +kernel
theorem dX3_isMet_20 : decode cX3_isMet 20 = .ok (.if_icmp .ne 16, 3) := by decide +kernel
theorem dX3_isMet_23 : decode cX3_isMet 23 = .ok (.iload_n 0, 1) := by decide +kernel
theorem dX3_isMet_24 : decode cX3_isMet 24 = .ok (.iload_n 2, 1) := by decide +kernel
theorem dX3_isMet_25 : decode cX3_isMet 25 = .ok (.if_icmp .le 7, 3) := by decide +kernel
theorem dX3_isMet_28 : decode cX3_isMet 28 = .ok (.iconst 1, 1) := by decide +kernel
theorem dX3_isMet_29 : decode cX3_isMet 29 = .ok (.goto 17, 3) := by decide +kernel
theorem dX3_isMet_32 : decode cX3_isMet 32 = .ok (.iconst 0, 1) := by decide +kernel
theorem dX3_isMet_33 : decode cX3_isMet 33 = .ok (.goto 13, 3) := by decide +kernel
theorem dX3_isMet_36 : decode cX3_isMet 36 = .ok (.iload_n 0, 1) := by decide +kernel
theorem dX3_isMet_37 : decode cX3_isMet 37 = .ok (.iload_n 2, 1) := by decide +kernel
theorem dX3_isMet_38 : decode cX3_isMet 38 = .ok (.if_icmp .ne 7, 3) := by decide +kernel
theorem dX3_isMet_41 : decode cX3_isMet 41 = .ok (.iconst 1, 1) := by decide +kernel
theorem dX3_isMet_42 : decode cX3_isMet 42 = .ok (.goto 4, 3) := by decide +kernel
theorem dX3_isMet_45 : decode cX3_isMet 45 = .ok (.iconst 0, 1) := by decide +kernel
theorem dX3_isMet_46 : decode cX3_isMet 46 = .ok (.ireturn, 1) := by decide +kernel
theorem dX3_forgetRests_0 : decode cX3_forgetRests 0 = .ok (.iconst 0, 1) := by decide +kernel
theorem dX3_forgetRests_1 : decode cX3_forgetRests 1 = .ok (.istore_n 1, 1) := by decide +kernel
theorem dX3_forgetRests_2 : decode cX3_forgetRests 2 = .ok (.iload_n 1, 1) := by decide +kernel
theorem dX3_forgetRests_3 : decode cX3_forgetRests 3 = .ok (.aload_n 0, 1) := by decide +kernel
theorem dX3_forgetRests_4 : decode cX3_forgetRests 4 = .ok (.getfield 50, 3) := by decide +kernel
theorem dX3_forgetRests_7 : decode cX3_forgetRests 7 = .ok (.if_icmp .ge 16, 3) := by decide +kernel
theorem dX3_forgetRests_10 : decode cX3_forgetRests 10 = .ok (.aload_n 0, 1) := by decide +kernel
theorem dX3_forgetRests_11 : decode cX3_forgetRests 11 = .ok (.getfield 47, 3) := by decide +kernel
theorem dX3_forgetRests_14 : decode cX3_forgetRests 14 = .ok (.iload_n 1, 1) := by decide +kernel
theorem dX3_forgetRests_15 : decode cX3_forgetRests 15 = .ok (.iconst 0, 1) := by decide +kernel
theorem dX3_forgetRests_16 : decode cX3_forgetRests 16 = .ok (.iastore, 1) := by decide +kernel
theorem dX3_forgetRests_17 : decode cX3_forgetRests 17 = .ok (.iinc 1 1, 3) := by decide +kernel
theorem dX3_forgetRests_20 : decode cX3_forgetRests 20 = .ok (.goto (-18), 3) := by decide +kernel
theorem dX3_forgetRests_23 : decode cX3_forgetRests 23 = .ok (.return_, 1) := by decide +kernel
theorem dX3_sweepRests_0 : decode cX3_sweepRests 0 = .ok (.aload_n 0, 1) := by decide +kernel
theorem dX3_sweepRests_1 : decode cX3_sweepRests 1 = .ok (.getfield 50, 3) := by decide +kernel
theorem dX3_sweepRests_4 : decode cX3_sweepRests 4 = .ok (.iconst 1, 1) := by decide +kernel
theorem dX3_sweepRests_5 : decode cX3_sweepRests 5 = .ok (.isub, 1) := by decide +kernel
theorem dX3_sweepRests_6 : decode cX3_sweepRests 6 = .ok (.istore_n 1, 1) := by decide +kernel
theorem dX3_sweepRests_7 : decode cX3_sweepRests 7 = .ok (.iload_n 1, 1) := by decide +kernel
theorem dX3_sweepRests_8 : decode cX3_sweepRests 8 = .ok (.ifCond .lt 63, 3) := by decide +kernel
theorem dX3_sweepRests_11 : decode cX3_sweepRests 11 = .ok (.iconst 0, 1) := by decide +kernel
theorem dX3_sweepRests_12 : decode cX3_sweepRests 12 = .ok (.istore_n 2, 1) := by decide +kernel
theorem dX3_sweepRests_13 : decode cX3_sweepRests 13 = .ok (.iload_n 1, 1) := by decide +kernel
theorem dX3_sweepRests_14 : decode cX3_sweepRests 14 = .ok (.iconst 1, 1) := by decide +kernel
theorem dX3_sweepRests_15 : decode cX3_sweepRests 15 = .ok (.iadd, 1) := by decide +kernel
theorem dX3_sweepRests_16 : decode cX3_sweepRests 16 = .ok (.istore_n 3, 1) := by decide +kernel
theorem dX3_sweepRests_17 : decode cX3_sweepRests 17 = .ok (.iload_n 3, 1) := by decide +kernel
theorem dX3_sweepRests_18 : decode cX3_sweepRests 18 = .ok (.aload_n 0, 1) := by decide +kernel
theorem dX3_sweepRests_19 : decode cX3_sweepRests 19 = .ok (.getfield 50, 3) := by decide +kernel
theorem dX3_sweepRests_22 : decode cX3_sweepRests 22 = .ok (.if_icmp .ge 29, 3) := by decide +kernel
theorem dX3_sweepRests_25 : decode cX3_sweepRests 25 = .ok (.aload_n 0, 1) := by decide +kernel
theorem dX3_sweepRests_26 : decode cX3_sweepRests 26 = .ok (.iload_n 3, 1) := by decide +kernel
theorem dX3_sweepRests_27 : decode cX3_sweepRests 27 = .ok (.iload_n 1, 1) := by decide +kernel
theorem dX3_sweepRests_28 : decode cX3_sweepRests 28 = .ok (.invokevirtual 62, 3) := by decide +kernel
theorem dX3_sweepRests_31 : decode cX3_sweepRests 31 = .ok (.ifCond .eq 14, 3) := by decide +kernel
theorem dX3_sweepRests_34 : decode cX3_sweepRests 34 = .ok (.iload_n 2, 1) := by decide +kernel
theorem dX3_sweepRests_35 : decode cX3_sweepRests 35 = .ok (.aload_n 0, 1) := by decide +kernel
theorem dX3_sweepRests_36 : decode cX3_sweepRests 36 = .ok (.getfield 47, 3) := by decide +kernel
theorem dX3_sweepRests_39 : decode cX3_sweepRests 39 = .ok (.iload_n 3, 1) := by decide +kernel
theorem dX3_sweepRests_40 : decode cX3_sweepRests 40 = .ok (.iaload, 1) := by decide +kernel
theorem dX3_sweepRests_41 : decode cX3_sweepRests 41 = .ok (.invokestatic 66, 3) := by decide +kernel
theorem dX3_sweepRests_44 : decode cX3_sweepRests 44 = .ok (.istore_n 2, 1) := by decide +kernel
theorem dX3_sweepRests_45 : decode cX3_sweepRests 45 = .ok (.iinc 3 1, 3) := by decide +kernel
theorem dX3_sweepRests_48 : decode cX3_sweepRests 48 = .ok (.goto (-31), 3) := by decide +kernel
theorem dX3_sweepRests_51 : decode cX3_sweepRests 51 = .ok (.aload_n 0, 1) := by decide +kernel
theorem dX3_sweepRests_52 : decode cX3_sweepRests 52 = .ok (.getfield 47, 3) := by decide +kernel
theorem dX3_sweepRests_55 : decode cX3_sweepRests 55 = .ok (.iload_n 1, 1) := by decide +kernel
theorem dX3_sweepRests_56 : decode cX3_sweepRests 56 = .ok (.aload_n 0, 1) := by decide +kernel
theorem dX3_sweepRests_57 : decode cX3_sweepRests 57 = .ok (.getfield 15, 3) := by decide +kernel
theorem dX3_sweepRests_60 : decode cX3_sweepRests 60 = .ok (.iload_n 1, 1) := by decide +kernel
theorem dX3_sweepRests_61 : decode cX3_sweepRests 61 = .ok (.iaload, 1) := by decide +kernel
theorem dX3_sweepRests_62 : decode cX3_sweepRests 62 = .ok (.iload_n 2, 1) := by decide +kernel
theorem dX3_sweepRests_63 : decode cX3_sweepRests 63 = .ok (.iadd, 1) := by decide +kernel
theorem dX3_sweepRests_64 : decode cX3_sweepRests 64 = .ok (.iastore, 1) := by decide +kernel
theorem dX3_sweepRests_65 : decode cX3_sweepRests 65 = .ok (.iinc 1 (-1), 3) := by decide +kernel
theorem dX3_sweepRests_68 : decode cX3_sweepRests 68 = .ok (.goto (-61), 3) := by decide +kernel
theorem dX3_sweepRests_71 : decode cX3_sweepRests 71 = .ok (.return_, 1) := by decide +kernel
theorem dX3_labelOf_0 : decode cX3_labelOf 0 = .ok (.new 72, 3) := by decide +kernel
theorem dX3_labelOf_3 : decode cX3_labelOf 3 = .ok (.dup, 1) := by decide +kernel
theorem dX3_labelOf_4 : decode cX3_labelOf 4 = .ok (.invokespecial 74, 3) := by decide +kernel
theorem dX3_labelOf_7 : decode cX3_labelOf 7 = .ok (.astore_n 2, 1) := by decide +kernel
theorem dX3_labelOf_8 : decode cX3_labelOf 8 = .ok (.aload_n 2, 1) := by decide +kernel
theorem dX3_labelOf_9 : decode cX3_labelOf 9 = .ok (.iload_n 1, 1) := by decide +kernel
theorem dX3_labelOf_10 : decode cX3_labelOf 10 = .ok (.invokevirtual 75, 3) := by decide +kernel
theorem dX3_labelOf_13 : decode cX3_labelOf 13 = .ok (.pop, 1) := by decide +kernel
theorem dX3_labelOf_14 : decode cX3_labelOf 14 = .ok (.aload_n 2, 1) := by decide +kernel
theorem dX3_labelOf_15 : decode cX3_labelOf 15 = .ok (.bipush 65, 2) := by decide +kernel
theorem dX3_labelOf_17 : decode cX3_labelOf 17 = .ok (.aload_n 0, 1) := by decide +kernel
theorem dX3_labelOf_18 : decode cX3_labelOf 18 = .ok (.getfield 9, 3) := by decide +kernel
theorem dX3_labelOf_21 : decode cX3_labelOf 21 = .ok (.iload_n 1, 1) := by decide +kernel
theorem dX3_labelOf_22 : decode cX3_labelOf 22 = .ok (.iaload, 1) := by decide +kernel
theorem dX3_labelOf_23 : decode cX3_labelOf 23 = .ok (.iadd, 1) := by decide +kernel
theorem dX3_labelOf_24 : decode cX3_labelOf 24 = .ok (.i2c, 1) := by decide +kernel
theorem dX3_labelOf_25 : decode cX3_labelOf 25 = .ok (.invokevirtual 79, 3) := by decide +kernel
theorem dX3_labelOf_28 : decode cX3_labelOf 28 = .ok (.pop, 1) := by decide +kernel
theorem dX3_labelOf_29 : decode cX3_labelOf 29 = .ok (.aload_n 2, 1) := by decide +kernel
theorem dX3_labelOf_30 : decode cX3_labelOf 30 = .ok (.aload_n 0, 1) := by decide +kernel
theorem dX3_labelOf_31 : decode cX3_labelOf 31 = .ok (.getfield 15, 3) := by decide +kernel
theorem dX3_labelOf_34 : decode cX3_labelOf 34 = .ok (.iload_n 1, 1) := by decide +kernel
theorem dX3_labelOf_35 : decode cX3_labelOf 35 = .ok (.iaload, 1) := by decide +kernel
theorem dX3_labelOf_36 : decode cX3_labelOf 36 = .ok (.invokevirtual 75, 3) := by decide +kernel
theorem dX3_labelOf_39 : decode cX3_labelOf 39 = .ok (.pop, 1) := by decide +kernel
theorem dX3_labelOf_40 : decode cX3_labelOf 40 = .ok (.aload_n 2, 1) := by decide +kernel
theorem dX3_labelOf_41 : decode cX3_labelOf 41 = .ok (.aload_n 0, 1) := by decide +kernel
theorem dX3_labelOf_42 : decode cX3_labelOf 42 = .ok (.getfield 21, 3) := by decide +kernel
theorem dX3_labelOf_45 : decode cX3_labelOf 45 = .ok (.iload_n 1, 1) := by decide +kernel
theorem dX3_labelOf_46 : decode cX3_labelOf 46 = .ok (.caload, 1) := by decide +kernel
theorem dX3_labelOf_47 : decode cX3_labelOf 47 = .ok (.invokevirtual 79, 3) := by decide +kernel
theorem dX3_labelOf_50 : decode cX3_labelOf 50 = .ok (.pop, 1) := by decide +kernel
theorem dX3_labelOf_51 : decode cX3_labelOf 51 = .ok (.aload_n 2, 1) := by decide +kernel
theorem dX3_labelOf_52 : decode cX3_labelOf 52 = .ok (.areturn, 1) := by decide +kernel
theorem dX4_init_0 : decode cX4_init 0 = .ok (.aload_n 0, 1) := by decide +kernel
theorem dX4_init_1 : decode cX4_init 1 = .ok (.invokespecial 3, 3) := by decide +kernel
theorem dX4_init_4 : decode cX4_init 4 = .ok (.aload_n 0, 1) := by decide +kernel
theorem dX4_init_5 : decode cX4_init 5 = .ok (.bipush 16, 2) := by decide +kernel
theorem dX4_init_7 : decode cX4_init 7 = .ok (.newarray .char, 2) := by decide +kernel
theorem dX4_init_9 : decode cX4_init 9 = .ok (.putfield 9, 3) := by decide +kernel
theorem dX4_init_12 : decode cX4_init 12 = .ok (.aload_n 0, 1) := by decide +kernel
theorem dX4_init_13 : decode cX4_init 13 = .ok (.bipush 16, 2) := by decide +kernel
theorem dX4_init_15 : decode cX4_init 15 = .ok (.newarray .boolean, 2) := by decide +kernel
theorem dX4_init_17 : decode cX4_init 17 = .ok (.putfield 15, 3) := by decide +kernel
theorem dX4_init_20 : decode cX4_init 20 = .ok (.aload_n 0, 1) := by decide +kernel
theorem dX4_init_21 : decode cX4_init 21 = .ok (.bipush 16, 2) := by decide +kernel
theorem dX4_init_23 : decode cX4_init 23 = .ok (.newarray .boolean, 2) := by decide +kernel
theorem dX4_init_25 : decode cX4_init 25 = .ok (.putfield 19, 3) := by decide +kernel
theorem dX4_init_28 : decode cX4_init 28 = .ok (.aload_n 0, 1) := by decide +kernel
theorem dX4_init_29 : decode cX4_init 29 = .ok (.bipush 16, 2) := by decide +kernel
theorem dX4_init_31 : decode cX4_init 31 = .ok (.newarray .int, 2) := by decide +kernel
theorem dX4_init_33 : decode cX4_init 33 = .ok (.putfield 22, 3) := by decide +kernel
theorem dX4_init_36 : decode cX4_init 36 = .ok (.aload_n 0, 1) := by decide +kernel
theorem dX4_init_37 : decode cX4_init 37 = .ok (.bipush 16, 2) := by decide +kernel
theorem dX4_init_39 : decode cX4_init 39 = .ok (.newarray .int, 2) := by decide +kernel
theorem dX4_init_41 : decode cX4_init 41 = .ok (.putfield 26, 3) := by decide +kernel
theorem dX4_init_44 : decode cX4_init 44 = .ok (.aload_n 0, 1) := by decide +kernel
theorem dX4_init_45 : decode cX4_init 45 = .ok (.bipush 96, 2) := by decide +kernel
theorem dX4_init_47 : decode cX4_init 47 = .ok (.newarray .int, 2) := by decide +kernel
theorem dX4_init_49 : decode cX4_init 49 = .ok (.putfield 29, 3) := by decide +kernel
theorem dX4_init_52 : decode cX4_init 52 = .ok (.aload_n 0, 1) := by decide +kernel
theorem dX4_init_53 : decode cX4_init 53 = .ok (.bipush 16, 2) := by decide +kernel
theorem dX4_init_55 : decode cX4_init 55 = .ok (.newarray .int, 2) := by decide +kernel
theorem dX4_init_57 : decode cX4_init 57 = .ok (.putfield 32, 3) := by decide +kernel
theorem dX4_init_60 : decode cX4_init 60 = .ok (.return_, 1) := by decide +kernel
theorem dX4_has_0 : decode cX4_has 0 = .ok (.iload_n 1, 1) := by decide +kernel
theorem dX4_has_1 : decode cX4_has 1 = .ok (.ifCond .lt 15, 3) := by decide +kernel
theorem dX4_has_4 : decode cX4_has 4 = .ok (.iload_n 1, 1) := by decide +kernel
theorem dX4_has_5 : decode cX4_has 5 = .ok (.aload_n 0, 1) := by decide +kernel
theorem dX4_has_6 : decode cX4_has 6 = .ok (.getfield 35, 3) := by decide +kernel
theorem dX4_has_9 : decode cX4_has 9 = .ok (.if_icmp .ge 7, 3) := by decide +kernel
theorem dX4_has_12 : decode cX4_has 12 = .ok (.iconst 1, 1) := by decide +kernel
theorem dX4_has_13 : decode cX4_has 13 = .ok (.goto 4, 3) := by decide +kernel
theorem dX4_has_16 : decode cX4_has 16 = .ok (.iconst 0, 1) := by decide +kernel
theorem dX4_has_17 : decode cX4_has 17 = .ok (.ireturn, 1) := by decide +kernel
theorem dX4_reset_0 : decode cX4_reset 0 = .ok (.aload_n 0, 1) := by decide +kernel
theorem dX4_reset_1 : decode cX4_reset 1 = .ok (.aload_n 1, 1) := by decide +kernel
theorem dX4_reset_2 : decode cX4_reset 2 = .ok (.getfield 39, 3) := by decide +kernel
theorem dX4_reset_5 : decode cX4_reset 5 = .ok (.putfield 35, 3) := by decide +kernel
theorem dX4_reset_8 : decode cX4_reset 8 = .ok (.aload_n 0, 1) := by decide +kernel
theorem dX4_reset_9 : decode cX4_reset 9 = .ok (.iconst 0, 1) := by decide +kernel
theorem dX4_reset_10 : decode cX4_reset 10 = .ok (.putfield 42, 3) := by decide +kernel
theorem dX4_reset_13 : decode cX4_reset 13 = .ok (.iconst 0, 1) := by decide +kernel
theorem dX4_reset_14 : decode cX4_reset 14 = .ok (.istore_n 2, 1) := by decide +kernel
theorem dX4_reset_15 : decode cX4_reset 15 = .ok (.iload_n 2, 1) := by decide +kernel
theorem dX4_reset_16 : decode cX4_reset 16 = .ok (.aload_n 0, 1) := by decide +kernel
theorem dX4_reset_17 : decode cX4_reset 17 = .ok (.getfield 35, 3) := by decide +kernel
theorem dX4_reset_20 : decode cX4_reset 20 = .ok (.if_icmp .ge 65, 3) := by decide +kernel
theorem dX4_reset_23 : decode cX4_reset 23 = .ok (.aload_n 0, 1) := by decide +kernel
theorem dX4_reset_24 : decode cX4_reset 24 = .ok (.getfield 15, 3) := by decide +kernel
theorem dX4_reset_27 : decode cX4_reset 27 = .ok (.iload_n 2, 1) := by decide +kernel
theorem dX4_reset_28 : decode cX4_reset 28 = .ok (.aload_n 1, 1) := by decide +kernel
theorem dX4_reset_29 : decode cX4_reset 29 = .ok (.iload_n 2, 1) := by decide +kernel
theorem dX4_reset_30 : decode cX4_reset 30 = .ok (.invokevirtual 45, 3) := by decide +kernel
theorem dX4_reset_33 : decode cX4_reset 33 = .ok (.iconst (-1), 1) := by decide +kernel
theorem dX4_reset_34 : decode cX4_reset 34 = .ok (.if_icmp .eq 7, 3) := by decide +kernel
theorem dX4_reset_37 : decode cX4_reset 37 = .ok (.iconst 1, 1) := by decide +kernel
theorem dX4_reset_38 : decode cX4_reset 38 = .ok (.goto 4, 3) := by decide +kernel
theorem dX4_reset_41 : decode cX4_reset 41 = .ok (.iconst 0, 1) := by decide +kernel
theorem dX4_reset_42 : decode cX4_reset 42 = .ok (.bastore, 1) := by decide +kernel
theorem dX4_reset_43 : decode cX4_reset 43 = .ok (.aload_n 0, 1) := by decide +kernel
theorem dX4_reset_44 : decode cX4_reset 44 = .ok (.getfield 19, 3) := by decide +kernel
theorem dX4_reset_47 : decode cX4_reset 47 = .ok (.iload_n 2, 1) := by decide +kernel
theorem dX4_reset_48 : decode cX4_reset 48 = .ok (.iconst 0, 1) := by decide +kernel
theorem dX4_reset_49 : decode cX4_reset 49 = .ok (.bastore, 1) := by decide +kernel
theorem dX4_reset_50 : decode cX4_reset 50 = .ok (.aload_n 0, 1) := by decide +kernel
theorem dX4_reset_51 : decode cX4_reset 51 = .ok (.getfield 9, 3) := by decide +kernel
theorem dX4_reset_54 : decode cX4_reset 54 = .ok (.iload_n 2, 1) := by decide +kernel
theorem dX4_reset_55 : decode cX4_reset 55 = .ok (.aload_n 0, 1) := by decide +kernel
theorem dX4_reset_56 : decode cX4_reset 56 = .ok (.getfield 15, 3) := by decide +kernel
theorem dX4_reset_59 : decode cX4_reset 59 = .ok (.iload_n 2, 1) := by decide +kernel
theorem dX4_reset_60 : decode cX4_reset 60 = .ok (.baload, 1) := by decide +kernel
theorem dX4_reset_61 : decode cX4_reset 61 = .ok (.ifCond .eq 8, 3) := by decide +kernel
theorem dX4_reset_64 : decode cX4_reset 64 = .ok (.bipush 111, 2) := by decide +kernel
theorem dX4_reset_66 : decode cX4_reset 66 = .ok (.goto 5, 3) := by decide +kernel
theorem dX4_reset_69 : decode cX4_reset 69 = .ok (.bipush 119, 2) := by decide +kernel
theorem dX4_reset_71 : decode cX4_reset 71 = .ok (.castore, 1) := by decide +kernel
theorem dX4_reset_72 : decode cX4_reset 72 = .ok (.aload_n 0, 1) := by decide +kernel
theorem dX4_reset_73 : decode cX4_reset 73 = .ok (.getfield 22, 3) := by decide +kernel
theorem dX4_reset_76 : decode cX4_reset 76 = .ok (.iload_n 2, 1) := by decide +kernel
theorem dX4_reset_77 : decode cX4_reset 77 = .ok (.iconst 0, 1) := by decide +kernel
theorem dX4_reset_78 : decode cX4_reset 78 = .ok (.iastore, 1) := by decide +kernel
theorem dX4_reset_79 : decode cX4_reset 79 = .ok (.iinc 2 1, 3) := by decide +kernel
theorem dX4_reset_82 : decode cX4_reset 82 = .ok (.goto (-67), 3) := by decide +kernel
theorem dX4_reset_85 : decode cX4_reset 85 = .ok (.return_, 1) := by decide +kernel
theorem dX4_activate_0 : decode cX4_activate 0 = .ok (.aload_n 0, 1) := by decide +kernel
theorem dX4_activate_1 : decode cX4_activate 1 = .ok (.getfield 9, 3) := by decide +kernel
theorem dX4_activate_4 : decode cX4_activate 4 = .ok (.iload_n 1, 1) := by decide +kernel
theorem dX4_activate_5 : decode cX4_activate 5 = .ok (.bipush 97, 2) := by decide +kernel
theorem dX4_activate_7 : decode cX4_activate 7 = .ok (.castore, 1) := by decide +kernel
theorem dX4_activate_8 : decode cX4_activate 8 = .ok (.aload_n 0, 1) := by decide +kernel
theorem dX4_activate_9 : decode cX4_activate 9 = .ok (.getfield 26, 3) := by decide +kernel
theorem dX4_activate_12 : decode cX4_activate 12 = .ok (.iload_n 1, 1) := by decide +kernel
theorem dX4_activate_13 : decode cX4_activate 13 = .ok (.iconst 0, 1) := by decide +kernel
theorem dX4_activate_14 : decode cX4_activate 14 = .ok (.iastore, 1) := by decide +kernel
theorem dX4_activate_15 : decode cX4_activate 15 = .ok (.aload_n 0, 1) := by decide +kernel
theorem dX4_activate_16 : decode cX4_activate 16 = .ok (.getfield 19, 3) := by decide +kernel
theorem dX4_activate_19 : decode cX4_activate 19 = .ok (.iload_n 1, 1) := by decide +kernel
theorem dX4_activate_20 : decode cX4_activate 20 = .ok (.iconst 1, 1) := by decide +kernel
theorem dX4_activate_21 : decode cX4_activate 21 = .ok (.bastore, 1) := by decide +kernel
theorem dX4_activate_22 : decode cX4_activate 22 = .ok (.iconst 0, 1) := by decide +kernel
theorem dX4_activate_23 : decode cX4_activate 23 = .ok (.istore_n 3, 1) := by decide +kernel
theorem dX4_activate_24 : decode cX4_activate 24 = .ok (.iload_n 3, 1) := by decide +kernel
theorem dX4_activate_25 : decode cX4_activate 25 = .ok (.bipush 6, 2) := by decide +kernel
theorem dX4_activate_27 : decode cX4_activate 27 = .ok (.if_icmp .ge 23, 3) := by decide +kernel
theorem dX4_activate_30 : decode cX4_activate 30 = .ok (.aload_n 0, 1) := by decide +kernel
theorem dX4_activate_31 : decode cX4_activate 31 = .ok (.getfield 29, 3) := by decide +kernel
theorem dX4_activate_34 : decode cX4_activate 34 = .ok (.iload_n 1, 1) := by decide +kernel
theorem dX4_activate_35 : decode cX4_activate 35 = .ok (.bipush 6, 2) := by decide +kernel
theorem dX4_activate_37 : decode cX4_activate 37 = .ok (.imul, 1) := by decide +kernel
theorem dX4_activate_38 : decode cX4_activate 38 = .ok (.iload_n 3, 1) := by decide +kernel
theorem dX4_activate_39 : decode cX4_activate 39 = .ok (.iadd, 1) := by decide +kernel
theorem dX4_activate_40 : decode cX4_activate 40 = .ok (.aload_n 2, 1) := by decide +kernel
theorem dX4_activate_41 : decode cX4_activate 41 = .ok (.iload_n 3, 1) := by decide +kernel
theorem dX4_activate_42 : decode cX4_activate 42 = .ok (.iaload, 1) := by decide +kernel
theorem dX4_activate_43 : decode cX4_activate 43 = .ok (.iastore, 1) := by decide +kernel
theorem dX4_activate_44 : decode cX4_activate 44 = .ok (.iinc 3 1, 3) := by decide +kernel
theorem dX4_activate_47 : decode cX4_activate 47 = .ok (.goto (-23), 3) := by decide +kernel
theorem dX4_activate_50 : decode cX4_activate 50 = .ok (.return_, 1) := by decide +kernel
theorem dX4_seenReading_0 : decode cX4_seenReading 0 = .ok (.aload_n 0, 1) := by decide +kernel
theorem dX4_seenReading_1 : decode cX4_seenReading 1 = .ok (.getfield 29, 3) := by decide +kernel
theorem dX4_seenReading_4 : decode cX4_seenReading 4 = .ok (.iload_n 1, 1) := by decide +kernel
theorem dX4_seenReading_5 : decode cX4_seenReading 5 = .ok (.bipush 6, 2) := by decide +kernel
theorem dX4_seenReading_7 : decode cX4_seenReading 7 = .ok (.imul, 1) := by decide +kernel
theorem dX4_seenReading_8 : decode cX4_seenReading 8 = .ok (.iload_n 2, 1) := by decide +kernel
theorem dX4_seenReading_9 : decode cX4_seenReading 9 = .ok (.iadd, 1) := by decide +kernel
theorem dX4_seenReading_10 : decode cX4_seenReading 10 = .ok (.iaload, 1) := by decide +kernel
theorem dX4_seenReading_11 : decode cX4_seenReading 11 = .ok (.ireturn, 1) := by decide +kernel
theorem dX4_workMinute_0 : decode cX4_workMinute 0 = .ok (.iconst 0, 1) := by decide +kernel
theorem dX4_workMinute_1 : decode cX4_workMinute 1 = .ok (.istore_n 2, 1) := by decide +kernel
theorem dX4_workMinute_2 : decode cX4_workMinute 2 = .ok (.iconst 0, 1) := by decide +kernel
theorem dX4_workMinute_3 : decode cX4_workMinute 3 = .ok (.istore_n 3, 1) := by decide +kernel
theorem dX4_workMinute_4 : decode cX4_workMinute 4 = .ok (.iload_n 3, 1) := by decide +kernel
theorem dX4_workMinute_5 : decode cX4_workMinute 5 = .ok (.aload_n 0, 1) := by decide +kernel
theorem dX4_workMinute_6 : decode cX4_workMinute 6 = .ok (.getfield 35, 3) := by decide +kernel
theorem dX4_workMinute_9 : decode cX4_workMinute 9 = .ok (.if_icmp .ge 38, 3) := by decide +kernel
theorem dX4_workMinute_12 : decode cX4_workMinute 12 = .ok (.aload_n 0, 1) := by decide +kernel
theorem dX4_workMinute_13 : decode cX4_workMinute 13 = .ok (.getfield 9, 3) := by decide +kernel
theorem dX4_workMinute_16 : decode cX4_workMinute 16 = .ok (.iload_n 3, 1) := by decide +kernel
theorem dX4_workMinute_17 : decode cX4_workMinute 17 = .ok (.caload, 1) := by decide +kernel
theorem dX4_workMinute_18 : decode cX4_workMinute 18 = .ok (.bipush 97, 2) := by decide +kernel
theorem dX4_workMinute_20 : decode cX4_workMinute 20 = .ok (.if_icmp .ne 21, 3) := by decide +kernel
theorem dX4_workMinute_23 : decode cX4_workMinute 23 = .ok (.iload_n 3, 1) := by decide +kernel
theorem dX4_workMinute_24 : decode cX4_workMinute 24 = .ok (.iload_n 1, 1) := by decide +kernel
theorem dX4_workMinute_25 : decode cX4_workMinute 25 = .ok (.if_icmp .eq 16, 3) := by decide +kernel
theorem dX4_workMinute_28 : decode cX4_workMinute 28 = .ok (.aload_n 0, 1) := by decide +kernel
theorem dX4_workMinute_29 : decode cX4_workMinute 29 = .ok (.getfield 26, 3) := by decide +kernel
theorem dX4_workMinute_32 : decode cX4_workMinute 32 = .ok (.iload_n 3, 1) := by decide +kernel
theorem dX4_workMinute_33 : decode cX4_workMinute 33 = .ok (.dup2, 1) := by decide +kernel
theorem dX4_workMinute_34 : decode cX4_workMinute 34 = .ok (.iaload, 1) := by decide +kernel
theorem dX4_workMinute_35 : decode cX4_workMinute 35 = .ok (.iconst 1, 1) := by decide +kernel
theorem dX4_workMinute_36 : decode cX4_workMinute 36 = .ok (.iadd, 1) := by decide +kernel
theorem dX4_workMinute_37 : decode cX4_workMinute 37 = .ok (.iastore, 1) := by decide +kernel
theorem dX4_workMinute_38 : decode cX4_workMinute 38 = .ok (.iinc 2 1, 3) := by decide +kernel
theorem dX4_workMinute_41 : decode cX4_workMinute 41 = .ok (.iinc 3 1, 3) := by decide +kernel
theorem dX4_workMinute_44 : decode cX4_workMinute 44 = .ok (.goto (-40), 3) := by decide +kernel
theorem dX4_workMinute_47 : decode cX4_workMinute 47 = .ok (.iload_n 2, 1) := by decide +kernel
theorem dX4_workMinute_48 : decode cX4_workMinute 48 = .ok (.ireturn, 1) := by decide +kernel
theorem dX4_complete_0 : decode cX4_complete 0 = .ok (.aload_n 0, 1) := by decide +kernel
theorem dX4_complete_1 : decode cX4_complete 1 = .ok (.getfield 9, 3) := by decide +kernel
theorem dX4_complete_4 : decode cX4_complete 4 = .ok (.iload_n 1, 1) := by decide +kernel
theorem dX4_complete_5 : decode cX4_complete 5 = .ok (.bipush 100, 2) := by decide +kernel
theorem dX4_complete_7 : decode cX4_complete 7 = .ok (.castore, 1) := by decide +kernel
theorem dX4_complete_8 : decode cX4_complete 8 = .ok (.aload_n 0, 1) := by decide +kernel
theorem dX4_complete_9 : decode cX4_complete 9 = .ok (.getfield 42, 3) := by decide +kernel
theorem dX4_complete_12 : decode cX4_complete 12 = .ok (.bipush 16, 2) := by decide +kernel
theorem dX4_complete_14 : decode cX4_complete 14 = .ok (.if_icmp .ge 23, 3) := by decide +kernel
theorem dX4_complete_17 : decode cX4_complete 17 = .ok (.aload_n 0, 1) := by decide +kernel
theorem dX4_complete_18 : decode cX4_complete 18 = .ok (.getfield 32, 3) := by decide +kernel
theorem dX4_complete_21 : decode cX4_complete 21 = .ok (.aload_n 0, 1) := by decide +kernel
theorem dX4_complete_22 : decode cX4_complete 22 = .ok (.getfield 42, 3) := by decide +kernel
theorem dX4_complete_25 : decode cX4_complete 25 = .ok (.iload_n 1, 1) := by decide +kernel
theorem dX4_complete_26 : decode cX4_complete 26 = .ok (.iastore, 1) := by decide +kernel
theorem dX4_complete_27 : decode cX4_complete 27 = .ok (.aload_n 0, 1) := by decide +kernel
theorem dX4_complete_28 : decode cX4_complete 28 = .ok (.dup, 1) := by decide +kernel
theorem dX4_complete_29 : decode cX4_complete 29 = .ok (.getfield 42, 3) := by decide +kernel
theorem dX4_complete_32 : decode cX4_complete 32 = .ok (.iconst 1, 1) := by decide +kernel
theorem dX4_complete_33 : decode cX4_complete 33 = .ok (.iadd, 1) := by decide +kernel
theorem dX4_complete_34 : decode cX4_complete 34 = .ok (.putfield 42, 3) := by decide +kernel
theorem dX4_complete_37 : decode cX4_complete 37 = .ok (.return_, 1) := by decide +kernel
theorem dX4_placeInDone_0 : decode cX4_placeInDone 0 = .ok (.iconst 0, 1) := by decide +kernel
theorem dX4_placeInDone_1 : decode cX4_placeInDone 1 = .ok (.istore_n 2, 1) := by decide +kernel
theorem dX4_placeInDone_2 : decode cX4_placeInDone 2 = .ok (.iload_n 2, 1) := by decide +kernel
theorem dX4_placeInDone_3 : decode cX4_placeInDone 3 = .ok (.aload_n 0, 1) := by decide +kernel
theorem dX4_placeInDone_4 : decode cX4_placeInDone 4 = .ok (.getfield 42, 3) := by decide +kernel
theorem dX4_placeInDone_7 : decode cX4_placeInDone 7 = .ok (.if_icmp .ge 21, 3) := by decide +kernel
theorem dX4_placeInDone_10 : decode cX4_placeInDone 10 = .ok (.aload_n 0, 1) := by decide +kernel
theorem dX4_placeInDone_11 : decode cX4_placeInDone 11 = .ok (.getfield 32, 3) := by decide +kernel
theorem dX4_placeInDone_14 : decode cX4_placeInDone 14 = .ok (.iload_n 2, 1) := by decide +kernel
theorem dX4_placeInDone_15 : decode cX4_placeInDone 15 = .ok (.iaload, 1) := by decide +kernel
theorem dX4_placeInDone_16 : decode cX4_placeInDone 16 = .ok (.iload_n 1, 1) := by decide +kernel
theorem dX4_placeInDone_17 : decode cX4_placeInDone 17 = .ok (.if_icmp .ne 5, 3) := by decide +kernel
theorem dX4_placeInDone_20 : decode cX4_placeInDone 20 = .ok (.iload_n 2, 1) := by decide +kernel
theorem dX4_placeInDone_21 : decode cX4_placeInDone 21 = .ok (.ireturn, 1) := by decide +kernel
theorem dX4_placeInDone_22 : decode cX4_placeInDone 22 = .ok (.iinc 2 1, 3) := by decide +kernel
theorem dX4_placeInDone_25 : decode cX4_placeInDone 25 = .ok (.goto (-23), 3) := by decide +kernel
theorem dX4_placeInDone_28 : decode cX4_placeInDone 28 = .ok (.aload_n 0, 1) := by decide +kernel
theorem dX4_placeInDone_29 : decode cX4_placeInDone 29 = .ok (.getfield 42, 3) := by decide +kernel
theorem dX4_placeInDone_32 : decode cX4_placeInDone 32 = .ok (.ireturn, 1) := by decide +kernel
theorem dX4_latestDone_0 : decode cX4_latestDone 0 = .ok (.aload_n 0, 1) := by decide +kernel
theorem dX4_latestDone_1 : decode cX4_latestDone 1 = .ok (.getfield 42, 3) := by decide +kernel
theorem dX4_latestDone_4 : decode cX4_latestDone 4 = .ok (.ifCond .le 17, 3) := by decide +kernel
theorem dX4_latestDone_7 : decode cX4_latestDone 7 = .ok (.aload_n 0, 1) := by decide +kernel
theorem dX4_latestDone_8 : decode cX4_latestDone 8 = .ok (.getfield 32, 3) := by decide +kernel
theorem dX4_latestDone_11 : decode cX4_latestDone 11 = .ok (.aload_n 0, 1) := by decide +kernel
theorem dX4_latestDone_12 : decode cX4_latestDone 12 = .ok (.getfield 42, 3) := by decide +kernel
theorem dX4_latestDone_15 : decode cX4_latestDone 15 = .ok (.iconst 1, 1) := by decide +kernel
theorem dX4_latestDone_16 : decode cX4_latestDone 16 = .ok (.isub, 1) := by decide +kernel
theorem dX4_latestDone_17 : decode cX4_latestDone 17 = .ok (.iaload, 1) := by decide +kernel
theorem dX4_latestDone_18 : decode cX4_latestDone 18 = .ok (.goto 4, 3) := by decide +kernel
theorem dX4_latestDone_21 : decode cX4_latestDone 21 = .ok (.iconst (-1), 1) := by decide +kernel
theorem dX4_latestDone_22 : decode cX4_latestDone 22 = .ok (.ireturn, 1) := by decide +kernel
theorem dX4_undoLatest_0 : decode cX4_undoLatest 0 = .ok (.aload_n 0, 1) := by decide +kernel
theorem dX4_undoLatest_1 : decode cX4_undoLatest 1 = .ok (.invokevirtual 49, 3) := by decide +kernel
theorem dX4_undoLatest_4 : decode cX4_undoLatest 4 = .ok (.istore_n 1, 1) := by decide +kernel
theorem dX4_undoLatest_5 : decode cX4_undoLatest 5 = .ok (.aload_n 0, 1) := by decide +kernel
theorem dX4_undoLatest_6 : decode cX4_undoLatest 6 = .ok (.iload_n 1, 1) := by decide +kernel
theorem dX4_undoLatest_7 : decode cX4_undoLatest 7 = .ok (.invokevirtual 53, 3) := by decide +kernel
theorem dX4_undoLatest_10 : decode cX4_undoLatest 10 = .ok (.ifCond .eq 28, 3) := by decide +kernel
theorem dX4_undoLatest_13 : decode cX4_undoLatest 13 = .ok (.aload_n 0, 1) := by decide +kernel
theorem dX4_undoLatest_14 : decode cX4_undoLatest 14 = .ok (.dup, 1) := by decide +kernel
theorem dX4_undoLatest_15 : decode cX4_undoLatest 15 = .ok (.getfield 42, 3) := by decide +kernel
theorem dX4_undoLatest_18 : decode cX4_undoLatest 18 = .ok (.iconst 1, 1) := by decide +kernel
theorem dX4_undoLatest_19 : decode cX4_undoLatest 19 = .ok (.isub, 1) := by decide +kernel
theorem dX4_undoLatest_20 : decode cX4_undoLatest 20 = .ok (.putfield 42, 3) := by decide +kernel
theorem dX4_undoLatest_23 : decode cX4_undoLatest 23 = .ok (.aload_n 0, 1) := by decide +kernel
theorem dX4_undoLatest_24 : decode cX4_undoLatest 24 = .ok (.getfield 9, 3) := by decide +kernel
theorem dX4_undoLatest_27 : decode cX4_undoLatest 27 = .ok (.iload_n 1, 1) := by decide +kernel
theorem dX4_undoLatest_28 : decode cX4_undoLatest 28 = .ok (.bipush 119, 2) := by decide +kernel
theorem dX4_undoLatest_30 : decode cX4_undoLatest 30 = .ok (.castore, 1) := by decide +kernel
theorem dX4_undoLatest_31 : decode cX4_undoLatest 31 = .ok (.aload_n 0, 1) := by decide +kernel
theorem dX4_undoLatest_32 : decode cX4_undoLatest 32 = .ok (.getfield 22, 3) := by decide +kernel
theorem dX4_undoLatest_35 : decode cX4_undoLatest 35 = .ok (.iload_n 1, 1) := by decide +kernel
theorem dX4_undoLatest_36 : decode cX4_undoLatest 36 = .ok (.iconst 0, 1) := by decide +kernel
theorem dX4_undoLatest_37 : decode cX4_undoLatest 37 = .ok (.iastore, 1) := by decide +kernel
theorem dX4_undoLatest_38 : decode cX4_undoLatest 38 = .ok (.iload_n 1, 1) := by decide +kernel
theorem dX4_undoLatest_39 : decode cX4_undoLatest 39 = .ok (.ireturn, 1) := by decide +kernel
theorem dX4_isAnyActive_0 : decode cX4_isAnyActive 0 = .ok (.iconst 0, 1) := by decide +kernel
theorem dX4_isAnyActive_1 : decode cX4_isAnyActive 1 = .ok (.istore_n 1, 1) := by decide +kernel
theorem dX4_isAnyActive_2 : decode cX4_isAnyActive 2 = .ok (.iload_n 1, 1) := by decide +kernel
theorem dX4_isAnyActive_3 : decode cX4_isAnyActive 3 = .ok (.aload_n 0, 1) := by decide +kernel
theorem dX4_isAnyActive_4 : decode cX4_isAnyActive 4 = .ok (.getfield 35, 3) := by decide +kernel
theorem dX4_isAnyActive_7 : decode cX4_isAnyActive 7 = .ok (.if_icmp .ge 22, 3) := by decide +kernel
theorem dX4_isAnyActive_10 : decode cX4_isAnyActive 10 = .ok (.aload_n 0, 1) := by decide +kernel
theorem dX4_isAnyActive_11 : decode cX4_isAnyActive 11 = .ok (.getfield 9, 3) := by decide +kernel
theorem dX4_isAnyActive_14 : decode cX4_isAnyActive 14 = .ok (.iload_n 1, 1) := by decide +kernel
theorem dX4_isAnyActive_15 : decode cX4_isAnyActive 15 = .ok (.caload, 1) := by decide +kernel
theorem dX4_isAnyActive_16 : decode cX4_isAnyActive 16 = .ok (.bipush 97, 2) := by decide +kernel
theorem dX4_isAnyActive_18 : decode cX4_isAnyActive 18 = .ok (.if_icmp .ne 5, 3) := by decide +kernel
theorem dX4_isAnyActive_21 : decode cX4_isAnyActive 21 = .ok (.iconst 1, 1) := by decide +kernel
theorem dX4_isAnyActive_22 : decode cX4_isAnyActive 22 = .ok (.ireturn, 1) := by decide +kernel
theorem dX4_isAnyActive_23 : decode cX4_isAnyActive 23 = .ok (.iinc 1 1, 3) := by decide +kernel
theorem dX4_isAnyActive_26 : decode cX4_isAnyActive 26 = .ok (.goto (-24), 3) := by decide +kernel
theorem dX4_isAnyActive_29 : decode cX4_isAnyActive 29 = .ok (.iconst 0, 1) := by decide +kernel
theorem dX4_isAnyActive_30 : decode cX4_isAnyActive 30 = .ok (.ireturn, 1) := by decide +kernel
theorem dX4_sumOfTries_0 : decode cX4_sumOfTries 0 = .ok (.iconst 0, 1) := by decide +kernel
theorem dX4_sumOfTries_1 : decode cX4_sumOfTries 1 = .ok (.istore_n 1, 1) := by decide +kernel
theorem dX4_sumOfTries_2 : decode cX4_sumOfTries 2 = .ok (.iconst 0, 1) := by decide +kernel
theorem dX4_sumOfTries_3 : decode cX4_sumOfTries 3 = .ok (.istore_n 2, 1) := by decide +kernel
theorem dX4_sumOfTries_4 : decode cX4_sumOfTries 4 = .ok (.iload_n 2, 1) := by decide +kernel
theorem dX4_sumOfTries_5 : decode cX4_sumOfTries 5 = .ok (.aload_n 0, 1) := by decide +kernel
theorem dX4_sumOfTries_6 : decode cX4_sumOfTries 6 = .ok (.getfield 35, 3) := by decide +kernel
theorem dX4_sumOfTries_9 : decode cX4_sumOfTries 9 = .ok (.if_icmp .ge 18, 3) := by decide +kernel
theorem dX4_sumOfTries_12 : decode cX4_sumOfTries 12 = .ok (.iload_n 1, 1) := by decide +kernel
theorem dX4_sumOfTries_13 : decode cX4_sumOfTries 13 = .ok (.aload_n 0, 1) := by decide +kernel
theorem dX4_sumOfTries_14 : decode cX4_sumOfTries 14 = .ok (.getfield 22, 3) := by decide +kernel
theorem dX4_sumOfTries_17 : decode cX4_sumOfTries 17 = .ok (.iload_n 2, 1) := by decide +kernel
theorem dX4_sumOfTries_18 : decode cX4_sumOfTries 18 = .ok (.iaload, 1) := by decide +kernel
theorem dX4_sumOfTries_19 : decode cX4_sumOfTries 19 = .ok (.iadd, 1) := by decide +kernel
theorem dX4_sumOfTries_20 : decode cX4_sumOfTries 20 = .ok (.istore_n 1, 1) := by decide +kernel
theorem dX4_sumOfTries_21 : decode cX4_sumOfTries 21 = .ok (.iinc 2 1, 3) := by decide +kernel
theorem dX4_sumOfTries_24 : decode cX4_sumOfTries 24 = .ok (.goto (-20), 3) := by decide +kernel
theorem dX4_sumOfTries_27 : decode cX4_sumOfTries 27 = .ok (.iload_n 1, 1) := by decide +kernel
theorem dX4_sumOfTries_28 : decode cX4_sumOfTries 28 = .ok (.ireturn, 1) := by decide +kernel
theorem dX4_divisor_0 : decode cX4_divisor 0 = .ok (.iconst 1, 1) := by decide +kernel
theorem dX4_divisor_1 : decode cX4_divisor 1 = .ok (.aload_n 0, 1) := by decide +kernel
theorem dX4_divisor_2 : decode cX4_divisor 2 = .ok (.getfield 35, 3) := by decide +kernel
theorem dX4_divisor_5 : decode cX4_divisor 5 = .ok (.invokestatic 57, 3) := by decide +kernel
theorem dX4_divisor_8 : decode cX4_divisor 8 = .ok (.ireturn, 1) := by decide +kernel
theorem dX5_init_0 : decode cX5_init 0 = .ok (.aload_n 0, 1) := by decide +kernel
theorem dX5_init_1 : decode cX5_init 1 = .ok (.invokespecial 1, 3) := by decide +kernel
theorem dX5_init_4 : decode cX5_init 4 = .ok (.aload_n 0, 1) := by decide +kernel
theorem dX5_init_5 : decode cX5_init 5 = .ok (.new 7, 3) := by decide +kernel
theorem dX5_init_8 : decode cX5_init 8 = .ok (.dup, 1) := by decide +kernel
theorem dX5_init_9 : decode cX5_init 9 = .ok (.invokespecial 9, 3) := by decide +kernel
theorem dX5_init_12 : decode cX5_init 12 = .ok (.putfield 10, 3) := by decide +kernel
theorem dX5_init_15 : decode cX5_init 15 = .ok (.aload_n 0, 1) := by decide +kernel
theorem dX5_init_16 : decode cX5_init 16 = .ok (.new 16, 3) := by decide +kernel
theorem dX5_init_19 : decode cX5_init 19 = .ok (.dup, 1) := by decide +kernel
theorem dX5_init_20 : decode cX5_init 20 = .ok (.invokespecial 18, 3) := by decide +kernel
theorem dX5_init_23 : decode cX5_init 23 = .ok (.putfield 19, 3) := by decide +kernel
theorem dX5_init_26 : decode cX5_init 26 = .ok (.aload_n 0, 1) := by decide +kernel
theorem dX5_init_27 : decode cX5_init 27 = .ok (.new 23, 3) := by decide +kernel
theorem dX5_init_30 : decode cX5_init 30 = .ok (.dup, 1) := by decide +kernel
theorem dX5_init_31 : decode cX5_init 31 = .ok (.invokespecial 25, 3) := by decide +kernel
theorem dX5_init_34 : decode cX5_init 34 = .ok (.putfield 26, 3) := by decide +kernel
theorem dX5_init_37 : decode cX5_init 37 = .ok (.aload_n 0, 1) := by decide +kernel
theorem dX5_init_38 : decode cX5_init 38 = .ok (.new 30, 3) := by decide +kernel
theorem dX5_init_41 : decode cX5_init 41 = .ok (.dup, 1) := by decide +kernel
theorem dX5_init_42 : decode cX5_init 42 = .ok (.invokespecial 32, 3) := by decide +kernel
theorem dX5_init_45 : decode cX5_init 45 = .ok (.putfield 33, 3) := by decide +kernel
theorem dX5_init_48 : decode cX5_init 48 = .ok (.aload_n 0, 1) := by decide +kernel
theorem dX5_init_49 : decode cX5_init 49 = .ok (.new 37, 3) := by decide +kernel
theorem dX5_init_52 : decode cX5_init 52 = .ok (.dup, 1) := by decide +kernel
theorem dX5_init_53 : decode cX5_init 53 = .ok (.invokespecial 39, 3) := by decide +kernel
theorem dX5_init_56 : decode cX5_init 56 = .ok (.putfield 40, 3) := by decide +kernel
theorem dX5_init_59 : decode cX5_init 59 = .ok (.aload_n 0, 1) := by decide +kernel
theorem dX5_init_60 : decode cX5_init 60 = .ok (.bipush 6, 2) := by decide +kernel
theorem dX5_init_62 : decode cX5_init 62 = .ok (.newarray .int, 2) := by decide +kernel
theorem dX5_init_64 : decode cX5_init 64 = .ok (.putfield 44, 3) := by decide +kernel
theorem dX5_init_67 : decode cX5_init 67 = .ok (.return_, 1) := by decide +kernel
theorem dX5_addPerson_0 : decode cX5_addPerson 0 = .ok (.iload_n 1, 1) := by decide +kernel
theorem dX5_addPerson_1 : decode cX5_addPerson 1 = .ok (.iconst 1, 1) := by decide +kernel
theorem dX5_addPerson_2 : decode cX5_addPerson 2 = .ok (.if_icmp .lt 9, 3) := by decide +kernel
theorem dX5_addPerson_5 : decode cX5_addPerson 5 = .ok (.iload_n 1, 1) := by decide +kernel
theorem dX5_addPerson_6 : decode cX5_addPerson 6 = .ok (.bipush 15, 2) := by decide +kernel
theorem dX5_addPerson_8 : decode cX5_addPerson 8 = .ok (.if_icmp .le 13, 3) := by decide +kernel
theorem dX5_addPerson_11 : decode cX5_addPerson 11 = .ok (.new 48, 3) := by decide +kernel
theorem dX5_addPerson_14 : decode cX5_addPerson 14 = .ok (.dup, 1) := by decide +kernel
theorem dX5_addPerson_15 : decode cX5_addPerson 15 = .ok (.ldc 50, 2) := by decide +kernel
theorem dX5_addPerson_17 : decode cX5_addPerson 17 = .ok (.invokespecial 52, 3) := by decide +kernel
theorem dX5_addPerson_20 : decode cX5_addPerson 20 = .ok (.athrow, 1) := by decide +kernel
theorem dX5_addPerson_21 : decode cX5_addPerson 21 = .ok (.aload_n 0, 1) := by decide +kernel
theorem dX5_addPerson_22 : decode cX5_addPerson 22 = .ok (.getfield 10, 3) := by decide +kernel
theorem dX5_addPerson_25 : decode cX5_addPerson 25 = .ok (.getfield 55, 3) := by decide +kernel
theorem dX5_addPerson_28 : decode cX5_addPerson 28 = .ok (.bipush 8, 2) := by decide +kernel
theorem dX5_addPerson_30 : decode cX5_addPerson 30 = .ok (.if_icmp .lt 13, 3) := by decide +kernel
theorem dX5_addPerson_33 : decode cX5_addPerson 33 = .ok (.new 59, 3) := by decide +kernel
theorem dX5_addPerson_36 : decode cX5_addPerson 36 = .ok (.dup, 1) := by decide +kernel
theorem dX5_addPerson_37 : decode cX5_addPerson 37 = .ok (.ldc 61, 2) := by decide +kernel
theorem dX5_addPerson_39 : decode cX5_addPerson 39 = .ok (.invokespecial 63, 3) := by decide +kernel
theorem dX5_addPerson_42 : decode cX5_addPerson 42 = .ok (.athrow, 1) := by decide +kernel
theorem dX5_addPerson_43 : decode cX5_addPerson 43 = .ok (.aload_n 0, 1) := by decide +kernel
theorem dX5_addPerson_44 : decode cX5_addPerson 44 = .ok (.getfield 10, 3) := by decide +kernel
theorem dX5_addPerson_47 : decode cX5_addPerson 47 = .ok (.iload_n 1, 1) := by decide +kernel
theorem dX5_addPerson_48 : decode cX5_addPerson 48 = .ok (.invokevirtual 64, 3) := by decide +kernel
theorem dX5_addPerson_51 : decode cX5_addPerson 51 = .ok (.ireturn, 1) := by decide +kernel
theorem dX5_setDuty_0 : decode cX5_setDuty 0 = .ok (.aload_n 0, 1) := by decide +kernel
theorem dX5_setDuty_1 : decode cX5_setDuty 1 = .ok (.iload_n 1, 1) := by decide +kernel
theorem dX5_setDuty_2 : decode cX5_setDuty 2 = .ok (.invokevirtual 68, 3) := by decide +kernel
theorem dX5_setDuty_5 : decode cX5_setDuty 5 = .ok (.aload_n 0, 1) := by decide +kernel
theorem dX5_setDuty_6 : decode cX5_setDuty 6 = .ok (.getfield 10, 3) := by decide +kernel
theorem dX5_setDuty_9 : decode cX5_setDuty 9 = .ok (.iload_n 1, 1) := by decide +kernel
theorem dX5_setDuty_10 : decode cX5_setDuty 10 = .ok (.invokevirtual 72, 3) := by decide +kernel
theorem dX5_setDuty_13 : decode cX5_setDuty 13 = .ok (.ifCond .ne 14, 3) := by decide +kernel
theorem dX5_setDuty_16 : decode cX5_setDuty 16 = .ok (.aload_n 0, 1) := by decide +kernel
theorem dX5_setDuty_17 : decode cX5_setDuty 17 = .ok (.getfield 33, 3) := by decide +kernel
theorem dX5_setDuty_20 : decode cX5_setDuty 20 = .ok (.iload_n 1, 1) := by decide +kernel
theorem dX5_setDuty_21 : decode cX5_setDuty 21 = .ok (.invokevirtual 76, 3) := by decide +kernel
theorem dX5_setDuty_24 : decode cX5_setDuty 24 = .ok (.ifCond .eq 13, 3) := by decide +kernel
theorem dX5_setDuty_27 : decode cX5_setDuty 27 = .ok (.new 59, 3) := by decide +kernel
theorem dX5_setDuty_30 : decode cX5_setDuty 30 = .ok (.dup, 1) := by decide +kernel
theorem dX5_setDuty_31 : decode cX5_setDuty 31 = .ok (.ldc 79, 2) := by decide +kernel
theorem dX5_setDuty_33 : decode cX5_setDuty 33 = .ok (.invokespecial 63, 3) := by decide +kernel
theorem dX5_setDuty_36 : decode cX5_setDuty 36 = .ok (.athrow, 1) := by decide +kernel
theorem dX5_setDuty_37 : decode cX5_setDuty 37 = .ok (.aload_n 0, 1) := by decide +kernel
theorem dX5_setDuty_38 : decode cX5_setDuty 38 = .ok (.getfield 10, 3) := by decide +kernel
theorem dX5_setDuty_41 : decode cX5_setDuty 41 = .ok (.getfield 81, 3) := by decide +kernel
theorem dX5_setDuty_44 : decode cX5_setDuty 44 = .ok (.iload_n 1, 1) := by decide +kernel
theorem dX5_setDuty_45 : decode cX5_setDuty 45 = .ok (.baload, 1) := by decide +kernel
theorem dX5_setDuty_46 : decode cX5_setDuty 46 = .ok (.istore_n 3, 1) := by decide +kernel
theorem dX5_setDuty_47 : decode cX5_setDuty 47 = .ok (.aload_n 0, 1) := by decide +kernel
theorem dX5_setDuty_48 : decode cX5_setDuty 48 = .ok (.getfield 10, 3) := by decide +kernel
theorem dX5_setDuty_51 : decode cX5_setDuty 51 = .ok (.getfield 81, 3) := by decide +kernel
theorem dX5_setDuty_54 : decode cX5_setDuty 54 = .ok (.iload_n 1, 1) := by decide +kernel
theorem dX5_setDuty_55 : decode cX5_setDuty 55 = .ok (.iload_n 2, 1) := by decide +kernel
theorem dX5_setDuty_56 : decode cX5_setDuty 56 = .ok (.bastore, 1) := by decide +kernel
theorem dX5_setDuty_57 : decode cX5_setDuty 57 = .ok (.iload_n 3, 1) := by decide +kernel
theorem dX5_setDuty_58 : decode cX5_setDuty 58 = .ok (.ireturn, 1) := by decide +kernel
theorem dX5_addStep_0 : decode cX5_addStep 0 = .ok (.iload_n 1, 1) := by decide +kernel
theorem dX5_addStep_1 : decode cX5_addStep 1 = .ok (.invokestatic 85, 3) := by decide +kernel
theorem dX5_addStep_4 : decode cX5_addStep 4 = .ok (.ifCond .eq 14, 3) := by decide +kernel
theorem dX5_addStep_7 : decode cX5_addStep 7 = .ok (.iload_n 2, 1) := by decide +kernel
theorem dX5_addStep_8 : decode cX5_addStep 8 = .ok (.iconst 1, 1) := by decide +kernel
theorem dX5_addStep_9 : decode cX5_addStep 9 = .ok (.if_icmp .lt 9, 3) := by decide +kernel
theorem dX5_addStep_12 : decode cX5_addStep 12 = .ok (.iload_n 2, 1) := by decide +kernel
theorem dX5_addStep_13 : decode cX5_addStep 13 = .ok (.bipush 60, 2) := by decide +kernel
theorem dX5_addStep_15 : decode cX5_addStep 15 = .ok (.if_icmp .le 13, 3) := by decide +kernel
theorem dX5_addStep_18 : decode cX5_addStep 18 = .ok (.new 48, 3) := by decide +kernel
theorem dX5_addStep_21 : decode cX5_addStep 21 = .ok (.dup, 1) := by decide +kernel
theorem dX5_addStep_22 : decode cX5_addStep 22 = .ok (.ldc 88, 2) := by decide +kernel
theorem dX5_addStep_24 : decode cX5_addStep 24 = .ok (.invokespecial 52, 3) := by decide +kernel
theorem dX5_addStep_27 : decode cX5_addStep 27 = .ok (.athrow, 1) := by decide +kernel
theorem dX5_addStep_28 : decode cX5_addStep 28 = .ok (.iload_n 3, 1) := by decide +kernel
theorem dX5_addStep_29 : decode cX5_addStep 29 = .ok (.iconst 1, 1) := by decide +kernel
theorem dX5_addStep_30 : decode cX5_addStep 30 = .ok (.if_icmp .lt 22, 3) := by decide +kernel
theorem dX5_addStep_33 : decode cX5_addStep 33 = .ok (.iload_n 3, 1) := by decide +kernel
theorem dX5_addStep_34 : decode cX5_addStep 34 = .ok (.iconst 3, 1) := by decide +kernel
theorem dX5_addStep_35 : decode cX5_addStep 35 = .ok (.if_icmp .gt 17, 3) := by decide +kernel
theorem dX5_addStep_38 : decode cX5_addStep 38 = .ok (.iload 4, 2) := by decide +kernel
theorem dX5_addStep_40 : decode cX5_addStep 40 = .ok (.bipush 97, 2) := by decide +kernel
theorem dX5_addStep_42 : decode cX5_addStep 42 = .ok (.if_icmp .eq 20, 3) := by decide +kernel
theorem dX5_addStep_45 : decode cX5_addStep 45 = .ok (.iload 4, 2) := by decide +kernel
theorem dX5_addStep_47 : decode cX5_addStep 47 = .ok (.bipush 111, 2) := by decide +kernel
theorem dX5_addStep_49 : decode cX5_addStep 49 = .ok (.if_icmp .eq 13, 3) := by decide +kernel
theorem dX5_addStep_52 : decode cX5_addStep 52 = .ok (.new 48, 3) := by decide +kernel
theorem dX5_addStep_55 : decode cX5_addStep 55 = .ok (.dup, 1) := by decide +kernel
theorem dX5_addStep_56 : decode cX5_addStep 56 = .ok (.ldc 90, 2) := by decide +kernel
theorem dX5_addStep_58 : decode cX5_addStep 58 = .ok (.invokespecial 52, 3) := by decide +kernel
theorem dX5_addStep_61 : decode cX5_addStep 61 = .ok (.athrow, 1) := by decide +kernel
theorem dX5_addStep_62 : decode cX5_addStep 62 = .ok (.aload_n 0, 1) := by decide +kernel
theorem dX5_addStep_63 : decode cX5_addStep 63 = .ok (.invokevirtual 92, 3) := by decide +kernel
theorem dX5_addStep_66 : decode cX5_addStep 66 = .ok (.aload_n 0, 1) := by decide +kernel
theorem dX5_addStep_67 : decode cX5_addStep 67 = .ok (.getfield 19, 3) := by decide +kernel
theorem dX5_addStep_70 : decode cX5_addStep 70 = .ok (.getfield 95, 3) := by decide +kernel
theorem dX5_addStep_73 : decode cX5_addStep 73 = .ok (.bipush 16, 2) := by decide +kernel
theorem dX5_addStep_75 : decode cX5_addStep 75 = .ok (.if_icmp .lt 13, 3) := by decide +kernel
theorem dX5_addStep_78 : decode cX5_addStep 78 = .ok (.new 59, 3) := by decide +kernel
theorem dX5_addStep_81 : decode cX5_addStep 81 = .ok (.dup, 1) := by decide +kernel
theorem dX5_addStep_82 : decode cX5_addStep 82 = .ok (.ldc 96, 2) := by decide +kernel
theorem dX5_addStep_84 : decode cX5_addStep 84 = .ok (.invokespecial 63, 3) := by decide +kernel
theorem dX5_addStep_87 : decode cX5_addStep 87 = .ok (.athrow, 1) := by decide +kernel
theorem dX5_addStep_88 : decode cX5_addStep 88 = .ok (.aload_n 0, 1) := by decide +kernel
theorem dX5_addStep_89 : decode cX5_addStep 89 = .ok (.getfield 19, 3) := by decide +kernel
theorem dX5_addStep_92 : decode cX5_addStep 92 = .ok (.iload_n 1, 1) := by decide +kernel
theorem dX5_addStep_93 : decode cX5_addStep 93 = .ok (.iload_n 2, 1) := by decide +kernel
theorem dX5_addStep_94 : decode cX5_addStep 94 = .ok (.iload_n 3, 1) := by decide +kernel
theorem dX5_addStep_95 : decode cX5_addStep 95 = .ok (.iload 4, 2) := by decide +kernel
theorem dX5_addStep_97 : decode cX5_addStep 97 = .ok (.iload 5, 2) := by decide +kernel
theorem dX5_addStep_99 : decode cX5_addStep 99 = .ok (.invokevirtual 98, 3) := by decide +kernel
theorem dX5_addStep_102 : decode cX5_addStep 102 = .ok (.ireturn, 1) := by decide +kernel
theorem dX5_need_0 : decode cX5_need 0 = .ok (.aload_n 0, 1) := by decide +kernel
theorem dX5_need_1 : decode cX5_need 1 = .ok (.iload_n 1, 1) := by decide +kernel
theorem dX5_need_2 : decode cX5_need 2 = .ok (.invokevirtual 102, 3) := by decide +kernel
theorem dX5_need_5 : decode cX5_need 5 = .ok (.aload_n 0, 1) := by decide +kernel
theorem dX5_need_6 : decode cX5_need 6 = .ok (.iload_n 2, 1) := by decide +kernel
theorem dX5_need_7 : decode cX5_need 7 = .ok (.invokevirtual 102, 3) := by decide +kernel
theorem dX5_need_10 : decode cX5_need 10 = .ok (.iload_n 2, 1) := by decide +kernel
theorem dX5_need_11 : decode cX5_need 11 = .ok (.iload_n 1, 1) := by decide +kernel
theorem dX5_need_12 : decode cX5_need 12 = .ok (.if_icmp .lt 13, 3) := by decide +kernel
theorem dX5_need_15 : decode cX5_need 15 = .ok (.new 48, 3) := by decide +kernel
theorem dX5_need_18 : decode cX5_need 18 = .ok (.dup, 1) := by decide +kernel
theorem dX5_need_19 : decode cX5_need 19 = .ok (.ldc 105, 2) := by decide +kernel
theorem dX5_need_21 : decode cX5_need 21 = .ok (.invokespecial 52, 3) := by decide +kernel
theorem dX5_need_24 : decode cX5_need 24 = .ok (.athrow, 1) := by decide +kernel
theorem dX5_need_25 : decode cX5_need 25 = .ok (.aload_n 0, 1) := by decide +kernel
theorem dX5_need_26 : decode cX5_need 26 = .ok (.invokevirtual 92, 3) := by decide +kernel
theorem dX5_need_29 : decode cX5_need 29 = .ok (.aload_n 0, 1) := by decide +kernel
theorem dX5_need_30 : decode cX5_need 30 = .ok (.getfield 19, 3) := by decide +kernel
theorem dX5_need_33 : decode cX5_need 33 = .ok (.iload_n 1, 1) := by decide +kernel
theorem dX5_need_34 : decode cX5_need 34 = .ok (.iload_n 2, 1) := by decide +kernel
theorem dX5_need_35 : decode cX5_need 35 = .ok (.invokevirtual 107, 3) := by decide +kernel
theorem dX5_need_38 : decode cX5_need 38 = .ok (.ifCond .eq 13, 3) := by decide +kernel
theorem dX5_need_41 : decode cX5_need 41 = .ok (.new 59, 3) := by decide +kernel
theorem dX5_need_44 : decode cX5_need 44 = .ok (.dup, 1) := by decide +kernel
theorem dX5_need_45 : decode cX5_need 45 = .ok (.ldc 111, 2) := by decide +kernel
theorem dX5_need_47 : decode cX5_need 47 = .ok (.invokespecial 63, 3) := by decide +kernel
theorem dX5_need_50 : decode cX5_need 50 = .ok (.athrow, 1) := by decide +kernel
theorem dX5_need_51 : decode cX5_need 51 = .ok (.aload_n 0, 1) := by decide +kernel
theorem dX5_need_52 : decode cX5_need 52 = .ok (.getfield 19, 3) := by decide +kernel
theorem dX5_need_55 : decode cX5_need 55 = .ok (.getfield 113, 3) := by decide +kernel
theorem dX5_need_58 : decode cX5_need 58 = .ok (.iload_n 1, 1) := by decide +kernel
theorem dX5_need_59 : decode cX5_need 59 = .ok (.dup2, 1) := by decide +kernel
theorem dX5_need_60 : decode cX5_need 60 = .ok (.iaload, 1) := by decide +kernel
theorem dX5_need_61 : decode cX5_need 61 = .ok (.iconst 1, 1) := by decide +kernel
theorem dX5_need_62 : decode cX5_need 62 = .ok (.iload_n 2, 1) := by decide +kernel
theorem dX5_need_63 : decode cX5_need 63 = .ok (.ishl, 1) := by decide +kernel
theorem dX5_need_64 : decode cX5_need 64 = .ok (.ior, 1) := by decide +kernel
theorem dX5_need_65 : decode cX5_need 65 = .ok (.iastore, 1) := by decide +kernel
theorem dX5_need_66 : decode cX5_need 66 = .ok (.aload_n 0, 1) := by decide +kernel
theorem dX5_need_67 : decode cX5_need 67 = .ok (.getfield 19, 3) := by decide +kernel
theorem dX5_need_70 : decode cX5_need 70 = .ok (.getfield 113, 3) := by decide +kernel
theorem dX5_need_73 : decode cX5_need 73 = .ok (.iload_n 1, 1) := by decide +kernel
theorem dX5_need_74 : decode cX5_need 74 = .ok (.iaload, 1) := by decide +kernel
theorem dX5_need_75 : decode cX5_need 75 = .ok (.invokestatic 116, 3) := by decide +kernel
theorem dX5_need_78 : decode cX5_need 78 = .ok (.ireturn, 1) := by decide +kernel
theorem dX5_condition_0 : decode cX5_condition 0 = .ok (.aload_n 0, 1) := by decide +kernel
theorem dX5_condition_1 : decode cX5_condition 1 = .ok (.iload_n 1, 1) := by decide +kernel
theorem dX5_condition_2 : decode cX5_condition 2 = .ok (.invokevirtual 102, 3) := by decide +kernel
theorem dX5_condition_5 : decode cX5_condition 5 = .ok (.iload_n 2, 1) := by decide +kernel
theorem dX5_condition_6 : decode cX5_condition 6 = .ok (.invokestatic 121, 3) := by decide +kernel
theorem dX5_condition_9 : decode cX5_condition 9 = .ok (.ifCond .eq 29, 3) := by decide +kernel
theorem dX5_condition_12 : decode cX5_condition 12 = .ok (.iload 4, 2) := by decide +kernel
theorem dX5_condition_14 : decode cX5_condition 14 = .ok (.invokestatic 124, 3) := by decide +kernel
theorem dX5_condition_17 : decode cX5_condition 17 = .ok (.ifCond .eq 21, 3) := by decide +kernel
theorem dX5_condition_20 : decode cX5_condition 20 = .ok (.iload_n 3, 1) := by decide +kernel
theorem dX5_condition_21 : decode cX5_condition 21 = .ok (.bipush 60, 2) := by decide +kernel
theorem dX5_condition_23 : decode cX5_condition 23 = .ok (.if_icmp .eq 25, 3) := by decide +kernel
theorem dX5_condition_26 : decode cX5_condition 26 = .ok (.iload_n 3, 1) := by decide +kernel
theorem dX5_condition_27 : decode cX5_condition 27 = .ok (.bipush 62, 2) := by decide +kernel
theorem dX5_condition_29 : decode cX5_condition 29 = .ok (.if_icmp .eq 19, 3) := by decide +kernel
theorem dX5_condition_32 : decode cX5_condition 32 = .ok (.iload_n 3, 1) := by decide +kernel
theorem dX5_condition_33 : decode cX5_condition 33 = .ok (.bipush 61, 2) := by decide +kernel
theorem dX5_condition_35 : decode cX5_condition 35 = .ok (.if_icmp .eq 13, 3) := by decide +kernel
theorem dX5_condition_38 : decode cX5_condition 38 = .ok (.new 48, 3) := by decide +kernel
theorem dX5_condition_41 : decode cX5_condition 41 = .ok (.dup, 1) := by decide +kernel
theorem dX5_condition_42 : decode cX5_condition 42 = .ok (.ldc 127, 2) := by decide +kernel
theorem dX5_condition_44 : decode cX5_condition 44 = .ok (.invokespecial 52, 3) := by decide +kernel
theorem dX5_condition_47 : decode cX5_condition 47 = .ok (.athrow, 1) := by decide +kernel
theorem dX5_condition_48 : decode cX5_condition 48 = .ok (.aload_n 0, 1) := by decide +kernel
theorem dX5_condition_49 : decode cX5_condition 49 = .ok (.invokevirtual 92, 3) := by decide +kernel
theorem dX5_condition_52 : decode cX5_condition 52 = .ok (.aload_n 0, 1) := by decide +kernel
theorem dX5_condition_53 : decode cX5_condition 53 = .ok (.getfield 19, 3) := by decide +kernel
theorem dX5_condition_56 : decode cX5_condition 56 = .ok (.getfield 129, 3) := by decide +kernel
theorem dX5_condition_59 : decode cX5_condition 59 = .ok (.iload_n 1, 1) := by decide +kernel
theorem dX5_condition_60 : decode cX5_condition 60 = .ok (.iaload, 1) := by decide +kernel
theorem dX5_condition_61 : decode cX5_condition 61 = .ok (.iconst 2, 1) := by decide +kernel
theorem dX5_condition_62 : decode cX5_condition 62 = .ok (.if_icmp .lt 13, 3) := by decide +kernel
theorem dX5_condition_65 : decode cX5_condition 65 = .ok (.new 59, 3) := by decide +kernel
theorem dX5_condition_68 : decode cX5_condition 68 = .ok (.dup, 1) := by decide +kernel
theorem dX5_condition_69 : decode cX5_condition 69 = .ok (.ldc 132, 2) := by decide +kernel
theorem dX5_condition_71 : decode cX5_condition 71 = .ok (.invokespecial 63, 3) := by decide +kernel
theorem dX5_condition_74 : decode cX5_condition 74 = .ok (.athrow, 1) := by decide +kernel
theorem dX5_condition_75 : decode cX5_condition 75 = .ok (.aload_n 0, 1) := by decide +kernel
theorem dX5_condition_76 : decode cX5_condition 76 = .ok (.getfield 19, 3) := by decide +kernel
theorem dX5_condition_79 : decode cX5_condition 79 = .ok (.iload_n 1, 1) := by decide +kernel
theorem dX5_condition_80 : decode cX5_condition 80 = .ok (.iload_n 2, 1) := by decide +kernel
theorem dX5_condition_81 : decode cX5_condition 81 = .ok (.iload_n 3, 1) := by decide +kernel
theorem dX5_condition_82 : decode cX5_condition 82 = .ok (.iload 4, 2) := by decide +kernel
theorem dX5_condition_84 : decode cX5_condition 84 = .ok (.invokevirtual 134, 3) := by decide +kernel
theorem dX5_condition_87 : decode cX5_condition 87 = .ok (.ireturn, 1) := by decide +kernel
theorem dX5_setFallback_0 : decode cX5_setFallback 0 = .ok (.aload_n 0, 1) := by decide +kernel
theorem dX5_setFallback_1 : decode cX5_setFallback 1 = .ok (.iload_n 1, 1) := by decide +kernel
theorem dX5_setFallback_2 : decode cX5_setFallback 2 = .ok (.invokevirtual 102, 3) := by decide +kernel
theorem dX5_setFallback_5 : decode cX5_setFallback 5 = .ok (.aload_n 0, 1) := by decide +kernel
theorem dX5_setFallback_6 : decode cX5_setFallback 6 = .ok (.iload_n 2, 1) := by decide +kernel
theorem dX5_setFallback_7 : decode cX5_setFallback 7 = .ok (.invokevirtual 102, 3) := by decide +kernel
theorem dX5_setFallback_10 : decode cX5_setFallback 10 = .ok (.aload_n 0, 1) := by decide +kernel
theorem dX5_setFallback_11 : decode cX5_setFallback 11 = .ok (.getfield 19, 3) := by decide +kernel
theorem dX5_setFallback_14 : decode cX5_setFallback 14 = .ok (.iload_n 2, 1) := by decide +kernel
theorem dX5_setFallback_15 : decode cX5_setFallback 15 = .ok (.invokevirtual 138, 3) := by decide +kernel
theorem dX5_setFallback_18 : decode cX5_setFallback 18 = .ok (.istore_n 3, 1) := by decide +kernel
theorem dX5_setFallback_19 : decode cX5_setFallback 19 = .ok (.iload_n 2, 1) := by decide +kernel
theorem dX5_setFallback_20 : decode cX5_setFallback 20 = .ok (.iload_n 1, 1) := by decide +kernel
theorem dX5_setFallback_21 : decode cX5_setFallback 21 = .ok (.if_icmp .le 13, 3) := by decide +kernel
theorem dX5_setFallback_24 : decode cX5_setFallback 24 = .ok (.iload_n 3, 1) := by decide +kernel
theorem dX5_setFallback_25 : decode cX5_setFallback 25 = .ok (.iconst (-1), 1) := by decide +kernel
theorem dX5_setFallback_26 : decode cX5_setFallback 26 = .ok (.if_icmp .eq 18, 3) := by decide +kernel
theorem dX5_setFallback_29 : decode cX5_setFallback 29 = .ok (.iload_n 3, 1) := by decide +kernel
theorem dX5_setFallback_30 : decode cX5_setFallback 30 = .ok (.iload_n 1, 1) := by decide +kernel
theorem dX5_setFallback_31 : decode cX5_setFallback 31 = .ok (.if_icmp .eq 13, 3) := by decide +kernel
theorem dX5_setFallback_34 : decode cX5_setFallback 34 = .ok (.new 48, 3) := by decide +kernel
theorem dX5_setFallback_37 : decode cX5_setFallback 37 = .ok (.dup, 1) := by decide +kernel
theorem dX5_setFallback_38 : decode cX5_setFallback 38 = .ok (.ldc 141, 2) := by decide +kernel
theorem dX5_setFallback_40 : decode cX5_setFallback 40 = .ok (.invokespecial 52, 3) := by decide +kernel
theorem dX5_setFallback_43 : decode cX5_setFallback 43 = .ok (.athrow, 1) := by decide +kernel
theorem dX5_setFallback_44 : decode cX5_setFallback 44 = .ok (.aload_n 0, 1) := by decide +kernel
theorem dX5_setFallback_45 : decode cX5_setFallback 45 = .ok (.invokevirtual 92, 3) := by decide +kernel
theorem dX5_setFallback_48 : decode cX5_setFallback 48 = .ok (.aload_n 0, 1) := by decide +kernel
theorem dX5_setFallback_49 : decode cX5_setFallback 49 = .ok (.getfield 19, 3) := by decide +kernel
theorem dX5_setFallback_52 : decode cX5_setFallback 52 = .ok (.getfield 143, 3) := by decide +kernel
theorem dX5_setFallback_55 : decode cX5_setFallback 55 = .ok (.iload_n 1, 1) := by decide +kernel
theorem dX5_setFallback_56 : decode cX5_setFallback 56 = .ok (.iaload, 1) := by decide +kernel
theorem dX5_setFallback_57 : decode cX5_setFallback 57 = .ok (.istore 4, 2) := by decide +kernel
theorem dX5_setFallback_59 : decode cX5_setFallback 59 = .ok (.aload_n 0, 1) := by decide +kernel
theorem dX5_setFallback_60 : decode cX5_setFallback 60 = .ok (.getfield 19, 3) := by decide +kernel
theorem dX5_setFallback_63 : decode cX5_setFallback 63 = .ok (.getfield 143, 3) := by decide +kernel
theorem dX5_setFallback_66 : decode cX5_setFallback 66 = .ok (.iload_n 1, 1) := by decide +kernel
theorem dX5_setFallback_67 : decode cX5_setFallback 67 = .ok (.iload_n 2, 1) := by decide +kernel
theorem dX5_setFallback_68 : decode cX5_setFallback 68 = .ok (.iastore, 1) := by decide +kernel
theorem dX5_setFallback_69 : decode cX5_setFallback 69 = .ok (.iload 4, 2) := by decide +kernel
theorem dX5_setFallback_71 : decode cX5_setFallback 71 = .ok (.ireturn, 1) := by decide +kernel
theorem dX5_setReading_0 : decode cX5_setReading 0 = .ok (.iload_n 1, 1) := by decide +kernel
theorem dX5_setReading_1 : decode cX5_setReading 1 = .ok (.invokestatic 121, 3) := by decide +kernel
theorem dX5_setReading_4 : decode cX5_setReading 4 = .ok (.ifCond .eq 10, 3) := by decide +kernel
theorem dX5_setReading_7 : decode cX5_setReading 7 = .ok (.iload_n 2, 1) := by decide +kernel
theorem dX5_setReading_8 : decode cX5_setReading 8 = .ok (.invokestatic 124, 3) := by decide +kernel
theorem dX5_setReading_11 : decode cX5_setReading 11 = .ok (.ifCond .ne 13, 3) := by decide +kernel
theorem dX5_setReading_14 : decode cX5_setReading 14 = .ok (.new 48, 3) := by decide +kernel
theorem dX5_setReading_17 : decode cX5_setReading 17 = .ok (.dup, 1) := by decide +kernel
theorem dX5_setReading_18 : decode cX5_setReading 18 = .ok (.ldc 146, 2) := by decide +kernel
theorem dX5_setReading_20 : decode cX5_setReading 20 = .ok (.invokespecial 52, 3) := by decide +kernel
theorem dX5_setReading_23 : decode cX5_setReading 23 = .ok (.athrow, 1) := by decide +kernel
theorem dX5_setReading_24 : decode cX5_setReading 24 = .ok (.aload_n 0, 1) := by decide +kernel
theorem dX5_setReading_25 : decode cX5_setReading 25 = .ok (.getfield 44, 3) := by decide +kernel
theorem dX5_setReading_28 : decode cX5_setReading 28 = .ok (.iload_n 1, 1) := by decide +kernel
theorem dX5_setReading_29 : decode cX5_setReading 29 = .ok (.iaload, 1) := by decide +kernel
theorem dX5_setReading_30 : decode cX5_setReading 30 = .ok (.istore_n 3, 1) := by decide +kernel
theorem dX5_setReading_31 : decode cX5_setReading 31 = .ok (.aload_n 0, 1) := by decide +kernel
theorem dX5_setReading_32 : decode cX5_setReading 32 = .ok (.getfield 44, 3) := by decide +kernel
theorem dX5_setReading_35 : decode cX5_setReading 35 = .ok (.iload_n 1, 1) := by decide +kernel
theorem dX5_setReading_36 : decode cX5_setReading 36 = .ok (.iload_n 2, 1) := by decide +kernel
theorem dX5_setReading_37 : decode cX5_setReading 37 = .ok (.iastore, 1) := by decide +kernel
theorem dX5_setReading_38 : decode cX5_setReading 38 = .ok (.iload_n 3, 1) := by decide +kernel
theorem dX5_setReading_39 : decode cX5_setReading 39 = .ok (.ireturn, 1) := by decide +kernel
theorem dX5_start_0 : decode cX5_start 0 = .ok (.aload_n 0, 1) := by decide +kernel
theorem dX5_start_1 : decode cX5_start 1 = .ok (.invokevirtual 92, 3) := by decide +kernel
theorem dX5_start_4 : decode cX5_start 4 = .ok (.aload_n 0, 1) := by decide +kernel
theorem dX5_start_5 : decode cX5_start 5 = .ok (.getfield 19, 3) := by decide +kernel
theorem dX5_start_8 : decode cX5_start 8 = .ok (.getfield 95, 3) := by decide +kernel
theorem dX5_start_11 : decode cX5_start 11 = .ok (.ifCond .ne 13, 3) := by decide +kernel
theorem dX5_start_14 : decode cX5_start 14 = .ok (.new 59, 3) := by decide +kernel
theorem dX5_start_17 : decode cX5_start 17 = .ok (.dup, 1) := by decide +kernel
theorem dX5_start_18 : decode cX5_start 18 = .ok (.ldc 148, 2) := by decide +kernel
theorem dX5_start_20 : decode cX5_start 20 = .ok (.invokespecial 63, 3) := by decide +kernel
theorem dX5_start_23 : decode cX5_start 23 = .ok (.athrow, 1) := by decide +kernel
theorem dX5_start_24 : decode cX5_start 24 = .ok (.aload_n 0, 1) := by decide +kernel
theorem dX5_start_25 : decode cX5_start 25 = .ok (.getfield 26, 3) := by decide +kernel
theorem dX5_start_28 : decode cX5_start 28 = .ok (.aload_n 0, 1) := by decide +kernel
theorem dX5_start_29 : decode cX5_start 29 = .ok (.getfield 19, 3) := by decide +kernel
theorem dX5_start_32 : decode cX5_start 32 = .ok (.invokevirtual 150, 3) := by decide +kernel
theorem dX5_start_35 : decode cX5_start 35 = .ok (.aload_n 0, 1) := by decide +kernel
theorem dX5_start_36 : decode cX5_start 36 = .ok (.getfield 40, 3) := by decide +kernel
theorem dX5_start_39 : decode cX5_start 39 = .ok (.iconst 0, 1) := by decide +kernel
theorem dX5_start_40 : decode cX5_start 40 = .ok (.putfield 154, 3) := by decide +kernel
theorem dX5_start_43 : decode cX5_start 43 = .ok (.aload_n 0, 1) := by decide +kernel
theorem dX5_start_44 : decode cX5_start 44 = .ok (.iconst 1, 1) := by decide +kernel
theorem dX5_start_45 : decode cX5_start 45 = .ok (.putfield 155, 3) := by decide +kernel
theorem dX5_start_48 : decode cX5_start 48 = .ok (.aload_n 0, 1) := by decide +kernel
theorem dX5_start_49 : decode cX5_start 49 = .ok (.invokevirtual 159, 3) := by decide +kernel
theorem dX5_start_52 : decode cX5_start 52 = .ok (.ireturn, 1) := by decide +kernel
theorem dX5_close_0 : decode cX5_close 0 = .ok (.aload_n 0, 1) := by decide +kernel
theorem dX5_close_1 : decode cX5_close 1 = .ok (.invokevirtual 163, 3) := by decide +kernel
theorem dX5_close_4 : decode cX5_close 4 = .ok (.aload_n 0, 1) := by decide +kernel
theorem dX5_close_5 : decode cX5_close 5 = .ok (.getfield 26, 3) := by decide +kernel
theorem dX5_close_8 : decode cX5_close 8 = .ok (.invokevirtual 166, 3) := by decide +kernel
theorem dX5_close_11 : decode cX5_close 11 = .ok (.ifCond .ne 13, 3) := by decide +kernel
theorem dX5_close_14 : decode cX5_close 14 = .ok (.aload_n 0, 1) := by decide +kernel
theorem dX5_close_15 : decode cX5_close 15 = .ok (.getfield 33, 3) := by decide +kernel
theorem dX5_close_18 : decode cX5_close 18 = .ok (.invokevirtual 170, 3) := by decide +kernel
theorem dX5_close_21 : decode cX5_close 21 = .ok (.ifCond .eq 13, 3) := by decide +kernel
theorem dX5_close_24 : decode cX5_close 24 = .ok (.new 59, 3) := by decide +kernel
theorem dX5_close_27 : decode cX5_close 27 = .ok (.dup, 1) := by decide +kernel
theorem dX5_close_28 : decode cX5_close 28 = .ok (.ldc 173, 2) := by decide +kernel
theorem dX5_close_30 : decode cX5_close 30 = .ok (.invokespecial 63, 3) := by decide +kernel
theorem dX5_close_33 : decode cX5_close 33 = .ok (.athrow, 1) := by decide +kernel
theorem dX5_close_34 : decode cX5_close 34 = .ok (.aload_n 0, 1) := by decide +kernel
theorem dX5_close_35 : decode cX5_close 35 = .ok (.iconst 0, 1) := by decide +kernel
theorem dX5_close_36 : decode cX5_close 36 = .ok (.putfield 155, 3) := by decide +kernel
theorem dX5_close_39 : decode cX5_close 39 = .ok (.aload_n 0, 1) := by decide +kernel
theorem dX5_close_40 : decode cX5_close 40 = .ok (.getfield 26, 3) := by decide +kernel
theorem dX5_close_43 : decode cX5_close 43 = .ok (.getfield 175, 3) := by decide +kernel
theorem dX5_close_46 : decode cX5_close 46 = .ok (.ireturn, 1) := by decide +kernel
theorem dX5_begin_0 : decode cX5_begin 0 = .ok (.aload_n 0, 1) := by decide +kernel
theorem dX5_begin_1 : decode cX5_begin 1 = .ok (.iload_n 1, 1) := by decide +kernel
theorem dX5_begin_2 : decode cX5_begin 2 = .ok (.invokevirtual 68, 3) := by decide +kernel
theorem dX5_begin_5 : decode cX5_begin 5 = .ok (.aload_n 0, 1) := by decide +kernel
theorem dX5_begin_6 : decode cX5_begin 6 = .ok (.iload_n 2, 1) := by decide +kernel
theorem dX5_begin_7 : decode cX5_begin 7 = .ok (.invokevirtual 102, 3) := by decide +kernel
theorem dX5_begin_10 : decode cX5_begin 10 = .ok (.aload_n 0, 1) := by decide +kernel
theorem dX5_begin_11 : decode cX5_begin 11 = .ok (.invokevirtual 163, 3) := by decide +kernel
theorem dX5_begin_14 : decode cX5_begin 14 = .ok (.aload_n 0, 1) := by decide +kernel
theorem dX5_begin_15 : decode cX5_begin 15 = .ok (.getfield 19, 3) := by decide +kernel
theorem dX5_begin_18 : decode cX5_begin 18 = .ok (.getfield 178, 3) := by decide +kernel
theorem dX5_begin_21 : decode cX5_begin 21 = .ok (.iload_n 2, 1) := by decide +kernel
theorem dX5_begin_22 : decode cX5_begin 22 = .ok (.iaload, 1) := by decide +kernel
theorem dX5_begin_23 : decode cX5_begin 23 = .ok (.istore_n 3, 1) := by decide +kernel
theorem dX5_begin_24 : decode cX5_begin 24 = .ok (.aload_n 0, 1) := by decide +kernel
theorem dX5_begin_25 : decode cX5_begin 25 = .ok (.iload_n 1, 1) := by decide +kernel
theorem dX5_begin_26 : decode cX5_begin 26 = .ok (.invokevirtual 181, 3) := by decide +kernel
theorem dX5_begin_29 : decode cX5_begin 29 = .ok (.ifCond .eq 15, 3) := by decide +kernel
theorem dX5_begin_32 : decode cX5_begin 32 = .ok (.aload_n 0, 1) := by decide +kernel
theorem dX5_begin_33 : decode cX5_begin 33 = .ok (.getfield 10, 3) := by decide +kernel
theorem dX5_begin_36 : decode cX5_begin 36 = .ok (.iload_n 1, 1) := by decide +kernel
theorem dX5_begin_37 : decode cX5_begin 37 = .ok (.iload_n 3, 1) := by decide +kernel
theorem dX5_begin_38 : decode cX5_begin 38 = .ok (.invokevirtual 184, 3) := by decide +kernel
theorem dX5_begin_41 : decode cX5_begin 41 = .ok (.ifCond .ne 13, 3) := by decide +kernel
theorem dX5_begin_44 : decode cX5_begin 44 = .ok (.new 187, 3) := by decide +kernel
theorem dX5_begin_47 : decode cX5_begin 47 = .ok (.dup, 1) := by decide +kernel
theorem dX5_begin_48 : decode cX5_begin 48 = .ok (.ldc 189, 2) := by decide +kernel
theorem dX5_begin_50 : decode cX5_begin 50 = .ok (.invokespecial 191, 3) := by decide +kernel
theorem dX5_begin_53 : decode cX5_begin 53 = .ok (.athrow, 1) := by decide +kernel
theorem dX5_begin_54 : decode cX5_begin 54 = .ok (.aload_n 0, 1) := by decide +kernel
theorem dX5_begin_55 : decode cX5_begin 55 = .ok (.iload_n 2, 1) := by decide +kernel
theorem dX5_begin_56 : decode cX5_begin 56 = .ok (.invokevirtual 192, 3) := by decide +kernel
theorem dX5_begin_59 : decode cX5_begin 59 = .ok (.ifCond .eq 11, 3) := by decide +kernel
theorem dX5_begin_62 : decode cX5_begin 62 = .ok (.aload_n 0, 1) := by decide +kernel
theorem dX5_begin_63 : decode cX5_begin 63 = .ok (.iload_n 3, 1) := by decide +kernel
theorem dX5_begin_64 : decode cX5_begin 64 = .ok (.invokevirtual 195, 3) := by decide +kernel
theorem dX5_begin_67 : decode cX5_begin 67 = .ok (.ifCond .eq 13, 3) := by decide +kernel
theorem dX5_begin_70 : decode cX5_begin 70 = .ok (.new 187, 3) := by decide +kernel
theorem dX5_begin_73 : decode cX5_begin 73 = .ok (.dup, 1) := by decide +kernel
theorem dX5_begin_74 : decode cX5_begin 74 = .ok (.ldc 198, 2) := by decide +kernel
theorem dX5_begin_76 : decode cX5_begin 76 = .ok (.invokespecial 191, 3) := by decide +kernel
theorem dX5_begin_79 : decode cX5_begin 79 = .ok (.athrow, 1) := by decide +kernel
theorem dX5_begin_80 : decode cX5_begin 80 = .ok (.aload_n 0, 1) := by decide +kernel
theorem dX5_begin_81 : decode cX5_begin 81 = .ok (.getfield 10, 3) := by decide +kernel
theorem dX5_begin_84 : decode cX5_begin 84 = .ok (.getfield 200, 3) := by decide +kernel
theorem dX5_begin_87 : decode cX5_begin 87 = .ok (.iload_n 1, 1) := by decide +kernel
theorem dX5_begin_88 : decode cX5_begin 88 = .ok (.iload_n 2, 1) := by decide +kernel
theorem dX5_begin_89 : decode cX5_begin 89 = .ok (.iastore, 1) := by decide +kernel
theorem dX5_begin_90 : decode cX5_begin 90 = .ok (.aload_n 0, 1) := by decide +kernel
theorem dX5_begin_91 : decode cX5_begin 91 = .ok (.getfield 26, 3) := by decide +kernel
theorem dX5_begin_94 : decode cX5_begin 94 = .ok (.iload_n 2, 1) := by decide +kernel
theorem dX5_begin_95 : decode cX5_begin 95 = .ok (.aload_n 0, 1) := by decide +kernel
theorem dX5_begin_96 : decode cX5_begin 96 = .ok (.getfield 44, 3) := by decide +kernel
theorem dX5_begin_99 : decode cX5_begin 99 = .ok (.invokevirtual 203, 3) := by decide +kernel
theorem dX5_begin_102 : decode cX5_begin 102 = .ok (.aload_n 0, 1) := by decide +kernel
theorem dX5_begin_103 : decode cX5_begin 103 = .ok (.getfield 40, 3) := by decide +kernel
theorem dX5_begin_106 : decode cX5_begin 106 = .ok (.bipush 98, 2) := by decide +kernel
theorem dX5_begin_108 : decode cX5_begin 108 = .ok (.iload_n 2, 1) := by decide +kernel
theorem dX5_begin_109 : decode cX5_begin 109 = .ok (.iload_n 1, 1) := by decide +kernel
theorem dX5_begin_110 : decode cX5_begin 110 = .ok (.aload_n 0, 1) := by decide +kernel
theorem dX5_begin_111 : decode cX5_begin 111 = .ok (.getfield 207, 3) := by decide +kernel
theorem dX5_begin_114 : decode cX5_begin 114 = .ok (.invokevirtual 210, 3) := by decide +kernel
theorem dX5_begin_117 : decode cX5_begin 117 = .ok (.aload_n 0, 1) := by decide +kernel
theorem dX5_begin_118 : decode cX5_begin 118 = .ok (.getfield 207, 3) := by decide +kernel
theorem dX5_begin_121 : decode cX5_begin 121 = .ok (.iconst 2, 1) := by decide +kernel
theorem dX5_begin_122 : decode cX5_begin 122 = .ok (.aload_n 0, 1) := by decide +kernel
theorem dX5_begin_123 : decode cX5_begin 123 = .ok (.getfield 19, 3) := by decide +kernel
theorem dX5_begin_126 : decode cX5_begin 126 = .ok (.getfield 214, 3) := by decide +kernel
theorem dX5_begin_129 : decode cX5_begin 129 = .ok (.iload_n 2, 1) := by decide +kernel
theorem dX5_begin_130 : decode cX5_begin 130 = .ok (.iaload, 1) := by decide +kernel
theorem dX5_begin_131 : decode cX5_begin 131 = .ok (.imul, 1) := by decide +kernel
theorem dX5_begin_132 : decode cX5_begin 132 = .ok (.iadd, 1) := by decide +kernel
theorem dX5_begin_133 : decode cX5_begin 133 = .ok (.ireturn, 1) := by decide +kernel
theorem dX5_finish_0 : decode cX5_finish 0 = .ok (.aload_n 0, 1) := by decide +kernel
theorem dX5_finish_1 : decode cX5_finish 1 = .ok (.iload_n 1, 1) := by decide +kernel
theorem dX5_finish_2 : decode cX5_finish 2 = .ok (.invokevirtual 68, 3) := by decide +kernel
theorem dX5_finish_5 : decode cX5_finish 5 = .ok (.aload_n 0, 1) := by decide +kernel
theorem dX5_finish_6 : decode cX5_finish 6 = .ok (.getfield 10, 3) := by decide +kernel
theorem dX5_finish_9 : decode cX5_finish 9 = .ok (.getfield 200, 3) := by decide +kernel
theorem dX5_finish_12 : decode cX5_finish 12 = .ok (.iload_n 1, 1) := by decide +kernel
theorem dX5_finish_13 : decode cX5_finish 13 = .ok (.iaload, 1) := by decide +kernel
theorem dX5_finish_14 : decode cX5_finish 14 = .ok (.istore_n 3, 1) := by decide +kernel
theorem dX5_finish_15 : decode cX5_finish 15 = .ok (.aload_n 0, 1) := by decide +kernel
theorem dX5_finish_16 : decode cX5_finish 16 = .ok (.getfield 19, 3) := by decide +kernel
theorem dX5_finish_19 : decode cX5_finish 19 = .ok (.iload_n 3, 1) := by decide +kernel
theorem dX5_finish_20 : decode cX5_finish 20 = .ok (.invokevirtual 217, 3) := by decide +kernel
theorem dX5_finish_23 : decode cX5_finish 23 = .ok (.ifCond .ne 13, 3) := by decide +kernel
theorem dX5_finish_26 : decode cX5_finish 26 = .ok (.new 59, 3) := by decide +kernel
theorem dX5_finish_29 : decode cX5_finish 29 = .ok (.dup, 1) := by decide +kernel
theorem dX5_finish_30 : decode cX5_finish 30 = .ok (.ldc 220, 2) := by decide +kernel
theorem dX5_finish_32 : decode cX5_finish 32 = .ok (.invokespecial 63, 3) := by decide +kernel
theorem dX5_finish_35 : decode cX5_finish 35 = .ok (.athrow, 1) := by decide +kernel
theorem dX5_finish_36 : decode cX5_finish 36 = .ok (.aload_n 0, 1) := by decide +kernel
theorem dX5_finish_37 : decode cX5_finish 37 = .ok (.getfield 26, 3) := by decide +kernel
theorem dX5_finish_40 : decode cX5_finish 40 = .ok (.getfield 222, 3) := by decide +kernel
theorem dX5_finish_43 : decode cX5_finish 43 = .ok (.iload_n 3, 1) := by decide +kernel
theorem dX5_finish_44 : decode cX5_finish 44 = .ok (.iaload, 1) := by decide +kernel
theorem dX5_finish_45 : decode cX5_finish 45 = .ok (.aload_n 0, 1) := by decide +kernel
theorem dX5_finish_46 : decode cX5_finish 46 = .ok (.getfield 19, 3) := by decide +kernel
theorem dX5_finish_49 : decode cX5_finish 49 = .ok (.getfield 214, 3) := by decide +kernel
theorem dX5_finish_52 : decode cX5_finish 52 = .ok (.iload_n 3, 1) := by decide +kernel
theorem dX5_finish_53 : decode cX5_finish 53 = .ok (.iaload, 1) := by decide +kernel
theorem dX5_finish_54 : decode cX5_finish 54 = .ok (.if_icmp .lt 14, 3) := by decide +kernel
theorem dX5_finish_57 : decode cX5_finish 57 = .ok (.aload_n 0, 1) := by decide +kernel
theorem dX5_finish_58 : decode cX5_finish 58 = .ok (.getfield 33, 3) := by decide +kernel
theorem dX5_finish_61 : decode cX5_finish 61 = .ok (.iload_n 1, 1) := by decide +kernel
theorem dX5_finish_62 : decode cX5_finish 62 = .ok (.invokevirtual 225, 3) := by decide +kernel
theorem dX5_finish_65 : decode cX5_finish 65 = .ok (.ifCond .eq 13, 3) := by decide +kernel
theorem dX5_finish_68 : decode cX5_finish 68 = .ok (.new 187, 3) := by decide +kernel
theorem dX5_finish_71 : decode cX5_finish 71 = .ok (.dup, 1) := by decide +kernel
theorem dX5_finish_72 : decode cX5_finish 72 = .ok (.ldc 228, 2) := by decide +kernel
theorem dX5_finish_74 : decode cX5_finish 74 = .ok (.invokespecial 191, 3) := by decide +kernel
theorem dX5_finish_77 : decode cX5_finish 77 = .ok (.athrow, 1) := by decide +kernel
theorem dX5_finish_78 : decode cX5_finish 78 = .ok (.iload_n 2, 1) := by decide +kernel
theorem dX5_finish_79 : decode cX5_finish 79 = .ok (.ifCond .eq 11, 3) := by decide +kernel
theorem dX5_finish_82 : decode cX5_finish 82 = .ok (.aload_n 0, 1) := by decide +kernel
theorem dX5_finish_83 : decode cX5_finish 83 = .ok (.iload_n 3, 1) := by decide +kernel
theorem dX5_finish_84 : decode cX5_finish 84 = .ok (.invokevirtual 230, 3) := by decide +kernel
theorem dX5_finish_87 : decode cX5_finish 87 = .ok (.goto 8, 3) := by decide +kernel
theorem dX5_finish_90 : decode cX5_finish 90 = .ok (.aload_n 0, 1) := by decide +kernel
theorem dX5_finish_91 : decode cX5_finish 91 = .ok (.iload_n 3, 1) := by decide +kernel
theorem dX5_finish_92 : decode cX5_finish 92 = .ok (.invokevirtual 233, 3) := by decide +kernel
theorem dX5_finish_95 : decode cX5_finish 95 = .ok (.aload_n 0, 1) := by decide +kernel
theorem dX5_finish_96 : decode cX5_finish 96 = .ok (.getfield 26, 3) := by decide +kernel
theorem dX5_finish_99 : decode cX5_finish 99 = .ok (.getfield 236, 3) := by decide +kernel
theorem dX5_finish_102 : decode cX5_finish 102 = .ok (.iload_n 3, 1) := by decide +kernel
theorem dX5_finish_103 : decode cX5_finish 103 = .ok (.caload, 1) := by decide +kernel
theorem dX5_finish_104 : decode cX5_finish 104 = .ok (.ireturn, 1) := by decide +kernel
theorem dX5_handOver_0 : decode cX5_handOver 0 = .ok (.aload_n 0, 1) := by decide +kernel
theorem dX5_handOver_1 : decode cX5_handOver 1 = .ok (.iload_n 1, 1) := by decide +kernel
theorem dX5_handOver_2 : decode cX5_handOver 2 = .ok (.invokevirtual 68, 3) := by decide +kernel
theorem dX5_handOver_5 : decode cX5_handOver 5 = .ok (.aload_n 0, 1) := by decide +kernel
theorem dX5_handOver_6 : decode cX5_handOver 6 = .ok (.iload_n 2, 1) := by decide +kernel
theorem dX5_handOver_7 : decode cX5_handOver 7 = .ok (.invokevirtual 68, 3) := by decide +kernel
theorem dX5_handOver_10 : decode cX5_handOver 10 = .ok (.iload_n 1, 1) := by decide +kernel
theorem dX5_handOver_11 : decode cX5_handOver 11 = .ok (.iload_n 2, 1) := by decide +kernel
theorem dX5_handOver_12 : decode cX5_handOver 12 = .ok (.if_icmp .ne 13, 3) := by decide +kernel
theorem dX5_handOver_15 : decode cX5_handOver 15 = .ok (.new 48, 3) := by decide +kernel
theorem dX5_handOver_18 : decode cX5_handOver 18 = .ok (.dup, 1) := by decide +kernel
theorem dX5_handOver_19 : decode cX5_handOver 19 = .ok (.ldc 240, 2) := by decide +kernel
theorem dX5_handOver_21 : decode cX5_handOver 21 = .ok (.invokespecial 52, 3) := by decide +kernel
theorem dX5_handOver_24 : decode cX5_handOver 24 = .ok (.athrow, 1) := by decide +kernel
theorem dX5_handOver_25 : decode cX5_handOver 25 = .ok (.aload_n 0, 1) := by decide +kernel
theorem dX5_handOver_26 : decode cX5_handOver 26 = .ok (.invokevirtual 163, 3) := by decide +kernel
theorem dX5_handOver_29 : decode cX5_handOver 29 = .ok (.aload_n 0, 1) := by decide +kernel
theorem dX5_handOver_30 : decode cX5_handOver 30 = .ok (.getfield 33, 3) := by decide +kernel
theorem dX5_handOver_33 : decode cX5_handOver 33 = .ok (.invokevirtual 170, 3) := by decide +kernel
theorem dX5_handOver_36 : decode cX5_handOver 36 = .ok (.ifCond .eq 13, 3) := by decide +kernel
theorem dX5_handOver_39 : decode cX5_handOver 39 = .ok (.new 59, 3) := by decide +kernel
theorem dX5_handOver_42 : decode cX5_handOver 42 = .ok (.dup, 1) := by decide +kernel
theorem dX5_handOver_43 : decode cX5_handOver 43 = .ok (.ldc 242, 2) := by decide +kernel
theorem dX5_handOver_45 : decode cX5_handOver 45 = .ok (.invokespecial 63, 3) := by decide +kernel
theorem dX5_handOver_48 : decode cX5_handOver 48 = .ok (.athrow, 1) := by decide +kernel
theorem dX5_handOver_49 : decode cX5_handOver 49 = .ok (.aload_n 0, 1) := by decide +kernel
theorem dX5_handOver_50 : decode cX5_handOver 50 = .ok (.getfield 10, 3) := by decide +kernel
theorem dX5_handOver_53 : decode cX5_handOver 53 = .ok (.getfield 81, 3) := by decide +kernel
theorem dX5_handOver_56 : decode cX5_handOver 56 = .ok (.iload_n 1, 1) := by decide +kernel
theorem dX5_handOver_57 : decode cX5_handOver 57 = .ok (.baload, 1) := by decide +kernel
theorem dX5_handOver_58 : decode cX5_handOver 58 = .ok (.ifCond .eq 24, 3) := by decide +kernel
theorem dX5_handOver_61 : decode cX5_handOver 61 = .ok (.aload_n 0, 1) := by decide +kernel
theorem dX5_handOver_62 : decode cX5_handOver 62 = .ok (.getfield 10, 3) := by decide +kernel
theorem dX5_handOver_65 : decode cX5_handOver 65 = .ok (.getfield 81, 3) := by decide +kernel
theorem dX5_handOver_68 : decode cX5_handOver 68 = .ok (.iload_n 2, 1) := by decide +kernel
theorem dX5_handOver_69 : decode cX5_handOver 69 = .ok (.baload, 1) := by decide +kernel
theorem dX5_handOver_70 : decode cX5_handOver 70 = .ok (.ifCond .ne 12, 3) := by decide +kernel
theorem dX5_handOver_73 : decode cX5_handOver 73 = .ok (.aload_n 0, 1) := by decide +kernel
theorem dX5_handOver_74 : decode cX5_handOver 74 = .ok (.iload_n 1, 1) := by decide +kernel
theorem dX5_handOver_75 : decode cX5_handOver 75 = .ok (.iload_n 2, 1) := by decide +kernel
theorem dX5_handOver_76 : decode cX5_handOver 76 = .ok (.invokevirtual 244, 3) := by decide +kernel
theorem dX5_handOver_79 : decode cX5_handOver 79 = .ok (.ifCond .ne 13, 3) := by decide +kernel
theorem dX5_handOver_82 : decode cX5_handOver 82 = .ok (.new 187, 3) := by decide +kernel
theorem dX5_handOver_85 : decode cX5_handOver 85 = .ok (.dup, 1) := by decide +kernel
theorem dX5_handOver_86 : decode cX5_handOver 86 = .ok (.ldc 247, 2) := by decide +kernel
theorem dX5_handOver_88 : decode cX5_handOver 88 = .ok (.invokespecial 191, 3) := by decide +kernel
theorem dX5_handOver_91 : decode cX5_handOver 91 = .ok (.athrow, 1) := by decide +kernel
theorem dX5_handOver_92 : decode cX5_handOver 92 = .ok (.aload_n 0, 1) := by decide +kernel
theorem dX5_handOver_93 : decode cX5_handOver 93 = .ok (.getfield 33, 3) := by decide +kernel
theorem dX5_handOver_96 : decode cX5_handOver 96 = .ok (.iload_n 1, 1) := by decide +kernel
theorem dX5_handOver_97 : decode cX5_handOver 97 = .ok (.iload_n 2, 1) := by decide +kernel
theorem dX5_handOver_98 : decode cX5_handOver 98 = .ok (.aload_n 0, 1) := by decide +kernel
theorem dX5_handOver_99 : decode cX5_handOver 99 = .ok (.getfield 207, 3) := by decide +kernel
theorem dX5_handOver_102 : decode cX5_handOver 102 = .ok (.bipush 10, 2) := by decide +kernel
theorem dX5_handOver_104 : decode cX5_handOver 104 = .ok (.iadd, 1) := by decide +kernel
theorem dX5_handOver_105 : decode cX5_handOver 105 = .ok (.invokevirtual 249, 3) := by decide +kernel
theorem dX5_handOver_108 : decode cX5_handOver 108 = .ok (.aload_n 0, 1) := by decide +kernel
theorem dX5_handOver_109 : decode cX5_handOver 109 = .ok (.getfield 40, 3) := by decide +kernel
theorem dX5_handOver_112 : decode cX5_handOver 112 = .ok (.bipush 104, 2) := by decide +kernel
theorem dX5_handOver_114 : decode cX5_handOver 114 = .ok (.iconst (-1), 1) := by decide +kernel
theorem dX5_handOver_115 : decode cX5_handOver 115 = .ok (.iload_n 1, 1) := by decide +kernel
theorem dX5_handOver_116 : decode cX5_handOver 116 = .ok (.aload_n 0, 1) := by decide +kernel
theorem dX5_handOver_117 : decode cX5_handOver 117 = .ok (.getfield 207, 3) := by decide +kernel
theorem dX5_handOver_120 : decode cX5_handOver 120 = .ok (.invokevirtual 210, 3) := by decide +kernel
theorem dX5_handOver_123 : decode cX5_handOver 123 = .ok (.aload_n 0, 1) := by decide +kernel
theorem dX5_handOver_124 : decode cX5_handOver 124 = .ok (.getfield 33, 3) := by decide +kernel
theorem dX5_handOver_127 : decode cX5_handOver 127 = .ok (.getfield 253, 3) := by decide +kernel
theorem dX5_handOver_130 : decode cX5_handOver 130 = .ok (.ireturn, 1) := by decide +kernel
theorem dX5_undo_0 : decode cX5_undo 0 = .ok (.aload_n 0, 1) := by decide +kernel
theorem dX5_undo_1 : decode cX5_undo 1 = .ok (.iload_n 1, 1) := by decide +kernel
theorem dX5_undo_2 : decode cX5_undo 2 = .ok (.invokevirtual 102, 3) := by decide +kernel
theorem dX5_undo_5 : decode cX5_undo 5 = .ok (.aload_n 0, 1) := by decide +kernel
theorem dX5_undo_6 : decode cX5_undo 6 = .ok (.invokevirtual 163, 3) := by decide +kernel
theorem dX5_undo_9 : decode cX5_undo 9 = .ok (.aload_n 0, 1) := by decide +kernel
theorem dX5_undo_10 : decode cX5_undo 10 = .ok (.getfield 26, 3) := by decide +kernel
theorem dX5_undo_13 : decode cX5_undo 13 = .ok (.invokevirtual 166, 3) := by decide +kernel
theorem dX5_undo_16 : decode cX5_undo 16 = .ok (.ifCond .ne 17, 3) := by decide +kernel
theorem dX5_undo_19 : decode cX5_undo 19 = .ok (.aload_n 0, 1) := by decide +kernel
theorem dX5_undo_20 : decode cX5_undo 20 = .ok (.getfield 26, 3) := by decide +kernel
theorem dX5_undo_23 : decode cX5_undo 23 = .ok (.getfield 236, 3) := by decide +kernel
theorem dX5_undo_26 : decode cX5_undo 26 = .ok (.iload_n 1, 1) := by decide +kernel
theorem dX5_undo_27 : decode cX5_undo 27 = .ok (.caload, 1) := by decide +kernel
theorem dX5_undo_28 : decode cX5_undo 28 = .ok (.bipush 100, 2) := by decide +kernel
theorem dX5_undo_30 : decode cX5_undo 30 = .ok (.if_icmp .eq 14, 3) := by decide +kernel
theorem dX5_undo_33 : decode cX5_undo 33 = .ok (.new 59, 3) := by decide +kernel
theorem dX5_undo_36 : decode cX5_undo 36 = .ok (.dup, 1) := by decide +kernel
theorem dX5_undo_37 : decode cX5_undo 37 = .ok (.ldc_w 256, 3) := by decide +kernel
theorem dX5_undo_40 : decode cX5_undo 40 = .ok (.invokespecial 63, 3) := by decide +kernel
theorem dX5_undo_43 : decode cX5_undo 43 = .ok (.athrow, 1) := by decide +kernel
theorem dX5_undo_44 : decode cX5_undo 44 = .ok (.aload_n 0, 1) := by decide +kernel
theorem dX5_undo_45 : decode cX5_undo 45 = .ok (.getfield 26, 3) := by decide +kernel
theorem dX5_undo_48 : decode cX5_undo 48 = .ok (.iload_n 1, 1) := by decide +kernel
theorem dX5_undo_49 : decode cX5_undo 49 = .ok (.invokevirtual 258, 3) := by decide +kernel
theorem dX5_undo_52 : decode cX5_undo 52 = .ok (.istore_n 2, 1) := by decide +kernel
theorem dX5_undo_53 : decode cX5_undo 53 = .ok (.aload_n 0, 1) := by decide +kernel
theorem dX5_undo_54 : decode cX5_undo 54 = .ok (.iload_n 2, 1) := by decide +kernel
theorem dX5_undo_55 : decode cX5_undo 55 = .ok (.invokevirtual 261, 3) := by decide +kernel
theorem dX5_undo_58 : decode cX5_undo 58 = .ok (.ifCond .ne 14, 3) := by decide +kernel
theorem dX5_undo_61 : decode cX5_undo 61 = .ok (.new 187, 3) := by decide +kernel
theorem dX5_undo_64 : decode cX5_undo 64 = .ok (.dup, 1) := by decide +kernel
theorem dX5_undo_65 : decode cX5_undo 65 = .ok (.ldc_w 264, 3) := by decide +kernel
theorem dX5_undo_68 : decode cX5_undo 68 = .ok (.invokespecial 191, 3) := by decide +kernel
theorem dX5_undo_71 : decode cX5_undo 71 = .ok (.athrow, 1) := by decide +kernel
theorem dX5_undo_72 : decode cX5_undo 72 = .ok (.iconst 0, 1) := by decide +kernel
theorem dX5_undo_73 : decode cX5_undo 73 = .ok (.istore_n 3, 1) := by decide +kernel
theorem dX5_undo_74 : decode cX5_undo 74 = .ok (.aload_n 0, 1) := by decide +kernel
theorem dX5_undo_75 : decode cX5_undo 75 = .ok (.getfield 26, 3) := by decide +kernel
theorem dX5_undo_78 : decode cX5_undo 78 = .ok (.getfield 175, 3) := by decide +kernel
theorem dX5_undo_81 : decode cX5_undo 81 = .ok (.iconst 1, 1) := by decide +kernel
theorem dX5_undo_82 : decode cX5_undo 82 = .ok (.isub, 1) := by decide +kernel
theorem dX5_undo_83 : decode cX5_undo 83 = .ok (.istore 4, 2) := by decide +kernel
theorem dX5_undo_85 : decode cX5_undo 85 = .ok (.iload 4, 2) := by decide +kernel
theorem dX5_undo_87 : decode cX5_undo 87 = .ok (.iload_n 2, 1) := by decide +kernel
theorem dX5_undo_88 : decode cX5_undo 88 = .ok (.if_icmp .lt 33, 3) := by decide +kernel
theorem dX5_undo_91 : decode cX5_undo 91 = .ok (.aload_n 0, 1) := by decide +kernel
theorem dX5_undo_92 : decode cX5_undo 92 = .ok (.getfield 40, 3) := by decide +kernel
theorem dX5_undo_95 : decode cX5_undo 95 = .ok (.bipush 117, 2) := by decide +kernel
theorem dX5_undo_97 : decode cX5_undo 97 = .ok (.aload_n 0, 1) := by decide +kernel
theorem dX5_undo_98 : decode cX5_undo 98 = .ok (.getfield 26, 3) := by decide +kernel
theorem dX5_undo_101 : decode cX5_undo 101 = .ok (.invokevirtual 266, 3) := by decide +kernel
theorem dX5_undo_104 : decode cX5_undo 104 = .ok (.iconst (-1), 1) := by decide +kernel
theorem dX5_undo_105 : decode cX5_undo 105 = .ok (.aload_n 0, 1) := by decide +kernel
theorem dX5_undo_106 : decode cX5_undo 106 = .ok (.getfield 207, 3) := by decide +kernel
theorem dX5_undo_109 : decode cX5_undo 109 = .ok (.invokevirtual 210, 3) := by decide +kernel
theorem dX5_undo_112 : decode cX5_undo 112 = .ok (.iinc 3 1, 3) := by decide +kernel
theorem dX5_undo_115 : decode cX5_undo 115 = .ok (.iinc 4 (-1), 3) := by decide +kernel
theorem dX5_undo_118 : decode cX5_undo 118 = .ok (.goto (-33), 3) := by decide +kernel
theorem dX5_undo_121 : decode cX5_undo 121 = .ok (.iload_n 3, 1) := by decide +kernel
theorem dX5_undo_122 : decode cX5_undo 122 = .ok (.ireturn, 1) := by decide +kernel
theorem dX5_pass_0 : decode cX5_pass 0 = .ok (.iload_n 1, 1) := by decide +kernel
theorem dX5_pass_1 : decode cX5_pass 1 = .ok (.iconst 1, 1) := by decide +kernel
theorem dX5_pass_2 : decode cX5_pass 2 = .ok (.if_icmp .lt 10, 3) := by decide +kernel
theorem dX5_pass_5 : decode cX5_pass 5 = .ok (.iload_n 1, 1) := by decide +kernel
theorem dX5_pass_6 : decode cX5_pass 6 = .ok (.sipush 240, 3) := by decide +kernel
theorem dX5_pass_9 : decode cX5_pass 9 = .ok (.if_icmp .le 14, 3) := by decide +kernel
theorem dX5_pass_12 : decode cX5_pass 12 = .ok (.new 48, 3) := by decide +kernel
theorem dX5_pass_15 : decode cX5_pass 15 = .ok (.dup, 1) := by decide +kernel
theorem dX5_pass_16 : decode cX5_pass 16 = .ok (.ldc_w 269, 3) := by decide +kernel
theorem dX5_pass_19 : decode cX5_pass 19 = .ok (.invokespecial 52, 3) := by decide +kernel
theorem dX5_pass_22 : decode cX5_pass 22 = .ok (.athrow, 1) := by decide +kernel
theorem dX5_pass_23 : decode cX5_pass 23 = .ok (.iconst 0, 1) := by decide +kernel
theorem dX5_pass_24 : decode cX5_pass 24 = .ok (.istore_n 2, 1) := by decide +kernel
theorem dX5_pass_25 : decode cX5_pass 25 = .ok (.iconst 0, 1) := by decide +kernel
theorem dX5_pass_26 : decode cX5_pass 26 = .ok (.istore_n 3, 1) := by decide +kernel
theorem dX5_pass_27 : decode cX5_pass 27 = .ok (.iload_n 3, 1) := by decide +kernel
theorem dX5_pass_28 : decode cX5_pass 28 = .ok (.iload_n 1, 1) := by decide +kernel
theorem dX5_pass_29 : decode cX5_pass 29 = .ok (.if_icmp .ge 16, 3) := by decide +kernel
theorem dX5_pass_32 : decode cX5_pass 32 = .ok (.iload_n 2, 1) := by decide +kernel
theorem dX5_pass_33 : decode cX5_pass 33 = .ok (.aload_n 0, 1) := by decide +kernel
theorem dX5_pass_34 : decode cX5_pass 34 = .ok (.invokevirtual 271, 3) := by decide +kernel
theorem dX5_pass_37 : decode cX5_pass 37 = .ok (.iadd, 1) := by decide +kernel
theorem dX5_pass_38 : decode cX5_pass 38 = .ok (.istore_n 2, 1) := by decide +kernel
theorem dX5_pass_39 : decode cX5_pass 39 = .ok (.iinc 3 1, 3) := by decide +kernel
theorem dX5_pass_42 : decode cX5_pass 42 = .ok (.goto (-15), 3) := by decide +kernel
theorem dX5_pass_45 : decode cX5_pass 45 = .ok (.iload_n 2, 1) := by decide +kernel
theorem dX5_pass_46 : decode cX5_pass 46 = .ok (.ireturn, 1) := by decide +kernel
theorem dX5_people_0 : decode cX5_people 0 = .ok (.aload_n 0, 1) := by decide +kernel
theorem dX5_people_1 : decode cX5_people 1 = .ok (.getfield 10, 3) := by decide +kernel
theorem dX5_people_4 : decode cX5_people 4 = .ok (.getfield 55, 3) := by decide +kernel
theorem dX5_people_7 : decode cX5_people 7 = .ok (.ireturn, 1) := by decide +kernel
theorem dX5_steps_0 : decode cX5_steps 0 = .ok (.aload_n 0, 1) := by decide +kernel
theorem dX5_steps_1 : decode cX5_steps 1 = .ok (.getfield 19, 3) := by decide +kernel
theorem dX5_steps_4 : decode cX5_steps 4 = .ok (.getfield 95, 3) := by decide +kernel
theorem dX5_steps_7 : decode cX5_steps 7 = .ok (.ireturn, 1) := by decide +kernel
theorem dX5_clock_0 : decode cX5_clock 0 = .ok (.aload_n 0, 1) := by decide +kernel
theorem dX5_clock_1 : decode cX5_clock 1 = .ok (.getfield 207, 3) := by decide +kernel
theorem dX5_clock_4 : decode cX5_clock 4 = .ok (.ireturn, 1) := by decide +kernel
theorem dX5_isOnDuty_0 : decode cX5_isOnDuty 0 = .ok (.aload_n 0, 1) := by decide +kernel
theorem dX5_isOnDuty_1 : decode cX5_isOnDuty 1 = .ok (.iload_n 1, 1) := by decide +kernel
theorem dX5_isOnDuty_2 : decode cX5_isOnDuty 2 = .ok (.invokevirtual 68, 3) := by decide +kernel
theorem dX5_isOnDuty_5 : decode cX5_isOnDuty 5 = .ok (.aload_n 0, 1) := by decide +kernel
theorem dX5_isOnDuty_6 : decode cX5_isOnDuty 6 = .ok (.getfield 10, 3) := by decide +kernel
theorem dX5_isOnDuty_9 : decode cX5_isOnDuty 9 = .ok (.getfield 81, 3) := by decide +kernel
theorem dX5_isOnDuty_12 : decode cX5_isOnDuty 12 = .ok (.iload_n 1, 1) := by decide +kernel
theorem dX5_isOnDuty_13 : decode cX5_isOnDuty 13 = .ok (.baload, 1) := by decide +kernel
theorem dX5_isOnDuty_14 : decode cX5_isOnDuty 14 = .ok (.ireturn, 1) := by decide +kernel
theorem dX5_hasRole_0 : decode cX5_hasRole 0 = .ok (.aload_n 0, 1) := by decide +kernel
theorem dX5_hasRole_1 : decode cX5_hasRole 1 = .ok (.iload_n 1, 1) := by decide +kernel
theorem dX5_hasRole_2 : decode cX5_hasRole 2 = .ok (.invokevirtual 68, 3) := by decide +kernel
theorem dX5_hasRole_5 : decode cX5_hasRole 5 = .ok (.aload_n 0, 1) := by decide +kernel
theorem dX5_hasRole_6 : decode cX5_hasRole 6 = .ok (.iload_n 2, 1) := by decide +kernel
theorem dX5_hasRole_7 : decode cX5_hasRole 7 = .ok (.invokevirtual 274, 3) := by decide +kernel
theorem dX5_hasRole_10 : decode cX5_hasRole 10 = .ok (.aload_n 0, 1) := by decide +kernel
theorem dX5_hasRole_11 : decode cX5_hasRole 11 = .ok (.getfield 10, 3) := by decide +kernel
theorem dX5_hasRole_14 : decode cX5_hasRole 14 = .ok (.iload_n 1, 1) := by decide +kernel
theorem dX5_hasRole_15 : decode cX5_hasRole 15 = .ok (.iload_n 2, 1) := by decide +kernel
theorem dX5_hasRole_16 : decode cX5_hasRole 16 = .ok (.invokevirtual 184, 3) := by decide +kernel
theorem dX5_hasRole_19 : decode cX5_hasRole 19 = .ok (.ireturn, 1) := by decide +kernel
theorem dX5_workOf_0 : decode cX5_workOf 0 = .ok (.aload_n 0, 1) := by decide +kernel
theorem dX5_workOf_1 : decode cX5_workOf 1 = .ok (.iload_n 1, 1) := by decide +kernel
theorem dX5_workOf_2 : decode cX5_workOf 2 = .ok (.invokevirtual 68, 3) := by decide +kernel
theorem dX5_workOf_5 : decode cX5_workOf 5 = .ok (.aload_n 0, 1) := by decide +kernel
theorem dX5_workOf_6 : decode cX5_workOf 6 = .ok (.getfield 10, 3) := by decide +kernel
theorem dX5_workOf_9 : decode cX5_workOf 9 = .ok (.getfield 200, 3) := by decide +kernel
theorem dX5_workOf_12 : decode cX5_workOf 12 = .ok (.iload_n 1, 1) := by decide +kernel
theorem dX5_workOf_13 : decode cX5_workOf 13 = .ok (.iaload, 1) := by decide +kernel
theorem dX5_workOf_14 : decode cX5_workOf 14 = .ok (.ireturn, 1) := by decide +kernel
theorem dX5_readingOf_0 : decode cX5_readingOf 0 = .ok (.iload_n 1, 1) := by decide +kernel
theorem dX5_readingOf_1 : decode cX5_readingOf 1 = .ok (.invokestatic 121, 3) := by decide +kernel
theorem dX5_readingOf_4 : decode cX5_readingOf 4 = .ok (.ifCond .ne 14, 3) := by decide +kernel
theorem dX5_readingOf_7 : decode cX5_readingOf 7 = .ok (.new 48, 3) := by decide +kernel
theorem dX5_readingOf_10 : decode cX5_readingOf 10 = .ok (.dup, 1) := by decide +kernel
theorem dX5_readingOf_11 : decode cX5_readingOf 11 = .ok (.ldc_w 277, 3) := by decide +kernel
theorem dX5_readingOf_14 : decode cX5_readingOf 14 = .ok (.invokespecial 52, 3) := by decide +kernel
theorem dX5_readingOf_17 : decode cX5_readingOf 17 = .ok (.athrow, 1) := by decide +kernel
theorem dX5_readingOf_18 : decode cX5_readingOf 18 = .ok (.aload_n 0, 1) := by decide +kernel
theorem dX5_readingOf_19 : decode cX5_readingOf 19 = .ok (.getfield 44, 3) := by decide +kernel
theorem dX5_readingOf_22 : decode cX5_readingOf 22 = .ok (.iload_n 1, 1) := by decide +kernel
theorem dX5_readingOf_23 : decode cX5_readingOf 23 = .ok (.iaload, 1) := by decide +kernel
theorem dX5_readingOf_24 : decode cX5_readingOf 24 = .ok (.ireturn, 1) := by decide +kernel
theorem dX5_doesGuardHold_0 : decode cX5_doesGuardHold 0 = .ok (.aload_n 0, 1) := by decide +kernel
theorem dX5_doesGuardHold_1 : decode cX5_doesGuardHold 1 = .ok (.iload_n 1, 1) := by decide +kernel
theorem dX5_doesGuardHold_2 : decode cX5_doesGuardHold 2 = .ok (.invokevirtual 102, 3) := by decide +kernel
theorem dX5_doesGuardHold_5 : decode cX5_doesGuardHold 5 = .ok (.aload_n 0, 1) := by decide +kernel
theorem dX5_doesGuardHold_6 : decode cX5_doesGuardHold 6 = .ok (.getfield 19, 3) := by decide +kernel
theorem dX5_doesGuardHold_9 : decode cX5_doesGuardHold 9 = .ok (.iload_n 1, 1) := by decide +kernel
theorem dX5_doesGuardHold_10 : decode cX5_doesGuardHold 10 = .ok (.aload_n 0, 1) := by decide +kernel
theorem dX5_doesGuardHold_11 : decode cX5_doesGuardHold 11 = .ok (.getfield 44, 3) := by decide +kernel
theorem dX5_doesGuardHold_14 : decode cX5_doesGuardHold 14 = .ok (.invokevirtual 279, 3) := by decide +kernel
theorem dX5_doesGuardHold_17 : decode cX5_doesGuardHold 17 = .ok (.ireturn, 1) := by decide +kernel
theorem dX5_guardReading_0 : decode cX5_guardReading 0 = .ok (.aload_n 0, 1) := by decide +kernel
theorem dX5_guardReading_1 : decode cX5_guardReading 1 = .ok (.iload_n 1, 1) := by decide +kernel
theorem dX5_guardReading_2 : decode cX5_guardReading 2 = .ok (.invokevirtual 102, 3) := by decide +kernel
theorem dX5_guardReading_5 : decode cX5_guardReading 5 = .ok (.iload_n 2, 1) := by decide +kernel
theorem dX5_guardReading_6 : decode cX5_guardReading 6 = .ok (.ifCond .lt 16, 3) := by decide +kernel
theorem dX5_guardReading_9 : decode cX5_guardReading 9 = .ok (.iload_n 2, 1) := by decide +kernel
theorem dX5_guardReading_10 : decode cX5_guardReading 10 = .ok (.aload_n 0, 1) := by decide +kernel
theorem dX5_guardReading_11 : decode cX5_guardReading 11 = .ok (.getfield 19, 3) := by decide +kernel
theorem dX5_guardReading_14 : decode cX5_guardReading 14 = .ok (.getfield 129, 3) := by decide +kernel
theorem dX5_guardReading_17 : decode cX5_guardReading 17 = .ok (.iload_n 1, 1) := by decide +kernel
theorem dX5_guardReading_18 : decode cX5_guardReading 18 = .ok (.iaload, 1) := by decide +kernel
theorem dX5_guardReading_19 : decode cX5_guardReading 19 = .ok (.if_icmp .lt 14, 3) := by decide +kernel
theorem dX5_guardReading_22 : decode cX5_guardReading 22 = .ok (.new 283, 3) := by decide +kernel
theorem dX5_guardReading_25 : decode cX5_guardReading 25 = .ok (.dup, 1) := by decide +kernel
theorem dX5_guardReading_26 : decode cX5_guardReading 26 = .ok (.ldc_w 285, 3) := by decide +kernel
theorem dX5_guardReading_29 : decode cX5_guardReading 29 = .ok (.invokespecial 287, 3) := by decide +kernel
theorem dX5_guardReading_32 : decode cX5_guardReading 32 = .ok (.athrow, 1) := by decide +kernel
theorem dX5_guardReading_33 : decode cX5_guardReading 33 = .ok (.aload_n 0, 1) := by decide +kernel
theorem dX5_guardReading_34 : decode cX5_guardReading 34 = .ok (.getfield 26, 3) := by decide +kernel
theorem dX5_guardReading_37 : decode cX5_guardReading 37 = .ok (.getfield 288, 3) := by decide +kernel
theorem dX5_guardReading_40 : decode cX5_guardReading 40 = .ok (.iload_n 1, 1) := by decide +kernel
theorem dX5_guardReading_41 : decode cX5_guardReading 41 = .ok (.baload, 1) := by decide +kernel
theorem dX5_guardReading_42 : decode cX5_guardReading 42 = .ok (.ifCond .ne 14, 3) := by decide +kernel
theorem dX5_guardReading_45 : decode cX5_guardReading 45 = .ok (.new 59, 3) := by decide +kernel
theorem dX5_guardReading_48 : decode cX5_guardReading 48 = .ok (.dup, 1) := by decide +kernel
theorem dX5_guardReading_49 : decode cX5_guardReading 49 = .ok (.ldc_w 291, 3) := by decide +kernel
theorem dX5_guardReading_52 : decode cX5_guardReading 52 = .ok (.invokespecial 63, 3) := by decide +kernel
theorem dX5_guardReading_55 : decode cX5_guardReading 55 = .ok (.athrow, 1) := by decide +kernel
theorem dX5_guardReading_56 : decode cX5_guardReading 56 = .ok (.aload_n 0, 1) := by decide +kernel
theorem dX5_guardReading_57 : decode cX5_guardReading 57 = .ok (.getfield 26, 3) := by decide +kernel
theorem dX5_guardReading_60 : decode cX5_guardReading 60 = .ok (.iload_n 1, 1) := by decide +kernel
theorem dX5_guardReading_61 : decode cX5_guardReading 61 = .ok (.aload_n 0, 1) := by decide +kernel
theorem dX5_guardReading_62 : decode cX5_guardReading 62 = .ok (.getfield 19, 3) := by decide +kernel
theorem dX5_guardReading_65 : decode cX5_guardReading 65 = .ok (.iload_n 1, 1) := by decide +kernel
theorem dX5_guardReading_66 : decode cX5_guardReading 66 = .ok (.iload_n 2, 1) := by decide +kernel
theorem dX5_guardReading_67 : decode cX5_guardReading 67 = .ok (.invokevirtual 293, 3) := by decide +kernel
theorem dX5_guardReading_70 : decode cX5_guardReading 70 = .ok (.invokevirtual 297, 3) := by decide +kernel
theorem dX5_guardReading_73 : decode cX5_guardReading 73 = .ok (.ireturn, 1) := by decide +kernel
theorem dX5_isRunning_0 : decode cX5_isRunning 0 = .ok (.aload_n 0, 1) := by decide +kernel
theorem dX5_isRunning_1 : decode cX5_isRunning 1 = .ok (.getfield 155, 3) := by decide +kernel
theorem dX5_isRunning_4 : decode cX5_isRunning 4 = .ok (.ireturn, 1) := by decide +kernel
theorem dX5_stateOf_0 : decode cX5_stateOf 0 = .ok (.aload_n 0, 1) := by decide +kernel
theorem dX5_stateOf_1 : decode cX5_stateOf 1 = .ok (.iload_n 1, 1) := by decide +kernel
theorem dX5_stateOf_2 : decode cX5_stateOf 2 = .ok (.invokevirtual 300, 3) := by decide +kernel
theorem dX5_stateOf_5 : decode cX5_stateOf 5 = .ok (.aload_n 0, 1) := by decide +kernel
theorem dX5_stateOf_6 : decode cX5_stateOf 6 = .ok (.getfield 26, 3) := by decide +kernel
theorem dX5_stateOf_9 : decode cX5_stateOf 9 = .ok (.getfield 236, 3) := by decide +kernel
theorem dX5_stateOf_12 : decode cX5_stateOf 12 = .ok (.iload_n 1, 1) := by decide +kernel
theorem dX5_stateOf_13 : decode cX5_stateOf 13 = .ok (.caload, 1) := by decide +kernel
theorem dX5_stateOf_14 : decode cX5_stateOf 14 = .ok (.ireturn, 1) := by decide +kernel
theorem dX5_triesOf_0 : decode cX5_triesOf 0 = .ok (.aload_n 0, 1) := by decide +kernel
theorem dX5_triesOf_1 : decode cX5_triesOf 1 = .ok (.iload_n 1, 1) := by decide +kernel
theorem dX5_triesOf_2 : decode cX5_triesOf 2 = .ok (.invokevirtual 300, 3) := by decide +kernel
theorem dX5_triesOf_5 : decode cX5_triesOf 5 = .ok (.aload_n 0, 1) := by decide +kernel
theorem dX5_triesOf_6 : decode cX5_triesOf 6 = .ok (.getfield 26, 3) := by decide +kernel
theorem dX5_triesOf_9 : decode cX5_triesOf 9 = .ok (.getfield 303, 3) := by decide +kernel
theorem dX5_triesOf_12 : decode cX5_triesOf 12 = .ok (.iload_n 1, 1) := by decide +kernel
theorem dX5_triesOf_13 : decode cX5_triesOf 13 = .ok (.iaload, 1) := by decide +kernel
theorem dX5_triesOf_14 : decode cX5_triesOf 14 = .ok (.ireturn, 1) := by decide +kernel
theorem dX5_isReady_0 : decode cX5_isReady 0 = .ok (.aload_n 0, 1) := by decide +kernel
theorem dX5_isReady_1 : decode cX5_isReady 1 = .ok (.iload_n 1, 1) := by decide +kernel
theorem dX5_isReady_2 : decode cX5_isReady 2 = .ok (.invokevirtual 102, 3) := by decide +kernel
theorem dX5_isReady_5 : decode cX5_isReady 5 = .ok (.aload_n 0, 1) := by decide +kernel
theorem dX5_isReady_6 : decode cX5_isReady 6 = .ok (.iload_n 1, 1) := by decide +kernel
theorem dX5_isReady_7 : decode cX5_isReady 7 = .ok (.invokevirtual 192, 3) := by decide +kernel
theorem dX5_isReady_10 : decode cX5_isReady 10 = .ok (.ireturn, 1) := by decide +kernel
theorem dX5_whyNot_0 : decode cX5_whyNot 0 = .ok (.aload_n 0, 1) := by decide +kernel
theorem dX5_whyNot_1 : decode cX5_whyNot 1 = .ok (.iload_n 1, 1) := by decide +kernel
theorem dX5_whyNot_2 : decode cX5_whyNot 2 = .ok (.invokevirtual 102, 3) := by decide +kernel
theorem dX5_whyNot_5 : decode cX5_whyNot 5 = .ok (.aload_n 0, 1) := by decide +kernel
theorem dX5_whyNot_6 : decode cX5_whyNot 6 = .ok (.getfield 155, 3) := by decide +kernel
theorem dX5_whyNot_9 : decode cX5_whyNot 9 = .ok (.ifCond .ne 6, 3) := by decide +kernel
theorem dX5_whyNot_12 : decode cX5_whyNot 12 = .ok (.bipush 115, 2) := by decide +kernel
theorem dX5_whyNot_14 : decode cX5_whyNot 14 = .ok (.ireturn, 1) := by decide +kernel
theorem dX5_whyNot_15 : decode cX5_whyNot 15 = .ok (.aload_n 0, 1) := by decide +kernel
theorem dX5_whyNot_16 : decode cX5_whyNot 16 = .ok (.getfield 26, 3) := by decide +kernel
theorem dX5_whyNot_19 : decode cX5_whyNot 19 = .ok (.getfield 236, 3) := by decide +kernel
theorem dX5_whyNot_22 : decode cX5_whyNot 22 = .ok (.iload_n 1, 1) := by decide +kernel
theorem dX5_whyNot_23 : decode cX5_whyNot 23 = .ok (.caload, 1) := by decide +kernel
theorem dX5_whyNot_24 : decode cX5_whyNot 24 = .ok (.bipush 119, 2) := by decide +kernel
theorem dX5_whyNot_26 : decode cX5_whyNot 26 = .ok (.if_icmp .eq 6, 3) := by decide +kernel
theorem dX5_whyNot_29 : decode cX5_whyNot 29 = .ok (.bipush 120, 2) := by decide +kernel
theorem dX5_whyNot_31 : decode cX5_whyNot 31 = .ok (.ireturn, 1) := by decide +kernel
theorem dX5_whyNot_32 : decode cX5_whyNot 32 = .ok (.aload_n 0, 1) := by decide +kernel
theorem dX5_whyNot_33 : decode cX5_whyNot 33 = .ok (.iload_n 1, 1) := by decide +kernel
theorem dX5_whyNot_34 : decode cX5_whyNot 34 = .ok (.invokevirtual 306, 3) := by decide +kernel
theorem dX5_whyNot_37 : decode cX5_whyNot 37 = .ok (.ifCond .ne 6, 3) := by decide +kernel
theorem dX5_whyNot_40 : decode cX5_whyNot 40 = .ok (.bipush 110, 2) := by decide +kernel
theorem dX5_whyNot_42 : decode cX5_whyNot 42 = .ok (.ireturn, 1) := by decide +kernel
theorem dX5_whyNot_43 : decode cX5_whyNot 43 = .ok (.aload_n 0, 1) := by decide +kernel
theorem dX5_whyNot_44 : decode cX5_whyNot 44 = .ok (.getfield 19, 3) := by decide +kernel
theorem dX5_whyNot_47 : decode cX5_whyNot 47 = .ok (.iload_n 1, 1) := by decide +kernel
theorem dX5_whyNot_48 : decode cX5_whyNot 48 = .ok (.aload_n 0, 1) := by decide +kernel
theorem dX5_whyNot_49 : decode cX5_whyNot 49 = .ok (.getfield 44, 3) := by decide +kernel
theorem dX5_whyNot_52 : decode cX5_whyNot 52 = .ok (.invokevirtual 279, 3) := by decide +kernel
theorem dX5_whyNot_55 : decode cX5_whyNot 55 = .ok (.ifCond .ne 6, 3) := by decide +kernel
theorem dX5_whyNot_58 : decode cX5_whyNot 58 = .ok (.bipush 103, 2) := by decide +kernel
theorem dX5_whyNot_60 : decode cX5_whyNot 60 = .ok (.ireturn, 1) := by decide +kernel
theorem dX5_whyNot_61 : decode cX5_whyNot 61 = .ok (.aload_n 0, 1) := by decide +kernel
theorem dX5_whyNot_62 : decode cX5_whyNot 62 = .ok (.aload_n 0, 1) := by decide +kernel
theorem dX5_whyNot_63 : decode cX5_whyNot 63 = .ok (.getfield 19, 3) := by decide +kernel
theorem dX5_whyNot_66 : decode cX5_whyNot 66 = .ok (.getfield 178, 3) := by decide +kernel
theorem dX5_whyNot_69 : decode cX5_whyNot 69 = .ok (.iload_n 1, 1) := by decide +kernel
theorem dX5_whyNot_70 : decode cX5_whyNot 70 = .ok (.iaload, 1) := by decide +kernel
theorem dX5_whyNot_71 : decode cX5_whyNot 71 = .ok (.invokevirtual 195, 3) := by decide +kernel
theorem dX5_whyNot_74 : decode cX5_whyNot 74 = .ok (.ifCond .eq 6, 3) := by decide +kernel
theorem dX5_whyNot_77 : decode cX5_whyNot 77 = .ok (.bipush 112, 2) := by decide +kernel
theorem dX5_whyNot_79 : decode cX5_whyNot 79 = .ok (.ireturn, 1) := by decide +kernel
theorem dX5_whyNot_80 : decode cX5_whyNot 80 = .ok (.aload_n 0, 1) := by decide +kernel
theorem dX5_whyNot_81 : decode cX5_whyNot 81 = .ok (.aload_n 0, 1) := by decide +kernel
theorem dX5_whyNot_82 : decode cX5_whyNot 82 = .ok (.getfield 19, 3) := by decide +kernel
theorem dX5_whyNot_85 : decode cX5_whyNot 85 = .ok (.getfield 178, 3) := by decide +kernel
theorem dX5_whyNot_88 : decode cX5_whyNot 88 = .ok (.iload_n 1, 1) := by decide +kernel
theorem dX5_whyNot_89 : decode cX5_whyNot 89 = .ok (.iaload, 1) := by decide +kernel
theorem dX5_whyNot_90 : decode cX5_whyNot 90 = .ok (.invokevirtual 309, 3) := by decide +kernel
theorem dX5_whyNot_93 : decode cX5_whyNot 93 = .ok (.ifCond .eq 8, 3) := by decide +kernel
theorem dX5_whyNot_96 : decode cX5_whyNot 96 = .ok (.bipush 45, 2) := by decide +kernel
theorem dX5_whyNot_98 : decode cX5_whyNot 98 = .ok (.goto 5, 3) := by decide +kernel
theorem dX5_whyNot_101 : decode cX5_whyNot 101 = .ok (.bipush 114, 2) := by decide +kernel
theorem dX5_whyNot_103 : decode cX5_whyNot 103 = .ok (.ireturn, 1) := by decide +kernel
theorem dX5_ready_0 : decode cX5_ready 0 = .ok (.aload_n 0, 1) := by decide +kernel
theorem dX5_ready_1 : decode cX5_ready 1 = .ok (.invokevirtual 159, 3) := by decide +kernel
theorem dX5_ready_4 : decode cX5_ready 4 = .ok (.ireturn, 1) := by decide +kernel
theorem dX5_nextStep_0 : decode cX5_nextStep 0 = .ok (.aload_n 0, 1) := by decide +kernel
theorem dX5_nextStep_1 : decode cX5_nextStep 1 = .ok (.iload_n 1, 1) := by decide +kernel
theorem dX5_nextStep_2 : decode cX5_nextStep 2 = .ok (.invokevirtual 68, 3) := by decide +kernel
theorem dX5_nextStep_5 : decode cX5_nextStep 5 = .ok (.aload_n 0, 1) := by decide +kernel
theorem dX5_nextStep_6 : decode cX5_nextStep 6 = .ok (.iload_n 1, 1) := by decide +kernel
theorem dX5_nextStep_7 : decode cX5_nextStep 7 = .ok (.invokevirtual 312, 3) := by decide +kernel
theorem dX5_nextStep_10 : decode cX5_nextStep 10 = .ok (.istore_n 2, 1) := by decide +kernel
theorem dX5_nextStep_11 : decode cX5_nextStep 11 = .ok (.iload_n 2, 1) := by decide +kernel
theorem dX5_nextStep_12 : decode cX5_nextStep 12 = .ok (.iconst (-1), 1) := by decide +kernel
theorem dX5_nextStep_13 : decode cX5_nextStep 13 = .ok (.if_icmp .ne 14, 3) := by decide +kernel
theorem dX5_nextStep_16 : decode cX5_nextStep 16 = .ok (.new 59, 3) := by decide +kernel
theorem dX5_nextStep_19 : decode cX5_nextStep 19 = .ok (.dup, 1) := by decide +kernel
theorem dX5_nextStep_20 : decode cX5_nextStep 20 = .ok (.ldc_w 315, 3) := by decide +kernel
theorem dX5_nextStep_23 : decode cX5_nextStep 23 = .ok (.invokespecial 63, 3) := by decide +kernel
theorem dX5_nextStep_26 : decode cX5_nextStep 26 = .ok (.athrow, 1) := by decide +kernel
theorem dX5_nextStep_27 : decode cX5_nextStep 27 = .ok (.iload_n 2, 1) := by decide +kernel
theorem dX5_nextStep_28 : decode cX5_nextStep 28 = .ok (.ireturn, 1) := by decide +kernel
theorem dX5_restOf_0 : decode cX5_restOf 0 = .ok (.aload_n 0, 1) := by decide +kernel
theorem dX5_restOf_1 : decode cX5_restOf 1 = .ok (.iload_n 1, 1) := by decide +kernel
theorem dX5_restOf_2 : decode cX5_restOf 2 = .ok (.invokevirtual 102, 3) := by decide +kernel
theorem dX5_restOf_5 : decode cX5_restOf 5 = .ok (.aload_n 0, 1) := by decide +kernel
theorem dX5_restOf_6 : decode cX5_restOf 6 = .ok (.getfield 19, 3) := by decide +kernel
theorem dX5_restOf_9 : decode cX5_restOf 9 = .ok (.invokevirtual 317, 3) := by decide +kernel
theorem dX5_restOf_12 : decode cX5_restOf 12 = .ok (.aload_n 0, 1) := by decide +kernel
theorem dX5_restOf_13 : decode cX5_restOf 13 = .ok (.getfield 19, 3) := by decide +kernel
theorem dX5_restOf_16 : decode cX5_restOf 16 = .ok (.iload_n 1, 1) := by decide +kernel
theorem dX5_restOf_17 : decode cX5_restOf 17 = .ok (.iconst 0, 1) := by decide +kernel
theorem dX5_restOf_18 : decode cX5_restOf 18 = .ok (.invokestatic 320, 3) := by decide +kernel
theorem dX5_restOf_21 : decode cX5_restOf 21 = .ok (.ireturn, 1) := by decide +kernel
theorem dX5_restBySweep_0 : decode cX5_restBySweep 0 = .ok (.aload_n 0, 1) := by decide +kernel
theorem dX5_restBySweep_1 : decode cX5_restBySweep 1 = .ok (.iload_n 1, 1) := by decide +kernel
theorem dX5_restBySweep_2 : decode cX5_restBySweep 2 = .ok (.invokevirtual 102, 3) := by decide +kernel
theorem dX5_restBySweep_5 : decode cX5_restBySweep 5 = .ok (.aload_n 0, 1) := by decide +kernel
theorem dX5_restBySweep_6 : decode cX5_restBySweep 6 = .ok (.getfield 19, 3) := by decide +kernel
theorem dX5_restBySweep_9 : decode cX5_restBySweep 9 = .ok (.invokevirtual 324, 3) := by decide +kernel
theorem dX5_restBySweep_12 : decode cX5_restBySweep 12 = .ok (.aload_n 0, 1) := by decide +kernel
theorem dX5_restBySweep_13 : decode cX5_restBySweep 13 = .ok (.getfield 19, 3) := by decide +kernel
theorem dX5_restBySweep_16 : decode cX5_restBySweep 16 = .ok (.getfield 327, 3) := by decide +kernel
theorem dX5_restBySweep_19 : decode cX5_restBySweep 19 = .ok (.iload_n 1, 1) := by decide +kernel
theorem dX5_restBySweep_20 : decode cX5_restBySweep 20 = .ok (.iaload, 1) := by decide +kernel
theorem dX5_restBySweep_21 : decode cX5_restBySweep 21 = .ok (.ireturn, 1) := by decide +kernel
theorem dX5_isSettled_0 : decode cX5_isSettled 0 = .ok (.aload_n 0, 1) := by decide +kernel
theorem dX5_isSettled_1 : decode cX5_isSettled 1 = .ok (.iload_n 1, 1) := by decide +kernel
theorem dX5_isSettled_2 : decode cX5_isSettled 2 = .ok (.invokevirtual 102, 3) := by decide +kernel
theorem dX5_isSettled_5 : decode cX5_isSettled 5 = .ok (.aload_n 0, 1) := by decide +kernel
theorem dX5_isSettled_6 : decode cX5_isSettled 6 = .ok (.getfield 155, 3) := by decide +kernel
theorem dX5_isSettled_9 : decode cX5_isSettled 9 = .ok (.ifCond .eq 15, 3) := by decide +kernel
theorem dX5_isSettled_12 : decode cX5_isSettled 12 = .ok (.aload_n 0, 1) := by decide +kernel
theorem dX5_isSettled_13 : decode cX5_isSettled 13 = .ok (.iload_n 1, 1) := by decide +kernel
theorem dX5_isSettled_14 : decode cX5_isSettled 14 = .ok (.invokevirtual 330, 3) := by decide +kernel
theorem dX5_isSettled_17 : decode cX5_isSettled 17 = .ok (.ifCond .eq 7, 3) := by decide +kernel
theorem dX5_isSettled_20 : decode cX5_isSettled 20 = .ok (.iconst 1, 1) := by decide +kernel
theorem dX5_isSettled_21 : decode cX5_isSettled 21 = .ok (.goto 4, 3) := by decide +kernel
theorem dX5_isSettled_24 : decode cX5_isSettled 24 = .ok (.iconst 0, 1) := by decide +kernel
theorem dX5_isSettled_25 : decode cX5_isSettled 25 = .ok (.ireturn, 1) := by decide +kernel
theorem dX5_isOver_0 : decode cX5_isOver 0 = .ok (.aload_n 0, 1) := by decide +kernel
theorem dX5_isOver_1 : decode cX5_isOver 1 = .ok (.getfield 155, 3) := by decide +kernel
theorem dX5_isOver_4 : decode cX5_isOver 4 = .ok (.ifCond .eq 14, 3) := by decide +kernel
theorem dX5_isOver_7 : decode cX5_isOver 7 = .ok (.aload_n 0, 1) := by decide +kernel
theorem dX5_isOver_8 : decode cX5_isOver 8 = .ok (.invokevirtual 333, 3) := by decide +kernel
theorem dX5_isOver_11 : decode cX5_isOver 11 = .ok (.ifCond .eq 7, 3) := by decide +kernel
theorem dX5_isOver_14 : decode cX5_isOver 14 = .ok (.iconst 1, 1) := by decide +kernel
theorem dX5_isOver_15 : decode cX5_isOver 15 = .ok (.goto 4, 3) := by decide +kernel
theorem dX5_isOver_18 : decode cX5_isOver 18 = .ok (.iconst 0, 1) := by decide +kernel
theorem dX5_isOver_19 : decode cX5_isOver 19 = .ok (.ireturn, 1) := by decide +kernel
theorem dX5_isStuck_0 : decode cX5_isStuck 0 = .ok (.aload_n 0, 1) := by decide +kernel
theorem dX5_isStuck_1 : decode cX5_isStuck 1 = .ok (.getfield 155, 3) := by decide +kernel
theorem dX5_isStuck_4 : decode cX5_isStuck 4 = .ok (.ifCond .eq 31, 3) := by decide +kernel
theorem dX5_isStuck_7 : decode cX5_isStuck 7 = .ok (.aload_n 0, 1) := by decide +kernel
theorem dX5_isStuck_8 : decode cX5_isStuck 8 = .ok (.invokevirtual 333, 3) := by decide +kernel
theorem dX5_isStuck_11 : decode cX5_isStuck 11 = .ok (.ifCond .ne 24, 3) := by decide +kernel
theorem dX5_isStuck_14 : decode cX5_isStuck 14 = .ok (.aload_n 0, 1) := by decide +kernel
theorem dX5_isStuck_15 : decode cX5_isStuck 15 = .ok (.getfield 26, 3) := by decide +kernel
theorem dX5_isStuck_18 : decode cX5_isStuck 18 = .ok (.invokevirtual 166, 3) := by decide +kernel
theorem dX5_isStuck_21 : decode cX5_isStuck 21 = .ok (.ifCond .ne 14, 3) := by decide +kernel
theorem dX5_isStuck_24 : decode cX5_isStuck 24 = .ok (.aload_n 0, 1) := by decide +kernel
theorem dX5_isStuck_25 : decode cX5_isStuck 25 = .ok (.invokevirtual 159, 3) := by decide +kernel
theorem dX5_isStuck_28 : decode cX5_isStuck 28 = .ok (.ifCond .ne 7, 3) := by decide +kernel
theorem dX5_isStuck_31 : decode cX5_isStuck 31 = .ok (.iconst 1, 1) := by decide +kernel
theorem dX5_isStuck_32 : decode cX5_isStuck 32 = .ok (.goto 4, 3) := by decide +kernel
theorem dX5_isStuck_35 : decode cX5_isStuck 35 = .ok (.iconst 0, 1) := by decide +kernel
theorem dX5_isStuck_36 : decode cX5_isStuck 36 = .ok (.ireturn, 1) := by decide +kernel
theorem dX5_handoverEnd_0 : decode cX5_handoverEnd 0 = .ok (.aload_n 0, 1) := by decide +kernel
theorem dX5_handoverEnd_1 : decode cX5_handoverEnd 1 = .ok (.getfield 33, 3) := by decide +kernel
theorem dX5_handoverEnd_4 : decode cX5_handoverEnd 4 = .ok (.invokevirtual 170, 3) := by decide +kernel
theorem dX5_handoverEnd_7 : decode cX5_handoverEnd 7 = .ok (.ifCond .ne 14, 3) := by decide +kernel
theorem dX5_handoverEnd_10 : decode cX5_handoverEnd 10 = .ok (.new 59, 3) := by decide +kernel
theorem dX5_handoverEnd_13 : decode cX5_handoverEnd 13 = .ok (.dup, 1) := by decide +kernel
theorem dX5_handoverEnd_14 : decode cX5_handoverEnd 14 = .ok (.ldc_w 336, 3) := by decide +kernel
theorem dX5_handoverEnd_17 : decode cX5_handoverEnd 17 = .ok (.invokespecial 63, 3) := by decide +kernel
theorem dX5_handoverEnd_20 : decode cX5_handoverEnd 20 = .ok (.athrow, 1) := by decide +kernel
theorem dX5_handoverEnd_21 : decode cX5_handoverEnd 21 = .ok (.aload_n 0, 1) := by decide +kernel
theorem dX5_handoverEnd_22 : decode cX5_handoverEnd 22 = .ok (.getfield 33, 3) := by decide +kernel
theorem dX5_handoverEnd_25 : decode cX5_handoverEnd 25 = .ok (.getfield 253, 3) := by decide +kernel
theorem dX5_handoverEnd_28 : decode cX5_handoverEnd 28 = .ok (.ireturn, 1) := by decide +kernel
theorem dX5_isPaused_0 : decode cX5_isPaused 0 = .ok (.aload_n 0, 1) := by decide +kernel
theorem dX5_isPaused_1 : decode cX5_isPaused 1 = .ok (.iload_n 1, 1) := by decide +kernel
theorem dX5_isPaused_2 : decode cX5_isPaused 2 = .ok (.invokevirtual 274, 3) := by decide +kernel
theorem dX5_isPaused_5 : decode cX5_isPaused 5 = .ok (.aload_n 0, 1) := by decide +kernel
theorem dX5_isPaused_6 : decode cX5_isPaused 6 = .ok (.iload_n 1, 1) := by decide +kernel
theorem dX5_isPaused_7 : decode cX5_isPaused 7 = .ok (.invokevirtual 195, 3) := by decide +kernel
theorem dX5_isPaused_10 : decode cX5_isPaused 10 = .ok (.ireturn, 1) := by decide +kernel
theorem dX5_workedOn_0 : decode cX5_workedOn 0 = .ok (.aload_n 0, 1) := by decide +kernel
theorem dX5_workedOn_1 : decode cX5_workedOn 1 = .ok (.iload_n 1, 1) := by decide +kernel
theorem dX5_workedOn_2 : decode cX5_workedOn 2 = .ok (.invokevirtual 102, 3) := by decide +kernel
theorem dX5_workedOn_5 : decode cX5_workedOn 5 = .ok (.aload_n 0, 1) := by decide +kernel
theorem dX5_workedOn_6 : decode cX5_workedOn 6 = .ok (.getfield 26, 3) := by decide +kernel
theorem dX5_workedOn_9 : decode cX5_workedOn 9 = .ok (.getfield 236, 3) := by decide +kernel
theorem dX5_workedOn_12 : decode cX5_workedOn 12 = .ok (.iload_n 1, 1) := by decide +kernel
theorem dX5_workedOn_13 : decode cX5_workedOn 13 = .ok (.caload, 1) := by decide +kernel
theorem dX5_workedOn_14 : decode cX5_workedOn 14 = .ok (.bipush 97, 2) := by decide +kernel
theorem dX5_workedOn_16 : decode cX5_workedOn 16 = .ok (.if_icmp .eq 14, 3) := by decide +kernel
theorem dX5_workedOn_19 : decode cX5_workedOn 19 = .ok (.new 59, 3) := by decide +kernel
theorem dX5_workedOn_22 : decode cX5_workedOn 22 = .ok (.dup, 1) := by decide +kernel
theorem dX5_workedOn_23 : decode cX5_workedOn 23 = .ok (.ldc_w 338, 3) := by decide +kernel
theorem dX5_workedOn_26 : decode cX5_workedOn 26 = .ok (.invokespecial 63, 3) := by decide +kernel
theorem dX5_workedOn_29 : decode cX5_workedOn 29 = .ok (.athrow, 1) := by decide +kernel
theorem dX5_workedOn_30 : decode cX5_workedOn 30 = .ok (.aload_n 0, 1) := by decide +kernel
theorem dX5_workedOn_31 : decode cX5_workedOn 31 = .ok (.getfield 26, 3) := by decide +kernel
theorem dX5_workedOn_34 : decode cX5_workedOn 34 = .ok (.getfield 222, 3) := by decide +kernel
theorem dX5_workedOn_37 : decode cX5_workedOn 37 = .ok (.iload_n 1, 1) := by decide +kernel
theorem dX5_workedOn_38 : decode cX5_workedOn 38 = .ok (.iaload, 1) := by decide +kernel
theorem dX5_workedOn_39 : decode cX5_workedOn 39 = .ok (.ireturn, 1) := by decide +kernel
theorem dX5_lastDone_0 : decode cX5_lastDone 0 = .ok (.aload_n 0, 1) := by decide +kernel
theorem dX5_lastDone_1 : decode cX5_lastDone 1 = .ok (.invokevirtual 163, 3) := by decide +kernel
theorem dX5_lastDone_4 : decode cX5_lastDone 4 = .ok (.aload_n 0, 1) := by decide +kernel
theorem dX5_lastDone_5 : decode cX5_lastDone 5 = .ok (.getfield 26, 3) := by decide +kernel
theorem dX5_lastDone_8 : decode cX5_lastDone 8 = .ok (.invokevirtual 340, 3) := by decide +kernel
theorem dX5_lastDone_11 : decode cX5_lastDone 11 = .ok (.istore_n 1, 1) := by decide +kernel
theorem dX5_lastDone_12 : decode cX5_lastDone 12 = .ok (.iload_n 1, 1) := by decide +kernel
theorem dX5_lastDone_13 : decode cX5_lastDone 13 = .ok (.iconst (-1), 1) := by decide +kernel
theorem dX5_lastDone_14 : decode cX5_lastDone 14 = .ok (.if_icmp .ne 14, 3) := by decide +kernel
theorem dX5_lastDone_17 : decode cX5_lastDone 17 = .ok (.new 59, 3) := by decide +kernel
theorem dX5_lastDone_20 : decode cX5_lastDone 20 = .ok (.dup, 1) := by decide +kernel
theorem dX5_lastDone_21 : decode cX5_lastDone 21 = .ok (.ldc_w 343, 3) := by decide +kernel
theorem dX5_lastDone_24 : decode cX5_lastDone 24 = .ok (.invokespecial 63, 3) := by decide +kernel
theorem dX5_lastDone_27 : decode cX5_lastDone 27 = .ok (.athrow, 1) := by decide +kernel
theorem dX5_lastDone_28 : decode cX5_lastDone 28 = .ok (.iload_n 1, 1) := by decide +kernel
theorem dX5_lastDone_29 : decode cX5_lastDone 29 = .ok (.ireturn, 1) := by decide +kernel
theorem dX5_entries_0 : decode cX5_entries 0 = .ok (.aload_n 0, 1) := by decide +kernel
theorem dX5_entries_1 : decode cX5_entries 1 = .ok (.getfield 40, 3) := by decide +kernel
theorem dX5_entries_4 : decode cX5_entries 4 = .ok (.getfield 154, 3) := by decide +kernel
theorem dX5_entries_7 : decode cX5_entries 7 = .ok (.ireturn, 1) := by decide +kernel
theorem dX5_signAt_0 : decode cX5_signAt 0 = .ok (.aload_n 0, 1) := by decide +kernel
theorem dX5_signAt_1 : decode cX5_signAt 1 = .ok (.iload_n 1, 1) := by decide +kernel
theorem dX5_signAt_2 : decode cX5_signAt 2 = .ok (.invokevirtual 345, 3) := by decide +kernel
theorem dX5_signAt_5 : decode cX5_signAt 5 = .ok (.aload_n 0, 1) := by decide +kernel
theorem dX5_signAt_6 : decode cX5_signAt 6 = .ok (.getfield 40, 3) := by decide +kernel
theorem dX5_signAt_9 : decode cX5_signAt 9 = .ok (.getfield 348, 3) := by decide +kernel
theorem dX5_signAt_12 : decode cX5_signAt 12 = .ok (.iload_n 1, 1) := by decide +kernel
theorem dX5_signAt_13 : decode cX5_signAt 13 = .ok (.caload, 1) := by decide +kernel
theorem dX5_signAt_14 : decode cX5_signAt 14 = .ok (.ireturn, 1) := by decide +kernel
theorem dX5_stepAt_0 : decode cX5_stepAt 0 = .ok (.aload_n 0, 1) := by decide +kernel
theorem dX5_stepAt_1 : decode cX5_stepAt 1 = .ok (.iload_n 1, 1) := by decide +kernel
theorem dX5_stepAt_2 : decode cX5_stepAt 2 = .ok (.invokevirtual 345, 3) := by decide +kernel
theorem dX5_stepAt_5 : decode cX5_stepAt 5 = .ok (.aload_n 0, 1) := by decide +kernel
theorem dX5_stepAt_6 : decode cX5_stepAt 6 = .ok (.getfield 40, 3) := by decide +kernel
theorem dX5_stepAt_9 : decode cX5_stepAt 9 = .ok (.getfield 351, 3) := by decide +kernel
theorem dX5_stepAt_12 : decode cX5_stepAt 12 = .ok (.iload_n 1, 1) := by decide +kernel
theorem dX5_stepAt_13 : decode cX5_stepAt 13 = .ok (.iaload, 1) := by decide +kernel
theorem dX5_stepAt_14 : decode cX5_stepAt 14 = .ok (.ireturn, 1) := by decide +kernel
theorem dX5_personAt_0 : decode cX5_personAt 0 = .ok (.aload_n 0, 1) := by decide +kernel
theorem dX5_personAt_1 : decode cX5_personAt 1 = .ok (.iload_n 1, 1) := by decide +kernel
theorem dX5_personAt_2 : decode cX5_personAt 2 = .ok (.invokevirtual 345, 3) := by decide +kernel
theorem dX5_personAt_5 : decode cX5_personAt 5 = .ok (.aload_n 0, 1) := by decide +kernel
theorem dX5_personAt_6 : decode cX5_personAt 6 = .ok (.getfield 40, 3) := by decide +kernel
theorem dX5_personAt_9 : decode cX5_personAt 9 = .ok (.getfield 354, 3) := by decide +kernel
theorem dX5_personAt_12 : decode cX5_personAt 12 = .ok (.iload_n 1, 1) := by decide +kernel
theorem dX5_personAt_13 : decode cX5_personAt 13 = .ok (.iaload, 1) := by decide +kernel
theorem dX5_personAt_14 : decode cX5_personAt 14 = .ok (.ireturn, 1) := by decide +kernel
theorem dX5_minuteAt_0 : decode cX5_minuteAt 0 = .ok (.aload_n 0, 1) := by decide +kernel
theorem dX5_minuteAt_1 : decode cX5_minuteAt 1 = .ok (.iload_n 1, 1) := by decide +kernel
theorem dX5_minuteAt_2 : decode cX5_minuteAt 2 = .ok (.invokevirtual 345, 3) := by decide +kernel
theorem dX5_minuteAt_5 : decode cX5_minuteAt 5 = .ok (.aload_n 0, 1) := by decide +kernel
theorem dX5_minuteAt_6 : decode cX5_minuteAt 6 = .ok (.getfield 40, 3) := by decide +kernel
theorem dX5_minuteAt_9 : decode cX5_minuteAt 9 = .ok (.getfield 357, 3) := by decide +kernel
theorem dX5_minuteAt_12 : decode cX5_minuteAt 12 = .ok (.iload_n 1, 1) := by decide +kernel
theorem dX5_minuteAt_13 : decode cX5_minuteAt 13 = .ok (.iaload, 1) := by decide +kernel
theorem dX5_minuteAt_14 : decode cX5_minuteAt 14 = .ok (.ireturn, 1) := by decide +kernel
theorem dX5_stateByLog_0 : decode cX5_stateByLog 0 = .ok (.aload_n 0, 1) := by decide +kernel
theorem dX5_stateByLog_1 : decode cX5_stateByLog 1 = .ok (.iload_n 1, 1) := by decide +kernel
theorem dX5_stateByLog_2 : decode cX5_stateByLog 2 = .ok (.invokevirtual 300, 3) := by decide +kernel
theorem dX5_stateByLog_5 : decode cX5_stateByLog 5 = .ok (.aload_n 0, 1) := by decide +kernel
theorem dX5_stateByLog_6 : decode cX5_stateByLog 6 = .ok (.getfield 40, 3) := by decide +kernel
theorem dX5_stateByLog_9 : decode cX5_stateByLog 9 = .ok (.iload_n 1, 1) := by decide +kernel
theorem dX5_stateByLog_10 : decode cX5_stateByLog 10 = .ok (.aload_n 0, 1) := by decide +kernel
theorem dX5_stateByLog_11 : decode cX5_stateByLog 11 = .ok (.getfield 26, 3) := by decide +kernel
theorem dX5_stateByLog_14 : decode cX5_stateByLog 14 = .ok (.getfield 360, 3) := by decide +kernel
theorem dX5_stateByLog_17 : decode cX5_stateByLog 17 = .ok (.iload_n 1, 1) := by decide +kernel
theorem dX5_stateByLog_18 : decode cX5_stateByLog 18 = .ok (.baload, 1) := by decide +kernel
theorem dX5_stateByLog_19 : decode cX5_stateByLog 19 = .ok (.ifCond .eq 8, 3) := by decide +kernel
theorem dX5_stateByLog_22 : decode cX5_stateByLog 22 = .ok (.bipush 111, 2) := by decide +kernel
theorem dX5_stateByLog_24 : decode cX5_stateByLog 24 = .ok (.goto 5, 3) := by decide +kernel
theorem dX5_stateByLog_27 : decode cX5_stateByLog 27 = .ok (.bipush 119, 2) := by decide +kernel
theorem dX5_stateByLog_29 : decode cX5_stateByLog 29 = .ok (.invokevirtual 363, 3) := by decide +kernel
theorem dX5_stateByLog_32 : decode cX5_stateByLog 32 = .ok (.ireturn, 1) := by decide +kernel
theorem dX5_triesByLog_0 : decode cX5_triesByLog 0 = .ok (.aload_n 0, 1) := by decide +kernel
theorem dX5_triesByLog_1 : decode cX5_triesByLog 1 = .ok (.iload_n 1, 1) := by decide +kernel
theorem dX5_triesByLog_2 : decode cX5_triesByLog 2 = .ok (.invokevirtual 300, 3) := by decide +kernel
theorem dX5_triesByLog_5 : decode cX5_triesByLog 5 = .ok (.aload_n 0, 1) := by decide +kernel
theorem dX5_triesByLog_6 : decode cX5_triesByLog 6 = .ok (.getfield 40, 3) := by decide +kernel
theorem dX5_triesByLog_9 : decode cX5_triesByLog 9 = .ok (.iload_n 1, 1) := by decide +kernel
theorem dX5_triesByLog_10 : decode cX5_triesByLog 10 = .ok (.invokevirtual 367, 3) := by decide +kernel
theorem dX5_triesByLog_13 : decode cX5_triesByLog 13 = .ok (.ireturn, 1) := by decide +kernel
theorem dX5_labelLength_0 : decode cX5_labelLength 0 = .ok (.aload_n 0, 1) := by decide +kernel
theorem dX5_labelLength_1 : decode cX5_labelLength 1 = .ok (.iload_n 1, 1) := by decide +kernel
theorem dX5_labelLength_2 : decode cX5_labelLength 2 = .ok (.invokevirtual 102, 3) := by decide +kernel
theorem dX5_labelLength_5 : decode cX5_labelLength 5 = .ok (.aload_n 0, 1) := by decide +kernel
theorem dX5_labelLength_6 : decode cX5_labelLength 6 = .ok (.getfield 19, 3) := by decide +kernel
theorem dX5_labelLength_9 : decode cX5_labelLength 9 = .ok (.iload_n 1, 1) := by decide +kernel
theorem dX5_labelLength_10 : decode cX5_labelLength 10 = .ok (.invokevirtual 370, 3) := by decide +kernel
theorem dX5_labelLength_13 : decode cX5_labelLength 13 = .ok (.invokevirtual 374, 3) := by decide +kernel
theorem dX5_labelLength_16 : decode cX5_labelLength 16 = .ok (.ireturn, 1) := by decide +kernel
theorem dX5_labelAt_0 : decode cX5_labelAt 0 = .ok (.aload_n 0, 1) := by decide +kernel
theorem dX5_labelAt_1 : decode cX5_labelAt 1 = .ok (.iload_n 1, 1) := by decide +kernel
theorem dX5_labelAt_2 : decode cX5_labelAt 2 = .ok (.invokevirtual 102, 3) := by decide +kernel
theorem dX5_labelAt_5 : decode cX5_labelAt 5 = .ok (.aload_n 0, 1) := by decide +kernel
theorem dX5_labelAt_6 : decode cX5_labelAt 6 = .ok (.getfield 19, 3) := by decide +kernel
theorem dX5_labelAt_9 : decode cX5_labelAt 9 = .ok (.iload_n 1, 1) := by decide +kernel
theorem dX5_labelAt_10 : decode cX5_labelAt 10 = .ok (.invokevirtual 370, 3) := by decide +kernel
theorem dX5_labelAt_13 : decode cX5_labelAt 13 = .ok (.astore_n 3, 1) := by decide +kernel
theorem dX5_labelAt_14 : decode cX5_labelAt 14 = .ok (.iload_n 2, 1) := by decide +kernel
theorem dX5_labelAt_15 : decode cX5_labelAt 15 = .ok (.ifCond .lt 11, 3) := by decide +kernel
theorem dX5_labelAt_18 : decode cX5_labelAt 18 = .ok (.iload_n 2, 1) := by decide +kernel
theorem dX5_labelAt_19 : decode cX5_labelAt 19 = .ok (.aload_n 3, 1) := by decide +kernel
theorem dX5_labelAt_20 : decode cX5_labelAt 20 = .ok (.invokevirtual 374, 3) := by decide +kernel
theorem dX5_labelAt_23 : decode cX5_labelAt 23 = .ok (.if_icmp .lt 14, 3) := by decide +kernel
theorem dX5_labelAt_26 : decode cX5_labelAt 26 = .ok (.new 283, 3) := by decide +kernel
theorem dX5_labelAt_29 : decode cX5_labelAt 29 = .ok (.dup, 1) := by decide +kernel
theorem dX5_labelAt_30 : decode cX5_labelAt 30 = .ok (.ldc_w 379, 3) := by decide +kernel
theorem dX5_labelAt_33 : decode cX5_labelAt 33 = .ok (.invokespecial 287, 3) := by decide +kernel
theorem dX5_labelAt_36 : decode cX5_labelAt 36 = .ok (.athrow, 1) := by decide +kernel
theorem dX5_labelAt_37 : decode cX5_labelAt 37 = .ok (.aload_n 3, 1) := by decide +kernel
theorem dX5_labelAt_38 : decode cX5_labelAt 38 = .ok (.iload_n 2, 1) := by decide +kernel
theorem dX5_labelAt_39 : decode cX5_labelAt 39 = .ok (.invokevirtual 381, 3) := by decide +kernel
theorem dX5_labelAt_42 : decode cX5_labelAt 42 = .ok (.ireturn, 1) := by decide +kernel
theorem dX5_workedMinutes_0 : decode cX5_workedMinutes 0 = .ok (.aload_n 0, 1) := by decide +kernel
theorem dX5_workedMinutes_1 : decode cX5_workedMinutes 1 = .ok (.getfield 385, 3) := by decide +kernel
theorem dX5_workedMinutes_4 : decode cX5_workedMinutes 4 = .ok (.lreturn, 1) := by decide +kernel
theorem dX5_doneShare_0 : decode cX5_doneShare 0 = .ok (.aload_n 0, 1) := by decide +kernel
theorem dX5_doneShare_1 : decode cX5_doneShare 1 = .ok (.invokevirtual 163, 3) := by decide +kernel
theorem dX5_doneShare_4 : decode cX5_doneShare 4 = .ok (.aload_n 0, 1) := by decide +kernel
theorem dX5_doneShare_5 : decode cX5_doneShare 5 = .ok (.getfield 26, 3) := by decide +kernel
theorem dX5_doneShare_8 : decode cX5_doneShare 8 = .ok (.getfield 175, 3) := by decide +kernel
theorem dX5_doneShare_11 : decode cX5_doneShare 11 = .ok (.i2f, 1) := by decide +kernel
theorem dX5_doneShare_12 : decode cX5_doneShare 12 = .ok (.aload_n 0, 1) := by decide +kernel
theorem dX5_doneShare_13 : decode cX5_doneShare 13 = .ok (.getfield 26, 3) := by decide +kernel
theorem dX5_doneShare_16 : decode cX5_doneShare 16 = .ok (.invokevirtual 389, 3) := by decide +kernel
theorem dX5_doneShare_19 : decode cX5_doneShare 19 = .ok (.i2f, 1) := by decide +kernel
theorem dX5_doneShare_20 : decode cX5_doneShare 20 = .ok (.fdiv, 1) := by decide +kernel
theorem dX5_doneShare_21 : decode cX5_doneShare 21 = .ok (.freturn, 1) := by decide +kernel
theorem dX5_meanTries_0 : decode cX5_meanTries 0 = .ok (.aload_n 0, 1) := by decide +kernel
theorem dX5_meanTries_1 : decode cX5_meanTries 1 = .ok (.invokevirtual 163, 3) := by decide +kernel
theorem dX5_meanTries_4 : decode cX5_meanTries 4 = .ok (.aload_n 0, 1) := by decide +kernel
theorem dX5_meanTries_5 : decode cX5_meanTries 5 = .ok (.getfield 26, 3) := by decide +kernel
theorem dX5_meanTries_8 : decode cX5_meanTries 8 = .ok (.invokevirtual 392, 3) := by decide +kernel
theorem dX5_meanTries_11 : decode cX5_meanTries 11 = .ok (.i2d, 1) := by decide +kernel
theorem dX5_meanTries_12 : decode cX5_meanTries 12 = .ok (.aload_n 0, 1) := by decide +kernel
theorem dX5_meanTries_13 : decode cX5_meanTries 13 = .ok (.getfield 26, 3) := by decide +kernel
theorem dX5_meanTries_16 : decode cX5_meanTries 16 = .ok (.invokevirtual 389, 3) := by decide +kernel
theorem dX5_meanTries_19 : decode cX5_meanTries 19 = .ok (.i2d, 1) := by decide +kernel
theorem dX5_meanTries_20 : decode cX5_meanTries 20 = .ok (.ddiv, 1) := by decide +kernel
theorem dX5_meanTries_21 : decode cX5_meanTries 21 = .ok (.dreturn, 1) := by decide +kernel
theorem dX5_requirePerson_0 : decode cX5_requirePerson 0 = .ok (.aload_n 0, 1) := by decide +kernel
theorem dX5_requirePerson_1 : decode cX5_requirePerson 1 = .ok (.getfield 10, 3) := by decide +kernel
theorem dX5_requirePerson_4 : decode cX5_requirePerson 4 = .ok (.iload_n 1, 1) := by decide +kernel
theorem dX5_requirePerson_5 : decode cX5_requirePerson 5 = .ok (.invokevirtual 395, 3) := by decide +kernel
theorem dX5_requirePerson_8 : decode cX5_requirePerson 8 = .ok (.ifCond .ne 14, 3) := by decide +kernel
theorem dX5_requirePerson_11 : decode cX5_requirePerson 11 = .ok (.new 396, 3) := by decide +kernel
theorem dX5_requirePerson_14 : decode cX5_requirePerson 14 = .ok (.dup, 1) := by decide +kernel
theorem dX5_requirePerson_15 : decode cX5_requirePerson 15 = .ok (.ldc_w 398, 3) := by decide +kernel
theorem dX5_requirePerson_18 : decode cX5_requirePerson 18 = .ok (.invokespecial 400, 3) := by decide +kernel
theorem dX5_requirePerson_21 : decode cX5_requirePerson 21 = .ok (.athrow, 1) := by decide +kernel
theorem dX5_requirePerson_22 : decode cX5_requirePerson 22 = .ok (.return_, 1) := by decide +kernel
theorem dX5_requireStep_0 : decode cX5_requireStep 0 = .ok (.aload_n 0, 1) := by decide +kernel
theorem dX5_requireStep_1 : decode cX5_requireStep 1 = .ok (.getfield 19, 3) := by decide +kernel
theorem dX5_requireStep_4 : decode cX5_requireStep 4 = .ok (.iload_n 1, 1) := by decide +kernel
theorem dX5_requireStep_5 : decode cX5_requireStep 5 = .ok (.invokevirtual 217, 3) := by decide +kernel
theorem dX5_requireStep_8 : decode cX5_requireStep 8 = .ok (.ifCond .ne 14, 3) := by decide +kernel
theorem dX5_requireStep_11 : decode cX5_requireStep 11 = .ok (.new 396, 3) := by decide +kernel
theorem dX5_requireStep_14 : decode cX5_requireStep 14 = .ok (.dup, 1) := by decide +kernel
theorem dX5_requireStep_15 : decode cX5_requireStep 15 = .ok (.ldc_w 401, 3) := by decide +kernel
theorem dX5_requireStep_18 : decode cX5_requireStep 18 = .ok (.invokespecial 400, 3) := by decide +kernel
theorem dX5_requireStep_21 : decode cX5_requireStep 21 = .ok (.athrow, 1) := by decide +kernel
theorem dX5_requireStep_22 : decode cX5_requireStep 22 = .ok (.return_, 1) := by decide +kernel
theorem dX5_requireStepOfRun_0 : decode cX5_requireStepOfRun 0 = .ok (.aload_n 0, 1) := by decide +kernel
theorem dX5_requireStepOfRun_1 : decode cX5_requireStepOfRun 1 = .ok (.iload_n 1, 1) := by decide +kernel
theorem dX5_requireStepOfRun_2 : decode cX5_requireStepOfRun 2 = .ok (.invokevirtual 102, 3) := by decide +kernel
theorem dX5_requireStepOfRun_5 : decode cX5_requireStepOfRun 5 = .ok (.aload_n 0, 1) := by decide +kernel
theorem dX5_requireStepOfRun_6 : decode cX5_requireStepOfRun 6 = .ok (.getfield 26, 3) := by decide +kernel
theorem dX5_requireStepOfRun_9 : decode cX5_requireStepOfRun 9 = .ok (.iload_n 1, 1) := by decide +kernel
theorem dX5_requireStepOfRun_10 : decode cX5_requireStepOfRun 10 = .ok (.invokevirtual 403, 3) := by decide +kernel
theorem dX5_requireStepOfRun_13 : decode cX5_requireStepOfRun 13 = .ok (.ifCond .ne 14, 3) := by decide +kernel
theorem dX5_requireStepOfRun_16 : decode cX5_requireStepOfRun 16 = .ok (.new 59, 3) := by decide +kernel
theorem dX5_requireStepOfRun_19 : decode cX5_requireStepOfRun 19 = .ok (.dup, 1) := by decide +kernel
theorem dX5_requireStepOfRun_20 : decode cX5_requireStepOfRun 20 = .ok (.ldc_w 404, 3) := by decide +kernel
theorem dX5_requireStepOfRun_23 : decode cX5_requireStepOfRun 23 = .ok (.invokespecial 63, 3) := by decide +kernel
theorem dX5_requireStepOfRun_26 : decode cX5_requireStepOfRun 26 = .ok (.athrow, 1) := by decide +kernel
theorem dX5_requireStepOfRun_27 : decode cX5_requireStepOfRun 27 = .ok (.return_, 1) := by decide +kernel
theorem dX5_requireEntry_0 : decode cX5_requireEntry 0 = .ok (.aload_n 0, 1) := by decide +kernel
theorem dX5_requireEntry_1 : decode cX5_requireEntry 1 = .ok (.getfield 40, 3) := by decide +kernel
theorem dX5_requireEntry_4 : decode cX5_requireEntry 4 = .ok (.iload_n 1, 1) := by decide +kernel
theorem dX5_requireEntry_5 : decode cX5_requireEntry 5 = .ok (.invokevirtual 406, 3) := by decide +kernel
theorem dX5_requireEntry_8 : decode cX5_requireEntry 8 = .ok (.ifCond .ne 14, 3) := by decide +kernel
theorem dX5_requireEntry_11 : decode cX5_requireEntry 11 = .ok (.new 396, 3) := by decide +kernel
theorem dX5_requireEntry_14 : decode cX5_requireEntry 14 = .ok (.dup, 1) := by decide +kernel
theorem dX5_requireEntry_15 : decode cX5_requireEntry 15 = .ok (.ldc_w 407, 3) := by decide +kernel
theorem dX5_requireEntry_18 : decode cX5_requireEntry 18 = .ok (.invokespecial 400, 3) := by decide +kernel
theorem dX5_requireEntry_21 : decode cX5_requireEntry 21 = .ok (.athrow, 1) := by decide +kernel
theorem dX5_requireEntry_22 : decode cX5_requireEntry 22 = .ok (.return_, 1) := by decide +kernel
theorem dX5_requireRole_0 : decode cX5_requireRole 0 = .ok (.iload_n 1, 1) := by decide +kernel
theorem dX5_requireRole_1 : decode cX5_requireRole 1 = .ok (.invokestatic 85, 3) := by decide +kernel
theorem dX5_requireRole_4 : decode cX5_requireRole 4 = .ok (.ifCond .ne 14, 3) := by decide +kernel
theorem dX5_requireRole_7 : decode cX5_requireRole 7 = .ok (.new 48, 3) := by decide +kernel
theorem dX5_requireRole_10 : decode cX5_requireRole 10 = .ok (.dup, 1) := by decide +kernel
theorem dX5_requireRole_11 : decode cX5_requireRole 11 = .ok (.ldc_w 409, 3) := by decide +kernel
theorem dX5_requireRole_14 : decode cX5_requireRole 14 = .ok (.invokespecial 52, 3) := by decide +kernel
theorem dX5_requireRole_17 : decode cX5_requireRole 17 = .ok (.athrow, 1) := by decide +kernel
theorem dX5_requireRole_18 : decode cX5_requireRole 18 = .ok (.return_, 1) := by decide +kernel
theorem dX5_requireRun_0 : decode cX5_requireRun 0 = .ok (.aload_n 0, 1) := by decide +kernel
theorem dX5_requireRun_1 : decode cX5_requireRun 1 = .ok (.getfield 155, 3) := by decide +kernel
theorem dX5_requireRun_4 : decode cX5_requireRun 4 = .ok (.ifCond .ne 14, 3) := by decide +kernel
theorem dX5_requireRun_7 : decode cX5_requireRun 7 = .ok (.new 59, 3) := by decide +kernel
theorem dX5_requireRun_10 : decode cX5_requireRun 10 = .ok (.dup, 1) := by decide +kernel
theorem dX5_requireRun_11 : decode cX5_requireRun 11 = .ok (.ldc_w 411, 3) := by decide +kernel
theorem dX5_requireRun_14 : decode cX5_requireRun 14 = .ok (.invokespecial 63, 3) := by decide +kernel
theorem dX5_requireRun_17 : decode cX5_requireRun 17 = .ok (.athrow, 1) := by decide +kernel
theorem dX5_requireRun_18 : decode cX5_requireRun 18 = .ok (.return_, 1) := by decide +kernel
theorem dX5_requireNoRun_0 : decode cX5_requireNoRun 0 = .ok (.aload_n 0, 1) := by decide +kernel
theorem dX5_requireNoRun_1 : decode cX5_requireNoRun 1 = .ok (.getfield 155, 3) := by decide +kernel
theorem dX5_requireNoRun_4 : decode cX5_requireNoRun 4 = .ok (.ifCond .eq 14, 3) := by decide +kernel
theorem dX5_requireNoRun_7 : decode cX5_requireNoRun 7 = .ok (.new 59, 3) := by decide +kernel
theorem dX5_requireNoRun_10 : decode cX5_requireNoRun 10 = .ok (.dup, 1) := by decide +kernel
theorem dX5_requireNoRun_11 : decode cX5_requireNoRun 11 = .ok (.ldc_w 413, 3) := by decide +kernel
theorem dX5_requireNoRun_14 : decode cX5_requireNoRun 14 = .ok (.invokespecial 63, 3) := by decide +kernel
theorem dX5_requireNoRun_17 : decode cX5_requireNoRun 17 = .ok (.athrow, 1) := by decide +kernel
theorem dX5_requireNoRun_18 : decode cX5_requireNoRun 18 = .ok (.return_, 1) := by decide +kernel
theorem dX5_isRole_0 : decode cX5_isRole 0 = .ok (.iload_n 0, 1) := by decide +kernel
theorem dX5_isRole_1 : decode cX5_isRole 1 = .ok (.ifCond .lt 12, 3) := by decide +kernel
theorem dX5_isRole_4 : decode cX5_isRole 4 = .ok (.iload_n 0, 1) := by decide +kernel
theorem dX5_isRole_5 : decode cX5_isRole 5 = .ok (.iconst 4, 1) := by decide +kernel
theorem dX5_isRole_6 : decode cX5_isRole 6 = .ok (.if_icmp .ge 7, 3) := by decide +kernel
theorem dX5_isRole_9 : decode cX5_isRole 9 = .ok (.iconst 1, 1) := by decide +kernel
theorem dX5_isRole_10 : decode cX5_isRole 10 = .ok (.goto 4, 3) := by decide +kernel
theorem dX5_isRole_13 : decode cX5_isRole 13 = .ok (.iconst 0, 1) := by decide +kernel
theorem dX5_isRole_14 : decode cX5_isRole 14 = .ok (.ireturn, 1) := by decide +kernel
theorem dX5_isSensor_0 : decode cX5_isSensor 0 = .ok (.iload_n 0, 1) := by decide +kernel
theorem dX5_isSensor_1 : decode cX5_isSensor 1 = .ok (.ifCond .lt 13, 3) := by decide +kernel
theorem dX5_isSensor_4 : decode cX5_isSensor 4 = .ok (.iload_n 0, 1) := by decide +kernel
theorem dX5_isSensor_5 : decode cX5_isSensor 5 = .ok (.bipush 6, 2) := by decide +kernel
theorem dX5_isSensor_7 : decode cX5_isSensor 7 = .ok (.if_icmp .ge 7, 3) := by decide +kernel
theorem dX5_isSensor_10 : decode cX5_isSensor 10 = .ok (.iconst 1, 1) := by decide +kernel
theorem dX5_isSensor_11 : decode cX5_isSensor 11 = .ok (.goto 4, 3) := by decide +kernel
theorem dX5_isSensor_14 : decode cX5_isSensor 14 = .ok (.iconst 0, 1) := by decide +kernel
theorem dX5_isSensor_15 : decode cX5_isSensor 15 = .ok (.ireturn, 1) := by decide +kernel
theorem dX5_isReading_0 : decode cX5_isReading 0 = .ok (.iload_n 0, 1) := by decide +kernel
theorem dX5_isReading_1 : decode cX5_isReading 1 = .ok (.sipush (-999), 3) := by decide +kernel
theorem dX5_isReading_4 : decode cX5_isReading 4 = .ok (.if_icmp .lt 14, 3) := by decide +kernel
theorem dX5_isReading_7 : decode cX5_isReading 7 = .ok (.iload_n 0, 1) := by decide +kernel
theorem dX5_isReading_8 : decode cX5_isReading 8 = .ok (.sipush 999, 3) := by decide +kernel
theorem dX5_isReading_11 : decode cX5_isReading 11 = .ok (.if_icmp .gt 7, 3) := by decide +kernel
theorem dX5_isReading_14 : decode cX5_isReading 14 = .ok (.iconst 1, 1) := by decide +kernel
theorem dX5_isReading_15 : decode cX5_isReading 15 = .ok (.goto 4, 3) := by decide +kernel
theorem dX5_isReading_18 : decode cX5_isReading 18 = .ok (.iconst 0, 1) := by decide +kernel
theorem dX5_isReading_19 : decode cX5_isReading 19 = .ok (.ireturn, 1) := by decide +kernel
theorem dX5_passMinute_0 : decode cX5_passMinute 0 = .ok (.aload_n 0, 1) := by decide +kernel
theorem dX5_passMinute_1 : decode cX5_passMinute 1 = .ok (.dup, 1) := by decide +kernel
theorem dX5_passMinute_2 : decode cX5_passMinute 2 = .ok (.getfield 207, 3) := by decide +kernel
theorem dX5_passMinute_5 : decode cX5_passMinute 5 = .ok (.iconst 1, 1) := by decide +kernel
theorem dX5_passMinute_6 : decode cX5_passMinute 6 = .ok (.iadd, 1) := by decide +kernel
theorem dX5_passMinute_7 : decode cX5_passMinute 7 = .ok (.putfield 207, 3) := by decide +kernel
theorem dX5_passMinute_10 : decode cX5_passMinute 10 = .ok (.aload_n 0, 1) := by decide +kernel
theorem dX5_passMinute_11 : decode cX5_passMinute 11 = .ok (.dup, 1) := by decide +kernel
theorem dX5_passMinute_12 : decode cX5_passMinute 12 = .ok (.getfield 385, 3) := by decide +kernel
theorem dX5_passMinute_15 : decode cX5_passMinute 15 = .ok (.aload_n 0, 1) := by decide +kernel
theorem dX5_passMinute_16 : decode cX5_passMinute 16 = .ok (.getfield 26, 3) := by decide +kernel
theorem dX5_passMinute_19 : decode cX5_passMinute 19 = .ok (.aload_n 0, 1) := by decide +kernel
theorem dX5_passMinute_20 : decode cX5_passMinute 20 = .ok (.invokevirtual 415, 3) := by decide +kernel
theorem dX5_passMinute_23 : decode cX5_passMinute 23 = .ok (.invokevirtual 418, 3) := by decide +kernel
theorem dX5_passMinute_26 : decode cX5_passMinute 26 = .ok (.i2l, 1) := by decide +kernel
theorem dX5_passMinute_27 : decode cX5_passMinute 27 = .ok (.ladd, 1) := by decide +kernel
theorem dX5_passMinute_28 : decode cX5_passMinute 28 = .ok (.putfield 385, 3) := by decide +kernel
theorem dX5_passMinute_31 : decode cX5_passMinute 31 = .ok (.aload_n 0, 1) := by decide +kernel
theorem dX5_passMinute_32 : decode cX5_passMinute 32 = .ok (.invokevirtual 421, 3) := by decide +kernel
theorem dX5_passMinute_35 : decode cX5_passMinute 35 = .ok (.istore_n 1, 1) := by decide +kernel
theorem dX5_passMinute_36 : decode cX5_passMinute 36 = .ok (.aload_n 0, 1) := by decide +kernel
theorem dX5_passMinute_37 : decode cX5_passMinute 37 = .ok (.getfield 33, 3) := by decide +kernel
theorem dX5_passMinute_40 : decode cX5_passMinute 40 = .ok (.invokevirtual 170, 3) := by decide +kernel
theorem dX5_passMinute_43 : decode cX5_passMinute 43 = .ok (.ifCond .eq 21, 3) := by decide +kernel
theorem dX5_passMinute_46 : decode cX5_passMinute 46 = .ok (.aload_n 0, 1) := by decide +kernel
theorem dX5_passMinute_47 : decode cX5_passMinute 47 = .ok (.getfield 33, 3) := by decide +kernel
theorem dX5_passMinute_50 : decode cX5_passMinute 50 = .ok (.getfield 253, 3) := by decide +kernel
theorem dX5_passMinute_53 : decode cX5_passMinute 53 = .ok (.aload_n 0, 1) := by decide +kernel
theorem dX5_passMinute_54 : decode cX5_passMinute 54 = .ok (.getfield 207, 3) := by decide +kernel
theorem dX5_passMinute_57 : decode cX5_passMinute 57 = .ok (.if_icmp .ne 7, 3) := by decide +kernel
theorem dX5_passMinute_60 : decode cX5_passMinute 60 = .ok (.aload_n 0, 1) := by decide +kernel
theorem dX5_passMinute_61 : decode cX5_passMinute 61 = .ok (.invokevirtual 424, 3) := by decide +kernel
theorem dX5_passMinute_64 : decode cX5_passMinute 64 = .ok (.iload_n 1, 1) := by decide +kernel
theorem dX5_passMinute_65 : decode cX5_passMinute 65 = .ok (.ireturn, 1) := by decide +kernel
theorem dX5_stepHeldUp_0 : decode cX5_stepHeldUp 0 = .ok (.aload_n 0, 1) := by decide +kernel
theorem dX5_stepHeldUp_1 : decode cX5_stepHeldUp 1 = .ok (.getfield 10, 3) := by decide +kernel
theorem dX5_stepHeldUp_4 : decode cX5_stepHeldUp 4 = .ok (.aload_n 0, 1) := by decide +kernel
theorem dX5_stepHeldUp_5 : decode cX5_stepHeldUp 5 = .ok (.getfield 33, 3) := by decide +kernel
theorem dX5_stepHeldUp_8 : decode cX5_stepHeldUp 8 = .ok (.getfield 427, 3) := by decide +kernel
theorem dX5_stepHeldUp_11 : decode cX5_stepHeldUp 11 = .ok (.invokevirtual 395, 3) := by decide +kernel
theorem dX5_stepHeldUp_14 : decode cX5_stepHeldUp 14 = .ok (.ifCond .eq 21, 3) := by decide +kernel
theorem dX5_stepHeldUp_17 : decode cX5_stepHeldUp 17 = .ok (.aload_n 0, 1) := by decide +kernel
theorem dX5_stepHeldUp_18 : decode cX5_stepHeldUp 18 = .ok (.getfield 10, 3) := by decide +kernel
theorem dX5_stepHeldUp_21 : decode cX5_stepHeldUp 21 = .ok (.getfield 200, 3) := by decide +kernel
theorem dX5_stepHeldUp_24 : decode cX5_stepHeldUp 24 = .ok (.aload_n 0, 1) := by decide +kernel
theorem dX5_stepHeldUp_25 : decode cX5_stepHeldUp 25 = .ok (.getfield 33, 3) := by decide +kernel
theorem dX5_stepHeldUp_28 : decode cX5_stepHeldUp 28 = .ok (.getfield 427, 3) := by decide +kernel
theorem dX5_stepHeldUp_31 : decode cX5_stepHeldUp 31 = .ok (.iaload, 1) := by decide +kernel
theorem dX5_stepHeldUp_32 : decode cX5_stepHeldUp 32 = .ok (.goto 4, 3) := by decide +kernel
theorem dX5_stepHeldUp_35 : decode cX5_stepHeldUp 35 = .ok (.iconst (-1), 1) := by decide +kernel
theorem dX5_stepHeldUp_36 : decode cX5_stepHeldUp 36 = .ok (.ireturn, 1) := by decide +kernel
theorem dX5_timeOutSteps_0 : decode cX5_timeOutSteps 0 = .ok (.iconst 0, 1) := by decide +kernel
theorem dX5_timeOutSteps_1 : decode cX5_timeOutSteps 1 = .ok (.istore_n 1, 1) := by decide +kernel
theorem dX5_timeOutSteps_2 : decode cX5_timeOutSteps 2 = .ok (.iconst 0, 1) := by decide +kernel
theorem dX5_timeOutSteps_3 : decode cX5_timeOutSteps 3 = .ok (.istore_n 2, 1) := by decide +kernel
theorem dX5_timeOutSteps_4 : decode cX5_timeOutSteps 4 = .ok (.iload_n 2, 1) := by decide +kernel
theorem dX5_timeOutSteps_5 : decode cX5_timeOutSteps 5 = .ok (.aload_n 0, 1) := by decide +kernel
theorem dX5_timeOutSteps_6 : decode cX5_timeOutSteps 6 = .ok (.getfield 26, 3) := by decide +kernel
theorem dX5_timeOutSteps_9 : decode cX5_timeOutSteps 9 = .ok (.getfield 430, 3) := by decide +kernel
theorem dX5_timeOutSteps_12 : decode cX5_timeOutSteps 12 = .ok (.if_icmp .ge 54, 3) := by decide +kernel
theorem dX5_timeOutSteps_15 : decode cX5_timeOutSteps 15 = .ok (.aload_n 0, 1) := by decide +kernel
theorem dX5_timeOutSteps_16 : decode cX5_timeOutSteps 16 = .ok (.getfield 26, 3) := by decide +kernel
theorem dX5_timeOutSteps_19 : decode cX5_timeOutSteps 19 = .ok (.getfield 236, 3) := by decide +kernel
theorem dX5_timeOutSteps_22 : decode cX5_timeOutSteps 22 = .ok (.iload_n 2, 1) := by decide +kernel
theorem dX5_timeOutSteps_23 : decode cX5_timeOutSteps 23 = .ok (.caload, 1) := by decide +kernel
theorem dX5_timeOutSteps_24 : decode cX5_timeOutSteps 24 = .ok (.bipush 97, 2) := by decide +kernel
theorem dX5_timeOutSteps_26 : decode cX5_timeOutSteps 26 = .ok (.if_icmp .ne 34, 3) := by decide +kernel
theorem dX5_timeOutSteps_29 : decode cX5_timeOutSteps 29 = .ok (.aload_n 0, 1) := by decide +kernel
theorem dX5_timeOutSteps_30 : decode cX5_timeOutSteps 30 = .ok (.getfield 26, 3) := by decide +kernel
theorem dX5_timeOutSteps_33 : decode cX5_timeOutSteps 33 = .ok (.getfield 222, 3) := by decide +kernel
theorem dX5_timeOutSteps_36 : decode cX5_timeOutSteps 36 = .ok (.iload_n 2, 1) := by decide +kernel
theorem dX5_timeOutSteps_37 : decode cX5_timeOutSteps 37 = .ok (.iaload, 1) := by decide +kernel
theorem dX5_timeOutSteps_38 : decode cX5_timeOutSteps 38 = .ok (.iconst 2, 1) := by decide +kernel
theorem dX5_timeOutSteps_39 : decode cX5_timeOutSteps 39 = .ok (.aload_n 0, 1) := by decide +kernel
theorem dX5_timeOutSteps_40 : decode cX5_timeOutSteps 40 = .ok (.getfield 19, 3) := by decide +kernel
theorem dX5_timeOutSteps_43 : decode cX5_timeOutSteps 43 = .ok (.getfield 214, 3) := by decide +kernel
theorem dX5_timeOutSteps_46 : decode cX5_timeOutSteps 46 = .ok (.iload_n 2, 1) := by decide +kernel
theorem dX5_timeOutSteps_47 : decode cX5_timeOutSteps 47 = .ok (.iaload, 1) := by decide +kernel
theorem dX5_timeOutSteps_48 : decode cX5_timeOutSteps 48 = .ok (.imul, 1) := by decide +kernel
theorem dX5_timeOutSteps_49 : decode cX5_timeOutSteps 49 = .ok (.if_icmp .lt 11, 3) := by decide +kernel
theorem dX5_timeOutSteps_52 : decode cX5_timeOutSteps 52 = .ok (.aload_n 0, 1) := by decide +kernel
theorem dX5_timeOutSteps_53 : decode cX5_timeOutSteps 53 = .ok (.iload_n 2, 1) := by decide +kernel
theorem dX5_timeOutSteps_54 : decode cX5_timeOutSteps 54 = .ok (.invokevirtual 233, 3) := by decide +kernel
theorem dX5_timeOutSteps_57 : decode cX5_timeOutSteps 57 = .ok (.iinc 1 1, 3) := by decide +kernel
theorem dX5_timeOutSteps_60 : decode cX5_timeOutSteps 60 = .ok (.iinc 2 1, 3) := by decide +kernel
theorem dX5_timeOutSteps_63 : decode cX5_timeOutSteps 63 = .ok (.goto (-59), 3) := by decide +kernel
theorem dX5_timeOutSteps_66 : decode cX5_timeOutSteps 66 = .ok (.iload_n 1, 1) := by decide +kernel
theorem dX5_timeOutSteps_67 : decode cX5_timeOutSteps 67 = .ok (.ireturn, 1) := by decide +kernel
theorem dX5_endHandover_0 : decode cX5_endHandover 0 = .ok (.aload_n 0, 1) := by decide +kernel
theorem dX5_endHandover_1 : decode cX5_endHandover 1 = .ok (.invokevirtual 415, 3) := by decide +kernel
theorem dX5_endHandover_4 : decode cX5_endHandover 4 = .ok (.istore_n 1, 1) := by decide +kernel
theorem dX5_endHandover_5 : decode cX5_endHandover 5 = .ok (.aload_n 0, 1) := by decide +kernel
theorem dX5_endHandover_6 : decode cX5_endHandover 6 = .ok (.getfield 10, 3) := by decide +kernel
theorem dX5_endHandover_9 : decode cX5_endHandover 9 = .ok (.aload_n 0, 1) := by decide +kernel
theorem dX5_endHandover_10 : decode cX5_endHandover 10 = .ok (.getfield 33, 3) := by decide +kernel
theorem dX5_endHandover_13 : decode cX5_endHandover 13 = .ok (.getfield 427, 3) := by decide +kernel
theorem dX5_endHandover_16 : decode cX5_endHandover 16 = .ok (.aload_n 0, 1) := by decide +kernel
theorem dX5_endHandover_17 : decode cX5_endHandover 17 = .ok (.getfield 33, 3) := by decide +kernel
theorem dX5_endHandover_20 : decode cX5_endHandover 20 = .ok (.getfield 431, 3) := by decide +kernel
theorem dX5_endHandover_23 : decode cX5_endHandover 23 = .ok (.invokevirtual 434, 3) := by decide +kernel
theorem dX5_endHandover_26 : decode cX5_endHandover 26 = .ok (.aload_n 0, 1) := by decide +kernel
theorem dX5_endHandover_27 : decode cX5_endHandover 27 = .ok (.getfield 40, 3) := by decide +kernel
theorem dX5_endHandover_30 : decode cX5_endHandover 30 = .ok (.bipush 103, 2) := by decide +kernel
theorem dX5_endHandover_32 : decode cX5_endHandover 32 = .ok (.iload_n 1, 1) := by decide +kernel
theorem dX5_endHandover_33 : decode cX5_endHandover 33 = .ok (.aload_n 0, 1) := by decide +kernel
theorem dX5_endHandover_34 : decode cX5_endHandover 34 = .ok (.getfield 33, 3) := by decide +kernel
theorem dX5_endHandover_37 : decode cX5_endHandover 37 = .ok (.getfield 431, 3) := by decide +kernel
theorem dX5_endHandover_40 : decode cX5_endHandover 40 = .ok (.aload_n 0, 1) := by decide +kernel
theorem dX5_endHandover_41 : decode cX5_endHandover 41 = .ok (.getfield 207, 3) := by decide +kernel
theorem dX5_endHandover_44 : decode cX5_endHandover 44 = .ok (.invokevirtual 210, 3) := by decide +kernel
theorem dX5_endHandover_47 : decode cX5_endHandover 47 = .ok (.aload_n 0, 1) := by decide +kernel
theorem dX5_endHandover_48 : decode cX5_endHandover 48 = .ok (.getfield 33, 3) := by decide +kernel
theorem dX5_endHandover_51 : decode cX5_endHandover 51 = .ok (.invokevirtual 438, 3) := by decide +kernel
theorem dX5_endHandover_54 : decode cX5_endHandover 54 = .ok (.return_, 1) := by decide +kernel
theorem dX5_completeStep_0 : decode cX5_completeStep 0 = .ok (.aload_n 0, 1) := by decide +kernel
theorem dX5_completeStep_1 : decode cX5_completeStep 1 = .ok (.getfield 10, 3) := by decide +kernel
theorem dX5_completeStep_4 : decode cX5_completeStep 4 = .ok (.iload_n 1, 1) := by decide +kernel
theorem dX5_completeStep_5 : decode cX5_completeStep 5 = .ok (.invokevirtual 441, 3) := by decide +kernel
theorem dX5_completeStep_8 : decode cX5_completeStep 8 = .ok (.aload_n 0, 1) := by decide +kernel
theorem dX5_completeStep_9 : decode cX5_completeStep 9 = .ok (.getfield 26, 3) := by decide +kernel
theorem dX5_completeStep_12 : decode cX5_completeStep 12 = .ok (.iload_n 1, 1) := by decide +kernel
theorem dX5_completeStep_13 : decode cX5_completeStep 13 = .ok (.invokevirtual 444, 3) := by decide +kernel
theorem dX5_completeStep_16 : decode cX5_completeStep 16 = .ok (.aload_n 0, 1) := by decide +kernel
theorem dX5_completeStep_17 : decode cX5_completeStep 17 = .ok (.getfield 40, 3) := by decide +kernel
theorem dX5_completeStep_20 : decode cX5_completeStep 20 = .ok (.bipush 100, 2) := by decide +kernel
theorem dX5_completeStep_22 : decode cX5_completeStep 22 = .ok (.iload_n 1, 1) := by decide +kernel
theorem dX5_completeStep_23 : decode cX5_completeStep 23 = .ok (.iconst (-1), 1) := by decide +kernel
theorem dX5_completeStep_24 : decode cX5_completeStep 24 = .ok (.aload_n 0, 1) := by decide +kernel
theorem dX5_completeStep_25 : decode cX5_completeStep 25 = .ok (.getfield 207, 3) := by decide +kernel
theorem dX5_completeStep_28 : decode cX5_completeStep 28 = .ok (.invokevirtual 210, 3) := by decide +kernel
theorem dX5_completeStep_31 : decode cX5_completeStep 31 = .ok (.return_, 1) := by decide +kernel
theorem dX5_failTry_0 : decode cX5_failTry 0 = .ok (.aload_n 0, 1) := by decide +kernel
theorem dX5_failTry_1 : decode cX5_failTry 1 = .ok (.getfield 10, 3) := by decide +kernel
theorem dX5_failTry_4 : decode cX5_failTry 4 = .ok (.iload_n 1, 1) := by decide +kernel
theorem dX5_failTry_5 : decode cX5_failTry 5 = .ok (.invokevirtual 441, 3) := by decide +kernel
theorem dX5_failTry_8 : decode cX5_failTry 8 = .ok (.aload_n 0, 1) := by decide +kernel
theorem dX5_failTry_9 : decode cX5_failTry 9 = .ok (.getfield 26, 3) := by decide +kernel
theorem dX5_failTry_12 : decode cX5_failTry 12 = .ok (.getfield 303, 3) := by decide +kernel
theorem dX5_failTry_15 : decode cX5_failTry 15 = .ok (.iload_n 1, 1) := by decide +kernel
theorem dX5_failTry_16 : decode cX5_failTry 16 = .ok (.dup2, 1) := by decide +kernel
theorem dX5_failTry_17 : decode cX5_failTry 17 = .ok (.iaload, 1) := by decide +kernel
theorem dX5_failTry_18 : decode cX5_failTry 18 = .ok (.iconst 1, 1) := by decide +kernel
theorem dX5_failTry_19 : decode cX5_failTry 19 = .ok (.iadd, 1) := by decide +kernel
theorem dX5_failTry_20 : decode cX5_failTry 20 = .ok (.iastore, 1) := by decide +kernel
theorem dX5_failTry_21 : decode cX5_failTry 21 = .ok (.aload_n 0, 1) := by decide +kernel
theorem dX5_failTry_22 : decode cX5_failTry 22 = .ok (.getfield 26, 3) := by decide +kernel
theorem dX5_failTry_25 : decode cX5_failTry 25 = .ok (.getfield 303, 3) := by decide +kernel
theorem dX5_failTry_28 : decode cX5_failTry 28 = .ok (.iload_n 1, 1) := by decide +kernel
theorem dX5_failTry_29 : decode cX5_failTry 29 = .ok (.iaload, 1) := by decide +kernel
theorem dX5_failTry_30 : decode cX5_failTry 30 = .ok (.aload_n 0, 1) := by decide +kernel
theorem dX5_failTry_31 : decode cX5_failTry 31 = .ok (.getfield 19, 3) := by decide +kernel
theorem dX5_failTry_34 : decode cX5_failTry 34 = .ok (.getfield 447, 3) := by decide +kernel
theorem dX5_failTry_37 : decode cX5_failTry 37 = .ok (.iload_n 1, 1) := by decide +kernel
theorem dX5_failTry_38 : decode cX5_failTry 38 = .ok (.iaload, 1) := by decide +kernel
theorem dX5_failTry_39 : decode cX5_failTry 39 = .ok (.if_icmp .ge 30, 3) := by decide +kernel
theorem dX5_failTry_42 : decode cX5_failTry 42 = .ok (.aload_n 0, 1) := by decide +kernel
theorem dX5_failTry_43 : decode cX5_failTry 43 = .ok (.getfield 26, 3) := by decide +kernel
theorem dX5_failTry_46 : decode cX5_failTry 46 = .ok (.getfield 236, 3) := by decide +kernel
theorem dX5_failTry_49 : decode cX5_failTry 49 = .ok (.iload_n 1, 1) := by decide +kernel
theorem dX5_failTry_50 : decode cX5_failTry 50 = .ok (.bipush 119, 2) := by decide +kernel
theorem dX5_failTry_52 : decode cX5_failTry 52 = .ok (.castore, 1) := by decide +kernel
theorem dX5_failTry_53 : decode cX5_failTry 53 = .ok (.aload_n 0, 1) := by decide +kernel
theorem dX5_failTry_54 : decode cX5_failTry 54 = .ok (.getfield 40, 3) := by decide +kernel
theorem dX5_failTry_57 : decode cX5_failTry 57 = .ok (.bipush 109, 2) := by decide +kernel
theorem dX5_failTry_59 : decode cX5_failTry 59 = .ok (.iload_n 1, 1) := by decide +kernel
theorem dX5_failTry_60 : decode cX5_failTry 60 = .ok (.iconst (-1), 1) := by decide +kernel
theorem dX5_failTry_61 : decode cX5_failTry 61 = .ok (.aload_n 0, 1) := by decide +kernel
theorem dX5_failTry_62 : decode cX5_failTry 62 = .ok (.getfield 207, 3) := by decide +kernel
theorem dX5_failTry_65 : decode cX5_failTry 65 = .ok (.invokevirtual 210, 3) := by decide +kernel
theorem dX5_failTry_68 : decode cX5_failTry 68 = .ok (.return_, 1) := by decide +kernel
theorem dX5_failTry_69 : decode cX5_failTry 69 = .ok (.aload_n 0, 1) := by decide +kernel
theorem dX5_failTry_70 : decode cX5_failTry 70 = .ok (.getfield 26, 3) := by decide +kernel
theorem dX5_failTry_73 : decode cX5_failTry 73 = .ok (.getfield 236, 3) := by decide +kernel
theorem dX5_failTry_76 : decode cX5_failTry 76 = .ok (.iload_n 1, 1) := by decide +kernel
theorem dX5_failTry_77 : decode cX5_failTry 77 = .ok (.bipush 102, 2) := by decide +kernel
theorem dX5_failTry_79 : decode cX5_failTry 79 = .ok (.castore, 1) := by decide +kernel
theorem dX5_failTry_80 : decode cX5_failTry 80 = .ok (.aload_n 0, 1) := by decide +kernel
theorem dX5_failTry_81 : decode cX5_failTry 81 = .ok (.getfield 40, 3) := by decide +kernel
theorem dX5_failTry_84 : decode cX5_failTry 84 = .ok (.bipush 102, 2) := by decide +kernel
theorem dX5_failTry_86 : decode cX5_failTry 86 = .ok (.iload_n 1, 1) := by decide +kernel
theorem dX5_failTry_87 : decode cX5_failTry 87 = .ok (.iconst (-1), 1) := by decide +kernel
theorem dX5_failTry_88 : decode cX5_failTry 88 = .ok (.aload_n 0, 1) := by decide +kernel
theorem dX5_failTry_89 : decode cX5_failTry 89 = .ok (.getfield 207, 3) := by decide +kernel
theorem dX5_failTry_92 : decode cX5_failTry 92 = .ok (.invokevirtual 210, 3) := by decide +kernel
theorem dX5_failTry_95 : decode cX5_failTry 95 = .ok (.aload_n 0, 1) := by decide +kernel
theorem dX5_failTry_96 : decode cX5_failTry 96 = .ok (.aload_n 0, 1) := by decide +kernel
theorem dX5_failTry_97 : decode cX5_failTry 97 = .ok (.getfield 19, 3) := by decide +kernel
theorem dX5_failTry_100 : decode cX5_failTry 100 = .ok (.getfield 143, 3) := by decide +kernel
theorem dX5_failTry_103 : decode cX5_failTry 103 = .ok (.iload_n 1, 1) := by decide +kernel
theorem dX5_failTry_104 : decode cX5_failTry 104 = .ok (.iaload, 1) := by decide +kernel
theorem dX5_failTry_105 : decode cX5_failTry 105 = .ok (.invokevirtual 450, 3) := by decide +kernel
theorem dX5_failTry_108 : decode cX5_failTry 108 = .ok (.return_, 1) := by decide +kernel
theorem dX5_callIn_0 : decode cX5_callIn 0 = .ok (.aload_n 0, 1) := by decide +kernel
theorem dX5_callIn_1 : decode cX5_callIn 1 = .ok (.getfield 26, 3) := by decide +kernel
theorem dX5_callIn_4 : decode cX5_callIn 4 = .ok (.iload_n 1, 1) := by decide +kernel
theorem dX5_callIn_5 : decode cX5_callIn 5 = .ok (.invokevirtual 403, 3) := by decide +kernel
theorem dX5_callIn_8 : decode cX5_callIn 8 = .ok (.ifCond .eq 43, 3) := by decide +kernel
theorem dX5_callIn_11 : decode cX5_callIn 11 = .ok (.aload_n 0, 1) := by decide +kernel
theorem dX5_callIn_12 : decode cX5_callIn 12 = .ok (.getfield 26, 3) := by decide +kernel
theorem dX5_callIn_15 : decode cX5_callIn 15 = .ok (.getfield 236, 3) := by decide +kernel
theorem dX5_callIn_18 : decode cX5_callIn 18 = .ok (.iload_n 1, 1) := by decide +kernel
theorem dX5_callIn_19 : decode cX5_callIn 19 = .ok (.caload, 1) := by decide +kernel
theorem dX5_callIn_20 : decode cX5_callIn 20 = .ok (.bipush 111, 2) := by decide +kernel
theorem dX5_callIn_22 : decode cX5_callIn 22 = .ok (.if_icmp .ne 29, 3) := by decide +kernel
theorem dX5_callIn_25 : decode cX5_callIn 25 = .ok (.aload_n 0, 1) := by decide +kernel
theorem dX5_callIn_26 : decode cX5_callIn 26 = .ok (.getfield 26, 3) := by decide +kernel
theorem dX5_callIn_29 : decode cX5_callIn 29 = .ok (.getfield 236, 3) := by decide +kernel
theorem dX5_callIn_32 : decode cX5_callIn 32 = .ok (.iload_n 1, 1) := by decide +kernel
theorem dX5_callIn_33 : decode cX5_callIn 33 = .ok (.bipush 119, 2) := by decide +kernel
theorem dX5_callIn_35 : decode cX5_callIn 35 = .ok (.castore, 1) := by decide +kernel
theorem dX5_callIn_36 : decode cX5_callIn 36 = .ok (.aload_n 0, 1) := by decide +kernel
theorem dX5_callIn_37 : decode cX5_callIn 37 = .ok (.getfield 40, 3) := by decide +kernel
theorem dX5_callIn_40 : decode cX5_callIn 40 = .ok (.bipush 101, 2) := by decide +kernel
theorem dX5_callIn_42 : decode cX5_callIn 42 = .ok (.iload_n 1, 1) := by decide +kernel
theorem dX5_callIn_43 : decode cX5_callIn 43 = .ok (.iconst (-1), 1) := by decide +kernel
theorem dX5_callIn_44 : decode cX5_callIn 44 = .ok (.aload_n 0, 1) := by decide +kernel
theorem dX5_callIn_45 : decode cX5_callIn 45 = .ok (.getfield 207, 3) := by decide +kernel
theorem dX5_callIn_48 : decode cX5_callIn 48 = .ok (.invokevirtual 210, 3) := by decide +kernel
theorem dX5_callIn_51 : decode cX5_callIn 51 = .ok (.return_, 1) := by decide +kernel
theorem dX5_canTakeOver_0 : decode cX5_canTakeOver 0 = .ok (.aload_n 0, 1) := by decide +kernel
theorem dX5_canTakeOver_1 : decode cX5_canTakeOver 1 = .ok (.getfield 10, 3) := by decide +kernel
theorem dX5_canTakeOver_4 : decode cX5_canTakeOver 4 = .ok (.getfield 200, 3) := by decide +kernel
theorem dX5_canTakeOver_7 : decode cX5_canTakeOver 7 = .ok (.iload_n 1, 1) := by decide +kernel
theorem dX5_canTakeOver_8 : decode cX5_canTakeOver 8 = .ok (.iaload, 1) := by decide +kernel
theorem dX5_canTakeOver_9 : decode cX5_canTakeOver 9 = .ok (.istore_n 3, 1) := by decide +kernel
theorem dX5_canTakeOver_10 : decode cX5_canTakeOver 10 = .ok (.aload_n 0, 1) := by decide +kernel
theorem dX5_canTakeOver_11 : decode cX5_canTakeOver 11 = .ok (.getfield 19, 3) := by decide +kernel
theorem dX5_canTakeOver_14 : decode cX5_canTakeOver 14 = .ok (.iload_n 3, 1) := by decide +kernel
theorem dX5_canTakeOver_15 : decode cX5_canTakeOver 15 = .ok (.invokevirtual 217, 3) := by decide +kernel
theorem dX5_canTakeOver_18 : decode cX5_canTakeOver 18 = .ok (.ifCond .eq 23, 3) := by decide +kernel
theorem dX5_canTakeOver_21 : decode cX5_canTakeOver 21 = .ok (.aload_n 0, 1) := by decide +kernel
theorem dX5_canTakeOver_22 : decode cX5_canTakeOver 22 = .ok (.getfield 10, 3) := by decide +kernel
theorem dX5_canTakeOver_25 : decode cX5_canTakeOver 25 = .ok (.iload_n 2, 1) := by decide +kernel
theorem dX5_canTakeOver_26 : decode cX5_canTakeOver 26 = .ok (.aload_n 0, 1) := by decide +kernel
theorem dX5_canTakeOver_27 : decode cX5_canTakeOver 27 = .ok (.getfield 19, 3) := by decide +kernel
theorem dX5_canTakeOver_30 : decode cX5_canTakeOver 30 = .ok (.getfield 178, 3) := by decide +kernel
theorem dX5_canTakeOver_33 : decode cX5_canTakeOver 33 = .ok (.iload_n 3, 1) := by decide +kernel
theorem dX5_canTakeOver_34 : decode cX5_canTakeOver 34 = .ok (.iaload, 1) := by decide +kernel
theorem dX5_canTakeOver_35 : decode cX5_canTakeOver 35 = .ok (.invokevirtual 184, 3) := by decide +kernel
theorem dX5_canTakeOver_38 : decode cX5_canTakeOver 38 = .ok (.ifCond .eq 7, 3) := by decide +kernel
theorem dX5_canTakeOver_41 : decode cX5_canTakeOver 41 = .ok (.iconst 1, 1) := by decide +kernel
theorem dX5_canTakeOver_42 : decode cX5_canTakeOver 42 = .ok (.goto 4, 3) := by decide +kernel
theorem dX5_canTakeOver_45 : decode cX5_canTakeOver 45 = .ok (.iconst 0, 1) := by decide +kernel
theorem dX5_canTakeOver_46 : decode cX5_canTakeOver 46 = .ok (.ireturn, 1) := by decide +kernel
theorem dX5_areReversibleFrom_0 : decode cX5_areReversibleFrom 0 = .ok (.iload_n 1, 1) := by decide +kernel
theorem dX5_areReversibleFrom_1 : decode cX5_areReversibleFrom 1 = .ok (.istore_n 2, 1) := by decide +kernel
theorem dX5_areReversibleFrom_2 : decode cX5_areReversibleFrom 2 = .ok (.iload_n 2, 1) := by decide +kernel
theorem dX5_areReversibleFrom_3 : decode cX5_areReversibleFrom 3 = .ok (.aload_n 0, 1) := by decide +kernel
theorem dX5_areReversibleFrom_4 : decode cX5_areReversibleFrom 4 = .ok (.getfield 26, 3) := by decide +kernel
theorem dX5_areReversibleFrom_7 : decode cX5_areReversibleFrom 7 = .ok (.getfield 175, 3) := by decide +kernel
theorem dX5_areReversibleFrom_10 : decode cX5_areReversibleFrom 10 = .ok (.if_icmp .ge 44, 3) := by decide +kernel
theorem dX5_areReversibleFrom_13 : decode cX5_areReversibleFrom 13 = .ok (.aload_n 0, 1) := by decide +kernel
theorem dX5_areReversibleFrom_14 : decode cX5_areReversibleFrom 14 = .ok (.getfield 26, 3) := by decide +kernel
theorem dX5_areReversibleFrom_17 : decode cX5_areReversibleFrom 17 = .ok (.getfield 453, 3) := by decide +kernel
theorem dX5_areReversibleFrom_20 : decode cX5_areReversibleFrom 20 = .ok (.iload_n 2, 1) := by decide +kernel
theorem dX5_areReversibleFrom_21 : decode cX5_areReversibleFrom 21 = .ok (.iaload, 1) := by decide +kernel
theorem dX5_areReversibleFrom_22 : decode cX5_areReversibleFrom 22 = .ok (.istore_n 3, 1) := by decide +kernel
theorem dX5_areReversibleFrom_23 : decode cX5_areReversibleFrom 23 = .ok (.aload_n 0, 1) := by decide +kernel
theorem dX5_areReversibleFrom_24 : decode cX5_areReversibleFrom 24 = .ok (.getfield 19, 3) := by decide +kernel
theorem dX5_areReversibleFrom_27 : decode cX5_areReversibleFrom 27 = .ok (.iload_n 3, 1) := by decide +kernel
theorem dX5_areReversibleFrom_28 : decode cX5_areReversibleFrom 28 = .ok (.invokevirtual 217, 3) := by decide +kernel
theorem dX5_areReversibleFrom_31 : decode cX5_areReversibleFrom 31 = .ok (.ifCond .eq 17, 3) := by decide +kernel
theorem dX5_areReversibleFrom_34 : decode cX5_areReversibleFrom 34 = .ok (.aload_n 0, 1) := by decide +kernel
theorem dX5_areReversibleFrom_35 : decode cX5_areReversibleFrom 35 = .ok (.getfield 19, 3) := by decide +kernel
theorem dX5_areReversibleFrom_38 : decode cX5_areReversibleFrom 38 = .ok (.getfield 456, 3) := by decide +kernel
theorem dX5_areReversibleFrom_41 : decode cX5_areReversibleFrom 41 = .ok (.iload_n 3, 1) := by decide +kernel
theorem dX5_areReversibleFrom_42 : decode cX5_areReversibleFrom 42 = .ok (.baload, 1) := by decide +kernel
theorem dX5_areReversibleFrom_43 : decode cX5_areReversibleFrom 43 = .ok (.ifCond .ne 5, 3) := by decide +kernel
theorem dX5_areReversibleFrom_46 : decode cX5_areReversibleFrom 46 = .ok (.iconst 0, 1) := by decide +kernel
theorem dX5_areReversibleFrom_47 : decode cX5_areReversibleFrom 47 = .ok (.ireturn, 1) := by decide +kernel
theorem dX5_areReversibleFrom_48 : decode cX5_areReversibleFrom 48 = .ok (.iinc 2 1, 3) := by decide +kernel
theorem dX5_areReversibleFrom_51 : decode cX5_areReversibleFrom 51 = .ok (.goto (-49), 3) := by decide +kernel
theorem dX5_areReversibleFrom_54 : decode cX5_areReversibleFrom 54 = .ok (.iconst 1, 1) := by decide +kernel
theorem dX5_areReversibleFrom_55 : decode cX5_areReversibleFrom 55 = .ok (.ireturn, 1) := by decide +kernel
theorem dX5_isFree_0 : decode cX5_isFree 0 = .ok (.aload_n 0, 1) := by decide +kernel
theorem dX5_isFree_1 : decode cX5_isFree 1 = .ok (.getfield 10, 3) := by decide +kernel
theorem dX5_isFree_4 : decode cX5_isFree 4 = .ok (.getfield 81, 3) := by decide +kernel
theorem dX5_isFree_7 : decode cX5_isFree 7 = .ok (.iload_n 1, 1) := by decide +kernel
theorem dX5_isFree_8 : decode cX5_isFree 8 = .ok (.baload, 1) := by decide +kernel
theorem dX5_isFree_9 : decode cX5_isFree 9 = .ok (.ifCond .eq 29, 3) := by decide +kernel
theorem dX5_isFree_12 : decode cX5_isFree 12 = .ok (.aload_n 0, 1) := by decide +kernel
theorem dX5_isFree_13 : decode cX5_isFree 13 = .ok (.getfield 10, 3) := by decide +kernel
theorem dX5_isFree_16 : decode cX5_isFree 16 = .ok (.iload_n 1, 1) := by decide +kernel
theorem dX5_isFree_17 : decode cX5_isFree 17 = .ok (.invokevirtual 72, 3) := by decide +kernel
theorem dX5_isFree_20 : decode cX5_isFree 20 = .ok (.ifCond .ne 18, 3) := by decide +kernel
theorem dX5_isFree_23 : decode cX5_isFree 23 = .ok (.aload_n 0, 1) := by decide +kernel
theorem dX5_isFree_24 : decode cX5_isFree 24 = .ok (.getfield 33, 3) := by decide +kernel
theorem dX5_isFree_27 : decode cX5_isFree 27 = .ok (.iload_n 1, 1) := by decide +kernel
theorem dX5_isFree_28 : decode cX5_isFree 28 = .ok (.invokevirtual 225, 3) := by decide +kernel
theorem dX5_isFree_31 : decode cX5_isFree 31 = .ok (.ifCond .ne 7, 3) := by decide +kernel
theorem dX5_isFree_34 : decode cX5_isFree 34 = .ok (.iconst 1, 1) := by decide +kernel
theorem dX5_isFree_35 : decode cX5_isFree 35 = .ok (.goto 4, 3) := by decide +kernel
theorem dX5_isFree_38 : decode cX5_isFree 38 = .ok (.iconst 0, 1) := by decide +kernel
theorem dX5_isFree_39 : decode cX5_isFree 39 = .ok (.ireturn, 1) := by decide +kernel
theorem dX5_isAnyoneFreeFor_0 : decode cX5_isAnyoneFreeFor 0 = .ok (.iconst 0, 1) := by decide +kernel
theorem dX5_isAnyoneFreeFor_1 : decode cX5_isAnyoneFreeFor 1 = .ok (.istore_n 2, 1) := by decide +kernel
theorem dX5_isAnyoneFreeFor_2 : decode cX5_isAnyoneFreeFor 2 = .ok (.iload_n 2, 1) := by decide +kernel
theorem dX5_isAnyoneFreeFor_3 : decode cX5_isAnyoneFreeFor 3 = .ok (.aload_n 0, 1) := by decide +kernel
theorem dX5_isAnyoneFreeFor_4 : decode cX5_isAnyoneFreeFor 4 = .ok (.getfield 10, 3) := by decide +kernel
theorem dX5_isAnyoneFreeFor_7 : decode cX5_isAnyoneFreeFor 7 = .ok (.getfield 55, 3) := by decide +kernel
theorem dX5_isAnyoneFreeFor_10 : decode cX5_isAnyoneFreeFor 10 = .ok (.if_icmp .ge 31, 3) := by decide +kernel
theorem dX5_isAnyoneFreeFor_13 : decode cX5_isAnyoneFreeFor 13 = .ok (.aload_n 0, 1) := by decide +kernel
theorem dX5_isAnyoneFreeFor_14 : decode cX5_isAnyoneFreeFor 14 = .ok (.iload_n 2, 1) := by decide +kernel
theorem dX5_isAnyoneFreeFor_15 : decode cX5_isAnyoneFreeFor 15 = .ok (.invokevirtual 181, 3) := by decide +kernel
theorem dX5_isAnyoneFreeFor_18 : decode cX5_isAnyoneFreeFor 18 = .ok (.ifCond .eq 17, 3) := by decide +kernel
theorem dX5_isAnyoneFreeFor_21 : decode cX5_isAnyoneFreeFor 21 = .ok (.aload_n 0, 1) := by decide +kernel
theorem dX5_isAnyoneFreeFor_22 : decode cX5_isAnyoneFreeFor 22 = .ok (.getfield 10, 3) := by decide +kernel
theorem dX5_isAnyoneFreeFor_25 : decode cX5_isAnyoneFreeFor 25 = .ok (.iload_n 2, 1) := by decide +kernel
theorem dX5_isAnyoneFreeFor_26 : decode cX5_isAnyoneFreeFor 26 = .ok (.iload_n 1, 1) := by decide +kernel
theorem dX5_isAnyoneFreeFor_27 : decode cX5_isAnyoneFreeFor 27 = .ok (.invokevirtual 184, 3) := by decide +kernel
theorem dX5_isAnyoneFreeFor_30 : decode cX5_isAnyoneFreeFor 30 = .ok (.ifCond .eq 5, 3) := by decide +kernel
theorem dX5_isAnyoneFreeFor_33 : decode cX5_isAnyoneFreeFor 33 = .ok (.iconst 1, 1) := by decide +kernel
theorem dX5_isAnyoneFreeFor_34 : decode cX5_isAnyoneFreeFor 34 = .ok (.ireturn, 1) := by decide +kernel
theorem dX5_isAnyoneFreeFor_35 : decode cX5_isAnyoneFreeFor 35 = .ok (.iinc 2 1, 3) := by decide +kernel
theorem dX5_isAnyoneFreeFor_38 : decode cX5_isAnyoneFreeFor 38 = .ok (.goto (-36), 3) := by decide +kernel
theorem dX5_isAnyoneFreeFor_41 : decode cX5_isAnyoneFreeFor 41 = .ok (.iconst 0, 1) := by decide +kernel
theorem dX5_isAnyoneFreeFor_42 : decode cX5_isAnyoneFreeFor 42 = .ok (.ireturn, 1) := by decide +kernel
theorem dX5_isRolePaused_0 : decode cX5_isRolePaused 0 = .ok (.aload_n 0, 1) := by decide +kernel
theorem dX5_isRolePaused_1 : decode cX5_isRolePaused 1 = .ok (.getfield 10, 3) := by decide +kernel
theorem dX5_isRolePaused_4 : decode cX5_isRolePaused 4 = .ok (.aload_n 0, 1) := by decide +kernel
theorem dX5_isRolePaused_5 : decode cX5_isRolePaused 5 = .ok (.getfield 33, 3) := by decide +kernel
theorem dX5_isRolePaused_8 : decode cX5_isRolePaused 8 = .ok (.getfield 427, 3) := by decide +kernel
theorem dX5_isRolePaused_11 : decode cX5_isRolePaused 11 = .ok (.invokevirtual 395, 3) := by decide +kernel
theorem dX5_isRolePaused_14 : decode cX5_isRolePaused 14 = .ok (.ifCond .eq 25, 3) := by decide +kernel
theorem dX5_isRolePaused_17 : decode cX5_isRolePaused 17 = .ok (.aload_n 0, 1) := by decide +kernel
theorem dX5_isRolePaused_18 : decode cX5_isRolePaused 18 = .ok (.getfield 10, 3) := by decide +kernel
theorem dX5_isRolePaused_21 : decode cX5_isRolePaused 21 = .ok (.aload_n 0, 1) := by decide +kernel
theorem dX5_isRolePaused_22 : decode cX5_isRolePaused 22 = .ok (.getfield 33, 3) := by decide +kernel
theorem dX5_isRolePaused_25 : decode cX5_isRolePaused 25 = .ok (.getfield 427, 3) := by decide +kernel
theorem dX5_isRolePaused_28 : decode cX5_isRolePaused 28 = .ok (.iload_n 1, 1) := by decide +kernel
theorem dX5_isRolePaused_29 : decode cX5_isRolePaused 29 = .ok (.invokevirtual 184, 3) := by decide +kernel
theorem dX5_isRolePaused_32 : decode cX5_isRolePaused 32 = .ok (.ifCond .eq 7, 3) := by decide +kernel
theorem dX5_isRolePaused_35 : decode cX5_isRolePaused 35 = .ok (.iconst 1, 1) := by decide +kernel
theorem dX5_isRolePaused_36 : decode cX5_isRolePaused 36 = .ok (.goto 4, 3) := by decide +kernel
theorem dX5_isRolePaused_39 : decode cX5_isRolePaused 39 = .ok (.iconst 0, 1) := by decide +kernel
theorem dX5_isRolePaused_40 : decode cX5_isRolePaused 40 = .ok (.ireturn, 1) := by decide +kernel
theorem dX5_isStepReady_0 : decode cX5_isStepReady 0 = .ok (.aload_n 0, 1) := by decide +kernel
theorem dX5_isStepReady_1 : decode cX5_isStepReady 1 = .ok (.getfield 155, 3) := by decide +kernel
theorem dX5_isStepReady_4 : decode cX5_isStepReady 4 = .ok (.ifCond .eq 44, 3) := by decide +kernel
theorem dX5_isStepReady_7 : decode cX5_isStepReady 7 = .ok (.aload_n 0, 1) := by decide +kernel
theorem dX5_isStepReady_8 : decode cX5_isStepReady 8 = .ok (.getfield 26, 3) := by decide +kernel
theorem dX5_isStepReady_11 : decode cX5_isStepReady 11 = .ok (.getfield 236, 3) := by decide +kernel
theorem dX5_isStepReady_14 : decode cX5_isStepReady 14 = .ok (.iload_n 1, 1) := by decide +kernel
theorem dX5_isStepReady_15 : decode cX5_isStepReady 15 = .ok (.caload, 1) := by decide +kernel
theorem dX5_isStepReady_16 : decode cX5_isStepReady 16 = .ok (.bipush 119, 2) := by decide +kernel
theorem dX5_isStepReady_18 : decode cX5_isStepReady 18 = .ok (.if_icmp .ne 30, 3) := by decide +kernel
theorem dX5_isStepReady_21 : decode cX5_isStepReady 21 = .ok (.aload_n 0, 1) := by decide +kernel
theorem dX5_isStepReady_22 : decode cX5_isStepReady 22 = .ok (.iload_n 1, 1) := by decide +kernel
theorem dX5_isStepReady_23 : decode cX5_isStepReady 23 = .ok (.invokevirtual 306, 3) := by decide +kernel
theorem dX5_isStepReady_26 : decode cX5_isStepReady 26 = .ok (.ifCond .eq 22, 3) := by decide +kernel
theorem dX5_isStepReady_29 : decode cX5_isStepReady 29 = .ok (.aload_n 0, 1) := by decide +kernel
theorem dX5_isStepReady_30 : decode cX5_isStepReady 30 = .ok (.getfield 19, 3) := by decide +kernel
theorem dX5_isStepReady_33 : decode cX5_isStepReady 33 = .ok (.iload_n 1, 1) := by decide +kernel
theorem dX5_isStepReady_34 : decode cX5_isStepReady 34 = .ok (.aload_n 0, 1) := by decide +kernel
theorem dX5_isStepReady_35 : decode cX5_isStepReady 35 = .ok (.getfield 44, 3) := by decide +kernel
theorem dX5_isStepReady_38 : decode cX5_isStepReady 38 = .ok (.invokevirtual 279, 3) := by decide +kernel
theorem dX5_isStepReady_41 : decode cX5_isStepReady 41 = .ok (.ifCond .eq 7, 3) := by decide +kernel
theorem dX5_isStepReady_44 : decode cX5_isStepReady 44 = .ok (.iconst 1, 1) := by decide +kernel
theorem dX5_isStepReady_45 : decode cX5_isStepReady 45 = .ok (.goto 4, 3) := by decide +kernel
theorem dX5_isStepReady_48 : decode cX5_isStepReady 48 = .ok (.iconst 0, 1) := by decide +kernel
theorem dX5_isStepReady_49 : decode cX5_isStepReady 49 = .ok (.ireturn, 1) := by decide +kernel
theorem dX5_countReady_0 : decode cX5_countReady 0 = .ok (.iconst 0, 1) := by decide +kernel
theorem dX5_countReady_1 : decode cX5_countReady 1 = .ok (.istore_n 1, 1) := by decide +kernel
theorem dX5_countReady_2 : decode cX5_countReady 2 = .ok (.iconst 0, 1) := by decide +kernel
theorem dX5_countReady_3 : decode cX5_countReady 3 = .ok (.istore_n 2, 1) := by decide +kernel
theorem dX5_countReady_4 : decode cX5_countReady 4 = .ok (.iload_n 2, 1) := by decide +kernel
theorem dX5_countReady_5 : decode cX5_countReady 5 = .ok (.aload_n 0, 1) := by decide +kernel
theorem dX5_countReady_6 : decode cX5_countReady 6 = .ok (.getfield 19, 3) := by decide +kernel
theorem dX5_countReady_9 : decode cX5_countReady 9 = .ok (.getfield 95, 3) := by decide +kernel
theorem dX5_countReady_12 : decode cX5_countReady 12 = .ok (.if_icmp .ge 20, 3) := by decide +kernel
theorem dX5_countReady_15 : decode cX5_countReady 15 = .ok (.aload_n 0, 1) := by decide +kernel
theorem dX5_countReady_16 : decode cX5_countReady 16 = .ok (.iload_n 2, 1) := by decide +kernel
theorem dX5_countReady_17 : decode cX5_countReady 17 = .ok (.invokevirtual 192, 3) := by decide +kernel
theorem dX5_countReady_20 : decode cX5_countReady 20 = .ok (.ifCond .eq 6, 3) := by decide +kernel
theorem dX5_countReady_23 : decode cX5_countReady 23 = .ok (.iinc 1 1, 3) := by decide +kernel
theorem dX5_countReady_26 : decode cX5_countReady 26 = .ok (.iinc 2 1, 3) := by decide +kernel
theorem dX5_countReady_29 : decode cX5_countReady 29 = .ok (.goto (-25), 3) := by decide +kernel
theorem dX5_countReady_32 : decode cX5_countReady 32 = .ok (.iload_n 1, 1) := by decide +kernel
theorem dX5_countReady_33 : decode cX5_countReady 33 = .ok (.ireturn, 1) := by decide +kernel
theorem dX5_areNeedsMet_0 : decode cX5_areNeedsMet 0 = .ok (.iconst 0, 1) := by decide +kernel
theorem dX5_areNeedsMet_1 : decode cX5_areNeedsMet 1 = .ok (.istore_n 2, 1) := by decide +kernel
theorem dX5_areNeedsMet_2 : decode cX5_areNeedsMet 2 = .ok (.iconst 0, 1) := by decide +kernel
theorem dX5_areNeedsMet_3 : decode cX5_areNeedsMet 3 = .ok (.istore_n 3, 1) := by decide +kernel
theorem dX5_areNeedsMet_4 : decode cX5_areNeedsMet 4 = .ok (.iconst 0, 1) := by decide +kernel
theorem dX5_areNeedsMet_5 : decode cX5_areNeedsMet 5 = .ok (.istore 4, 2) := by decide +kernel
theorem dX5_areNeedsMet_7 : decode cX5_areNeedsMet 7 = .ok (.iload 4, 2) := by decide +kernel
theorem dX5_areNeedsMet_9 : decode cX5_areNeedsMet 9 = .ok (.iload_n 1, 1) := by decide +kernel
theorem dX5_areNeedsMet_10 : decode cX5_areNeedsMet 10 = .ok (.if_icmp .ge 42, 3) := by decide +kernel
theorem dX5_areNeedsMet_13 : decode cX5_areNeedsMet 13 = .ok (.aload_n 0, 1) := by decide +kernel
theorem dX5_areNeedsMet_14 : decode cX5_areNeedsMet 14 = .ok (.getfield 19, 3) := by decide +kernel
theorem dX5_areNeedsMet_17 : decode cX5_areNeedsMet 17 = .ok (.iload_n 1, 1) := by decide +kernel
theorem dX5_areNeedsMet_18 : decode cX5_areNeedsMet 18 = .ok (.iload 4, 2) := by decide +kernel
theorem dX5_areNeedsMet_20 : decode cX5_areNeedsMet 20 = .ok (.invokevirtual 107, 3) := by decide +kernel
theorem dX5_areNeedsMet_23 : decode cX5_areNeedsMet 23 = .ok (.ifCond .eq 23, 3) := by decide +kernel
theorem dX5_areNeedsMet_26 : decode cX5_areNeedsMet 26 = .ok (.iinc 2 1, 3) := by decide +kernel
theorem dX5_areNeedsMet_29 : decode cX5_areNeedsMet 29 = .ok (.iload_n 3, 1) := by decide +kernel
theorem dX5_areNeedsMet_30 : decode cX5_areNeedsMet 30 = .ok (.aload_n 0, 1) := by decide +kernel
theorem dX5_areNeedsMet_31 : decode cX5_areNeedsMet 31 = .ok (.iload 4, 2) := by decide +kernel
theorem dX5_areNeedsMet_33 : decode cX5_areNeedsMet 33 = .ok (.invokevirtual 330, 3) := by decide +kernel
theorem dX5_areNeedsMet_36 : decode cX5_areNeedsMet 36 = .ok (.ifCond .eq 7, 3) := by decide +kernel
theorem dX5_areNeedsMet_39 : decode cX5_areNeedsMet 39 = .ok (.iconst 1, 1) := by decide +kernel
theorem dX5_areNeedsMet_40 : decode cX5_areNeedsMet 40 = .ok (.goto 4, 3) := by decide +kernel
theorem dX5_areNeedsMet_43 : decode cX5_areNeedsMet 43 = .ok (.iconst 0, 1) := by decide +kernel
theorem dX5_areNeedsMet_44 : decode cX5_areNeedsMet 44 = .ok (.iadd, 1) := by decide +kernel
theorem dX5_areNeedsMet_45 : decode cX5_areNeedsMet 45 = .ok (.istore_n 3, 1) := by decide +kernel
theorem dX5_areNeedsMet_46 : decode cX5_areNeedsMet 46 = .ok (.iinc 4 1, 3) := by decide +kernel
theorem dX5_areNeedsMet_49 : decode cX5_areNeedsMet 49 = .ok (.goto (-42), 3) := by decide +kernel
theorem dX5_areNeedsMet_52 : decode cX5_areNeedsMet 52 = .ok (.aload_n 0, 1) := by decide +kernel
theorem dX5_areNeedsMet_53 : decode cX5_areNeedsMet 53 = .ok (.getfield 19, 3) := by decide +kernel
theorem dX5_areNeedsMet_56 : decode cX5_areNeedsMet 56 = .ok (.getfield 459, 3) := by decide +kernel
theorem dX5_areNeedsMet_59 : decode cX5_areNeedsMet 59 = .ok (.iload_n 1, 1) := by decide +kernel
theorem dX5_areNeedsMet_60 : decode cX5_areNeedsMet 60 = .ok (.caload, 1) := by decide +kernel
theorem dX5_areNeedsMet_61 : decode cX5_areNeedsMet 61 = .ok (.bipush 111, 2) := by decide +kernel
theorem dX5_areNeedsMet_63 : decode cX5_areNeedsMet 63 = .ok (.if_icmp .ne 19, 3) := by decide +kernel
theorem dX5_areNeedsMet_66 : decode cX5_areNeedsMet 66 = .ok (.iload_n 2, 1) := by decide +kernel
theorem dX5_areNeedsMet_67 : decode cX5_areNeedsMet 67 = .ok (.ifCond .eq 7, 3) := by decide +kernel
theorem dX5_areNeedsMet_70 : decode cX5_areNeedsMet 70 = .ok (.iload_n 3, 1) := by decide +kernel
theorem dX5_areNeedsMet_71 : decode cX5_areNeedsMet 71 = .ok (.ifCond .le 7, 3) := by decide +kernel
theorem dX5_areNeedsMet_74 : decode cX5_areNeedsMet 74 = .ok (.iconst 1, 1) := by decide +kernel
theorem dX5_areNeedsMet_75 : decode cX5_areNeedsMet 75 = .ok (.goto 17, 3) := by decide +kernel
theorem dX5_areNeedsMet_78 : decode cX5_areNeedsMet 78 = .ok (.iconst 0, 1) := by decide +kernel
theorem dX5_areNeedsMet_79 : decode cX5_areNeedsMet 79 = .ok (.goto 13, 3) := by decide +kernel
theorem dX5_areNeedsMet_82 : decode cX5_areNeedsMet 82 = .ok (.iload_n 3, 1) := by decide +kernel
theorem dX5_areNeedsMet_83 : decode cX5_areNeedsMet 83 = .ok (.iload_n 2, 1) := by decide +kernel
theorem dX5_areNeedsMet_84 : decode cX5_areNeedsMet 84 = .ok (.if_icmp .ne 7, 3) := by decide +kernel
theorem dX5_areNeedsMet_87 : decode cX5_areNeedsMet 87 = .ok (.iconst 1, 1) := by decide +kernel
theorem dX5_areNeedsMet_88 : decode cX5_areNeedsMet 88 = .ok (.goto 4, 3) := by decide +kernel
theorem dX5_areNeedsMet_91 : decode cX5_areNeedsMet 91 = .ok (.iconst 0, 1) := by decide +kernel
theorem dX5_areNeedsMet_92 : decode cX5_areNeedsMet 92 = .ok (.ireturn, 1) := by decide +kernel
theorem dX5_isStepSettled_0 : decode cX5_isStepSettled 0 = .ok (.iload_n 1, 1) := by decide +kernel
theorem dX5_isStepSettled_1 : decode cX5_isStepSettled 1 = .ok (.istore_n 2, 1) := by decide +kernel
theorem dX5_isStepSettled_2 : decode cX5_isStepSettled 2 = .ok (.iconst 0, 1) := by decide +kernel
theorem dX5_isStepSettled_3 : decode cX5_isStepSettled 3 = .ok (.istore_n 3, 1) := by decide +kernel
theorem dX5_isStepSettled_4 : decode cX5_isStepSettled 4 = .ok (.iload_n 3, 1) := by decide +kernel
theorem dX5_isStepSettled_5 : decode cX5_isStepSettled 5 = .ok (.bipush 16, 2) := by decide +kernel
theorem dX5_isStepSettled_7 : decode cX5_isStepSettled 7 = .ok (.if_icmp .ge 64, 3) := by decide +kernel
theorem dX5_isStepSettled_10 : decode cX5_isStepSettled 10 = .ok (.aload_n 0, 1) := by decide +kernel
theorem dX5_isStepSettled_11 : decode cX5_isStepSettled 11 = .ok (.getfield 26, 3) := by decide +kernel
theorem dX5_isStepSettled_14 : decode cX5_isStepSettled 14 = .ok (.iload_n 2, 1) := by decide +kernel
theorem dX5_isStepSettled_15 : decode cX5_isStepSettled 15 = .ok (.invokevirtual 403, 3) := by decide +kernel
theorem dX5_isStepSettled_18 : decode cX5_isStepSettled 18 = .ok (.ifCond .eq 53, 3) := by decide +kernel
theorem dX5_isStepSettled_21 : decode cX5_isStepSettled 21 = .ok (.aload_n 0, 1) := by decide +kernel
theorem dX5_isStepSettled_22 : decode cX5_isStepSettled 22 = .ok (.getfield 26, 3) := by decide +kernel
theorem dX5_isStepSettled_25 : decode cX5_isStepSettled 25 = .ok (.getfield 236, 3) := by decide +kernel
theorem dX5_isStepSettled_28 : decode cX5_isStepSettled 28 = .ok (.iload_n 2, 1) := by decide +kernel
theorem dX5_isStepSettled_29 : decode cX5_isStepSettled 29 = .ok (.caload, 1) := by decide +kernel
theorem dX5_isStepSettled_30 : decode cX5_isStepSettled 30 = .ok (.bipush 102, 2) := by decide +kernel
theorem dX5_isStepSettled_32 : decode cX5_isStepSettled 32 = .ok (.if_icmp .eq 23, 3) := by decide +kernel
theorem dX5_isStepSettled_35 : decode cX5_isStepSettled 35 = .ok (.aload_n 0, 1) := by decide +kernel
theorem dX5_isStepSettled_36 : decode cX5_isStepSettled 36 = .ok (.getfield 26, 3) := by decide +kernel
theorem dX5_isStepSettled_39 : decode cX5_isStepSettled 39 = .ok (.getfield 236, 3) := by decide +kernel
theorem dX5_isStepSettled_42 : decode cX5_isStepSettled 42 = .ok (.iload_n 2, 1) := by decide +kernel
theorem dX5_isStepSettled_43 : decode cX5_isStepSettled 43 = .ok (.caload, 1) := by decide +kernel
theorem dX5_isStepSettled_44 : decode cX5_isStepSettled 44 = .ok (.bipush 100, 2) := by decide +kernel
theorem dX5_isStepSettled_46 : decode cX5_isStepSettled 46 = .ok (.if_icmp .ne 7, 3) := by decide +kernel
theorem dX5_isStepSettled_49 : decode cX5_isStepSettled 49 = .ok (.iconst 1, 1) := by decide +kernel
theorem dX5_isStepSettled_50 : decode cX5_isStepSettled 50 = .ok (.goto 4, 3) := by decide +kernel
theorem dX5_isStepSettled_53 : decode cX5_isStepSettled 53 = .ok (.iconst 0, 1) := by decide +kernel
theorem dX5_isStepSettled_54 : decode cX5_isStepSettled 54 = .ok (.ireturn, 1) := by decide +kernel
theorem dX5_isStepSettled_55 : decode cX5_isStepSettled 55 = .ok (.aload_n 0, 1) := by decide +kernel
theorem dX5_isStepSettled_56 : decode cX5_isStepSettled 56 = .ok (.getfield 19, 3) := by decide +kernel
theorem dX5_isStepSettled_59 : decode cX5_isStepSettled 59 = .ok (.getfield 143, 3) := by decide +kernel
theorem dX5_isStepSettled_62 : decode cX5_isStepSettled 62 = .ok (.iload_n 2, 1) := by decide +kernel
theorem dX5_isStepSettled_63 : decode cX5_isStepSettled 63 = .ok (.iaload, 1) := by decide +kernel
theorem dX5_isStepSettled_64 : decode cX5_isStepSettled 64 = .ok (.istore_n 2, 1) := by decide +kernel
theorem dX5_isStepSettled_65 : decode cX5_isStepSettled 65 = .ok (.iinc 3 1, 3) := by decide +kernel
theorem dX5_isStepSettled_68 : decode cX5_isStepSettled 68 = .ok (.goto (-64), 3) := by decide +kernel
theorem dX5_isStepSettled_71 : decode cX5_isStepSettled 71 = .ok (.iconst 0, 1) := by decide +kernel
theorem dX5_isStepSettled_72 : decode cX5_isStepSettled 72 = .ok (.ireturn, 1) := by decide +kernel
theorem dX5_areAllSettled_0 : decode cX5_areAllSettled 0 = .ok (.iconst 0, 1) := by decide +kernel
theorem dX5_areAllSettled_1 : decode cX5_areAllSettled 1 = .ok (.istore_n 1, 1) := by decide +kernel
theorem dX5_areAllSettled_2 : decode cX5_areAllSettled 2 = .ok (.iload_n 1, 1) := by decide +kernel
theorem dX5_areAllSettled_3 : decode cX5_areAllSettled 3 = .ok (.aload_n 0, 1) := by decide +kernel
theorem dX5_areAllSettled_4 : decode cX5_areAllSettled 4 = .ok (.getfield 26, 3) := by decide +kernel
theorem dX5_areAllSettled_7 : decode cX5_areAllSettled 7 = .ok (.getfield 430, 3) := by decide +kernel
theorem dX5_areAllSettled_10 : decode cX5_areAllSettled 10 = .ok (.if_icmp .ge 33, 3) := by decide +kernel
theorem dX5_areAllSettled_13 : decode cX5_areAllSettled 13 = .ok (.aload_n 0, 1) := by decide +kernel
theorem dX5_areAllSettled_14 : decode cX5_areAllSettled 14 = .ok (.getfield 26, 3) := by decide +kernel
theorem dX5_areAllSettled_17 : decode cX5_areAllSettled 17 = .ok (.getfield 236, 3) := by decide +kernel
theorem dX5_areAllSettled_20 : decode cX5_areAllSettled 20 = .ok (.iload_n 1, 1) := by decide +kernel
theorem dX5_areAllSettled_21 : decode cX5_areAllSettled 21 = .ok (.caload, 1) := by decide +kernel
theorem dX5_areAllSettled_22 : decode cX5_areAllSettled 22 = .ok (.bipush 111, 2) := by decide +kernel
theorem dX5_areAllSettled_24 : decode cX5_areAllSettled 24 = .ok (.if_icmp .eq 13, 3) := by decide +kernel
theorem dX5_areAllSettled_27 : decode cX5_areAllSettled 27 = .ok (.aload_n 0, 1) := by decide +kernel
theorem dX5_areAllSettled_28 : decode cX5_areAllSettled 28 = .ok (.iload_n 1, 1) := by decide +kernel
theorem dX5_areAllSettled_29 : decode cX5_areAllSettled 29 = .ok (.invokevirtual 330, 3) := by decide +kernel
theorem dX5_areAllSettled_32 : decode cX5_areAllSettled 32 = .ok (.ifCond .ne 5, 3) := by decide +kernel
theorem dX5_areAllSettled_35 : decode cX5_areAllSettled 35 = .ok (.iconst 0, 1) := by decide +kernel
theorem dX5_areAllSettled_36 : decode cX5_areAllSettled 36 = .ok (.ireturn, 1) := by decide +kernel
theorem dX5_areAllSettled_37 : decode cX5_areAllSettled 37 = .ok (.iinc 1 1, 3) := by decide +kernel
theorem dX5_areAllSettled_40 : decode cX5_areAllSettled 40 = .ok (.goto (-38), 3) := by decide +kernel
theorem dX5_areAllSettled_43 : decode cX5_areAllSettled 43 = .ok (.iconst 1, 1) := by decide +kernel
theorem dX5_areAllSettled_44 : decode cX5_areAllSettled 44 = .ok (.ireturn, 1) := by decide +kernel
theorem dX5_mostUrgentFor_0 : decode cX5_mostUrgentFor 0 = .ok (.aload_n 0, 1) := by decide +kernel
theorem dX5_mostUrgentFor_1 : decode cX5_mostUrgentFor 1 = .ok (.getfield 19, 3) := by decide +kernel
theorem dX5_mostUrgentFor_4 : decode cX5_mostUrgentFor 4 = .ok (.invokevirtual 324, 3) := by decide +kernel
theorem dX5_mostUrgentFor_7 : decode cX5_mostUrgentFor 7 = .ok (.iconst (-1), 1) := by decide +kernel
theorem dX5_mostUrgentFor_8 : decode cX5_mostUrgentFor 8 = .ok (.istore_n 2, 1) := by decide +kernel
theorem dX5_mostUrgentFor_9 : decode cX5_mostUrgentFor 9 = .ok (.iconst 0, 1) := by decide +kernel
theorem dX5_mostUrgentFor_10 : decode cX5_mostUrgentFor 10 = .ok (.istore_n 3, 1) := by decide +kernel
theorem dX5_mostUrgentFor_11 : decode cX5_mostUrgentFor 11 = .ok (.iload_n 3, 1) := by decide +kernel
theorem dX5_mostUrgentFor_12 : decode cX5_mostUrgentFor 12 = .ok (.aload_n 0, 1) := by decide +kernel
theorem dX5_mostUrgentFor_13 : decode cX5_mostUrgentFor 13 = .ok (.getfield 19, 3) := by decide +kernel
theorem dX5_mostUrgentFor_16 : decode cX5_mostUrgentFor 16 = .ok (.getfield 95, 3) := by decide +kernel
theorem dX5_mostUrgentFor_19 : decode cX5_mostUrgentFor 19 = .ok (.if_icmp .ge 77, 3) := by decide +kernel
theorem dX5_mostUrgentFor_22 : decode cX5_mostUrgentFor 22 = .ok (.iload_n 2, 1) := by decide +kernel
theorem dX5_mostUrgentFor_23 : decode cX5_mostUrgentFor 23 = .ok (.iconst (-1), 1) := by decide +kernel
theorem dX5_mostUrgentFor_24 : decode cX5_mostUrgentFor 24 = .ok (.if_icmp .eq 24, 3) := by decide +kernel
theorem dX5_mostUrgentFor_27 : decode cX5_mostUrgentFor 27 = .ok (.aload_n 0, 1) := by decide +kernel
theorem dX5_mostUrgentFor_28 : decode cX5_mostUrgentFor 28 = .ok (.getfield 19, 3) := by decide +kernel
theorem dX5_mostUrgentFor_31 : decode cX5_mostUrgentFor 31 = .ok (.getfield 327, 3) := by decide +kernel
theorem dX5_mostUrgentFor_34 : decode cX5_mostUrgentFor 34 = .ok (.iload_n 3, 1) := by decide +kernel
theorem dX5_mostUrgentFor_35 : decode cX5_mostUrgentFor 35 = .ok (.iaload, 1) := by decide +kernel
theorem dX5_mostUrgentFor_36 : decode cX5_mostUrgentFor 36 = .ok (.aload_n 0, 1) := by decide +kernel
theorem dX5_mostUrgentFor_37 : decode cX5_mostUrgentFor 37 = .ok (.getfield 19, 3) := by decide +kernel
theorem dX5_mostUrgentFor_40 : decode cX5_mostUrgentFor 40 = .ok (.getfield 327, 3) := by decide +kernel
theorem dX5_mostUrgentFor_43 : decode cX5_mostUrgentFor 43 = .ok (.iload_n 2, 1) := by decide +kernel
theorem dX5_mostUrgentFor_44 : decode cX5_mostUrgentFor 44 = .ok (.iaload, 1) := by decide +kernel
theorem dX5_mostUrgentFor_45 : decode cX5_mostUrgentFor 45 = .ok (.if_icmp .le 7, 3) := by decide +kernel
theorem dX5_mostUrgentFor_48 : decode cX5_mostUrgentFor 48 = .ok (.iconst 1, 1) := by decide +kernel
theorem dX5_mostUrgentFor_49 : decode cX5_mostUrgentFor 49 = .ok (.goto 4, 3) := by decide +kernel
theorem dX5_mostUrgentFor_52 : decode cX5_mostUrgentFor 52 = .ok (.iconst 0, 1) := by decide +kernel
theorem dX5_mostUrgentFor_53 : decode cX5_mostUrgentFor 53 = .ok (.istore 4, 2) := by decide +kernel
theorem dX5_mostUrgentFor_55 : decode cX5_mostUrgentFor 55 = .ok (.iload 4, 2) := by decide +kernel
theorem dX5_mostUrgentFor_57 : decode cX5_mostUrgentFor 57 = .ok (.ifCond .eq 33, 3) := by decide +kernel
theorem dX5_mostUrgentFor_60 : decode cX5_mostUrgentFor 60 = .ok (.aload_n 0, 1) := by decide +kernel
theorem dX5_mostUrgentFor_61 : decode cX5_mostUrgentFor 61 = .ok (.iload_n 3, 1) := by decide +kernel
theorem dX5_mostUrgentFor_62 : decode cX5_mostUrgentFor 62 = .ok (.invokevirtual 192, 3) := by decide +kernel
theorem dX5_mostUrgentFor_65 : decode cX5_mostUrgentFor 65 = .ok (.ifCond .eq 25, 3) := by decide +kernel
theorem dX5_mostUrgentFor_68 : decode cX5_mostUrgentFor 68 = .ok (.aload_n 0, 1) := by decide +kernel
theorem dX5_mostUrgentFor_69 : decode cX5_mostUrgentFor 69 = .ok (.getfield 10, 3) := by decide +kernel
theorem dX5_mostUrgentFor_72 : decode cX5_mostUrgentFor 72 = .ok (.iload_n 1, 1) := by decide +kernel
theorem dX5_mostUrgentFor_73 : decode cX5_mostUrgentFor 73 = .ok (.aload_n 0, 1) := by decide +kernel
theorem dX5_mostUrgentFor_74 : decode cX5_mostUrgentFor 74 = .ok (.getfield 19, 3) := by decide +kernel
theorem dX5_mostUrgentFor_77 : decode cX5_mostUrgentFor 77 = .ok (.getfield 178, 3) := by decide +kernel
theorem dX5_mostUrgentFor_80 : decode cX5_mostUrgentFor 80 = .ok (.iload_n 3, 1) := by decide +kernel
theorem dX5_mostUrgentFor_81 : decode cX5_mostUrgentFor 81 = .ok (.iaload, 1) := by decide +kernel
theorem dX5_mostUrgentFor_82 : decode cX5_mostUrgentFor 82 = .ok (.invokevirtual 184, 3) := by decide +kernel
theorem dX5_mostUrgentFor_85 : decode cX5_mostUrgentFor 85 = .ok (.ifCond .eq 5, 3) := by decide +kernel
theorem dX5_mostUrgentFor_88 : decode cX5_mostUrgentFor 88 = .ok (.iload_n 3, 1) := by decide +kernel
theorem dX5_mostUrgentFor_89 : decode cX5_mostUrgentFor 89 = .ok (.istore_n 2, 1) := by decide +kernel
theorem dX5_mostUrgentFor_90 : decode cX5_mostUrgentFor 90 = .ok (.iinc 3 1, 3) := by decide +kernel
theorem dX5_mostUrgentFor_93 : decode cX5_mostUrgentFor 93 = .ok (.goto (-82), 3) := by decide +kernel
theorem dX5_mostUrgentFor_96 : decode cX5_mostUrgentFor 96 = .ok (.iload_n 2, 1) := by decide +kernel
theorem dX5_mostUrgentFor_97 : decode cX5_mostUrgentFor 97 = .ok (.ireturn, 1) := by decide +kernel
theorem dX5_recursiveRest_0 : decode cX5_recursiveRest 0 = .ok (.iload_n 2, 1) := by decide +kernel
theorem dX5_recursiveRest_1 : decode cX5_recursiveRest 1 = .ok (.bipush 16, 2) := by decide +kernel
theorem dX5_recursiveRest_3 : decode cX5_recursiveRest 3 = .ok (.if_icmp .lt 5, 3) := by decide +kernel
theorem dX5_recursiveRest_6 : decode cX5_recursiveRest 6 = .ok (.iconst 0, 1) := by decide +kernel
theorem dX5_recursiveRest_7 : decode cX5_recursiveRest 7 = .ok (.ireturn, 1) := by decide +kernel
theorem dX5_recursiveRest_8 : decode cX5_recursiveRest 8 = .ok (.aload_n 0, 1) := by decide +kernel
theorem dX5_recursiveRest_9 : decode cX5_recursiveRest 9 = .ok (.getfield 327, 3) := by decide +kernel
theorem dX5_recursiveRest_12 : decode cX5_recursiveRest 12 = .ok (.iload_n 1, 1) := by decide +kernel
theorem dX5_recursiveRest_13 : decode cX5_recursiveRest 13 = .ok (.iaload, 1) := by decide +kernel
theorem dX5_recursiveRest_14 : decode cX5_recursiveRest 14 = .ok (.ifCond .ne 63, 3) := by decide +kernel
theorem dX5_recursiveRest_17 : decode cX5_recursiveRest 17 = .ok (.iconst 0, 1) := by decide +kernel
theorem dX5_recursiveRest_18 : decode cX5_recursiveRest 18 = .ok (.istore_n 3, 1) := by decide +kernel
theorem dX5_recursiveRest_19 : decode cX5_recursiveRest 19 = .ok (.iload_n 1, 1) := by decide +kernel
theorem dX5_recursiveRest_20 : decode cX5_recursiveRest 20 = .ok (.iconst 1, 1) := by decide +kernel
theorem dX5_recursiveRest_21 : decode cX5_recursiveRest 21 = .ok (.iadd, 1) := by decide +kernel
theorem dX5_recursiveRest_22 : decode cX5_recursiveRest 22 = .ok (.istore 4, 2) := by decide +kernel
theorem dX5_recursiveRest_24 : decode cX5_recursiveRest 24 = .ok (.iload 4, 2) := by decide +kernel
theorem dX5_recursiveRest_26 : decode cX5_recursiveRest 26 = .ok (.aload_n 0, 1) := by decide +kernel
theorem dX5_recursiveRest_27 : decode cX5_recursiveRest 27 = .ok (.getfield 95, 3) := by decide +kernel
theorem dX5_recursiveRest_30 : decode cX5_recursiveRest 30 = .ok (.if_icmp .ge 33, 3) := by decide +kernel
theorem dX5_recursiveRest_33 : decode cX5_recursiveRest 33 = .ok (.aload_n 0, 1) := by decide +kernel
theorem dX5_recursiveRest_34 : decode cX5_recursiveRest 34 = .ok (.iload 4, 2) := by decide +kernel
theorem dX5_recursiveRest_36 : decode cX5_recursiveRest 36 = .ok (.iload_n 1, 1) := by decide +kernel
theorem dX5_recursiveRest_37 : decode cX5_recursiveRest 37 = .ok (.invokevirtual 107, 3) := by decide +kernel
theorem dX5_recursiveRest_40 : decode cX5_recursiveRest 40 = .ok (.ifCond .eq 17, 3) := by decide +kernel
theorem dX5_recursiveRest_43 : decode cX5_recursiveRest 43 = .ok (.iload_n 3, 1) := by decide +kernel
theorem dX5_recursiveRest_44 : decode cX5_recursiveRest 44 = .ok (.aload_n 0, 1) := by decide +kernel
theorem dX5_recursiveRest_45 : decode cX5_recursiveRest 45 = .ok (.iload 4, 2) := by decide +kernel
theorem dX5_recursiveRest_47 : decode cX5_recursiveRest 47 = .ok (.iload_n 2, 1) := by decide +kernel
theorem dX5_recursiveRest_48 : decode cX5_recursiveRest 48 = .ok (.iconst 1, 1) := by decide +kernel
theorem dX5_recursiveRest_49 : decode cX5_recursiveRest 49 = .ok (.iadd, 1) := by decide +kernel
theorem dX5_recursiveRest_50 : decode cX5_recursiveRest 50 = .ok (.invokestatic 320, 3) := by decide +kernel
theorem dX5_recursiveRest_53 : decode cX5_recursiveRest 53 = .ok (.invokestatic 462, 3) := by decide +kernel
theorem dX5_recursiveRest_56 : decode cX5_recursiveRest 56 = .ok (.istore_n 3, 1) := by decide +kernel
theorem dX5_recursiveRest_57 : decode cX5_recursiveRest 57 = .ok (.iinc 4 1, 3) := by decide +kernel
theorem dX5_recursiveRest_60 : decode cX5_recursiveRest 60 = .ok (.goto (-36), 3) := by decide +kernel
theorem dX5_recursiveRest_63 : decode cX5_recursiveRest 63 = .ok (.aload_n 0, 1) := by decide +kernel
theorem dX5_recursiveRest_64 : decode cX5_recursiveRest 64 = .ok (.getfield 327, 3) := by decide +kernel
theorem dX5_recursiveRest_67 : decode cX5_recursiveRest 67 = .ok (.iload_n 1, 1) := by decide +kernel
theorem dX5_recursiveRest_68 : decode cX5_recursiveRest 68 = .ok (.aload_n 0, 1) := by decide +kernel
theorem dX5_recursiveRest_69 : decode cX5_recursiveRest 69 = .ok (.getfield 214, 3) := by decide +kernel
theorem dX5_recursiveRest_72 : decode cX5_recursiveRest 72 = .ok (.iload_n 1, 1) := by decide +kernel
theorem dX5_recursiveRest_73 : decode cX5_recursiveRest 73 = .ok (.iaload, 1) := by decide +kernel
theorem dX5_recursiveRest_74 : decode cX5_recursiveRest 74 = .ok (.iload_n 3, 1) := by decide +kernel
theorem dX5_recursiveRest_75 : decode cX5_recursiveRest 75 = .ok (.iadd, 1) := by decide +kernel
theorem dX5_recursiveRest_76 : decode cX5_recursiveRest 76 = .ok (.iastore, 1) := by decide +kernel
theorem dX5_recursiveRest_77 : decode cX5_recursiveRest 77 = .ok (.aload_n 0, 1) := by decide +kernel
theorem dX5_recursiveRest_78 : decode cX5_recursiveRest 78 = .ok (.getfield 327, 3) := by decide +kernel
theorem dX5_recursiveRest_81 : decode cX5_recursiveRest 81 = .ok (.iload_n 1, 1) := by decide +kernel
theorem dX5_recursiveRest_82 : decode cX5_recursiveRest 82 = .ok (.iaload, 1) := by decide +kernel
theorem dX5_recursiveRest_83 : decode cX5_recursiveRest 83 = .ok (.ireturn, 1) := by decide +kernel
