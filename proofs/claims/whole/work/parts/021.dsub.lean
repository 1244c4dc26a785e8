theorem dX0_init_0 : decode cX0_init 0 = .ok (.aload_n 0, 1) := by decide +kernel
theorem dX0_init_1 : decode cX0_init 1 = .ok (.invokespecial 3, 3) := by decide +kernel
theorem dX0_init_4 : decode cX0_init 4 = .ok (.aload_n 0, 1) := by decide +kernel
theorem dX0_init_5 : decode cX0_init 5 = .ok (.bipush 24, 2) := by decide +kernel
theorem dX0_init_7 : decode cX0_init 7 = .ok (.newarray .int, 2) := by decide +kernel
theorem dX0_init_9 : decode cX0_init 9 = .ok (.putfield 9, 3) := by decide +kernel
theorem dX0_init_12 : decode cX0_init 12 = .ok (.aload_n 0, 1) := by decide +kernel
theorem dX0_init_13 : decode cX0_init 13 = .ok (.bipush 24, 2) := by decide +kernel
theorem dX0_init_15 : decode cX0_init 15 = .ok (.newarray .char, 2) := by decide +kernel
theorem dX0_init_17 : decode cX0_init 17 = .ok (.putfield 15, 3) := by decide +kernel
theorem dX0_init_20 : decode cX0_init 20 = .ok (.aload_n 0, 1) := by decide +kernel
theorem dX0_init_21 : decode cX0_init 21 = .ok (.bipush 24, 2) := by decide +kernel
theorem dX0_init_23 : decode cX0_init 23 = .ok (.newarray .int, 2) := by decide +kernel
theorem dX0_init_25 : decode cX0_init 25 = .ok (.putfield 19, 3) := by decide +kernel
theorem dX0_init_28 : decode cX0_init 28 = .ok (.aload_n 0, 1) := by decide +kernel
theorem dX0_init_29 : decode cX0_init 29 = .ok (.iconst 0, 1) := by decide +kernel
theorem dX0_init_30 : decode cX0_init 30 = .ok (.putfield 22, 3) := by decide +kernel
theorem dX0_init_33 : decode cX0_init 33 = .ok (.aload_n 0, 1) := by decide +kernel
theorem dX0_init_34 : decode cX0_init 34 = .ok (.iconst 0, 1) := by decide +kernel
theorem dX0_init_35 : decode cX0_init 35 = .ok (.putfield 26, 3) := by decide +kernel
theorem dX0_init_38 : decode cX0_init 38 = .ok (.aload_n 0, 1) := by decide +kernel
theorem dX0_init_39 : decode cX0_init 39 = .ok (.iconst 0, 1) := by decide +kernel
theorem dX0_init_40 : decode cX0_init 40 = .ok (.putfield 29, 3) := by decide +kernel
theorem dX0_init_43 : decode cX0_init 43 = .ok (.aload_n 0, 1) := by decide +kernel
theorem dX0_init_44 : decode cX0_init 44 = .ok (.iconst 0, 1) := by decide +kernel
theorem dX0_init_45 : decode cX0_init 45 = .ok (.putfield 32, 3) := by decide +kernel
theorem dX0_init_48 : decode cX0_init 48 = .ok (.aload_n 0, 1) := by decide +kernel
theorem dX0_init_49 : decode cX0_init 49 = .ok (.iconst 0, 1) := by decide +kernel
theorem dX0_init_50 : decode cX0_init 50 = .ok (.putfield 35, 3) := by decide +kernel
theorem dX0_init_53 : decode cX0_init 53 = .ok (.return_, 1) := by decide +kernel
theorem dX0_has_0 : decode cX0_has 0 = .ok (.iload_n 1, 1) := by decide +kernel
theorem dX0_has_1 : decode cX0_has 1 = .ok (.ifCond .lt 15, 3) := by decide +kernel
theorem dX0_has_4 : decode cX0_has 4 = .ok (.iload_n 1, 1) := by decide +kernel
theorem dX0_has_5 : decode cX0_has 5 = .ok (.aload_n 0, 1) := by decide +kernel
theorem dX0_has_6 : decode cX0_has 6 = .ok (.getfield 22, 3) := by decide +kernel
theorem dX0_has_9 : decode cX0_has 9 = .ok (.if_icmp .ge 7, 3) := by decide +kernel
theorem dX0_has_12 : decode cX0_has 12 = .ok (.iconst 1, 1) := by decide +kernel
theorem dX0_has_13 : decode cX0_has 13 = .ok (.goto 4, 3) := by decide +kernel
theorem dX0_has_16 : decode cX0_has 16 = .ok (.iconst 0, 1) := by decide +kernel
theorem dX0_has_17 : decode cX0_has 17 = .ok (.ireturn, 1) := by decide +kernel
theorem dX0_open_0 : decode cX0_open 0 = .ok (.aload_n 0, 1) := by decide +kernel
theorem dX0_open_1 : decode cX0_open 1 = .ok (.iload_n 1, 1) := by decide +kernel
theorem dX0_open_2 : decode cX0_open 2 = .ok (.putfield 29, 3) := by decide +kernel
theorem dX0_open_5 : decode cX0_open 5 = .ok (.aload_n 0, 1) := by decide +kernel
theorem dX0_open_6 : decode cX0_open 6 = .ok (.iconst 0, 1) := by decide +kernel
theorem dX0_open_7 : decode cX0_open 7 = .ok (.putfield 22, 3) := by decide +kernel
theorem dX0_open_10 : decode cX0_open 10 = .ok (.aload_n 0, 1) := by decide +kernel
theorem dX0_open_11 : decode cX0_open 11 = .ok (.iconst 0, 1) := by decide +kernel
theorem dX0_open_12 : decode cX0_open 12 = .ok (.putfield 26, 3) := by decide +kernel
theorem dX0_open_15 : decode cX0_open 15 = .ok (.return_, 1) := by decide +kernel
theorem dX0_addItem_0 : decode cX0_addItem 0 = .ok (.aload_n 0, 1) := by decide +kernel
theorem dX0_addItem_1 : decode cX0_addItem 1 = .ok (.getfield 22, 3) := by decide +kernel
theorem dX0_addItem_4 : decode cX0_addItem 4 = .ok (.bipush 24, 2) := by decide +kernel
theorem dX0_addItem_6 : decode cX0_addItem 6 = .ok (.if_icmp .ge 44, 3) := by decide +kernel
theorem dX0_addItem_9 : decode cX0_addItem 9 = .ok (.aload_n 0, 1) := by decide +kernel
theorem dX0_addItem_10 : decode cX0_addItem 10 = .ok (.getfield 9, 3) := by decide +kernel
theorem dX0_addItem_13 : decode cX0_addItem 13 = .ok (.aload_n 0, 1) := by decide +kernel
theorem dX0_addItem_14 : decode cX0_addItem 14 = .ok (.getfield 22, 3) := by decide +kernel
theorem dX0_addItem_17 : decode cX0_addItem 17 = .ok (.iload_n 1, 1) := by decide +kernel
theorem dX0_addItem_18 : decode cX0_addItem 18 = .ok (.iastore, 1) := by decide +kernel
theorem dX0_addItem_19 : decode cX0_addItem 19 = .ok (.aload_n 0, 1) := by decide +kernel
theorem dX0_addItem_20 : decode cX0_addItem 20 = .ok (.getfield 15, 3) := by decide +kernel
theorem dX0_addItem_23 : decode cX0_addItem 23 = .ok (.aload_n 0, 1) := by decide +kernel
theorem dX0_addItem_24 : decode cX0_addItem 24 = .ok (.getfield 22, 3) := by decide +kernel
theorem dX0_addItem_27 : decode cX0_addItem 27 = .ok (.bipush 117, 2) := by decide +kernel
theorem dX0_addItem_29 : decode cX0_addItem 29 = .ok (.castore, 1) := by decide +kernel
theorem dX0_addItem_30 : decode cX0_addItem 30 = .ok (.aload_n 0, 1) := by decide +kernel
theorem dX0_addItem_31 : decode cX0_addItem 31 = .ok (.dup, 1) := by decide +kernel
theorem dX0_addItem_32 : decode cX0_addItem 32 = .ok (.getfield 22, 3) := by decide +kernel
theorem dX0_addItem_35 : decode cX0_addItem 35 = .ok (.iconst 1, 1) := by decide +kernel
theorem dX0_addItem_36 : decode cX0_addItem 36 = .ok (.iadd, 1) := by decide +kernel
theorem dX0_addItem_37 : decode cX0_addItem 37 = .ok (.putfield 22, 3) := by decide +kernel
theorem dX0_addItem_40 : decode cX0_addItem 40 = .ok (.aload_n 0, 1) := by decide +kernel
theorem dX0_addItem_41 : decode cX0_addItem 41 = .ok (.dup, 1) := by decide +kernel
theorem dX0_addItem_42 : decode cX0_addItem 42 = .ok (.getfield 26, 3) := by decide +kernel
theorem dX0_addItem_45 : decode cX0_addItem 45 = .ok (.iconst 1, 1) := by decide +kernel
theorem dX0_addItem_46 : decode cX0_addItem 46 = .ok (.iadd, 1) := by decide +kernel
theorem dX0_addItem_47 : decode cX0_addItem 47 = .ok (.putfield 26, 3) := by decide +kernel
theorem dX0_addItem_50 : decode cX0_addItem 50 = .ok (.return_, 1) := by decide +kernel
theorem dX0_settle_0 : decode cX0_settle 0 = .ok (.aload_n 0, 1) := by decide +kernel
theorem dX0_settle_1 : decode cX0_settle 1 = .ok (.getfield 15, 3) := by decide +kernel
theorem dX0_settle_4 : decode cX0_settle 4 = .ok (.iload_n 1, 1) := by decide +kernel
theorem dX0_settle_5 : decode cX0_settle 5 = .ok (.iload_n 2, 1) := by decide +kernel
theorem dX0_settle_6 : decode cX0_settle 6 = .ok (.castore, 1) := by decide +kernel
theorem dX0_settle_7 : decode cX0_settle 7 = .ok (.aload_n 0, 1) := by decide +kernel
theorem dX0_settle_8 : decode cX0_settle 8 = .ok (.getfield 19, 3) := by decide +kernel
theorem dX0_settle_11 : decode cX0_settle 11 = .ok (.iload_n 1, 1) := by decide +kernel
theorem dX0_settle_12 : decode cX0_settle 12 = .ok (.iload_n 3, 1) := by decide +kernel
theorem dX0_settle_13 : decode cX0_settle 13 = .ok (.iastore, 1) := by decide +kernel
theorem dX0_settle_14 : decode cX0_settle 14 = .ok (.aload_n 0, 1) := by decide +kernel
theorem dX0_settle_15 : decode cX0_settle 15 = .ok (.dup, 1) := by decide +kernel
theorem dX0_settle_16 : decode cX0_settle 16 = .ok (.getfield 26, 3) := by decide +kernel
theorem dX0_settle_19 : decode cX0_settle 19 = .ok (.iconst 1, 1) := by decide +kernel
theorem dX0_settle_20 : decode cX0_settle 20 = .ok (.isub, 1) := by decide +kernel
theorem dX0_settle_21 : decode cX0_settle 21 = .ok (.putfield 26, 3) := by decide +kernel
theorem dX0_settle_24 : decode cX0_settle 24 = .ok (.aload_n 0, 1) := by decide +kernel
theorem dX0_settle_25 : decode cX0_settle 25 = .ok (.dup, 1) := by decide +kernel
theorem dX0_settle_26 : decode cX0_settle 26 = .ok (.getfield 32, 3) := by decide +kernel
theorem dX0_settle_29 : decode cX0_settle 29 = .ok (.iconst 1, 1) := by decide +kernel
theorem dX0_settle_30 : decode cX0_settle 30 = .ok (.iadd, 1) := by decide +kernel
theorem dX0_settle_31 : decode cX0_settle 31 = .ok (.putfield 32, 3) := by decide +kernel
theorem dX0_settle_34 : decode cX0_settle 34 = .ok (.iload_n 2, 1) := by decide +kernel
theorem dX0_settle_35 : decode cX0_settle 35 = .ok (.bipush 114, 2) := by decide +kernel
theorem dX0_settle_37 : decode cX0_settle 37 = .ok (.if_icmp .ne 13, 3) := by decide +kernel
theorem dX0_settle_40 : decode cX0_settle 40 = .ok (.aload_n 0, 1) := by decide +kernel
theorem dX0_settle_41 : decode cX0_settle 41 = .ok (.dup, 1) := by decide +kernel
theorem dX0_settle_42 : decode cX0_settle 42 = .ok (.getfield 35, 3) := by decide +kernel
theorem dX0_settle_45 : decode cX0_settle 45 = .ok (.iconst 1, 1) := by decide +kernel
theorem dX0_settle_46 : decode cX0_settle 46 = .ok (.iadd, 1) := by decide +kernel
theorem dX0_settle_47 : decode cX0_settle 47 = .ok (.putfield 35, 3) := by decide +kernel
theorem dX0_settle_50 : decode cX0_settle 50 = .ok (.return_, 1) := by decide +kernel
theorem dX1_init_0 : decode cX1_init 0 = .ok (.aload_n 0, 1) := by decide +kernel
theorem dX1_init_1 : decode cX1_init 1 = .ok (.invokespecial 3, 3) := by decide +kernel
theorem dX1_init_4 : decode cX1_init 4 = .ok (.aload_n 0, 1) := by decide +kernel
theorem dX1_init_5 : decode cX1_init 5 = .ok (.bipush 99, 2) := by decide +kernel
theorem dX1_init_7 : decode cX1_init 7 = .ok (.newarray .char, 2) := by decide +kernel
theorem dX1_init_9 : decode cX1_init 9 = .ok (.putfield 9, 3) := by decide +kernel
theorem dX1_init_12 : decode cX1_init 12 = .ok (.aload_n 0, 1) := by decide +kernel
theorem dX1_init_13 : decode cX1_init 13 = .ok (.bipush 99, 2) := by decide +kernel
theorem dX1_init_15 : decode cX1_init 15 = .ok (.newarray .int, 2) := by decide +kernel
theorem dX1_init_17 : decode cX1_init 17 = .ok (.putfield 15, 3) := by decide +kernel
theorem dX1_init_20 : decode cX1_init 20 = .ok (.aload_n 0, 1) := by decide +kernel
theorem dX1_init_21 : decode cX1_init 21 = .ok (.bipush 99, 2) := by decide +kernel
theorem dX1_init_23 : decode cX1_init 23 = .ok (.newarray .int, 2) := by decide +kernel
theorem dX1_init_25 : decode cX1_init 25 = .ok (.putfield 19, 3) := by decide +kernel
theorem dX1_init_28 : decode cX1_init 28 = .ok (.aload_n 0, 1) := by decide +kernel
theorem dX1_init_29 : decode cX1_init 29 = .ok (.bipush 99, 2) := by decide +kernel
theorem dX1_init_31 : decode cX1_init 31 = .ok (.newarray .int, 2) := by decide +kernel
theorem dX1_init_33 : decode cX1_init 33 = .ok (.putfield 22, 3) := by decide +kernel
theorem dX1_init_36 : decode cX1_init 36 = .ok (.aload_n 0, 1) := by decide +kernel
theorem dX1_init_37 : decode cX1_init 37 = .ok (.iconst 0, 1) := by decide +kernel
theorem dX1_init_38 : decode cX1_init 38 = .ok (.putfield 25, 3) := by decide +kernel
theorem dX1_init_41 : decode cX1_init 41 = .ok (.return_, 1) := by decide +kernel
theorem dX1_has_0 : decode cX1_has 0 = .ok (.iload_n 1, 1) := by decide +kernel
theorem dX1_has_1 : decode cX1_has 1 = .ok (.ifCond .lt 15, 3) := by decide +kernel
theorem dX1_has_4 : decode cX1_has 4 = .ok (.iload_n 1, 1) := by decide +kernel
theorem dX1_has_5 : decode cX1_has 5 = .ok (.aload_n 0, 1) := by decide +kernel
theorem dX1_has_6 : decode cX1_has 6 = .ok (.getfield 25, 3) := by decide +kernel
theorem dX1_has_9 : decode cX1_has 9 = .ok (.if_icmp .ge 7, 3) := by decide +kernel
theorem dX1_has_12 : decode cX1_has 12 = .ok (.iconst 1, 1) := by decide +kernel
theorem dX1_has_13 : decode cX1_has 13 = .ok (.goto 4, 3) := by decide +kernel
theorem dX1_has_16 : decode cX1_has 16 = .ok (.iconst 0, 1) := by decide +kernel
theorem dX1_has_17 : decode cX1_has 17 = .ok (.ireturn, 1) := by decide +kernel
set_option maxRecDepth 20000 in
theorem ggX1_add_X1_seal : GoodIn wsX1_add wsX1_seal := goodIn_ca (goodIn_r _ [10, 11, 4, 5, 3, 12, 13, 14, 15, 16] (by decide +kernel) (by decide +kernel)) (goodIn_sub (fun _ h => List.mem_cons_of_mem _ (List.mem_append_right _ h)) (by decide +kernel))
set_option maxRecDepth 20000 in
theorem gX1_add_X1_seal : GoodIn wsX1_add (wsV RX1 29 RX1 yX1_seal wsX1_seal) := goodIn_app (goodIn_of _ (by decide +kernel)) ggX1_add_X1_seal
theorem dX1_add_0 : decode cX1_add 0 = .ok (.aload_n 0, 1) := by decide +kernel
theorem dX1_add_1 : decode cX1_add 1 = .ok (.getfield 25, 3) := by decide +kernel
theorem dX1_add_4 : decode cX1_add 4 = .ok (.bipush 99, 2) := by decide +kernel
theorem dX1_add_6 : decode cX1_add 6 = .ok (.if_icmp .lt 4, 3) := by decide +kernel
theorem dX1_add_9 : decode cX1_add 9 = .ok (.return_, 1) := by decide +kernel
theorem dX1_add_10 : decode cX1_add 10 = .ok (.aload_n 0, 1) := by decide +kernel
theorem dX1_add_11 : decode cX1_add 11 = .ok (.getfield 25, 3) := by decide +kernel
theorem dX1_add_14 : decode cX1_add 14 = .ok (.ifCond .le 17, 3) := by decide +kernel
theorem dX1_add_17 : decode cX1_add 17 = .ok (.aload_n 0, 1) := by decide +kernel
theorem dX1_add_18 : decode cX1_add 18 = .ok (.getfield 22, 3) := by decide +kernel
theorem dX1_add_21 : decode cX1_add 21 = .ok (.aload_n 0, 1) := by decide +kernel
theorem dX1_add_22 : decode cX1_add 22 = .ok (.getfield 25, 3) := by decide +kernel
theorem dX1_add_25 : decode cX1_add 25 = .ok (.iconst 1, 1) := by decide +kernel
theorem dX1_add_26 : decode cX1_add 26 = .ok (.isub, 1) := by decide +kernel
theorem dX1_add_27 : decode cX1_add 27 = .ok (.iaload, 1) := by decide +kernel
theorem dX1_add_28 : decode cX1_add 28 = .ok (.goto 4, 3) := by decide +kernel
theorem dX1_add_31 : decode cX1_add 31 = .ok (.iconst 0, 1) := by decide +kernel
theorem dX1_add_32 : decode cX1_add 32 = .ok (.istore 4, 2) := by decide +kernel
theorem dX1_add_34 : decode cX1_add 34 = .ok (.aload_n 0, 1) := by decide +kernel
theorem dX1_add_35 : decode cX1_add 35 = .ok (.getfield 9, 3) := by decide +kernel
theorem dX1_add_38 : decode cX1_add 38 = .ok (.aload_n 0, 1) := by decide +kernel
theorem dX1_add_39 : decode cX1_add 39 = .ok (.getfield 25, 3) := by decide +kernel
theorem dX1_add_42 : decode cX1_add 42 = .ok (.iload_n 1, 1) := by decide +kernel
theorem dX1_add_43 : decode cX1_add 43 = .ok (.castore, 1) := by decide +kernel
theorem dX1_add_44 : decode cX1_add 44 = .ok (.aload_n 0, 1) := by decide +kernel
theorem dX1_add_45 : decode cX1_add 45 = .ok (.getfield 15, 3) := by decide +kernel
theorem dX1_add_48 : decode cX1_add 48 = .ok (.aload_n 0, 1) := by decide +kernel
theorem dX1_add_49 : decode cX1_add 49 = .ok (.getfield 25, 3) := by decide +kernel
theorem dX1_add_52 : decode cX1_add 52 = .ok (.iload_n 2, 1) := by decide +kernel
theorem dX1_add_53 : decode cX1_add 53 = .ok (.iastore, 1) := by decide +kernel
theorem dX1_add_54 : decode cX1_add 54 = .ok (.aload_n 0, 1) := by decide +kernel
theorem dX1_add_55 : decode cX1_add 55 = .ok (.getfield 19, 3) := by decide +kernel
theorem dX1_add_58 : decode cX1_add 58 = .ok (.aload_n 0, 1) := by decide +kernel
theorem dX1_add_59 : decode cX1_add 59 = .ok (.getfield 25, 3) := by decide +kernel
theorem dX1_add_62 : decode cX1_add 62 = .ok (.iload_n 3, 1) := by decide +kernel
theorem dX1_add_63 : decode cX1_add 63 = .ok (.iastore, 1) := by decide +kernel
theorem dX1_add_64 : decode cX1_add 64 = .ok (.aload_n 0, 1) := by decide +kernel
theorem dX1_add_65 : decode cX1_add 65 = .ok (.getfield 22, 3) := by decide +kernel
theorem dX1_add_68 : decode cX1_add 68 = .ok (.aload_n 0, 1) := by decide +kernel
theorem dX1_add_69 : decode cX1_add 69 = .ok (.getfield 25, 3) := by decide +kernel
theorem dX1_add_72 : decode cX1_add 72 = .ok (.aload_n 0, 1) := by decide +kernel
theorem dX1_add_73 : decode cX1_add 73 = .ok (.iload 4, 2) := by decide +kernel
theorem dX1_add_75 : decode cX1_add 75 = .ok (.aload_n 0, 1) := by decide +kernel
theorem dX1_add_76 : decode cX1_add 76 = .ok (.getfield 25, 3) := by decide +kernel
theorem dX1_add_79 : decode cX1_add 79 = .ok (.invokevirtual 29, 3) := by decide +kernel
theorem dX1_add_82 : decode cX1_add 82 = .ok (.iastore, 1) := by decide +kernel
theorem dX1_add_83 : decode cX1_add 83 = .ok (.aload_n 0, 1) := by decide +kernel
theorem dX1_add_84 : decode cX1_add 84 = .ok (.dup, 1) := by decide +kernel
theorem dX1_add_85 : decode cX1_add 85 = .ok (.getfield 25, 3) := by decide +kernel
theorem dX1_add_88 : decode cX1_add 88 = .ok (.iconst 1, 1) := by decide +kernel
theorem dX1_add_89 : decode cX1_add 89 = .ok (.iadd, 1) := by decide +kernel
theorem dX1_add_90 : decode cX1_add 90 = .ok (.putfield 25, 3) := by decide +kernel
theorem dX1_add_93 : decode cX1_add 93 = .ok (.return_, 1) := by decide +kernel
theorem dX1_seal_0 : decode cX1_seal 0 = .ok (.iload_n 1, 1) := by decide +kernel
theorem dX1_seal_1 : decode cX1_seal 1 = .ok (.iconst 5, 1) := by decide +kernel
theorem dX1_seal_2 : decode cX1_seal 2 = .ok (.ishl, 1) := by decide +kernel
theorem dX1_seal_3 : decode cX1_seal 3 = .ok (.iload_n 1, 1) := by decide +kernel
theorem dX1_seal_4 : decode cX1_seal 4 = .ok (.bipush 11, 2) := by decide +kernel
theorem dX1_seal_6 : decode cX1_seal 6 = .ok (.iushr, 1) := by decide +kernel
theorem dX1_seal_7 : decode cX1_seal 7 = .ok (.ior, 1) := by decide +kernel
theorem dX1_seal_8 : decode cX1_seal 8 = .ok (.ldc 33, 2) := by decide +kernel
theorem dX1_seal_10 : decode cX1_seal 10 = .ok (.iand, 1) := by decide +kernel
theorem dX1_seal_11 : decode cX1_seal 11 = .ok (.istore_n 3, 1) := by decide +kernel
theorem dX1_seal_12 : decode cX1_seal 12 = .ok (.sipush 257, 3) := by decide +kernel
theorem dX1_seal_15 : decode cX1_seal 15 = .ok (.aload_n 0, 1) := by decide +kernel
theorem dX1_seal_16 : decode cX1_seal 16 = .ok (.getfield 15, 3) := by decide +kernel
theorem dX1_seal_19 : decode cX1_seal 19 = .ok (.iload_n 2, 1) := by decide +kernel
theorem dX1_seal_20 : decode cX1_seal 20 = .ok (.iaload, 1) := by decide +kernel
theorem dX1_seal_21 : decode cX1_seal 21 = .ok (.imul, 1) := by decide +kernel
theorem dX1_seal_22 : decode cX1_seal 22 = .ok (.bipush 17, 2) := by decide +kernel
theorem dX1_seal_24 : decode cX1_seal 24 = .ok (.aload_n 0, 1) := by decide +kernel
theorem dX1_seal_25 : decode cX1_seal 25 = .ok (.getfield 19, 3) := by decide +kernel
theorem dX1_seal_28 : decode cX1_seal 28 = .ok (.iload_n 2, 1) := by decide +kernel
theorem dX1_seal_29 : decode cX1_seal 29 = .ok (.iaload, 1) := by decide +kernel
theorem dX1_seal_30 : decode cX1_seal 30 = .ok (.imul, 1) := by decide +kernel
theorem dX1_seal_31 : decode cX1_seal 31 = .ok (.iadd, 1) := by decide +kernel
theorem dX1_seal_32 : decode cX1_seal 32 = .ok (.aload_n 0, 1) := by decide +kernel
theorem dX1_seal_33 : decode cX1_seal 33 = .ok (.getfield 9, 3) := by decide +kernel
theorem dX1_seal_36 : decode cX1_seal 36 = .ok (.iload_n 2, 1) := by decide +kernel
theorem dX1_seal_37 : decode cX1_seal 37 = .ok (.caload, 1) := by decide +kernel
theorem dX1_seal_38 : decode cX1_seal 38 = .ok (.iadd, 1) := by decide +kernel
theorem dX1_seal_39 : decode cX1_seal 39 = .ok (.istore 4, 2) := by decide +kernel
theorem dX1_seal_41 : decode cX1_seal 41 = .ok (.iload_n 3, 1) := by decide +kernel
theorem dX1_seal_42 : decode cX1_seal 42 = .ok (.iload 4, 2) := by decide +kernel
theorem dX1_seal_44 : decode cX1_seal 44 = .ok (.ldc 33, 2) := by decide +kernel
theorem dX1_seal_46 : decode cX1_seal 46 = .ok (.iand, 1) := by decide +kernel
theorem dX1_seal_47 : decode cX1_seal 47 = .ok (.ixor, 1) := by decide +kernel
theorem dX1_seal_48 : decode cX1_seal 48 = .ok (.ireturn, 1) := by decide +kernel
set_option maxRecDepth 20000 in
theorem ggX1_replay_X1_seal : GoodIn wsX1_replay wsX1_seal := goodIn_ca (goodIn_r _ [6, 7, 8, 9, 10, 11, 12, 13, 14, 15] (by decide +kernel) (by decide +kernel)) (goodIn_sub (fun _ h => List.mem_cons_of_mem _ (List.mem_append_right _ h)) (by decide +kernel))
set_option maxRecDepth 20000 in
theorem gX1_replay_X1_seal : GoodIn wsX1_replay (wsV RX1 29 RX1 yX1_seal wsX1_seal) := goodIn_app (goodIn_of _ (by decide +kernel)) ggX1_replay_X1_seal
theorem dX1_replay_0 : decode cX1_replay 0 = .ok (.iconst 0, 1) := by decide +kernel
theorem dX1_replay_1 : decode cX1_replay 1 = .ok (.istore_n 2, 1) := by decide +kernel
theorem dX1_replay_2 : decode cX1_replay 2 = .ok (.iconst 0, 1) := by decide +kernel
theorem dX1_replay_3 : decode cX1_replay 3 = .ok (.istore_n 3, 1) := by decide +kernel
theorem dX1_replay_4 : decode cX1_replay 4 = .ok (.iload_n 3, 1) := by decide +kernel
theorem dX1_replay_5 : decode cX1_replay 5 = .ok (.iload_n 1, 1) := by decide +kernel
theorem dX1_replay_6 : decode cX1_replay 6 = .ok (.if_icmp .gt 24, 3) := by decide +kernel
theorem dX1_replay_9 : decode cX1_replay 9 = .ok (.iload_n 3, 1) := by decide +kernel
theorem dX1_replay_10 : decode cX1_replay 10 = .ok (.aload_n 0, 1) := by decide +kernel
theorem dX1_replay_11 : decode cX1_replay 11 = .ok (.getfield 25, 3) := by decide +kernel
theorem dX1_replay_14 : decode cX1_replay 14 = .ok (.if_icmp .ge 16, 3) := by decide +kernel
theorem dX1_replay_17 : decode cX1_replay 17 = .ok (.aload_n 0, 1) := by decide +kernel
theorem dX1_replay_18 : decode cX1_replay 18 = .ok (.iload_n 2, 1) := by decide +kernel
theorem dX1_replay_19 : decode cX1_replay 19 = .ok (.iload_n 3, 1) := by decide +kernel
theorem dX1_replay_20 : decode cX1_replay 20 = .ok (.invokevirtual 29, 3) := by decide +kernel
theorem dX1_replay_23 : decode cX1_replay 23 = .ok (.istore_n 2, 1) := by decide +kernel
theorem dX1_replay_24 : decode cX1_replay 24 = .ok (.iinc 3 1, 3) := by decide +kernel
theorem dX1_replay_27 : decode cX1_replay 27 = .ok (.goto (-23), 3) := by decide +kernel
theorem dX1_replay_30 : decode cX1_replay 30 = .ok (.iload_n 2, 1) := by decide +kernel
theorem dX1_replay_31 : decode cX1_replay 31 = .ok (.ireturn, 1) := by decide +kernel
theorem dX2_init_0 : decode cX2_init 0 = .ok (.aload_n 0, 1) := by decide +kernel
theorem dX2_init_1 : decode cX2_init 1 = .ok (.invokespecial 3, 3) := by decide +kernel
theorem dX2_init_4 : decode cX2_init 4 = .ok (.aload_n 0, 1) := by decide +kernel
theorem dX2_init_5 : decode cX2_init 5 = .ok (.bipush 24, 2) := by decide +kernel
theorem dX2_init_7 : decode cX2_init 7 = .ok (.newarray .int, 2) := by decide +kernel
theorem dX2_init_9 : decode cX2_init 9 = .ok (.putfield 9, 3) := by decide +kernel
theorem dX2_init_12 : decode cX2_init 12 = .ok (.aload_n 0, 1) := by decide +kernel
theorem dX2_init_13 : decode cX2_init 13 = .ok (.bipush 24, 2) := by decide +kernel
theorem dX2_init_15 : decode cX2_init 15 = .ok (.newarray .int, 2) := by decide +kernel
theorem dX2_init_17 : decode cX2_init 17 = .ok (.putfield 15, 3) := by decide +kernel
theorem dX2_init_20 : decode cX2_init 20 = .ok (.aload_n 0, 1) := by decide +kernel
theorem dX2_init_21 : decode cX2_init 21 = .ok (.bipush 24, 2) := by decide +kernel
theorem dX2_init_23 : decode cX2_init 23 = .ok (.newarray .int, 2) := by decide +kernel
theorem dX2_init_25 : decode cX2_init 25 = .ok (.putfield 18, 3) := by decide +kernel
theorem dX2_init_28 : decode cX2_init 28 = .ok (.aload_n 0, 1) := by decide +kernel
theorem dX2_init_29 : decode cX2_init 29 = .ok (.bipush 24, 2) := by decide +kernel
theorem dX2_init_31 : decode cX2_init 31 = .ok (.newarray .char, 2) := by decide +kernel
theorem dX2_init_33 : decode cX2_init 33 = .ok (.putfield 21, 3) := by decide +kernel
theorem dX2_init_36 : decode cX2_init 36 = .ok (.aload_n 0, 1) := by decide +kernel
theorem dX2_init_37 : decode cX2_init 37 = .ok (.bipush 24, 2) := by decide +kernel
theorem dX2_init_39 : decode cX2_init 39 = .ok (.newarray .int, 2) := by decide +kernel
theorem dX2_init_41 : decode cX2_init 41 = .ok (.putfield 25, 3) := by decide +kernel
theorem dX2_init_44 : decode cX2_init 44 = .ok (.aload_n 0, 1) := by decide +kernel
theorem dX2_init_45 : decode cX2_init 45 = .ok (.bipush 24, 2) := by decide +kernel
theorem dX2_init_47 : decode cX2_init 47 = .ok (.newarray .int, 2) := by decide +kernel
theorem dX2_init_49 : decode cX2_init 49 = .ok (.putfield 28, 3) := by decide +kernel
theorem dX2_init_52 : decode cX2_init 52 = .ok (.aload_n 0, 1) := by decide +kernel
theorem dX2_init_53 : decode cX2_init 53 = .ok (.iconst 0, 1) := by decide +kernel
theorem dX2_init_54 : decode cX2_init 54 = .ok (.putfield 31, 3) := by decide +kernel
theorem dX2_init_57 : decode cX2_init 57 = .ok (.return_, 1) := by decide +kernel
theorem dX2_has_0 : decode cX2_has 0 = .ok (.iload_n 1, 1) := by decide +kernel
theorem dX2_has_1 : decode cX2_has 1 = .ok (.ifCond .lt 15, 3) := by decide +kernel
theorem dX2_has_4 : decode cX2_has 4 = .ok (.iload_n 1, 1) := by decide +kernel
theorem dX2_has_5 : decode cX2_has 5 = .ok (.aload_n 0, 1) := by decide +kernel
theorem dX2_has_6 : decode cX2_has 6 = .ok (.getfield 31, 3) := by decide +kernel
theorem dX2_has_9 : decode cX2_has 9 = .ok (.if_icmp .ge 7, 3) := by decide +kernel
theorem dX2_has_12 : decode cX2_has 12 = .ok (.iconst 1, 1) := by decide +kernel
theorem dX2_has_13 : decode cX2_has 13 = .ok (.goto 4, 3) := by decide +kernel
theorem dX2_has_16 : decode cX2_has 16 = .ok (.iconst 0, 1) := by decide +kernel
theorem dX2_has_17 : decode cX2_has 17 = .ok (.ireturn, 1) := by decide +kernel
theorem dX2_add_0 : decode cX2_add 0 = .ok (.aload_n 0, 1) := by decide +kernel
theorem dX2_add_1 : decode cX2_add 1 = .ok (.getfield 9, 3) := by decide +kernel
theorem dX2_add_4 : decode cX2_add 4 = .ok (.aload_n 0, 1) := by decide +kernel
theorem dX2_add_5 : decode cX2_add 5 = .ok (.getfield 31, 3) := by decide +kernel
theorem dX2_add_8 : decode cX2_add 8 = .ok (.iload_n 1, 1) := by decide +kernel
theorem dX2_add_9 : decode cX2_add 9 = .ok (.iastore, 1) := by decide +kernel
theorem dX2_add_10 : decode cX2_add 10 = .ok (.aload_n 0, 1) := by decide +kernel
theorem dX2_add_11 : decode cX2_add 11 = .ok (.getfield 15, 3) := by decide +kernel
theorem dX2_add_14 : decode cX2_add 14 = .ok (.aload_n 0, 1) := by decide +kernel
theorem dX2_add_15 : decode cX2_add 15 = .ok (.getfield 31, 3) := by decide +kernel
theorem dX2_add_18 : decode cX2_add 18 = .ok (.iload_n 2, 1) := by decide +kernel
theorem dX2_add_19 : decode cX2_add 19 = .ok (.iastore, 1) := by decide +kernel
theorem dX2_add_20 : decode cX2_add 20 = .ok (.aload_n 0, 1) := by decide +kernel
theorem dX2_add_21 : decode cX2_add 21 = .ok (.getfield 18, 3) := by decide +kernel
theorem dX2_add_24 : decode cX2_add 24 = .ok (.aload_n 0, 1) := by decide +kernel
theorem dX2_add_25 : decode cX2_add 25 = .ok (.getfield 31, 3) := by decide +kernel
theorem dX2_add_28 : decode cX2_add 28 = .ok (.iload_n 3, 1) := by decide +kernel
theorem dX2_add_29 : decode cX2_add 29 = .ok (.iastore, 1) := by decide +kernel
theorem dX2_add_30 : decode cX2_add 30 = .ok (.aload_n 0, 1) := by decide +kernel
theorem dX2_add_31 : decode cX2_add 31 = .ok (.getfield 21, 3) := by decide +kernel
theorem dX2_add_34 : decode cX2_add 34 = .ok (.aload_n 0, 1) := by decide +kernel
theorem dX2_add_35 : decode cX2_add 35 = .ok (.getfield 31, 3) := by decide +kernel
theorem dX2_add_38 : decode cX2_add 38 = .ok (.bipush 97, 2) := by decide +kernel
theorem dX2_add_40 : decode cX2_add 40 = .ok (.castore, 1) := by decide +kernel
theorem dX2_add_41 : decode cX2_add 41 = .ok (.aload_n 0, 1) := by decide +kernel
theorem dX2_add_42 : decode cX2_add 42 = .ok (.getfield 28, 3) := by decide +kernel
theorem dX2_add_45 : decode cX2_add 45 = .ok (.aload_n 0, 1) := by decide +kernel
theorem dX2_add_46 : decode cX2_add 46 = .ok (.getfield 31, 3) := by decide +kernel
theorem dX2_add_49 : decode cX2_add 49 = .ok (.iload 4, 2) := by decide +kernel
theorem dX2_add_51 : decode cX2_add 51 = .ok (.iastore, 1) := by decide +kernel
theorem dX2_add_52 : decode cX2_add 52 = .ok (.aload_n 0, 1) := by decide +kernel
theorem dX2_add_53 : decode cX2_add 53 = .ok (.dup, 1) := by decide +kernel
theorem dX2_add_54 : decode cX2_add 54 = .ok (.getfield 31, 3) := by decide +kernel
theorem dX2_add_57 : decode cX2_add 57 = .ok (.dup_x1, 1) := by decide +kernel
theorem dX2_add_58 : decode cX2_add 58 = .ok (.iconst 1, 1) := by decide +kernel
theorem dX2_add_59 : decode cX2_add 59 = .ok (.iadd, 1) := by decide +kernel
theorem dX2_add_60 : decode cX2_add 60 = .ok (.putfield 31, 3) := by decide +kernel
theorem dX2_add_63 : decode cX2_add 63 = .ok (.ireturn, 1) := by decide +kernel
theorem dX2_isActiveOf_0 : decode cX2_isActiveOf 0 = .ok (.aload_n 0, 1) := by decide +kernel
theorem dX2_isActiveOf_1 : decode cX2_isActiveOf 1 = .ok (.getfield 9, 3) := by decide +kernel
theorem dX2_isActiveOf_4 : decode cX2_isActiveOf 4 = .ok (.iload_n 1, 1) := by decide +kernel
theorem dX2_isActiveOf_5 : decode cX2_isActiveOf 5 = .ok (.iaload, 1) := by decide +kernel
theorem dX2_isActiveOf_6 : decode cX2_isActiveOf 6 = .ok (.iload_n 2, 1) := by decide +kernel
theorem dX2_isActiveOf_7 : decode cX2_isActiveOf 7 = .ok (.if_icmp .ne 18, 3) := by decide +kernel
theorem dX2_isActiveOf_10 : decode cX2_isActiveOf 10 = .ok (.aload_n 0, 1) := by decide +kernel
theorem dX2_isActiveOf_11 : decode cX2_isActiveOf 11 = .ok (.getfield 21, 3) := by decide +kernel
theorem dX2_isActiveOf_14 : decode cX2_isActiveOf 14 = .ok (.iload_n 1, 1) := by decide +kernel
theorem dX2_isActiveOf_15 : decode cX2_isActiveOf 15 = .ok (.caload, 1) := by decide +kernel
theorem dX2_isActiveOf_16 : decode cX2_isActiveOf 16 = .ok (.bipush 120, 2) := by decide +kernel
theorem dX2_isActiveOf_18 : decode cX2_isActiveOf 18 = .ok (.if_icmp .eq 7, 3) := by decide +kernel
theorem dX2_isActiveOf_21 : decode cX2_isActiveOf 21 = .ok (.iconst 1, 1) := by decide +kernel
theorem dX2_isActiveOf_22 : decode cX2_isActiveOf 22 = .ok (.goto 4, 3) := by decide +kernel
theorem dX2_isActiveOf_25 : decode cX2_isActiveOf 25 = .ok (.iconst 0, 1) := by decide +kernel
theorem dX2_isActiveOf_26 : decode cX2_isActiveOf 26 = .ok (.ireturn, 1) := by decide +kernel
set_option maxRecDepth 20000 in
theorem ggX2_hasActive_X2_isActiveOf : GoodIn wsX2_hasActive wsX2_isActiveOf := goodIn_ca (goodIn_r _ [8, 9, 10, 11, 12, 13, 14, 15, 16, 17] (by decide +kernel) (by decide +kernel)) (goodIn_sub (fun _ h => List.mem_cons_of_mem _ (List.mem_append_right _ h)) (by decide +kernel))
set_option maxRecDepth 20000 in
theorem gX2_hasActive_X2_isActiveOf : GoodIn wsX2_hasActive (wsV RX2 35 RX2 yX2_isActiveOf wsX2_isActiveOf) := goodIn_app (goodIn_of _ (by decide +kernel)) ggX2_hasActive_X2_isActiveOf
theorem dX2_hasActive_0 : decode cX2_hasActive 0 = .ok (.iconst 0, 1) := by decide +kernel
theorem dX2_hasActive_1 : decode cX2_hasActive 1 = .ok (.istore 4, 2) := by decide +kernel
theorem dX2_hasActive_3 : decode cX2_hasActive 3 = .ok (.iload 4, 2) := by decide +kernel
theorem dX2_hasActive_5 : decode cX2_hasActive 5 = .ok (.aload_n 0, 1) := by decide +kernel
theorem dX2_hasActive_6 : decode cX2_hasActive 6 = .ok (.getfield 31, 3) := by decide +kernel
theorem dX2_hasActive_9 : decode cX2_hasActive 9 = .ok (.if_icmp .ge 43, 3) := by decide +kernel
theorem dX2_hasActive_12 : decode cX2_hasActive 12 = .ok (.aload_n 0, 1) := by decide +kernel
theorem dX2_hasActive_13 : decode cX2_hasActive 13 = .ok (.iload 4, 2) := by decide +kernel
theorem dX2_hasActive_15 : decode cX2_hasActive 15 = .ok (.iload_n 1, 1) := by decide +kernel
theorem dX2_hasActive_16 : decode cX2_hasActive 16 = .ok (.invokevirtual 35, 3) := by decide +kernel
theorem dX2_hasActive_19 : decode cX2_hasActive 19 = .ok (.ifCond .eq 27, 3) := by decide +kernel
theorem dX2_hasActive_22 : decode cX2_hasActive 22 = .ok (.aload_n 0, 1) := by decide +kernel
theorem dX2_hasActive_23 : decode cX2_hasActive 23 = .ok (.getfield 15, 3) := by decide +kernel
theorem dX2_hasActive_26 : decode cX2_hasActive 26 = .ok (.iload 4, 2) := by decide +kernel
theorem dX2_hasActive_28 : decode cX2_hasActive 28 = .ok (.iaload, 1) := by decide +kernel
theorem dX2_hasActive_29 : decode cX2_hasActive 29 = .ok (.iload_n 2, 1) := by decide +kernel
theorem dX2_hasActive_30 : decode cX2_hasActive 30 = .ok (.if_icmp .ne 16, 3) := by decide +kernel
theorem dX2_hasActive_33 : decode cX2_hasActive 33 = .ok (.aload_n 0, 1) := by decide +kernel
theorem dX2_hasActive_34 : decode cX2_hasActive 34 = .ok (.getfield 18, 3) := by decide +kernel
theorem dX2_hasActive_37 : decode cX2_hasActive 37 = .ok (.iload 4, 2) := by decide +kernel
theorem dX2_hasActive_39 : decode cX2_hasActive 39 = .ok (.iaload, 1) := by decide +kernel
theorem dX2_hasActive_40 : decode cX2_hasActive 40 = .ok (.iload_n 3, 1) := by decide +kernel
theorem dX2_hasActive_41 : decode cX2_hasActive 41 = .ok (.if_icmp .ne 5, 3) := by decide +kernel
theorem dX2_hasActive_44 : decode cX2_hasActive 44 = .ok (.iconst 1, 1) := by decide +kernel
theorem dX2_hasActive_45 : decode cX2_hasActive 45 = .ok (.ireturn, 1) := by decide +kernel
theorem dX2_hasActive_46 : decode cX2_hasActive 46 = .ok (.iinc 4 1, 3) := by decide +kernel
theorem dX2_hasActive_49 : decode cX2_hasActive 49 = .ok (.goto (-46), 3) := by decide +kernel
theorem dX2_hasActive_52 : decode cX2_hasActive 52 = .ok (.iconst 0, 1) := by decide +kernel
theorem dX2_hasActive_53 : decode cX2_hasActive 53 = .ok (.ireturn, 1) := by decide +kernel
theorem dX2_hasAnyInState_0 : decode cX2_hasAnyInState 0 = .ok (.iconst 0, 1) := by decide +kernel
theorem dX2_hasAnyInState_1 : decode cX2_hasAnyInState 1 = .ok (.istore_n 2, 1) := by decide +kernel
theorem dX2_hasAnyInState_2 : decode cX2_hasAnyInState 2 = .ok (.iload_n 2, 1) := by decide +kernel
theorem dX2_hasAnyInState_3 : decode cX2_hasAnyInState 3 = .ok (.aload_n 0, 1) := by decide +kernel
theorem dX2_hasAnyInState_4 : decode cX2_hasAnyInState 4 = .ok (.getfield 31, 3) := by decide +kernel
theorem dX2_hasAnyInState_7 : decode cX2_hasAnyInState 7 = .ok (.if_icmp .ge 21, 3) := by decide +kernel
theorem dX2_hasAnyInState_10 : decode cX2_hasAnyInState 10 = .ok (.aload_n 0, 1) := by decide +kernel
theorem dX2_hasAnyInState_11 : decode cX2_hasAnyInState 11 = .ok (.getfield 21, 3) := by decide +kernel
theorem dX2_hasAnyInState_14 : decode cX2_hasAnyInState 14 = .ok (.iload_n 2, 1) := by decide +kernel
theorem dX2_hasAnyInState_15 : decode cX2_hasAnyInState 15 = .ok (.caload, 1) := by decide +kernel
theorem dX2_hasAnyInState_16 : decode cX2_hasAnyInState 16 = .ok (.iload_n 1, 1) := by decide +kernel
theorem dX2_hasAnyInState_17 : decode cX2_hasAnyInState 17 = .ok (.if_icmp .ne 5, 3) := by decide +kernel
theorem dX2_hasAnyInState_20 : decode cX2_hasAnyInState 20 = .ok (.iconst 1, 1) := by decide +kernel
theorem dX2_hasAnyInState_21 : decode cX2_hasAnyInState 21 = .ok (.ireturn, 1) := by decide +kernel
theorem dX2_hasAnyInState_22 : decode cX2_hasAnyInState 22 = .ok (.iinc 2 1, 3) := by decide +kernel
theorem dX2_hasAnyInState_25 : decode cX2_hasAnyInState 25 = .ok (.goto (-23), 3) := by decide +kernel
theorem dX2_hasAnyInState_28 : decode cX2_hasAnyInState 28 = .ok (.iconst 0, 1) := by decide +kernel
theorem dX2_hasAnyInState_29 : decode cX2_hasAnyInState 29 = .ok (.ireturn, 1) := by decide +kernel
set_option maxRecDepth 20000 in
theorem ggX2_findFirstDue_X6_contains : GoodIn wsX2_findFirstDue wsX6_contains := goodIn_r _ [6, 7, 8, 5, 9] (by decide +kernel) (by decide +kernel)
set_option maxRecDepth 20000 in
theorem gX2_findFirstDue_X6_contains_n39 : GoodIn wsX2_findFirstDue (wsX6_contains) := ggX2_findFirstDue_X6_contains
theorem dX2_findFirstDue_0 : decode cX2_findFirstDue 0 = .ok (.iconst (-1), 1) := by decide +kernel
theorem dX2_findFirstDue_1 : decode cX2_findFirstDue 1 = .ok (.istore_n 3, 1) := by decide +kernel
theorem dX2_findFirstDue_2 : decode cX2_findFirstDue 2 = .ok (.iconst 0, 1) := by decide +kernel
theorem dX2_findFirstDue_3 : decode cX2_findFirstDue 3 = .ok (.istore 4, 2) := by decide +kernel
theorem dX2_findFirstDue_5 : decode cX2_findFirstDue 5 = .ok (.iconst 0, 1) := by decide +kernel
theorem dX2_findFirstDue_6 : decode cX2_findFirstDue 6 = .ok (.istore 5, 2) := by decide +kernel
theorem dX2_findFirstDue_8 : decode cX2_findFirstDue 8 = .ok (.iload 5, 2) := by decide +kernel
theorem dX2_findFirstDue_10 : decode cX2_findFirstDue 10 = .ok (.aload_n 0, 1) := by decide +kernel
theorem dX2_findFirstDue_11 : decode cX2_findFirstDue 11 = .ok (.getfield 31, 3) := by decide +kernel
theorem dX2_findFirstDue_14 : decode cX2_findFirstDue 14 = .ok (.if_icmp .ge 82, 3) := by decide +kernel
theorem dX2_findFirstDue_17 : decode cX2_findFirstDue 17 = .ok (.aload_n 0, 1) := by decide +kernel
theorem dX2_findFirstDue_18 : decode cX2_findFirstDue 18 = .ok (.getfield 21, 3) := by decide +kernel
theorem dX2_findFirstDue_21 : decode cX2_findFirstDue 21 = .ok (.iload 5, 2) := by decide +kernel
theorem dX2_findFirstDue_23 : decode cX2_findFirstDue 23 = .ok (.caload, 1) := by decide +kernel
theorem dX2_findFirstDue_24 : decode cX2_findFirstDue 24 = .ok (.bipush 119, 2) := by decide +kernel
theorem dX2_findFirstDue_26 : decode cX2_findFirstDue 26 = .ok (.if_icmp .ne 27, 3) := by decide +kernel
theorem dX2_findFirstDue_29 : decode cX2_findFirstDue 29 = .ok (.aload_n 0, 1) := by decide +kernel
theorem dX2_findFirstDue_30 : decode cX2_findFirstDue 30 = .ok (.getfield 25, 3) := by decide +kernel
theorem dX2_findFirstDue_33 : decode cX2_findFirstDue 33 = .ok (.iload 5, 2) := by decide +kernel
theorem dX2_findFirstDue_35 : decode cX2_findFirstDue 35 = .ok (.iaload, 1) := by decide +kernel
theorem dX2_findFirstDue_36 : decode cX2_findFirstDue 36 = .ok (.iload_n 1, 1) := by decide +kernel
theorem dX2_findFirstDue_37 : decode cX2_findFirstDue 37 = .ok (.if_icmp .gt 16, 3) := by decide +kernel
theorem dX2_findFirstDue_40 : decode cX2_findFirstDue 40 = .ok (.iload_n 2, 1) := by decide +kernel
theorem dX2_findFirstDue_41 : decode cX2_findFirstDue 41 = .ok (.iload 5, 2) := by decide +kernel
theorem dX2_findFirstDue_43 : decode cX2_findFirstDue 43 = .ok (.invokestatic 39, 3) := by decide +kernel
theorem dX2_findFirstDue_46 : decode cX2_findFirstDue 46 = .ok (.ifCond .ne 7, 3) := by decide +kernel
theorem dX2_findFirstDue_49 : decode cX2_findFirstDue 49 = .ok (.iconst 1, 1) := by decide +kernel
theorem dX2_findFirstDue_50 : decode cX2_findFirstDue 50 = .ok (.goto 4, 3) := by decide +kernel
theorem dX2_findFirstDue_53 : decode cX2_findFirstDue 53 = .ok (.iconst 0, 1) := by decide +kernel
theorem dX2_findFirstDue_54 : decode cX2_findFirstDue 54 = .ok (.istore 6, 2) := by decide +kernel
theorem dX2_findFirstDue_56 : decode cX2_findFirstDue 56 = .ok (.iload 6, 2) := by decide +kernel
theorem dX2_findFirstDue_58 : decode cX2_findFirstDue 58 = .ok (.ifCond .eq 32, 3) := by decide +kernel
theorem dX2_findFirstDue_61 : decode cX2_findFirstDue 61 = .ok (.iload_n 3, 1) := by decide +kernel
theorem dX2_findFirstDue_62 : decode cX2_findFirstDue 62 = .ok (.iconst (-1), 1) := by decide +kernel
theorem dX2_findFirstDue_63 : decode cX2_findFirstDue 63 = .ok (.if_icmp .eq 15, 3) := by decide +kernel
theorem dX2_findFirstDue_66 : decode cX2_findFirstDue 66 = .ok (.aload_n 0, 1) := by decide +kernel
theorem dX2_findFirstDue_67 : decode cX2_findFirstDue 67 = .ok (.getfield 25, 3) := by decide +kernel
theorem dX2_findFirstDue_70 : decode cX2_findFirstDue 70 = .ok (.iload 5, 2) := by decide +kernel
theorem dX2_findFirstDue_72 : decode cX2_findFirstDue 72 = .ok (.iaload, 1) := by decide +kernel
theorem dX2_findFirstDue_73 : decode cX2_findFirstDue 73 = .ok (.iload 4, 2) := by decide +kernel
theorem dX2_findFirstDue_75 : decode cX2_findFirstDue 75 = .ok (.if_icmp .ge 15, 3) := by decide +kernel
theorem dX2_findFirstDue_78 : decode cX2_findFirstDue 78 = .ok (.iload 5, 2) := by decide +kernel
theorem dX2_findFirstDue_80 : decode cX2_findFirstDue 80 = .ok (.istore_n 3, 1) := by decide +kernel
theorem dX2_findFirstDue_81 : decode cX2_findFirstDue 81 = .ok (.aload_n 0, 1) := by decide +kernel
theorem dX2_findFirstDue_82 : decode cX2_findFirstDue 82 = .ok (.getfield 25, 3) := by decide +kernel
theorem dX2_findFirstDue_85 : decode cX2_findFirstDue 85 = .ok (.iload 5, 2) := by decide +kernel
theorem dX2_findFirstDue_87 : decode cX2_findFirstDue 87 = .ok (.iaload, 1) := by decide +kernel
theorem dX2_findFirstDue_88 : decode cX2_findFirstDue 88 = .ok (.istore 4, 2) := by decide +kernel
theorem dX2_findFirstDue_90 : decode cX2_findFirstDue 90 = .ok (.iinc 5 1, 3) := by decide +kernel
theorem dX2_findFirstDue_93 : decode cX2_findFirstDue 93 = .ok (.goto (-85), 3) := by decide +kernel
theorem dX2_findFirstDue_96 : decode cX2_findFirstDue 96 = .ok (.iload_n 3, 1) := by decide +kernel
theorem dX2_findFirstDue_97 : decode cX2_findFirstDue 97 = .ok (.ireturn, 1) := by decide +kernel
theorem dX3_init_0 : decode cX3_init 0 = .ok (.aload_n 0, 1) := by decide +kernel
theorem dX3_init_1 : decode cX3_init 1 = .ok (.invokespecial 3, 3) := by decide +kernel
theorem dX3_init_4 : decode cX3_init 4 = .ok (.aload_n 0, 1) := by decide +kernel
theorem dX3_init_5 : decode cX3_init 5 = .ok (.bipush 8, 2) := by decide +kernel
theorem dX3_init_7 : decode cX3_init 7 = .ok (.newarray .int, 2) := by decide +kernel
theorem dX3_init_9 : decode cX3_init 9 = .ok (.putfield 9, 3) := by decide +kernel
theorem dX3_init_12 : decode cX3_init 12 = .ok (.aload_n 0, 1) := by decide +kernel
theorem dX3_init_13 : decode cX3_init 13 = .ok (.bipush 8, 2) := by decide +kernel
theorem dX3_init_15 : decode cX3_init 15 = .ok (.newarray .int, 2) := by decide +kernel
theorem dX3_init_17 : decode cX3_init 17 = .ok (.putfield 15, 3) := by decide +kernel
theorem dX3_init_20 : decode cX3_init 20 = .ok (.aload_n 0, 1) := by decide +kernel
theorem dX3_init_21 : decode cX3_init 21 = .ok (.bipush 8, 2) := by decide +kernel
theorem dX3_init_23 : decode cX3_init 23 = .ok (.newarray .int, 2) := by decide +kernel
theorem dX3_init_25 : decode cX3_init 25 = .ok (.putfield 18, 3) := by decide +kernel
theorem dX3_init_28 : decode cX3_init 28 = .ok (.aload_n 0, 1) := by decide +kernel
theorem dX3_init_29 : decode cX3_init 29 = .ok (.bipush 8, 2) := by decide +kernel
theorem dX3_init_31 : decode cX3_init 31 = .ok (.newarray .int, 2) := by decide +kernel
theorem dX3_init_33 : decode cX3_init 33 = .ok (.putfield 21, 3) := by decide +kernel
theorem dX3_init_36 : decode cX3_init 36 = .ok (.aload_n 0, 1) := by decide +kernel
theorem dX3_init_37 : decode cX3_init 37 = .ok (.iconst 0, 1) := by decide +kernel
theorem dX3_init_38 : decode cX3_init 38 = .ok (.putfield 24, 3) := by decide +kernel
theorem dX3_init_41 : decode cX3_init 41 = .ok (.return_, 1) := by decide +kernel
theorem dX3_has_0 : decode cX3_has 0 = .ok (.iload_n 1, 1) := by decide +kernel
theorem dX3_has_1 : decode cX3_has 1 = .ok (.ifCond .lt 15, 3) := by decide +kernel
theorem dX3_has_4 : decode cX3_has 4 = .ok (.iload_n 1, 1) := by decide +kernel
theorem dX3_has_5 : decode cX3_has 5 = .ok (.aload_n 0, 1) := by decide +kernel
theorem dX3_has_6 : decode cX3_has 6 = .ok (.getfield 24, 3) := by decide +kernel
theorem dX3_has_9 : decode cX3_has 9 = .ok (.if_icmp .ge 7, 3) := by decide +kernel
theorem dX3_has_12 : decode cX3_has 12 = .ok (.iconst 1, 1) := by decide +kernel
theorem dX3_has_13 : decode cX3_has 13 = .ok (.goto 4, 3) := by decide +kernel
theorem dX3_has_16 : decode cX3_has 16 = .ok (.iconst 0, 1) := by decide +kernel
theorem dX3_has_17 : decode cX3_has 17 = .ok (.ireturn, 1) := by decide +kernel
theorem dX3_add_0 : decode cX3_add 0 = .ok (.aload_n 0, 1) := by decide +kernel
theorem dX3_add_1 : decode cX3_add 1 = .ok (.getfield 9, 3) := by decide +kernel
theorem dX3_add_4 : decode cX3_add 4 = .ok (.aload_n 0, 1) := by decide +kernel
theorem dX3_add_5 : decode cX3_add 5 = .ok (.getfield 24, 3) := by decide +kernel
theorem dX3_add_8 : decode cX3_add 8 = .ok (.iload_n 1, 1) := by decide +kernel
theorem dX3_add_9 : decode cX3_add 9 = .ok (.iastore, 1) := by decide +kernel
theorem dX3_add_10 : decode cX3_add 10 = .ok (.aload_n 0, 1) := by decide +kernel
theorem dX3_add_11 : decode cX3_add 11 = .ok (.dup, 1) := by decide +kernel
theorem dX3_add_12 : decode cX3_add 12 = .ok (.getfield 24, 3) := by decide +kernel
theorem dX3_add_15 : decode cX3_add 15 = .ok (.dup_x1, 1) := by decide +kernel
theorem dX3_add_16 : decode cX3_add 16 = .ok (.iconst 1, 1) := by decide +kernel
theorem dX3_add_17 : decode cX3_add 17 = .ok (.iadd, 1) := by decide +kernel
theorem dX3_add_18 : decode cX3_add 18 = .ok (.putfield 24, 3) := by decide +kernel
theorem dX3_add_21 : decode cX3_add 21 = .ok (.ireturn, 1) := by decide +kernel
set_option maxRecDepth 20000 in
theorem ggX3_ownerOf_X3_has : GoodIn wsX3_ownerOf wsX3_has := goodIn_r _ [6, 7, 8, 9, 10, 11, 12] (by decide +kernel) (by decide +kernel)
set_option maxRecDepth 20000 in
theorem gX3_ownerOf_X3_has : GoodIn wsX3_ownerOf (wsV RX3 28 RX3 yX3_has wsX3_has) := goodIn_app (goodIn_of _ (by decide +kernel)) ggX3_ownerOf_X3_has
theorem dX3_ownerOf_0 : decode cX3_ownerOf 0 = .ok (.aload_n 0, 1) := by decide +kernel
theorem dX3_ownerOf_1 : decode cX3_ownerOf 1 = .ok (.iload_n 1, 1) := by decide +kernel
theorem dX3_ownerOf_2 : decode cX3_ownerOf 2 = .ok (.invokevirtual 28, 3) := by decide +kernel
theorem dX3_ownerOf_5 : decode cX3_ownerOf 5 = .ok (.ifCond .eq 12, 3) := by decide +kernel
theorem dX3_ownerOf_8 : decode cX3_ownerOf 8 = .ok (.aload_n 0, 1) := by decide +kernel
theorem dX3_ownerOf_9 : decode cX3_ownerOf 9 = .ok (.getfield 9, 3) := by decide +kernel
theorem dX3_ownerOf_12 : decode cX3_ownerOf 12 = .ok (.iload_n 1, 1) := by decide +kernel
theorem dX3_ownerOf_13 : decode cX3_ownerOf 13 = .ok (.iaload, 1) := by decide +kernel
theorem dX3_ownerOf_14 : decode cX3_ownerOf 14 = .ok (.goto 4, 3) := by decide +kernel
theorem dX3_ownerOf_17 : decode cX3_ownerOf 17 = .ok (.iconst (-1), 1) := by decide +kernel
theorem dX3_ownerOf_18 : decode cX3_ownerOf 18 = .ok (.ireturn, 1) := by decide +kernel
set_option maxRecDepth 20000 in
theorem ggX3_membersOf_X3_has : GoodIn wsX3_membersOf wsX3_has := goodIn_r _ [6, 7, 8, 9, 10, 11, 12] (by decide +kernel) (by decide +kernel)
set_option maxRecDepth 20000 in
theorem gX3_membersOf_X3_has : GoodIn wsX3_membersOf (wsV RX3 28 RX3 yX3_has wsX3_has) := goodIn_app (goodIn_of _ (by decide +kernel)) ggX3_membersOf_X3_has
theorem dX3_membersOf_0 : decode cX3_membersOf 0 = .ok (.aload_n 0, 1) := by decide +kernel
theorem dX3_membersOf_1 : decode cX3_membersOf 1 = .ok (.iload_n 1, 1) := by decide +kernel
theorem dX3_membersOf_2 : decode cX3_membersOf 2 = .ok (.invokevirtual 28, 3) := by decide +kernel
theorem dX3_membersOf_5 : decode cX3_membersOf 5 = .ok (.ifCond .eq 12, 3) := by decide +kernel
theorem dX3_membersOf_8 : decode cX3_membersOf 8 = .ok (.aload_n 0, 1) := by decide +kernel
theorem dX3_membersOf_9 : decode cX3_membersOf 9 = .ok (.getfield 21, 3) := by decide +kernel
theorem dX3_membersOf_12 : decode cX3_membersOf 12 = .ok (.iload_n 1, 1) := by decide +kernel
theorem dX3_membersOf_13 : decode cX3_membersOf 13 = .ok (.iaload, 1) := by decide +kernel
theorem dX3_membersOf_14 : decode cX3_membersOf 14 = .ok (.goto 4, 3) := by decide +kernel
theorem dX3_membersOf_17 : decode cX3_membersOf 17 = .ok (.iconst 0, 1) := by decide +kernel
theorem dX3_membersOf_18 : decode cX3_membersOf 18 = .ok (.ireturn, 1) := by decide +kernel
set_option maxRecDepth 20000 in
theorem ggX3_setDirect_X3_findAllMembers : GoodIn wsX3_setDirect wsX3_findAllMembers := goodIn_ca (goodIn_r _ [6, 7, 1, 8, 9, 10, 11, 5, 12, 13, 14, 15, 16, 17, 18, 19, 27, 28, 29, 30, 31] (by decide +kernel) (by decide +kernel)) (goodIn_sub (fun _ h => List.mem_cons_of_mem _ (List.mem_append_right _ h)) (by decide +kernel))
set_option maxRecDepth 20000 in
theorem gX3_setDirect_X3_findAllMembers : GoodIn wsX3_setDirect (wsV RX3 32 RX3 yX3_findAllMembers wsX3_findAllMembers) := goodIn_app (goodIn_of _ (by decide +kernel)) ggX3_setDirect_X3_findAllMembers
set_option maxRecDepth 20000 in
theorem ggX3_setDirect_J6_bitCount_0f7a4 : GoodIn wsX3_setDirect wsJ6_bitCount_0f7a4 := goodIn_r _ [23, 24, 25, 26] (by decide +kernel) (by decide +kernel)
set_option maxRecDepth 20000 in
theorem gX3_setDirect_J6_bitCount_0f7a4 : GoodIn wsX3_setDirect (va_wsS RX3 35 yJ6_bitCount_0f7a4 wsJ6_bitCount_0f7a4) := goodIn_app (goodIn_of _ (by decide +kernel)) ggX3_setDirect_J6_bitCount_0f7a4
theorem dX3_setDirect_0 : decode cX3_setDirect 0 = .ok (.aload_n 0, 1) := by decide +kernel
theorem dX3_setDirect_1 : decode cX3_setDirect 1 = .ok (.getfield 15, 3) := by decide +kernel
theorem dX3_setDirect_4 : decode cX3_setDirect 4 = .ok (.iload_n 1, 1) := by decide +kernel
theorem dX3_setDirect_5 : decode cX3_setDirect 5 = .ok (.iload_n 2, 1) := by decide +kernel
theorem dX3_setDirect_6 : decode cX3_setDirect 6 = .ok (.iastore, 1) := by decide +kernel
theorem dX3_setDirect_7 : decode cX3_setDirect 7 = .ok (.aload_n 0, 1) := by decide +kernel
theorem dX3_setDirect_8 : decode cX3_setDirect 8 = .ok (.invokevirtual 32, 3) := by decide +kernel
theorem dX3_setDirect_11 : decode cX3_setDirect 11 = .ok (.iload_n 2, 1) := by decide +kernel
theorem dX3_setDirect_12 : decode cX3_setDirect 12 = .ok (.invokestatic 35, 3) := by decide +kernel
theorem dX3_setDirect_15 : decode cX3_setDirect 15 = .ok (.ireturn, 1) := by decide +kernel
set_option maxRecDepth 20000 in
theorem ggX3_addNested_X6_bit : GoodIn wsX3_addNested wsX6_bit := goodIn_r _ [4] (by decide +kernel) (by decide +kernel)
set_option maxRecDepth 20000 in
theorem gX3_addNested_X6_bit_n41 : GoodIn wsX3_addNested (wsX6_bit) := ggX3_addNested_X6_bit
set_option maxRecDepth 20000 in
theorem ggX3_addNested_X3_findAllMembers : GoodIn wsX3_addNested wsX3_findAllMembers := goodIn_ca (goodIn_r _ [9, 10, 11, 12, 13, 14, 15, 8, 16, 1, 2, 3, 4, 17, 18, 19, 27, 28, 29, 30, 31] (by decide +kernel) (by decide +kernel)) (goodIn_sub (fun _ h => List.mem_cons_of_mem _ (List.mem_append_right _ h)) (by decide +kernel))
set_option maxRecDepth 20000 in
theorem gX3_addNested_X3_findAllMembers : GoodIn wsX3_addNested (wsV RX3 32 RX3 yX3_findAllMembers wsX3_findAllMembers) := goodIn_app (goodIn_of _ (by decide +kernel)) ggX3_addNested_X3_findAllMembers
set_option maxRecDepth 20000 in
theorem ggX3_addNested_J6_bitCount_0f7a4 : GoodIn wsX3_addNested wsJ6_bitCount_0f7a4 := goodIn_r _ [23, 24, 25, 26] (by decide +kernel) (by decide +kernel)
set_option maxRecDepth 20000 in
theorem gX3_addNested_J6_bitCount_0f7a4 : GoodIn wsX3_addNested (va_wsS RX3 35 yJ6_bitCount_0f7a4 wsJ6_bitCount_0f7a4) := goodIn_app (goodIn_of _ (by decide +kernel)) ggX3_addNested_J6_bitCount_0f7a4
theorem dX3_addNested_0 : decode cX3_addNested 0 = .ok (.aload_n 0, 1) := by decide +kernel
theorem dX3_addNested_1 : decode cX3_addNested 1 = .ok (.getfield 18, 3) := by decide +kernel
theorem dX3_addNested_4 : decode cX3_addNested 4 = .ok (.iload_n 1, 1) := by decide +kernel
theorem dX3_addNested_5 : decode cX3_addNested 5 = .ok (.dup2, 1) := by decide +kernel
theorem dX3_addNested_6 : decode cX3_addNested 6 = .ok (.iaload, 1) := by decide +kernel
theorem dX3_addNested_7 : decode cX3_addNested 7 = .ok (.iload_n 2, 1) := by decide +kernel
theorem dX3_addNested_8 : decode cX3_addNested 8 = .ok (.invokestatic 41, 3) := by decide +kernel
theorem dX3_addNested_11 : decode cX3_addNested 11 = .ok (.ior, 1) := by decide +kernel
theorem dX3_addNested_12 : decode cX3_addNested 12 = .ok (.iastore, 1) := by decide +kernel
theorem dX3_addNested_13 : decode cX3_addNested 13 = .ok (.aload_n 0, 1) := by decide +kernel
theorem dX3_addNested_14 : decode cX3_addNested 14 = .ok (.invokevirtual 32, 3) := by decide +kernel
theorem dX3_addNested_17 : decode cX3_addNested 17 = .ok (.aload_n 0, 1) := by decide +kernel
theorem dX3_addNested_18 : decode cX3_addNested 18 = .ok (.getfield 18, 3) := by decide +kernel
theorem dX3_addNested_21 : decode cX3_addNested 21 = .ok (.iload_n 1, 1) := by decide +kernel
theorem dX3_addNested_22 : decode cX3_addNested 22 = .ok (.iaload, 1) := by decide +kernel
theorem dX3_addNested_23 : decode cX3_addNested 23 = .ok (.invokestatic 35, 3) := by decide +kernel
theorem dX3_addNested_26 : decode cX3_addNested 26 = .ok (.ireturn, 1) := by decide +kernel
set_option maxRecDepth 20000 in
theorem ggX3_findAllMembers_X3_findBelow : GoodIn wsX3_findAllMembers wsX3_findBelow := goodIn_ca (goodIn_r _ [8, 1, 9, 10, 11, 12, 13, 14, 15, 16, 17, 18, 19, 20] (by decide +kernel) (by decide +kernel)) (goodIn_sub (fun _ h => List.mem_cons_of_mem _ (List.mem_append_right _ h)) (by decide +kernel))
set_option maxRecDepth 20000 in
theorem gX3_findAllMembers_X3_findBelow : GoodIn wsX3_findAllMembers (wsV RX3 44 RX3 yX3_findBelow wsX3_findBelow) := goodIn_app (goodIn_of _ (by decide +kernel)) ggX3_findAllMembers_X3_findBelow
set_option maxRecDepth 20000 in
theorem ggX3_findAllMembers_X6_contains : GoodIn wsX3_findAllMembers wsX6_contains := goodIn_r _ [14, 15, 10, 11, 12] (by decide +kernel) (by decide +kernel)
set_option maxRecDepth 20000 in
theorem gX3_findAllMembers_X6_contains_n47 : GoodIn wsX3_findAllMembers (wsX6_contains) := ggX3_findAllMembers_X6_contains
theorem dX3_findAllMembers_0 : decode cX3_findAllMembers 0 = .ok (.iconst 0, 1) := by decide +kernel
theorem dX3_findAllMembers_1 : decode cX3_findAllMembers 1 = .ok (.istore_n 1, 1) := by decide +kernel
theorem dX3_findAllMembers_2 : decode cX3_findAllMembers 2 = .ok (.iload_n 1, 1) := by decide +kernel
theorem dX3_findAllMembers_3 : decode cX3_findAllMembers 3 = .ok (.aload_n 0, 1) := by decide +kernel
theorem dX3_findAllMembers_4 : decode cX3_findAllMembers 4 = .ok (.getfield 24, 3) := by decide +kernel
theorem dX3_findAllMembers_7 : decode cX3_findAllMembers 7 = .ok (.if_icmp .ge 61, 3) := by decide +kernel
theorem dX3_findAllMembers_10 : decode cX3_findAllMembers 10 = .ok (.aload_n 0, 1) := by decide +kernel
theorem dX3_findAllMembers_11 : decode cX3_findAllMembers 11 = .ok (.iload_n 1, 1) := by decide +kernel
theorem dX3_findAllMembers_12 : decode cX3_findAllMembers 12 = .ok (.invokevirtual 44, 3) := by decide +kernel
theorem dX3_findAllMembers_15 : decode cX3_findAllMembers 15 = .ok (.istore_n 2, 1) := by decide +kernel
theorem dX3_findAllMembers_16 : decode cX3_findAllMembers 16 = .ok (.iconst 0, 1) := by decide +kernel
theorem dX3_findAllMembers_17 : decode cX3_findAllMembers 17 = .ok (.istore_n 3, 1) := by decide +kernel
theorem dX3_findAllMembers_18 : decode cX3_findAllMembers 18 = .ok (.iconst 0, 1) := by decide +kernel
theorem dX3_findAllMembers_19 : decode cX3_findAllMembers 19 = .ok (.istore 4, 2) := by decide +kernel
theorem dX3_findAllMembers_21 : decode cX3_findAllMembers 21 = .ok (.iload 4, 2) := by decide +kernel
theorem dX3_findAllMembers_23 : decode cX3_findAllMembers 23 = .ok (.aload_n 0, 1) := by decide +kernel
theorem dX3_findAllMembers_24 : decode cX3_findAllMembers 24 = .ok (.getfield 24, 3) := by decide +kernel
theorem dX3_findAllMembers_27 : decode cX3_findAllMembers 27 = .ok (.if_icmp .ge 28, 3) := by decide +kernel
theorem dX3_findAllMembers_30 : decode cX3_findAllMembers 30 = .ok (.iload_n 2, 1) := by decide +kernel
theorem dX3_findAllMembers_31 : decode cX3_findAllMembers 31 = .ok (.iload 4, 2) := by decide +kernel
theorem dX3_findAllMembers_33 : decode cX3_findAllMembers 33 = .ok (.invokestatic 47, 3) := by decide +kernel
theorem dX3_findAllMembers_36 : decode cX3_findAllMembers 36 = .ok (.ifCond .eq 13, 3) := by decide +kernel
theorem dX3_findAllMembers_39 : decode cX3_findAllMembers 39 = .ok (.iload_n 3, 1) := by decide +kernel
theorem dX3_findAllMembers_40 : decode cX3_findAllMembers 40 = .ok (.aload_n 0, 1) := by decide +kernel
theorem dX3_findAllMembers_41 : decode cX3_findAllMembers 41 = .ok (.getfield 15, 3) := by decide +kernel
theorem dX3_findAllMembers_44 : decode cX3_findAllMembers 44 = .ok (.iload 4, 2) := by decide +kernel
theorem dX3_findAllMembers_46 : decode cX3_findAllMembers 46 = .ok (.iaload, 1) := by decide +kernel
theorem dX3_findAllMembers_47 : decode cX3_findAllMembers 47 = .ok (.ior, 1) := by decide +kernel
theorem dX3_findAllMembers_48 : decode cX3_findAllMembers 48 = .ok (.istore_n 3, 1) := by decide +kernel
theorem dX3_findAllMembers_49 : decode cX3_findAllMembers 49 = .ok (.iinc 4 1, 3) := by decide +kernel
theorem dX3_findAllMembers_52 : decode cX3_findAllMembers 52 = .ok (.goto (-31), 3) := by decide +kernel
theorem dX3_findAllMembers_55 : decode cX3_findAllMembers 55 = .ok (.aload_n 0, 1) := by decide +kernel
theorem dX3_findAllMembers_56 : decode cX3_findAllMembers 56 = .ok (.getfield 21, 3) := by decide +kernel
theorem dX3_findAllMembers_59 : decode cX3_findAllMembers 59 = .ok (.iload_n 1, 1) := by decide +kernel
theorem dX3_findAllMembers_60 : decode cX3_findAllMembers 60 = .ok (.iload_n 3, 1) := by decide +kernel
theorem dX3_findAllMembers_61 : decode cX3_findAllMembers 61 = .ok (.iastore, 1) := by decide +kernel
theorem dX3_findAllMembers_62 : decode cX3_findAllMembers 62 = .ok (.iinc 1 1, 3) := by decide +kernel
theorem dX3_findAllMembers_65 : decode cX3_findAllMembers 65 = .ok (.goto (-63), 3) := by decide +kernel
theorem dX3_findAllMembers_68 : decode cX3_findAllMembers 68 = .ok (.return_, 1) := by decide +kernel
set_option maxRecDepth 20000 in
theorem ggX3_findBelow_X6_bit : GoodIn wsX3_findBelow wsX6_bit := goodIn_r _ [5] (by decide +kernel) (by decide +kernel)
set_option maxRecDepth 20000 in
theorem gX3_findBelow_X6_bit_n41 : GoodIn wsX3_findBelow (wsX6_bit) := ggX3_findBelow_X6_bit
set_option maxRecDepth 20000 in
theorem ggX3_findBelow_X6_contains : GoodIn wsX3_findBelow wsX6_contains := goodIn_r _ [7, 8, 3, 4, 5] (by decide +kernel) (by decide +kernel)
set_option maxRecDepth 20000 in
theorem gX3_findBelow_X6_contains_n47 : GoodIn wsX3_findBelow (wsX6_contains) := ggX3_findBelow_X6_contains
theorem dX3_findBelow_0 : decode cX3_findBelow 0 = .ok (.iload_n 1, 1) := by decide +kernel
theorem dX3_findBelow_1 : decode cX3_findBelow 1 = .ok (.invokestatic 41, 3) := by decide +kernel
theorem dX3_findBelow_4 : decode cX3_findBelow 4 = .ok (.istore_n 2, 1) := by decide +kernel
theorem dX3_findBelow_5 : decode cX3_findBelow 5 = .ok (.iconst 1, 1) := by decide +kernel
theorem dX3_findBelow_6 : decode cX3_findBelow 6 = .ok (.istore_n 3, 1) := by decide +kernel
theorem dX3_findBelow_7 : decode cX3_findBelow 7 = .ok (.iload_n 3, 1) := by decide +kernel
theorem dX3_findBelow_8 : decode cX3_findBelow 8 = .ok (.aload_n 0, 1) := by decide +kernel
theorem dX3_findBelow_9 : decode cX3_findBelow 9 = .ok (.getfield 24, 3) := by decide +kernel
theorem dX3_findBelow_12 : decode cX3_findBelow 12 = .ok (.if_icmp .ge 46, 3) := by decide +kernel
theorem dX3_findBelow_15 : decode cX3_findBelow 15 = .ok (.iconst 0, 1) := by decide +kernel
theorem dX3_findBelow_16 : decode cX3_findBelow 16 = .ok (.istore 4, 2) := by decide +kernel
theorem dX3_findBelow_18 : decode cX3_findBelow 18 = .ok (.iload 4, 2) := by decide +kernel
theorem dX3_findBelow_20 : decode cX3_findBelow 20 = .ok (.aload_n 0, 1) := by decide +kernel
theorem dX3_findBelow_21 : decode cX3_findBelow 21 = .ok (.getfield 24, 3) := by decide +kernel
theorem dX3_findBelow_24 : decode cX3_findBelow 24 = .ok (.if_icmp .ge 28, 3) := by decide +kernel
theorem dX3_findBelow_27 : decode cX3_findBelow 27 = .ok (.iload_n 2, 1) := by decide +kernel
theorem dX3_findBelow_28 : decode cX3_findBelow 28 = .ok (.iload 4, 2) := by decide +kernel
theorem dX3_findBelow_30 : decode cX3_findBelow 30 = .ok (.invokestatic 47, 3) := by decide +kernel
theorem dX3_findBelow_33 : decode cX3_findBelow 33 = .ok (.ifCond .eq 13, 3) := by decide +kernel
theorem dX3_findBelow_36 : decode cX3_findBelow 36 = .ok (.iload_n 2, 1) := by decide +kernel
theorem dX3_findBelow_37 : decode cX3_findBelow 37 = .ok (.aload_n 0, 1) := by decide +kernel
theorem dX3_findBelow_38 : decode cX3_findBelow 38 = .ok (.getfield 18, 3) := by decide +kernel
theorem dX3_findBelow_41 : decode cX3_findBelow 41 = .ok (.iload 4, 2) := by decide +kernel
theorem dX3_findBelow_43 : decode cX3_findBelow 43 = .ok (.iaload, 1) := by decide +kernel
theorem dX3_findBelow_44 : decode cX3_findBelow 44 = .ok (.ior, 1) := by decide +kernel
theorem dX3_findBelow_45 : decode cX3_findBelow 45 = .ok (.istore_n 2, 1) := by decide +kernel
theorem dX3_findBelow_46 : decode cX3_findBelow 46 = .ok (.iinc 4 1, 3) := by decide +kernel
theorem dX3_findBelow_49 : decode cX3_findBelow 49 = .ok (.goto (-31), 3) := by decide +kernel
theorem dX3_findBelow_52 : decode cX3_findBelow 52 = .ok (.iinc 3 1, 3) := by decide +kernel
theorem dX3_findBelow_55 : decode cX3_findBelow 55 = .ok (.goto (-48), 3) := by decide +kernel
theorem dX3_findBelow_58 : decode cX3_findBelow 58 = .ok (.iload_n 2, 1) := by decide +kernel
theorem dX3_findBelow_59 : decode cX3_findBelow 59 = .ok (.ireturn, 1) := by decide +kernel
set_option maxRecDepth 20000 in
theorem ggX3_countPaths_X3_walk : GoodIn wsX3_countPaths wsX3_walk := goodIn_ca (goodIn_r _ [6, 7, 8, 9, 10, 11, 12, 3, 4, 5] (by decide +kernel) (by decide +kernel)) (goodIn_sub (fun _ h => List.mem_cons_of_mem _ (List.mem_append_right _ h)) (by decide +kernel))
set_option maxRecDepth 20000 in
theorem gX3_countPaths_X3_walk : GoodIn wsX3_countPaths (va_wsS RX3 51 yX3_walk wsX3_walk) := goodIn_app (goodIn_of _ (by decide +kernel)) ggX3_countPaths_X3_walk
theorem dX3_countPaths_0 : decode cX3_countPaths 0 = .ok (.aload_n 0, 1) := by decide +kernel
theorem dX3_countPaths_1 : decode cX3_countPaths 1 = .ok (.getfield 15, 3) := by decide +kernel
theorem dX3_countPaths_4 : decode cX3_countPaths 4 = .ok (.aload_n 0, 1) := by decide +kernel
theorem dX3_countPaths_5 : decode cX3_countPaths 5 = .ok (.getfield 18, 3) := by decide +kernel
theorem dX3_countPaths_8 : decode cX3_countPaths 8 = .ok (.iload_n 1, 1) := by decide +kernel
theorem dX3_countPaths_9 : decode cX3_countPaths 9 = .ok (.iload_n 2, 1) := by decide +kernel
theorem dX3_countPaths_10 : decode cX3_countPaths 10 = .ok (.iconst 1, 1) := by decide +kernel
theorem dX3_countPaths_11 : decode cX3_countPaths 11 = .ok (.invokestatic 51, 3) := by decide +kernel
theorem dX3_countPaths_14 : decode cX3_countPaths 14 = .ok (.ireturn, 1) := by decide +kernel
set_option maxRecDepth 20000 in
theorem ggX3_walk_X6_contains : GoodIn wsX3_walk wsX6_contains := goodIn_r _ [3, 4, 5, 2, 6] (by decide +kernel) (by decide +kernel)
set_option maxRecDepth 20000 in
theorem gX3_walk_X6_contains_n47 : GoodIn wsX3_walk (wsX6_contains) := ggX3_walk_X6_contains
set_option maxRecDepth 20000 in
theorem ggX3_walk_X3_walk : GoodIn wsX3_walk wsX3_walk := goodIn_ca (goodIn_r _ [0, 1, 2, 3, 4, 5, 6, 7, 8, 9] (by decide +kernel) (by decide +kernel)) (goodIn_sub (fun _ h => List.mem_cons_of_mem _ (List.mem_append_right _ h)) (by decide +kernel))
set_option maxRecDepth 20000 in
theorem gX3_walk_X3_walk : GoodIn wsX3_walk (va_wsS RX3 51 yX3_walk wsX3_walk) := goodIn_app (goodIn_of _ (by decide +kernel)) ggX3_walk_X3_walk
theorem dX3_walk_0 : decode cX3_walk 0 = .ok (.iload 4, 2) := by decide +kernel
theorem dX3_walk_2 : decode cX3_walk 2 = .ok (.bipush 8, 2) := by decide +kernel
theorem dX3_walk_4 : decode cX3_walk 4 = .ok (.if_icmp .gt 13, 3) := by decide +kernel
theorem dX3_walk_7 : decode cX3_walk 7 = .ok (.iload_n 2, 1) := by decide +kernel
theorem dX3_walk_8 : decode cX3_walk 8 = .ok (.ifCond .lt 9, 3) := by decide +kernel
theorem dX3_walk_11 : decode cX3_walk 11 = .ok (.iload_n 2, 1) := by decide +kernel
theorem dX3_walk_12 : decode cX3_walk 12 = .ok (.bipush 8, 2) := by decide +kernel
theorem dX3_walk_14 : decode cX3_walk 14 = .ok (.if_icmp .lt 5, 3) := by decide +kernel
theorem dX3_walk_17 : decode cX3_walk 17 = .ok (.iconst 0, 1) := by decide +kernel
theorem dX3_walk_18 : decode cX3_walk 18 = .ok (.ireturn, 1) := by decide +kernel
theorem dX3_walk_19 : decode cX3_walk 19 = .ok (.aload_n 0, 1) := by decide +kernel
theorem dX3_walk_20 : decode cX3_walk 20 = .ok (.iload_n 2, 1) := by decide +kernel
theorem dX3_walk_21 : decode cX3_walk 21 = .ok (.iaload, 1) := by decide +kernel
theorem dX3_walk_22 : decode cX3_walk 22 = .ok (.iload_n 3, 1) := by decide +kernel
theorem dX3_walk_23 : decode cX3_walk 23 = .ok (.invokestatic 47, 3) := by decide +kernel
theorem dX3_walk_26 : decode cX3_walk 26 = .ok (.ifCond .eq 7, 3) := by decide +kernel
theorem dX3_walk_29 : decode cX3_walk 29 = .ok (.iconst 1, 1) := by decide +kernel
theorem dX3_walk_30 : decode cX3_walk 30 = .ok (.goto 4, 3) := by decide +kernel
theorem dX3_walk_33 : decode cX3_walk 33 = .ok (.iconst 0, 1) := by decide +kernel
theorem dX3_walk_34 : decode cX3_walk 34 = .ok (.istore 5, 2) := by decide +kernel
theorem dX3_walk_36 : decode cX3_walk 36 = .ok (.iconst 0, 1) := by decide +kernel
theorem dX3_walk_37 : decode cX3_walk 37 = .ok (.istore 6, 2) := by decide +kernel
theorem dX3_walk_39 : decode cX3_walk 39 = .ok (.iload 6, 2) := by decide +kernel
theorem dX3_walk_41 : decode cX3_walk 41 = .ok (.bipush 8, 2) := by decide +kernel
theorem dX3_walk_43 : decode cX3_walk 43 = .ok (.if_icmp .ge 37, 3) := by decide +kernel
theorem dX3_walk_46 : decode cX3_walk 46 = .ok (.aload_n 1, 1) := by decide +kernel
theorem dX3_walk_47 : decode cX3_walk 47 = .ok (.iload_n 2, 1) := by decide +kernel
theorem dX3_walk_48 : decode cX3_walk 48 = .ok (.iaload, 1) := by decide +kernel
theorem dX3_walk_49 : decode cX3_walk 49 = .ok (.iload 6, 2) := by decide +kernel
theorem dX3_walk_51 : decode cX3_walk 51 = .ok (.invokestatic 47, 3) := by decide +kernel
theorem dX3_walk_54 : decode cX3_walk 54 = .ok (.ifCond .eq 20, 3) := by decide +kernel
theorem dX3_walk_57 : decode cX3_walk 57 = .ok (.iload 5, 2) := by decide +kernel
theorem dX3_walk_59 : decode cX3_walk 59 = .ok (.aload_n 0, 1) := by decide +kernel
theorem dX3_walk_60 : decode cX3_walk 60 = .ok (.aload_n 1, 1) := by decide +kernel
theorem dX3_walk_61 : decode cX3_walk 61 = .ok (.iload 6, 2) := by decide +kernel
theorem dX3_walk_63 : decode cX3_walk 63 = .ok (.iload_n 3, 1) := by decide +kernel
theorem dX3_walk_64 : decode cX3_walk 64 = .ok (.iload 4, 2) := by decide +kernel
theorem dX3_walk_66 : decode cX3_walk 66 = .ok (.iconst 1, 1) := by decide +kernel
theorem dX3_walk_67 : decode cX3_walk 67 = .ok (.iadd, 1) := by decide +kernel
theorem dX3_walk_68 : decode cX3_walk 68 = .ok (.invokestatic 51, 3) := by decide +kernel
theorem dX3_walk_71 : decode cX3_walk 71 = .ok (.iadd, 1) := by decide +kernel
theorem dX3_walk_72 : decode cX3_walk 72 = .ok (.istore 5, 2) := by decide +kernel
theorem dX3_walk_74 : decode cX3_walk 74 = .ok (.iinc 6 1, 3) := by decide +kernel
theorem dX3_walk_77 : decode cX3_walk 77 = .ok (.goto (-38), 3) := by decide +kernel
theorem dX3_walk_80 : decode cX3_walk 80 = .ok (.iload 5, 2) := by decide +kernel
theorem dX3_walk_82 : decode cX3_walk 82 = .ok (.ireturn, 1) := by decide +kernel
set_option maxRecDepth 20000 in
theorem ggX3_findWithin_X6_contains : GoodIn wsX3_findWithin wsX6_contains := goodIn_r _ [6, 7, 8, 5, 9] (by decide +kernel) (by decide +kernel)
set_option maxRecDepth 20000 in
theorem gX3_findWithin_X6_contains_n47 : GoodIn wsX3_findWithin (wsX6_contains) := ggX3_findWithin_X6_contains
set_option maxRecDepth 20000 in
theorem ggX3_findWithin_X6_bit : GoodIn wsX3_findWithin wsX6_bit := goodIn_r _ [9] (by decide +kernel) (by decide +kernel)
set_option maxRecDepth 20000 in
theorem gX3_findWithin_X6_bit_n41 : GoodIn wsX3_findWithin (wsX6_bit) := ggX3_findWithin_X6_bit
theorem dX3_findWithin_0 : decode cX3_findWithin 0 = .ok (.iconst 0, 1) := by decide +kernel
theorem dX3_findWithin_1 : decode cX3_findWithin 1 = .ok (.istore_n 3, 1) := by decide +kernel
theorem dX3_findWithin_2 : decode cX3_findWithin 2 = .ok (.iconst 0, 1) := by decide +kernel
theorem dX3_findWithin_3 : decode cX3_findWithin 3 = .ok (.istore 4, 2) := by decide +kernel
theorem dX3_findWithin_5 : decode cX3_findWithin 5 = .ok (.iload 4, 2) := by decide +kernel
theorem dX3_findWithin_7 : decode cX3_findWithin 7 = .ok (.aload_n 0, 1) := by decide +kernel
theorem dX3_findWithin_8 : decode cX3_findWithin 8 = .ok (.getfield 24, 3) := by decide +kernel
theorem dX3_findWithin_11 : decode cX3_findWithin 11 = .ok (.if_icmp .ge 31, 3) := by decide +kernel
theorem dX3_findWithin_14 : decode cX3_findWithin 14 = .ok (.aload_n 0, 1) := by decide +kernel
theorem dX3_findWithin_15 : decode cX3_findWithin 15 = .ok (.getfield 15, 3) := by decide +kernel
theorem dX3_findWithin_18 : decode cX3_findWithin 18 = .ok (.iload 4, 2) := by decide +kernel
theorem dX3_findWithin_20 : decode cX3_findWithin 20 = .ok (.iaload, 1) := by decide +kernel
theorem dX3_findWithin_21 : decode cX3_findWithin 21 = .ok (.iload_n 1, 1) := by decide +kernel
theorem dX3_findWithin_22 : decode cX3_findWithin 22 = .ok (.invokestatic 47, 3) := by decide +kernel
theorem dX3_findWithin_25 : decode cX3_findWithin 25 = .ok (.ifCond .eq 11, 3) := by decide +kernel
theorem dX3_findWithin_28 : decode cX3_findWithin 28 = .ok (.iload_n 3, 1) := by decide +kernel
theorem dX3_findWithin_29 : decode cX3_findWithin 29 = .ok (.iload 4, 2) := by decide +kernel
theorem dX3_findWithin_31 : decode cX3_findWithin 31 = .ok (.invokestatic 41, 3) := by decide +kernel
theorem dX3_findWithin_34 : decode cX3_findWithin 34 = .ok (.ior, 1) := by decide +kernel
theorem dX3_findWithin_35 : decode cX3_findWithin 35 = .ok (.istore_n 3, 1) := by decide +kernel
theorem dX3_findWithin_36 : decode cX3_findWithin 36 = .ok (.iinc 4 1, 3) := by decide +kernel
theorem dX3_findWithin_39 : decode cX3_findWithin 39 = .ok (.goto (-34), 3) := by decide +kernel
theorem dX3_findWithin_42 : decode cX3_findWithin 42 = .ok (.iconst 1, 1) := by decide +kernel
theorem dX3_findWithin_43 : decode cX3_findWithin 43 = .ok (.istore 4, 2) := by decide +kernel
theorem dX3_findWithin_45 : decode cX3_findWithin 45 = .ok (.iload 4, 2) := by decide +kernel
theorem dX3_findWithin_47 : decode cX3_findWithin 47 = .ok (.iload_n 2, 1) := by decide +kernel
theorem dX3_findWithin_48 : decode cX3_findWithin 48 = .ok (.if_icmp .ge 51, 3) := by decide +kernel
theorem dX3_findWithin_51 : decode cX3_findWithin 51 = .ok (.iload_n 3, 1) := by decide +kernel
theorem dX3_findWithin_52 : decode cX3_findWithin 52 = .ok (.istore 5, 2) := by decide +kernel
theorem dX3_findWithin_54 : decode cX3_findWithin 54 = .ok (.iconst 0, 1) := by decide +kernel
theorem dX3_findWithin_55 : decode cX3_findWithin 55 = .ok (.istore 6, 2) := by decide +kernel
theorem dX3_findWithin_57 : decode cX3_findWithin 57 = .ok (.iload 6, 2) := by decide +kernel
theorem dX3_findWithin_59 : decode cX3_findWithin 59 = .ok (.aload_n 0, 1) := by decide +kernel
theorem dX3_findWithin_60 : decode cX3_findWithin 60 = .ok (.getfield 24, 3) := by decide +kernel
theorem dX3_findWithin_63 : decode cX3_findWithin 63 = .ok (.if_icmp .ge 30, 3) := by decide +kernel
theorem dX3_findWithin_66 : decode cX3_findWithin 66 = .ok (.aload_n 0, 1) := by decide +kernel
theorem dX3_findWithin_67 : decode cX3_findWithin 67 = .ok (.getfield 18, 3) := by decide +kernel
theorem dX3_findWithin_70 : decode cX3_findWithin 70 = .ok (.iload 6, 2) := by decide +kernel
theorem dX3_findWithin_72 : decode cX3_findWithin 72 = .ok (.iaload, 1) := by decide +kernel
theorem dX3_findWithin_73 : decode cX3_findWithin 73 = .ok (.iload 5, 2) := by decide +kernel
theorem dX3_findWithin_75 : decode cX3_findWithin 75 = .ok (.iand, 1) := by decide +kernel
theorem dX3_findWithin_76 : decode cX3_findWithin 76 = .ok (.ifCond .eq 11, 3) := by decide +kernel
theorem dX3_findWithin_79 : decode cX3_findWithin 79 = .ok (.iload_n 3, 1) := by decide +kernel
theorem dX3_findWithin_80 : decode cX3_findWithin 80 = .ok (.iload 6, 2) := by decide +kernel
theorem dX3_findWithin_82 : decode cX3_findWithin 82 = .ok (.invokestatic 41, 3) := by decide +kernel
theorem dX3_findWithin_85 : decode cX3_findWithin 85 = .ok (.ior, 1) := by decide +kernel
theorem dX3_findWithin_86 : decode cX3_findWithin 86 = .ok (.istore_n 3, 1) := by decide +kernel
theorem dX3_findWithin_87 : decode cX3_findWithin 87 = .ok (.iinc 6 1, 3) := by decide +kernel
theorem dX3_findWithin_90 : decode cX3_findWithin 90 = .ok (.goto (-33), 3) := by decide +kernel
theorem dX3_findWithin_93 : decode cX3_findWithin 93 = .ok (.iinc 4 1, 3) := by decide +kernel
theorem dX3_findWithin_96 : decode cX3_findWithin 96 = .ok (.goto (-51), 3) := by decide +kernel
theorem dX3_findWithin_99 : decode cX3_findWithin 99 = .ok (.iload_n 3, 1) := by decide +kernel
theorem dX3_findWithin_100 : decode cX3_findWithin 100 = .ok (.ireturn, 1) := by decide +kernel
set_option maxRecDepth 20000 in
theorem ggX3_findOnPath_X3_findWithin : GoodIn wsX3_findOnPath wsX3_findWithin := goodIn_ca (goodIn_r _ [7, 1, 8, 2, 9, 10, 11, 12, 13, 14, 22, 23, 24, 25, 26] (by decide +kernel) (by decide +kernel)) (goodIn_sub (fun _ h => List.mem_cons_of_mem _ (List.mem_append_right _ h)) (by decide +kernel))
set_option maxRecDepth 20000 in
theorem gX3_findOnPath_X3_findWithin : GoodIn wsX3_findOnPath (wsV RX3 55 RX3 yX3_findWithin wsX3_findWithin) := goodIn_app (goodIn_of _ (by decide +kernel)) ggX3_findOnPath_X3_findWithin
set_option maxRecDepth 20000 in
theorem ggX3_findOnPath_X6_findLowest : GoodIn wsX3_findOnPath wsX6_findLowest := goodIn_r _ [16, 17, 9, 10, 11, 12, 13, 14] (by decide +kernel) (by decide +kernel)
set_option maxRecDepth 20000 in
theorem gX3_findOnPath_X6_findLowest_n59 : GoodIn wsX3_findOnPath (wsX6_findLowest) := ggX3_findOnPath_X6_findLowest
set_option maxRecDepth 20000 in
theorem ggX3_findOnPath_X3_has : GoodIn wsX3_findOnPath wsX3_has := goodIn_r _ [21, 1, 22, 23, 24, 25, 26] (by decide +kernel) (by decide +kernel)
set_option maxRecDepth 20000 in
theorem gX3_findOnPath_X3_has : GoodIn wsX3_findOnPath (wsV RX3 28 RX3 yX3_has wsX3_has) := goodIn_app (goodIn_of _ (by decide +kernel)) ggX3_findOnPath_X3_has
theorem dX3_findOnPath_0 : decode cX3_findOnPath 0 = .ok (.iload_n 1, 1) := by decide +kernel
theorem dX3_findOnPath_1 : decode cX3_findOnPath 1 = .ok (.aload_n 0, 1) := by decide +kernel
theorem dX3_findOnPath_2 : decode cX3_findOnPath 2 = .ok (.iload_n 2, 1) := by decide +kernel
theorem dX3_findOnPath_3 : decode cX3_findOnPath 3 = .ok (.iload_n 3, 1) := by decide +kernel
theorem dX3_findOnPath_4 : decode cX3_findOnPath 4 = .ok (.invokevirtual 55, 3) := by decide +kernel
theorem dX3_findOnPath_7 : decode cX3_findOnPath 7 = .ok (.iand, 1) := by decide +kernel
theorem dX3_findOnPath_8 : decode cX3_findOnPath 8 = .ok (.aload_n 0, 1) := by decide +kernel
theorem dX3_findOnPath_9 : decode cX3_findOnPath 9 = .ok (.getfield 24, 3) := by decide +kernel
theorem dX3_findOnPath_12 : decode cX3_findOnPath 12 = .ok (.invokestatic 59, 3) := by decide +kernel
theorem dX3_findOnPath_15 : decode cX3_findOnPath 15 = .ok (.istore 5, 2) := by decide +kernel
theorem dX3_findOnPath_17 : decode cX3_findOnPath 17 = .ok (.iconst 1, 1) := by decide +kernel
theorem dX3_findOnPath_18 : decode cX3_findOnPath 18 = .ok (.istore 6, 2) := by decide +kernel
theorem dX3_findOnPath_20 : decode cX3_findOnPath 20 = .ok (.iload 6, 2) := by decide +kernel
theorem dX3_findOnPath_22 : decode cX3_findOnPath 22 = .ok (.iload 4, 2) := by decide +kernel
theorem dX3_findOnPath_24 : decode cX3_findOnPath 24 = .ok (.if_icmp .gt 46, 3) := by decide +kernel
theorem dX3_findOnPath_27 : decode cX3_findOnPath 27 = .ok (.aload_n 0, 1) := by decide +kernel
theorem dX3_findOnPath_28 : decode cX3_findOnPath 28 = .ok (.iload 5, 2) := by decide +kernel
theorem dX3_findOnPath_30 : decode cX3_findOnPath 30 = .ok (.invokevirtual 28, 3) := by decide +kernel
theorem dX3_findOnPath_33 : decode cX3_findOnPath 33 = .ok (.ifCond .ne 5, 3) := by decide +kernel
theorem dX3_findOnPath_36 : decode cX3_findOnPath 36 = .ok (.iconst (-1), 1) := by decide +kernel
theorem dX3_findOnPath_37 : decode cX3_findOnPath 37 = .ok (.ireturn, 1) := by decide +kernel
theorem dX3_findOnPath_38 : decode cX3_findOnPath 38 = .ok (.aload_n 0, 1) := by decide +kernel
theorem dX3_findOnPath_39 : decode cX3_findOnPath 39 = .ok (.getfield 18, 3) := by decide +kernel
theorem dX3_findOnPath_42 : decode cX3_findOnPath 42 = .ok (.iload 5, 2) := by decide +kernel
theorem dX3_findOnPath_44 : decode cX3_findOnPath 44 = .ok (.iaload, 1) := by decide +kernel
theorem dX3_findOnPath_45 : decode cX3_findOnPath 45 = .ok (.aload_n 0, 1) := by decide +kernel
theorem dX3_findOnPath_46 : decode cX3_findOnPath 46 = .ok (.iload_n 2, 1) := by decide +kernel
theorem dX3_findOnPath_47 : decode cX3_findOnPath 47 = .ok (.iload_n 3, 1) := by decide +kernel
theorem dX3_findOnPath_48 : decode cX3_findOnPath 48 = .ok (.iload 6, 2) := by decide +kernel
theorem dX3_findOnPath_50 : decode cX3_findOnPath 50 = .ok (.isub, 1) := by decide +kernel
theorem dX3_findOnPath_51 : decode cX3_findOnPath 51 = .ok (.invokevirtual 55, 3) := by decide +kernel
theorem dX3_findOnPath_54 : decode cX3_findOnPath 54 = .ok (.iand, 1) := by decide +kernel
theorem dX3_findOnPath_55 : decode cX3_findOnPath 55 = .ok (.aload_n 0, 1) := by decide +kernel
theorem dX3_findOnPath_56 : decode cX3_findOnPath 56 = .ok (.getfield 24, 3) := by decide +kernel
theorem dX3_findOnPath_59 : decode cX3_findOnPath 59 = .ok (.invokestatic 59, 3) := by decide +kernel
theorem dX3_findOnPath_62 : decode cX3_findOnPath 62 = .ok (.istore 5, 2) := by decide +kernel
theorem dX3_findOnPath_64 : decode cX3_findOnPath 64 = .ok (.iinc 6 1, 3) := by decide +kernel
theorem dX3_findOnPath_67 : decode cX3_findOnPath 67 = .ok (.goto (-47), 3) := by decide +kernel
theorem dX3_findOnPath_70 : decode cX3_findOnPath 70 = .ok (.iload 5, 2) := by decide +kernel
theorem dX3_findOnPath_72 : decode cX3_findOnPath 72 = .ok (.ireturn, 1) := by decide +kernel
theorem dX4_init_0 : decode cX4_init 0 = .ok (.aload_n 0, 1) := by decide +kernel
theorem dX4_init_1 : decode cX4_init 1 = .ok (.invokespecial 3, 3) := by decide +kernel
theorem dX4_init_4 : decode cX4_init 4 = .ok (.aload_n 0, 1) := by decide +kernel
theorem dX4_init_5 : decode cX4_init 5 = .ok (.bipush 10, 2) := by decide +kernel
theorem dX4_init_7 : decode cX4_init 7 = .ok (.newarray .int, 2) := by decide +kernel
theorem dX4_init_9 : decode cX4_init 9 = .ok (.putfield 9, 3) := by decide +kernel
theorem dX4_init_12 : decode cX4_init 12 = .ok (.aload_n 0, 1) := by decide +kernel
theorem dX4_init_13 : decode cX4_init 13 = .ok (.bipush 10, 2) := by decide +kernel
theorem dX4_init_15 : decode cX4_init 15 = .ok (.newarray .int, 2) := by decide +kernel
theorem dX4_init_17 : decode cX4_init 17 = .ok (.putfield 15, 3) := by decide +kernel
theorem dX4_init_20 : decode cX4_init 20 = .ok (.aload_n 0, 1) := by decide +kernel
theorem dX4_init_21 : decode cX4_init 21 = .ok (.bipush 10, 2) := by decide +kernel
theorem dX4_init_23 : decode cX4_init 23 = .ok (.newarray .int, 2) := by decide +kernel
theorem dX4_init_25 : decode cX4_init 25 = .ok (.putfield 18, 3) := by decide +kernel
theorem dX4_init_28 : decode cX4_init 28 = .ok (.aload_n 0, 1) := by decide +kernel
theorem dX4_init_29 : decode cX4_init 29 = .ok (.bipush 10, 2) := by decide +kernel
theorem dX4_init_31 : decode cX4_init 31 = .ok (.newarray .boolean, 2) := by decide +kernel
theorem dX4_init_33 : decode cX4_init 33 = .ok (.putfield 21, 3) := by decide +kernel
theorem dX4_init_36 : decode cX4_init 36 = .ok (.aload_n 0, 1) := by decide +kernel
theorem dX4_init_37 : decode cX4_init 37 = .ok (.iconst 0, 1) := by decide +kernel
theorem dX4_init_38 : decode cX4_init 38 = .ok (.putfield 25, 3) := by decide +kernel
theorem dX4_init_41 : decode cX4_init 41 = .ok (.return_, 1) := by decide +kernel
theorem dX4_has_0 : decode cX4_has 0 = .ok (.iload_n 1, 1) := by decide +kernel
theorem dX4_has_1 : decode cX4_has 1 = .ok (.ifCond .lt 15, 3) := by decide +kernel
theorem dX4_has_4 : decode cX4_has 4 = .ok (.iload_n 1, 1) := by decide +kernel
theorem dX4_has_5 : decode cX4_has 5 = .ok (.aload_n 0, 1) := by decide +kernel
theorem dX4_has_6 : decode cX4_has 6 = .ok (.getfield 25, 3) := by decide +kernel
theorem dX4_has_9 : decode cX4_has 9 = .ok (.if_icmp .ge 7, 3) := by decide +kernel
theorem dX4_has_12 : decode cX4_has 12 = .ok (.iconst 1, 1) := by decide +kernel
theorem dX4_has_13 : decode cX4_has 13 = .ok (.goto 4, 3) := by decide +kernel
theorem dX4_has_16 : decode cX4_has 16 = .ok (.iconst 0, 1) := by decide +kernel
theorem dX4_has_17 : decode cX4_has 17 = .ok (.ireturn, 1) := by decide +kernel
theorem dX4_add_0 : decode cX4_add 0 = .ok (.aload_n 0, 1) := by decide +kernel
theorem dX4_add_1 : decode cX4_add 1 = .ok (.getfield 9, 3) := by decide +kernel
theorem dX4_add_4 : decode cX4_add 4 = .ok (.aload_n 0, 1) := by decide +kernel
theorem dX4_add_5 : decode cX4_add 5 = .ok (.getfield 25, 3) := by decide +kernel
theorem dX4_add_8 : decode cX4_add 8 = .ok (.iload_n 1, 1) := by decide +kernel
theorem dX4_add_9 : decode cX4_add 9 = .ok (.iastore, 1) := by decide +kernel
theorem dX4_add_10 : decode cX4_add 10 = .ok (.aload_n 0, 1) := by decide +kernel
theorem dX4_add_11 : decode cX4_add 11 = .ok (.getfield 15, 3) := by decide +kernel
theorem dX4_add_14 : decode cX4_add 14 = .ok (.aload_n 0, 1) := by decide +kernel
theorem dX4_add_15 : decode cX4_add 15 = .ok (.getfield 25, 3) := by decide +kernel
theorem dX4_add_18 : decode cX4_add 18 = .ok (.iload_n 2, 1) := by decide +kernel
theorem dX4_add_19 : decode cX4_add 19 = .ok (.iastore, 1) := by decide +kernel
theorem dX4_add_20 : decode cX4_add 20 = .ok (.aload_n 0, 1) := by decide +kernel
theorem dX4_add_21 : decode cX4_add 21 = .ok (.getfield 18, 3) := by decide +kernel
theorem dX4_add_24 : decode cX4_add 24 = .ok (.aload_n 0, 1) := by decide +kernel
theorem dX4_add_25 : decode cX4_add 25 = .ok (.getfield 25, 3) := by decide +kernel
theorem dX4_add_28 : decode cX4_add 28 = .ok (.iconst (-1), 1) := by decide +kernel
theorem dX4_add_29 : decode cX4_add 29 = .ok (.iastore, 1) := by decide +kernel
theorem dX4_add_30 : decode cX4_add 30 = .ok (.aload_n 0, 1) := by decide +kernel
theorem dX4_add_31 : decode cX4_add 31 = .ok (.dup, 1) := by decide +kernel
theorem dX4_add_32 : decode cX4_add 32 = .ok (.getfield 25, 3) := by decide +kernel
theorem dX4_add_35 : decode cX4_add 35 = .ok (.dup_x1, 1) := by decide +kernel
theorem dX4_add_36 : decode cX4_add 36 = .ok (.iconst 1, 1) := by decide +kernel
theorem dX4_add_37 : decode cX4_add 37 = .ok (.iadd, 1) := by decide +kernel
theorem dX4_add_38 : decode cX4_add 38 = .ok (.putfield 25, 3) := by decide +kernel
theorem dX4_add_41 : decode cX4_add 41 = .ok (.ireturn, 1) := by decide +kernel
set_option maxRecDepth 20000 in
theorem ggX4_firstPresent_X4_has : GoodIn wsX4_firstPresent wsX4_has := goodIn_r _ [8, 1, 9, 10, 11, 12, 13] (by decide +kernel) (by decide +kernel)
set_option maxRecDepth 20000 in
theorem gX4_firstPresent_X4_has : GoodIn wsX4_firstPresent (wsV RX4 29 RX4 yX4_has wsX4_has) := goodIn_app (goodIn_of _ (by decide +kernel)) ggX4_firstPresent_X4_has
theorem dX4_firstPresent_0 : decode cX4_firstPresent 0 = .ok (.iload_n 1, 1) := by decide +kernel
theorem dX4_firstPresent_1 : decode cX4_firstPresent 1 = .ok (.istore_n 2, 1) := by decide +kernel
theorem dX4_firstPresent_2 : decode cX4_firstPresent 2 = .ok (.iconst 0, 1) := by decide +kernel
theorem dX4_firstPresent_3 : decode cX4_firstPresent 3 = .ok (.istore_n 3, 1) := by decide +kernel
theorem dX4_firstPresent_4 : decode cX4_firstPresent 4 = .ok (.iload_n 3, 1) := by decide +kernel
theorem dX4_firstPresent_5 : decode cX4_firstPresent 5 = .ok (.aload_n 0, 1) := by decide +kernel
theorem dX4_firstPresent_6 : decode cX4_firstPresent 6 = .ok (.getfield 25, 3) := by decide +kernel
theorem dX4_firstPresent_9 : decode cX4_firstPresent 9 = .ok (.if_icmp .ge 37, 3) := by decide +kernel
theorem dX4_firstPresent_12 : decode cX4_firstPresent 12 = .ok (.aload_n 0, 1) := by decide +kernel
theorem dX4_firstPresent_13 : decode cX4_firstPresent 13 = .ok (.iload_n 2, 1) := by decide +kernel
theorem dX4_firstPresent_14 : decode cX4_firstPresent 14 = .ok (.invokevirtual 29, 3) := by decide +kernel
theorem dX4_firstPresent_17 : decode cX4_firstPresent 17 = .ok (.ifCond .ne 5, 3) := by decide +kernel
theorem dX4_firstPresent_20 : decode cX4_firstPresent 20 = .ok (.iconst (-1), 1) := by decide +kernel
theorem dX4_firstPresent_21 : decode cX4_firstPresent 21 = .ok (.ireturn, 1) := by decide +kernel
theorem dX4_firstPresent_22 : decode cX4_firstPresent 22 = .ok (.aload_n 0, 1) := by decide +kernel
theorem dX4_firstPresent_23 : decode cX4_firstPresent 23 = .ok (.getfield 21, 3) := by decide +kernel
theorem dX4_firstPresent_26 : decode cX4_firstPresent 26 = .ok (.iload_n 2, 1) := by decide +kernel
theorem dX4_firstPresent_27 : decode cX4_firstPresent 27 = .ok (.baload, 1) := by decide +kernel
theorem dX4_firstPresent_28 : decode cX4_firstPresent 28 = .ok (.ifCond .ne 5, 3) := by decide +kernel
theorem dX4_firstPresent_31 : decode cX4_firstPresent 31 = .ok (.iload_n 2, 1) := by decide +kernel
theorem dX4_firstPresent_32 : decode cX4_firstPresent 32 = .ok (.ireturn, 1) := by decide +kernel
theorem dX4_firstPresent_33 : decode cX4_firstPresent 33 = .ok (.aload_n 0, 1) := by decide +kernel
theorem dX4_firstPresent_34 : decode cX4_firstPresent 34 = .ok (.getfield 18, 3) := by decide +kernel
theorem dX4_firstPresent_37 : decode cX4_firstPresent 37 = .ok (.iload_n 2, 1) := by decide +kernel
theorem dX4_firstPresent_38 : decode cX4_firstPresent 38 = .ok (.iaload, 1) := by decide +kernel
theorem dX4_firstPresent_39 : decode cX4_firstPresent 39 = .ok (.istore_n 2, 1) := by decide +kernel
theorem dX4_firstPresent_40 : decode cX4_firstPresent 40 = .ok (.iinc 3 1, 3) := by decide +kernel
theorem dX4_firstPresent_43 : decode cX4_firstPresent 43 = .ok (.goto (-39), 3) := by decide +kernel
theorem dX4_firstPresent_46 : decode cX4_firstPresent 46 = .ok (.iconst (-1), 1) := by decide +kernel
theorem dX4_firstPresent_47 : decode cX4_firstPresent 47 = .ok (.ireturn, 1) := by decide +kernel
set_option maxRecDepth 20000 in
theorem ggX4_findPeers_X6_bit : GoodIn wsX4_findPeers wsX6_bit := goodIn_r _ [5] (by decide +kernel) (by decide +kernel)
set_option maxRecDepth 20000 in
theorem gX4_findPeers_X6_bit_n33 : GoodIn wsX4_findPeers (wsX6_bit) := ggX4_findPeers_X6_bit
theorem dX4_findPeers_0 : decode cX4_findPeers 0 = .ok (.iconst 0, 1) := by decide +kernel
theorem dX4_findPeers_1 : decode cX4_findPeers 1 = .ok (.istore_n 2, 1) := by decide +kernel
theorem dX4_findPeers_2 : decode cX4_findPeers 2 = .ok (.iconst 0, 1) := by decide +kernel
theorem dX4_findPeers_3 : decode cX4_findPeers 3 = .ok (.istore_n 3, 1) := by decide +kernel
theorem dX4_findPeers_4 : decode cX4_findPeers 4 = .ok (.iload_n 3, 1) := by decide +kernel
theorem dX4_findPeers_5 : decode cX4_findPeers 5 = .ok (.aload_n 0, 1) := by decide +kernel
theorem dX4_findPeers_6 : decode cX4_findPeers 6 = .ok (.getfield 25, 3) := by decide +kernel
theorem dX4_findPeers_9 : decode cX4_findPeers 9 = .ok (.if_icmp .ge 36, 3) := by decide +kernel
theorem dX4_findPeers_12 : decode cX4_findPeers 12 = .ok (.iload_n 3, 1) := by decide +kernel
theorem dX4_findPeers_13 : decode cX4_findPeers 13 = .ok (.iload_n 1, 1) := by decide +kernel
theorem dX4_findPeers_14 : decode cX4_findPeers 14 = .ok (.if_icmp .eq 25, 3) := by decide +kernel
theorem dX4_findPeers_17 : decode cX4_findPeers 17 = .ok (.aload_n 0, 1) := by decide +kernel
theorem dX4_findPeers_18 : decode cX4_findPeers 18 = .ok (.getfield 9, 3) := by decide +kernel
theorem dX4_findPeers_21 : decode cX4_findPeers 21 = .ok (.iload_n 3, 1) := by decide +kernel
theorem dX4_findPeers_22 : decode cX4_findPeers 22 = .ok (.iaload, 1) := by decide +kernel
theorem dX4_findPeers_23 : decode cX4_findPeers 23 = .ok (.aload_n 0, 1) := by decide +kernel
theorem dX4_findPeers_24 : decode cX4_findPeers 24 = .ok (.getfield 9, 3) := by decide +kernel
theorem dX4_findPeers_27 : decode cX4_findPeers 27 = .ok (.iload_n 1, 1) := by decide +kernel
theorem dX4_findPeers_28 : decode cX4_findPeers 28 = .ok (.iaload, 1) := by decide +kernel
theorem dX4_findPeers_29 : decode cX4_findPeers 29 = .ok (.if_icmp .ne 10, 3) := by decide +kernel
theorem dX4_findPeers_32 : decode cX4_findPeers 32 = .ok (.iload_n 2, 1) := by decide +kernel
theorem dX4_findPeers_33 : decode cX4_findPeers 33 = .ok (.iload_n 3, 1) := by decide +kernel
theorem dX4_findPeers_34 : decode cX4_findPeers 34 = .ok (.invokestatic 33, 3) := by decide +kernel
theorem dX4_findPeers_37 : decode cX4_findPeers 37 = .ok (.ior, 1) := by decide +kernel
theorem dX4_findPeers_38 : decode cX4_findPeers 38 = .ok (.istore_n 2, 1) := by decide +kernel
theorem dX4_findPeers_39 : decode cX4_findPeers 39 = .ok (.iinc 3 1, 3) := by decide +kernel
theorem dX4_findPeers_42 : decode cX4_findPeers 42 = .ok (.goto (-38), 3) := by decide +kernel
theorem dX4_findPeers_45 : decode cX4_findPeers 45 = .ok (.iload_n 2, 1) := by decide +kernel
theorem dX4_findPeers_46 : decode cX4_findPeers 46 = .ok (.ireturn, 1) := by decide +kernel
theorem dX5_init_0 : decode cX5_init 0 = .ok (.aload_n 0, 1) := by decide +kernel
theorem dX5_init_1 : decode cX5_init 1 = .ok (.invokespecial 3, 3) := by decide +kernel
theorem dX5_init_4 : decode cX5_init 4 = .ok (.aload_n 0, 1) := by decide +kernel
theorem dX5_init_5 : decode cX5_init 5 = .ok (.bipush 10, 2) := by decide +kernel
theorem dX5_init_7 : decode cX5_init 7 = .ok (.newarray .int, 2) := by decide +kernel
theorem dX5_init_9 : decode cX5_init 9 = .ok (.putfield 9, 3) := by decide +kernel
theorem dX5_init_12 : decode cX5_init 12 = .ok (.aload_n 0, 1) := by decide +kernel
theorem dX5_init_13 : decode cX5_init 13 = .ok (.bipush 10, 2) := by decide +kernel
theorem dX5_init_15 : decode cX5_init 15 = .ok (.newarray .int, 2) := by decide +kernel
theorem dX5_init_17 : decode cX5_init 17 = .ok (.putfield 15, 3) := by decide +kernel
theorem dX5_init_20 : decode cX5_init 20 = .ok (.aload_n 0, 1) := by decide +kernel
theorem dX5_init_21 : decode cX5_init 21 = .ok (.bipush 10, 2) := by decide +kernel
theorem dX5_init_23 : decode cX5_init 23 = .ok (.newarray .boolean, 2) := by decide +kernel
theorem dX5_init_25 : decode cX5_init 25 = .ok (.putfield 18, 3) := by decide +kernel
theorem dX5_init_28 : decode cX5_init 28 = .ok (.aload_n 0, 1) := by decide +kernel
theorem dX5_init_29 : decode cX5_init 29 = .ok (.bipush 10, 2) := by decide +kernel
theorem dX5_init_31 : decode cX5_init 31 = .ok (.newarray .int, 2) := by decide +kernel
theorem dX5_init_33 : decode cX5_init 33 = .ok (.putfield 22, 3) := by decide +kernel
theorem dX5_init_36 : decode cX5_init 36 = .ok (.aload_n 0, 1) := by decide +kernel
theorem dX5_init_37 : decode cX5_init 37 = .ok (.iconst 0, 1) := by decide +kernel
theorem dX5_init_38 : decode cX5_init 38 = .ok (.putfield 25, 3) := by decide +kernel
theorem dX5_init_41 : decode cX5_init 41 = .ok (.return_, 1) := by decide +kernel
theorem dX5_has_0 : decode cX5_has 0 = .ok (.iload_n 1, 1) := by decide +kernel
theorem dX5_has_1 : decode cX5_has 1 = .ok (.ifCond .lt 15, 3) := by decide +kernel
theorem dX5_has_4 : decode cX5_has 4 = .ok (.iload_n 1, 1) := by decide +kernel
theorem dX5_has_5 : decode cX5_has 5 = .ok (.aload_n 0, 1) := by decide +kernel
theorem dX5_has_6 : decode cX5_has 6 = .ok (.getfield 25, 3) := by decide +kernel
theorem dX5_has_9 : decode cX5_has 9 = .ok (.if_icmp .ge 7, 3) := by decide +kernel
theorem dX5_has_12 : decode cX5_has 12 = .ok (.iconst 1, 1) := by decide +kernel
theorem dX5_has_13 : decode cX5_has 13 = .ok (.goto 4, 3) := by decide +kernel
theorem dX5_has_16 : decode cX5_has 16 = .ok (.iconst 0, 1) := by decide +kernel
theorem dX5_has_17 : decode cX5_has 17 = .ok (.ireturn, 1) := by decide +kernel
theorem dX5_add_0 : decode cX5_add 0 = .ok (.aload_n 0, 1) := by decide +kernel
theorem dX5_add_1 : decode cX5_add 1 = .ok (.getfield 9, 3) := by decide +kernel
theorem dX5_add_4 : decode cX5_add 4 = .ok (.aload_n 0, 1) := by decide +kernel
theorem dX5_add_5 : decode cX5_add 5 = .ok (.getfield 25, 3) := by decide +kernel
theorem dX5_add_8 : decode cX5_add 8 = .ok (.iload_n 1, 1) := by decide +kernel
theorem dX5_add_9 : decode cX5_add 9 = .ok (.iastore, 1) := by decide +kernel
theorem dX5_add_10 : decode cX5_add 10 = .ok (.aload_n 0, 1) := by decide +kernel
theorem dX5_add_11 : decode cX5_add 11 = .ok (.getfield 15, 3) := by decide +kernel
theorem dX5_add_14 : decode cX5_add 14 = .ok (.aload_n 0, 1) := by decide +kernel
theorem dX5_add_15 : decode cX5_add 15 = .ok (.getfield 25, 3) := by decide +kernel
theorem dX5_add_18 : decode cX5_add 18 = .ok (.iload_n 2, 1) := by decide +kernel
theorem dX5_add_19 : decode cX5_add 19 = .ok (.iastore, 1) := by decide +kernel
theorem dX5_add_20 : decode cX5_add 20 = .ok (.aload_n 0, 1) := by decide +kernel
theorem dX5_add_21 : decode cX5_add 21 = .ok (.getfield 18, 3) := by decide +kernel
theorem dX5_add_24 : decode cX5_add 24 = .ok (.aload_n 0, 1) := by decide +kernel
theorem dX5_add_25 : decode cX5_add 25 = .ok (.getfield 25, 3) := by decide +kernel
theorem dX5_add_28 : decode cX5_add 28 = .ok (.iload_n 3, 1) := by decide +kernel
theorem dX5_add_29 : decode cX5_add 29 = .ok (.bastore, 1) := by decide +kernel
theorem dX5_add_30 : decode cX5_add 30 = .ok (.aload_n 0, 1) := by decide +kernel
theorem dX5_add_31 : decode cX5_add 31 = .ok (.dup, 1) := by decide +kernel
theorem dX5_add_32 : decode cX5_add 32 = .ok (.getfield 25, 3) := by decide +kernel
theorem dX5_add_35 : decode cX5_add 35 = .ok (.dup_x1, 1) := by decide +kernel
theorem dX5_add_36 : decode cX5_add 36 = .ok (.iconst 1, 1) := by decide +kernel
theorem dX5_add_37 : decode cX5_add 37 = .ok (.iadd, 1) := by decide +kernel
theorem dX5_add_38 : decode cX5_add 38 = .ok (.putfield 25, 3) := by decide +kernel
theorem dX5_add_41 : decode cX5_add 41 = .ok (.ireturn, 1) := by decide +kernel
set_option maxRecDepth 20000 in
theorem ggX6_init_X4_init : GoodIn wsX6_init wsX4_init := goodIn_r _ [32, 33, 2, 3, 34, 35, 36, 37, 38, 39, 40, 87, 88, 89, 90, 91] (by decide +kernel) (by decide +kernel)
set_option maxRecDepth 20000 in
theorem gX6_init_X4_init_n9 : GoodIn wsX6_init (wsX4_init) := ggX6_init_X4_init
set_option maxRecDepth 20000 in
theorem ggX6_init_X3_init : GoodIn wsX6_init wsX3_init := goodIn_r _ [42, 43, 2, 3, 34, 44, 45, 46, 47, 48, 101, 102, 103, 104, 105] (by decide +kernel) (by decide +kernel)
set_option maxRecDepth 20000 in
theorem gX6_init_X3_init_n18 : GoodIn wsX6_init (wsX3_init) := ggX6_init_X3_init
set_option maxRecDepth 20000 in
theorem ggX6_init_X5_init : GoodIn wsX6_init wsX5_init := goodIn_r _ [50, 51, 2, 3, 34, 52, 53, 38, 54, 55, 56, 106, 107, 108, 109, 110] (by decide +kernel) (by decide +kernel)
set_option maxRecDepth 20000 in
theorem gX6_init_X5_init_n25 : GoodIn wsX6_init (wsX5_init) := ggX6_init_X5_init
set_option maxRecDepth 20000 in
theorem ggX6_init_X2_init : GoodIn wsX6_init wsX2_init := goodIn_r _ [58, 59, 2, 3, 34, 60, 61, 62, 63, 64, 65, 66, 67, 111, 112, 113, 114, 115, 116, 117] (by decide +kernel) (by decide +kernel)
set_option maxRecDepth 20000 in
theorem gX6_init_X2_init_n32 : GoodIn wsX6_init (wsX2_init) := ggX6_init_X2_init
set_option maxRecDepth 20000 in
theorem ggX6_init_X0_init : GoodIn wsX6_init wsX0_init := goodIn_r _ [69, 70, 2, 3, 34, 71, 63, 72, 73, 74, 75, 76, 77, 78, 118, 119, 120, 121, 122, 123, 124, 125] (by decide +kernel) (by decide +kernel)
set_option maxRecDepth 20000 in
theorem gX6_init_X0_init_n39 : GoodIn wsX6_init (wsX0_init) := ggX6_init_X0_init
set_option maxRecDepth 20000 in
theorem ggX6_init_X1_init : GoodIn wsX6_init wsX1_init := goodIn_r _ [80, 81, 2, 3, 63, 82, 34, 83, 84, 85, 86, 126, 127, 128, 129, 130] (by decide +kernel) (by decide +kernel)
set_option maxRecDepth 20000 in
theorem gX6_init_X1_init_n46 : GoodIn wsX6_init (wsX1_init) := ggX6_init_X1_init
