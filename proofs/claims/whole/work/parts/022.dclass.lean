theorem dX6_init_0 : decode cX6_init 0 = .ok (.aload_n 0, 1) := by decide +kernel
theorem dX6_init_1 : decode cX6_init 1 = .ok (.invokespecial 1, 3) := by decide +kernel
theorem dX6_init_4 : decode cX6_init 4 = .ok (.aload_n 0, 1) := by decide +kernel
theorem dX6_init_5 : decode cX6_init 5 = .ok (.new 7, 3) := by decide +kernel
theorem dX6_init_8 : decode cX6_init 8 = .ok (.dup, 1) := by decide +kernel
theorem dX6_init_9 : decode cX6_init 9 = .ok (.invokespecial 9, 3) := by decide +kernel
theorem dX6_init_12 : decode cX6_init 12 = .ok (.putfield 10, 3) := by decide +kernel
theorem dX6_init_15 : decode cX6_init 15 = .ok (.aload_n 0, 1) := by decide +kernel
theorem dX6_init_16 : decode cX6_init 16 = .ok (.new 16, 3) := by decide +kernel
theorem dX6_init_19 : decode cX6_init 19 = .ok (.dup, 1) := by decide +kernel
theorem dX6_init_20 : decode cX6_init 20 = .ok (.invokespecial 18, 3) := by decide +kernel
theorem dX6_init_23 : decode cX6_init 23 = .ok (.putfield 19, 3) := by decide +kernel
theorem dX6_init_26 : decode cX6_init 26 = .ok (.aload_n 0, 1) := by decide +kernel
theorem dX6_init_27 : decode cX6_init 27 = .ok (.new 23, 3) := by decide +kernel
theorem dX6_init_30 : decode cX6_init 30 = .ok (.dup, 1) := by decide +kernel
theorem dX6_init_31 : decode cX6_init 31 = .ok (.invokespecial 25, 3) := by decide +kernel
theorem dX6_init_34 : decode cX6_init 34 = .ok (.putfield 26, 3) := by decide +kernel
theorem dX6_init_37 : decode cX6_init 37 = .ok (.aload_n 0, 1) := by decide +kernel
theorem dX6_init_38 : decode cX6_init 38 = .ok (.new 30, 3) := by decide +kernel
theorem dX6_init_41 : decode cX6_init 41 = .ok (.dup, 1) := by decide +kernel
theorem dX6_init_42 : decode cX6_init 42 = .ok (.invokespecial 32, 3) := by decide +kernel
theorem dX6_init_45 : decode cX6_init 45 = .ok (.putfield 33, 3) := by decide +kernel
theorem dX6_init_48 : decode cX6_init 48 = .ok (.aload_n 0, 1) := by decide +kernel
theorem dX6_init_49 : decode cX6_init 49 = .ok (.new 37, 3) := by decide +kernel
theorem dX6_init_52 : decode cX6_init 52 = .ok (.dup, 1) := by decide +kernel
theorem dX6_init_53 : decode cX6_init 53 = .ok (.invokespecial 39, 3) := by decide +kernel
theorem dX6_init_56 : decode cX6_init 56 = .ok (.putfield 40, 3) := by decide +kernel
theorem dX6_init_59 : decode cX6_init 59 = .ok (.aload_n 0, 1) := by decide +kernel
theorem dX6_init_60 : decode cX6_init 60 = .ok (.new 44, 3) := by decide +kernel
theorem dX6_init_63 : decode cX6_init 63 = .ok (.dup, 1) := by decide +kernel
theorem dX6_init_64 : decode cX6_init 64 = .ok (.invokespecial 46, 3) := by decide +kernel
theorem dX6_init_67 : decode cX6_init 67 = .ok (.putfield 47, 3) := by decide +kernel
theorem dX6_init_70 : decode cX6_init 70 = .ok (.aload_n 0, 1) := by decide +kernel
theorem dX6_init_71 : decode cX6_init 71 = .ok (.iconst 0, 1) := by decide +kernel
theorem dX6_init_72 : decode cX6_init 72 = .ok (.putfield 51, 3) := by decide +kernel
theorem dX6_init_75 : decode cX6_init 75 = .ok (.aload_n 0, 1) := by decide +kernel
theorem dX6_init_76 : decode cX6_init 76 = .ok (.sipush 300, 3) := by decide +kernel
theorem dX6_init_79 : decode cX6_init 79 = .ok (.putfield 55, 3) := by decide +kernel
theorem dX6_init_82 : decode cX6_init 82 = .ok (.aload_n 0, 1) := by decide +kernel
theorem dX6_init_83 : decode cX6_init 83 = .ok (.iconst 2, 1) := by decide +kernel
theorem dX6_init_84 : decode cX6_init 84 = .ok (.putfield 58, 3) := by decide +kernel
theorem dX6_init_87 : decode cX6_init 87 = .ok (.return_, 1) := by decide +kernel
set_option maxRecDepth 20000 in
theorem ggX6_addPerson_X6_requirePerson : GoodIn wsX6_addPerson wsX6_requirePerson := goodIn_ca (goodIn_r _ [11, 12, 13, 5, 14, 15, 16, 17, 18, 19, 27, 28, 29, 30, 31, 32, 33, 34, 35, 36, 37, 38, 39, 40] (by decide +kernel) (by decide +kernel)) (goodIn_sub (fun _ h => List.mem_cons_of_mem _ (List.mem_append_left _ (List.mem_append_right _ h))) (by decide +kernel))
set_option maxRecDepth 20000 in
theorem gX6_addPerson_X6_requirePerson : GoodIn wsX6_addPerson (wsV RX6 68 RX6 yX6_requirePerson wsX6_requirePerson) := goodIn_app (goodIn_of _ (by decide +kernel)) ggX6_addPerson_X6_requirePerson
set_option maxRecDepth 20000 in
theorem ggX6_addPerson_X4_add : GoodIn wsX6_addPerson wsX4_add := goodIn_ca (goodIn_r _ [23, 24, 19, 25, 26, 36, 37, 38, 39, 40] (by decide +kernel) (by decide +kernel)) (goodIn_sub (fun _ h => List.mem_cons_of_mem _ (List.mem_append_right _ h)) (by decide +kernel))
set_option maxRecDepth 20000 in
theorem gX6_addPerson_X4_add : GoodIn wsX6_addPerson (wsV RX6 80 RX4 yX4_add wsX4_add) := goodIn_app (goodIn_of _ (by decide +kernel)) ggX6_addPerson_X4_add
theorem dX6_addPerson_0 : decode cX6_addPerson 0 = .ok (.iload_n 1, 1) := by decide +kernel
theorem dX6_addPerson_1 : decode cX6_addPerson 1 = .ok (.ifCond .lt 8, 3) := by decide +kernel
theorem dX6_addPerson_4 : decode cX6_addPerson 4 = .ok (.iload_n 1, 1) := by decide +kernel
theorem dX6_addPerson_5 : decode cX6_addPerson 5 = .ok (.iconst 3, 1) := by decide +kernel
theorem dX6_addPerson_6 : decode cX6_addPerson 6 = .ok (.if_icmp .le 13, 3) := by decide +kernel
theorem dX6_addPerson_9 : decode cX6_addPerson 9 = .ok (.new 61, 3) := by decide +kernel
theorem dX6_addPerson_12 : decode cX6_addPerson 12 = .ok (.dup, 1) := by decide +kernel
theorem dX6_addPerson_13 : decode cX6_addPerson 13 = .ok (.ldc 63, 2) := by decide +kernel
theorem dX6_addPerson_15 : decode cX6_addPerson 15 = .ok (.invokespecial 65, 3) := by decide +kernel
theorem dX6_addPerson_18 : decode cX6_addPerson 18 = .ok (.athrow, 1) := by decide +kernel
theorem dX6_addPerson_19 : decode cX6_addPerson 19 = .ok (.iload_n 2, 1) := by decide +kernel
theorem dX6_addPerson_20 : decode cX6_addPerson 20 = .ok (.iconst (-1), 1) := by decide +kernel
theorem dX6_addPerson_21 : decode cX6_addPerson 21 = .ok (.if_icmp .eq 8, 3) := by decide +kernel
theorem dX6_addPerson_24 : decode cX6_addPerson 24 = .ok (.aload_n 0, 1) := by decide +kernel
theorem dX6_addPerson_25 : decode cX6_addPerson 25 = .ok (.iload_n 2, 1) := by decide +kernel
theorem dX6_addPerson_26 : decode cX6_addPerson 26 = .ok (.invokevirtual 68, 3) := by decide +kernel
theorem dX6_addPerson_29 : decode cX6_addPerson 29 = .ok (.aload_n 0, 1) := by decide +kernel
theorem dX6_addPerson_30 : decode cX6_addPerson 30 = .ok (.getfield 10, 3) := by decide +kernel
theorem dX6_addPerson_33 : decode cX6_addPerson 33 = .ok (.getfield 72, 3) := by decide +kernel
theorem dX6_addPerson_36 : decode cX6_addPerson 36 = .ok (.bipush 10, 2) := by decide +kernel
theorem dX6_addPerson_38 : decode cX6_addPerson 38 = .ok (.if_icmp .lt 13, 3) := by decide +kernel
theorem dX6_addPerson_41 : decode cX6_addPerson 41 = .ok (.new 75, 3) := by decide +kernel
theorem dX6_addPerson_44 : decode cX6_addPerson 44 = .ok (.dup, 1) := by decide +kernel
theorem dX6_addPerson_45 : decode cX6_addPerson 45 = .ok (.ldc 77, 2) := by decide +kernel
theorem dX6_addPerson_47 : decode cX6_addPerson 47 = .ok (.invokespecial 79, 3) := by decide +kernel
theorem dX6_addPerson_50 : decode cX6_addPerson 50 = .ok (.athrow, 1) := by decide +kernel
theorem dX6_addPerson_51 : decode cX6_addPerson 51 = .ok (.aload_n 0, 1) := by decide +kernel
theorem dX6_addPerson_52 : decode cX6_addPerson 52 = .ok (.getfield 10, 3) := by decide +kernel
theorem dX6_addPerson_55 : decode cX6_addPerson 55 = .ok (.iload_n 1, 1) := by decide +kernel
theorem dX6_addPerson_56 : decode cX6_addPerson 56 = .ok (.iload_n 2, 1) := by decide +kernel
theorem dX6_addPerson_57 : decode cX6_addPerson 57 = .ok (.invokevirtual 80, 3) := by decide +kernel
theorem dX6_addPerson_60 : decode cX6_addPerson 60 = .ok (.ireturn, 1) := by decide +kernel
set_option maxRecDepth 20000 in
theorem ggX6_setAbsent_X6_requirePerson : GoodIn wsX6_setAbsent wsX6_requirePerson := goodIn_ca (goodIn_r _ [7, 8, 9, 1, 10, 11, 12, 13, 14, 15, 16, 17, 18, 19, 20, 21, 22, 23, 24, 25, 26, 27, 28, 29] (by decide +kernel) (by decide +kernel)) (goodIn_sub (fun _ h => List.mem_cons_of_mem _ (List.mem_append_right _ h)) (by decide +kernel))
set_option maxRecDepth 20000 in
theorem gX6_setAbsent_X6_requirePerson : GoodIn wsX6_setAbsent (wsV RX6 68 RX6 yX6_requirePerson wsX6_requirePerson) := goodIn_app (goodIn_of _ (by decide +kernel)) ggX6_setAbsent_X6_requirePerson
theorem dX6_setAbsent_0 : decode cX6_setAbsent 0 = .ok (.aload_n 0, 1) := by decide +kernel
theorem dX6_setAbsent_1 : decode cX6_setAbsent 1 = .ok (.iload_n 1, 1) := by decide +kernel
theorem dX6_setAbsent_2 : decode cX6_setAbsent 2 = .ok (.invokevirtual 68, 3) := by decide +kernel
theorem dX6_setAbsent_5 : decode cX6_setAbsent 5 = .ok (.aload_n 0, 1) := by decide +kernel
theorem dX6_setAbsent_6 : decode cX6_setAbsent 6 = .ok (.getfield 10, 3) := by decide +kernel
theorem dX6_setAbsent_9 : decode cX6_setAbsent 9 = .ok (.getfield 84, 3) := by decide +kernel
theorem dX6_setAbsent_12 : decode cX6_setAbsent 12 = .ok (.iload_n 1, 1) := by decide +kernel
theorem dX6_setAbsent_13 : decode cX6_setAbsent 13 = .ok (.baload, 1) := by decide +kernel
theorem dX6_setAbsent_14 : decode cX6_setAbsent 14 = .ok (.istore_n 3, 1) := by decide +kernel
theorem dX6_setAbsent_15 : decode cX6_setAbsent 15 = .ok (.aload_n 0, 1) := by decide +kernel
theorem dX6_setAbsent_16 : decode cX6_setAbsent 16 = .ok (.getfield 10, 3) := by decide +kernel
theorem dX6_setAbsent_19 : decode cX6_setAbsent 19 = .ok (.getfield 84, 3) := by decide +kernel
theorem dX6_setAbsent_22 : decode cX6_setAbsent 22 = .ok (.iload_n 1, 1) := by decide +kernel
theorem dX6_setAbsent_23 : decode cX6_setAbsent 23 = .ok (.iload_n 2, 1) := by decide +kernel
theorem dX6_setAbsent_24 : decode cX6_setAbsent 24 = .ok (.bastore, 1) := by decide +kernel
theorem dX6_setAbsent_25 : decode cX6_setAbsent 25 = .ok (.iload_n 3, 1) := by decide +kernel
theorem dX6_setAbsent_26 : decode cX6_setAbsent 26 = .ok (.ireturn, 1) := by decide +kernel
set_option maxRecDepth 20000 in
theorem ggX6_setSubstitute_X6_requirePerson : GoodIn wsX6_setSubstitute wsX6_requirePerson := goodIn_ca (goodIn_r _ [9, 10, 11, 3, 12, 13, 14, 15, 16, 17, 18, 19, 20, 21, 22, 23, 24, 25, 26, 27, 28, 29, 30, 31] (by decide +kernel) (by decide +kernel)) (goodIn_sub (fun _ h => List.mem_cons_of_mem _ (List.mem_append_right _ h)) (by decide +kernel))
set_option maxRecDepth 20000 in
theorem gX6_setSubstitute_X6_requirePerson : GoodIn wsX6_setSubstitute (wsV RX6 68 RX6 yX6_requirePerson wsX6_requirePerson) := goodIn_app (goodIn_of _ (by decide +kernel)) ggX6_setSubstitute_X6_requirePerson
theorem dX6_setSubstitute_0 : decode cX6_setSubstitute 0 = .ok (.aload_n 0, 1) := by decide +kernel
theorem dX6_setSubstitute_1 : decode cX6_setSubstitute 1 = .ok (.iload_n 1, 1) := by decide +kernel
theorem dX6_setSubstitute_2 : decode cX6_setSubstitute 2 = .ok (.invokevirtual 68, 3) := by decide +kernel
theorem dX6_setSubstitute_5 : decode cX6_setSubstitute 5 = .ok (.iload_n 2, 1) := by decide +kernel
theorem dX6_setSubstitute_6 : decode cX6_setSubstitute 6 = .ok (.iconst (-1), 1) := by decide +kernel
theorem dX6_setSubstitute_7 : decode cX6_setSubstitute 7 = .ok (.if_icmp .eq 8, 3) := by decide +kernel
theorem dX6_setSubstitute_10 : decode cX6_setSubstitute 10 = .ok (.aload_n 0, 1) := by decide +kernel
theorem dX6_setSubstitute_11 : decode cX6_setSubstitute 11 = .ok (.iload_n 2, 1) := by decide +kernel
theorem dX6_setSubstitute_12 : decode cX6_setSubstitute 12 = .ok (.invokevirtual 68, 3) := by decide +kernel
theorem dX6_setSubstitute_15 : decode cX6_setSubstitute 15 = .ok (.iload_n 1, 1) := by decide +kernel
theorem dX6_setSubstitute_16 : decode cX6_setSubstitute 16 = .ok (.iload_n 2, 1) := by decide +kernel
theorem dX6_setSubstitute_17 : decode cX6_setSubstitute 17 = .ok (.if_icmp .ne 13, 3) := by decide +kernel
theorem dX6_setSubstitute_20 : decode cX6_setSubstitute 20 = .ok (.new 61, 3) := by decide +kernel
theorem dX6_setSubstitute_23 : decode cX6_setSubstitute 23 = .ok (.dup, 1) := by decide +kernel
theorem dX6_setSubstitute_24 : decode cX6_setSubstitute 24 = .ok (.ldc 88, 2) := by decide +kernel
theorem dX6_setSubstitute_26 : decode cX6_setSubstitute 26 = .ok (.invokespecial 65, 3) := by decide +kernel
theorem dX6_setSubstitute_29 : decode cX6_setSubstitute 29 = .ok (.athrow, 1) := by decide +kernel
theorem dX6_setSubstitute_30 : decode cX6_setSubstitute 30 = .ok (.aload_n 0, 1) := by decide +kernel
theorem dX6_setSubstitute_31 : decode cX6_setSubstitute 31 = .ok (.getfield 10, 3) := by decide +kernel
theorem dX6_setSubstitute_34 : decode cX6_setSubstitute 34 = .ok (.getfield 90, 3) := by decide +kernel
theorem dX6_setSubstitute_37 : decode cX6_setSubstitute 37 = .ok (.iload_n 1, 1) := by decide +kernel
theorem dX6_setSubstitute_38 : decode cX6_setSubstitute 38 = .ok (.iaload, 1) := by decide +kernel
theorem dX6_setSubstitute_39 : decode cX6_setSubstitute 39 = .ok (.istore_n 3, 1) := by decide +kernel
theorem dX6_setSubstitute_40 : decode cX6_setSubstitute 40 = .ok (.aload_n 0, 1) := by decide +kernel
theorem dX6_setSubstitute_41 : decode cX6_setSubstitute 41 = .ok (.getfield 10, 3) := by decide +kernel
theorem dX6_setSubstitute_44 : decode cX6_setSubstitute 44 = .ok (.getfield 90, 3) := by decide +kernel
theorem dX6_setSubstitute_47 : decode cX6_setSubstitute 47 = .ok (.iload_n 1, 1) := by decide +kernel
theorem dX6_setSubstitute_48 : decode cX6_setSubstitute 48 = .ok (.iload_n 2, 1) := by decide +kernel
theorem dX6_setSubstitute_49 : decode cX6_setSubstitute 49 = .ok (.iastore, 1) := by decide +kernel
theorem dX6_setSubstitute_50 : decode cX6_setSubstitute 50 = .ok (.iload_n 3, 1) := by decide +kernel
theorem dX6_setSubstitute_51 : decode cX6_setSubstitute 51 = .ok (.ireturn, 1) := by decide +kernel
theorem dX6_people_0 : decode cX6_people 0 = .ok (.aload_n 0, 1) := by decide +kernel
theorem dX6_people_1 : decode cX6_people 1 = .ok (.getfield 10, 3) := by decide +kernel
theorem dX6_people_4 : decode cX6_people 4 = .ok (.getfield 72, 3) := by decide +kernel
theorem dX6_people_7 : decode cX6_people 7 = .ok (.ireturn, 1) := by decide +kernel
set_option maxRecDepth 20000 in
theorem ggX6_standIn_X6_requirePerson : GoodIn wsX6_standIn wsX6_requirePerson := goodIn_ca (goodIn_r _ [6, 7, 8, 1, 9, 10, 11, 12, 13, 14, 22, 23, 24, 25, 26, 27, 28, 29, 30, 31, 32, 33, 34, 35] (by decide +kernel) (by decide +kernel)) (goodIn_sub (fun _ h => List.mem_cons_of_mem _ (List.mem_append_left _ (List.mem_append_right _ h))) (by decide +kernel))
set_option maxRecDepth 20000 in
theorem gX6_standIn_X6_requirePerson : GoodIn wsX6_standIn (wsV RX6 68 RX6 yX6_requirePerson wsX6_requirePerson) := goodIn_app (goodIn_of _ (by decide +kernel)) ggX6_standIn_X6_requirePerson
set_option maxRecDepth 20000 in
theorem ggX6_standIn_X4_firstPresent : GoodIn wsX6_standIn wsX4_firstPresent := goodIn_ca (goodIn_r _ [18, 14, 19, 20, 21, 10, 11, 12, 13, 31, 32, 33, 34, 35] (by decide +kernel) (by decide +kernel)) (goodIn_sub (fun _ h => List.mem_cons_of_mem _ (List.mem_append_right _ h)) (by decide +kernel))
set_option maxRecDepth 20000 in
theorem gX6_standIn_X4_firstPresent : GoodIn wsX6_standIn (wsV RX6 94 RX4 yX4_firstPresent wsX4_firstPresent) := goodIn_app (goodIn_of _ (by decide +kernel)) ggX6_standIn_X4_firstPresent
theorem dX6_standIn_0 : decode cX6_standIn 0 = .ok (.aload_n 0, 1) := by decide +kernel
theorem dX6_standIn_1 : decode cX6_standIn 1 = .ok (.iload_n 1, 1) := by decide +kernel
theorem dX6_standIn_2 : decode cX6_standIn 2 = .ok (.invokevirtual 68, 3) := by decide +kernel
theorem dX6_standIn_5 : decode cX6_standIn 5 = .ok (.aload_n 0, 1) := by decide +kernel
theorem dX6_standIn_6 : decode cX6_standIn 6 = .ok (.getfield 10, 3) := by decide +kernel
theorem dX6_standIn_9 : decode cX6_standIn 9 = .ok (.iload_n 1, 1) := by decide +kernel
theorem dX6_standIn_10 : decode cX6_standIn 10 = .ok (.invokevirtual 94, 3) := by decide +kernel
theorem dX6_standIn_13 : decode cX6_standIn 13 = .ok (.ireturn, 1) := by decide +kernel
set_option maxRecDepth 20000 in
theorem ggX6_addGroup_X6_requirePerson : GoodIn wsX6_addGroup wsX6_requirePerson := goodIn_ca (goodIn_r _ [9, 10, 11, 12, 13, 14, 15, 16, 17, 18, 26, 27, 28, 29, 30, 31, 32, 33, 34, 40, 41, 42, 43, 44] (by decide +kernel) (by decide +kernel)) (goodIn_sub (fun _ h => List.mem_cons_of_mem _ (List.mem_append_left _ (List.mem_append_right _ h))) (by decide +kernel))
set_option maxRecDepth 20000 in
theorem gX6_addGroup_X6_requirePerson : GoodIn wsX6_addGroup (wsV RX6 68 RX6 yX6_requirePerson wsX6_requirePerson) := goodIn_app (goodIn_of _ (by decide +kernel)) ggX6_addGroup_X6_requirePerson
set_option maxRecDepth 20000 in
theorem ggX6_addGroup_X3_add : GoodIn wsX6_addGroup wsX3_add := goodIn_ca (goodIn_r _ [23, 24, 25, 35, 36, 37, 38, 39] (by decide +kernel) (by decide +kernel)) (goodIn_sub (fun _ h => List.mem_cons_of_mem _ (List.mem_append_right _ h)) (by decide +kernel))
set_option maxRecDepth 20000 in
theorem gX6_addGroup_X3_add : GoodIn wsX6_addGroup (wsV RX6 101 RX3 yX3_add wsX3_add) := goodIn_app (goodIn_of _ (by decide +kernel)) ggX6_addGroup_X3_add
theorem dX6_addGroup_0 : decode cX6_addGroup 0 = .ok (.aload_n 0, 1) := by decide +kernel
theorem dX6_addGroup_1 : decode cX6_addGroup 1 = .ok (.iload_n 1, 1) := by decide +kernel
theorem dX6_addGroup_2 : decode cX6_addGroup 2 = .ok (.invokevirtual 68, 3) := by decide +kernel
theorem dX6_addGroup_5 : decode cX6_addGroup 5 = .ok (.aload_n 0, 1) := by decide +kernel
theorem dX6_addGroup_6 : decode cX6_addGroup 6 = .ok (.getfield 19, 3) := by decide +kernel
theorem dX6_addGroup_9 : decode cX6_addGroup 9 = .ok (.getfield 98, 3) := by decide +kernel
theorem dX6_addGroup_12 : decode cX6_addGroup 12 = .ok (.bipush 8, 2) := by decide +kernel
theorem dX6_addGroup_14 : decode cX6_addGroup 14 = .ok (.if_icmp .lt 13, 3) := by decide +kernel
theorem dX6_addGroup_17 : decode cX6_addGroup 17 = .ok (.new 75, 3) := by decide +kernel
theorem dX6_addGroup_20 : decode cX6_addGroup 20 = .ok (.dup, 1) := by decide +kernel
theorem dX6_addGroup_21 : decode cX6_addGroup 21 = .ok (.ldc 99, 2) := by decide +kernel
theorem dX6_addGroup_23 : decode cX6_addGroup 23 = .ok (.invokespecial 79, 3) := by decide +kernel
theorem dX6_addGroup_26 : decode cX6_addGroup 26 = .ok (.athrow, 1) := by decide +kernel
theorem dX6_addGroup_27 : decode cX6_addGroup 27 = .ok (.aload_n 0, 1) := by decide +kernel
theorem dX6_addGroup_28 : decode cX6_addGroup 28 = .ok (.getfield 19, 3) := by decide +kernel
theorem dX6_addGroup_31 : decode cX6_addGroup 31 = .ok (.iload_n 1, 1) := by decide +kernel
theorem dX6_addGroup_32 : decode cX6_addGroup 32 = .ok (.invokevirtual 101, 3) := by decide +kernel
theorem dX6_addGroup_35 : decode cX6_addGroup 35 = .ok (.ireturn, 1) := by decide +kernel
set_option maxRecDepth 20000 in
theorem ggX6_addMember_X6_requireGroup : GoodIn wsX6_addMember wsX6_requireGroup := goodIn_ca (goodIn_r _ [9, 10, 11, 3, 12, 13, 14, 15, 16, 17, 57, 58, 59, 60, 61, 62, 63, 64, 65, 66, 67, 68, 69, 70] (by decide +kernel) (by decide +kernel)) (goodIn_sub (fun _ h => List.mem_cons_of_mem _ (List.mem_append_right _ h)) (by decide +kernel))
set_option maxRecDepth 20000 in
theorem gX6_addMember_X6_requireGroup : GoodIn wsX6_addMember (wsV RX6 103 RX6 yX6_requireGroup wsX6_requireGroup) := goodIn_app (goodIn_of _ (by decide +kernel)) ggX6_addMember_X6_requireGroup
set_option maxRecDepth 20000 in
theorem ggX6_addMember_X6_requirePerson : GoodIn wsX6_addMember wsX6_requirePerson := goodIn_ca (goodIn_r _ [21, 10, 11, 22, 23, 24, 25, 26, 27, 28, 57, 58, 59, 60, 61, 62, 63, 64, 65, 71, 72, 73, 74, 75] (by decide +kernel) (by decide +kernel)) (goodIn_sub (fun _ h => List.mem_cons_of_mem _ (List.mem_append_right _ h)) (by decide +kernel))
set_option maxRecDepth 20000 in
theorem gX6_addMember_X6_requirePerson : GoodIn wsX6_addMember (wsV RX6 68 RX6 yX6_requirePerson wsX6_requirePerson) := goodIn_app (goodIn_of _ (by decide +kernel)) ggX6_addMember_X6_requirePerson
set_option maxRecDepth 20000 in
theorem ggX6_addMember_X6_contains : GoodIn wsX6_addMember wsX6_contains := goodIn_r _ [31, 32, 33, 8, 34] (by decide +kernel) (by decide +kernel)
set_option maxRecDepth 20000 in
theorem gX6_addMember_X6_contains : GoodIn wsX6_addMember (va_wsS RX6 109 yX6_contains wsX6_contains) := goodIn_app (goodIn_of _ (by decide +kernel)) ggX6_addMember_X6_contains
set_option maxRecDepth 20000 in
theorem ggX6_addMember_X6_bit : GoodIn wsX6_addMember wsX6_bit := goodIn_r _ [34] (by decide +kernel) (by decide +kernel)
set_option maxRecDepth 20000 in
theorem gX6_addMember_X6_bit : GoodIn wsX6_addMember (va_wsS RX6 115 yX6_bit wsX6_bit) := goodIn_app (goodIn_of _ (by decide +kernel)) ggX6_addMember_X6_bit
set_option maxRecDepth 20000 in
theorem ggX6_addMember_X3_setDirect : GoodIn wsX6_addMember wsX3_setDirect := goodIn_ca (goodIn_r _ [38, 39, 40, 41, 42, 15, 43, 17, 44, 45, 46, 47, 48, 49, 33, 8, 34, 30, 31, 32, 50, 51, 52, 53, 54, 55, 56, 66, 67, 68, 69, 70] (by decide +kernel) (by decide +kernel)) (goodIn_sub (fun _ h => List.mem_cons_of_mem _ (List.mem_append_left _ (List.mem_append_left _ (List.mem_append_right _ h)))) (by decide +kernel))
set_option maxRecDepth 20000 in
theorem gX6_addMember_X3_setDirect : GoodIn wsX6_addMember (wsV RX6 118 RX3 yX3_setDirect wsX3_setDirect) := goodIn_app (goodIn_of _ (by decide +kernel)) ggX6_addMember_X3_setDirect
theorem dX6_addMember_0 : decode cX6_addMember 0 = .ok (.aload_n 0, 1) := by decide +kernel
theorem dX6_addMember_1 : decode cX6_addMember 1 = .ok (.iload_n 1, 1) := by decide +kernel
theorem dX6_addMember_2 : decode cX6_addMember 2 = .ok (.invokevirtual 103, 3) := by decide +kernel
theorem dX6_addMember_5 : decode cX6_addMember 5 = .ok (.aload_n 0, 1) := by decide +kernel
theorem dX6_addMember_6 : decode cX6_addMember 6 = .ok (.iload_n 2, 1) := by decide +kernel
theorem dX6_addMember_7 : decode cX6_addMember 7 = .ok (.invokevirtual 68, 3) := by decide +kernel
theorem dX6_addMember_10 : decode cX6_addMember 10 = .ok (.aload_n 0, 1) := by decide +kernel
theorem dX6_addMember_11 : decode cX6_addMember 11 = .ok (.getfield 19, 3) := by decide +kernel
theorem dX6_addMember_14 : decode cX6_addMember 14 = .ok (.getfield 106, 3) := by decide +kernel
theorem dX6_addMember_17 : decode cX6_addMember 17 = .ok (.iload_n 1, 1) := by decide +kernel
theorem dX6_addMember_18 : decode cX6_addMember 18 = .ok (.iaload, 1) := by decide +kernel
theorem dX6_addMember_19 : decode cX6_addMember 19 = .ok (.iload_n 2, 1) := by decide +kernel
theorem dX6_addMember_20 : decode cX6_addMember 20 = .ok (.invokestatic 109, 3) := by decide +kernel
theorem dX6_addMember_23 : decode cX6_addMember 23 = .ok (.ifCond .eq 13, 3) := by decide +kernel
theorem dX6_addMember_26 : decode cX6_addMember 26 = .ok (.new 75, 3) := by decide +kernel
theorem dX6_addMember_29 : decode cX6_addMember 29 = .ok (.dup, 1) := by decide +kernel
theorem dX6_addMember_30 : decode cX6_addMember 30 = .ok (.ldc 113, 2) := by decide +kernel
theorem dX6_addMember_32 : decode cX6_addMember 32 = .ok (.invokespecial 79, 3) := by decide +kernel
theorem dX6_addMember_35 : decode cX6_addMember 35 = .ok (.athrow, 1) := by decide +kernel
theorem dX6_addMember_36 : decode cX6_addMember 36 = .ok (.aload_n 0, 1) := by decide +kernel
theorem dX6_addMember_37 : decode cX6_addMember 37 = .ok (.getfield 19, 3) := by decide +kernel
theorem dX6_addMember_40 : decode cX6_addMember 40 = .ok (.iload_n 1, 1) := by decide +kernel
theorem dX6_addMember_41 : decode cX6_addMember 41 = .ok (.aload_n 0, 1) := by decide +kernel
theorem dX6_addMember_42 : decode cX6_addMember 42 = .ok (.getfield 19, 3) := by decide +kernel
theorem dX6_addMember_45 : decode cX6_addMember 45 = .ok (.getfield 106, 3) := by decide +kernel
theorem dX6_addMember_48 : decode cX6_addMember 48 = .ok (.iload_n 1, 1) := by decide +kernel
theorem dX6_addMember_49 : decode cX6_addMember 49 = .ok (.iaload, 1) := by decide +kernel
theorem dX6_addMember_50 : decode cX6_addMember 50 = .ok (.iload_n 2, 1) := by decide +kernel
theorem dX6_addMember_51 : decode cX6_addMember 51 = .ok (.invokestatic 115, 3) := by decide +kernel
theorem dX6_addMember_54 : decode cX6_addMember 54 = .ok (.ior, 1) := by decide +kernel
theorem dX6_addMember_55 : decode cX6_addMember 55 = .ok (.invokevirtual 118, 3) := by decide +kernel
theorem dX6_addMember_58 : decode cX6_addMember 58 = .ok (.ireturn, 1) := by decide +kernel
set_option maxRecDepth 20000 in
theorem ggX6_removeMember_X6_requireGroup : GoodIn wsX6_removeMember wsX6_requireGroup := goodIn_ca (goodIn_r _ [9, 10, 11, 3, 12, 13, 14, 15, 16, 17, 57, 58, 59, 60, 61, 62, 63, 64, 65, 66, 67, 68, 69, 70] (by decide +kernel) (by decide +kernel)) (goodIn_sub (fun _ h => List.mem_cons_of_mem _ (List.mem_append_right _ h)) (by decide +kernel))
set_option maxRecDepth 20000 in
theorem gX6_removeMember_X6_requireGroup : GoodIn wsX6_removeMember (wsV RX6 103 RX6 yX6_requireGroup wsX6_requireGroup) := goodIn_app (goodIn_of _ (by decide +kernel)) ggX6_removeMember_X6_requireGroup
set_option maxRecDepth 20000 in
theorem ggX6_removeMember_X6_requirePerson : GoodIn wsX6_removeMember wsX6_requirePerson := goodIn_ca (goodIn_r _ [21, 10, 11, 22, 23, 24, 25, 26, 27, 28, 57, 58, 59, 60, 61, 62, 63, 64, 65, 71, 72, 73, 74, 75] (by decide +kernel) (by decide +kernel)) (goodIn_sub (fun _ h => List.mem_cons_of_mem _ (List.mem_append_right _ h)) (by decide +kernel))
set_option maxRecDepth 20000 in
theorem gX6_removeMember_X6_requirePerson : GoodIn wsX6_removeMember (wsV RX6 68 RX6 yX6_requirePerson wsX6_requirePerson) := goodIn_app (goodIn_of _ (by decide +kernel)) ggX6_removeMember_X6_requirePerson
set_option maxRecDepth 20000 in
theorem ggX6_removeMember_X6_contains : GoodIn wsX6_removeMember wsX6_contains := goodIn_r _ [31, 32, 33, 8, 34] (by decide +kernel) (by decide +kernel)
set_option maxRecDepth 20000 in
theorem gX6_removeMember_X6_contains : GoodIn wsX6_removeMember (va_wsS RX6 109 yX6_contains wsX6_contains) := goodIn_app (goodIn_of _ (by decide +kernel)) ggX6_removeMember_X6_contains
set_option maxRecDepth 20000 in
theorem ggX6_removeMember_X6_bit : GoodIn wsX6_removeMember wsX6_bit := goodIn_r _ [34] (by decide +kernel) (by decide +kernel)
set_option maxRecDepth 20000 in
theorem gX6_removeMember_X6_bit : GoodIn wsX6_removeMember (va_wsS RX6 115 yX6_bit wsX6_bit) := goodIn_app (goodIn_of _ (by decide +kernel)) ggX6_removeMember_X6_bit
set_option maxRecDepth 20000 in
theorem ggX6_removeMember_X3_setDirect : GoodIn wsX6_removeMember wsX3_setDirect := goodIn_ca (goodIn_r _ [38, 39, 40, 41, 42, 15, 43, 17, 44, 45, 46, 47, 48, 49, 33, 8, 34, 30, 31, 32, 50, 51, 52, 53, 54, 55, 56, 66, 67, 68, 69, 70] (by decide +kernel) (by decide +kernel)) (goodIn_sub (fun _ h => List.mem_cons_of_mem _ (List.mem_append_left _ (List.mem_append_left _ (List.mem_append_right _ h)))) (by decide +kernel))
set_option maxRecDepth 20000 in
theorem gX6_removeMember_X3_setDirect : GoodIn wsX6_removeMember (wsV RX6 118 RX3 yX3_setDirect wsX3_setDirect) := goodIn_app (goodIn_of _ (by decide +kernel)) ggX6_removeMember_X3_setDirect
theorem dX6_removeMember_0 : decode cX6_removeMember 0 = .ok (.aload_n 0, 1) := by decide +kernel
theorem dX6_removeMember_1 : decode cX6_removeMember 1 = .ok (.iload_n 1, 1) := by decide +kernel
theorem dX6_removeMember_2 : decode cX6_removeMember 2 = .ok (.invokevirtual 103, 3) := by decide +kernel
theorem dX6_removeMember_5 : decode cX6_removeMember 5 = .ok (.aload_n 0, 1) := by decide +kernel
theorem dX6_removeMember_6 : decode cX6_removeMember 6 = .ok (.iload_n 2, 1) := by decide +kernel
theorem dX6_removeMember_7 : decode cX6_removeMember 7 = .ok (.invokevirtual 68, 3) := by decide +kernel
theorem dX6_removeMember_10 : decode cX6_removeMember 10 = .ok (.aload_n 0, 1) := by decide +kernel
theorem dX6_removeMember_11 : decode cX6_removeMember 11 = .ok (.getfield 19, 3) := by decide +kernel
theorem dX6_removeMember_14 : decode cX6_removeMember 14 = .ok (.getfield 106, 3) := by decide +kernel
theorem dX6_removeMember_17 : decode cX6_removeMember 17 = .ok (.iload_n 1, 1) := by decide +kernel
theorem dX6_removeMember_18 : decode cX6_removeMember 18 = .ok (.iaload, 1) := by decide +kernel
theorem dX6_removeMember_19 : decode cX6_removeMember 19 = .ok (.iload_n 2, 1) := by decide +kernel
theorem dX6_removeMember_20 : decode cX6_removeMember 20 = .ok (.invokestatic 109, 3) := by decide +kernel
theorem dX6_removeMember_23 : decode cX6_removeMember 23 = .ok (.ifCond .ne 13, 3) := by decide +kernel
theorem dX6_removeMember_26 : decode cX6_removeMember 26 = .ok (.new 75, 3) := by decide +kernel
theorem dX6_removeMember_29 : decode cX6_removeMember 29 = .ok (.dup, 1) := by decide +kernel
theorem dX6_removeMember_30 : decode cX6_removeMember 30 = .ok (.ldc 121, 2) := by decide +kernel
theorem dX6_removeMember_32 : decode cX6_removeMember 32 = .ok (.invokespecial 79, 3) := by decide +kernel
theorem dX6_removeMember_35 : decode cX6_removeMember 35 = .ok (.athrow, 1) := by decide +kernel
theorem dX6_removeMember_36 : decode cX6_removeMember 36 = .ok (.aload_n 0, 1) := by decide +kernel
theorem dX6_removeMember_37 : decode cX6_removeMember 37 = .ok (.getfield 19, 3) := by decide +kernel
theorem dX6_removeMember_40 : decode cX6_removeMember 40 = .ok (.iload_n 1, 1) := by decide +kernel
theorem dX6_removeMember_41 : decode cX6_removeMember 41 = .ok (.aload_n 0, 1) := by decide +kernel
theorem dX6_removeMember_42 : decode cX6_removeMember 42 = .ok (.getfield 19, 3) := by decide +kernel
theorem dX6_removeMember_45 : decode cX6_removeMember 45 = .ok (.getfield 106, 3) := by decide +kernel
theorem dX6_removeMember_48 : decode cX6_removeMember 48 = .ok (.iload_n 1, 1) := by decide +kernel
theorem dX6_removeMember_49 : decode cX6_removeMember 49 = .ok (.iaload, 1) := by decide +kernel
theorem dX6_removeMember_50 : decode cX6_removeMember 50 = .ok (.iload_n 2, 1) := by decide +kernel
theorem dX6_removeMember_51 : decode cX6_removeMember 51 = .ok (.invokestatic 115, 3) := by decide +kernel
theorem dX6_removeMember_54 : decode cX6_removeMember 54 = .ok (.iconst (-1), 1) := by decide +kernel
theorem dX6_removeMember_55 : decode cX6_removeMember 55 = .ok (.ixor, 1) := by decide +kernel
theorem dX6_removeMember_56 : decode cX6_removeMember 56 = .ok (.iand, 1) := by decide +kernel
theorem dX6_removeMember_57 : decode cX6_removeMember 57 = .ok (.invokevirtual 118, 3) := by decide +kernel
theorem dX6_removeMember_60 : decode cX6_removeMember 60 = .ok (.ireturn, 1) := by decide +kernel
set_option maxRecDepth 20000 in
theorem ggX6_nest_X6_requireGroup : GoodIn wsX6_nest wsX6_requireGroup := goodIn_ca (goodIn_r _ [11, 12, 13, 5, 14, 15, 16, 17, 18, 19, 49, 50, 51, 52, 53, 54, 55, 56, 57, 58, 59, 60, 61, 62] (by decide +kernel) (by decide +kernel)) (goodIn_sub (fun _ h => List.mem_cons_of_mem _ (List.mem_append_right _ h)) (by decide +kernel))
set_option maxRecDepth 20000 in
theorem gX6_nest_X6_requireGroup : GoodIn wsX6_nest (wsV RX6 103 RX6 yX6_requireGroup wsX6_requireGroup) := goodIn_app (goodIn_of _ (by decide +kernel)) ggX6_nest_X6_requireGroup
set_option maxRecDepth 20000 in
theorem ggX6_nest_X3_findBelow : GoodIn wsX6_nest wsX3_findBelow := goodIn_ca (goodIn_r _ [23, 19, 24, 25, 10, 26, 27, 28, 29, 58, 59, 60, 61, 62] (by decide +kernel) (by decide +kernel)) (goodIn_sub (fun _ h => List.mem_cons_of_mem _ (List.mem_append_left _ (List.mem_append_left _ (List.mem_append_right _ h)))) (by decide +kernel))
set_option maxRecDepth 20000 in
theorem gX6_nest_X3_findBelow : GoodIn wsX6_nest (wsV RX6 123 RX3 yX3_findBelow wsX3_findBelow) := goodIn_app (goodIn_of _ (by decide +kernel)) ggX6_nest_X3_findBelow
set_option maxRecDepth 20000 in
theorem ggX6_nest_X6_contains : GoodIn wsX6_nest wsX6_contains := goodIn_r _ [28, 29, 25, 10, 26] (by decide +kernel) (by decide +kernel)
set_option maxRecDepth 20000 in
theorem gX6_nest_X6_contains : GoodIn wsX6_nest (va_wsS RX6 109 yX6_contains wsX6_contains) := goodIn_app (goodIn_of _ (by decide +kernel)) ggX6_nest_X6_contains
set_option maxRecDepth 20000 in
theorem ggX6_nest_X3_addNested : GoodIn wsX6_nest wsX3_addNested := goodIn_ca (goodIn_r _ [34, 24, 25, 10, 26, 35, 36, 37, 17, 38, 19, 39, 40, 41, 21, 22, 23, 27, 28, 29, 42, 43, 44, 45, 46, 47, 48, 58, 59, 60, 61, 62] (by decide +kernel) (by decide +kernel)) (goodIn_sub (fun _ h => List.mem_cons_of_mem _ (List.mem_append_left _ (List.mem_append_left _ (List.mem_append_right _ h)))) (by decide +kernel))
set_option maxRecDepth 20000 in
theorem gX6_nest_X3_addNested : GoodIn wsX6_nest (wsV RX6 136 RX3 yX3_addNested wsX3_addNested) := goodIn_app (goodIn_of _ (by decide +kernel)) ggX6_nest_X3_addNested
theorem dX6_nest_0 : decode cX6_nest 0 = .ok (.aload_n 0, 1) := by decide +kernel
theorem dX6_nest_1 : decode cX6_nest 1 = .ok (.iload_n 1, 1) := by decide +kernel
theorem dX6_nest_2 : decode cX6_nest 2 = .ok (.invokevirtual 103, 3) := by decide +kernel
theorem dX6_nest_5 : decode cX6_nest 5 = .ok (.aload_n 0, 1) := by decide +kernel
theorem dX6_nest_6 : decode cX6_nest 6 = .ok (.iload_n 2, 1) := by decide +kernel
theorem dX6_nest_7 : decode cX6_nest 7 = .ok (.invokevirtual 103, 3) := by decide +kernel
theorem dX6_nest_10 : decode cX6_nest 10 = .ok (.aload_n 0, 1) := by decide +kernel
theorem dX6_nest_11 : decode cX6_nest 11 = .ok (.getfield 19, 3) := by decide +kernel
theorem dX6_nest_14 : decode cX6_nest 14 = .ok (.iload_n 2, 1) := by decide +kernel
theorem dX6_nest_15 : decode cX6_nest 15 = .ok (.invokevirtual 123, 3) := by decide +kernel
theorem dX6_nest_18 : decode cX6_nest 18 = .ok (.iload_n 1, 1) := by decide +kernel
theorem dX6_nest_19 : decode cX6_nest 19 = .ok (.invokestatic 109, 3) := by decide +kernel
theorem dX6_nest_22 : decode cX6_nest 22 = .ok (.ifCond .eq 13, 3) := by decide +kernel
theorem dX6_nest_25 : decode cX6_nest 25 = .ok (.new 126, 3) := by decide +kernel
theorem dX6_nest_28 : decode cX6_nest 28 = .ok (.dup, 1) := by decide +kernel
theorem dX6_nest_29 : decode cX6_nest 29 = .ok (.ldc 128, 2) := by decide +kernel
theorem dX6_nest_31 : decode cX6_nest 31 = .ok (.invokespecial 130, 3) := by decide +kernel
theorem dX6_nest_34 : decode cX6_nest 34 = .ok (.athrow, 1) := by decide +kernel
theorem dX6_nest_35 : decode cX6_nest 35 = .ok (.aload_n 0, 1) := by decide +kernel
theorem dX6_nest_36 : decode cX6_nest 36 = .ok (.getfield 19, 3) := by decide +kernel
theorem dX6_nest_39 : decode cX6_nest 39 = .ok (.getfield 131, 3) := by decide +kernel
theorem dX6_nest_42 : decode cX6_nest 42 = .ok (.iload_n 1, 1) := by decide +kernel
theorem dX6_nest_43 : decode cX6_nest 43 = .ok (.iaload, 1) := by decide +kernel
theorem dX6_nest_44 : decode cX6_nest 44 = .ok (.iload_n 2, 1) := by decide +kernel
theorem dX6_nest_45 : decode cX6_nest 45 = .ok (.invokestatic 109, 3) := by decide +kernel
theorem dX6_nest_48 : decode cX6_nest 48 = .ok (.ifCond .eq 13, 3) := by decide +kernel
theorem dX6_nest_51 : decode cX6_nest 51 = .ok (.new 75, 3) := by decide +kernel
theorem dX6_nest_54 : decode cX6_nest 54 = .ok (.dup, 1) := by decide +kernel
theorem dX6_nest_55 : decode cX6_nest 55 = .ok (.ldc 134, 2) := by decide +kernel
theorem dX6_nest_57 : decode cX6_nest 57 = .ok (.invokespecial 79, 3) := by decide +kernel
theorem dX6_nest_60 : decode cX6_nest 60 = .ok (.athrow, 1) := by decide +kernel
theorem dX6_nest_61 : decode cX6_nest 61 = .ok (.aload_n 0, 1) := by decide +kernel
theorem dX6_nest_62 : decode cX6_nest 62 = .ok (.getfield 19, 3) := by decide +kernel
theorem dX6_nest_65 : decode cX6_nest 65 = .ok (.iload_n 1, 1) := by decide +kernel
theorem dX6_nest_66 : decode cX6_nest 66 = .ok (.iload_n 2, 1) := by decide +kernel
theorem dX6_nest_67 : decode cX6_nest 67 = .ok (.invokevirtual 136, 3) := by decide +kernel
theorem dX6_nest_70 : decode cX6_nest 70 = .ok (.ireturn, 1) := by decide +kernel
set_option maxRecDepth 20000 in
theorem ggX6_isMember_X6_requireGroup : GoodIn wsX6_isMember wsX6_requireGroup := goodIn_ca (goodIn_r _ [7, 8, 9, 1, 10, 11, 12, 13, 14, 15, 33, 34, 35, 36, 37, 38, 39, 40, 41, 42, 43, 44, 45, 46] (by decide +kernel) (by decide +kernel)) (goodIn_sub (fun _ h => List.mem_cons_of_mem _ (List.mem_append_right _ h)) (by decide +kernel))
set_option maxRecDepth 20000 in
theorem gX6_isMember_X6_requireGroup : GoodIn wsX6_isMember (wsV RX6 103 RX6 yX6_requireGroup wsX6_requireGroup) := goodIn_app (goodIn_of _ (by decide +kernel)) ggX6_isMember_X6_requireGroup
set_option maxRecDepth 20000 in
theorem ggX6_isMember_X6_requirePerson : GoodIn wsX6_isMember wsX6_requirePerson := goodIn_ca (goodIn_r _ [19, 8, 9, 20, 21, 22, 23, 24, 25, 26, 33, 34, 35, 36, 37, 38, 39, 40, 41, 47, 48, 49, 50, 51] (by decide +kernel) (by decide +kernel)) (goodIn_sub (fun _ h => List.mem_cons_of_mem _ (List.mem_append_right _ h)) (by decide +kernel))
set_option maxRecDepth 20000 in
theorem gX6_isMember_X6_requirePerson : GoodIn wsX6_isMember (wsV RX6 68 RX6 yX6_requirePerson wsX6_requirePerson) := goodIn_app (goodIn_of _ (by decide +kernel)) ggX6_isMember_X6_requirePerson
set_option maxRecDepth 20000 in
theorem ggX6_isMember_X6_contains : GoodIn wsX6_isMember wsX6_contains := goodIn_r _ [29, 30, 31, 6, 32] (by decide +kernel) (by decide +kernel)
set_option maxRecDepth 20000 in
theorem gX6_isMember_X6_contains : GoodIn wsX6_isMember (va_wsS RX6 109 yX6_contains wsX6_contains) := goodIn_app (goodIn_of _ (by decide +kernel)) ggX6_isMember_X6_contains
theorem dX6_isMember_0 : decode cX6_isMember 0 = .ok (.aload_n 0, 1) := by decide +kernel
theorem dX6_isMember_1 : decode cX6_isMember 1 = .ok (.iload_n 1, 1) := by decide +kernel
theorem dX6_isMember_2 : decode cX6_isMember 2 = .ok (.invokevirtual 103, 3) := by decide +kernel
theorem dX6_isMember_5 : decode cX6_isMember 5 = .ok (.aload_n 0, 1) := by decide +kernel
theorem dX6_isMember_6 : decode cX6_isMember 6 = .ok (.iload_n 2, 1) := by decide +kernel
theorem dX6_isMember_7 : decode cX6_isMember 7 = .ok (.invokevirtual 68, 3) := by decide +kernel
theorem dX6_isMember_10 : decode cX6_isMember 10 = .ok (.aload_n 0, 1) := by decide +kernel
theorem dX6_isMember_11 : decode cX6_isMember 11 = .ok (.getfield 19, 3) := by decide +kernel
theorem dX6_isMember_14 : decode cX6_isMember 14 = .ok (.getfield 139, 3) := by decide +kernel
theorem dX6_isMember_17 : decode cX6_isMember 17 = .ok (.iload_n 1, 1) := by decide +kernel
theorem dX6_isMember_18 : decode cX6_isMember 18 = .ok (.iaload, 1) := by decide +kernel
theorem dX6_isMember_19 : decode cX6_isMember 19 = .ok (.iload_n 2, 1) := by decide +kernel
theorem dX6_isMember_20 : decode cX6_isMember 20 = .ok (.invokestatic 109, 3) := by decide +kernel
theorem dX6_isMember_23 : decode cX6_isMember 23 = .ok (.ireturn, 1) := by decide +kernel
set_option maxRecDepth 20000 in
theorem ggX6_members_X6_requireGroup : GoodIn wsX6_members wsX6_requireGroup := goodIn_ca (goodIn_r _ [7, 8, 9, 1, 10, 11, 12, 13, 14, 15, 23, 24, 25, 26, 27, 28, 29, 30, 31, 32, 33, 34, 35, 36] (by decide +kernel) (by decide +kernel)) (goodIn_sub (fun _ h => List.mem_cons_of_mem _ (List.mem_append_right _ h)) (by decide +kernel))
set_option maxRecDepth 20000 in
theorem gX6_members_X6_requireGroup : GoodIn wsX6_members (wsV RX6 103 RX6 yX6_requireGroup wsX6_requireGroup) := goodIn_app (goodIn_of _ (by decide +kernel)) ggX6_members_X6_requireGroup
set_option maxRecDepth 20000 in
theorem ggX6_members_J6_bitCount_0f7a4 : GoodIn wsX6_members wsJ6_bitCount_0f7a4 := goodIn_r _ [19, 20, 21, 22] (by decide +kernel) (by decide +kernel)
set_option maxRecDepth 20000 in
theorem gX6_members_J6_bitCount_0f7a4 : GoodIn wsX6_members (va_wsS RX6 142 yJ6_bitCount_0f7a4 wsJ6_bitCount_0f7a4) := goodIn_app (goodIn_of _ (by decide +kernel)) ggX6_members_J6_bitCount_0f7a4
theorem dX6_members_0 : decode cX6_members 0 = .ok (.aload_n 0, 1) := by decide +kernel
theorem dX6_members_1 : decode cX6_members 1 = .ok (.iload_n 1, 1) := by decide +kernel
theorem dX6_members_2 : decode cX6_members 2 = .ok (.invokevirtual 103, 3) := by decide +kernel
theorem dX6_members_5 : decode cX6_members 5 = .ok (.aload_n 0, 1) := by decide +kernel
theorem dX6_members_6 : decode cX6_members 6 = .ok (.getfield 19, 3) := by decide +kernel
theorem dX6_members_9 : decode cX6_members 9 = .ok (.getfield 139, 3) := by decide +kernel
theorem dX6_members_12 : decode cX6_members 12 = .ok (.iload_n 1, 1) := by decide +kernel
theorem dX6_members_13 : decode cX6_members 13 = .ok (.iaload, 1) := by decide +kernel
theorem dX6_members_14 : decode cX6_members 14 = .ok (.invokestatic 142, 3) := by decide +kernel
theorem dX6_members_17 : decode cX6_members 17 = .ok (.ireturn, 1) := by decide +kernel
set_option maxRecDepth 20000 in
theorem ggX6_addRight_X6_requirePerson : GoodIn wsX6_addRight wsX6_requirePerson := goodIn_ca (goodIn_r _ [11, 12, 13, 14, 15, 16, 17, 18, 19, 20, 30, 31, 32, 33, 34, 35, 36, 37, 38, 44, 45, 46, 47, 48] (by decide +kernel) (by decide +kernel)) (goodIn_sub (fun _ h => List.mem_cons_of_mem _ (List.mem_append_left _ (List.mem_append_right _ h))) (by decide +kernel))
set_option maxRecDepth 20000 in
theorem gX6_addRight_X6_requirePerson : GoodIn wsX6_addRight (wsV RX6 68 RX6 yX6_requirePerson wsX6_requirePerson) := goodIn_app (goodIn_of _ (by decide +kernel)) ggX6_addRight_X6_requirePerson
set_option maxRecDepth 20000 in
theorem ggX6_addRight_X5_add : GoodIn wsX6_addRight wsX5_add := goodIn_ca (goodIn_r _ [25, 26, 27, 28, 29, 39, 40, 41, 42, 43] (by decide +kernel) (by decide +kernel)) (goodIn_sub (fun _ h => List.mem_cons_of_mem _ (List.mem_append_right _ h)) (by decide +kernel))
set_option maxRecDepth 20000 in
theorem gX6_addRight_X5_add : GoodIn wsX6_addRight (wsV RX6 152 RX5 yX5_add wsX5_add) := goodIn_app (goodIn_of _ (by decide +kernel)) ggX6_addRight_X5_add
theorem dX6_addRight_0 : decode cX6_addRight 0 = .ok (.iload_n 1, 1) := by decide +kernel
theorem dX6_addRight_1 : decode cX6_addRight 1 = .ok (.iconst 1, 1) := by decide +kernel
theorem dX6_addRight_2 : decode cX6_addRight 2 = .ok (.if_icmp .lt 9, 3) := by decide +kernel
theorem dX6_addRight_5 : decode cX6_addRight 5 = .ok (.iload_n 1, 1) := by decide +kernel
theorem dX6_addRight_6 : decode cX6_addRight 6 = .ok (.bipush 9, 2) := by decide +kernel
theorem dX6_addRight_8 : decode cX6_addRight 8 = .ok (.if_icmp .le 13, 3) := by decide +kernel
theorem dX6_addRight_11 : decode cX6_addRight 11 = .ok (.new 61, 3) := by decide +kernel
theorem dX6_addRight_14 : decode cX6_addRight 14 = .ok (.dup, 1) := by decide +kernel
theorem dX6_addRight_15 : decode cX6_addRight 15 = .ok (.ldc 147, 2) := by decide +kernel
theorem dX6_addRight_17 : decode cX6_addRight 17 = .ok (.invokespecial 65, 3) := by decide +kernel
theorem dX6_addRight_20 : decode cX6_addRight 20 = .ok (.athrow, 1) := by decide +kernel
theorem dX6_addRight_21 : decode cX6_addRight 21 = .ok (.aload_n 0, 1) := by decide +kernel
theorem dX6_addRight_22 : decode cX6_addRight 22 = .ok (.iload_n 2, 1) := by decide +kernel
theorem dX6_addRight_23 : decode cX6_addRight 23 = .ok (.invokevirtual 68, 3) := by decide +kernel
theorem dX6_addRight_26 : decode cX6_addRight 26 = .ok (.aload_n 0, 1) := by decide +kernel
theorem dX6_addRight_27 : decode cX6_addRight 27 = .ok (.getfield 26, 3) := by decide +kernel
theorem dX6_addRight_30 : decode cX6_addRight 30 = .ok (.getfield 149, 3) := by decide +kernel
theorem dX6_addRight_33 : decode cX6_addRight 33 = .ok (.bipush 10, 2) := by decide +kernel
theorem dX6_addRight_35 : decode cX6_addRight 35 = .ok (.if_icmp .lt 13, 3) := by decide +kernel
theorem dX6_addRight_38 : decode cX6_addRight 38 = .ok (.new 75, 3) := by decide +kernel
theorem dX6_addRight_41 : decode cX6_addRight 41 = .ok (.dup, 1) := by decide +kernel
theorem dX6_addRight_42 : decode cX6_addRight 42 = .ok (.ldc 150, 2) := by decide +kernel
theorem dX6_addRight_44 : decode cX6_addRight 44 = .ok (.invokespecial 79, 3) := by decide +kernel
theorem dX6_addRight_47 : decode cX6_addRight 47 = .ok (.athrow, 1) := by decide +kernel
theorem dX6_addRight_48 : decode cX6_addRight 48 = .ok (.aload_n 0, 1) := by decide +kernel
theorem dX6_addRight_49 : decode cX6_addRight 49 = .ok (.getfield 26, 3) := by decide +kernel
theorem dX6_addRight_52 : decode cX6_addRight 52 = .ok (.iload_n 1, 1) := by decide +kernel
theorem dX6_addRight_53 : decode cX6_addRight 53 = .ok (.iload_n 2, 1) := by decide +kernel
theorem dX6_addRight_54 : decode cX6_addRight 54 = .ok (.iload_n 3, 1) := by decide +kernel
theorem dX6_addRight_55 : decode cX6_addRight 55 = .ok (.invokevirtual 152, 3) := by decide +kernel
theorem dX6_addRight_58 : decode cX6_addRight 58 = .ok (.ireturn, 1) := by decide +kernel
set_option maxRecDepth 20000 in
theorem ggX6_grantPerson_X6_requireRight : GoodIn wsX6_grantPerson wsX6_requireRight := goodIn_ca (goodIn_r _ [9, 10, 11, 1, 12, 13, 14, 15, 16, 17, 58, 59, 60, 61, 62, 63, 64, 65, 66, 67, 68, 69, 70, 71] (by decide +kernel) (by decide +kernel)) (goodIn_sub (fun _ h => List.mem_cons_of_mem _ (List.mem_append_left _ (List.mem_append_right _ h))) (by decide +kernel))
set_option maxRecDepth 20000 in
theorem gX6_grantPerson_X6_requireRight : GoodIn wsX6_grantPerson (wsV RX6 155 RX6 yX6_requireRight wsX6_requireRight) := goodIn_app (goodIn_of _ (by decide +kernel)) ggX6_grantPerson_X6_requireRight
set_option maxRecDepth 20000 in
theorem ggX6_grantPerson_X6_requirePerson : GoodIn wsX6_grantPerson wsX6_requirePerson := goodIn_ca (goodIn_r _ [21, 10, 11, 22, 23, 24, 25, 26, 27, 28, 58, 59, 60, 61, 62, 63, 64, 65, 66, 72, 73, 74, 75, 76] (by decide +kernel) (by decide +kernel)) (goodIn_sub (fun _ h => List.mem_cons_of_mem _ (List.mem_append_left _ (List.mem_append_right _ h))) (by decide +kernel))
set_option maxRecDepth 20000 in
theorem gX6_grantPerson_X6_requirePerson : GoodIn wsX6_grantPerson (wsV RX6 68 RX6 yX6_requirePerson wsX6_requirePerson) := goodIn_app (goodIn_of _ (by decide +kernel)) ggX6_grantPerson_X6_requirePerson
set_option maxRecDepth 20000 in
theorem ggX6_grantPerson_X6_requireRoomForGrant : GoodIn wsX6_grantPerson wsX6_requireRoomForGrant := goodIn_ca (goodIn_ca (goodIn_r _ [32, 33, 34, 3, 35, 36, 37, 38, 39, 40, 41, 42, 43, 44, 45, 46, 47, 48, 49, 58, 59, 60, 61, 62, 63, 64, 65, 66, 77, 78, 79, 80, 81, 82, 83] (by decide +kernel) (by decide +kernel)) (goodIn_sub (fun _ h => List.mem_cons_of_mem _ (List.mem_append_right _ h)) (by decide +kernel))) (goodIn_sub (fun _ h => List.mem_cons_of_mem _ (List.mem_append_left _ (List.mem_append_left _ (List.mem_append_right _ h)))) (by decide +kernel))
set_option maxRecDepth 20000 in
theorem gX6_grantPerson_X6_requireRoomForGrant : GoodIn wsX6_grantPerson (wsV RX6 158 RX6 yX6_requireRoomForGrant wsX6_requireRoomForGrant) := goodIn_app (goodIn_of _ (by decide +kernel)) ggX6_grantPerson_X6_requireRoomForGrant
set_option maxRecDepth 20000 in
theorem ggX6_grantPerson_X6_bit : GoodIn wsX6_grantPerson wsX6_bit := goodIn_r _ [52] (by decide +kernel) (by decide +kernel)
set_option maxRecDepth 20000 in
theorem gX6_grantPerson_X6_bit : GoodIn wsX6_grantPerson (va_wsS RX6 115 yX6_bit wsX6_bit) := goodIn_app (goodIn_of _ (by decide +kernel)) ggX6_grantPerson_X6_bit
set_option maxRecDepth 20000 in
theorem ggX6_grantPerson_X2_add : GoodIn wsX6_grantPerson wsX2_add := goodIn_ca (goodIn_r _ [56, 48, 41, 42, 43, 49, 57, 77, 78, 79, 80, 81, 82, 83] (by decide +kernel) (by decide +kernel)) (goodIn_sub (fun _ h => List.mem_cons_of_mem _ (List.mem_append_left _ (List.mem_append_left _ (List.mem_append_right _ h)))) (by decide +kernel))
set_option maxRecDepth 20000 in
theorem gX6_grantPerson_X2_add : GoodIn wsX6_grantPerson (wsV RX6 165 RX2 yX2_add wsX2_add) := goodIn_app (goodIn_of _ (by decide +kernel)) ggX6_grantPerson_X2_add
theorem dX6_grantPerson_0 : decode cX6_grantPerson 0 = .ok (.aload_n 0, 1) := by decide +kernel
theorem dX6_grantPerson_1 : decode cX6_grantPerson 1 = .ok (.iload_n 1, 1) := by decide +kernel
theorem dX6_grantPerson_2 : decode cX6_grantPerson 2 = .ok (.invokevirtual 155, 3) := by decide +kernel
theorem dX6_grantPerson_5 : decode cX6_grantPerson 5 = .ok (.aload_n 0, 1) := by decide +kernel
theorem dX6_grantPerson_6 : decode cX6_grantPerson 6 = .ok (.iload_n 2, 1) := by decide +kernel
theorem dX6_grantPerson_7 : decode cX6_grantPerson 7 = .ok (.invokevirtual 68, 3) := by decide +kernel
theorem dX6_grantPerson_10 : decode cX6_grantPerson 10 = .ok (.aload_n 0, 1) := by decide +kernel
theorem dX6_grantPerson_11 : decode cX6_grantPerson 11 = .ok (.iload_n 1, 1) := by decide +kernel
theorem dX6_grantPerson_12 : decode cX6_grantPerson 12 = .ok (.iload_n 2, 1) := by decide +kernel
theorem dX6_grantPerson_13 : decode cX6_grantPerson 13 = .ok (.iconst (-1), 1) := by decide +kernel
theorem dX6_grantPerson_14 : decode cX6_grantPerson 14 = .ok (.invokevirtual 158, 3) := by decide +kernel
theorem dX6_grantPerson_17 : decode cX6_grantPerson 17 = .ok (.aload_n 0, 1) := by decide +kernel
theorem dX6_grantPerson_18 : decode cX6_grantPerson 18 = .ok (.getfield 26, 3) := by decide +kernel
theorem dX6_grantPerson_21 : decode cX6_grantPerson 21 = .ok (.getfield 162, 3) := by decide +kernel
theorem dX6_grantPerson_24 : decode cX6_grantPerson 24 = .ok (.iload_n 1, 1) := by decide +kernel
theorem dX6_grantPerson_25 : decode cX6_grantPerson 25 = .ok (.dup2, 1) := by decide +kernel
theorem dX6_grantPerson_26 : decode cX6_grantPerson 26 = .ok (.iaload, 1) := by decide +kernel
theorem dX6_grantPerson_27 : decode cX6_grantPerson 27 = .ok (.iload_n 2, 1) := by decide +kernel
theorem dX6_grantPerson_28 : decode cX6_grantPerson 28 = .ok (.invokestatic 115, 3) := by decide +kernel
theorem dX6_grantPerson_31 : decode cX6_grantPerson 31 = .ok (.iconst (-1), 1) := by decide +kernel
theorem dX6_grantPerson_32 : decode cX6_grantPerson 32 = .ok (.ixor, 1) := by decide +kernel
theorem dX6_grantPerson_33 : decode cX6_grantPerson 33 = .ok (.iand, 1) := by decide +kernel
theorem dX6_grantPerson_34 : decode cX6_grantPerson 34 = .ok (.iastore, 1) := by decide +kernel
theorem dX6_grantPerson_35 : decode cX6_grantPerson 35 = .ok (.aload_n 0, 1) := by decide +kernel
theorem dX6_grantPerson_36 : decode cX6_grantPerson 36 = .ok (.getfield 33, 3) := by decide +kernel
theorem dX6_grantPerson_39 : decode cX6_grantPerson 39 = .ok (.iload_n 1, 1) := by decide +kernel
theorem dX6_grantPerson_40 : decode cX6_grantPerson 40 = .ok (.iload_n 2, 1) := by decide +kernel
theorem dX6_grantPerson_41 : decode cX6_grantPerson 41 = .ok (.iconst (-1), 1) := by decide +kernel
theorem dX6_grantPerson_42 : decode cX6_grantPerson 42 = .ok (.aload_n 0, 1) := by decide +kernel
theorem dX6_grantPerson_43 : decode cX6_grantPerson 43 = .ok (.getfield 51, 3) := by decide +kernel
theorem dX6_grantPerson_46 : decode cX6_grantPerson 46 = .ok (.invokevirtual 165, 3) := by decide +kernel
theorem dX6_grantPerson_49 : decode cX6_grantPerson 49 = .ok (.ireturn, 1) := by decide +kernel
set_option maxRecDepth 20000 in
theorem ggX6_grantGroup_X6_requireRight : GoodIn wsX6_grantGroup wsX6_requireRight := goodIn_ca (goodIn_r _ [7, 8, 9, 10, 11, 12, 13, 14, 15, 16, 54, 55, 56, 57, 58, 59, 60, 61, 62, 63, 64, 65, 66, 67] (by decide +kernel) (by decide +kernel)) (goodIn_sub (fun _ h => List.mem_cons_of_mem _ (List.mem_append_left _ (List.mem_append_left _ (List.mem_append_right _ h)))) (by decide +kernel))
set_option maxRecDepth 20000 in
theorem gX6_grantGroup_X6_requireRight : GoodIn wsX6_grantGroup (wsV RX6 155 RX6 yX6_requireRight wsX6_requireRight) := goodIn_app (goodIn_of _ (by decide +kernel)) ggX6_grantGroup_X6_requireRight
set_option maxRecDepth 20000 in
theorem ggX6_grantGroup_X6_requireGroup : GoodIn wsX6_grantGroup wsX6_requireGroup := goodIn_ca (goodIn_r _ [20, 8, 9, 21, 22, 23, 24, 25, 26, 27, 54, 55, 56, 57, 58, 59, 60, 61, 62, 68, 69, 70, 71, 72] (by decide +kernel) (by decide +kernel)) (goodIn_sub (fun _ h => List.mem_cons_of_mem _ (List.mem_append_left _ (List.mem_append_left _ (List.mem_append_right _ h)))) (by decide +kernel))
set_option maxRecDepth 20000 in
theorem gX6_grantGroup_X6_requireGroup : GoodIn wsX6_grantGroup (wsV RX6 103 RX6 yX6_requireGroup wsX6_requireGroup) := goodIn_app (goodIn_of _ (by decide +kernel)) ggX6_grantGroup_X6_requireGroup
set_option maxRecDepth 20000 in
theorem ggX6_grantGroup_X6_requireRoomForGrant : GoodIn wsX6_grantGroup wsX6_requireRoomForGrant := goodIn_ca (goodIn_ca (goodIn_r _ [31, 32, 33, 1, 34, 35, 36, 37, 38, 39, 40, 41, 42, 43, 44, 45, 46, 47, 48, 54, 55, 56, 57, 58, 59, 60, 61, 62, 73, 74, 75, 76, 77, 78, 79] (by decide +kernel) (by decide +kernel)) (goodIn_sub (fun _ h => List.mem_cons_of_mem _ (List.mem_append_left _ (List.mem_append_right _ h))) (by decide +kernel))) (goodIn_sub (fun _ h => List.mem_cons_of_mem _ (List.mem_append_right _ h)) (by decide +kernel))
set_option maxRecDepth 20000 in
theorem gX6_grantGroup_X6_requireRoomForGrant : GoodIn wsX6_grantGroup (wsV RX6 158 RX6 yX6_requireRoomForGrant wsX6_requireRoomForGrant) := goodIn_app (goodIn_of _ (by decide +kernel)) ggX6_grantGroup_X6_requireRoomForGrant
set_option maxRecDepth 20000 in
theorem ggX6_grantGroup_X2_add : GoodIn wsX6_grantGroup wsX2_add := goodIn_ca (goodIn_r _ [52, 47, 40, 41, 42, 48, 53, 73, 74, 75, 76, 77, 78, 79] (by decide +kernel) (by decide +kernel)) (goodIn_sub (fun _ h => List.mem_cons_of_mem _ (List.mem_append_right _ h)) (by decide +kernel))
set_option maxRecDepth 20000 in
theorem gX6_grantGroup_X2_add : GoodIn wsX6_grantGroup (wsV RX6 165 RX2 yX2_add wsX2_add) := goodIn_app (goodIn_of _ (by decide +kernel)) ggX6_grantGroup_X2_add
theorem dX6_grantGroup_0 : decode cX6_grantGroup 0 = .ok (.aload_n 0, 1) := by decide +kernel
theorem dX6_grantGroup_1 : decode cX6_grantGroup 1 = .ok (.iload_n 1, 1) := by decide +kernel
theorem dX6_grantGroup_2 : decode cX6_grantGroup 2 = .ok (.invokevirtual 155, 3) := by decide +kernel
theorem dX6_grantGroup_5 : decode cX6_grantGroup 5 = .ok (.aload_n 0, 1) := by decide +kernel
theorem dX6_grantGroup_6 : decode cX6_grantGroup 6 = .ok (.iload_n 2, 1) := by decide +kernel
theorem dX6_grantGroup_7 : decode cX6_grantGroup 7 = .ok (.invokevirtual 103, 3) := by decide +kernel
theorem dX6_grantGroup_10 : decode cX6_grantGroup 10 = .ok (.aload_n 0, 1) := by decide +kernel
theorem dX6_grantGroup_11 : decode cX6_grantGroup 11 = .ok (.iload_n 1, 1) := by decide +kernel
theorem dX6_grantGroup_12 : decode cX6_grantGroup 12 = .ok (.iconst (-1), 1) := by decide +kernel
theorem dX6_grantGroup_13 : decode cX6_grantGroup 13 = .ok (.iload_n 2, 1) := by decide +kernel
theorem dX6_grantGroup_14 : decode cX6_grantGroup 14 = .ok (.invokevirtual 158, 3) := by decide +kernel
theorem dX6_grantGroup_17 : decode cX6_grantGroup 17 = .ok (.aload_n 0, 1) := by decide +kernel
theorem dX6_grantGroup_18 : decode cX6_grantGroup 18 = .ok (.getfield 33, 3) := by decide +kernel
theorem dX6_grantGroup_21 : decode cX6_grantGroup 21 = .ok (.iload_n 1, 1) := by decide +kernel
theorem dX6_grantGroup_22 : decode cX6_grantGroup 22 = .ok (.iconst (-1), 1) := by decide +kernel
theorem dX6_grantGroup_23 : decode cX6_grantGroup 23 = .ok (.iload_n 2, 1) := by decide +kernel
theorem dX6_grantGroup_24 : decode cX6_grantGroup 24 = .ok (.aload_n 0, 1) := by decide +kernel
theorem dX6_grantGroup_25 : decode cX6_grantGroup 25 = .ok (.getfield 51, 3) := by decide +kernel
theorem dX6_grantGroup_28 : decode cX6_grantGroup 28 = .ok (.invokevirtual 165, 3) := by decide +kernel
theorem dX6_grantGroup_31 : decode cX6_grantGroup 31 = .ok (.ireturn, 1) := by decide +kernel
set_option maxRecDepth 20000 in
theorem ggX6_use_X6_requirePerson : GoodIn wsX6_use wsX6_requirePerson := goodIn_ca (goodIn_r _ [11, 12, 13, 14, 15, 16, 17, 18, 19, 20, 68, 69, 70, 71, 72, 73, 74, 75, 76, 84, 85, 86, 87, 88] (by decide +kernel) (by decide +kernel)) (goodIn_sub (fun _ h => List.mem_cons_of_mem _ (List.mem_append_right _ h)) (by decide +kernel))
set_option maxRecDepth 20000 in
theorem gX6_use_X6_requirePerson : GoodIn wsX6_use (wsV RX6 68 RX6 yX6_requirePerson wsX6_requirePerson) := goodIn_app (goodIn_of _ (by decide +kernel)) ggX6_use_X6_requirePerson
set_option maxRecDepth 20000 in
theorem ggX6_use_X6_requireRight : GoodIn wsX6_use wsX6_requireRight := goodIn_ca (goodIn_r _ [24, 12, 13, 25, 26, 27, 28, 29, 30, 31, 68, 69, 70, 71, 72, 73, 74, 75, 76, 89, 90, 91, 92, 93] (by decide +kernel) (by decide +kernel)) (goodIn_sub (fun _ h => List.mem_cons_of_mem _ (List.mem_append_right _ h)) (by decide +kernel))
set_option maxRecDepth 20000 in
theorem gX6_use_X6_requireRight : GoodIn wsX6_use (wsV RX6 155 RX6 yX6_requireRight wsX6_requireRight) := goodIn_app (goodIn_of _ (by decide +kernel)) ggX6_use_X6_requireRight
set_option maxRecDepth 20000 in
theorem ggX6_use_X6_findHolders : GoodIn wsX6_use wsX6_findHolders := goodIn_ca (goodIn_r _ [35, 3, 4, 25, 36, 37, 38, 39, 40, 41, 42, 43, 44, 45, 46, 10, 47, 48, 49, 50, 51, 52, 53, 54, 55, 56, 57, 58, 59, 60, 61, 62, 63, 64, 68, 69, 70, 71, 72, 73, 74, 75, 76, 77, 78, 79, 80, 81, 82, 83, 89, 90, 91, 92, 93, 94, 95, 96, 97, 98] (by decide +kernel) (by decide +kernel)) (goodIn_sub (fun _ h => List.mem_cons_of_mem _ (List.mem_append_left _ (List.mem_append_right _ h))) (by decide +kernel))
set_option maxRecDepth 20000 in
theorem gX6_use_X6_findHolders : GoodIn wsX6_use (wsV RX6 168 RX6 yX6_findHolders wsX6_findHolders) := goodIn_app (goodIn_of _ (by decide +kernel)) ggX6_use_X6_findHolders
set_option maxRecDepth 20000 in
theorem ggX6_use_X6_contains : GoodIn wsX6_use wsX6_contains := goodIn_r _ [67, 62, 63, 10, 64] (by decide +kernel) (by decide +kernel)
set_option maxRecDepth 20000 in
theorem gX6_use_X6_contains : GoodIn wsX6_use (va_wsS RX6 109 yX6_contains wsX6_contains) := goodIn_app (goodIn_of _ (by decide +kernel)) ggX6_use_X6_contains
set_option maxRecDepth 20000 in
theorem ggX6_use_X2_isActiveOf : GoodIn wsX6_use wsX2_isActiveOf := goodIn_ca (goodIn_r _ [41, 42, 43, 77, 78, 79, 80, 81, 82, 83] (by decide +kernel) (by decide +kernel)) (goodIn_sub (fun _ h => List.mem_cons_of_mem _ (List.mem_append_left _ (List.mem_append_right _ h))) (by decide +kernel))
set_option maxRecDepth 20000 in
theorem gX6_use_X2_isActiveOf : GoodIn wsX6_use (wsV RX6 174 RX2 yX2_isActiveOf wsX2_isActiveOf) := goodIn_app (goodIn_of _ (by decide +kernel)) ggX6_use_X2_isActiveOf
set_option maxRecDepth 20000 in
theorem ggX6_use_X6_findReached : GoodIn wsX6_use wsX6_findReached := goodIn_ca (goodIn_r _ [47, 3, 48, 49, 50, 51, 52, 53, 54, 55, 56, 57, 58, 59, 60, 61, 62, 63, 10, 64, 68, 69, 70, 71, 72, 73, 74, 75, 76, 77, 78, 79, 80, 81, 82, 83, 94, 95, 96, 97, 98] (by decide +kernel) (by decide +kernel)) (goodIn_sub (fun _ h => List.mem_cons_of_mem _ (List.mem_append_left _ (List.mem_append_right _ h))) (by decide +kernel))
set_option maxRecDepth 20000 in
theorem gX6_use_X6_findReached : GoodIn wsX6_use (wsV RX6 177 RX6 yX6_findReached wsX6_findReached) := goodIn_app (goodIn_of _ (by decide +kernel)) ggX6_use_X6_findReached
theorem dX6_use_0 : decode cX6_use 0 = .ok (.aload_n 0, 1) := by decide +kernel
theorem dX6_use_1 : decode cX6_use 1 = .ok (.iload_n 1, 1) := by decide +kernel
theorem dX6_use_2 : decode cX6_use 2 = .ok (.invokevirtual 68, 3) := by decide +kernel
theorem dX6_use_5 : decode cX6_use 5 = .ok (.aload_n 0, 1) := by decide +kernel
theorem dX6_use_6 : decode cX6_use 6 = .ok (.iload_n 2, 1) := by decide +kernel
theorem dX6_use_7 : decode cX6_use 7 = .ok (.invokevirtual 155, 3) := by decide +kernel
theorem dX6_use_10 : decode cX6_use 10 = .ok (.aload_n 0, 1) := by decide +kernel
theorem dX6_use_11 : decode cX6_use 11 = .ok (.iload_n 2, 1) := by decide +kernel
theorem dX6_use_12 : decode cX6_use 12 = .ok (.iconst (-1), 1) := by decide +kernel
theorem dX6_use_13 : decode cX6_use 13 = .ok (.invokevirtual 168, 3) := by decide +kernel
theorem dX6_use_16 : decode cX6_use 16 = .ok (.iload_n 1, 1) := by decide +kernel
theorem dX6_use_17 : decode cX6_use 17 = .ok (.invokestatic 109, 3) := by decide +kernel
theorem dX6_use_20 : decode cX6_use 20 = .ok (.ifCond .ne 13, 3) := by decide +kernel
theorem dX6_use_23 : decode cX6_use 23 = .ok (.new 75, 3) := by decide +kernel
theorem dX6_use_26 : decode cX6_use 26 = .ok (.dup, 1) := by decide +kernel
theorem dX6_use_27 : decode cX6_use 27 = .ok (.ldc 171, 2) := by decide +kernel
theorem dX6_use_29 : decode cX6_use 29 = .ok (.invokespecial 79, 3) := by decide +kernel
theorem dX6_use_32 : decode cX6_use 32 = .ok (.athrow, 1) := by decide +kernel
theorem dX6_use_33 : decode cX6_use 33 = .ok (.iconst 0, 1) := by decide +kernel
theorem dX6_use_34 : decode cX6_use 34 = .ok (.istore_n 3, 1) := by decide +kernel
theorem dX6_use_35 : decode cX6_use 35 = .ok (.iconst 0, 1) := by decide +kernel
theorem dX6_use_36 : decode cX6_use 36 = .ok (.istore 4, 2) := by decide +kernel
theorem dX6_use_38 : decode cX6_use 38 = .ok (.iload 4, 2) := by decide +kernel
theorem dX6_use_40 : decode cX6_use 40 = .ok (.aload_n 0, 1) := by decide +kernel
theorem dX6_use_41 : decode cX6_use 41 = .ok (.getfield 33, 3) := by decide +kernel
theorem dX6_use_44 : decode cX6_use 44 = .ok (.getfield 173, 3) := by decide +kernel
theorem dX6_use_47 : decode cX6_use 47 = .ok (.if_icmp .ge 52, 3) := by decide +kernel
theorem dX6_use_50 : decode cX6_use 50 = .ok (.aload_n 0, 1) := by decide +kernel
theorem dX6_use_51 : decode cX6_use 51 = .ok (.getfield 33, 3) := by decide +kernel
theorem dX6_use_54 : decode cX6_use 54 = .ok (.iload 4, 2) := by decide +kernel
theorem dX6_use_56 : decode cX6_use 56 = .ok (.iload_n 2, 1) := by decide +kernel
theorem dX6_use_57 : decode cX6_use 57 = .ok (.invokevirtual 174, 3) := by decide +kernel
theorem dX6_use_60 : decode cX6_use 60 = .ok (.ifCond .eq 33, 3) := by decide +kernel
theorem dX6_use_63 : decode cX6_use 63 = .ok (.aload_n 0, 1) := by decide +kernel
theorem dX6_use_64 : decode cX6_use 64 = .ok (.iload 4, 2) := by decide +kernel
theorem dX6_use_66 : decode cX6_use 66 = .ok (.invokevirtual 177, 3) := by decide +kernel
theorem dX6_use_69 : decode cX6_use 69 = .ok (.iload_n 1, 1) := by decide +kernel
theorem dX6_use_70 : decode cX6_use 70 = .ok (.invokestatic 109, 3) := by decide +kernel
theorem dX6_use_73 : decode cX6_use 73 = .ok (.ifCond .eq 20, 3) := by decide +kernel
theorem dX6_use_76 : decode cX6_use 76 = .ok (.aload_n 0, 1) := by decide +kernel
theorem dX6_use_77 : decode cX6_use 77 = .ok (.getfield 33, 3) := by decide +kernel
theorem dX6_use_80 : decode cX6_use 80 = .ok (.getfield 180, 3) := by decide +kernel
theorem dX6_use_83 : decode cX6_use 83 = .ok (.iload 4, 2) := by decide +kernel
theorem dX6_use_85 : decode cX6_use 85 = .ok (.aload_n 0, 1) := by decide +kernel
theorem dX6_use_86 : decode cX6_use 86 = .ok (.getfield 51, 3) := by decide +kernel
theorem dX6_use_89 : decode cX6_use 89 = .ok (.iastore, 1) := by decide +kernel
theorem dX6_use_90 : decode cX6_use 90 = .ok (.iinc 3 1, 3) := by decide +kernel
theorem dX6_use_93 : decode cX6_use 93 = .ok (.iinc 4 1, 3) := by decide +kernel
theorem dX6_use_96 : decode cX6_use 96 = .ok (.goto (-58), 3) := by decide +kernel
theorem dX6_use_99 : decode cX6_use 99 = .ok (.iload_n 3, 1) := by decide +kernel
theorem dX6_use_100 : decode cX6_use 100 = .ok (.ireturn, 1) := by decide +kernel
theorem dX6_grants_0 : decode cX6_grants 0 = .ok (.aload_n 0, 1) := by decide +kernel
theorem dX6_grants_1 : decode cX6_grants 1 = .ok (.getfield 33, 3) := by decide +kernel
theorem dX6_grants_4 : decode cX6_grants 4 = .ok (.getfield 173, 3) := by decide +kernel
theorem dX6_grants_7 : decode cX6_grants 7 = .ok (.ireturn, 1) := by decide +kernel
set_option maxRecDepth 20000 in
theorem ggX6_stateOf_X6_requireGrant : GoodIn wsX6_stateOf wsX6_requireGrant := goodIn_ca (goodIn_r _ [7, 8, 9, 1, 10, 11, 12, 13, 14, 15, 16, 17, 18, 19, 20, 21, 22, 23, 24, 25, 26, 27, 28, 29, 30, 31] (by decide +kernel) (by decide +kernel)) (goodIn_sub (fun _ h => List.mem_cons_of_mem _ (List.mem_append_right _ h)) (by decide +kernel))
set_option maxRecDepth 20000 in
theorem gX6_stateOf_X6_requireGrant : GoodIn wsX6_stateOf (wsV RX6 183 RX6 yX6_requireGrant wsX6_requireGrant) := goodIn_app (goodIn_of _ (by decide +kernel)) ggX6_stateOf_X6_requireGrant
theorem dX6_stateOf_0 : decode cX6_stateOf 0 = .ok (.aload_n 0, 1) := by decide +kernel
theorem dX6_stateOf_1 : decode cX6_stateOf 1 = .ok (.iload_n 1, 1) := by decide +kernel
theorem dX6_stateOf_2 : decode cX6_stateOf 2 = .ok (.invokevirtual 183, 3) := by decide +kernel
theorem dX6_stateOf_5 : decode cX6_stateOf 5 = .ok (.aload_n 0, 1) := by decide +kernel
theorem dX6_stateOf_6 : decode cX6_stateOf 6 = .ok (.getfield 33, 3) := by decide +kernel
theorem dX6_stateOf_9 : decode cX6_stateOf 9 = .ok (.getfield 186, 3) := by decide +kernel
theorem dX6_stateOf_12 : decode cX6_stateOf 12 = .ok (.iload_n 1, 1) := by decide +kernel
theorem dX6_stateOf_13 : decode cX6_stateOf 13 = .ok (.caload, 1) := by decide +kernel
theorem dX6_stateOf_14 : decode cX6_stateOf 14 = .ok (.ireturn, 1) := by decide +kernel
set_option maxRecDepth 20000 in
theorem ggX6_dueDay_X6_requireGrant : GoodIn wsX6_dueDay wsX6_requireGrant := goodIn_ca (goodIn_r _ [10, 11, 12, 3, 13, 14, 15, 16, 17, 18, 19, 20, 21, 22, 23, 24, 25, 26, 27, 28, 29, 30, 31, 32, 33, 34] (by decide +kernel) (by decide +kernel)) (goodIn_sub (fun _ h => List.mem_cons_of_mem _ (List.mem_append_right _ h)) (by decide +kernel))
set_option maxRecDepth 20000 in
theorem gX6_dueDay_X6_requireGrant : GoodIn wsX6_dueDay (wsV RX6 183 RX6 yX6_requireGrant wsX6_requireGrant) := goodIn_app (goodIn_of _ (by decide +kernel)) ggX6_dueDay_X6_requireGrant
theorem dX6_dueDay_0 : decode cX6_dueDay 0 = .ok (.aload_n 0, 1) := by decide +kernel
theorem dX6_dueDay_1 : decode cX6_dueDay 1 = .ok (.iload_n 1, 1) := by decide +kernel
theorem dX6_dueDay_2 : decode cX6_dueDay 2 = .ok (.invokevirtual 183, 3) := by decide +kernel
theorem dX6_dueDay_5 : decode cX6_dueDay 5 = .ok (.aload_n 0, 1) := by decide +kernel
theorem dX6_dueDay_6 : decode cX6_dueDay 6 = .ok (.getfield 33, 3) := by decide +kernel
theorem dX6_dueDay_9 : decode cX6_dueDay 9 = .ok (.getfield 186, 3) := by decide +kernel
theorem dX6_dueDay_12 : decode cX6_dueDay 12 = .ok (.iload_n 1, 1) := by decide +kernel
theorem dX6_dueDay_13 : decode cX6_dueDay 13 = .ok (.caload, 1) := by decide +kernel
theorem dX6_dueDay_14 : decode cX6_dueDay 14 = .ok (.bipush 119, 2) := by decide +kernel
theorem dX6_dueDay_16 : decode cX6_dueDay 16 = .ok (.if_icmp .eq 13, 3) := by decide +kernel
theorem dX6_dueDay_19 : decode cX6_dueDay 19 = .ok (.new 75, 3) := by decide +kernel
theorem dX6_dueDay_22 : decode cX6_dueDay 22 = .ok (.dup, 1) := by decide +kernel
theorem dX6_dueDay_23 : decode cX6_dueDay 23 = .ok (.ldc 190, 2) := by decide +kernel
theorem dX6_dueDay_25 : decode cX6_dueDay 25 = .ok (.invokespecial 79, 3) := by decide +kernel
theorem dX6_dueDay_28 : decode cX6_dueDay 28 = .ok (.athrow, 1) := by decide +kernel
theorem dX6_dueDay_29 : decode cX6_dueDay 29 = .ok (.aload_n 0, 1) := by decide +kernel
theorem dX6_dueDay_30 : decode cX6_dueDay 30 = .ok (.getfield 33, 3) := by decide +kernel
theorem dX6_dueDay_33 : decode cX6_dueDay 33 = .ok (.getfield 192, 3) := by decide +kernel
theorem dX6_dueDay_36 : decode cX6_dueDay 36 = .ok (.iload_n 1, 1) := by decide +kernel
theorem dX6_dueDay_37 : decode cX6_dueDay 37 = .ok (.iaload, 1) := by decide +kernel
theorem dX6_dueDay_38 : decode cX6_dueDay 38 = .ok (.ireturn, 1) := by decide +kernel
set_option maxRecDepth 20000 in
theorem ggX6_lastUse_X6_requireGrant : GoodIn wsX6_lastUse wsX6_requireGrant := goodIn_ca (goodIn_r _ [7, 8, 9, 1, 10, 11, 12, 13, 14, 15, 16, 17, 18, 19, 20, 21, 22, 23, 24, 25, 26, 27, 28, 29, 30, 31] (by decide +kernel) (by decide +kernel)) (goodIn_sub (fun _ h => List.mem_cons_of_mem _ (List.mem_append_right _ h)) (by decide +kernel))
set_option maxRecDepth 20000 in
theorem gX6_lastUse_X6_requireGrant : GoodIn wsX6_lastUse (wsV RX6 183 RX6 yX6_requireGrant wsX6_requireGrant) := goodIn_app (goodIn_of _ (by decide +kernel)) ggX6_lastUse_X6_requireGrant
theorem dX6_lastUse_0 : decode cX6_lastUse 0 = .ok (.aload_n 0, 1) := by decide +kernel
theorem dX6_lastUse_1 : decode cX6_lastUse 1 = .ok (.iload_n 1, 1) := by decide +kernel
theorem dX6_lastUse_2 : decode cX6_lastUse 2 = .ok (.invokevirtual 183, 3) := by decide +kernel
theorem dX6_lastUse_5 : decode cX6_lastUse 5 = .ok (.aload_n 0, 1) := by decide +kernel
theorem dX6_lastUse_6 : decode cX6_lastUse 6 = .ok (.getfield 33, 3) := by decide +kernel
theorem dX6_lastUse_9 : decode cX6_lastUse 9 = .ok (.getfield 180, 3) := by decide +kernel
theorem dX6_lastUse_12 : decode cX6_lastUse 12 = .ok (.iload_n 1, 1) := by decide +kernel
theorem dX6_lastUse_13 : decode cX6_lastUse 13 = .ok (.iaload, 1) := by decide +kernel
theorem dX6_lastUse_14 : decode cX6_lastUse 14 = .ok (.ireturn, 1) := by decide +kernel
set_option maxRecDepth 20000 in
theorem ggX6_isBlocked_X6_requireGrant : GoodIn wsX6_isBlocked wsX6_requireGrant := goodIn_ca (goodIn_r _ [7, 8, 9, 1, 10, 11, 12, 13, 14, 15, 56, 57, 58, 59, 60, 61, 62, 63, 64, 65, 66, 67, 68, 69, 70, 71] (by decide +kernel) (by decide +kernel)) (goodIn_sub (fun _ h => List.mem_cons_of_mem _ (List.mem_append_right _ h)) (by decide +kernel))
set_option maxRecDepth 20000 in
theorem gX6_isBlocked_X6_requireGrant : GoodIn wsX6_isBlocked (wsV RX6 183 RX6 yX6_requireGrant wsX6_requireGrant) := goodIn_app (goodIn_of _ (by decide +kernel)) ggX6_isBlocked_X6_requireGrant
set_option maxRecDepth 20000 in
theorem ggX6_isBlocked_X6_wouldCutLastHolder : GoodIn wsX6_isBlocked wsX6_wouldCutLastHolder := goodIn_ca (goodIn_r _ [19, 1, 20, 21, 22, 23, 24, 25, 26, 6, 27, 28, 29, 30, 31, 32, 13, 33, 34, 35, 36, 37, 38, 39, 40, 41, 42, 43, 44, 45, 46, 47, 48, 49, 50, 51, 52, 53, 54, 55, 56, 57, 58, 59, 60, 61, 62, 63, 64, 65, 66, 67, 68, 69, 70, 71, 72, 73, 74, 75, 76, 77, 78, 79, 80, 81] (by decide +kernel) (by decide +kernel)) (goodIn_sub (fun _ h => List.mem_cons_of_mem _ (List.mem_append_left _ (List.mem_append_right _ h))) (by decide +kernel))
set_option maxRecDepth 20000 in
theorem gX6_isBlocked_X6_wouldCutLastHolder : GoodIn wsX6_isBlocked (wsV RX6 195 RX6 yX6_wouldCutLastHolder wsX6_wouldCutLastHolder) := goodIn_app (goodIn_of _ (by decide +kernel)) ggX6_isBlocked_X6_wouldCutLastHolder
theorem dX6_isBlocked_0 : decode cX6_isBlocked 0 = .ok (.aload_n 0, 1) := by decide +kernel
theorem dX6_isBlocked_1 : decode cX6_isBlocked 1 = .ok (.iload_n 1, 1) := by decide +kernel
theorem dX6_isBlocked_2 : decode cX6_isBlocked 2 = .ok (.invokevirtual 183, 3) := by decide +kernel
theorem dX6_isBlocked_5 : decode cX6_isBlocked 5 = .ok (.aload_n 0, 1) := by decide +kernel
theorem dX6_isBlocked_6 : decode cX6_isBlocked 6 = .ok (.getfield 33, 3) := by decide +kernel
theorem dX6_isBlocked_9 : decode cX6_isBlocked 9 = .ok (.getfield 186, 3) := by decide +kernel
theorem dX6_isBlocked_12 : decode cX6_isBlocked 12 = .ok (.iload_n 1, 1) := by decide +kernel
theorem dX6_isBlocked_13 : decode cX6_isBlocked 13 = .ok (.caload, 1) := by decide +kernel
theorem dX6_isBlocked_14 : decode cX6_isBlocked 14 = .ok (.bipush 120, 2) := by decide +kernel
theorem dX6_isBlocked_16 : decode cX6_isBlocked 16 = .ok (.if_icmp .eq 15, 3) := by decide +kernel
theorem dX6_isBlocked_19 : decode cX6_isBlocked 19 = .ok (.aload_n 0, 1) := by decide +kernel
theorem dX6_isBlocked_20 : decode cX6_isBlocked 20 = .ok (.iload_n 1, 1) := by decide +kernel
theorem dX6_isBlocked_21 : decode cX6_isBlocked 21 = .ok (.invokevirtual 195, 3) := by decide +kernel
theorem dX6_isBlocked_24 : decode cX6_isBlocked 24 = .ok (.ifCond .eq 7, 3) := by decide +kernel
theorem dX6_isBlocked_27 : decode cX6_isBlocked 27 = .ok (.iconst 1, 1) := by decide +kernel
theorem dX6_isBlocked_28 : decode cX6_isBlocked 28 = .ok (.goto 4, 3) := by decide +kernel
theorem dX6_isBlocked_31 : decode cX6_isBlocked 31 = .ok (.iconst 0, 1) := by decide +kernel
theorem dX6_isBlocked_32 : decode cX6_isBlocked 32 = .ok (.ireturn, 1) := by decide +kernel
set_option maxRecDepth 20000 in
theorem ggX6_holds_X6_requirePerson : GoodIn wsX6_holds wsX6_requirePerson := goodIn_ca (goodIn_r _ [5, 6, 7, 8, 9, 10, 11, 12, 13, 14, 64, 65, 66, 67, 68, 69, 70, 71, 72, 73, 74, 75, 76, 77] (by decide +kernel) (by decide +kernel)) (goodIn_sub (fun _ h => List.mem_cons_of_mem _ (List.mem_append_left _ (List.mem_append_right _ h))) (by decide +kernel))
set_option maxRecDepth 20000 in
theorem gX6_holds_X6_requirePerson : GoodIn wsX6_holds (wsV RX6 68 RX6 yX6_requirePerson wsX6_requirePerson) := goodIn_app (goodIn_of _ (by decide +kernel)) ggX6_holds_X6_requirePerson
set_option maxRecDepth 20000 in
theorem ggX6_holds_X6_requireRight : GoodIn wsX6_holds wsX6_requireRight := goodIn_ca (goodIn_r _ [18, 6, 7, 19, 20, 21, 22, 23, 24, 25, 64, 65, 66, 67, 68, 69, 70, 71, 72, 78, 79, 80, 81, 82] (by decide +kernel) (by decide +kernel)) (goodIn_sub (fun _ h => List.mem_cons_of_mem _ (List.mem_append_left _ (List.mem_append_right _ h))) (by decide +kernel))
set_option maxRecDepth 20000 in
theorem gX6_holds_X6_requireRight : GoodIn wsX6_holds (wsV RX6 155 RX6 yX6_requireRight wsX6_requireRight) := goodIn_app (goodIn_of _ (by decide +kernel)) ggX6_holds_X6_requireRight
set_option maxRecDepth 20000 in
theorem ggX6_holds_X6_findHolders : GoodIn wsX6_holds wsX6_findHolders := goodIn_ca (goodIn_r _ [29, 30, 31, 19, 32, 33, 34, 35, 36, 37, 38, 39, 40, 41, 42, 4, 43, 44, 45, 46, 47, 48, 49, 50, 51, 52, 53, 54, 55, 56, 57, 58, 59, 60, 64, 65, 66, 67, 68, 69, 70, 71, 72, 83, 84, 85, 86, 87, 88, 89, 78, 79, 80, 81, 82, 90, 91, 92, 93, 94] (by decide +kernel) (by decide +kernel)) (goodIn_sub (fun _ h => List.mem_cons_of_mem _ (List.mem_append_right _ h)) (by decide +kernel))
set_option maxRecDepth 20000 in
theorem gX6_holds_X6_findHolders : GoodIn wsX6_holds (wsV RX6 168 RX6 yX6_findHolders wsX6_findHolders) := goodIn_app (goodIn_of _ (by decide +kernel)) ggX6_holds_X6_findHolders
set_option maxRecDepth 20000 in
theorem ggX6_holds_X6_contains : GoodIn wsX6_holds wsX6_contains := goodIn_r _ [63, 58, 59, 4, 60] (by decide +kernel) (by decide +kernel)
set_option maxRecDepth 20000 in
theorem gX6_holds_X6_contains : GoodIn wsX6_holds (va_wsS RX6 109 yX6_contains wsX6_contains) := goodIn_app (goodIn_of _ (by decide +kernel)) ggX6_holds_X6_contains
theorem dX6_holds_0 : decode cX6_holds 0 = .ok (.aload_n 0, 1) := by decide +kernel
theorem dX6_holds_1 : decode cX6_holds 1 = .ok (.iload_n 1, 1) := by decide +kernel
theorem dX6_holds_2 : decode cX6_holds 2 = .ok (.invokevirtual 68, 3) := by decide +kernel
theorem dX6_holds_5 : decode cX6_holds 5 = .ok (.aload_n 0, 1) := by decide +kernel
theorem dX6_holds_6 : decode cX6_holds 6 = .ok (.iload_n 2, 1) := by decide +kernel
theorem dX6_holds_7 : decode cX6_holds 7 = .ok (.invokevirtual 155, 3) := by decide +kernel
theorem dX6_holds_10 : decode cX6_holds 10 = .ok (.aload_n 0, 1) := by decide +kernel
theorem dX6_holds_11 : decode cX6_holds 11 = .ok (.iload_n 2, 1) := by decide +kernel
theorem dX6_holds_12 : decode cX6_holds 12 = .ok (.iconst (-1), 1) := by decide +kernel
theorem dX6_holds_13 : decode cX6_holds 13 = .ok (.invokevirtual 168, 3) := by decide +kernel
theorem dX6_holds_16 : decode cX6_holds 16 = .ok (.iload_n 1, 1) := by decide +kernel
theorem dX6_holds_17 : decode cX6_holds 17 = .ok (.invokestatic 109, 3) := by decide +kernel
theorem dX6_holds_20 : decode cX6_holds 20 = .ok (.ireturn, 1) := by decide +kernel
set_option maxRecDepth 20000 in
theorem ggX6_holdsByPaths_X6_requirePerson : GoodIn wsX6_holdsByPaths wsX6_requirePerson := goodIn_ca (goodIn_r _ [7, 8, 9, 10, 11, 12, 13, 14, 15, 16, 59, 60, 61, 62, 63, 64, 65, 66, 67, 73, 74, 75, 76, 77] (by decide +kernel) (by decide +kernel)) (goodIn_sub (fun _ h => List.mem_cons_of_mem _ (List.mem_append_right _ h)) (by decide +kernel))
set_option maxRecDepth 20000 in
theorem gX6_holdsByPaths_X6_requirePerson : GoodIn wsX6_holdsByPaths (wsV RX6 68 RX6 yX6_requirePerson wsX6_requirePerson) := goodIn_app (goodIn_of _ (by decide +kernel)) ggX6_holdsByPaths_X6_requirePerson
set_option maxRecDepth 20000 in
theorem ggX6_holdsByPaths_X6_requireRight : GoodIn wsX6_holdsByPaths wsX6_requireRight := goodIn_ca (goodIn_r _ [20, 8, 9, 1, 21, 22, 23, 24, 25, 26, 59, 60, 61, 62, 63, 64, 65, 66, 67, 68, 69, 70, 71, 72] (by decide +kernel) (by decide +kernel)) (goodIn_sub (fun _ h => List.mem_cons_of_mem _ (List.mem_append_right _ h)) (by decide +kernel))
set_option maxRecDepth 20000 in
theorem gX6_holdsByPaths_X6_requireRight : GoodIn wsX6_holdsByPaths (wsV RX6 155 RX6 yX6_requireRight wsX6_requireRight) := goodIn_app (goodIn_of _ (by decide +kernel)) ggX6_holdsByPaths_X6_requireRight
set_option maxRecDepth 20000 in
theorem ggX6_holdsByPaths_X6_contains : GoodIn wsX6_holdsByPaths wsX6_contains := goodIn_r _ [29, 30, 31, 6, 32] (by decide +kernel) (by decide +kernel)
set_option maxRecDepth 20000 in
theorem gX6_holdsByPaths_X6_contains : GoodIn wsX6_holdsByPaths (va_wsS RX6 109 yX6_contains wsX6_contains) := goodIn_app (goodIn_of _ (by decide +kernel)) ggX6_holdsByPaths_X6_contains
set_option maxRecDepth 20000 in
theorem ggX6_holdsByPaths_X6_countWays : GoodIn wsX6_holdsByPaths wsX6_countWays := goodIn_ca (goodIn_r _ [36, 37, 38, 39, 40, 41, 42, 43, 44, 45, 46, 47, 48, 49, 50, 51, 52, 53, 54, 55, 56, 57, 58, 28, 6, 29, 30, 31, 32, 59, 60, 61, 62, 63, 64, 65, 66, 67, 78, 79, 80, 81, 82, 83, 84, 85, 86, 87, 88, 89] (by decide +kernel) (by decide +kernel)) (goodIn_sub (fun _ h => List.mem_cons_of_mem _ (List.mem_append_left _ (List.mem_append_right _ h))) (by decide +kernel))
set_option maxRecDepth 20000 in
theorem gX6_holdsByPaths_X6_countWays : GoodIn wsX6_holdsByPaths (wsV RX6 199 RX6 yX6_countWays wsX6_countWays) := goodIn_app (goodIn_of _ (by decide +kernel)) ggX6_holdsByPaths_X6_countWays
theorem dX6_holdsByPaths_0 : decode cX6_holdsByPaths 0 = .ok (.aload_n 0, 1) := by decide +kernel
theorem dX6_holdsByPaths_1 : decode cX6_holdsByPaths 1 = .ok (.iload_n 1, 1) := by decide +kernel
theorem dX6_holdsByPaths_2 : decode cX6_holdsByPaths 2 = .ok (.invokevirtual 68, 3) := by decide +kernel
theorem dX6_holdsByPaths_5 : decode cX6_holdsByPaths 5 = .ok (.aload_n 0, 1) := by decide +kernel
theorem dX6_holdsByPaths_6 : decode cX6_holdsByPaths 6 = .ok (.iload_n 2, 1) := by decide +kernel
theorem dX6_holdsByPaths_7 : decode cX6_holdsByPaths 7 = .ok (.invokevirtual 155, 3) := by decide +kernel
theorem dX6_holdsByPaths_10 : decode cX6_holdsByPaths 10 = .ok (.aload_n 0, 1) := by decide +kernel
theorem dX6_holdsByPaths_11 : decode cX6_holdsByPaths 11 = .ok (.getfield 26, 3) := by decide +kernel
theorem dX6_holdsByPaths_14 : decode cX6_holdsByPaths 14 = .ok (.getfield 162, 3) := by decide +kernel
theorem dX6_holdsByPaths_17 : decode cX6_holdsByPaths 17 = .ok (.iload_n 2, 1) := by decide +kernel
theorem dX6_holdsByPaths_18 : decode cX6_holdsByPaths 18 = .ok (.iaload, 1) := by decide +kernel
theorem dX6_holdsByPaths_19 : decode cX6_holdsByPaths 19 = .ok (.iload_n 1, 1) := by decide +kernel
theorem dX6_holdsByPaths_20 : decode cX6_holdsByPaths 20 = .ok (.invokestatic 109, 3) := by decide +kernel
theorem dX6_holdsByPaths_23 : decode cX6_holdsByPaths 23 = .ok (.ifCond .ne 16, 3) := by decide +kernel
theorem dX6_holdsByPaths_26 : decode cX6_holdsByPaths 26 = .ok (.aload_n 0, 1) := by decide +kernel
theorem dX6_holdsByPaths_27 : decode cX6_holdsByPaths 27 = .ok (.iload_n 1, 1) := by decide +kernel
theorem dX6_holdsByPaths_28 : decode cX6_holdsByPaths 28 = .ok (.iload_n 2, 1) := by decide +kernel
theorem dX6_holdsByPaths_29 : decode cX6_holdsByPaths 29 = .ok (.invokevirtual 199, 3) := by decide +kernel
theorem dX6_holdsByPaths_32 : decode cX6_holdsByPaths 32 = .ok (.ifCond .le 7, 3) := by decide +kernel
theorem dX6_holdsByPaths_35 : decode cX6_holdsByPaths 35 = .ok (.iconst 1, 1) := by decide +kernel
theorem dX6_holdsByPaths_36 : decode cX6_holdsByPaths 36 = .ok (.goto 4, 3) := by decide +kernel
theorem dX6_holdsByPaths_39 : decode cX6_holdsByPaths 39 = .ok (.iconst 0, 1) := by decide +kernel
theorem dX6_holdsByPaths_40 : decode cX6_holdsByPaths 40 = .ok (.ireturn, 1) := by decide +kernel
set_option maxRecDepth 20000 in
theorem ggX6_rightsOf_X6_requirePerson : GoodIn wsX6_rightsOf wsX6_requirePerson := goodIn_ca (goodIn_r _ [5, 6, 7, 8, 9, 10, 11, 12, 13, 14, 66, 67, 68, 69, 70, 71, 72, 73, 74, 75, 76, 77, 78, 79] (by decide +kernel) (by decide +kernel)) (goodIn_sub (fun _ h => List.mem_cons_of_mem _ (List.mem_append_left _ (List.mem_append_right _ h))) (by decide +kernel))
set_option maxRecDepth 20000 in
theorem gX6_rightsOf_X6_requirePerson : GoodIn wsX6_rightsOf (wsV RX6 68 RX6 yX6_requirePerson wsX6_requirePerson) := goodIn_app (goodIn_of _ (by decide +kernel)) ggX6_rightsOf_X6_requirePerson
set_option maxRecDepth 20000 in
theorem ggX6_rightsOf_X6_findRights : GoodIn wsX6_rightsOf wsX6_findRights := goodIn_ca (goodIn_r _ [18, 19, 20, 21, 22, 23, 4, 24, 25, 26, 27, 28, 29, 30, 31, 32, 33, 34, 35, 36, 37, 38, 39, 40, 41, 42, 43, 44, 45, 46, 47, 48, 49, 50, 51, 52, 53, 54, 55, 56, 57, 58, 66, 67, 68, 69, 70, 71, 72, 73, 74, 80, 81, 82, 83, 84, 85, 86, 87, 88, 89, 90, 91, 92, 93, 94, 95, 96] (by decide +kernel) (by decide +kernel)) (goodIn_sub (fun _ h => List.mem_cons_of_mem _ (List.mem_append_right _ h)) (by decide +kernel))
set_option maxRecDepth 20000 in
theorem gX6_rightsOf_X6_findRights : GoodIn wsX6_rightsOf (wsV RX6 202 RX6 yX6_findRights wsX6_findRights) := goodIn_app (goodIn_of _ (by decide +kernel)) ggX6_rightsOf_X6_findRights
set_option maxRecDepth 20000 in
theorem ggX6_rightsOf_J6_bitCount_0f7a4 : GoodIn wsX6_rightsOf wsJ6_bitCount_0f7a4 := goodIn_r _ [62, 63, 64, 65] (by decide +kernel) (by decide +kernel)
set_option maxRecDepth 20000 in
theorem gX6_rightsOf_J6_bitCount_0f7a4 : GoodIn wsX6_rightsOf (va_wsS RX6 142 yJ6_bitCount_0f7a4 wsJ6_bitCount_0f7a4) := goodIn_app (goodIn_of _ (by decide +kernel)) ggX6_rightsOf_J6_bitCount_0f7a4
theorem dX6_rightsOf_0 : decode cX6_rightsOf 0 = .ok (.aload_n 0, 1) := by decide +kernel
theorem dX6_rightsOf_1 : decode cX6_rightsOf 1 = .ok (.iload_n 1, 1) := by decide +kernel
theorem dX6_rightsOf_2 : decode cX6_rightsOf 2 = .ok (.invokevirtual 68, 3) := by decide +kernel
theorem dX6_rightsOf_5 : decode cX6_rightsOf 5 = .ok (.aload_n 0, 1) := by decide +kernel
theorem dX6_rightsOf_6 : decode cX6_rightsOf 6 = .ok (.iload_n 1, 1) := by decide +kernel
theorem dX6_rightsOf_7 : decode cX6_rightsOf 7 = .ok (.invokevirtual 202, 3) := by decide +kernel
theorem dX6_rightsOf_10 : decode cX6_rightsOf 10 = .ok (.invokestatic 142, 3) := by decide +kernel
theorem dX6_rightsOf_13 : decode cX6_rightsOf 13 = .ok (.ireturn, 1) := by decide +kernel
set_option maxRecDepth 20000 in
theorem ggX6_holdersOf_X6_requireRight : GoodIn wsX6_holdersOf wsX6_requireRight := goodIn_ca (goodIn_r _ [5, 6, 7, 8, 9, 10, 11, 12, 13, 14, 57, 58, 59, 60, 61, 62, 63, 64, 65, 66, 67, 68, 69, 70] (by decide +kernel) (by decide +kernel)) (goodIn_sub (fun _ h => List.mem_cons_of_mem _ (List.mem_append_left _ (List.mem_append_right _ h))) (by decide +kernel))
set_option maxRecDepth 20000 in
theorem gX6_holdersOf_X6_requireRight : GoodIn wsX6_holdersOf (wsV RX6 155 RX6 yX6_requireRight wsX6_requireRight) := goodIn_app (goodIn_of _ (by decide +kernel)) ggX6_holdersOf_X6_requireRight
set_option maxRecDepth 20000 in
theorem ggX6_holdersOf_X6_findHolders : GoodIn wsX6_holdersOf wsX6_findHolders := goodIn_ca (goodIn_r _ [18, 19, 20, 8, 21, 22, 23, 24, 25, 26, 27, 28, 29, 30, 31, 4, 32, 33, 34, 35, 36, 37, 38, 39, 40, 41, 42, 43, 44, 45, 46, 47, 48, 49, 57, 58, 59, 60, 61, 62, 63, 64, 65, 71, 72, 73, 74, 75, 76, 77, 66, 67, 68, 69, 70, 78, 79, 80, 81, 82] (by decide +kernel) (by decide +kernel)) (goodIn_sub (fun _ h => List.mem_cons_of_mem _ (List.mem_append_right _ h)) (by decide +kernel))
set_option maxRecDepth 20000 in
theorem gX6_holdersOf_X6_findHolders : GoodIn wsX6_holdersOf (wsV RX6 168 RX6 yX6_findHolders wsX6_findHolders) := goodIn_app (goodIn_of _ (by decide +kernel)) ggX6_holdersOf_X6_findHolders
set_option maxRecDepth 20000 in
theorem ggX6_holdersOf_J6_bitCount_0f7a4 : GoodIn wsX6_holdersOf wsJ6_bitCount_0f7a4 := goodIn_r _ [53, 54, 55, 56] (by decide +kernel) (by decide +kernel)
set_option maxRecDepth 20000 in
theorem gX6_holdersOf_J6_bitCount_0f7a4 : GoodIn wsX6_holdersOf (va_wsS RX6 142 yJ6_bitCount_0f7a4 wsJ6_bitCount_0f7a4) := goodIn_app (goodIn_of _ (by decide +kernel)) ggX6_holdersOf_J6_bitCount_0f7a4
theorem dX6_holdersOf_0 : decode cX6_holdersOf 0 = .ok (.aload_n 0, 1) := by decide +kernel
theorem dX6_holdersOf_1 : decode cX6_holdersOf 1 = .ok (.iload_n 1, 1) := by decide +kernel
theorem dX6_holdersOf_2 : decode cX6_holdersOf 2 = .ok (.invokevirtual 155, 3) := by decide +kernel
theorem dX6_holdersOf_5 : decode cX6_holdersOf 5 = .ok (.aload_n 0, 1) := by decide +kernel
theorem dX6_holdersOf_6 : decode cX6_holdersOf 6 = .ok (.iload_n 1, 1) := by decide +kernel
theorem dX6_holdersOf_7 : decode cX6_holdersOf 7 = .ok (.iconst (-1), 1) := by decide +kernel
theorem dX6_holdersOf_8 : decode cX6_holdersOf 8 = .ok (.invokevirtual 168, 3) := by decide +kernel
theorem dX6_holdersOf_11 : decode cX6_holdersOf 11 = .ok (.invokestatic 142, 3) := by decide +kernel
theorem dX6_holdersOf_14 : decode cX6_holdersOf 14 = .ok (.ireturn, 1) := by decide +kernel
set_option maxRecDepth 20000 in
theorem ggX6_rightBits_X6_requirePerson : GoodIn wsX6_rightBits wsX6_requirePerson := goodIn_ca (goodIn_r _ [5, 6, 7, 8, 9, 10, 11, 12, 13, 14, 59, 60, 61, 62, 63, 64, 65, 66, 67, 68, 69, 70, 71, 72] (by decide +kernel) (by decide +kernel)) (goodIn_sub (fun _ h => List.mem_cons_of_mem _ (List.mem_append_left _ (List.mem_append_right _ h))) (by decide +kernel))
set_option maxRecDepth 20000 in
theorem gX6_rightBits_X6_requirePerson : GoodIn wsX6_rightBits (wsV RX6 68 RX6 yX6_requirePerson wsX6_requirePerson) := goodIn_app (goodIn_of _ (by decide +kernel)) ggX6_rightBits_X6_requirePerson
set_option maxRecDepth 20000 in
theorem ggX6_rightBits_X6_findRights : GoodIn wsX6_rightBits wsX6_findRights := goodIn_ca (goodIn_r _ [18, 19, 20, 21, 22, 23, 4, 24, 25, 26, 27, 28, 29, 30, 31, 32, 33, 34, 35, 36, 37, 38, 39, 40, 41, 42, 43, 44, 45, 46, 47, 48, 49, 50, 51, 52, 53, 54, 55, 56, 57, 58, 59, 60, 61, 62, 63, 64, 65, 66, 67, 73, 74, 75, 76, 77, 78, 79, 80, 81, 82, 83, 84, 85, 86, 87, 88, 89] (by decide +kernel) (by decide +kernel)) (goodIn_sub (fun _ h => List.mem_cons_of_mem _ (List.mem_append_right _ h)) (by decide +kernel))
set_option maxRecDepth 20000 in
theorem gX6_rightBits_X6_findRights : GoodIn wsX6_rightBits (wsV RX6 202 RX6 yX6_findRights wsX6_findRights) := goodIn_app (goodIn_of _ (by decide +kernel)) ggX6_rightBits_X6_findRights
theorem dX6_rightBits_0 : decode cX6_rightBits 0 = .ok (.aload_n 0, 1) := by decide +kernel
theorem dX6_rightBits_1 : decode cX6_rightBits 1 = .ok (.iload_n 1, 1) := by decide +kernel
theorem dX6_rightBits_2 : decode cX6_rightBits 2 = .ok (.invokevirtual 68, 3) := by decide +kernel
theorem dX6_rightBits_5 : decode cX6_rightBits 5 = .ok (.aload_n 0, 1) := by decide +kernel
theorem dX6_rightBits_6 : decode cX6_rightBits 6 = .ok (.iload_n 1, 1) := by decide +kernel
theorem dX6_rightBits_7 : decode cX6_rightBits 7 = .ok (.invokevirtual 202, 3) := by decide +kernel
theorem dX6_rightBits_10 : decode cX6_rightBits 10 = .ok (.ireturn, 1) := by decide +kernel
set_option maxRecDepth 20000 in
theorem ggX6_apart_X6_requirePerson : GoodIn wsX6_apart wsX6_requirePerson := goodIn_ca (goodIn_r _ [5, 6, 7, 8, 9, 10, 11, 12, 13, 14, 66, 67, 68, 69, 70, 71, 72, 73, 74, 75, 76, 77, 78, 79] (by decide +kernel) (by decide +kernel)) (goodIn_sub (fun _ h => List.mem_cons_of_mem _ (List.mem_append_left _ (List.mem_append_right _ h))) (by decide +kernel))
set_option maxRecDepth 20000 in
theorem gX6_apart_X6_requirePerson : GoodIn wsX6_apart (wsV RX6 68 RX6 yX6_requirePerson wsX6_requirePerson) := goodIn_app (goodIn_of _ (by decide +kernel)) ggX6_apart_X6_requirePerson
set_option maxRecDepth 20000 in
theorem ggX6_apart_X6_findRights : GoodIn wsX6_apart wsX6_findRights := goodIn_ca (goodIn_r _ [18, 19, 20, 21, 22, 23, 4, 24, 25, 26, 27, 28, 29, 30, 31, 32, 33, 34, 35, 36, 37, 38, 39, 40, 41, 42, 43, 44, 45, 46, 47, 48, 49, 50, 51, 52, 53, 54, 55, 56, 57, 58, 66, 67, 68, 69, 70, 71, 72, 73, 74, 80, 81, 82, 83, 84, 85, 86, 87, 88, 89, 90, 91, 92, 93, 94, 95, 96] (by decide +kernel) (by decide +kernel)) (goodIn_sub (fun _ h => List.mem_cons_of_mem _ (List.mem_append_right _ h)) (by decide +kernel))
set_option maxRecDepth 20000 in
theorem gX6_apart_X6_findRights : GoodIn wsX6_apart (wsV RX6 202 RX6 yX6_findRights wsX6_findRights) := goodIn_app (goodIn_of _ (by decide +kernel)) ggX6_apart_X6_findRights
set_option maxRecDepth 20000 in
theorem ggX6_apart_J6_bitCount_0f7a4 : GoodIn wsX6_apart wsJ6_bitCount_0f7a4 := goodIn_r _ [62, 63, 64, 65] (by decide +kernel) (by decide +kernel)
set_option maxRecDepth 20000 in
theorem gX6_apart_J6_bitCount_0f7a4 : GoodIn wsX6_apart (va_wsS RX6 142 yJ6_bitCount_0f7a4 wsJ6_bitCount_0f7a4) := goodIn_app (goodIn_of _ (by decide +kernel)) ggX6_apart_J6_bitCount_0f7a4
theorem dX6_apart_0 : decode cX6_apart 0 = .ok (.aload_n 0, 1) := by decide +kernel
theorem dX6_apart_1 : decode cX6_apart 1 = .ok (.iload_n 1, 1) := by decide +kernel
theorem dX6_apart_2 : decode cX6_apart 2 = .ok (.invokevirtual 68, 3) := by decide +kernel
theorem dX6_apart_5 : decode cX6_apart 5 = .ok (.aload_n 0, 1) := by decide +kernel
theorem dX6_apart_6 : decode cX6_apart 6 = .ok (.iload_n 2, 1) := by decide +kernel
theorem dX6_apart_7 : decode cX6_apart 7 = .ok (.invokevirtual 68, 3) := by decide +kernel
theorem dX6_apart_10 : decode cX6_apart 10 = .ok (.aload_n 0, 1) := by decide +kernel
theorem dX6_apart_11 : decode cX6_apart 11 = .ok (.iload_n 1, 1) := by decide +kernel
theorem dX6_apart_12 : decode cX6_apart 12 = .ok (.invokevirtual 202, 3) := by decide +kernel
theorem dX6_apart_15 : decode cX6_apart 15 = .ok (.aload_n 0, 1) := by decide +kernel
theorem dX6_apart_16 : decode cX6_apart 16 = .ok (.iload_n 2, 1) := by decide +kernel
theorem dX6_apart_17 : decode cX6_apart 17 = .ok (.invokevirtual 202, 3) := by decide +kernel
theorem dX6_apart_20 : decode cX6_apart 20 = .ok (.ixor, 1) := by decide +kernel
theorem dX6_apart_21 : decode cX6_apart 21 = .ok (.invokestatic 142, 3) := by decide +kernel
theorem dX6_apart_24 : decode cX6_apart 24 = .ok (.ireturn, 1) := by decide +kernel
set_option maxRecDepth 20000 in
theorem ggX6_isDenied_X6_requirePerson : GoodIn wsX6_isDenied wsX6_requirePerson := goodIn_ca (goodIn_r _ [7, 8, 9, 10, 11, 12, 13, 14, 15, 16, 33, 34, 35, 36, 37, 38, 39, 40, 41, 47, 48, 49, 50, 51] (by decide +kernel) (by decide +kernel)) (goodIn_sub (fun _ h => List.mem_cons_of_mem _ (List.mem_append_right _ h)) (by decide +kernel))
set_option maxRecDepth 20000 in
theorem gX6_isDenied_X6_requirePerson : GoodIn wsX6_isDenied (wsV RX6 68 RX6 yX6_requirePerson wsX6_requirePerson) := goodIn_app (goodIn_of _ (by decide +kernel)) ggX6_isDenied_X6_requirePerson
set_option maxRecDepth 20000 in
theorem ggX6_isDenied_X6_requireRight : GoodIn wsX6_isDenied wsX6_requireRight := goodIn_ca (goodIn_r _ [20, 8, 9, 1, 21, 22, 23, 24, 25, 26, 33, 34, 35, 36, 37, 38, 39, 40, 41, 42, 43, 44, 45, 46] (by decide +kernel) (by decide +kernel)) (goodIn_sub (fun _ h => List.mem_cons_of_mem _ (List.mem_append_right _ h)) (by decide +kernel))
set_option maxRecDepth 20000 in
theorem gX6_isDenied_X6_requireRight : GoodIn wsX6_isDenied (wsV RX6 155 RX6 yX6_requireRight wsX6_requireRight) := goodIn_app (goodIn_of _ (by decide +kernel)) ggX6_isDenied_X6_requireRight
set_option maxRecDepth 20000 in
theorem ggX6_isDenied_X6_contains : GoodIn wsX6_isDenied wsX6_contains := goodIn_r _ [29, 30, 31, 6, 32] (by decide +kernel) (by decide +kernel)
set_option maxRecDepth 20000 in
theorem gX6_isDenied_X6_contains : GoodIn wsX6_isDenied (va_wsS RX6 109 yX6_contains wsX6_contains) := goodIn_app (goodIn_of _ (by decide +kernel)) ggX6_isDenied_X6_contains
theorem dX6_isDenied_0 : decode cX6_isDenied 0 = .ok (.aload_n 0, 1) := by decide +kernel
theorem dX6_isDenied_1 : decode cX6_isDenied 1 = .ok (.iload_n 1, 1) := by decide +kernel
theorem dX6_isDenied_2 : decode cX6_isDenied 2 = .ok (.invokevirtual 68, 3) := by decide +kernel
theorem dX6_isDenied_5 : decode cX6_isDenied 5 = .ok (.aload_n 0, 1) := by decide +kernel
theorem dX6_isDenied_6 : decode cX6_isDenied 6 = .ok (.iload_n 2, 1) := by decide +kernel
theorem dX6_isDenied_7 : decode cX6_isDenied 7 = .ok (.invokevirtual 155, 3) := by decide +kernel
theorem dX6_isDenied_10 : decode cX6_isDenied 10 = .ok (.aload_n 0, 1) := by decide +kernel
theorem dX6_isDenied_11 : decode cX6_isDenied 11 = .ok (.getfield 26, 3) := by decide +kernel
theorem dX6_isDenied_14 : decode cX6_isDenied 14 = .ok (.getfield 162, 3) := by decide +kernel
theorem dX6_isDenied_17 : decode cX6_isDenied 17 = .ok (.iload_n 2, 1) := by decide +kernel
theorem dX6_isDenied_18 : decode cX6_isDenied 18 = .ok (.iaload, 1) := by decide +kernel
theorem dX6_isDenied_19 : decode cX6_isDenied 19 = .ok (.iload_n 1, 1) := by decide +kernel
theorem dX6_isDenied_20 : decode cX6_isDenied 20 = .ok (.invokestatic 109, 3) := by decide +kernel
theorem dX6_isDenied_23 : decode cX6_isDenied 23 = .ok (.ireturn, 1) := by decide +kernel
set_option maxRecDepth 20000 in
theorem ggX6_paths_X6_requirePerson : GoodIn wsX6_paths wsX6_requirePerson := goodIn_ca (goodIn_r _ [5, 6, 7, 8, 9, 10, 11, 12, 13, 14, 57, 58, 59, 60, 61, 62, 63, 64, 65, 66, 67, 68, 69, 70] (by decide +kernel) (by decide +kernel)) (goodIn_sub (fun _ h => List.mem_cons_of_mem _ (List.mem_append_left _ (List.mem_append_right _ h))) (by decide +kernel))
set_option maxRecDepth 20000 in
theorem gX6_paths_X6_requirePerson : GoodIn wsX6_paths (wsV RX6 68 RX6 yX6_requirePerson wsX6_requirePerson) := goodIn_app (goodIn_of _ (by decide +kernel)) ggX6_paths_X6_requirePerson
set_option maxRecDepth 20000 in
theorem ggX6_paths_X6_requireRight : GoodIn wsX6_paths wsX6_requireRight := goodIn_ca (goodIn_r _ [18, 6, 7, 19, 20, 21, 22, 23, 24, 25, 57, 58, 59, 60, 61, 62, 63, 64, 65, 71, 72, 73, 74, 75] (by decide +kernel) (by decide +kernel)) (goodIn_sub (fun _ h => List.mem_cons_of_mem _ (List.mem_append_left _ (List.mem_append_right _ h))) (by decide +kernel))
set_option maxRecDepth 20000 in
theorem gX6_paths_X6_requireRight : GoodIn wsX6_paths (wsV RX6 155 RX6 yX6_requireRight wsX6_requireRight) := goodIn_app (goodIn_of _ (by decide +kernel)) ggX6_paths_X6_requireRight
set_option maxRecDepth 20000 in
theorem ggX6_paths_X6_countWays : GoodIn wsX6_paths wsX6_countWays := goodIn_ca (goodIn_r _ [29, 30, 31, 32, 33, 34, 35, 36, 37, 38, 39, 40, 41, 42, 43, 44, 45, 46, 47, 48, 49, 50, 51, 52, 4, 53, 54, 55, 56, 57, 58, 59, 60, 61, 62, 63, 64, 65, 76, 77, 78, 79, 80, 81, 82, 83, 84, 85, 86, 87] (by decide +kernel) (by decide +kernel)) (goodIn_sub (fun _ h => List.mem_cons_of_mem _ (List.mem_append_right _ h)) (by decide +kernel))
set_option maxRecDepth 20000 in
theorem gX6_paths_X6_countWays : GoodIn wsX6_paths (wsV RX6 199 RX6 yX6_countWays wsX6_countWays) := goodIn_app (goodIn_of _ (by decide +kernel)) ggX6_paths_X6_countWays
theorem dX6_paths_0 : decode cX6_paths 0 = .ok (.aload_n 0, 1) := by decide +kernel
theorem dX6_paths_1 : decode cX6_paths 1 = .ok (.iload_n 1, 1) := by decide +kernel
theorem dX6_paths_2 : decode cX6_paths 2 = .ok (.invokevirtual 68, 3) := by decide +kernel
theorem dX6_paths_5 : decode cX6_paths 5 = .ok (.aload_n 0, 1) := by decide +kernel
theorem dX6_paths_6 : decode cX6_paths 6 = .ok (.iload_n 2, 1) := by decide +kernel
theorem dX6_paths_7 : decode cX6_paths 7 = .ok (.invokevirtual 155, 3) := by decide +kernel
theorem dX6_paths_10 : decode cX6_paths 10 = .ok (.aload_n 0, 1) := by decide +kernel
theorem dX6_paths_11 : decode cX6_paths 11 = .ok (.iload_n 1, 1) := by decide +kernel
theorem dX6_paths_12 : decode cX6_paths 12 = .ok (.iload_n 2, 1) := by decide +kernel
theorem dX6_paths_13 : decode cX6_paths 13 = .ok (.invokevirtual 199, 3) := by decide +kernel
theorem dX6_paths_16 : decode cX6_paths 16 = .ok (.ireturn, 1) := by decide +kernel
set_option maxRecDepth 20000 in
theorem ggX6_pathLength_X6_requirePerson : GoodIn wsX6_pathLength wsX6_requirePerson := goodIn_ca (goodIn_r _ [7, 8, 9, 10, 11, 12, 13, 14, 15, 16, 69, 70, 71, 72, 73, 74, 75, 76, 77, 78, 79, 80, 81, 82] (by decide +kernel) (by decide +kernel)) (goodIn_sub (fun _ h => List.mem_cons_of_mem _ (List.mem_append_left _ (List.mem_append_right _ h))) (by decide +kernel))
set_option maxRecDepth 20000 in
theorem gX6_pathLength_X6_requirePerson : GoodIn wsX6_pathLength (wsV RX6 68 RX6 yX6_requirePerson wsX6_requirePerson) := goodIn_app (goodIn_of _ (by decide +kernel)) ggX6_pathLength_X6_requirePerson
set_option maxRecDepth 20000 in
theorem ggX6_pathLength_X6_requireRight : GoodIn wsX6_pathLength wsX6_requireRight := goodIn_ca (goodIn_r _ [20, 8, 9, 21, 22, 23, 24, 25, 26, 27, 69, 70, 71, 72, 73, 74, 75, 76, 77, 83, 84, 85, 86, 87] (by decide +kernel) (by decide +kernel)) (goodIn_sub (fun _ h => List.mem_cons_of_mem _ (List.mem_append_left _ (List.mem_append_right _ h))) (by decide +kernel))
set_option maxRecDepth 20000 in
theorem gX6_pathLength_X6_requireRight : GoodIn wsX6_pathLength (wsV RX6 155 RX6 yX6_requireRight wsX6_requireRight) := goodIn_app (goodIn_of _ (by decide +kernel)) ggX6_pathLength_X6_requireRight
set_option maxRecDepth 20000 in
theorem ggX6_pathLength_X6_findLeastLength : GoodIn wsX6_pathLength wsX6_findLeastLength := goodIn_ca (goodIn_r _ [31, 32, 33, 34, 35, 36, 37, 38, 39, 40, 41, 42, 43, 44, 45, 46, 47, 48, 49, 50, 6, 51, 52, 53, 54, 55, 56, 57, 58, 59, 60, 61, 62, 63, 64, 65, 66, 67, 68, 69, 70, 71, 72, 73, 74, 75, 76, 77, 88, 89, 90, 91, 92, 93, 94, 95, 96, 97, 98, 99] (by decide +kernel) (by decide +kernel)) (goodIn_sub (fun _ h => List.mem_cons_of_mem _ (List.mem_append_right _ h)) (by decide +kernel))
set_option maxRecDepth 20000 in
theorem gX6_pathLength_X6_findLeastLength : GoodIn wsX6_pathLength (wsV RX6 205 RX6 yX6_findLeastLength wsX6_findLeastLength) := goodIn_app (goodIn_of _ (by decide +kernel)) ggX6_pathLength_X6_findLeastLength
theorem dX6_pathLength_0 : decode cX6_pathLength 0 = .ok (.aload_n 0, 1) := by decide +kernel
theorem dX6_pathLength_1 : decode cX6_pathLength 1 = .ok (.iload_n 1, 1) := by decide +kernel
theorem dX6_pathLength_2 : decode cX6_pathLength 2 = .ok (.invokevirtual 68, 3) := by decide +kernel
theorem dX6_pathLength_5 : decode cX6_pathLength 5 = .ok (.aload_n 0, 1) := by decide +kernel
theorem dX6_pathLength_6 : decode cX6_pathLength 6 = .ok (.iload_n 2, 1) := by decide +kernel
theorem dX6_pathLength_7 : decode cX6_pathLength 7 = .ok (.invokevirtual 155, 3) := by decide +kernel
theorem dX6_pathLength_10 : decode cX6_pathLength 10 = .ok (.aload_n 0, 1) := by decide +kernel
theorem dX6_pathLength_11 : decode cX6_pathLength 11 = .ok (.iload_n 1, 1) := by decide +kernel
theorem dX6_pathLength_12 : decode cX6_pathLength 12 = .ok (.iload_n 2, 1) := by decide +kernel
theorem dX6_pathLength_13 : decode cX6_pathLength 13 = .ok (.invokevirtual 205, 3) := by decide +kernel
theorem dX6_pathLength_16 : decode cX6_pathLength 16 = .ok (.istore_n 3, 1) := by decide +kernel
theorem dX6_pathLength_17 : decode cX6_pathLength 17 = .ok (.iload_n 3, 1) := by decide +kernel
theorem dX6_pathLength_18 : decode cX6_pathLength 18 = .ok (.iconst (-1), 1) := by decide +kernel
theorem dX6_pathLength_19 : decode cX6_pathLength 19 = .ok (.if_icmp .ne 13, 3) := by decide +kernel
theorem dX6_pathLength_22 : decode cX6_pathLength 22 = .ok (.new 75, 3) := by decide +kernel
theorem dX6_pathLength_25 : decode cX6_pathLength 25 = .ok (.dup, 1) := by decide +kernel
theorem dX6_pathLength_26 : decode cX6_pathLength 26 = .ok (.ldc 208, 2) := by decide +kernel
theorem dX6_pathLength_28 : decode cX6_pathLength 28 = .ok (.invokespecial 79, 3) := by decide +kernel
theorem dX6_pathLength_31 : decode cX6_pathLength 31 = .ok (.athrow, 1) := by decide +kernel
theorem dX6_pathLength_32 : decode cX6_pathLength 32 = .ok (.iload_n 3, 1) := by decide +kernel
theorem dX6_pathLength_33 : decode cX6_pathLength 33 = .ok (.ireturn, 1) := by decide +kernel
set_option maxRecDepth 20000 in
theorem ggX6_pathAt_X6_requirePerson : GoodIn wsX6_pathAt wsX6_requirePerson := goodIn_ca (goodIn_r _ [10, 11, 12, 13, 14, 15, 16, 17, 18, 19, 83, 84, 85, 86, 87, 88, 89, 90, 91, 92, 93, 94, 95, 96] (by decide +kernel) (by decide +kernel)) (goodIn_sub (fun _ h => List.mem_cons_of_mem _ (List.mem_append_left _ (List.mem_append_right _ h))) (by decide +kernel))
set_option maxRecDepth 20000 in
theorem gX6_pathAt_X6_requirePerson : GoodIn wsX6_pathAt (wsV RX6 68 RX6 yX6_requirePerson wsX6_requirePerson) := goodIn_app (goodIn_of _ (by decide +kernel)) ggX6_pathAt_X6_requirePerson
set_option maxRecDepth 20000 in
theorem ggX6_pathAt_X6_requireRight : GoodIn wsX6_pathAt wsX6_requireRight := goodIn_ca (goodIn_r _ [23, 11, 12, 24, 25, 26, 27, 28, 29, 30, 83, 84, 85, 86, 87, 88, 89, 90, 91, 97, 98, 99, 100, 101] (by decide +kernel) (by decide +kernel)) (goodIn_sub (fun _ h => List.mem_cons_of_mem _ (List.mem_append_left _ (List.mem_append_right _ h))) (by decide +kernel))
set_option maxRecDepth 20000 in
theorem gX6_pathAt_X6_requireRight : GoodIn wsX6_pathAt (wsV RX6 155 RX6 yX6_requireRight wsX6_requireRight) := goodIn_app (goodIn_of _ (by decide +kernel)) ggX6_pathAt_X6_requireRight
set_option maxRecDepth 20000 in
theorem ggX6_pathAt_X6_findLeastLength : GoodIn wsX6_pathAt wsX6_findLeastLength := goodIn_ca (goodIn_r _ [34, 35, 5, 36, 37, 38, 39, 40, 41, 42, 43, 44, 45, 46, 47, 48, 49, 50, 51, 52, 9, 53, 54, 55, 56, 57, 58, 59, 60, 61, 62, 63, 64, 65, 66, 67, 68, 69, 70, 83, 84, 85, 86, 87, 88, 89, 90, 91, 102, 103, 104, 105, 106, 107, 108, 109, 110, 111, 112, 113] (by decide +kernel) (by decide +kernel)) (goodIn_sub (fun _ h => List.mem_cons_of_mem _ (List.mem_append_right _ h)) (by decide +kernel))
set_option maxRecDepth 20000 in
theorem gX6_pathAt_X6_findLeastLength : GoodIn wsX6_pathAt (wsV RX6 205 RX6 yX6_findLeastLength wsX6_findLeastLength) := goodIn_app (goodIn_of _ (by decide +kernel)) ggX6_pathAt_X6_findLeastLength
set_option maxRecDepth 20000 in
theorem ggX6_pathAt_X6_findGrantedGroups : GoodIn wsX6_pathAt wsX6_findGrantedGroups := goodIn_ca (goodIn_r _ [53, 35, 54, 55, 56, 57, 45, 46, 39, 47, 48, 49, 58, 59, 9, 60, 83, 84, 85, 86, 87, 88, 89, 90, 91, 102, 103, 104, 105, 106, 107, 108] (by decide +kernel) (by decide +kernel)) (goodIn_sub (fun _ h => List.mem_cons_of_mem _ (List.mem_append_right _ h)) (by decide +kernel))
set_option maxRecDepth 20000 in
theorem gX6_pathAt_X6_findGrantedGroups : GoodIn wsX6_pathAt (wsV RX6 215 RX6 yX6_findGrantedGroups wsX6_findGrantedGroups) := goodIn_app (goodIn_of _ (by decide +kernel)) ggX6_pathAt_X6_findGrantedGroups
set_option maxRecDepth 20000 in
theorem ggX6_pathAt_X3_findOnPath : GoodIn wsX6_pathAt wsX3_findOnPath := goodIn_ca (goodIn_r _ [74, 66, 68, 75, 62, 63, 64, 65, 67, 69, 9, 70, 58, 59, 60, 76, 77, 78, 79, 80, 81, 82, 109, 110, 111, 112, 113] (by decide +kernel) (by decide +kernel)) (goodIn_sub (fun _ h => List.mem_cons_of_mem _ (List.mem_append_right _ h)) (by decide +kernel))
set_option maxRecDepth 20000 in
theorem gX6_pathAt_X3_findOnPath : GoodIn wsX6_pathAt (wsV RX6 218 RX3 yX3_findOnPath wsX3_findOnPath) := goodIn_app (goodIn_of _ (by decide +kernel)) ggX6_pathAt_X3_findOnPath
theorem dX6_pathAt_0 : decode cX6_pathAt 0 = .ok (.aload_n 0, 1) := by decide +kernel
theorem dX6_pathAt_1 : decode cX6_pathAt 1 = .ok (.iload_n 1, 1) := by decide +kernel
theorem dX6_pathAt_2 : decode cX6_pathAt 2 = .ok (.invokevirtual 68, 3) := by decide +kernel
theorem dX6_pathAt_5 : decode cX6_pathAt 5 = .ok (.aload_n 0, 1) := by decide +kernel
theorem dX6_pathAt_6 : decode cX6_pathAt 6 = .ok (.iload_n 2, 1) := by decide +kernel
theorem dX6_pathAt_7 : decode cX6_pathAt 7 = .ok (.invokevirtual 155, 3) := by decide +kernel
theorem dX6_pathAt_10 : decode cX6_pathAt 10 = .ok (.aload_n 0, 1) := by decide +kernel
theorem dX6_pathAt_11 : decode cX6_pathAt 11 = .ok (.iload_n 1, 1) := by decide +kernel
theorem dX6_pathAt_12 : decode cX6_pathAt 12 = .ok (.iload_n 2, 1) := by decide +kernel
theorem dX6_pathAt_13 : decode cX6_pathAt 13 = .ok (.invokevirtual 205, 3) := by decide +kernel
theorem dX6_pathAt_16 : decode cX6_pathAt 16 = .ok (.istore 4, 2) := by decide +kernel
theorem dX6_pathAt_18 : decode cX6_pathAt 18 = .ok (.iload 4, 2) := by decide +kernel
theorem dX6_pathAt_20 : decode cX6_pathAt 20 = .ok (.iconst (-1), 1) := by decide +kernel
theorem dX6_pathAt_21 : decode cX6_pathAt 21 = .ok (.if_icmp .ne 13, 3) := by decide +kernel
theorem dX6_pathAt_24 : decode cX6_pathAt 24 = .ok (.new 75, 3) := by decide +kernel
theorem dX6_pathAt_27 : decode cX6_pathAt 27 = .ok (.dup, 1) := by decide +kernel
theorem dX6_pathAt_28 : decode cX6_pathAt 28 = .ok (.ldc 208, 2) := by decide +kernel
theorem dX6_pathAt_30 : decode cX6_pathAt 30 = .ok (.invokespecial 79, 3) := by decide +kernel
theorem dX6_pathAt_33 : decode cX6_pathAt 33 = .ok (.athrow, 1) := by decide +kernel
theorem dX6_pathAt_34 : decode cX6_pathAt 34 = .ok (.iload_n 3, 1) := by decide +kernel
theorem dX6_pathAt_35 : decode cX6_pathAt 35 = .ok (.ifCond .lt 9, 3) := by decide +kernel
theorem dX6_pathAt_38 : decode cX6_pathAt 38 = .ok (.iload_n 3, 1) := by decide +kernel
theorem dX6_pathAt_39 : decode cX6_pathAt 39 = .ok (.iload 4, 2) := by decide +kernel
theorem dX6_pathAt_41 : decode cX6_pathAt 41 = .ok (.if_icmp .lt 13, 3) := by decide +kernel
theorem dX6_pathAt_44 : decode cX6_pathAt 44 = .ok (.new 210, 3) := by decide +kernel
theorem dX6_pathAt_47 : decode cX6_pathAt 47 = .ok (.dup, 1) := by decide +kernel
theorem dX6_pathAt_48 : decode cX6_pathAt 48 = .ok (.ldc 212, 2) := by decide +kernel
theorem dX6_pathAt_50 : decode cX6_pathAt 50 = .ok (.invokespecial 214, 3) := by decide +kernel
theorem dX6_pathAt_53 : decode cX6_pathAt 53 = .ok (.athrow, 1) := by decide +kernel
theorem dX6_pathAt_54 : decode cX6_pathAt 54 = .ok (.aload_n 0, 1) := by decide +kernel
theorem dX6_pathAt_55 : decode cX6_pathAt 55 = .ok (.getfield 19, 3) := by decide +kernel
theorem dX6_pathAt_58 : decode cX6_pathAt 58 = .ok (.aload_n 0, 1) := by decide +kernel
theorem dX6_pathAt_59 : decode cX6_pathAt 59 = .ok (.iload_n 2, 1) := by decide +kernel
theorem dX6_pathAt_60 : decode cX6_pathAt 60 = .ok (.invokevirtual 215, 3) := by decide +kernel
theorem dX6_pathAt_63 : decode cX6_pathAt 63 = .ok (.iload_n 1, 1) := by decide +kernel
theorem dX6_pathAt_64 : decode cX6_pathAt 64 = .ok (.iload 4, 2) := by decide +kernel
theorem dX6_pathAt_66 : decode cX6_pathAt 66 = .ok (.iload_n 3, 1) := by decide +kernel
theorem dX6_pathAt_67 : decode cX6_pathAt 67 = .ok (.invokevirtual 218, 3) := by decide +kernel
theorem dX6_pathAt_70 : decode cX6_pathAt 70 = .ok (.ireturn, 1) := by decide +kernel
set_option maxRecDepth 20000 in
theorem ggX6_riskOf_X6_requireGrant : GoodIn wsX6_riskOf wsX6_requireGrant := goodIn_ca (goodIn_r _ [9, 10, 11, 3, 12, 13, 14, 15, 16, 17, 87, 88, 89, 90, 91, 92, 93, 94, 95, 96, 97, 98, 99, 100, 101, 102] (by decide +kernel) (by decide +kernel)) (goodIn_sub (fun _ h => List.mem_cons_of_mem _ (List.mem_append_left _ (List.mem_append_right _ h))) (by decide +kernel))
set_option maxRecDepth 20000 in
theorem gX6_riskOf_X6_requireGrant : GoodIn wsX6_riskOf (wsV RX6 183 RX6 yX6_requireGrant wsX6_requireGrant) := goodIn_app (goodIn_of _ (by decide +kernel)) ggX6_riskOf_X6_requireGrant
set_option maxRecDepth 20000 in
theorem ggX6_riskOf_X6_rateGrant : GoodIn wsX6_riskOf wsX6_rateGrant := goodIn_ca (goodIn_ca (goodIn_r _ [21, 3, 22, 23, 24, 25, 26, 27, 28, 29, 30, 31, 32, 33, 8, 34, 35, 36, 37, 38, 39, 40, 15, 41, 42, 43, 44, 45, 46, 47, 48, 49, 50, 51, 52, 53, 54, 55, 56, 57, 58, 59, 60, 61, 62, 63, 64, 65, 66, 67, 68, 69, 70, 71, 72, 73, 74, 75, 76, 77, 78, 79, 80, 81, 82, 83, 84, 85, 86, 87, 88, 89, 90, 91, 92, 93, 94, 95, 96, 97, 98, 99, 100, 101, 102, 103, 104, 105, 106, 107, 108, 109, 110, 111, 112, 113, 114, 115, 116, 117] (by decide +kernel) (by decide +kernel)) (goodIn_sub (fun _ h => List.mem_cons_of_mem _ (List.mem_append_left _ (List.mem_append_left _ (List.mem_append_left _ (List.mem_append_right _ h))))) (by decide +kernel))) (goodIn_sub (fun _ h => List.mem_cons_of_mem _ (List.mem_append_right _ h)) (by decide +kernel))
set_option maxRecDepth 20000 in
theorem gX6_riskOf_X6_rateGrant : GoodIn wsX6_riskOf (wsV RX6 223 RX6 yX6_rateGrant wsX6_rateGrant) := goodIn_app (goodIn_of _ (by decide +kernel)) ggX6_riskOf_X6_rateGrant
theorem dX6_riskOf_0 : decode cX6_riskOf 0 = .ok (.aload_n 0, 1) := by decide +kernel
theorem dX6_riskOf_1 : decode cX6_riskOf 1 = .ok (.iload_n 1, 1) := by decide +kernel
theorem dX6_riskOf_2 : decode cX6_riskOf 2 = .ok (.invokevirtual 183, 3) := by decide +kernel
theorem dX6_riskOf_5 : decode cX6_riskOf 5 = .ok (.aload_n 0, 1) := by decide +kernel
theorem dX6_riskOf_6 : decode cX6_riskOf 6 = .ok (.getfield 33, 3) := by decide +kernel
theorem dX6_riskOf_9 : decode cX6_riskOf 9 = .ok (.getfield 186, 3) := by decide +kernel
theorem dX6_riskOf_12 : decode cX6_riskOf 12 = .ok (.iload_n 1, 1) := by decide +kernel
theorem dX6_riskOf_13 : decode cX6_riskOf 13 = .ok (.caload, 1) := by decide +kernel
theorem dX6_riskOf_14 : decode cX6_riskOf 14 = .ok (.bipush 120, 2) := by decide +kernel
theorem dX6_riskOf_16 : decode cX6_riskOf 16 = .ok (.if_icmp .ne 13, 3) := by decide +kernel
theorem dX6_riskOf_19 : decode cX6_riskOf 19 = .ok (.new 75, 3) := by decide +kernel
theorem dX6_riskOf_22 : decode cX6_riskOf 22 = .ok (.dup, 1) := by decide +kernel
theorem dX6_riskOf_23 : decode cX6_riskOf 23 = .ok (.ldc 221, 2) := by decide +kernel
theorem dX6_riskOf_25 : decode cX6_riskOf 25 = .ok (.invokespecial 79, 3) := by decide +kernel
theorem dX6_riskOf_28 : decode cX6_riskOf 28 = .ok (.athrow, 1) := by decide +kernel
theorem dX6_riskOf_29 : decode cX6_riskOf 29 = .ok (.aload_n 0, 1) := by decide +kernel
theorem dX6_riskOf_30 : decode cX6_riskOf 30 = .ok (.iload_n 1, 1) := by decide +kernel
theorem dX6_riskOf_31 : decode cX6_riskOf 31 = .ok (.invokevirtual 223, 3) := by decide +kernel
theorem dX6_riskOf_34 : decode cX6_riskOf 34 = .ok (.ireturn, 1) := by decide +kernel
set_option maxRecDepth 20000 in
theorem ggX6_riskFor_X6_requirePerson : GoodIn wsX6_riskFor wsX6_requirePerson := goodIn_ca (goodIn_r _ [5, 6, 7, 8, 9, 10, 11, 12, 13, 14, 78, 79, 80, 81, 82, 83, 84, 85, 86, 87, 88, 89, 90, 91] (by decide +kernel) (by decide +kernel)) (goodIn_sub (fun _ h => List.mem_cons_of_mem _ (List.mem_append_left _ (List.mem_append_left _ (List.mem_append_right _ h)))) (by decide +kernel))
set_option maxRecDepth 20000 in
theorem gX6_riskFor_X6_requirePerson : GoodIn wsX6_riskFor (wsV RX6 68 RX6 yX6_requirePerson wsX6_requirePerson) := goodIn_app (goodIn_of _ (by decide +kernel)) ggX6_riskFor_X6_requirePerson
set_option maxRecDepth 20000 in
theorem ggX6_riskFor_X6_requireRight : GoodIn wsX6_riskFor wsX6_requireRight := goodIn_ca (goodIn_r _ [18, 6, 7, 19, 20, 21, 22, 23, 24, 25, 78, 79, 80, 81, 82, 83, 84, 85, 86, 92, 93, 94, 95, 96] (by decide +kernel) (by decide +kernel)) (goodIn_sub (fun _ h => List.mem_cons_of_mem _ (List.mem_append_left _ (List.mem_append_left _ (List.mem_append_right _ h)))) (by decide +kernel))
set_option maxRecDepth 20000 in
theorem gX6_riskFor_X6_requireRight : GoodIn wsX6_riskFor (wsV RX6 155 RX6 yX6_requireRight wsX6_requireRight) := goodIn_app (goodIn_of _ (by decide +kernel)) ggX6_riskFor_X6_requireRight
set_option maxRecDepth 20000 in
theorem ggX6_riskFor_X6_findHolders : GoodIn wsX6_riskFor wsX6_findHolders := goodIn_ca (goodIn_r _ [29, 30, 31, 19, 32, 33, 34, 35, 36, 37, 38, 39, 40, 41, 42, 4, 43, 44, 45, 46, 47, 48, 49, 50, 51, 52, 53, 54, 55, 56, 57, 58, 59, 60, 78, 79, 80, 81, 82, 83, 84, 85, 86, 97, 98, 99, 100, 101, 102, 103, 92, 93, 94, 95, 96, 104, 105, 106, 107, 108] (by decide +kernel) (by decide +kernel)) (goodIn_sub (fun _ h => List.mem_cons_of_mem _ (List.mem_append_left _ (List.mem_append_right _ h))) (by decide +kernel))
set_option maxRecDepth 20000 in
theorem gX6_riskFor_X6_findHolders : GoodIn wsX6_riskFor (wsV RX6 168 RX6 yX6_findHolders wsX6_findHolders) := goodIn_app (goodIn_of _ (by decide +kernel)) ggX6_riskFor_X6_findHolders
set_option maxRecDepth 20000 in
theorem ggX6_riskFor_X6_rateRight : GoodIn wsX6_riskFor wsX6_rateRight := goodIn_ca (goodIn_ca (goodIn_r _ [64, 19, 65, 8, 66, 67, 68, 12, 69, 14, 70, 59, 4, 60, 71, 72, 73, 74, 75, 76, 77, 78, 79, 80, 81, 82, 83, 84, 85, 86, 92, 93, 94, 95, 96, 87, 88, 89, 90, 91] (by decide +kernel) (by decide +kernel)) (goodIn_sub (fun _ h => List.mem_cons_of_mem _ (List.mem_append_left _ (List.mem_append_right _ h))) (by decide +kernel))) (goodIn_sub (fun _ h => List.mem_cons_of_mem _ (List.mem_append_right _ h)) (by decide +kernel))
set_option maxRecDepth 20000 in
theorem gX6_riskFor_X6_rateRight : GoodIn wsX6_riskFor (wsV RX6 226 RX6 yX6_rateRight wsX6_rateRight) := goodIn_app (goodIn_of _ (by decide +kernel)) ggX6_riskFor_X6_rateRight
theorem dX6_riskFor_0 : decode cX6_riskFor 0 = .ok (.aload_n 0, 1) := by decide +kernel
theorem dX6_riskFor_1 : decode cX6_riskFor 1 = .ok (.iload_n 1, 1) := by decide +kernel
theorem dX6_riskFor_2 : decode cX6_riskFor 2 = .ok (.invokevirtual 68, 3) := by decide +kernel
theorem dX6_riskFor_5 : decode cX6_riskFor 5 = .ok (.aload_n 0, 1) := by decide +kernel
theorem dX6_riskFor_6 : decode cX6_riskFor 6 = .ok (.iload_n 2, 1) := by decide +kernel
theorem dX6_riskFor_7 : decode cX6_riskFor 7 = .ok (.invokevirtual 155, 3) := by decide +kernel
theorem dX6_riskFor_10 : decode cX6_riskFor 10 = .ok (.aload_n 0, 1) := by decide +kernel
theorem dX6_riskFor_11 : decode cX6_riskFor 11 = .ok (.iload_n 2, 1) := by decide +kernel
theorem dX6_riskFor_12 : decode cX6_riskFor 12 = .ok (.iload_n 1, 1) := by decide +kernel
theorem dX6_riskFor_13 : decode cX6_riskFor 13 = .ok (.aload_n 0, 1) := by decide +kernel
theorem dX6_riskFor_14 : decode cX6_riskFor 14 = .ok (.iload_n 2, 1) := by decide +kernel
theorem dX6_riskFor_15 : decode cX6_riskFor 15 = .ok (.iconst (-1), 1) := by decide +kernel
theorem dX6_riskFor_16 : decode cX6_riskFor 16 = .ok (.invokevirtual 168, 3) := by decide +kernel
theorem dX6_riskFor_19 : decode cX6_riskFor 19 = .ok (.invokevirtual 226, 3) := by decide +kernel
theorem dX6_riskFor_22 : decode cX6_riskFor 22 = .ok (.ireturn, 1) := by decide +kernel
set_option maxRecDepth 20000 in
theorem ggX6_meanRisk_X6_rateGrant : GoodIn wsX6_meanRisk wsX6_rateGrant := goodIn_ca (goodIn_ca (goodIn_r _ [10, 3, 11, 12, 13, 14, 15, 16, 17, 18, 19, 20, 21, 22, 9, 23, 4, 24, 25, 26, 27, 28, 29, 30, 31, 32, 33, 34, 35, 36, 37, 38, 39, 40, 41, 42, 43, 44, 45, 46, 47, 48, 49, 50, 51, 52, 53, 54, 55, 56, 57, 58, 59, 60, 61, 62, 63, 64, 65, 66, 67, 68, 69, 70, 71, 72, 73, 74, 75, 76, 77, 78, 79, 80, 81, 82, 83, 84, 85, 86, 87, 88, 89, 90, 91, 92, 93, 94, 95, 96, 97, 98, 99, 100, 101, 102, 103, 104, 105, 106] (by decide +kernel) (by decide +kernel)) (goodIn_sub (fun _ h => List.mem_cons_of_mem _ (List.mem_append_left _ (List.mem_append_left _ (List.mem_append_right _ h)))) (by decide +kernel))) (goodIn_sub (fun _ h => List.mem_cons_of_mem _ (List.mem_append_right _ h)) (by decide +kernel))
set_option maxRecDepth 20000 in
theorem gX6_meanRisk_X6_rateGrant : GoodIn wsX6_meanRisk (wsV RX6 223 RX6 yX6_rateGrant wsX6_rateGrant) := goodIn_app (goodIn_of _ (by decide +kernel)) ggX6_meanRisk_X6_rateGrant
theorem dX6_meanRisk_0 : decode cX6_meanRisk 0 = .ok (.iconst 0, 1) := by decide +kernel
theorem dX6_meanRisk_1 : decode cX6_meanRisk 1 = .ok (.istore_n 1, 1) := by decide +kernel
theorem dX6_meanRisk_2 : decode cX6_meanRisk 2 = .ok (.iconst 0, 1) := by decide +kernel
theorem dX6_meanRisk_3 : decode cX6_meanRisk 3 = .ok (.istore_n 2, 1) := by decide +kernel
theorem dX6_meanRisk_4 : decode cX6_meanRisk 4 = .ok (.iconst 0, 1) := by decide +kernel
theorem dX6_meanRisk_5 : decode cX6_meanRisk 5 = .ok (.istore_n 3, 1) := by decide +kernel
theorem dX6_meanRisk_6 : decode cX6_meanRisk 6 = .ok (.iload_n 3, 1) := by decide +kernel
theorem dX6_meanRisk_7 : decode cX6_meanRisk 7 = .ok (.aload_n 0, 1) := by decide +kernel
theorem dX6_meanRisk_8 : decode cX6_meanRisk 8 = .ok (.getfield 33, 3) := by decide +kernel
theorem dX6_meanRisk_11 : decode cX6_meanRisk 11 = .ok (.getfield 173, 3) := by decide +kernel
theorem dX6_meanRisk_14 : decode cX6_meanRisk 14 = .ok (.if_icmp .ge 34, 3) := by decide +kernel
theorem dX6_meanRisk_17 : decode cX6_meanRisk 17 = .ok (.aload_n 0, 1) := by decide +kernel
theorem dX6_meanRisk_18 : decode cX6_meanRisk 18 = .ok (.getfield 33, 3) := by decide +kernel
theorem dX6_meanRisk_21 : decode cX6_meanRisk 21 = .ok (.getfield 186, 3) := by decide +kernel
theorem dX6_meanRisk_24 : decode cX6_meanRisk 24 = .ok (.iload_n 3, 1) := by decide +kernel
theorem dX6_meanRisk_25 : decode cX6_meanRisk 25 = .ok (.caload, 1) := by decide +kernel
theorem dX6_meanRisk_26 : decode cX6_meanRisk 26 = .ok (.bipush 120, 2) := by decide +kernel
theorem dX6_meanRisk_28 : decode cX6_meanRisk 28 = .ok (.if_icmp .eq 14, 3) := by decide +kernel
theorem dX6_meanRisk_31 : decode cX6_meanRisk 31 = .ok (.iload_n 1, 1) := by decide +kernel
theorem dX6_meanRisk_32 : decode cX6_meanRisk 32 = .ok (.aload_n 0, 1) := by decide +kernel
theorem dX6_meanRisk_33 : decode cX6_meanRisk 33 = .ok (.iload_n 3, 1) := by decide +kernel
theorem dX6_meanRisk_34 : decode cX6_meanRisk 34 = .ok (.invokevirtual 223, 3) := by decide +kernel
theorem dX6_meanRisk_37 : decode cX6_meanRisk 37 = .ok (.iadd, 1) := by decide +kernel
theorem dX6_meanRisk_38 : decode cX6_meanRisk 38 = .ok (.istore_n 1, 1) := by decide +kernel
theorem dX6_meanRisk_39 : decode cX6_meanRisk 39 = .ok (.iinc 2 1, 3) := by decide +kernel
theorem dX6_meanRisk_42 : decode cX6_meanRisk 42 = .ok (.iinc 3 1, 3) := by decide +kernel
theorem dX6_meanRisk_45 : decode cX6_meanRisk 45 = .ok (.goto (-39), 3) := by decide +kernel
theorem dX6_meanRisk_48 : decode cX6_meanRisk 48 = .ok (.iload_n 2, 1) := by decide +kernel
theorem dX6_meanRisk_49 : decode cX6_meanRisk 49 = .ok (.ifCond .ne 13, 3) := by decide +kernel
theorem dX6_meanRisk_52 : decode cX6_meanRisk 52 = .ok (.new 230, 3) := by decide +kernel
theorem dX6_meanRisk_55 : decode cX6_meanRisk 55 = .ok (.dup, 1) := by decide +kernel
theorem dX6_meanRisk_56 : decode cX6_meanRisk 56 = .ok (.ldc 232, 2) := by decide +kernel
theorem dX6_meanRisk_58 : decode cX6_meanRisk 58 = .ok (.invokespecial 234, 3) := by decide +kernel
theorem dX6_meanRisk_61 : decode cX6_meanRisk 61 = .ok (.athrow, 1) := by decide +kernel
theorem dX6_meanRisk_62 : decode cX6_meanRisk 62 = .ok (.iload_n 1, 1) := by decide +kernel
theorem dX6_meanRisk_63 : decode cX6_meanRisk 63 = .ok (.i2d, 1) := by decide +kernel
theorem dX6_meanRisk_64 : decode cX6_meanRisk 64 = .ok (.iload_n 2, 1) := by decide +kernel
theorem dX6_meanRisk_65 : decode cX6_meanRisk 65 = .ok (.i2d, 1) := by decide +kernel
theorem dX6_meanRisk_66 : decode cX6_meanRisk 66 = .ok (.ddiv, 1) := by decide +kernel
theorem dX6_meanRisk_67 : decode cX6_meanRisk 67 = .ok (.dreturn, 1) := by decide +kernel
set_option maxRecDepth 20000 in
theorem ggX6_reviewerOf_X6_requireGrant : GoodIn wsX6_reviewerOf wsX6_requireGrant := goodIn_ca (goodIn_r _ [5, 6, 7, 8, 9, 10, 11, 12, 13, 14, 51, 52, 53, 54, 55, 56, 57, 58, 59, 60, 61, 62, 63, 64, 65, 66] (by decide +kernel) (by decide +kernel)) (goodIn_sub (fun _ h => List.mem_cons_of_mem _ (List.mem_append_left _ (List.mem_append_right _ h))) (by decide +kernel))
set_option maxRecDepth 20000 in
theorem gX6_reviewerOf_X6_requireGrant : GoodIn wsX6_reviewerOf (wsV RX6 183 RX6 yX6_requireGrant wsX6_requireGrant) := goodIn_app (goodIn_of _ (by decide +kernel)) ggX6_reviewerOf_X6_requireGrant
set_option maxRecDepth 20000 in
theorem ggX6_reviewerOf_X6_findReviewer : GoodIn wsX6_reviewerOf wsX6_findReviewer := goodIn_ca (goodIn_r _ [18, 8, 19, 20, 21, 22, 23, 24, 25, 26, 27, 28, 29, 30, 31, 32, 33, 34, 35, 36, 37, 38, 39, 40, 41, 42, 43, 44, 45, 46, 47, 48, 49, 50, 51, 52, 53, 54, 55, 56, 57, 58, 59, 60, 61, 62, 63, 64, 65, 66, 67, 68, 69, 70, 71, 72, 73, 74, 75, 76, 77, 78, 79, 80, 81] (by decide +kernel) (by decide +kernel)) (goodIn_sub (fun _ h => List.mem_cons_of_mem _ (List.mem_append_right _ h)) (by decide +kernel))
set_option maxRecDepth 20000 in
theorem gX6_reviewerOf_X6_findReviewer : GoodIn wsX6_reviewerOf (wsV RX6 235 RX6 yX6_findReviewer wsX6_findReviewer) := goodIn_app (goodIn_of _ (by decide +kernel)) ggX6_reviewerOf_X6_findReviewer
theorem dX6_reviewerOf_0 : decode cX6_reviewerOf 0 = .ok (.aload_n 0, 1) := by decide +kernel
theorem dX6_reviewerOf_1 : decode cX6_reviewerOf 1 = .ok (.iload_n 1, 1) := by decide +kernel
theorem dX6_reviewerOf_2 : decode cX6_reviewerOf 2 = .ok (.invokevirtual 183, 3) := by decide +kernel
theorem dX6_reviewerOf_5 : decode cX6_reviewerOf 5 = .ok (.aload_n 0, 1) := by decide +kernel
theorem dX6_reviewerOf_6 : decode cX6_reviewerOf 6 = .ok (.iload_n 1, 1) := by decide +kernel
theorem dX6_reviewerOf_7 : decode cX6_reviewerOf 7 = .ok (.invokevirtual 235, 3) := by decide +kernel
theorem dX6_reviewerOf_10 : decode cX6_reviewerOf 10 = .ok (.ireturn, 1) := by decide +kernel
theorem dX6_day_0 : decode cX6_day 0 = .ok (.aload_n 0, 1) := by decide +kernel
theorem dX6_day_1 : decode cX6_day 1 = .ok (.getfield 51, 3) := by decide +kernel
theorem dX6_day_4 : decode cX6_day 4 = .ok (.ireturn, 1) := by decide +kernel
set_option maxRecDepth 20000 in
theorem ggX6_pass_X6_requireDays : GoodIn wsX6_pass wsX6_requireDays := goodIn_ca (goodIn_r _ [9, 10, 11] (by decide +kernel) (by decide +kernel)) (goodIn_sub (fun _ h => List.mem_cons_of_mem _ (List.mem_append_left _ (List.mem_append_left _ (List.mem_append_right _ h)))) (by decide +kernel))
set_option maxRecDepth 20000 in
theorem gX6_pass_X6_requireDays : GoodIn wsX6_pass (wsV RX6 238 RX6 yX6_requireDays wsX6_requireDays) := goodIn_app (goodIn_of _ (by decide +kernel)) ggX6_pass_X6_requireDays
set_option maxRecDepth 20000 in
theorem ggX6_pass_X6_decideBySilence : GoodIn wsX6_pass wsX6_decideBySilence := goodIn_ca (goodIn_ca (goodIn_r _ [15, 2, 16, 17, 18, 19, 20, 21, 22, 8, 23, 24, 25, 26, 27, 28, 29, 30, 31, 1, 32, 33, 34, 35, 36, 37, 38, 39, 40, 41, 42, 43, 44, 45, 46, 47, 48, 49, 50, 51, 52, 53, 54, 55, 56, 57, 58, 59, 60, 61, 62, 63, 64, 65, 66, 67, 68, 69, 70, 71, 72, 73, 74, 75, 76, 77, 78, 79, 80, 81, 82, 83, 84, 85, 86, 87, 88, 89, 90, 91, 92, 93, 94, 95, 96, 97, 98, 99, 100, 101, 102, 103, 104, 105, 106, 107, 108, 109, 110, 111, 112, 113, 114, 115, 116, 117, 118, 119, 120, 121, 122, 142, 143, 144, 145, 146, 147, 148, 149, 150, 151, 152, 153, 154, 155, 156, 157, 158, 159, 160, 161, 162, 163, 164, 165, 166, 167, 168, 169, 170, 171, 172, 173, 174, 175, 176, 177, 178, 179, 180, 181, 182, 183, 184, 185] (by decide +kernel) (by decide +kernel)) (goodIn_sub (fun _ h => List.mem_cons_of_mem _ (List.mem_append_left _ (List.mem_append_right _ h))) (by decide +kernel))) (goodIn_sub (fun _ h => List.mem_cons_of_mem _ (List.mem_append_right _ h)) (by decide +kernel))
set_option maxRecDepth 20000 in
theorem gX6_pass_X6_decideBySilence : GoodIn wsX6_pass (wsV RX6 247 RX6 yX6_decideBySilence wsX6_decideBySilence) := goodIn_app (goodIn_of _ (by decide +kernel)) ggX6_pass_X6_decideBySilence
set_option maxRecDepth 20000 in
theorem ggX6_pass_X6_endDueGrants : GoodIn wsX6_pass wsX6_endDueGrants := goodIn_ca (goodIn_r _ [126, 24, 37, 1, 127, 128, 129, 43, 130, 131, 46, 132, 69, 8, 70, 65, 66, 67, 133, 134, 135, 136, 25, 38, 137, 51, 33, 34, 35, 36, 39, 40, 41, 42, 44, 45, 47, 48, 49, 50, 52, 53, 54, 55, 56, 57, 58, 59, 60, 61, 62, 63, 64, 138, 139, 140, 141, 95, 94, 108, 109, 110, 111, 112, 113, 114, 115, 116, 117, 118, 119, 120, 121, 122, 142, 143, 144, 145, 146, 147, 148, 149, 150, 159, 160, 161, 162, 163, 164, 165, 171, 172, 173, 174, 175, 176, 177, 178, 179, 180, 181, 182, 183, 184, 185] (by decide +kernel) (by decide +kernel)) (goodIn_sub (fun _ h => List.mem_cons_of_mem _ (List.mem_append_left _ (List.mem_append_right _ h))) (by decide +kernel))
set_option maxRecDepth 20000 in
theorem gX6_pass_X6_endDueGrants : GoodIn wsX6_pass (wsV RX6 250 RX6 yX6_endDueGrants wsX6_endDueGrants) := goodIn_app (goodIn_of _ (by decide +kernel)) ggX6_pass_X6_endDueGrants
theorem dX6_pass_0 : decode cX6_pass 0 = .ok (.aload_n 0, 1) := by decide +kernel
theorem dX6_pass_1 : decode cX6_pass 1 = .ok (.iload_n 1, 1) := by decide +kernel
theorem dX6_pass_2 : decode cX6_pass 2 = .ok (.invokevirtual 238, 3) := by decide +kernel
theorem dX6_pass_5 : decode cX6_pass 5 = .ok (.iconst 0, 1) := by decide +kernel
theorem dX6_pass_6 : decode cX6_pass 6 = .ok (.istore_n 2, 1) := by decide +kernel
theorem dX6_pass_7 : decode cX6_pass 7 = .ok (.iload_n 2, 1) := by decide +kernel
theorem dX6_pass_8 : decode cX6_pass 8 = .ok (.iload_n 1, 1) := by decide +kernel
theorem dX6_pass_9 : decode cX6_pass 9 = .ok (.if_icmp .ge 51, 3) := by decide +kernel
theorem dX6_pass_12 : decode cX6_pass 12 = .ok (.aload_n 0, 1) := by decide +kernel
theorem dX6_pass_13 : decode cX6_pass 13 = .ok (.dup, 1) := by decide +kernel
theorem dX6_pass_14 : decode cX6_pass 14 = .ok (.getfield 51, 3) := by decide +kernel
theorem dX6_pass_17 : decode cX6_pass 17 = .ok (.iconst 1, 1) := by decide +kernel
theorem dX6_pass_18 : decode cX6_pass 18 = .ok (.iadd, 1) := by decide +kernel
theorem dX6_pass_19 : decode cX6_pass 19 = .ok (.putfield 51, 3) := by decide +kernel
theorem dX6_pass_22 : decode cX6_pass 22 = .ok (.aload_n 0, 1) := by decide +kernel
theorem dX6_pass_23 : decode cX6_pass 23 = .ok (.getfield 40, 3) := by decide +kernel
theorem dX6_pass_26 : decode cX6_pass 26 = .ok (.getfield 241, 3) := by decide +kernel
theorem dX6_pass_29 : decode cX6_pass 29 = .ok (.ifCond .le 21, 3) := by decide +kernel
theorem dX6_pass_32 : decode cX6_pass 32 = .ok (.aload_n 0, 1) := by decide +kernel
theorem dX6_pass_33 : decode cX6_pass 33 = .ok (.getfield 51, 3) := by decide +kernel
theorem dX6_pass_36 : decode cX6_pass 36 = .ok (.aload_n 0, 1) := by decide +kernel
theorem dX6_pass_37 : decode cX6_pass 37 = .ok (.getfield 40, 3) := by decide +kernel
theorem dX6_pass_40 : decode cX6_pass 40 = .ok (.getfield 244, 3) := by decide +kernel
theorem dX6_pass_43 : decode cX6_pass 43 = .ok (.if_icmp .ne 7, 3) := by decide +kernel
theorem dX6_pass_46 : decode cX6_pass 46 = .ok (.aload_n 0, 1) := by decide +kernel
theorem dX6_pass_47 : decode cX6_pass 47 = .ok (.invokevirtual 247, 3) := by decide +kernel
theorem dX6_pass_50 : decode cX6_pass 50 = .ok (.aload_n 0, 1) := by decide +kernel
theorem dX6_pass_51 : decode cX6_pass 51 = .ok (.invokevirtual 250, 3) := by decide +kernel
theorem dX6_pass_54 : decode cX6_pass 54 = .ok (.iinc 2 1, 3) := by decide +kernel
theorem dX6_pass_57 : decode cX6_pass 57 = .ok (.goto (-50), 3) := by decide +kernel
theorem dX6_pass_60 : decode cX6_pass 60 = .ok (.aload_n 0, 1) := by decide +kernel
theorem dX6_pass_61 : decode cX6_pass 61 = .ok (.getfield 51, 3) := by decide +kernel
theorem dX6_pass_64 : decode cX6_pass 64 = .ok (.ireturn, 1) := by decide +kernel
theorem dX6_setLimit_0 : decode cX6_setLimit 0 = .ok (.iload_n 1, 1) := by decide +kernel
theorem dX6_setLimit_1 : decode cX6_setLimit 1 = .ok (.ifCond .lt 10, 3) := by decide +kernel
theorem dX6_setLimit_4 : decode cX6_setLimit 4 = .ok (.iload_n 1, 1) := by decide +kernel
theorem dX6_setLimit_5 : decode cX6_setLimit 5 = .ok (.sipush 999, 3) := by decide +kernel
theorem dX6_setLimit_8 : decode cX6_setLimit 8 = .ok (.if_icmp .le 13, 3) := by decide +kernel
theorem dX6_setLimit_11 : decode cX6_setLimit 11 = .ok (.new 61, 3) := by decide +kernel
theorem dX6_setLimit_14 : decode cX6_setLimit 14 = .ok (.dup, 1) := by decide +kernel
theorem dX6_setLimit_15 : decode cX6_setLimit 15 = .ok (.ldc 253, 2) := by decide +kernel
theorem dX6_setLimit_17 : decode cX6_setLimit 17 = .ok (.invokespecial 65, 3) := by decide +kernel
theorem dX6_setLimit_20 : decode cX6_setLimit 20 = .ok (.athrow, 1) := by decide +kernel
theorem dX6_setLimit_21 : decode cX6_setLimit 21 = .ok (.aload_n 0, 1) := by decide +kernel
theorem dX6_setLimit_22 : decode cX6_setLimit 22 = .ok (.getfield 55, 3) := by decide +kernel
theorem dX6_setLimit_25 : decode cX6_setLimit 25 = .ok (.istore_n 2, 1) := by decide +kernel
theorem dX6_setLimit_26 : decode cX6_setLimit 26 = .ok (.aload_n 0, 1) := by decide +kernel
theorem dX6_setLimit_27 : decode cX6_setLimit 27 = .ok (.iload_n 1, 1) := by decide +kernel
theorem dX6_setLimit_28 : decode cX6_setLimit 28 = .ok (.putfield 55, 3) := by decide +kernel
theorem dX6_setLimit_31 : decode cX6_setLimit 31 = .ok (.iload_n 2, 1) := by decide +kernel
theorem dX6_setLimit_32 : decode cX6_setLimit 32 = .ok (.ireturn, 1) := by decide +kernel
theorem dX6_setGrace_0 : decode cX6_setGrace 0 = .ok (.iload_n 1, 1) := by decide +kernel
theorem dX6_setGrace_1 : decode cX6_setGrace 1 = .ok (.ifCond .lt 9, 3) := by decide +kernel
theorem dX6_setGrace_4 : decode cX6_setGrace 4 = .ok (.iload_n 1, 1) := by decide +kernel
theorem dX6_setGrace_5 : decode cX6_setGrace 5 = .ok (.bipush 10, 2) := by decide +kernel
theorem dX6_setGrace_7 : decode cX6_setGrace 7 = .ok (.if_icmp .le 13, 3) := by decide +kernel
theorem dX6_setGrace_10 : decode cX6_setGrace 10 = .ok (.new 61, 3) := by decide +kernel
theorem dX6_setGrace_13 : decode cX6_setGrace 13 = .ok (.dup, 1) := by decide +kernel
theorem dX6_setGrace_14 : decode cX6_setGrace 14 = .ok (.ldc 255, 2) := by decide +kernel
theorem dX6_setGrace_16 : decode cX6_setGrace 16 = .ok (.invokespecial 65, 3) := by decide +kernel
theorem dX6_setGrace_19 : decode cX6_setGrace 19 = .ok (.athrow, 1) := by decide +kernel
theorem dX6_setGrace_20 : decode cX6_setGrace 20 = .ok (.aload_n 0, 1) := by decide +kernel
theorem dX6_setGrace_21 : decode cX6_setGrace 21 = .ok (.getfield 58, 3) := by decide +kernel
theorem dX6_setGrace_24 : decode cX6_setGrace 24 = .ok (.istore_n 2, 1) := by decide +kernel
theorem dX6_setGrace_25 : decode cX6_setGrace 25 = .ok (.aload_n 0, 1) := by decide +kernel
theorem dX6_setGrace_26 : decode cX6_setGrace 26 = .ok (.iload_n 1, 1) := by decide +kernel
theorem dX6_setGrace_27 : decode cX6_setGrace 27 = .ok (.putfield 58, 3) := by decide +kernel
theorem dX6_setGrace_30 : decode cX6_setGrace 30 = .ok (.iload_n 2, 1) := by decide +kernel
theorem dX6_setGrace_31 : decode cX6_setGrace 31 = .ok (.ireturn, 1) := by decide +kernel
set_option maxRecDepth 20000 in
theorem ggX6_openCampaign_X6_requireDays : GoodIn wsX6_openCampaign wsX6_requireDays := goodIn_ca (goodIn_r _ [14, 15, 16] (by decide +kernel) (by decide +kernel)) (goodIn_sub (fun _ h => List.mem_cons_of_mem _ (List.mem_append_right _ h)) (by decide +kernel))
set_option maxRecDepth 20000 in
theorem gX6_openCampaign_X6_requireDays : GoodIn wsX6_openCampaign (wsV RX6 238 RX6 yX6_requireDays wsX6_requireDays) := goodIn_app (goodIn_of _ (by decide +kernel)) ggX6_openCampaign_X6_requireDays
set_option maxRecDepth 20000 in
theorem ggX6_openCampaign_X2_hasAnyInState : GoodIn wsX6_openCampaign wsX2_hasAnyInState := goodIn_ca (goodIn_r _ [21, 22, 23, 55, 56, 57, 58, 59, 60, 61] (by decide +kernel) (by decide +kernel)) (goodIn_sub (fun _ h => List.mem_cons_of_mem _ (List.mem_append_left _ (List.mem_append_right _ h))) (by decide +kernel))
set_option maxRecDepth 20000 in
theorem gX6_openCampaign_X2_hasAnyInState : GoodIn wsX6_openCampaign (wsV RX6 259 RX2 yX2_hasAnyInState wsX2_hasAnyInState) := goodIn_app (goodIn_of _ (by decide +kernel)) ggX6_openCampaign_X2_hasAnyInState
set_option maxRecDepth 20000 in
theorem ggX6_openCampaign_X0_open : GoodIn wsX6_openCampaign wsX0_open := goodIn_r _ [28, 29, 30, 31, 47, 48, 49, 50, 51, 52, 53, 54] (by decide +kernel) (by decide +kernel)
set_option maxRecDepth 20000 in
theorem gX6_openCampaign_X0_open : GoodIn wsX6_openCampaign (wsV RX6 265 RX0 yX0_open wsX0_open) := goodIn_app (goodIn_of _ (by decide +kernel)) ggX6_openCampaign_X0_open
set_option maxRecDepth 20000 in
theorem ggX6_openCampaign_X0_addItem : GoodIn wsX6_openCampaign wsX0_addItem := goodIn_ca (goodIn_r _ [35, 30, 36, 37, 31, 47, 48, 49, 50, 51, 52, 53, 54] (by decide +kernel) (by decide +kernel)) (goodIn_sub (fun _ h => List.mem_cons_of_mem _ (List.mem_append_left _ (List.mem_append_right _ h))) (by decide +kernel))
set_option maxRecDepth 20000 in
theorem gX6_openCampaign_X0_addItem : GoodIn wsX6_openCampaign (wsV RX6 268 RX0 yX0_addItem wsX0_addItem) := goodIn_app (goodIn_of _ (by decide +kernel)) ggX6_openCampaign_X0_addItem
theorem dX6_openCampaign_0 : decode cX6_openCampaign 0 = .ok (.aload_n 0, 1) := by decide +kernel
theorem dX6_openCampaign_1 : decode cX6_openCampaign 1 = .ok (.iload_n 1, 1) := by decide +kernel
theorem dX6_openCampaign_2 : decode cX6_openCampaign 2 = .ok (.invokevirtual 238, 3) := by decide +kernel
theorem dX6_openCampaign_5 : decode cX6_openCampaign 5 = .ok (.aload_n 0, 1) := by decide +kernel
theorem dX6_openCampaign_6 : decode cX6_openCampaign 6 = .ok (.getfield 40, 3) := by decide +kernel
theorem dX6_openCampaign_9 : decode cX6_openCampaign 9 = .ok (.getfield 241, 3) := by decide +kernel
theorem dX6_openCampaign_12 : decode cX6_openCampaign 12 = .ok (.ifCond .le 14, 3) := by decide +kernel
theorem dX6_openCampaign_15 : decode cX6_openCampaign 15 = .ok (.new 75, 3) := by decide +kernel
theorem dX6_openCampaign_18 : decode cX6_openCampaign 18 = .ok (.dup, 1) := by decide +kernel
theorem dX6_openCampaign_19 : decode cX6_openCampaign 19 = .ok (.ldc_w 257, 3) := by decide +kernel
theorem dX6_openCampaign_22 : decode cX6_openCampaign 22 = .ok (.invokespecial 79, 3) := by decide +kernel
theorem dX6_openCampaign_25 : decode cX6_openCampaign 25 = .ok (.athrow, 1) := by decide +kernel
theorem dX6_openCampaign_26 : decode cX6_openCampaign 26 = .ok (.aload_n 0, 1) := by decide +kernel
theorem dX6_openCampaign_27 : decode cX6_openCampaign 27 = .ok (.getfield 33, 3) := by decide +kernel
theorem dX6_openCampaign_30 : decode cX6_openCampaign 30 = .ok (.bipush 97, 2) := by decide +kernel
theorem dX6_openCampaign_32 : decode cX6_openCampaign 32 = .ok (.invokevirtual 259, 3) := by decide +kernel
theorem dX6_openCampaign_35 : decode cX6_openCampaign 35 = .ok (.ifCond .ne 14, 3) := by decide +kernel
theorem dX6_openCampaign_38 : decode cX6_openCampaign 38 = .ok (.new 75, 3) := by decide +kernel
theorem dX6_openCampaign_41 : decode cX6_openCampaign 41 = .ok (.dup, 1) := by decide +kernel
theorem dX6_openCampaign_42 : decode cX6_openCampaign 42 = .ok (.ldc_w 263, 3) := by decide +kernel
theorem dX6_openCampaign_45 : decode cX6_openCampaign 45 = .ok (.invokespecial 79, 3) := by decide +kernel
theorem dX6_openCampaign_48 : decode cX6_openCampaign 48 = .ok (.athrow, 1) := by decide +kernel
theorem dX6_openCampaign_49 : decode cX6_openCampaign 49 = .ok (.aload_n 0, 1) := by decide +kernel
theorem dX6_openCampaign_50 : decode cX6_openCampaign 50 = .ok (.getfield 40, 3) := by decide +kernel
theorem dX6_openCampaign_53 : decode cX6_openCampaign 53 = .ok (.aload_n 0, 1) := by decide +kernel
theorem dX6_openCampaign_54 : decode cX6_openCampaign 54 = .ok (.getfield 51, 3) := by decide +kernel
theorem dX6_openCampaign_57 : decode cX6_openCampaign 57 = .ok (.iload_n 1, 1) := by decide +kernel
theorem dX6_openCampaign_58 : decode cX6_openCampaign 58 = .ok (.iadd, 1) := by decide +kernel
theorem dX6_openCampaign_59 : decode cX6_openCampaign 59 = .ok (.invokevirtual 265, 3) := by decide +kernel
theorem dX6_openCampaign_62 : decode cX6_openCampaign 62 = .ok (.iconst 0, 1) := by decide +kernel
theorem dX6_openCampaign_63 : decode cX6_openCampaign 63 = .ok (.istore_n 2, 1) := by decide +kernel
theorem dX6_openCampaign_64 : decode cX6_openCampaign 64 = .ok (.iload_n 2, 1) := by decide +kernel
theorem dX6_openCampaign_65 : decode cX6_openCampaign 65 = .ok (.aload_n 0, 1) := by decide +kernel
theorem dX6_openCampaign_66 : decode cX6_openCampaign 66 = .ok (.getfield 33, 3) := by decide +kernel
theorem dX6_openCampaign_69 : decode cX6_openCampaign 69 = .ok (.getfield 173, 3) := by decide +kernel
theorem dX6_openCampaign_72 : decode cX6_openCampaign 72 = .ok (.if_icmp .ge 31, 3) := by decide +kernel
theorem dX6_openCampaign_75 : decode cX6_openCampaign 75 = .ok (.aload_n 0, 1) := by decide +kernel
theorem dX6_openCampaign_76 : decode cX6_openCampaign 76 = .ok (.getfield 33, 3) := by decide +kernel
theorem dX6_openCampaign_79 : decode cX6_openCampaign 79 = .ok (.getfield 186, 3) := by decide +kernel
theorem dX6_openCampaign_82 : decode cX6_openCampaign 82 = .ok (.iload_n 2, 1) := by decide +kernel
theorem dX6_openCampaign_83 : decode cX6_openCampaign 83 = .ok (.caload, 1) := by decide +kernel
theorem dX6_openCampaign_84 : decode cX6_openCampaign 84 = .ok (.bipush 97, 2) := by decide +kernel
theorem dX6_openCampaign_86 : decode cX6_openCampaign 86 = .ok (.if_icmp .ne 11, 3) := by decide +kernel
theorem dX6_openCampaign_89 : decode cX6_openCampaign 89 = .ok (.aload_n 0, 1) := by decide +kernel
theorem dX6_openCampaign_90 : decode cX6_openCampaign 90 = .ok (.getfield 40, 3) := by decide +kernel
theorem dX6_openCampaign_93 : decode cX6_openCampaign 93 = .ok (.iload_n 2, 1) := by decide +kernel
theorem dX6_openCampaign_94 : decode cX6_openCampaign 94 = .ok (.invokevirtual 268, 3) := by decide +kernel
theorem dX6_openCampaign_97 : decode cX6_openCampaign 97 = .ok (.iinc 2 1, 3) := by decide +kernel
theorem dX6_openCampaign_100 : decode cX6_openCampaign 100 = .ok (.goto (-36), 3) := by decide +kernel
theorem dX6_openCampaign_103 : decode cX6_openCampaign 103 = .ok (.aload_n 0, 1) := by decide +kernel
theorem dX6_openCampaign_104 : decode cX6_openCampaign 104 = .ok (.getfield 40, 3) := by decide +kernel
theorem dX6_openCampaign_107 : decode cX6_openCampaign 107 = .ok (.getfield 271, 3) := by decide +kernel
theorem dX6_openCampaign_110 : decode cX6_openCampaign 110 = .ok (.ireturn, 1) := by decide +kernel
set_option maxRecDepth 20000 in
theorem ggX6_answer_X6_requirePerson : GoodIn wsX6_answer wsX6_requirePerson := goodIn_ca (goodIn_r _ [15, 16, 17, 18, 19, 20, 21, 22, 23, 24, 145, 146, 147, 148, 149, 150, 151, 152, 153, 162, 163, 164, 165, 166] (by decide +kernel) (by decide +kernel)) (goodIn_sub (fun _ h => List.mem_cons_of_mem _ (List.mem_append_right _ h)) (by decide +kernel))
set_option maxRecDepth 20000 in
theorem gX6_answer_X6_requirePerson : GoodIn wsX6_answer (wsV RX6 68 RX6 yX6_requirePerson wsX6_requirePerson) := goodIn_app (goodIn_of _ (by decide +kernel)) ggX6_answer_X6_requirePerson
set_option maxRecDepth 20000 in
theorem ggX6_answer_X6_requireItem : GoodIn wsX6_answer wsX6_requireItem := goodIn_ca (goodIn_r _ [28, 16, 17, 7, 29, 30, 31, 32, 33, 34, 145, 146, 147, 148, 149, 150, 151, 152, 153, 154, 155, 156, 157, 158, 159, 160, 161] (by decide +kernel) (by decide +kernel)) (goodIn_sub (fun _ h => List.mem_cons_of_mem _ (List.mem_append_right _ h)) (by decide +kernel))
set_option maxRecDepth 20000 in
theorem gX6_answer_X6_requireItem : GoodIn wsX6_answer (wsV RX6 274 RX6 yX6_requireItem wsX6_requireItem) := goodIn_app (goodIn_of _ (by decide +kernel)) ggX6_answer_X6_requireItem
set_option maxRecDepth 20000 in
theorem ggX6_answer_X6_findReviewer : GoodIn wsX6_answer wsX6_findReviewer := goodIn_ca (goodIn_r _ [38, 39, 40, 41, 42, 18, 43, 44, 45, 46, 47, 48, 49, 50, 51, 52, 53, 54, 55, 56, 57, 58, 59, 60, 61, 22, 62, 24, 63, 64, 65, 20, 21, 23, 145, 146, 147, 148, 149, 150, 151, 152, 153, 167, 168, 169, 170, 171, 172, 173, 162, 163, 164, 165, 166, 174, 175, 176, 177, 178, 179, 180, 181, 182, 183] (by decide +kernel) (by decide +kernel)) (goodIn_sub (fun _ h => List.mem_cons_of_mem _ (List.mem_append_left _ (List.mem_append_left _ (List.mem_append_right _ h)))) (by decide +kernel))
set_option maxRecDepth 20000 in
theorem gX6_answer_X6_findReviewer : GoodIn wsX6_answer (wsV RX6 235 RX6 yX6_findReviewer wsX6_findReviewer) := goodIn_app (goodIn_of _ (by decide +kernel)) ggX6_answer_X6_findReviewer
set_option maxRecDepth 20000 in
theorem ggX6_answer_X6_decide : GoodIn wsX6_answer wsX6_decide := goodIn_ca (goodIn_r _ [69, 7, 10, 70, 71, 39, 72, 73, 74, 75, 76, 77, 32, 78, 79, 80, 81, 82, 83, 84, 85, 86, 87, 88, 89, 90, 91, 92, 93, 94, 95, 96, 97, 98, 145, 146, 147, 148, 149, 150, 151, 152, 153, 154, 155, 156, 157, 158, 159, 160, 161, 167, 168, 169, 170, 171, 172, 173, 184, 185, 186, 187, 188] (by decide +kernel) (by decide +kernel)) (goodIn_sub (fun _ h => List.mem_cons_of_mem _ (List.mem_append_left _ (List.mem_append_left _ (List.mem_append_right _ h)))) (by decide +kernel))
set_option maxRecDepth 20000 in
theorem gX6_answer_X6_decide : GoodIn wsX6_answer (wsV RX6 288 RX6 yX6_decide wsX6_decide) := goodIn_app (goodIn_of _ (by decide +kernel)) ggX6_answer_X6_decide
set_option maxRecDepth 20000 in
theorem ggX6_answer_X6_endDueGrants : GoodIn wsX6_answer wsX6_endDueGrants := goodIn_ca (goodIn_r _ [102, 39, 103, 71, 104, 105, 106, 107, 108, 109, 110, 111, 112, 14, 113, 114, 115, 116, 117, 118, 119, 120, 46, 44, 121, 40, 122, 123, 124, 125, 126, 127, 128, 129, 130, 131, 132, 133, 134, 135, 41, 42, 136, 137, 138, 51, 139, 140, 54, 55, 56, 57, 58, 141, 142, 143, 144, 72, 70, 84, 85, 86, 87, 88, 89, 90, 91, 92, 93, 94, 95, 96, 97, 98, 145, 146, 147, 148, 149, 150, 151, 152, 153, 167, 168, 169, 170, 171, 172, 173, 174, 175, 176, 177, 178, 179, 180, 181, 182, 183, 184, 185, 186, 187, 188] (by decide +kernel) (by decide +kernel)) (goodIn_sub (fun _ h => List.mem_cons_of_mem _ (List.mem_append_left _ (List.mem_append_left _ (List.mem_append_right _ h)))) (by decide +kernel))
set_option maxRecDepth 20000 in
theorem gX6_answer_X6_endDueGrants : GoodIn wsX6_answer (wsV RX6 250 RX6 yX6_endDueGrants wsX6_endDueGrants) := goodIn_app (goodIn_of _ (by decide +kernel)) ggX6_answer_X6_endDueGrants
theorem dX6_answer_0 : decode cX6_answer 0 = .ok (.aload_n 0, 1) := by decide +kernel
theorem dX6_answer_1 : decode cX6_answer 1 = .ok (.getfield 40, 3) := by decide +kernel
theorem dX6_answer_4 : decode cX6_answer 4 = .ok (.getfield 241, 3) := by decide +kernel
theorem dX6_answer_7 : decode cX6_answer 7 = .ok (.ifCond .ne 14, 3) := by decide +kernel
theorem dX6_answer_10 : decode cX6_answer 10 = .ok (.new 75, 3) := by decide +kernel
theorem dX6_answer_13 : decode cX6_answer 13 = .ok (.dup, 1) := by decide +kernel
theorem dX6_answer_14 : decode cX6_answer 14 = .ok (.ldc_w 272, 3) := by decide +kernel
theorem dX6_answer_17 : decode cX6_answer 17 = .ok (.invokespecial 79, 3) := by decide +kernel
theorem dX6_answer_20 : decode cX6_answer 20 = .ok (.athrow, 1) := by decide +kernel
theorem dX6_answer_21 : decode cX6_answer 21 = .ok (.aload_n 0, 1) := by decide +kernel
theorem dX6_answer_22 : decode cX6_answer 22 = .ok (.iload_n 1, 1) := by decide +kernel
theorem dX6_answer_23 : decode cX6_answer 23 = .ok (.invokevirtual 68, 3) := by decide +kernel
theorem dX6_answer_26 : decode cX6_answer 26 = .ok (.aload_n 0, 1) := by decide +kernel
theorem dX6_answer_27 : decode cX6_answer 27 = .ok (.iload_n 2, 1) := by decide +kernel
theorem dX6_answer_28 : decode cX6_answer 28 = .ok (.invokevirtual 274, 3) := by decide +kernel
theorem dX6_answer_31 : decode cX6_answer 31 = .ok (.iload_n 3, 1) := by decide +kernel
theorem dX6_answer_32 : decode cX6_answer 32 = .ok (.bipush 107, 2) := by decide +kernel
theorem dX6_answer_34 : decode cX6_answer 34 = .ok (.if_icmp .eq 20, 3) := by decide +kernel
theorem dX6_answer_37 : decode cX6_answer 37 = .ok (.iload_n 3, 1) := by decide +kernel
theorem dX6_answer_38 : decode cX6_answer 38 = .ok (.bipush 114, 2) := by decide +kernel
theorem dX6_answer_40 : decode cX6_answer 40 = .ok (.if_icmp .eq 14, 3) := by decide +kernel
theorem dX6_answer_43 : decode cX6_answer 43 = .ok (.new 61, 3) := by decide +kernel
theorem dX6_answer_46 : decode cX6_answer 46 = .ok (.dup, 1) := by decide +kernel
theorem dX6_answer_47 : decode cX6_answer 47 = .ok (.ldc_w 277, 3) := by decide +kernel
theorem dX6_answer_50 : decode cX6_answer 50 = .ok (.invokespecial 65, 3) := by decide +kernel
theorem dX6_answer_53 : decode cX6_answer 53 = .ok (.athrow, 1) := by decide +kernel
theorem dX6_answer_54 : decode cX6_answer 54 = .ok (.aload_n 0, 1) := by decide +kernel
theorem dX6_answer_55 : decode cX6_answer 55 = .ok (.getfield 40, 3) := by decide +kernel
theorem dX6_answer_58 : decode cX6_answer 58 = .ok (.getfield 279, 3) := by decide +kernel
theorem dX6_answer_61 : decode cX6_answer 61 = .ok (.iload_n 2, 1) := by decide +kernel
theorem dX6_answer_62 : decode cX6_answer 62 = .ok (.caload, 1) := by decide +kernel
theorem dX6_answer_63 : decode cX6_answer 63 = .ok (.bipush 117, 2) := by decide +kernel
theorem dX6_answer_65 : decode cX6_answer 65 = .ok (.if_icmp .eq 14, 3) := by decide +kernel
theorem dX6_answer_68 : decode cX6_answer 68 = .ok (.new 126, 3) := by decide +kernel
theorem dX6_answer_71 : decode cX6_answer 71 = .ok (.dup, 1) := by decide +kernel
theorem dX6_answer_72 : decode cX6_answer 72 = .ok (.ldc_w 282, 3) := by decide +kernel
theorem dX6_answer_75 : decode cX6_answer 75 = .ok (.invokespecial 130, 3) := by decide +kernel
theorem dX6_answer_78 : decode cX6_answer 78 = .ok (.athrow, 1) := by decide +kernel
theorem dX6_answer_79 : decode cX6_answer 79 = .ok (.aload_n 0, 1) := by decide +kernel
theorem dX6_answer_80 : decode cX6_answer 80 = .ok (.aload_n 0, 1) := by decide +kernel
theorem dX6_answer_81 : decode cX6_answer 81 = .ok (.getfield 40, 3) := by decide +kernel
theorem dX6_answer_84 : decode cX6_answer 84 = .ok (.getfield 284, 3) := by decide +kernel
theorem dX6_answer_87 : decode cX6_answer 87 = .ok (.iload_n 2, 1) := by decide +kernel
theorem dX6_answer_88 : decode cX6_answer 88 = .ok (.iaload, 1) := by decide +kernel
theorem dX6_answer_89 : decode cX6_answer 89 = .ok (.invokevirtual 235, 3) := by decide +kernel
theorem dX6_answer_92 : decode cX6_answer 92 = .ok (.iload_n 1, 1) := by decide +kernel
theorem dX6_answer_93 : decode cX6_answer 93 = .ok (.if_icmp .eq 14, 3) := by decide +kernel
theorem dX6_answer_96 : decode cX6_answer 96 = .ok (.new 126, 3) := by decide +kernel
theorem dX6_answer_99 : decode cX6_answer 99 = .ok (.dup, 1) := by decide +kernel
theorem dX6_answer_100 : decode cX6_answer 100 = .ok (.ldc_w 286, 3) := by decide +kernel
theorem dX6_answer_103 : decode cX6_answer 103 = .ok (.invokespecial 130, 3) := by decide +kernel
theorem dX6_answer_106 : decode cX6_answer 106 = .ok (.athrow, 1) := by decide +kernel
theorem dX6_answer_107 : decode cX6_answer 107 = .ok (.aload_n 0, 1) := by decide +kernel
theorem dX6_answer_108 : decode cX6_answer 108 = .ok (.iload_n 2, 1) := by decide +kernel
theorem dX6_answer_109 : decode cX6_answer 109 = .ok (.iload_n 3, 1) := by decide +kernel
theorem dX6_answer_110 : decode cX6_answer 110 = .ok (.iload_n 1, 1) := by decide +kernel
theorem dX6_answer_111 : decode cX6_answer 111 = .ok (.invokevirtual 288, 3) := by decide +kernel
theorem dX6_answer_114 : decode cX6_answer 114 = .ok (.iload_n 3, 1) := by decide +kernel
theorem dX6_answer_115 : decode cX6_answer 115 = .ok (.bipush 114, 2) := by decide +kernel
theorem dX6_answer_117 : decode cX6_answer 117 = .ok (.if_icmp .ne 7, 3) := by decide +kernel
theorem dX6_answer_120 : decode cX6_answer 120 = .ok (.aload_n 0, 1) := by decide +kernel
theorem dX6_answer_121 : decode cX6_answer 121 = .ok (.invokevirtual 250, 3) := by decide +kernel
theorem dX6_answer_124 : decode cX6_answer 124 = .ok (.aload_n 0, 1) := by decide +kernel
theorem dX6_answer_125 : decode cX6_answer 125 = .ok (.getfield 40, 3) := by decide +kernel
theorem dX6_answer_128 : decode cX6_answer 128 = .ok (.getfield 241, 3) := by decide +kernel
theorem dX6_answer_131 : decode cX6_answer 131 = .ok (.ireturn, 1) := by decide +kernel
theorem dX6_items_0 : decode cX6_items 0 = .ok (.aload_n 0, 1) := by decide +kernel
theorem dX6_items_1 : decode cX6_items 1 = .ok (.getfield 40, 3) := by decide +kernel
theorem dX6_items_4 : decode cX6_items 4 = .ok (.getfield 271, 3) := by decide +kernel
theorem dX6_items_7 : decode cX6_items 7 = .ok (.ireturn, 1) := by decide +kernel
theorem dX6_isOpen_0 : decode cX6_isOpen 0 = .ok (.aload_n 0, 1) := by decide +kernel
theorem dX6_isOpen_1 : decode cX6_isOpen 1 = .ok (.getfield 40, 3) := by decide +kernel
theorem dX6_isOpen_4 : decode cX6_isOpen 4 = .ok (.getfield 241, 3) := by decide +kernel
theorem dX6_isOpen_7 : decode cX6_isOpen 7 = .ok (.ifCond .le 7, 3) := by decide +kernel
theorem dX6_isOpen_10 : decode cX6_isOpen 10 = .ok (.iconst 1, 1) := by decide +kernel
theorem dX6_isOpen_11 : decode cX6_isOpen 11 = .ok (.goto 4, 3) := by decide +kernel
theorem dX6_isOpen_14 : decode cX6_isOpen 14 = .ok (.iconst 0, 1) := by decide +kernel
theorem dX6_isOpen_15 : decode cX6_isOpen 15 = .ok (.ireturn, 1) := by decide +kernel
theorem dX6_undecided_0 : decode cX6_undecided 0 = .ok (.aload_n 0, 1) := by decide +kernel
theorem dX6_undecided_1 : decode cX6_undecided 1 = .ok (.getfield 40, 3) := by decide +kernel
theorem dX6_undecided_4 : decode cX6_undecided 4 = .ok (.getfield 241, 3) := by decide +kernel
theorem dX6_undecided_7 : decode cX6_undecided 7 = .ok (.ireturn, 1) := by decide +kernel
set_option maxRecDepth 20000 in
theorem ggX6_grantOf_X6_requireItem : GoodIn wsX6_grantOf wsX6_requireItem := goodIn_ca (goodIn_r _ [7, 8, 9, 1, 10, 11, 12, 13, 14, 15, 16, 17, 18, 19, 20, 21, 22, 23, 24, 25, 26, 27, 28, 29, 30, 31, 32] (by decide +kernel) (by decide +kernel)) (goodIn_sub (fun _ h => List.mem_cons_of_mem _ (List.mem_append_right _ h)) (by decide +kernel))
set_option maxRecDepth 20000 in
theorem gX6_grantOf_X6_requireItem : GoodIn wsX6_grantOf (wsV RX6 274 RX6 yX6_requireItem wsX6_requireItem) := goodIn_app (goodIn_of _ (by decide +kernel)) ggX6_grantOf_X6_requireItem
theorem dX6_grantOf_0 : decode cX6_grantOf 0 = .ok (.aload_n 0, 1) := by decide +kernel
theorem dX6_grantOf_1 : decode cX6_grantOf 1 = .ok (.iload_n 1, 1) := by decide +kernel
theorem dX6_grantOf_2 : decode cX6_grantOf 2 = .ok (.invokevirtual 274, 3) := by decide +kernel
theorem dX6_grantOf_5 : decode cX6_grantOf 5 = .ok (.aload_n 0, 1) := by decide +kernel
theorem dX6_grantOf_6 : decode cX6_grantOf 6 = .ok (.getfield 40, 3) := by decide +kernel
theorem dX6_grantOf_9 : decode cX6_grantOf 9 = .ok (.getfield 284, 3) := by decide +kernel
theorem dX6_grantOf_12 : decode cX6_grantOf 12 = .ok (.iload_n 1, 1) := by decide +kernel
theorem dX6_grantOf_13 : decode cX6_grantOf 13 = .ok (.iaload, 1) := by decide +kernel
theorem dX6_grantOf_14 : decode cX6_grantOf 14 = .ok (.ireturn, 1) := by decide +kernel
set_option maxRecDepth 20000 in
theorem ggX6_verdict_X6_requireItem : GoodIn wsX6_verdict wsX6_requireItem := goodIn_ca (goodIn_r _ [7, 8, 9, 1, 10, 11, 12, 13, 14, 15, 16, 17, 18, 19, 20, 21, 22, 23, 24, 25, 26, 27, 28, 29, 30, 31, 32] (by decide +kernel) (by decide +kernel)) (goodIn_sub (fun _ h => List.mem_cons_of_mem _ (List.mem_append_right _ h)) (by decide +kernel))
set_option maxRecDepth 20000 in
theorem gX6_verdict_X6_requireItem : GoodIn wsX6_verdict (wsV RX6 274 RX6 yX6_requireItem wsX6_requireItem) := goodIn_app (goodIn_of _ (by decide +kernel)) ggX6_verdict_X6_requireItem
theorem dX6_verdict_0 : decode cX6_verdict 0 = .ok (.aload_n 0, 1) := by decide +kernel
theorem dX6_verdict_1 : decode cX6_verdict 1 = .ok (.iload_n 1, 1) := by decide +kernel
theorem dX6_verdict_2 : decode cX6_verdict 2 = .ok (.invokevirtual 274, 3) := by decide +kernel
theorem dX6_verdict_5 : decode cX6_verdict 5 = .ok (.aload_n 0, 1) := by decide +kernel
theorem dX6_verdict_6 : decode cX6_verdict 6 = .ok (.getfield 40, 3) := by decide +kernel
theorem dX6_verdict_9 : decode cX6_verdict 9 = .ok (.getfield 279, 3) := by decide +kernel
theorem dX6_verdict_12 : decode cX6_verdict 12 = .ok (.iload_n 1, 1) := by decide +kernel
theorem dX6_verdict_13 : decode cX6_verdict 13 = .ok (.caload, 1) := by decide +kernel
theorem dX6_verdict_14 : decode cX6_verdict 14 = .ok (.ireturn, 1) := by decide +kernel
set_option maxRecDepth 20000 in
theorem ggX6_decider_X6_requireItem : GoodIn wsX6_decider wsX6_requireItem := goodIn_ca (goodIn_r _ [10, 11, 12, 3, 13, 14, 15, 16, 17, 18, 19, 20, 21, 22, 23, 24, 25, 26, 27, 28, 29, 30, 31, 32, 33, 34, 35] (by decide +kernel) (by decide +kernel)) (goodIn_sub (fun _ h => List.mem_cons_of_mem _ (List.mem_append_right _ h)) (by decide +kernel))
set_option maxRecDepth 20000 in
theorem gX6_decider_X6_requireItem : GoodIn wsX6_decider (wsV RX6 274 RX6 yX6_requireItem wsX6_requireItem) := goodIn_app (goodIn_of _ (by decide +kernel)) ggX6_decider_X6_requireItem
theorem dX6_decider_0 : decode cX6_decider 0 = .ok (.aload_n 0, 1) := by decide +kernel
theorem dX6_decider_1 : decode cX6_decider 1 = .ok (.iload_n 1, 1) := by decide +kernel
theorem dX6_decider_2 : decode cX6_decider 2 = .ok (.invokevirtual 274, 3) := by decide +kernel
theorem dX6_decider_5 : decode cX6_decider 5 = .ok (.aload_n 0, 1) := by decide +kernel
theorem dX6_decider_6 : decode cX6_decider 6 = .ok (.getfield 40, 3) := by decide +kernel
theorem dX6_decider_9 : decode cX6_decider 9 = .ok (.getfield 279, 3) := by decide +kernel
theorem dX6_decider_12 : decode cX6_decider 12 = .ok (.iload_n 1, 1) := by decide +kernel
theorem dX6_decider_13 : decode cX6_decider 13 = .ok (.caload, 1) := by decide +kernel
theorem dX6_decider_14 : decode cX6_decider 14 = .ok (.bipush 117, 2) := by decide +kernel
theorem dX6_decider_16 : decode cX6_decider 16 = .ok (.if_icmp .ne 14, 3) := by decide +kernel
theorem dX6_decider_19 : decode cX6_decider 19 = .ok (.new 75, 3) := by decide +kernel
theorem dX6_decider_22 : decode cX6_decider 22 = .ok (.dup, 1) := by decide +kernel
theorem dX6_decider_23 : decode cX6_decider 23 = .ok (.ldc_w 292, 3) := by decide +kernel
theorem dX6_decider_26 : decode cX6_decider 26 = .ok (.invokespecial 79, 3) := by decide +kernel
theorem dX6_decider_29 : decode cX6_decider 29 = .ok (.athrow, 1) := by decide +kernel
theorem dX6_decider_30 : decode cX6_decider 30 = .ok (.aload_n 0, 1) := by decide +kernel
theorem dX6_decider_31 : decode cX6_decider 31 = .ok (.getfield 40, 3) := by decide +kernel
theorem dX6_decider_34 : decode cX6_decider 34 = .ok (.getfield 294, 3) := by decide +kernel
theorem dX6_decider_37 : decode cX6_decider 37 = .ok (.iload_n 1, 1) := by decide +kernel
theorem dX6_decider_38 : decode cX6_decider 38 = .ok (.iaload, 1) := by decide +kernel
theorem dX6_decider_39 : decode cX6_decider 39 = .ok (.ireturn, 1) := by decide +kernel
set_option maxRecDepth 20000 in
theorem ggX6_nextItem_X6_requirePerson : GoodIn wsX6_nextItem wsX6_requirePerson := goodIn_ca (goodIn_r _ [11, 12, 13, 14, 15, 16, 17, 18, 19, 20, 107, 108, 109, 110, 111, 112, 113, 114, 115, 124, 125, 126, 127, 128] (by decide +kernel) (by decide +kernel)) (goodIn_sub (fun _ h => List.mem_cons_of_mem _ (List.mem_append_left _ (List.mem_append_right _ h))) (by decide +kernel))
set_option maxRecDepth 20000 in
theorem gX6_nextItem_X6_requirePerson : GoodIn wsX6_nextItem (wsV RX6 68 RX6 yX6_requirePerson wsX6_requirePerson) := goodIn_app (goodIn_of _ (by decide +kernel)) ggX6_nextItem_X6_requirePerson
set_option maxRecDepth 20000 in
theorem ggX6_nextItem_X6_findReviewer : GoodIn wsX6_nextItem wsX6_findReviewer := goodIn_ca (goodIn_r _ [24, 25, 26, 27, 28, 14, 29, 30, 31, 32, 33, 34, 35, 36, 37, 38, 39, 40, 41, 42, 43, 44, 45, 46, 47, 18, 48, 20, 49, 50, 51, 16, 17, 19, 107, 108, 109, 110, 111, 112, 113, 114, 115, 129, 130, 131, 132, 133, 134, 135, 124, 125, 126, 127, 128, 136, 137, 138, 139, 140, 141, 142, 143, 144, 145] (by decide +kernel) (by decide +kernel)) (goodIn_sub (fun _ h => List.mem_cons_of_mem _ (List.mem_append_left _ (List.mem_append_left _ (List.mem_append_left _ (List.mem_append_right _ h))))) (by decide +kernel))
set_option maxRecDepth 20000 in
theorem gX6_nextItem_X6_findReviewer : GoodIn wsX6_nextItem (wsV RX6 235 RX6 yX6_findReviewer wsX6_findReviewer) := goodIn_app (goodIn_of _ (by decide +kernel)) ggX6_nextItem_X6_findReviewer
set_option maxRecDepth 20000 in
theorem ggX6_nextItem_X6_rateGrant : GoodIn wsX6_nextItem wsX6_rateGrant := goodIn_ca (goodIn_ca (goodIn_r _ [55, 25, 32, 14, 33, 56, 57, 58, 59, 60, 61, 62, 63, 64, 10, 65, 66, 30, 67, 68, 69, 70, 71, 72, 73, 74, 75, 76, 77, 78, 26, 27, 28, 79, 80, 81, 37, 82, 83, 40, 41, 42, 43, 44, 84, 85, 86, 87, 88, 89, 90, 91, 92, 93, 94, 95, 96, 97, 18, 98, 20, 99, 100, 101, 102, 103, 104, 105, 106, 107, 108, 109, 110, 111, 112, 113, 114, 115, 129, 130, 131, 132, 133, 134, 135, 124, 125, 126, 127, 128, 136, 137, 138, 139, 140, 141, 142, 143, 144, 145] (by decide +kernel) (by decide +kernel)) (goodIn_sub (fun _ h => List.mem_cons_of_mem _ (List.mem_append_left _ (List.mem_append_left _ (List.mem_append_left _ (List.mem_append_right _ h))))) (by decide +kernel))) (goodIn_sub (fun _ h => List.mem_cons_of_mem _ (List.mem_append_right _ h)) (by decide +kernel))
set_option maxRecDepth 20000 in
theorem gX6_nextItem_X6_rateGrant : GoodIn wsX6_nextItem (wsV RX6 223 RX6 yX6_rateGrant wsX6_rateGrant) := goodIn_app (goodIn_of _ (by decide +kernel)) ggX6_nextItem_X6_rateGrant
theorem dX6_nextItem_0 : decode cX6_nextItem 0 = .ok (.aload_n 0, 1) := by decide +kernel
theorem dX6_nextItem_1 : decode cX6_nextItem 1 = .ok (.iload_n 1, 1) := by decide +kernel
theorem dX6_nextItem_2 : decode cX6_nextItem 2 = .ok (.invokevirtual 68, 3) := by decide +kernel
theorem dX6_nextItem_5 : decode cX6_nextItem 5 = .ok (.iconst (-1), 1) := by decide +kernel
theorem dX6_nextItem_6 : decode cX6_nextItem 6 = .ok (.istore_n 2, 1) := by decide +kernel
theorem dX6_nextItem_7 : decode cX6_nextItem 7 = .ok (.iconst 0, 1) := by decide +kernel
theorem dX6_nextItem_8 : decode cX6_nextItem 8 = .ok (.istore_n 3, 1) := by decide +kernel
theorem dX6_nextItem_9 : decode cX6_nextItem 9 = .ok (.iconst 0, 1) := by decide +kernel
theorem dX6_nextItem_10 : decode cX6_nextItem 10 = .ok (.istore 4, 2) := by decide +kernel
theorem dX6_nextItem_12 : decode cX6_nextItem 12 = .ok (.iload 4, 2) := by decide +kernel
theorem dX6_nextItem_14 : decode cX6_nextItem 14 = .ok (.aload_n 0, 1) := by decide +kernel
theorem dX6_nextItem_15 : decode cX6_nextItem 15 = .ok (.getfield 40, 3) := by decide +kernel
theorem dX6_nextItem_18 : decode cX6_nextItem 18 = .ok (.getfield 271, 3) := by decide +kernel
theorem dX6_nextItem_21 : decode cX6_nextItem 21 = .ok (.if_icmp .ge 71, 3) := by decide +kernel
theorem dX6_nextItem_24 : decode cX6_nextItem 24 = .ok (.aload_n 0, 1) := by decide +kernel
theorem dX6_nextItem_25 : decode cX6_nextItem 25 = .ok (.getfield 40, 3) := by decide +kernel
theorem dX6_nextItem_28 : decode cX6_nextItem 28 = .ok (.getfield 284, 3) := by decide +kernel
theorem dX6_nextItem_31 : decode cX6_nextItem 31 = .ok (.iload 4, 2) := by decide +kernel
theorem dX6_nextItem_33 : decode cX6_nextItem 33 = .ok (.iaload, 1) := by decide +kernel
theorem dX6_nextItem_34 : decode cX6_nextItem 34 = .ok (.istore 5, 2) := by decide +kernel
theorem dX6_nextItem_36 : decode cX6_nextItem 36 = .ok (.aload_n 0, 1) := by decide +kernel
theorem dX6_nextItem_37 : decode cX6_nextItem 37 = .ok (.getfield 40, 3) := by decide +kernel
theorem dX6_nextItem_40 : decode cX6_nextItem 40 = .ok (.getfield 279, 3) := by decide +kernel
theorem dX6_nextItem_43 : decode cX6_nextItem 43 = .ok (.iload 4, 2) := by decide +kernel
theorem dX6_nextItem_45 : decode cX6_nextItem 45 = .ok (.caload, 1) := by decide +kernel
theorem dX6_nextItem_46 : decode cX6_nextItem 46 = .ok (.bipush 117, 2) := by decide +kernel
theorem dX6_nextItem_48 : decode cX6_nextItem 48 = .ok (.if_icmp .ne 38, 3) := by decide +kernel
theorem dX6_nextItem_51 : decode cX6_nextItem 51 = .ok (.aload_n 0, 1) := by decide +kernel
theorem dX6_nextItem_52 : decode cX6_nextItem 52 = .ok (.iload 5, 2) := by decide +kernel
theorem dX6_nextItem_54 : decode cX6_nextItem 54 = .ok (.invokevirtual 235, 3) := by decide +kernel
theorem dX6_nextItem_57 : decode cX6_nextItem 57 = .ok (.iload_n 1, 1) := by decide +kernel
theorem dX6_nextItem_58 : decode cX6_nextItem 58 = .ok (.if_icmp .ne 28, 3) := by decide +kernel
theorem dX6_nextItem_61 : decode cX6_nextItem 61 = .ok (.aload_n 0, 1) := by decide +kernel
theorem dX6_nextItem_62 : decode cX6_nextItem 62 = .ok (.iload 5, 2) := by decide +kernel
theorem dX6_nextItem_64 : decode cX6_nextItem 64 = .ok (.invokevirtual 223, 3) := by decide +kernel
theorem dX6_nextItem_67 : decode cX6_nextItem 67 = .ok (.istore 6, 2) := by decide +kernel
theorem dX6_nextItem_69 : decode cX6_nextItem 69 = .ok (.iload_n 2, 1) := by decide +kernel
theorem dX6_nextItem_70 : decode cX6_nextItem 70 = .ok (.iconst (-1), 1) := by decide +kernel
theorem dX6_nextItem_71 : decode cX6_nextItem 71 = .ok (.if_icmp .eq 9, 3) := by decide +kernel
theorem dX6_nextItem_74 : decode cX6_nextItem 74 = .ok (.iload 6, 2) := by decide +kernel
theorem dX6_nextItem_76 : decode cX6_nextItem 76 = .ok (.iload_n 3, 1) := by decide +kernel
theorem dX6_nextItem_77 : decode cX6_nextItem 77 = .ok (.if_icmp .le 9, 3) := by decide +kernel
theorem dX6_nextItem_80 : decode cX6_nextItem 80 = .ok (.iload 4, 2) := by decide +kernel
theorem dX6_nextItem_82 : decode cX6_nextItem 82 = .ok (.istore_n 2, 1) := by decide +kernel
theorem dX6_nextItem_83 : decode cX6_nextItem 83 = .ok (.iload 6, 2) := by decide +kernel
theorem dX6_nextItem_85 : decode cX6_nextItem 85 = .ok (.istore_n 3, 1) := by decide +kernel
theorem dX6_nextItem_86 : decode cX6_nextItem 86 = .ok (.iinc 4 1, 3) := by decide +kernel
theorem dX6_nextItem_89 : decode cX6_nextItem 89 = .ok (.goto (-77), 3) := by decide +kernel
theorem dX6_nextItem_92 : decode cX6_nextItem 92 = .ok (.iload_n 2, 1) := by decide +kernel
theorem dX6_nextItem_93 : decode cX6_nextItem 93 = .ok (.iconst (-1), 1) := by decide +kernel
theorem dX6_nextItem_94 : decode cX6_nextItem 94 = .ok (.if_icmp .ne 14, 3) := by decide +kernel
theorem dX6_nextItem_97 : decode cX6_nextItem 97 = .ok (.new 75, 3) := by decide +kernel
theorem dX6_nextItem_100 : decode cX6_nextItem 100 = .ok (.dup, 1) := by decide +kernel
theorem dX6_nextItem_101 : decode cX6_nextItem 101 = .ok (.ldc_w 297, 3) := by decide +kernel
theorem dX6_nextItem_104 : decode cX6_nextItem 104 = .ok (.invokespecial 79, 3) := by decide +kernel
theorem dX6_nextItem_107 : decode cX6_nextItem 107 = .ok (.athrow, 1) := by decide +kernel
theorem dX6_nextItem_108 : decode cX6_nextItem 108 = .ok (.iload_n 2, 1) := by decide +kernel
theorem dX6_nextItem_109 : decode cX6_nextItem 109 = .ok (.ireturn, 1) := by decide +kernel
theorem dX6_revokedShare_0 : decode cX6_revokedShare 0 = .ok (.aload_n 0, 1) := by decide +kernel
theorem dX6_revokedShare_1 : decode cX6_revokedShare 1 = .ok (.getfield 40, 3) := by decide +kernel
theorem dX6_revokedShare_4 : decode cX6_revokedShare 4 = .ok (.getfield 299, 3) := by decide +kernel
theorem dX6_revokedShare_7 : decode cX6_revokedShare 7 = .ok (.ifCond .ne 14, 3) := by decide +kernel
theorem dX6_revokedShare_10 : decode cX6_revokedShare 10 = .ok (.new 230, 3) := by decide +kernel
theorem dX6_revokedShare_13 : decode cX6_revokedShare 13 = .ok (.dup, 1) := by decide +kernel
theorem dX6_revokedShare_14 : decode cX6_revokedShare 14 = .ok (.ldc_w 302, 3) := by decide +kernel
theorem dX6_revokedShare_17 : decode cX6_revokedShare 17 = .ok (.invokespecial 234, 3) := by decide +kernel
theorem dX6_revokedShare_20 : decode cX6_revokedShare 20 = .ok (.athrow, 1) := by decide +kernel
theorem dX6_revokedShare_21 : decode cX6_revokedShare 21 = .ok (.aload_n 0, 1) := by decide +kernel
theorem dX6_revokedShare_22 : decode cX6_revokedShare 22 = .ok (.getfield 40, 3) := by decide +kernel
theorem dX6_revokedShare_25 : decode cX6_revokedShare 25 = .ok (.getfield 304, 3) := by decide +kernel
theorem dX6_revokedShare_28 : decode cX6_revokedShare 28 = .ok (.i2f, 1) := by decide +kernel
theorem dX6_revokedShare_29 : decode cX6_revokedShare 29 = .ok (.aload_n 0, 1) := by decide +kernel
theorem dX6_revokedShare_30 : decode cX6_revokedShare 30 = .ok (.getfield 40, 3) := by decide +kernel
theorem dX6_revokedShare_33 : decode cX6_revokedShare 33 = .ok (.getfield 299, 3) := by decide +kernel
theorem dX6_revokedShare_36 : decode cX6_revokedShare 36 = .ok (.i2f, 1) := by decide +kernel
theorem dX6_revokedShare_37 : decode cX6_revokedShare 37 = .ok (.fdiv, 1) := by decide +kernel
theorem dX6_revokedShare_38 : decode cX6_revokedShare 38 = .ok (.freturn, 1) := by decide +kernel
theorem dX6_entries_0 : decode cX6_entries 0 = .ok (.aload_n 0, 1) := by decide +kernel
theorem dX6_entries_1 : decode cX6_entries 1 = .ok (.getfield 47, 3) := by decide +kernel
theorem dX6_entries_4 : decode cX6_entries 4 = .ok (.getfield 307, 3) := by decide +kernel
theorem dX6_entries_7 : decode cX6_entries 7 = .ok (.ireturn, 1) := by decide +kernel
set_option maxRecDepth 20000 in
theorem ggX6_signAt_X6_requireEntry : GoodIn wsX6_signAt wsX6_requireEntry := goodIn_ca (goodIn_r _ [7, 8, 9, 1, 10, 11, 12, 13, 14, 15, 16, 17, 18, 19, 20, 21, 22, 23, 24, 25, 26, 27, 28, 29] (by decide +kernel) (by decide +kernel)) (goodIn_sub (fun _ h => List.mem_cons_of_mem _ (List.mem_append_right _ h)) (by decide +kernel))
set_option maxRecDepth 20000 in
theorem gX6_signAt_X6_requireEntry : GoodIn wsX6_signAt (wsV RX6 308 RX6 yX6_requireEntry wsX6_requireEntry) := goodIn_app (goodIn_of _ (by decide +kernel)) ggX6_signAt_X6_requireEntry
theorem dX6_signAt_0 : decode cX6_signAt 0 = .ok (.aload_n 0, 1) := by decide +kernel
theorem dX6_signAt_1 : decode cX6_signAt 1 = .ok (.iload_n 1, 1) := by decide +kernel
theorem dX6_signAt_2 : decode cX6_signAt 2 = .ok (.invokevirtual 308, 3) := by decide +kernel
theorem dX6_signAt_5 : decode cX6_signAt 5 = .ok (.aload_n 0, 1) := by decide +kernel
theorem dX6_signAt_6 : decode cX6_signAt 6 = .ok (.getfield 47, 3) := by decide +kernel
theorem dX6_signAt_9 : decode cX6_signAt 9 = .ok (.getfield 311, 3) := by decide +kernel
theorem dX6_signAt_12 : decode cX6_signAt 12 = .ok (.iload_n 1, 1) := by decide +kernel
theorem dX6_signAt_13 : decode cX6_signAt 13 = .ok (.caload, 1) := by decide +kernel
theorem dX6_signAt_14 : decode cX6_signAt 14 = .ok (.ireturn, 1) := by decide +kernel
set_option maxRecDepth 20000 in
theorem ggX6_sealAt_X6_requireEntry : GoodIn wsX6_sealAt wsX6_requireEntry := goodIn_ca (goodIn_r _ [7, 8, 9, 1, 10, 11, 12, 13, 14, 15, 16, 17, 18, 19, 20, 21, 22, 23, 24, 25, 26, 27, 28, 29] (by decide +kernel) (by decide +kernel)) (goodIn_sub (fun _ h => List.mem_cons_of_mem _ (List.mem_append_right _ h)) (by decide +kernel))
set_option maxRecDepth 20000 in
theorem gX6_sealAt_X6_requireEntry : GoodIn wsX6_sealAt (wsV RX6 308 RX6 yX6_requireEntry wsX6_requireEntry) := goodIn_app (goodIn_of _ (by decide +kernel)) ggX6_sealAt_X6_requireEntry
theorem dX6_sealAt_0 : decode cX6_sealAt 0 = .ok (.aload_n 0, 1) := by decide +kernel
theorem dX6_sealAt_1 : decode cX6_sealAt 1 = .ok (.iload_n 1, 1) := by decide +kernel
theorem dX6_sealAt_2 : decode cX6_sealAt 2 = .ok (.invokevirtual 308, 3) := by decide +kernel
theorem dX6_sealAt_5 : decode cX6_sealAt 5 = .ok (.aload_n 0, 1) := by decide +kernel
theorem dX6_sealAt_6 : decode cX6_sealAt 6 = .ok (.getfield 47, 3) := by decide +kernel
theorem dX6_sealAt_9 : decode cX6_sealAt 9 = .ok (.getfield 314, 3) := by decide +kernel
theorem dX6_sealAt_12 : decode cX6_sealAt 12 = .ok (.iload_n 1, 1) := by decide +kernel
theorem dX6_sealAt_13 : decode cX6_sealAt 13 = .ok (.iaload, 1) := by decide +kernel
theorem dX6_sealAt_14 : decode cX6_sealAt 14 = .ok (.ireturn, 1) := by decide +kernel
set_option maxRecDepth 20000 in
theorem ggX6_sealByReplay_X6_requireEntry : GoodIn wsX6_sealByReplay wsX6_requireEntry := goodIn_ca (goodIn_r _ [6, 7, 8, 1, 9, 10, 11, 12, 13, 14, 27, 28, 29, 30, 31, 32, 33, 34, 35, 36, 37, 38, 39, 40] (by decide +kernel) (by decide +kernel)) (goodIn_sub (fun _ h => List.mem_cons_of_mem _ (List.mem_append_left _ (List.mem_append_right _ h))) (by decide +kernel))
set_option maxRecDepth 20000 in
theorem gX6_sealByReplay_X6_requireEntry : GoodIn wsX6_sealByReplay (wsV RX6 308 RX6 yX6_requireEntry wsX6_requireEntry) := goodIn_app (goodIn_of _ (by decide +kernel)) ggX6_sealByReplay_X6_requireEntry
set_option maxRecDepth 20000 in
theorem ggX6_sealByReplay_X1_replay : GoodIn wsX6_sealByReplay wsX1_replay := goodIn_ca (goodIn_r _ [18, 14, 19, 20, 21, 12, 22, 23, 24, 25, 26, 36, 37, 38, 39, 40] (by decide +kernel) (by decide +kernel)) (goodIn_sub (fun _ h => List.mem_cons_of_mem _ (List.mem_append_right _ h)) (by decide +kernel))
set_option maxRecDepth 20000 in
theorem gX6_sealByReplay_X1_replay : GoodIn wsX6_sealByReplay (wsV RX6 317 RX1 yX1_replay wsX1_replay) := goodIn_app (goodIn_of _ (by decide +kernel)) ggX6_sealByReplay_X1_replay
theorem dX6_sealByReplay_0 : decode cX6_sealByReplay 0 = .ok (.aload_n 0, 1) := by decide +kernel
theorem dX6_sealByReplay_1 : decode cX6_sealByReplay 1 = .ok (.iload_n 1, 1) := by decide +kernel
theorem dX6_sealByReplay_2 : decode cX6_sealByReplay 2 = .ok (.invokevirtual 308, 3) := by decide +kernel
theorem dX6_sealByReplay_5 : decode cX6_sealByReplay 5 = .ok (.aload_n 0, 1) := by decide +kernel
theorem dX6_sealByReplay_6 : decode cX6_sealByReplay 6 = .ok (.getfield 47, 3) := by decide +kernel
theorem dX6_sealByReplay_9 : decode cX6_sealByReplay 9 = .ok (.iload_n 1, 1) := by decide +kernel
theorem dX6_sealByReplay_10 : decode cX6_sealByReplay 10 = .ok (.invokevirtual 317, 3) := by decide +kernel
theorem dX6_sealByReplay_13 : decode cX6_sealByReplay 13 = .ok (.ireturn, 1) := by decide +kernel
theorem dX6_trace_0 : decode cX6_trace 0 = .ok (.lconst 0, 1) := by decide +kernel
theorem dX6_trace_1 : decode cX6_trace 1 = .ok (.lstore_n 1, 1) := by decide +kernel
theorem dX6_trace_2 : decode cX6_trace 2 = .ok (.iconst 0, 1) := by decide +kernel
theorem dX6_trace_3 : decode cX6_trace 3 = .ok (.istore_n 3, 1) := by decide +kernel
theorem dX6_trace_4 : decode cX6_trace 4 = .ok (.iload_n 3, 1) := by decide +kernel
theorem dX6_trace_5 : decode cX6_trace 5 = .ok (.aload_n 0, 1) := by decide +kernel
theorem dX6_trace_6 : decode cX6_trace 6 = .ok (.getfield 47, 3) := by decide +kernel
theorem dX6_trace_9 : decode cX6_trace 9 = .ok (.getfield 307, 3) := by decide +kernel
theorem dX6_trace_12 : decode cX6_trace 12 = .ok (.if_icmp .ge 26, 3) := by decide +kernel
theorem dX6_trace_15 : decode cX6_trace 15 = .ok (.lload_n 1, 1) := by decide +kernel
theorem dX6_trace_16 : decode cX6_trace 16 = .ok (.ldc2_w 320, 3) := by decide +kernel
theorem dX6_trace_19 : decode cX6_trace 19 = .ok (.lmul, 1) := by decide +kernel
theorem dX6_trace_20 : decode cX6_trace 20 = .ok (.aload_n 0, 1) := by decide +kernel
theorem dX6_trace_21 : decode cX6_trace 21 = .ok (.getfield 47, 3) := by decide +kernel
theorem dX6_trace_24 : decode cX6_trace 24 = .ok (.getfield 314, 3) := by decide +kernel
theorem dX6_trace_27 : decode cX6_trace 27 = .ok (.iload_n 3, 1) := by decide +kernel
theorem dX6_trace_28 : decode cX6_trace 28 = .ok (.iaload, 1) := by decide +kernel
theorem dX6_trace_29 : decode cX6_trace 29 = .ok (.i2l, 1) := by decide +kernel
theorem dX6_trace_30 : decode cX6_trace 30 = .ok (.ladd, 1) := by decide +kernel
theorem dX6_trace_31 : decode cX6_trace 31 = .ok (.lstore_n 1, 1) := by decide +kernel
theorem dX6_trace_32 : decode cX6_trace 32 = .ok (.iinc 3 1, 3) := by decide +kernel
theorem dX6_trace_35 : decode cX6_trace 35 = .ok (.goto (-31), 3) := by decide +kernel
theorem dX6_trace_38 : decode cX6_trace 38 = .ok (.lload_n 1, 1) := by decide +kernel
theorem dX6_trace_39 : decode cX6_trace 39 = .ok (.lreturn, 1) := by decide +kernel
set_option maxRecDepth 20000 in
theorem ggX6_requirePerson_X4_has : GoodIn wsX6_requirePerson wsX4_has := goodIn_r _ [8, 9, 19, 20, 21, 22, 23] (by decide +kernel) (by decide +kernel)
set_option maxRecDepth 20000 in
theorem gX6_requirePerson_X4_has : GoodIn wsX6_requirePerson (wsV RX6 322 RX4 yX4_has wsX4_has) := goodIn_app (goodIn_of _ (by decide +kernel)) ggX6_requirePerson_X4_has
theorem dX6_requirePerson_0 : decode cX6_requirePerson 0 = .ok (.aload_n 0, 1) := by decide +kernel
theorem dX6_requirePerson_1 : decode cX6_requirePerson 1 = .ok (.getfield 10, 3) := by decide +kernel
theorem dX6_requirePerson_4 : decode cX6_requirePerson 4 = .ok (.iload_n 1, 1) := by decide +kernel
theorem dX6_requirePerson_5 : decode cX6_requirePerson 5 = .ok (.invokevirtual 322, 3) := by decide +kernel
theorem dX6_requirePerson_8 : decode cX6_requirePerson 8 = .ok (.ifCond .ne 14, 3) := by decide +kernel
theorem dX6_requirePerson_11 : decode cX6_requirePerson 11 = .ok (.new 325, 3) := by decide +kernel
theorem dX6_requirePerson_14 : decode cX6_requirePerson 14 = .ok (.dup, 1) := by decide +kernel
theorem dX6_requirePerson_15 : decode cX6_requirePerson 15 = .ok (.ldc_w 327, 3) := by decide +kernel
theorem dX6_requirePerson_18 : decode cX6_requirePerson 18 = .ok (.invokespecial 329, 3) := by decide +kernel
theorem dX6_requirePerson_21 : decode cX6_requirePerson 21 = .ok (.athrow, 1) := by decide +kernel
theorem dX6_requirePerson_22 : decode cX6_requirePerson 22 = .ok (.return_, 1) := by decide +kernel
set_option maxRecDepth 20000 in
theorem ggX6_requireGroup_X3_has : GoodIn wsX6_requireGroup wsX3_has := goodIn_r _ [8, 9, 19, 20, 21, 22, 23] (by decide +kernel) (by decide +kernel)
set_option maxRecDepth 20000 in
theorem gX6_requireGroup_X3_has : GoodIn wsX6_requireGroup (wsV RX6 330 RX3 yX3_has wsX3_has) := goodIn_app (goodIn_of _ (by decide +kernel)) ggX6_requireGroup_X3_has
theorem dX6_requireGroup_0 : decode cX6_requireGroup 0 = .ok (.aload_n 0, 1) := by decide +kernel
theorem dX6_requireGroup_1 : decode cX6_requireGroup 1 = .ok (.getfield 19, 3) := by decide +kernel
theorem dX6_requireGroup_4 : decode cX6_requireGroup 4 = .ok (.iload_n 1, 1) := by decide +kernel
theorem dX6_requireGroup_5 : decode cX6_requireGroup 5 = .ok (.invokevirtual 330, 3) := by decide +kernel
theorem dX6_requireGroup_8 : decode cX6_requireGroup 8 = .ok (.ifCond .ne 14, 3) := by decide +kernel
theorem dX6_requireGroup_11 : decode cX6_requireGroup 11 = .ok (.new 325, 3) := by decide +kernel
theorem dX6_requireGroup_14 : decode cX6_requireGroup 14 = .ok (.dup, 1) := by decide +kernel
theorem dX6_requireGroup_15 : decode cX6_requireGroup 15 = .ok (.ldc_w 331, 3) := by decide +kernel
theorem dX6_requireGroup_18 : decode cX6_requireGroup 18 = .ok (.invokespecial 329, 3) := by decide +kernel
theorem dX6_requireGroup_21 : decode cX6_requireGroup 21 = .ok (.athrow, 1) := by decide +kernel
theorem dX6_requireGroup_22 : decode cX6_requireGroup 22 = .ok (.return_, 1) := by decide +kernel
set_option maxRecDepth 20000 in
theorem ggX6_requireRight_X5_has : GoodIn wsX6_requireRight wsX5_has := goodIn_r _ [8, 9, 19, 20, 21, 22, 23] (by decide +kernel) (by decide +kernel)
set_option maxRecDepth 20000 in
theorem gX6_requireRight_X5_has : GoodIn wsX6_requireRight (wsV RX6 333 RX5 yX5_has wsX5_has) := goodIn_app (goodIn_of _ (by decide +kernel)) ggX6_requireRight_X5_has
theorem dX6_requireRight_0 : decode cX6_requireRight 0 = .ok (.aload_n 0, 1) := by decide +kernel
theorem dX6_requireRight_1 : decode cX6_requireRight 1 = .ok (.getfield 26, 3) := by decide +kernel
theorem dX6_requireRight_4 : decode cX6_requireRight 4 = .ok (.iload_n 1, 1) := by decide +kernel
theorem dX6_requireRight_5 : decode cX6_requireRight 5 = .ok (.invokevirtual 333, 3) := by decide +kernel
theorem dX6_requireRight_8 : decode cX6_requireRight 8 = .ok (.ifCond .ne 14, 3) := by decide +kernel
theorem dX6_requireRight_11 : decode cX6_requireRight 11 = .ok (.new 325, 3) := by decide +kernel
theorem dX6_requireRight_14 : decode cX6_requireRight 14 = .ok (.dup, 1) := by decide +kernel
theorem dX6_requireRight_15 : decode cX6_requireRight 15 = .ok (.ldc_w 334, 3) := by decide +kernel
theorem dX6_requireRight_18 : decode cX6_requireRight 18 = .ok (.invokespecial 329, 3) := by decide +kernel
theorem dX6_requireRight_21 : decode cX6_requireRight 21 = .ok (.athrow, 1) := by decide +kernel
theorem dX6_requireRight_22 : decode cX6_requireRight 22 = .ok (.return_, 1) := by decide +kernel
set_option maxRecDepth 20000 in
theorem ggX6_requireGrant_X2_has : GoodIn wsX6_requireGrant wsX2_has := goodIn_r _ [8, 9, 19, 20, 21, 22, 23, 24, 25] (by decide +kernel) (by decide +kernel)
set_option maxRecDepth 20000 in
theorem gX6_requireGrant_X2_has : GoodIn wsX6_requireGrant (wsV RX6 336 RX2 yX2_has wsX2_has) := goodIn_app (goodIn_of _ (by decide +kernel)) ggX6_requireGrant_X2_has
theorem dX6_requireGrant_0 : decode cX6_requireGrant 0 = .ok (.aload_n 0, 1) := by decide +kernel
theorem dX6_requireGrant_1 : decode cX6_requireGrant 1 = .ok (.getfield 33, 3) := by decide +kernel
theorem dX6_requireGrant_4 : decode cX6_requireGrant 4 = .ok (.iload_n 1, 1) := by decide +kernel
theorem dX6_requireGrant_5 : decode cX6_requireGrant 5 = .ok (.invokevirtual 336, 3) := by decide +kernel
theorem dX6_requireGrant_8 : decode cX6_requireGrant 8 = .ok (.ifCond .ne 14, 3) := by decide +kernel
theorem dX6_requireGrant_11 : decode cX6_requireGrant 11 = .ok (.new 325, 3) := by decide +kernel
theorem dX6_requireGrant_14 : decode cX6_requireGrant 14 = .ok (.dup, 1) := by decide +kernel
theorem dX6_requireGrant_15 : decode cX6_requireGrant 15 = .ok (.ldc_w 337, 3) := by decide +kernel
theorem dX6_requireGrant_18 : decode cX6_requireGrant 18 = .ok (.invokespecial 329, 3) := by decide +kernel
theorem dX6_requireGrant_21 : decode cX6_requireGrant 21 = .ok (.athrow, 1) := by decide +kernel
theorem dX6_requireGrant_22 : decode cX6_requireGrant 22 = .ok (.return_, 1) := by decide +kernel
set_option maxRecDepth 20000 in
theorem ggX6_requireItem_X0_has : GoodIn wsX6_requireItem wsX0_has := goodIn_r _ [8, 9, 19, 20, 21, 22, 23, 24, 25, 26] (by decide +kernel) (by decide +kernel)
set_option maxRecDepth 20000 in
theorem gX6_requireItem_X0_has : GoodIn wsX6_requireItem (wsV RX6 339 RX0 yX0_has wsX0_has) := goodIn_app (goodIn_of _ (by decide +kernel)) ggX6_requireItem_X0_has
theorem dX6_requireItem_0 : decode cX6_requireItem 0 = .ok (.aload_n 0, 1) := by decide +kernel
theorem dX6_requireItem_1 : decode cX6_requireItem 1 = .ok (.getfield 40, 3) := by decide +kernel
theorem dX6_requireItem_4 : decode cX6_requireItem 4 = .ok (.iload_n 1, 1) := by decide +kernel
theorem dX6_requireItem_5 : decode cX6_requireItem 5 = .ok (.invokevirtual 339, 3) := by decide +kernel
theorem dX6_requireItem_8 : decode cX6_requireItem 8 = .ok (.ifCond .ne 14, 3) := by decide +kernel
theorem dX6_requireItem_11 : decode cX6_requireItem 11 = .ok (.new 325, 3) := by decide +kernel
theorem dX6_requireItem_14 : decode cX6_requireItem 14 = .ok (.dup, 1) := by decide +kernel
theorem dX6_requireItem_15 : decode cX6_requireItem 15 = .ok (.ldc_w 340, 3) := by decide +kernel
theorem dX6_requireItem_18 : decode cX6_requireItem 18 = .ok (.invokespecial 329, 3) := by decide +kernel
theorem dX6_requireItem_21 : decode cX6_requireItem 21 = .ok (.athrow, 1) := by decide +kernel
theorem dX6_requireItem_22 : decode cX6_requireItem 22 = .ok (.return_, 1) := by decide +kernel
set_option maxRecDepth 20000 in
theorem ggX6_requireEntry_X1_has : GoodIn wsX6_requireEntry wsX1_has := goodIn_r _ [8, 9, 19, 20, 21, 22, 23] (by decide +kernel) (by decide +kernel)
set_option maxRecDepth 20000 in
theorem gX6_requireEntry_X1_has : GoodIn wsX6_requireEntry (wsV RX6 342 RX1 yX1_has wsX1_has) := goodIn_app (goodIn_of _ (by decide +kernel)) ggX6_requireEntry_X1_has
theorem dX6_requireEntry_0 : decode cX6_requireEntry 0 = .ok (.aload_n 0, 1) := by decide +kernel
theorem dX6_requireEntry_1 : decode cX6_requireEntry 1 = .ok (.getfield 47, 3) := by decide +kernel
theorem dX6_requireEntry_4 : decode cX6_requireEntry 4 = .ok (.iload_n 1, 1) := by decide +kernel
theorem dX6_requireEntry_5 : decode cX6_requireEntry 5 = .ok (.invokevirtual 342, 3) := by decide +kernel
theorem dX6_requireEntry_8 : decode cX6_requireEntry 8 = .ok (.ifCond .ne 14, 3) := by decide +kernel
theorem dX6_requireEntry_11 : decode cX6_requireEntry 11 = .ok (.new 325, 3) := by decide +kernel
theorem dX6_requireEntry_14 : decode cX6_requireEntry 14 = .ok (.dup, 1) := by decide +kernel
theorem dX6_requireEntry_15 : decode cX6_requireEntry 15 = .ok (.ldc_w 343, 3) := by decide +kernel
theorem dX6_requireEntry_18 : decode cX6_requireEntry 18 = .ok (.invokespecial 329, 3) := by decide +kernel
theorem dX6_requireEntry_21 : decode cX6_requireEntry 21 = .ok (.athrow, 1) := by decide +kernel
theorem dX6_requireEntry_22 : decode cX6_requireEntry 22 = .ok (.return_, 1) := by decide +kernel
theorem dX6_requireDays_0 : decode cX6_requireDays 0 = .ok (.iload_n 1, 1) := by decide +kernel
theorem dX6_requireDays_1 : decode cX6_requireDays 1 = .ok (.iconst 1, 1) := by decide +kernel
theorem dX6_requireDays_2 : decode cX6_requireDays 2 = .ok (.if_icmp .lt 9, 3) := by decide +kernel
theorem dX6_requireDays_5 : decode cX6_requireDays 5 = .ok (.iload_n 1, 1) := by decide +kernel
theorem dX6_requireDays_6 : decode cX6_requireDays 6 = .ok (.bipush 30, 2) := by decide +kernel
theorem dX6_requireDays_8 : decode cX6_requireDays 8 = .ok (.if_icmp .le 13, 3) := by decide +kernel
theorem dX6_requireDays_11 : decode cX6_requireDays 11 = .ok (.new 61, 3) := by decide +kernel
theorem dX6_requireDays_14 : decode cX6_requireDays 14 = .ok (.dup, 1) := by decide +kernel
theorem dX6_requireDays_15 : decode cX6_requireDays 15 = .ok (.ldc 255, 2) := by decide +kernel
theorem dX6_requireDays_17 : decode cX6_requireDays 17 = .ok (.invokespecial 65, 3) := by decide +kernel
theorem dX6_requireDays_20 : decode cX6_requireDays 20 = .ok (.athrow, 1) := by decide +kernel
theorem dX6_requireDays_21 : decode cX6_requireDays 21 = .ok (.return_, 1) := by decide +kernel
set_option maxRecDepth 20000 in
theorem ggX6_requireRoomForGrant_X2_hasActive : GoodIn wsX6_requireRoomForGrant wsX2_hasActive := goodIn_ca (goodIn_r _ [9, 10, 11, 12, 13, 14, 15, 8, 16, 17, 18, 28, 29, 30, 31, 32, 33, 34] (by decide +kernel) (by decide +kernel)) (goodIn_sub (fun _ h => List.mem_cons_of_mem _ (List.mem_append_right _ h)) (by decide +kernel))
set_option maxRecDepth 20000 in
theorem gX6_requireRoomForGrant_X2_hasActive : GoodIn wsX6_requireRoomForGrant (wsV RX6 345 RX2 yX2_hasActive wsX2_hasActive) := goodIn_app (goodIn_of _ (by decide +kernel)) ggX6_requireRoomForGrant_X2_hasActive
theorem dX6_requireRoomForGrant_0 : decode cX6_requireRoomForGrant 0 = .ok (.aload_n 0, 1) := by decide +kernel
theorem dX6_requireRoomForGrant_1 : decode cX6_requireRoomForGrant 1 = .ok (.getfield 33, 3) := by decide +kernel
theorem dX6_requireRoomForGrant_4 : decode cX6_requireRoomForGrant 4 = .ok (.iload_n 1, 1) := by decide +kernel
theorem dX6_requireRoomForGrant_5 : decode cX6_requireRoomForGrant 5 = .ok (.iload_n 2, 1) := by decide +kernel
theorem dX6_requireRoomForGrant_6 : decode cX6_requireRoomForGrant 6 = .ok (.iload_n 3, 1) := by decide +kernel
theorem dX6_requireRoomForGrant_7 : decode cX6_requireRoomForGrant 7 = .ok (.invokevirtual 345, 3) := by decide +kernel
theorem dX6_requireRoomForGrant_10 : decode cX6_requireRoomForGrant 10 = .ok (.ifCond .eq 14, 3) := by decide +kernel
theorem dX6_requireRoomForGrant_13 : decode cX6_requireRoomForGrant 13 = .ok (.new 75, 3) := by decide +kernel
theorem dX6_requireRoomForGrant_16 : decode cX6_requireRoomForGrant 16 = .ok (.dup, 1) := by decide +kernel
theorem dX6_requireRoomForGrant_17 : decode cX6_requireRoomForGrant 17 = .ok (.ldc_w 349, 3) := by decide +kernel
theorem dX6_requireRoomForGrant_20 : decode cX6_requireRoomForGrant 20 = .ok (.invokespecial 79, 3) := by decide +kernel
theorem dX6_requireRoomForGrant_23 : decode cX6_requireRoomForGrant 23 = .ok (.athrow, 1) := by decide +kernel
theorem dX6_requireRoomForGrant_24 : decode cX6_requireRoomForGrant 24 = .ok (.aload_n 0, 1) := by decide +kernel
theorem dX6_requireRoomForGrant_25 : decode cX6_requireRoomForGrant 25 = .ok (.getfield 33, 3) := by decide +kernel
theorem dX6_requireRoomForGrant_28 : decode cX6_requireRoomForGrant 28 = .ok (.getfield 173, 3) := by decide +kernel
theorem dX6_requireRoomForGrant_31 : decode cX6_requireRoomForGrant 31 = .ok (.bipush 24, 2) := by decide +kernel
theorem dX6_requireRoomForGrant_33 : decode cX6_requireRoomForGrant 33 = .ok (.if_icmp .lt 14, 3) := by decide +kernel
theorem dX6_requireRoomForGrant_36 : decode cX6_requireRoomForGrant 36 = .ok (.new 75, 3) := by decide +kernel
theorem dX6_requireRoomForGrant_39 : decode cX6_requireRoomForGrant 39 = .ok (.dup, 1) := by decide +kernel
theorem dX6_requireRoomForGrant_40 : decode cX6_requireRoomForGrant 40 = .ok (.ldc_w 351, 3) := by decide +kernel
theorem dX6_requireRoomForGrant_43 : decode cX6_requireRoomForGrant 43 = .ok (.invokespecial 79, 3) := by decide +kernel
theorem dX6_requireRoomForGrant_46 : decode cX6_requireRoomForGrant 46 = .ok (.athrow, 1) := by decide +kernel
theorem dX6_requireRoomForGrant_47 : decode cX6_requireRoomForGrant 47 = .ok (.return_, 1) := by decide +kernel
set_option maxRecDepth 20000 in
theorem ggX6_findReached_X3_membersOf : GoodIn wsX6_findReached wsX3_membersOf := goodIn_ca (goodIn_r _ [9, 10, 11, 12, 13, 8, 14, 15, 36, 37, 38, 39, 40] (by decide +kernel) (by decide +kernel)) (goodIn_sub (fun _ h => List.mem_cons_of_mem _ (List.mem_append_right _ h)) (by decide +kernel))
set_option maxRecDepth 20000 in
theorem gX6_findReached_X3_membersOf : GoodIn wsX6_findReached (wsV RX6 357 RX3 yX3_membersOf wsX3_membersOf) := goodIn_app (goodIn_of _ (by decide +kernel)) ggX6_findReached_X3_membersOf
set_option maxRecDepth 20000 in
theorem ggX6_findReached_X6_bit : GoodIn wsX6_findReached wsX6_bit := goodIn_r _ [19] (by decide +kernel) (by decide +kernel)
set_option maxRecDepth 20000 in
theorem gX6_findReached_X6_bit : GoodIn wsX6_findReached (va_wsS RX6 115 yX6_bit wsX6_bit) := goodIn_app (goodIn_of _ (by decide +kernel)) ggX6_findReached_X6_bit
theorem dX6_findReached_0 : decode cX6_findReached 0 = .ok (.aload_n 0, 1) := by decide +kernel
theorem dX6_findReached_1 : decode cX6_findReached 1 = .ok (.getfield 33, 3) := by decide +kernel
theorem dX6_findReached_4 : decode cX6_findReached 4 = .ok (.getfield 353, 3) := by decide +kernel
theorem dX6_findReached_7 : decode cX6_findReached 7 = .ok (.iload_n 1, 1) := by decide +kernel
theorem dX6_findReached_8 : decode cX6_findReached 8 = .ok (.iaload, 1) := by decide +kernel
theorem dX6_findReached_9 : decode cX6_findReached 9 = .ok (.istore_n 2, 1) := by decide +kernel
theorem dX6_findReached_10 : decode cX6_findReached 10 = .ok (.iload_n 2, 1) := by decide +kernel
theorem dX6_findReached_11 : decode cX6_findReached 11 = .ok (.iconst (-1), 1) := by decide +kernel
theorem dX6_findReached_12 : decode cX6_findReached 12 = .ok (.if_icmp .ne 22, 3) := by decide +kernel
theorem dX6_findReached_15 : decode cX6_findReached 15 = .ok (.aload_n 0, 1) := by decide +kernel
theorem dX6_findReached_16 : decode cX6_findReached 16 = .ok (.getfield 19, 3) := by decide +kernel
theorem dX6_findReached_19 : decode cX6_findReached 19 = .ok (.aload_n 0, 1) := by decide +kernel
theorem dX6_findReached_20 : decode cX6_findReached 20 = .ok (.getfield 33, 3) := by decide +kernel
theorem dX6_findReached_23 : decode cX6_findReached 23 = .ok (.getfield 355, 3) := by decide +kernel
theorem dX6_findReached_26 : decode cX6_findReached 26 = .ok (.iload_n 1, 1) := by decide +kernel
theorem dX6_findReached_27 : decode cX6_findReached 27 = .ok (.iaload, 1) := by decide +kernel
theorem dX6_findReached_28 : decode cX6_findReached 28 = .ok (.invokevirtual 357, 3) := by decide +kernel
theorem dX6_findReached_31 : decode cX6_findReached 31 = .ok (.goto 7, 3) := by decide +kernel
theorem dX6_findReached_34 : decode cX6_findReached 34 = .ok (.iload_n 2, 1) := by decide +kernel
theorem dX6_findReached_35 : decode cX6_findReached 35 = .ok (.invokestatic 115, 3) := by decide +kernel
theorem dX6_findReached_38 : decode cX6_findReached 38 = .ok (.ireturn, 1) := by decide +kernel
set_option maxRecDepth 20000 in
theorem ggX6_findHolders_X2_isActiveOf : GoodIn wsX6_findHolders wsX2_isActiveOf := goodIn_ca (goodIn_r _ [9, 10, 11, 43, 44, 45, 46, 47, 48, 49] (by decide +kernel) (by decide +kernel)) (goodIn_sub (fun _ h => List.mem_cons_of_mem _ (List.mem_append_right _ h)) (by decide +kernel))
set_option maxRecDepth 20000 in
theorem gX6_findHolders_X2_isActiveOf : GoodIn wsX6_findHolders (wsV RX6 174 RX2 yX2_isActiveOf wsX2_isActiveOf) := goodIn_app (goodIn_of _ (by decide +kernel)) ggX6_findHolders_X2_isActiveOf
set_option maxRecDepth 20000 in
theorem ggX6_findHolders_X6_findReached : GoodIn wsX6_findHolders wsX6_findReached := goodIn_ca (goodIn_r _ [16, 1, 17, 18, 19, 20, 21, 22, 23, 24, 25, 26, 27, 28, 29, 30, 31, 32, 15, 33, 34, 35, 36, 37, 38, 39, 40, 41, 42, 43, 44, 45, 46, 47, 48, 49, 55, 56, 57, 58, 59] (by decide +kernel) (by decide +kernel)) (goodIn_sub (fun _ h => List.mem_cons_of_mem _ (List.mem_append_right _ h)) (by decide +kernel))
set_option maxRecDepth 20000 in
theorem gX6_findHolders_X6_findReached : GoodIn wsX6_findHolders (wsV RX6 177 RX6 yX6_findReached wsX6_findReached) := goodIn_app (goodIn_of _ (by decide +kernel)) ggX6_findHolders_X6_findReached
theorem dX6_findHolders_0 : decode cX6_findHolders 0 = .ok (.iconst 0, 1) := by decide +kernel
theorem dX6_findHolders_1 : decode cX6_findHolders 1 = .ok (.istore_n 3, 1) := by decide +kernel
theorem dX6_findHolders_2 : decode cX6_findHolders 2 = .ok (.iconst 0, 1) := by decide +kernel
theorem dX6_findHolders_3 : decode cX6_findHolders 3 = .ok (.istore 4, 2) := by decide +kernel
theorem dX6_findHolders_5 : decode cX6_findHolders 5 = .ok (.iload 4, 2) := by decide +kernel
theorem dX6_findHolders_7 : decode cX6_findHolders 7 = .ok (.aload_n 0, 1) := by decide +kernel
theorem dX6_findHolders_8 : decode cX6_findHolders 8 = .ok (.getfield 33, 3) := by decide +kernel
theorem dX6_findHolders_11 : decode cX6_findHolders 11 = .ok (.getfield 173, 3) := by decide +kernel
theorem dX6_findHolders_14 : decode cX6_findHolders 14 = .ok (.if_icmp .ge 37, 3) := by decide +kernel
theorem dX6_findHolders_17 : decode cX6_findHolders 17 = .ok (.iload 4, 2) := by decide +kernel
theorem dX6_findHolders_19 : decode cX6_findHolders 19 = .ok (.iload_n 2, 1) := by decide +kernel
theorem dX6_findHolders_20 : decode cX6_findHolders 20 = .ok (.if_icmp .eq 25, 3) := by decide +kernel
theorem dX6_findHolders_23 : decode cX6_findHolders 23 = .ok (.aload_n 0, 1) := by decide +kernel
theorem dX6_findHolders_24 : decode cX6_findHolders 24 = .ok (.getfield 33, 3) := by decide +kernel
theorem dX6_findHolders_27 : decode cX6_findHolders 27 = .ok (.iload 4, 2) := by decide +kernel
theorem dX6_findHolders_29 : decode cX6_findHolders 29 = .ok (.iload_n 1, 1) := by decide +kernel
theorem dX6_findHolders_30 : decode cX6_findHolders 30 = .ok (.invokevirtual 174, 3) := by decide +kernel
theorem dX6_findHolders_33 : decode cX6_findHolders 33 = .ok (.ifCond .eq 12, 3) := by decide +kernel
theorem dX6_findHolders_36 : decode cX6_findHolders 36 = .ok (.iload_n 3, 1) := by decide +kernel
theorem dX6_findHolders_37 : decode cX6_findHolders 37 = .ok (.aload_n 0, 1) := by decide +kernel
theorem dX6_findHolders_38 : decode cX6_findHolders 38 = .ok (.iload 4, 2) := by decide +kernel
theorem dX6_findHolders_40 : decode cX6_findHolders 40 = .ok (.invokevirtual 177, 3) := by decide +kernel
theorem dX6_findHolders_43 : decode cX6_findHolders 43 = .ok (.ior, 1) := by decide +kernel
theorem dX6_findHolders_44 : decode cX6_findHolders 44 = .ok (.istore_n 3, 1) := by decide +kernel
theorem dX6_findHolders_45 : decode cX6_findHolders 45 = .ok (.iinc 4 1, 3) := by decide +kernel
theorem dX6_findHolders_48 : decode cX6_findHolders 48 = .ok (.goto (-43), 3) := by decide +kernel
theorem dX6_findHolders_51 : decode cX6_findHolders 51 = .ok (.iload_n 3, 1) := by decide +kernel
theorem dX6_findHolders_52 : decode cX6_findHolders 52 = .ok (.aload_n 0, 1) := by decide +kernel
theorem dX6_findHolders_53 : decode cX6_findHolders 53 = .ok (.getfield 26, 3) := by decide +kernel
theorem dX6_findHolders_56 : decode cX6_findHolders 56 = .ok (.getfield 162, 3) := by decide +kernel
theorem dX6_findHolders_59 : decode cX6_findHolders 59 = .ok (.iload_n 1, 1) := by decide +kernel
theorem dX6_findHolders_60 : decode cX6_findHolders 60 = .ok (.iaload, 1) := by decide +kernel
theorem dX6_findHolders_61 : decode cX6_findHolders 61 = .ok (.iconst (-1), 1) := by decide +kernel
theorem dX6_findHolders_62 : decode cX6_findHolders 62 = .ok (.ixor, 1) := by decide +kernel
theorem dX6_findHolders_63 : decode cX6_findHolders 63 = .ok (.iand, 1) := by decide +kernel
theorem dX6_findHolders_64 : decode cX6_findHolders 64 = .ok (.ireturn, 1) := by decide +kernel
set_option maxRecDepth 20000 in
theorem ggX6_findRights_X6_findHolders : GoodIn wsX6_findRights wsX6_findHolders := goodIn_ca (goodIn_r _ [7, 8, 9, 1, 10, 11, 12, 13, 14, 15, 16, 17, 18, 19, 20, 6, 21, 22, 23, 24, 25, 26, 27, 28, 29, 30, 31, 32, 33, 34, 35, 36, 37, 38, 42, 43, 44, 45, 46, 47, 48, 49, 50, 56, 57, 58, 59, 60, 61, 62, 51, 52, 53, 54, 55, 63, 64, 65, 66, 67] (by decide +kernel) (by decide +kernel)) (goodIn_sub (fun _ h => List.mem_cons_of_mem _ (List.mem_append_right _ h)) (by decide +kernel))
set_option maxRecDepth 20000 in
theorem gX6_findRights_X6_findHolders : GoodIn wsX6_findRights (wsV RX6 168 RX6 yX6_findHolders wsX6_findHolders) := goodIn_app (goodIn_of _ (by decide +kernel)) ggX6_findRights_X6_findHolders
set_option maxRecDepth 20000 in
theorem ggX6_findRights_X6_contains : GoodIn wsX6_findRights wsX6_contains := goodIn_r _ [41, 36, 37, 6, 38] (by decide +kernel) (by decide +kernel)
set_option maxRecDepth 20000 in
theorem gX6_findRights_X6_contains : GoodIn wsX6_findRights (va_wsS RX6 109 yX6_contains wsX6_contains) := goodIn_app (goodIn_of _ (by decide +kernel)) ggX6_findRights_X6_contains
set_option maxRecDepth 20000 in
theorem ggX6_findRights_X6_bit : GoodIn wsX6_findRights wsX6_bit := goodIn_r _ [38] (by decide +kernel) (by decide +kernel)
set_option maxRecDepth 20000 in
theorem gX6_findRights_X6_bit : GoodIn wsX6_findRights (va_wsS RX6 115 yX6_bit wsX6_bit) := goodIn_app (goodIn_of _ (by decide +kernel)) ggX6_findRights_X6_bit
theorem dX6_findRights_0 : decode cX6_findRights 0 = .ok (.iconst 0, 1) := by decide +kernel
theorem dX6_findRights_1 : decode cX6_findRights 1 = .ok (.istore_n 2, 1) := by decide +kernel
theorem dX6_findRights_2 : decode cX6_findRights 2 = .ok (.iconst 0, 1) := by decide +kernel
theorem dX6_findRights_3 : decode cX6_findRights 3 = .ok (.istore_n 3, 1) := by decide +kernel
theorem dX6_findRights_4 : decode cX6_findRights 4 = .ok (.iload_n 3, 1) := by decide +kernel
theorem dX6_findRights_5 : decode cX6_findRights 5 = .ok (.aload_n 0, 1) := by decide +kernel
theorem dX6_findRights_6 : decode cX6_findRights 6 = .ok (.getfield 26, 3) := by decide +kernel
theorem dX6_findRights_9 : decode cX6_findRights 9 = .ok (.getfield 149, 3) := by decide +kernel
theorem dX6_findRights_12 : decode cX6_findRights 12 = .ok (.if_icmp .ge 29, 3) := by decide +kernel
theorem dX6_findRights_15 : decode cX6_findRights 15 = .ok (.aload_n 0, 1) := by decide +kernel
theorem dX6_findRights_16 : decode cX6_findRights 16 = .ok (.iload_n 3, 1) := by decide +kernel
theorem dX6_findRights_17 : decode cX6_findRights 17 = .ok (.iconst (-1), 1) := by decide +kernel
theorem dX6_findRights_18 : decode cX6_findRights 18 = .ok (.invokevirtual 168, 3) := by decide +kernel
theorem dX6_findRights_21 : decode cX6_findRights 21 = .ok (.iload_n 1, 1) := by decide +kernel
theorem dX6_findRights_22 : decode cX6_findRights 22 = .ok (.invokestatic 109, 3) := by decide +kernel
theorem dX6_findRights_25 : decode cX6_findRights 25 = .ok (.ifCond .eq 10, 3) := by decide +kernel
theorem dX6_findRights_28 : decode cX6_findRights 28 = .ok (.iload_n 2, 1) := by decide +kernel
theorem dX6_findRights_29 : decode cX6_findRights 29 = .ok (.iload_n 3, 1) := by decide +kernel
theorem dX6_findRights_30 : decode cX6_findRights 30 = .ok (.invokestatic 115, 3) := by decide +kernel
theorem dX6_findRights_33 : decode cX6_findRights 33 = .ok (.ior, 1) := by decide +kernel
theorem dX6_findRights_34 : decode cX6_findRights 34 = .ok (.istore_n 2, 1) := by decide +kernel
theorem dX6_findRights_35 : decode cX6_findRights 35 = .ok (.iinc 3 1, 3) := by decide +kernel
theorem dX6_findRights_38 : decode cX6_findRights 38 = .ok (.goto (-34), 3) := by decide +kernel
theorem dX6_findRights_41 : decode cX6_findRights 41 = .ok (.iload_n 2, 1) := by decide +kernel
theorem dX6_findRights_42 : decode cX6_findRights 42 = .ok (.ireturn, 1) := by decide +kernel
set_option maxRecDepth 20000 in
theorem ggX6_countWays_X2_isActiveOf : GoodIn wsX6_countWays wsX2_isActiveOf := goodIn_ca (goodIn_r _ [10, 11, 12, 38, 39, 40, 41, 42, 43, 44] (by decide +kernel) (by decide +kernel)) (goodIn_sub (fun _ h => List.mem_cons_of_mem _ (List.mem_append_right _ h)) (by decide +kernel))
set_option maxRecDepth 20000 in
theorem gX6_countWays_X2_isActiveOf : GoodIn wsX6_countWays (wsV RX6 174 RX2 yX2_isActiveOf wsX2_isActiveOf) := goodIn_app (goodIn_of _ (by decide +kernel)) ggX6_countWays_X2_isActiveOf
set_option maxRecDepth 20000 in
theorem ggX6_countWays_X3_countPaths : GoodIn wsX6_countWays wsX3_countPaths := goodIn_ca (goodIn_r _ [17, 18, 19, 20, 21, 16, 22, 23, 24, 25, 26, 27, 28, 45, 46, 47, 48, 49] (by decide +kernel) (by decide +kernel)) (goodIn_sub (fun _ h => List.mem_cons_of_mem _ (List.mem_append_right _ h)) (by decide +kernel))
set_option maxRecDepth 20000 in
theorem gX6_countWays_X3_countPaths : GoodIn wsX6_countWays (wsV RX6 360 RX3 yX3_countPaths wsX3_countPaths) := goodIn_app (goodIn_of _ (by decide +kernel)) ggX6_countWays_X3_countPaths
theorem dX6_countWays_0 : decode cX6_countWays 0 = .ok (.iconst 0, 1) := by decide +kernel
theorem dX6_countWays_1 : decode cX6_countWays 1 = .ok (.istore_n 3, 1) := by decide +kernel
theorem dX6_countWays_2 : decode cX6_countWays 2 = .ok (.iconst 0, 1) := by decide +kernel
theorem dX6_countWays_3 : decode cX6_countWays 3 = .ok (.istore 4, 2) := by decide +kernel
theorem dX6_countWays_5 : decode cX6_countWays 5 = .ok (.iload 4, 2) := by decide +kernel
theorem dX6_countWays_7 : decode cX6_countWays 7 = .ok (.aload_n 0, 1) := by decide +kernel
theorem dX6_countWays_8 : decode cX6_countWays 8 = .ok (.getfield 33, 3) := by decide +kernel
theorem dX6_countWays_11 : decode cX6_countWays 11 = .ok (.getfield 173, 3) := by decide +kernel
theorem dX6_countWays_14 : decode cX6_countWays 14 = .ok (.if_icmp .ge 60, 3) := by decide +kernel
theorem dX6_countWays_17 : decode cX6_countWays 17 = .ok (.aload_n 0, 1) := by decide +kernel
theorem dX6_countWays_18 : decode cX6_countWays 18 = .ok (.getfield 33, 3) := by decide +kernel
theorem dX6_countWays_21 : decode cX6_countWays 21 = .ok (.iload 4, 2) := by decide +kernel
theorem dX6_countWays_23 : decode cX6_countWays 23 = .ok (.iload_n 2, 1) := by decide +kernel
theorem dX6_countWays_24 : decode cX6_countWays 24 = .ok (.invokevirtual 174, 3) := by decide +kernel
theorem dX6_countWays_27 : decode cX6_countWays 27 = .ok (.ifCond .eq 41, 3) := by decide +kernel
theorem dX6_countWays_30 : decode cX6_countWays 30 = .ok (.aload_n 0, 1) := by decide +kernel
theorem dX6_countWays_31 : decode cX6_countWays 31 = .ok (.getfield 33, 3) := by decide +kernel
theorem dX6_countWays_34 : decode cX6_countWays 34 = .ok (.getfield 353, 3) := by decide +kernel
theorem dX6_countWays_37 : decode cX6_countWays 37 = .ok (.iload 4, 2) := by decide +kernel
theorem dX6_countWays_39 : decode cX6_countWays 39 = .ok (.iaload, 1) := by decide +kernel
theorem dX6_countWays_40 : decode cX6_countWays 40 = .ok (.iload_n 1, 1) := by decide +kernel
theorem dX6_countWays_41 : decode cX6_countWays 41 = .ok (.if_icmp .ne 6, 3) := by decide +kernel
theorem dX6_countWays_44 : decode cX6_countWays 44 = .ok (.iinc 3 1, 3) := by decide +kernel
theorem dX6_countWays_47 : decode cX6_countWays 47 = .ok (.iload_n 3, 1) := by decide +kernel
theorem dX6_countWays_48 : decode cX6_countWays 48 = .ok (.aload_n 0, 1) := by decide +kernel
theorem dX6_countWays_49 : decode cX6_countWays 49 = .ok (.getfield 19, 3) := by decide +kernel
theorem dX6_countWays_52 : decode cX6_countWays 52 = .ok (.aload_n 0, 1) := by decide +kernel
theorem dX6_countWays_53 : decode cX6_countWays 53 = .ok (.getfield 33, 3) := by decide +kernel
theorem dX6_countWays_56 : decode cX6_countWays 56 = .ok (.getfield 355, 3) := by decide +kernel
theorem dX6_countWays_59 : decode cX6_countWays 59 = .ok (.iload 4, 2) := by decide +kernel
theorem dX6_countWays_61 : decode cX6_countWays 61 = .ok (.iaload, 1) := by decide +kernel
theorem dX6_countWays_62 : decode cX6_countWays 62 = .ok (.iload_n 1, 1) := by decide +kernel
theorem dX6_countWays_63 : decode cX6_countWays 63 = .ok (.invokevirtual 360, 3) := by decide +kernel
theorem dX6_countWays_66 : decode cX6_countWays 66 = .ok (.iadd, 1) := by decide +kernel
theorem dX6_countWays_67 : decode cX6_countWays 67 = .ok (.istore_n 3, 1) := by decide +kernel
theorem dX6_countWays_68 : decode cX6_countWays 68 = .ok (.iinc 4 1, 3) := by decide +kernel
theorem dX6_countWays_71 : decode cX6_countWays 71 = .ok (.goto (-66), 3) := by decide +kernel
theorem dX6_countWays_74 : decode cX6_countWays 74 = .ok (.iload_n 3, 1) := by decide +kernel
theorem dX6_countWays_75 : decode cX6_countWays 75 = .ok (.ireturn, 1) := by decide +kernel
set_option maxRecDepth 20000 in
theorem ggX6_findGrantedGroups_X2_isActiveOf : GoodIn wsX6_findGrantedGroups wsX2_isActiveOf := goodIn_ca (goodIn_r _ [9, 10, 11, 25, 26, 27, 28, 29, 30, 31] (by decide +kernel) (by decide +kernel)) (goodIn_sub (fun _ h => List.mem_cons_of_mem _ (List.mem_append_right _ h)) (by decide +kernel))
set_option maxRecDepth 20000 in
theorem gX6_findGrantedGroups_X2_isActiveOf : GoodIn wsX6_findGrantedGroups (wsV RX6 174 RX2 yX2_isActiveOf wsX2_isActiveOf) := goodIn_app (goodIn_of _ (by decide +kernel)) ggX6_findGrantedGroups_X2_isActiveOf
set_option maxRecDepth 20000 in
theorem ggX6_findGrantedGroups_X6_bit : GoodIn wsX6_findGrantedGroups wsX6_bit := goodIn_r _ [15] (by decide +kernel) (by decide +kernel)
set_option maxRecDepth 20000 in
theorem gX6_findGrantedGroups_X6_bit : GoodIn wsX6_findGrantedGroups (va_wsS RX6 115 yX6_bit wsX6_bit) := goodIn_app (goodIn_of _ (by decide +kernel)) ggX6_findGrantedGroups_X6_bit
theorem dX6_findGrantedGroups_0 : decode cX6_findGrantedGroups 0 = .ok (.iconst 0, 1) := by decide +kernel
theorem dX6_findGrantedGroups_1 : decode cX6_findGrantedGroups 1 = .ok (.istore_n 2, 1) := by decide +kernel
theorem dX6_findGrantedGroups_2 : decode cX6_findGrantedGroups 2 = .ok (.iconst 0, 1) := by decide +kernel
theorem dX6_findGrantedGroups_3 : decode cX6_findGrantedGroups 3 = .ok (.istore_n 3, 1) := by decide +kernel
theorem dX6_findGrantedGroups_4 : decode cX6_findGrantedGroups 4 = .ok (.iload_n 3, 1) := by decide +kernel
theorem dX6_findGrantedGroups_5 : decode cX6_findGrantedGroups 5 = .ok (.aload_n 0, 1) := by decide +kernel
theorem dX6_findGrantedGroups_6 : decode cX6_findGrantedGroups 6 = .ok (.getfield 33, 3) := by decide +kernel
theorem dX6_findGrantedGroups_9 : decode cX6_findGrantedGroups 9 = .ok (.getfield 173, 3) := by decide +kernel
theorem dX6_findGrantedGroups_12 : decode cX6_findGrantedGroups 12 = .ok (.if_icmp .ge 49, 3) := by decide +kernel
theorem dX6_findGrantedGroups_15 : decode cX6_findGrantedGroups 15 = .ok (.aload_n 0, 1) := by decide +kernel
theorem dX6_findGrantedGroups_16 : decode cX6_findGrantedGroups 16 = .ok (.getfield 33, 3) := by decide +kernel
theorem dX6_findGrantedGroups_19 : decode cX6_findGrantedGroups 19 = .ok (.iload_n 3, 1) := by decide +kernel
theorem dX6_findGrantedGroups_20 : decode cX6_findGrantedGroups 20 = .ok (.iload_n 1, 1) := by decide +kernel
theorem dX6_findGrantedGroups_21 : decode cX6_findGrantedGroups 21 = .ok (.invokevirtual 174, 3) := by decide +kernel
theorem dX6_findGrantedGroups_24 : decode cX6_findGrantedGroups 24 = .ok (.ifCond .eq 31, 3) := by decide +kernel
theorem dX6_findGrantedGroups_27 : decode cX6_findGrantedGroups 27 = .ok (.aload_n 0, 1) := by decide +kernel
theorem dX6_findGrantedGroups_28 : decode cX6_findGrantedGroups 28 = .ok (.getfield 33, 3) := by decide +kernel
theorem dX6_findGrantedGroups_31 : decode cX6_findGrantedGroups 31 = .ok (.getfield 353, 3) := by decide +kernel
theorem dX6_findGrantedGroups_34 : decode cX6_findGrantedGroups 34 = .ok (.iload_n 3, 1) := by decide +kernel
theorem dX6_findGrantedGroups_35 : decode cX6_findGrantedGroups 35 = .ok (.iaload, 1) := by decide +kernel
theorem dX6_findGrantedGroups_36 : decode cX6_findGrantedGroups 36 = .ok (.iconst (-1), 1) := by decide +kernel
theorem dX6_findGrantedGroups_37 : decode cX6_findGrantedGroups 37 = .ok (.if_icmp .ne 18, 3) := by decide +kernel
theorem dX6_findGrantedGroups_40 : decode cX6_findGrantedGroups 40 = .ok (.iload_n 2, 1) := by decide +kernel
theorem dX6_findGrantedGroups_41 : decode cX6_findGrantedGroups 41 = .ok (.aload_n 0, 1) := by decide +kernel
theorem dX6_findGrantedGroups_42 : decode cX6_findGrantedGroups 42 = .ok (.getfield 33, 3) := by decide +kernel
theorem dX6_findGrantedGroups_45 : decode cX6_findGrantedGroups 45 = .ok (.getfield 355, 3) := by decide +kernel
theorem dX6_findGrantedGroups_48 : decode cX6_findGrantedGroups 48 = .ok (.iload_n 3, 1) := by decide +kernel
theorem dX6_findGrantedGroups_49 : decode cX6_findGrantedGroups 49 = .ok (.iaload, 1) := by decide +kernel
theorem dX6_findGrantedGroups_50 : decode cX6_findGrantedGroups 50 = .ok (.invokestatic 115, 3) := by decide +kernel
theorem dX6_findGrantedGroups_53 : decode cX6_findGrantedGroups 53 = .ok (.ior, 1) := by decide +kernel
theorem dX6_findGrantedGroups_54 : decode cX6_findGrantedGroups 54 = .ok (.istore_n 2, 1) := by decide +kernel
theorem dX6_findGrantedGroups_55 : decode cX6_findGrantedGroups 55 = .ok (.iinc 3 1, 3) := by decide +kernel
theorem dX6_findGrantedGroups_58 : decode cX6_findGrantedGroups 58 = .ok (.goto (-54), 3) := by decide +kernel
theorem dX6_findGrantedGroups_61 : decode cX6_findGrantedGroups 61 = .ok (.iload_n 2, 1) := by decide +kernel
theorem dX6_findGrantedGroups_62 : decode cX6_findGrantedGroups 62 = .ok (.ireturn, 1) := by decide +kernel
set_option maxRecDepth 20000 in
theorem ggX6_findLeastLength_X2_hasActive : GoodIn wsX6_findLeastLength wsX2_hasActive := goodIn_ca (goodIn_r _ [7, 8, 9, 10, 11, 12, 13, 6, 14, 15, 16, 48, 49, 50, 51, 52, 53, 54] (by decide +kernel) (by decide +kernel)) (goodIn_sub (fun _ h => List.mem_cons_of_mem _ (List.mem_append_right _ h)) (by decide +kernel))
set_option maxRecDepth 20000 in
theorem gX6_findLeastLength_X2_hasActive : GoodIn wsX6_findLeastLength (wsV RX6 345 RX2 yX2_hasActive wsX2_hasActive) := goodIn_app (goodIn_of _ (by decide +kernel)) ggX6_findLeastLength_X2_hasActive
set_option maxRecDepth 20000 in
theorem ggX6_findLeastLength_X6_findGrantedGroups : GoodIn wsX6_findLeastLength wsX6_findGrantedGroups := goodIn_ca (goodIn_r _ [21, 1, 22, 23, 24, 25, 12, 13, 6, 14, 15, 16, 26, 27, 20, 28, 39, 40, 41, 42, 43, 44, 45, 46, 47, 48, 49, 50, 51, 52, 53, 54] (by decide +kernel) (by decide +kernel)) (goodIn_sub (fun _ h => List.mem_cons_of_mem _ (List.mem_append_right _ h)) (by decide +kernel))
set_option maxRecDepth 20000 in
theorem gX6_findLeastLength_X6_findGrantedGroups : GoodIn wsX6_findLeastLength (wsV RX6 215 RX6 yX6_findGrantedGroups wsX6_findGrantedGroups) := goodIn_app (goodIn_of _ (by decide +kernel)) ggX6_findLeastLength_X6_findGrantedGroups
set_option maxRecDepth 20000 in
theorem ggX6_findLeastLength_X3_findWithin : GoodIn wsX6_findLeastLength wsX3_findWithin := goodIn_ca (goodIn_r _ [33, 34, 35, 36, 37, 20, 38, 26, 27, 28, 55, 56, 57, 58, 59] (by decide +kernel) (by decide +kernel)) (goodIn_sub (fun _ h => List.mem_cons_of_mem _ (List.mem_append_right _ h)) (by decide +kernel))
set_option maxRecDepth 20000 in
theorem gX6_findLeastLength_X3_findWithin : GoodIn wsX6_findLeastLength (wsV RX6 363 RX3 yX3_findWithin wsX3_findWithin) := goodIn_app (goodIn_of _ (by decide +kernel)) ggX6_findLeastLength_X3_findWithin
theorem dX6_findLeastLength_0 : decode cX6_findLeastLength 0 = .ok (.aload_n 0, 1) := by decide +kernel
theorem dX6_findLeastLength_1 : decode cX6_findLeastLength 1 = .ok (.getfield 33, 3) := by decide +kernel
theorem dX6_findLeastLength_4 : decode cX6_findLeastLength 4 = .ok (.iload_n 2, 1) := by decide +kernel
theorem dX6_findLeastLength_5 : decode cX6_findLeastLength 5 = .ok (.iload_n 1, 1) := by decide +kernel
theorem dX6_findLeastLength_6 : decode cX6_findLeastLength 6 = .ok (.iconst (-1), 1) := by decide +kernel
theorem dX6_findLeastLength_7 : decode cX6_findLeastLength 7 = .ok (.invokevirtual 345, 3) := by decide +kernel
theorem dX6_findLeastLength_10 : decode cX6_findLeastLength 10 = .ok (.ifCond .eq 5, 3) := by decide +kernel
theorem dX6_findLeastLength_13 : decode cX6_findLeastLength 13 = .ok (.iconst 0, 1) := by decide +kernel
theorem dX6_findLeastLength_14 : decode cX6_findLeastLength 14 = .ok (.ireturn, 1) := by decide +kernel
theorem dX6_findLeastLength_15 : decode cX6_findLeastLength 15 = .ok (.aload_n 0, 1) := by decide +kernel
theorem dX6_findLeastLength_16 : decode cX6_findLeastLength 16 = .ok (.iload_n 2, 1) := by decide +kernel
theorem dX6_findLeastLength_17 : decode cX6_findLeastLength 17 = .ok (.invokevirtual 215, 3) := by decide +kernel
theorem dX6_findLeastLength_20 : decode cX6_findLeastLength 20 = .ok (.istore_n 3, 1) := by decide +kernel
theorem dX6_findLeastLength_21 : decode cX6_findLeastLength 21 = .ok (.iconst 1, 1) := by decide +kernel
theorem dX6_findLeastLength_22 : decode cX6_findLeastLength 22 = .ok (.istore 4, 2) := by decide +kernel
theorem dX6_findLeastLength_24 : decode cX6_findLeastLength 24 = .ok (.iload 4, 2) := by decide +kernel
theorem dX6_findLeastLength_26 : decode cX6_findLeastLength 26 = .ok (.bipush 8, 2) := by decide +kernel
theorem dX6_findLeastLength_28 : decode cX6_findLeastLength 28 = .ok (.if_icmp .gt 27, 3) := by decide +kernel
theorem dX6_findLeastLength_31 : decode cX6_findLeastLength 31 = .ok (.iload_n 3, 1) := by decide +kernel
theorem dX6_findLeastLength_32 : decode cX6_findLeastLength 32 = .ok (.aload_n 0, 1) := by decide +kernel
theorem dX6_findLeastLength_33 : decode cX6_findLeastLength 33 = .ok (.getfield 19, 3) := by decide +kernel
theorem dX6_findLeastLength_36 : decode cX6_findLeastLength 36 = .ok (.iload_n 1, 1) := by decide +kernel
theorem dX6_findLeastLength_37 : decode cX6_findLeastLength 37 = .ok (.iload 4, 2) := by decide +kernel
theorem dX6_findLeastLength_39 : decode cX6_findLeastLength 39 = .ok (.invokevirtual 363, 3) := by decide +kernel
theorem dX6_findLeastLength_42 : decode cX6_findLeastLength 42 = .ok (.iand, 1) := by decide +kernel
theorem dX6_findLeastLength_43 : decode cX6_findLeastLength 43 = .ok (.ifCond .eq 6, 3) := by decide +kernel
theorem dX6_findLeastLength_46 : decode cX6_findLeastLength 46 = .ok (.iload 4, 2) := by decide +kernel
theorem dX6_findLeastLength_48 : decode cX6_findLeastLength 48 = .ok (.ireturn, 1) := by decide +kernel
theorem dX6_findLeastLength_49 : decode cX6_findLeastLength 49 = .ok (.iinc 4 1, 3) := by decide +kernel
theorem dX6_findLeastLength_52 : decode cX6_findLeastLength 52 = .ok (.goto (-28), 3) := by decide +kernel
theorem dX6_findLeastLength_55 : decode cX6_findLeastLength 55 = .ok (.iconst (-1), 1) := by decide +kernel
theorem dX6_findLeastLength_56 : decode cX6_findLeastLength 56 = .ok (.ireturn, 1) := by decide +kernel
set_option maxRecDepth 20000 in
theorem ggX6_rateRight_X4_findPeers : GoodIn wsX6_rateRight wsX4_findPeers := goodIn_ca (goodIn_r _ [8, 9, 10, 11, 12, 13, 35, 36, 37, 38, 39] (by decide +kernel) (by decide +kernel)) (goodIn_sub (fun _ h => List.mem_cons_of_mem _ (List.mem_append_left _ (List.mem_append_right _ h))) (by decide +kernel))
set_option maxRecDepth 20000 in
theorem gX6_rateRight_X4_findPeers : GoodIn wsX6_rateRight (wsV RX6 369 RX4 yX4_findPeers wsX4_findPeers) := goodIn_app (goodIn_of _ (by decide +kernel)) ggX6_rateRight_X4_findPeers
set_option maxRecDepth 20000 in
theorem ggX6_rateRight_J6_bitCount_0f7a4 : GoodIn wsX6_rateRight wsJ6_bitCount_0f7a4 := goodIn_r _ [17, 18, 19, 20] (by decide +kernel) (by decide +kernel)
set_option maxRecDepth 20000 in
theorem gX6_rateRight_J6_bitCount_0f7a4 : GoodIn wsX6_rateRight (va_wsS RX6 142 yJ6_bitCount_0f7a4 wsJ6_bitCount_0f7a4) := goodIn_app (goodIn_of _ (by decide +kernel)) ggX6_rateRight_J6_bitCount_0f7a4
theorem dX6_rateRight_0 : decode cX6_rateRight 0 = .ok (.bipush 100, 2) := by decide +kernel
theorem dX6_rateRight_2 : decode cX6_rateRight 2 = .ok (.aload_n 0, 1) := by decide +kernel
theorem dX6_rateRight_3 : decode cX6_rateRight 3 = .ok (.getfield 26, 3) := by decide +kernel
theorem dX6_rateRight_6 : decode cX6_rateRight 6 = .ok (.getfield 366, 3) := by decide +kernel
theorem dX6_rateRight_9 : decode cX6_rateRight 9 = .ok (.iload_n 1, 1) := by decide +kernel
theorem dX6_rateRight_10 : decode cX6_rateRight 10 = .ok (.iaload, 1) := by decide +kernel
theorem dX6_rateRight_11 : decode cX6_rateRight 11 = .ok (.imul, 1) := by decide +kernel
theorem dX6_rateRight_12 : decode cX6_rateRight 12 = .ok (.istore 4, 2) := by decide +kernel
theorem dX6_rateRight_14 : decode cX6_rateRight 14 = .ok (.aload_n 0, 1) := by decide +kernel
theorem dX6_rateRight_15 : decode cX6_rateRight 15 = .ok (.getfield 10, 3) := by decide +kernel
theorem dX6_rateRight_18 : decode cX6_rateRight 18 = .ok (.iload_n 2, 1) := by decide +kernel
theorem dX6_rateRight_19 : decode cX6_rateRight 19 = .ok (.invokevirtual 369, 3) := by decide +kernel
theorem dX6_rateRight_22 : decode cX6_rateRight 22 = .ok (.istore 5, 2) := by decide +kernel
theorem dX6_rateRight_24 : decode cX6_rateRight 24 = .ok (.iload 5, 2) := by decide +kernel
theorem dX6_rateRight_26 : decode cX6_rateRight 26 = .ok (.invokestatic 142, 3) := by decide +kernel
theorem dX6_rateRight_29 : decode cX6_rateRight 29 = .ok (.istore 6, 2) := by decide +kernel
theorem dX6_rateRight_31 : decode cX6_rateRight 31 = .ok (.iload 6, 2) := by decide +kernel
theorem dX6_rateRight_33 : decode cX6_rateRight 33 = .ok (.ifCond .ne 6, 3) := by decide +kernel
theorem dX6_rateRight_36 : decode cX6_rateRight 36 = .ok (.iload 4, 2) := by decide +kernel
theorem dX6_rateRight_38 : decode cX6_rateRight 38 = .ok (.ireturn, 1) := by decide +kernel
theorem dX6_rateRight_39 : decode cX6_rateRight 39 = .ok (.iload 4, 2) := by decide +kernel
theorem dX6_rateRight_41 : decode cX6_rateRight 41 = .ok (.iload 5, 2) := by decide +kernel
theorem dX6_rateRight_43 : decode cX6_rateRight 43 = .ok (.iload_n 3, 1) := by decide +kernel
theorem dX6_rateRight_44 : decode cX6_rateRight 44 = .ok (.iconst (-1), 1) := by decide +kernel
theorem dX6_rateRight_45 : decode cX6_rateRight 45 = .ok (.ixor, 1) := by decide +kernel
theorem dX6_rateRight_46 : decode cX6_rateRight 46 = .ok (.iand, 1) := by decide +kernel
theorem dX6_rateRight_47 : decode cX6_rateRight 47 = .ok (.invokestatic 142, 3) := by decide +kernel
theorem dX6_rateRight_50 : decode cX6_rateRight 50 = .ok (.imul, 1) := by decide +kernel
theorem dX6_rateRight_51 : decode cX6_rateRight 51 = .ok (.iload 6, 2) := by decide +kernel
theorem dX6_rateRight_53 : decode cX6_rateRight 53 = .ok (.idiv, 1) := by decide +kernel
theorem dX6_rateRight_54 : decode cX6_rateRight 54 = .ok (.ireturn, 1) := by decide +kernel
set_option maxRecDepth 20000 in
theorem ggX6_rateGrant_X6_findHolders : GoodIn wsX6_rateGrant wsX6_findHolders := goodIn_ca (goodIn_r _ [15, 1, 16, 17, 18, 19, 20, 21, 22, 23, 24, 25, 26, 27, 28, 14, 29, 30, 31, 32, 33, 34, 35, 36, 37, 38, 39, 40, 41, 42, 43, 44, 45, 46, 69, 70, 71, 72, 73, 74, 75, 76, 77, 78, 79, 80, 81, 82, 83, 84, 90, 91, 92, 93, 94, 95, 96, 97, 98, 99] (by decide +kernel) (by decide +kernel)) (goodIn_sub (fun _ h => List.mem_cons_of_mem _ (List.mem_append_left _ (List.mem_append_right _ h))) (by decide +kernel))
set_option maxRecDepth 20000 in
theorem gX6_rateGrant_X6_findHolders : GoodIn wsX6_rateGrant (wsV RX6 168 RX6 yX6_findHolders wsX6_findHolders) := goodIn_app (goodIn_of _ (by decide +kernel)) ggX6_rateGrant_X6_findHolders
set_option maxRecDepth 20000 in
theorem ggX6_rateGrant_X6_findReached : GoodIn wsX6_rateGrant wsX6_findReached := goodIn_ca (goodIn_r _ [29, 1, 30, 31, 32, 33, 34, 35, 36, 37, 38, 39, 40, 41, 42, 43, 44, 45, 14, 46, 69, 70, 71, 72, 73, 74, 75, 76, 77, 78, 79, 80, 81, 82, 83, 84, 95, 96, 97, 98, 99] (by decide +kernel) (by decide +kernel)) (goodIn_sub (fun _ h => List.mem_cons_of_mem _ (List.mem_append_left _ (List.mem_append_right _ h))) (by decide +kernel))
set_option maxRecDepth 20000 in
theorem gX6_rateGrant_X6_findReached : GoodIn wsX6_rateGrant (wsV RX6 177 RX6 yX6_findReached wsX6_findReached) := goodIn_app (goodIn_of _ (by decide +kernel)) ggX6_rateGrant_X6_findReached
set_option maxRecDepth 20000 in
theorem ggX6_rateGrant_X6_contains : GoodIn wsX6_rateGrant wsX6_contains := goodIn_r _ [49, 44, 45, 14, 46] (by decide +kernel) (by decide +kernel)
set_option maxRecDepth 20000 in
theorem gX6_rateGrant_X6_contains : GoodIn wsX6_rateGrant (va_wsS RX6 109 yX6_contains wsX6_contains) := goodIn_app (goodIn_of _ (by decide +kernel)) ggX6_rateGrant_X6_contains
set_option maxRecDepth 20000 in
theorem ggX6_rateGrant_X6_rateRight : GoodIn wsX6_rateGrant wsX6_rateRight := goodIn_ca (goodIn_ca (goodIn_r _ [53, 17, 54, 3, 55, 56, 57, 58, 59, 60, 61, 45, 14, 46, 62, 63, 64, 65, 66, 67, 68, 69, 70, 71, 72, 73, 74, 75, 76, 77, 90, 91, 92, 93, 94, 85, 86, 87, 88, 89] (by decide +kernel) (by decide +kernel)) (goodIn_sub (fun _ h => List.mem_cons_of_mem _ (List.mem_append_left _ (List.mem_append_right _ h))) (by decide +kernel))) (goodIn_sub (fun _ h => List.mem_cons_of_mem _ (List.mem_append_right _ h)) (by decide +kernel))
set_option maxRecDepth 20000 in
theorem gX6_rateGrant_X6_rateRight : GoodIn wsX6_rateGrant (wsV RX6 226 RX6 yX6_rateRight wsX6_rateRight) := goodIn_app (goodIn_of _ (by decide +kernel)) ggX6_rateGrant_X6_rateRight
theorem dX6_rateGrant_0 : decode cX6_rateGrant 0 = .ok (.aload_n 0, 1) := by decide +kernel
theorem dX6_rateGrant_1 : decode cX6_rateGrant 1 = .ok (.getfield 33, 3) := by decide +kernel
theorem dX6_rateGrant_4 : decode cX6_rateGrant 4 = .ok (.getfield 372, 3) := by decide +kernel
theorem dX6_rateGrant_7 : decode cX6_rateGrant 7 = .ok (.iload_n 1, 1) := by decide +kernel
theorem dX6_rateGrant_8 : decode cX6_rateGrant 8 = .ok (.iaload, 1) := by decide +kernel
theorem dX6_rateGrant_9 : decode cX6_rateGrant 9 = .ok (.istore_n 2, 1) := by decide +kernel
theorem dX6_rateGrant_10 : decode cX6_rateGrant 10 = .ok (.aload_n 0, 1) := by decide +kernel
theorem dX6_rateGrant_11 : decode cX6_rateGrant 11 = .ok (.iload_n 2, 1) := by decide +kernel
theorem dX6_rateGrant_12 : decode cX6_rateGrant 12 = .ok (.iconst (-1), 1) := by decide +kernel
theorem dX6_rateGrant_13 : decode cX6_rateGrant 13 = .ok (.invokevirtual 168, 3) := by decide +kernel
theorem dX6_rateGrant_16 : decode cX6_rateGrant 16 = .ok (.istore_n 3, 1) := by decide +kernel
theorem dX6_rateGrant_17 : decode cX6_rateGrant 17 = .ok (.aload_n 0, 1) := by decide +kernel
theorem dX6_rateGrant_18 : decode cX6_rateGrant 18 = .ok (.iload_n 1, 1) := by decide +kernel
theorem dX6_rateGrant_19 : decode cX6_rateGrant 19 = .ok (.invokevirtual 177, 3) := by decide +kernel
theorem dX6_rateGrant_22 : decode cX6_rateGrant 22 = .ok (.istore 4, 2) := by decide +kernel
theorem dX6_rateGrant_24 : decode cX6_rateGrant 24 = .ok (.iconst 0, 1) := by decide +kernel
theorem dX6_rateGrant_25 : decode cX6_rateGrant 25 = .ok (.istore 5, 2) := by decide +kernel
theorem dX6_rateGrant_27 : decode cX6_rateGrant 27 = .ok (.iconst 0, 1) := by decide +kernel
theorem dX6_rateGrant_28 : decode cX6_rateGrant 28 = .ok (.istore 6, 2) := by decide +kernel
theorem dX6_rateGrant_30 : decode cX6_rateGrant 30 = .ok (.iload 6, 2) := by decide +kernel
theorem dX6_rateGrant_32 : decode cX6_rateGrant 32 = .ok (.aload_n 0, 1) := by decide +kernel
theorem dX6_rateGrant_33 : decode cX6_rateGrant 33 = .ok (.getfield 10, 3) := by decide +kernel
theorem dX6_rateGrant_36 : decode cX6_rateGrant 36 = .ok (.getfield 72, 3) := by decide +kernel
theorem dX6_rateGrant_39 : decode cX6_rateGrant 39 = .ok (.if_icmp .ge 34, 3) := by decide +kernel
theorem dX6_rateGrant_42 : decode cX6_rateGrant 42 = .ok (.iload 4, 2) := by decide +kernel
theorem dX6_rateGrant_44 : decode cX6_rateGrant 44 = .ok (.iload 6, 2) := by decide +kernel
theorem dX6_rateGrant_46 : decode cX6_rateGrant 46 = .ok (.invokestatic 109, 3) := by decide +kernel
theorem dX6_rateGrant_49 : decode cX6_rateGrant 49 = .ok (.ifCond .eq 18, 3) := by decide +kernel
theorem dX6_rateGrant_52 : decode cX6_rateGrant 52 = .ok (.iload 5, 2) := by decide +kernel
theorem dX6_rateGrant_54 : decode cX6_rateGrant 54 = .ok (.aload_n 0, 1) := by decide +kernel
theorem dX6_rateGrant_55 : decode cX6_rateGrant 55 = .ok (.iload_n 2, 1) := by decide +kernel
theorem dX6_rateGrant_56 : decode cX6_rateGrant 56 = .ok (.iload 6, 2) := by decide +kernel
theorem dX6_rateGrant_58 : decode cX6_rateGrant 58 = .ok (.iload_n 3, 1) := by decide +kernel
theorem dX6_rateGrant_59 : decode cX6_rateGrant 59 = .ok (.invokevirtual 226, 3) := by decide +kernel
theorem dX6_rateGrant_62 : decode cX6_rateGrant 62 = .ok (.invokestatic 374, 3) := by decide +kernel
theorem dX6_rateGrant_65 : decode cX6_rateGrant 65 = .ok (.istore 5, 2) := by decide +kernel
theorem dX6_rateGrant_67 : decode cX6_rateGrant 67 = .ok (.iinc 6 1, 3) := by decide +kernel
theorem dX6_rateGrant_70 : decode cX6_rateGrant 70 = .ok (.goto (-40), 3) := by decide +kernel
theorem dX6_rateGrant_73 : decode cX6_rateGrant 73 = .ok (.aload_n 0, 1) := by decide +kernel
theorem dX6_rateGrant_74 : decode cX6_rateGrant 74 = .ok (.getfield 51, 3) := by decide +kernel
theorem dX6_rateGrant_77 : decode cX6_rateGrant 77 = .ok (.aload_n 0, 1) := by decide +kernel
theorem dX6_rateGrant_78 : decode cX6_rateGrant 78 = .ok (.getfield 33, 3) := by decide +kernel
theorem dX6_rateGrant_81 : decode cX6_rateGrant 81 = .ok (.getfield 180, 3) := by decide +kernel
theorem dX6_rateGrant_84 : decode cX6_rateGrant 84 = .ok (.iload_n 1, 1) := by decide +kernel
theorem dX6_rateGrant_85 : decode cX6_rateGrant 85 = .ok (.iaload, 1) := by decide +kernel
theorem dX6_rateGrant_86 : decode cX6_rateGrant 86 = .ok (.isub, 1) := by decide +kernel
theorem dX6_rateGrant_87 : decode cX6_rateGrant 87 = .ok (.bipush 30, 2) := by decide +kernel
theorem dX6_rateGrant_89 : decode cX6_rateGrant 89 = .ok (.if_icmp .lt 7, 3) := by decide +kernel
theorem dX6_rateGrant_92 : decode cX6_rateGrant 92 = .ok (.iconst 1, 1) := by decide +kernel
theorem dX6_rateGrant_93 : decode cX6_rateGrant 93 = .ok (.goto 4, 3) := by decide +kernel
theorem dX6_rateGrant_96 : decode cX6_rateGrant 96 = .ok (.iconst 0, 1) := by decide +kernel
theorem dX6_rateGrant_97 : decode cX6_rateGrant 97 = .ok (.istore 6, 2) := by decide +kernel
theorem dX6_rateGrant_99 : decode cX6_rateGrant 99 = .ok (.iload 6, 2) := by decide +kernel
theorem dX6_rateGrant_101 : decode cX6_rateGrant 101 = .ok (.ifCond .eq 11, 3) := by decide +kernel
theorem dX6_rateGrant_104 : decode cX6_rateGrant 104 = .ok (.iload 5, 2) := by decide +kernel
theorem dX6_rateGrant_106 : decode cX6_rateGrant 106 = .ok (.bipush 50, 2) := by decide +kernel
theorem dX6_rateGrant_108 : decode cX6_rateGrant 108 = .ok (.iadd, 1) := by decide +kernel
theorem dX6_rateGrant_109 : decode cX6_rateGrant 109 = .ok (.goto 5, 3) := by decide +kernel
theorem dX6_rateGrant_112 : decode cX6_rateGrant 112 = .ok (.iload 5, 2) := by decide +kernel
theorem dX6_rateGrant_114 : decode cX6_rateGrant 114 = .ok (.ireturn, 1) := by decide +kernel
set_option maxRecDepth 20000 in
theorem ggX6_findReviewer_X3_ownerOf : GoodIn wsX6_findReviewer wsX3_ownerOf := goodIn_ca (goodIn_r _ [15, 16, 17, 18, 19, 14, 20, 21, 60, 61, 62, 63, 64] (by decide +kernel) (by decide +kernel)) (goodIn_sub (fun _ h => List.mem_cons_of_mem _ (List.mem_append_right _ h)) (by decide +kernel))
set_option maxRecDepth 20000 in
theorem gX6_findReviewer_X3_ownerOf : GoodIn wsX6_findReviewer (wsV RX6 379 RX3 yX3_ownerOf wsX3_ownerOf) := goodIn_app (goodIn_of _ (by decide +kernel)) ggX6_findReviewer_X3_ownerOf
set_option maxRecDepth 20000 in
theorem ggX6_findReviewer_X4_firstPresent : GoodIn wsX6_findReviewer wsX4_firstPresent := goodIn_ca (goodIn_r _ [26, 27, 28, 29, 30, 31, 32, 25, 33, 50, 51, 52, 53, 54] (by decide +kernel) (by decide +kernel)) (goodIn_sub (fun _ h => List.mem_cons_of_mem _ (List.mem_append_right _ h)) (by decide +kernel))
set_option maxRecDepth 20000 in
theorem gX6_findReviewer_X4_firstPresent : GoodIn wsX6_findReviewer (wsV RX6 94 RX4 yX4_firstPresent wsX4_firstPresent) := goodIn_app (goodIn_of _ (by decide +kernel)) ggX6_findReviewer_X4_firstPresent
theorem dX6_findReviewer_0 : decode cX6_findReviewer 0 = .ok (.aload_n 0, 1) := by decide +kernel
theorem dX6_findReviewer_1 : decode cX6_findReviewer 1 = .ok (.getfield 33, 3) := by decide +kernel
theorem dX6_findReviewer_4 : decode cX6_findReviewer 4 = .ok (.getfield 353, 3) := by decide +kernel
theorem dX6_findReviewer_7 : decode cX6_findReviewer 7 = .ok (.iload_n 1, 1) := by decide +kernel
theorem dX6_findReviewer_8 : decode cX6_findReviewer 8 = .ok (.iaload, 1) := by decide +kernel
theorem dX6_findReviewer_9 : decode cX6_findReviewer 9 = .ok (.istore_n 2, 1) := by decide +kernel
theorem dX6_findReviewer_10 : decode cX6_findReviewer 10 = .ok (.iload_n 2, 1) := by decide +kernel
theorem dX6_findReviewer_11 : decode cX6_findReviewer 11 = .ok (.iconst (-1), 1) := by decide +kernel
theorem dX6_findReviewer_12 : decode cX6_findReviewer 12 = .ok (.if_icmp .ne 22, 3) := by decide +kernel
theorem dX6_findReviewer_15 : decode cX6_findReviewer 15 = .ok (.aload_n 0, 1) := by decide +kernel
theorem dX6_findReviewer_16 : decode cX6_findReviewer 16 = .ok (.getfield 19, 3) := by decide +kernel
theorem dX6_findReviewer_19 : decode cX6_findReviewer 19 = .ok (.aload_n 0, 1) := by decide +kernel
theorem dX6_findReviewer_20 : decode cX6_findReviewer 20 = .ok (.getfield 33, 3) := by decide +kernel
theorem dX6_findReviewer_23 : decode cX6_findReviewer 23 = .ok (.getfield 355, 3) := by decide +kernel
theorem dX6_findReviewer_26 : decode cX6_findReviewer 26 = .ok (.iload_n 1, 1) := by decide +kernel
theorem dX6_findReviewer_27 : decode cX6_findReviewer 27 = .ok (.iaload, 1) := by decide +kernel
theorem dX6_findReviewer_28 : decode cX6_findReviewer 28 = .ok (.invokevirtual 379, 3) := by decide +kernel
theorem dX6_findReviewer_31 : decode cX6_findReviewer 31 = .ok (.goto 12, 3) := by decide +kernel
theorem dX6_findReviewer_34 : decode cX6_findReviewer 34 = .ok (.aload_n 0, 1) := by decide +kernel
theorem dX6_findReviewer_35 : decode cX6_findReviewer 35 = .ok (.getfield 10, 3) := by decide +kernel
theorem dX6_findReviewer_38 : decode cX6_findReviewer 38 = .ok (.getfield 382, 3) := by decide +kernel
theorem dX6_findReviewer_41 : decode cX6_findReviewer 41 = .ok (.iload_n 2, 1) := by decide +kernel
theorem dX6_findReviewer_42 : decode cX6_findReviewer 42 = .ok (.iaload, 1) := by decide +kernel
theorem dX6_findReviewer_43 : decode cX6_findReviewer 43 = .ok (.istore_n 3, 1) := by decide +kernel
theorem dX6_findReviewer_44 : decode cX6_findReviewer 44 = .ok (.aload_n 0, 1) := by decide +kernel
theorem dX6_findReviewer_45 : decode cX6_findReviewer 45 = .ok (.getfield 10, 3) := by decide +kernel
theorem dX6_findReviewer_48 : decode cX6_findReviewer 48 = .ok (.iload_n 3, 1) := by decide +kernel
theorem dX6_findReviewer_49 : decode cX6_findReviewer 49 = .ok (.invokevirtual 94, 3) := by decide +kernel
theorem dX6_findReviewer_52 : decode cX6_findReviewer 52 = .ok (.istore 4, 2) := by decide +kernel
theorem dX6_findReviewer_54 : decode cX6_findReviewer 54 = .ok (.iload 4, 2) := by decide +kernel
theorem dX6_findReviewer_56 : decode cX6_findReviewer 56 = .ok (.iconst (-1), 1) := by decide +kernel
theorem dX6_findReviewer_57 : decode cX6_findReviewer 57 = .ok (.if_icmp .eq 12, 3) := by decide +kernel
theorem dX6_findReviewer_60 : decode cX6_findReviewer 60 = .ok (.iload 4, 2) := by decide +kernel
theorem dX6_findReviewer_62 : decode cX6_findReviewer 62 = .ok (.iload_n 2, 1) := by decide +kernel
theorem dX6_findReviewer_63 : decode cX6_findReviewer 63 = .ok (.if_icmp .eq 6, 3) := by decide +kernel
theorem dX6_findReviewer_66 : decode cX6_findReviewer 66 = .ok (.iload 4, 2) := by decide +kernel
theorem dX6_findReviewer_68 : decode cX6_findReviewer 68 = .ok (.ireturn, 1) := by decide +kernel
theorem dX6_findReviewer_69 : decode cX6_findReviewer 69 = .ok (.aload_n 0, 1) := by decide +kernel
theorem dX6_findReviewer_70 : decode cX6_findReviewer 70 = .ok (.getfield 10, 3) := by decide +kernel
theorem dX6_findReviewer_73 : decode cX6_findReviewer 73 = .ok (.aload_n 0, 1) := by decide +kernel
theorem dX6_findReviewer_74 : decode cX6_findReviewer 74 = .ok (.getfield 26, 3) := by decide +kernel
theorem dX6_findReviewer_77 : decode cX6_findReviewer 77 = .ok (.getfield 385, 3) := by decide +kernel
theorem dX6_findReviewer_80 : decode cX6_findReviewer 80 = .ok (.aload_n 0, 1) := by decide +kernel
theorem dX6_findReviewer_81 : decode cX6_findReviewer 81 = .ok (.getfield 33, 3) := by decide +kernel
theorem dX6_findReviewer_84 : decode cX6_findReviewer 84 = .ok (.getfield 372, 3) := by decide +kernel
theorem dX6_findReviewer_87 : decode cX6_findReviewer 87 = .ok (.iload_n 1, 1) := by decide +kernel
theorem dX6_findReviewer_88 : decode cX6_findReviewer 88 = .ok (.iaload, 1) := by decide +kernel
theorem dX6_findReviewer_89 : decode cX6_findReviewer 89 = .ok (.iaload, 1) := by decide +kernel
theorem dX6_findReviewer_90 : decode cX6_findReviewer 90 = .ok (.invokevirtual 94, 3) := by decide +kernel
theorem dX6_findReviewer_93 : decode cX6_findReviewer 93 = .ok (.istore 4, 2) := by decide +kernel
theorem dX6_findReviewer_95 : decode cX6_findReviewer 95 = .ok (.iload 4, 2) := by decide +kernel
theorem dX6_findReviewer_97 : decode cX6_findReviewer 97 = .ok (.iconst (-1), 1) := by decide +kernel
theorem dX6_findReviewer_98 : decode cX6_findReviewer 98 = .ok (.if_icmp .eq 12, 3) := by decide +kernel
theorem dX6_findReviewer_101 : decode cX6_findReviewer 101 = .ok (.iload 4, 2) := by decide +kernel
theorem dX6_findReviewer_103 : decode cX6_findReviewer 103 = .ok (.iload_n 2, 1) := by decide +kernel
theorem dX6_findReviewer_104 : decode cX6_findReviewer 104 = .ok (.if_icmp .eq 6, 3) := by decide +kernel
theorem dX6_findReviewer_107 : decode cX6_findReviewer 107 = .ok (.iload 4, 2) := by decide +kernel
theorem dX6_findReviewer_109 : decode cX6_findReviewer 109 = .ok (.ireturn, 1) := by decide +kernel
theorem dX6_findReviewer_110 : decode cX6_findReviewer 110 = .ok (.iconst 0, 1) := by decide +kernel
theorem dX6_findReviewer_111 : decode cX6_findReviewer 111 = .ok (.istore 5, 2) := by decide +kernel
theorem dX6_findReviewer_113 : decode cX6_findReviewer 113 = .ok (.iload 5, 2) := by decide +kernel
theorem dX6_findReviewer_115 : decode cX6_findReviewer 115 = .ok (.aload_n 0, 1) := by decide +kernel
theorem dX6_findReviewer_116 : decode cX6_findReviewer 116 = .ok (.getfield 10, 3) := by decide +kernel
theorem dX6_findReviewer_119 : decode cX6_findReviewer 119 = .ok (.getfield 72, 3) := by decide +kernel
theorem dX6_findReviewer_122 : decode cX6_findReviewer 122 = .ok (.if_icmp .ge 35, 3) := by decide +kernel
theorem dX6_findReviewer_125 : decode cX6_findReviewer 125 = .ok (.aload_n 0, 1) := by decide +kernel
theorem dX6_findReviewer_126 : decode cX6_findReviewer 126 = .ok (.getfield 10, 3) := by decide +kernel
theorem dX6_findReviewer_129 : decode cX6_findReviewer 129 = .ok (.iload 5, 2) := by decide +kernel
theorem dX6_findReviewer_131 : decode cX6_findReviewer 131 = .ok (.invokevirtual 94, 3) := by decide +kernel
theorem dX6_findReviewer_134 : decode cX6_findReviewer 134 = .ok (.istore 4, 2) := by decide +kernel
theorem dX6_findReviewer_136 : decode cX6_findReviewer 136 = .ok (.iload 4, 2) := by decide +kernel
theorem dX6_findReviewer_138 : decode cX6_findReviewer 138 = .ok (.iconst (-1), 1) := by decide +kernel
theorem dX6_findReviewer_139 : decode cX6_findReviewer 139 = .ok (.if_icmp .eq 12, 3) := by decide +kernel
theorem dX6_findReviewer_142 : decode cX6_findReviewer 142 = .ok (.iload 4, 2) := by decide +kernel
theorem dX6_findReviewer_144 : decode cX6_findReviewer 144 = .ok (.iload_n 2, 1) := by decide +kernel
theorem dX6_findReviewer_145 : decode cX6_findReviewer 145 = .ok (.if_icmp .eq 6, 3) := by decide +kernel
theorem dX6_findReviewer_148 : decode cX6_findReviewer 148 = .ok (.iload 4, 2) := by decide +kernel
theorem dX6_findReviewer_150 : decode cX6_findReviewer 150 = .ok (.ireturn, 1) := by decide +kernel
theorem dX6_findReviewer_151 : decode cX6_findReviewer 151 = .ok (.iinc 5 1, 3) := by decide +kernel
theorem dX6_findReviewer_154 : decode cX6_findReviewer 154 = .ok (.goto (-41), 3) := by decide +kernel
theorem dX6_findReviewer_157 : decode cX6_findReviewer 157 = .ok (.iconst (-1), 1) := by decide +kernel
theorem dX6_findReviewer_158 : decode cX6_findReviewer 158 = .ok (.ireturn, 1) := by decide +kernel
set_option maxRecDepth 20000 in
theorem ggX6_decideBySilence_X6_rateGrant : GoodIn wsX6_decideBySilence wsX6_rateGrant := goodIn_ca (goodIn_ca (goodIn_r _ [10, 11, 12, 13, 14, 15, 16, 17, 18, 19, 20, 21, 22, 23, 9, 24, 25, 26, 27, 28, 29, 30, 31, 32, 33, 34, 35, 36, 37, 38, 39, 40, 41, 42, 43, 44, 45, 46, 47, 48, 49, 50, 51, 52, 53, 54, 55, 56, 57, 58, 59, 60, 61, 62, 63, 64, 65, 66, 67, 68, 69, 70, 71, 72, 73, 74, 75, 76, 77, 111, 112, 113, 114, 115, 116, 117, 118, 119, 128, 129, 130, 131, 132, 133, 134, 135, 136, 137, 138, 139, 140, 141, 142, 143, 144, 145, 146, 147, 148, 149] (by decide +kernel) (by decide +kernel)) (goodIn_sub (fun _ h => List.mem_cons_of_mem _ (List.mem_append_left _ (List.mem_append_right _ h))) (by decide +kernel))) (goodIn_sub (fun _ h => List.mem_cons_of_mem _ (List.mem_append_right _ h)) (by decide +kernel))
set_option maxRecDepth 20000 in
theorem gX6_decideBySilence_X6_rateGrant : GoodIn wsX6_decideBySilence (wsV RX6 223 RX6 yX6_rateGrant wsX6_rateGrant) := goodIn_app (goodIn_of _ (by decide +kernel)) ggX6_decideBySilence_X6_rateGrant
set_option maxRecDepth 20000 in
theorem ggX6_decideBySilence_X6_decide : GoodIn wsX6_decideBySilence wsX6_decide := goodIn_ca (goodIn_r _ [81, 1, 4, 82, 19, 11, 83, 84, 85, 86, 87, 88, 89, 90, 91, 92, 93, 94, 95, 96, 97, 98, 99, 100, 101, 102, 103, 104, 105, 106, 107, 108, 109, 110, 111, 112, 113, 114, 115, 116, 117, 118, 119, 120, 121, 122, 123, 124, 125, 126, 127, 128, 129, 130, 131, 132, 133, 134, 150, 151, 152, 153, 154] (by decide +kernel) (by decide +kernel)) (goodIn_sub (fun _ h => List.mem_cons_of_mem _ (List.mem_append_left _ (List.mem_append_right _ h))) (by decide +kernel))
set_option maxRecDepth 20000 in
theorem gX6_decideBySilence_X6_decide : GoodIn wsX6_decideBySilence (wsV RX6 288 RX6 yX6_decide wsX6_decide) := goodIn_app (goodIn_of _ (by decide +kernel)) ggX6_decideBySilence_X6_decide
theorem dX6_decideBySilence_0 : decode cX6_decideBySilence 0 = .ok (.iconst 0, 1) := by decide +kernel
theorem dX6_decideBySilence_1 : decode cX6_decideBySilence 1 = .ok (.istore_n 1, 1) := by decide +kernel
theorem dX6_decideBySilence_2 : decode cX6_decideBySilence 2 = .ok (.iload_n 1, 1) := by decide +kernel
theorem dX6_decideBySilence_3 : decode cX6_decideBySilence 3 = .ok (.aload_n 0, 1) := by decide +kernel
theorem dX6_decideBySilence_4 : decode cX6_decideBySilence 4 = .ok (.getfield 40, 3) := by decide +kernel
theorem dX6_decideBySilence_7 : decode cX6_decideBySilence 7 = .ok (.getfield 271, 3) := by decide +kernel
theorem dX6_decideBySilence_10 : decode cX6_decideBySilence 10 = .ok (.if_icmp .ge 66, 3) := by decide +kernel
theorem dX6_decideBySilence_13 : decode cX6_decideBySilence 13 = .ok (.aload_n 0, 1) := by decide +kernel
theorem dX6_decideBySilence_14 : decode cX6_decideBySilence 14 = .ok (.getfield 40, 3) := by decide +kernel
theorem dX6_decideBySilence_17 : decode cX6_decideBySilence 17 = .ok (.getfield 279, 3) := by decide +kernel
theorem dX6_decideBySilence_20 : decode cX6_decideBySilence 20 = .ok (.iload_n 1, 1) := by decide +kernel
theorem dX6_decideBySilence_21 : decode cX6_decideBySilence 21 = .ok (.caload, 1) := by decide +kernel
theorem dX6_decideBySilence_22 : decode cX6_decideBySilence 22 = .ok (.bipush 117, 2) := by decide +kernel
theorem dX6_decideBySilence_24 : decode cX6_decideBySilence 24 = .ok (.if_icmp .ne 46, 3) := by decide +kernel
theorem dX6_decideBySilence_27 : decode cX6_decideBySilence 27 = .ok (.aload_n 0, 1) := by decide +kernel
theorem dX6_decideBySilence_28 : decode cX6_decideBySilence 28 = .ok (.aload_n 0, 1) := by decide +kernel
theorem dX6_decideBySilence_29 : decode cX6_decideBySilence 29 = .ok (.getfield 40, 3) := by decide +kernel
theorem dX6_decideBySilence_32 : decode cX6_decideBySilence 32 = .ok (.getfield 284, 3) := by decide +kernel
theorem dX6_decideBySilence_35 : decode cX6_decideBySilence 35 = .ok (.iload_n 1, 1) := by decide +kernel
theorem dX6_decideBySilence_36 : decode cX6_decideBySilence 36 = .ok (.iaload, 1) := by decide +kernel
theorem dX6_decideBySilence_37 : decode cX6_decideBySilence 37 = .ok (.invokevirtual 223, 3) := by decide +kernel
theorem dX6_decideBySilence_40 : decode cX6_decideBySilence 40 = .ok (.aload_n 0, 1) := by decide +kernel
theorem dX6_decideBySilence_41 : decode cX6_decideBySilence 41 = .ok (.getfield 55, 3) := by decide +kernel
theorem dX6_decideBySilence_44 : decode cX6_decideBySilence 44 = .ok (.if_icmp .lt 7, 3) := by decide +kernel
theorem dX6_decideBySilence_47 : decode cX6_decideBySilence 47 = .ok (.iconst 1, 1) := by decide +kernel
theorem dX6_decideBySilence_48 : decode cX6_decideBySilence 48 = .ok (.goto 4, 3) := by decide +kernel
theorem dX6_decideBySilence_51 : decode cX6_decideBySilence 51 = .ok (.iconst 0, 1) := by decide +kernel
theorem dX6_decideBySilence_52 : decode cX6_decideBySilence 52 = .ok (.istore_n 2, 1) := by decide +kernel
theorem dX6_decideBySilence_53 : decode cX6_decideBySilence 53 = .ok (.aload_n 0, 1) := by decide +kernel
theorem dX6_decideBySilence_54 : decode cX6_decideBySilence 54 = .ok (.iload_n 1, 1) := by decide +kernel
theorem dX6_decideBySilence_55 : decode cX6_decideBySilence 55 = .ok (.iload_n 2, 1) := by decide +kernel
theorem dX6_decideBySilence_56 : decode cX6_decideBySilence 56 = .ok (.ifCond .eq 8, 3) := by decide +kernel
theorem dX6_decideBySilence_59 : decode cX6_decideBySilence 59 = .ok (.bipush 114, 2) := by decide +kernel
theorem dX6_decideBySilence_61 : decode cX6_decideBySilence 61 = .ok (.goto 5, 3) := by decide +kernel
theorem dX6_decideBySilence_64 : decode cX6_decideBySilence 64 = .ok (.bipush 107, 2) := by decide +kernel
theorem dX6_decideBySilence_66 : decode cX6_decideBySilence 66 = .ok (.iconst (-1), 1) := by decide +kernel
theorem dX6_decideBySilence_67 : decode cX6_decideBySilence 67 = .ok (.invokevirtual 288, 3) := by decide +kernel
theorem dX6_decideBySilence_70 : decode cX6_decideBySilence 70 = .ok (.iinc 1 1, 3) := by decide +kernel
theorem dX6_decideBySilence_73 : decode cX6_decideBySilence 73 = .ok (.goto (-71), 3) := by decide +kernel
theorem dX6_decideBySilence_76 : decode cX6_decideBySilence 76 = .ok (.return_, 1) := by decide +kernel
set_option maxRecDepth 20000 in
theorem ggX6_decide_X0_settle : GoodIn wsX6_decide wsX0_settle := goodIn_ca (goodIn_r _ [13, 14, 15, 16, 17, 18, 43, 44, 45, 46, 47, 48, 49, 50] (by decide +kernel) (by decide +kernel)) (goodIn_sub (fun _ h => List.mem_cons_of_mem _ (List.mem_append_right _ h)) (by decide +kernel))
set_option maxRecDepth 20000 in
theorem gX6_decide_X0_settle : GoodIn wsX6_decide (wsV RX6 388 RX0 yX0_settle wsX0_settle) := goodIn_app (goodIn_of _ (by decide +kernel)) ggX6_decide_X0_settle
set_option maxRecDepth 20000 in
theorem ggX6_decide_X1_add : GoodIn wsX6_decide wsX1_add := goodIn_ca (goodIn_r _ [23, 24, 25, 26, 27, 28, 29, 30, 31, 22, 32, 33, 58, 59, 60, 61, 62] (by decide +kernel) (by decide +kernel)) (goodIn_sub (fun _ h => List.mem_cons_of_mem _ (List.mem_append_right _ h)) (by decide +kernel))
set_option maxRecDepth 20000 in
theorem gX6_decide_X1_add : GoodIn wsX6_decide (wsV RX6 391 RX1 yX1_add wsX1_add) := goodIn_app (goodIn_of _ (by decide +kernel)) ggX6_decide_X1_add
theorem dX6_decide_0 : decode cX6_decide 0 = .ok (.aload_n 0, 1) := by decide +kernel
theorem dX6_decide_1 : decode cX6_decide 1 = .ok (.getfield 40, 3) := by decide +kernel
theorem dX6_decide_4 : decode cX6_decide 4 = .ok (.getfield 284, 3) := by decide +kernel
theorem dX6_decide_7 : decode cX6_decide 7 = .ok (.iload_n 1, 1) := by decide +kernel
theorem dX6_decide_8 : decode cX6_decide 8 = .ok (.iaload, 1) := by decide +kernel
theorem dX6_decide_9 : decode cX6_decide 9 = .ok (.istore 4, 2) := by decide +kernel
theorem dX6_decide_11 : decode cX6_decide 11 = .ok (.aload_n 0, 1) := by decide +kernel
theorem dX6_decide_12 : decode cX6_decide 12 = .ok (.getfield 40, 3) := by decide +kernel
theorem dX6_decide_15 : decode cX6_decide 15 = .ok (.iload_n 1, 1) := by decide +kernel
theorem dX6_decide_16 : decode cX6_decide 16 = .ok (.iload_n 2, 1) := by decide +kernel
theorem dX6_decide_17 : decode cX6_decide 17 = .ok (.iload_n 3, 1) := by decide +kernel
theorem dX6_decide_18 : decode cX6_decide 18 = .ok (.invokevirtual 388, 3) := by decide +kernel
theorem dX6_decide_21 : decode cX6_decide 21 = .ok (.aload_n 0, 1) := by decide +kernel
theorem dX6_decide_22 : decode cX6_decide 22 = .ok (.getfield 47, 3) := by decide +kernel
theorem dX6_decide_25 : decode cX6_decide 25 = .ok (.iload_n 2, 1) := by decide +kernel
theorem dX6_decide_26 : decode cX6_decide 26 = .ok (.iload 4, 2) := by decide +kernel
theorem dX6_decide_28 : decode cX6_decide 28 = .ok (.aload_n 0, 1) := by decide +kernel
theorem dX6_decide_29 : decode cX6_decide 29 = .ok (.getfield 51, 3) := by decide +kernel
theorem dX6_decide_32 : decode cX6_decide 32 = .ok (.invokevirtual 391, 3) := by decide +kernel
theorem dX6_decide_35 : decode cX6_decide 35 = .ok (.iload_n 2, 1) := by decide +kernel
theorem dX6_decide_36 : decode cX6_decide 36 = .ok (.bipush 114, 2) := by decide +kernel
theorem dX6_decide_38 : decode cX6_decide 38 = .ok (.if_icmp .ne 34, 3) := by decide +kernel
theorem dX6_decide_41 : decode cX6_decide 41 = .ok (.aload_n 0, 1) := by decide +kernel
theorem dX6_decide_42 : decode cX6_decide 42 = .ok (.getfield 33, 3) := by decide +kernel
theorem dX6_decide_45 : decode cX6_decide 45 = .ok (.getfield 186, 3) := by decide +kernel
theorem dX6_decide_48 : decode cX6_decide 48 = .ok (.iload 4, 2) := by decide +kernel
theorem dX6_decide_50 : decode cX6_decide 50 = .ok (.bipush 119, 2) := by decide +kernel
theorem dX6_decide_52 : decode cX6_decide 52 = .ok (.castore, 1) := by decide +kernel
theorem dX6_decide_53 : decode cX6_decide 53 = .ok (.aload_n 0, 1) := by decide +kernel
theorem dX6_decide_54 : decode cX6_decide 54 = .ok (.getfield 33, 3) := by decide +kernel
theorem dX6_decide_57 : decode cX6_decide 57 = .ok (.getfield 192, 3) := by decide +kernel
theorem dX6_decide_60 : decode cX6_decide 60 = .ok (.iload 4, 2) := by decide +kernel
theorem dX6_decide_62 : decode cX6_decide 62 = .ok (.aload_n 0, 1) := by decide +kernel
theorem dX6_decide_63 : decode cX6_decide 63 = .ok (.getfield 51, 3) := by decide +kernel
theorem dX6_decide_66 : decode cX6_decide 66 = .ok (.aload_n 0, 1) := by decide +kernel
theorem dX6_decide_67 : decode cX6_decide 67 = .ok (.getfield 58, 3) := by decide +kernel
theorem dX6_decide_70 : decode cX6_decide 70 = .ok (.iadd, 1) := by decide +kernel
theorem dX6_decide_71 : decode cX6_decide 71 = .ok (.iastore, 1) := by decide +kernel
theorem dX6_decide_72 : decode cX6_decide 72 = .ok (.return_, 1) := by decide +kernel
set_option maxRecDepth 20000 in
theorem ggX6_endDueGrants_X2_findFirstDue : GoodIn wsX6_endDueGrants wsX2_findFirstDue := goodIn_ca (goodIn_r _ [8, 9, 10, 11, 12, 13, 14, 15, 16, 17, 83, 84, 85, 86, 87, 88, 89] (by decide +kernel) (by decide +kernel)) (goodIn_sub (fun _ h => List.mem_cons_of_mem _ (List.mem_append_right _ h)) (by decide +kernel))
set_option maxRecDepth 20000 in
theorem gX6_endDueGrants_X2_findFirstDue : GoodIn wsX6_endDueGrants (wsV RX6 394 RX2 yX2_findFirstDue wsX2_findFirstDue) := goodIn_app (goodIn_of _ (by decide +kernel)) ggX6_endDueGrants_X2_findFirstDue
set_option maxRecDepth 20000 in
theorem ggX6_endDueGrants_X6_bit : GoodIn wsX6_endDueGrants wsX6_bit := goodIn_r _ [17] (by decide +kernel) (by decide +kernel)
set_option maxRecDepth 20000 in
theorem gX6_endDueGrants_X6_bit : GoodIn wsX6_endDueGrants (va_wsS RX6 115 yX6_bit wsX6_bit) := goodIn_app (goodIn_of _ (by decide +kernel)) ggX6_endDueGrants_X6_bit
set_option maxRecDepth 20000 in
theorem ggX6_endDueGrants_X6_wouldCutLastHolder : GoodIn wsX6_endDueGrants wsX6_wouldCutLastHolder := goodIn_ca (goodIn_r _ [21, 1, 22, 23, 24, 25, 26, 27, 28, 13, 29, 2, 30, 31, 32, 33, 7, 34, 35, 10, 36, 37, 38, 39, 40, 41, 42, 43, 44, 45, 46, 47, 48, 49, 50, 51, 52, 15, 16, 17, 74, 75, 76, 77, 78, 79, 80, 81, 82, 83, 84, 85, 86, 87, 88, 89, 90, 91, 92, 93, 94, 95, 96, 97, 98, 99] (by decide +kernel) (by decide +kernel)) (goodIn_sub (fun _ h => List.mem_cons_of_mem _ (List.mem_append_right _ h)) (by decide +kernel))
set_option maxRecDepth 20000 in
theorem gX6_endDueGrants_X6_wouldCutLastHolder : GoodIn wsX6_endDueGrants (wsV RX6 195 RX6 yX6_wouldCutLastHolder wsX6_wouldCutLastHolder) := goodIn_app (goodIn_of _ (by decide +kernel)) ggX6_endDueGrants_X6_wouldCutLastHolder
set_option maxRecDepth 20000 in
theorem ggX6_endDueGrants_X6_end : GoodIn wsX6_endDueGrants wsX6_end := goodIn_ca (goodIn_r _ [56, 1, 25, 57, 23, 30, 22, 58, 3, 15, 16, 13, 17, 59, 60, 61, 62, 63, 64, 65, 66, 67, 68, 69, 70, 71, 72, 73, 74, 75, 76, 77, 78, 79, 80, 81, 82, 83, 84, 85, 86, 87, 88, 89, 90, 91, 92, 93, 94, 100, 101, 102, 103, 104] (by decide +kernel) (by decide +kernel)) (goodIn_sub (fun _ h => List.mem_cons_of_mem _ (List.mem_append_right _ h)) (by decide +kernel))
set_option maxRecDepth 20000 in
theorem gX6_endDueGrants_X6_end : GoodIn wsX6_endDueGrants (wsV RX6 397 RX6 yX6_end wsX6_end) := goodIn_app (goodIn_of _ (by decide +kernel)) ggX6_endDueGrants_X6_end
theorem dX6_endDueGrants_0 : decode cX6_endDueGrants 0 = .ok (.iconst 0, 1) := by decide +kernel
theorem dX6_endDueGrants_1 : decode cX6_endDueGrants 1 = .ok (.istore_n 1, 1) := by decide +kernel
theorem dX6_endDueGrants_2 : decode cX6_endDueGrants 2 = .ok (.iconst 0, 1) := by decide +kernel
theorem dX6_endDueGrants_3 : decode cX6_endDueGrants 3 = .ok (.istore_n 2, 1) := by decide +kernel
theorem dX6_endDueGrants_4 : decode cX6_endDueGrants 4 = .ok (.iload_n 2, 1) := by decide +kernel
theorem dX6_endDueGrants_5 : decode cX6_endDueGrants 5 = .ok (.aload_n 0, 1) := by decide +kernel
theorem dX6_endDueGrants_6 : decode cX6_endDueGrants 6 = .ok (.getfield 33, 3) := by decide +kernel
theorem dX6_endDueGrants_9 : decode cX6_endDueGrants 9 = .ok (.getfield 173, 3) := by decide +kernel
theorem dX6_endDueGrants_12 : decode cX6_endDueGrants 12 = .ok (.if_icmp .ge 48, 3) := by decide +kernel
theorem dX6_endDueGrants_15 : decode cX6_endDueGrants 15 = .ok (.aload_n 0, 1) := by decide +kernel
theorem dX6_endDueGrants_16 : decode cX6_endDueGrants 16 = .ok (.getfield 33, 3) := by decide +kernel
theorem dX6_endDueGrants_19 : decode cX6_endDueGrants 19 = .ok (.aload_n 0, 1) := by decide +kernel
theorem dX6_endDueGrants_20 : decode cX6_endDueGrants 20 = .ok (.getfield 51, 3) := by decide +kernel
theorem dX6_endDueGrants_23 : decode cX6_endDueGrants 23 = .ok (.iload_n 1, 1) := by decide +kernel
theorem dX6_endDueGrants_24 : decode cX6_endDueGrants 24 = .ok (.invokevirtual 394, 3) := by decide +kernel
theorem dX6_endDueGrants_27 : decode cX6_endDueGrants 27 = .ok (.istore_n 3, 1) := by decide +kernel
theorem dX6_endDueGrants_28 : decode cX6_endDueGrants 28 = .ok (.iload_n 3, 1) := by decide +kernel
theorem dX6_endDueGrants_29 : decode cX6_endDueGrants 29 = .ok (.iconst (-1), 1) := by decide +kernel
theorem dX6_endDueGrants_30 : decode cX6_endDueGrants 30 = .ok (.if_icmp .ne 4, 3) := by decide +kernel
theorem dX6_endDueGrants_33 : decode cX6_endDueGrants 33 = .ok (.return_, 1) := by decide +kernel
theorem dX6_endDueGrants_34 : decode cX6_endDueGrants 34 = .ok (.iload_n 1, 1) := by decide +kernel
theorem dX6_endDueGrants_35 : decode cX6_endDueGrants 35 = .ok (.iload_n 3, 1) := by decide +kernel
theorem dX6_endDueGrants_36 : decode cX6_endDueGrants 36 = .ok (.invokestatic 115, 3) := by decide +kernel
theorem dX6_endDueGrants_39 : decode cX6_endDueGrants 39 = .ok (.ior, 1) := by decide +kernel
theorem dX6_endDueGrants_40 : decode cX6_endDueGrants 40 = .ok (.istore_n 1, 1) := by decide +kernel
theorem dX6_endDueGrants_41 : decode cX6_endDueGrants 41 = .ok (.aload_n 0, 1) := by decide +kernel
theorem dX6_endDueGrants_42 : decode cX6_endDueGrants 42 = .ok (.iload_n 3, 1) := by decide +kernel
theorem dX6_endDueGrants_43 : decode cX6_endDueGrants 43 = .ok (.invokevirtual 195, 3) := by decide +kernel
theorem dX6_endDueGrants_46 : decode cX6_endDueGrants 46 = .ok (.ifCond .ne 8, 3) := by decide +kernel
theorem dX6_endDueGrants_49 : decode cX6_endDueGrants 49 = .ok (.aload_n 0, 1) := by decide +kernel
theorem dX6_endDueGrants_50 : decode cX6_endDueGrants 50 = .ok (.iload_n 3, 1) := by decide +kernel
theorem dX6_endDueGrants_51 : decode cX6_endDueGrants 51 = .ok (.invokevirtual 397, 3) := by decide +kernel
theorem dX6_endDueGrants_54 : decode cX6_endDueGrants 54 = .ok (.iinc 2 1, 3) := by decide +kernel
theorem dX6_endDueGrants_57 : decode cX6_endDueGrants 57 = .ok (.goto (-53), 3) := by decide +kernel
theorem dX6_endDueGrants_60 : decode cX6_endDueGrants 60 = .ok (.return_, 1) := by decide +kernel
set_option maxRecDepth 20000 in
theorem ggX6_wouldCutLastHolder_X6_findHolders : GoodIn wsX6_wouldCutLastHolder wsX6_findHolders := goodIn_ca (goodIn_r _ [10, 1, 11, 3, 12, 13, 14, 15, 16, 17, 18, 19, 20, 21, 22, 9, 23, 5, 24, 25, 26, 27, 28, 29, 30, 31, 32, 33, 34, 35, 36, 37, 38, 39, 40, 41, 42, 43, 44, 45, 46, 47, 48, 49, 50, 51, 52, 53, 54, 55, 56, 57, 58, 59, 60, 61, 62, 63, 64, 65] (by decide +kernel) (by decide +kernel)) (goodIn_sub (fun _ h => List.mem_cons_of_mem _ (List.mem_append_right _ h)) (by decide +kernel))
set_option maxRecDepth 20000 in
theorem gX6_wouldCutLastHolder_X6_findHolders : GoodIn wsX6_wouldCutLastHolder (wsV RX6 168 RX6 yX6_findHolders wsX6_findHolders) := goodIn_app (goodIn_of _ (by decide +kernel)) ggX6_wouldCutLastHolder_X6_findHolders
set_option maxRecDepth 20000 in
theorem ggX6_wouldCutLastHolder_X6_bit : GoodIn wsX6_wouldCutLastHolder wsX6_bit := goodIn_r _ [39] (by decide +kernel) (by decide +kernel)
set_option maxRecDepth 20000 in
theorem gX6_wouldCutLastHolder_X6_bit : GoodIn wsX6_wouldCutLastHolder (va_wsS RX6 115 yX6_bit wsX6_bit) := goodIn_app (goodIn_of _ (by decide +kernel)) ggX6_wouldCutLastHolder_X6_bit
theorem dX6_wouldCutLastHolder_0 : decode cX6_wouldCutLastHolder 0 = .ok (.aload_n 0, 1) := by decide +kernel
theorem dX6_wouldCutLastHolder_1 : decode cX6_wouldCutLastHolder 1 = .ok (.getfield 33, 3) := by decide +kernel
theorem dX6_wouldCutLastHolder_4 : decode cX6_wouldCutLastHolder 4 = .ok (.getfield 372, 3) := by decide +kernel
theorem dX6_wouldCutLastHolder_7 : decode cX6_wouldCutLastHolder 7 = .ok (.iload_n 1, 1) := by decide +kernel
theorem dX6_wouldCutLastHolder_8 : decode cX6_wouldCutLastHolder 8 = .ok (.iaload, 1) := by decide +kernel
theorem dX6_wouldCutLastHolder_9 : decode cX6_wouldCutLastHolder 9 = .ok (.istore_n 2, 1) := by decide +kernel
theorem dX6_wouldCutLastHolder_10 : decode cX6_wouldCutLastHolder 10 = .ok (.aload_n 0, 1) := by decide +kernel
theorem dX6_wouldCutLastHolder_11 : decode cX6_wouldCutLastHolder 11 = .ok (.getfield 26, 3) := by decide +kernel
theorem dX6_wouldCutLastHolder_14 : decode cX6_wouldCutLastHolder 14 = .ok (.getfield 400, 3) := by decide +kernel
theorem dX6_wouldCutLastHolder_17 : decode cX6_wouldCutLastHolder 17 = .ok (.iload_n 2, 1) := by decide +kernel
theorem dX6_wouldCutLastHolder_18 : decode cX6_wouldCutLastHolder 18 = .ok (.baload, 1) := by decide +kernel
theorem dX6_wouldCutLastHolder_19 : decode cX6_wouldCutLastHolder 19 = .ok (.ifCond .ne 5, 3) := by decide +kernel
theorem dX6_wouldCutLastHolder_22 : decode cX6_wouldCutLastHolder 22 = .ok (.iconst 0, 1) := by decide +kernel
theorem dX6_wouldCutLastHolder_23 : decode cX6_wouldCutLastHolder 23 = .ok (.ireturn, 1) := by decide +kernel
theorem dX6_wouldCutLastHolder_24 : decode cX6_wouldCutLastHolder 24 = .ok (.aload_n 0, 1) := by decide +kernel
theorem dX6_wouldCutLastHolder_25 : decode cX6_wouldCutLastHolder 25 = .ok (.iload_n 2, 1) := by decide +kernel
theorem dX6_wouldCutLastHolder_26 : decode cX6_wouldCutLastHolder 26 = .ok (.iload_n 1, 1) := by decide +kernel
theorem dX6_wouldCutLastHolder_27 : decode cX6_wouldCutLastHolder 27 = .ok (.invokevirtual 168, 3) := by decide +kernel
theorem dX6_wouldCutLastHolder_30 : decode cX6_wouldCutLastHolder 30 = .ok (.istore_n 3, 1) := by decide +kernel
theorem dX6_wouldCutLastHolder_31 : decode cX6_wouldCutLastHolder 31 = .ok (.aload_n 0, 1) := by decide +kernel
theorem dX6_wouldCutLastHolder_32 : decode cX6_wouldCutLastHolder 32 = .ok (.getfield 33, 3) := by decide +kernel
theorem dX6_wouldCutLastHolder_35 : decode cX6_wouldCutLastHolder 35 = .ok (.getfield 353, 3) := by decide +kernel
theorem dX6_wouldCutLastHolder_38 : decode cX6_wouldCutLastHolder 38 = .ok (.iload_n 1, 1) := by decide +kernel
theorem dX6_wouldCutLastHolder_39 : decode cX6_wouldCutLastHolder 39 = .ok (.iaload, 1) := by decide +kernel
theorem dX6_wouldCutLastHolder_40 : decode cX6_wouldCutLastHolder 40 = .ok (.istore 4, 2) := by decide +kernel
theorem dX6_wouldCutLastHolder_42 : decode cX6_wouldCutLastHolder 42 = .ok (.iload 4, 2) := by decide +kernel
theorem dX6_wouldCutLastHolder_44 : decode cX6_wouldCutLastHolder 44 = .ok (.iconst (-1), 1) := by decide +kernel
theorem dX6_wouldCutLastHolder_45 : decode cX6_wouldCutLastHolder 45 = .ok (.if_icmp .eq 13, 3) := by decide +kernel
theorem dX6_wouldCutLastHolder_48 : decode cX6_wouldCutLastHolder 48 = .ok (.iload_n 3, 1) := by decide +kernel
theorem dX6_wouldCutLastHolder_49 : decode cX6_wouldCutLastHolder 49 = .ok (.iload 4, 2) := by decide +kernel
theorem dX6_wouldCutLastHolder_51 : decode cX6_wouldCutLastHolder 51 = .ok (.invokestatic 115, 3) := by decide +kernel
theorem dX6_wouldCutLastHolder_54 : decode cX6_wouldCutLastHolder 54 = .ok (.iconst (-1), 1) := by decide +kernel
theorem dX6_wouldCutLastHolder_55 : decode cX6_wouldCutLastHolder 55 = .ok (.ixor, 1) := by decide +kernel
theorem dX6_wouldCutLastHolder_56 : decode cX6_wouldCutLastHolder 56 = .ok (.iand, 1) := by decide +kernel
theorem dX6_wouldCutLastHolder_57 : decode cX6_wouldCutLastHolder 57 = .ok (.istore_n 3, 1) := by decide +kernel
theorem dX6_wouldCutLastHolder_58 : decode cX6_wouldCutLastHolder 58 = .ok (.iload_n 3, 1) := by decide +kernel
theorem dX6_wouldCutLastHolder_59 : decode cX6_wouldCutLastHolder 59 = .ok (.ifCond .ne 7, 3) := by decide +kernel
theorem dX6_wouldCutLastHolder_62 : decode cX6_wouldCutLastHolder 62 = .ok (.iconst 1, 1) := by decide +kernel
theorem dX6_wouldCutLastHolder_63 : decode cX6_wouldCutLastHolder 63 = .ok (.goto 4, 3) := by decide +kernel
theorem dX6_wouldCutLastHolder_66 : decode cX6_wouldCutLastHolder 66 = .ok (.iconst 0, 1) := by decide +kernel
theorem dX6_wouldCutLastHolder_67 : decode cX6_wouldCutLastHolder 67 = .ok (.ireturn, 1) := by decide +kernel
set_option maxRecDepth 20000 in
theorem ggX6_end_X6_bit : GoodIn wsX6_end wsX6_bit := goodIn_r _ [12] (by decide +kernel) (by decide +kernel)
set_option maxRecDepth 20000 in
theorem gX6_end_X6_bit : GoodIn wsX6_end (va_wsS RX6 115 yX6_bit wsX6_bit) := goodIn_app (goodIn_of _ (by decide +kernel)) ggX6_end_X6_bit
set_option maxRecDepth 20000 in
theorem ggX6_end_X1_add : GoodIn wsX6_end wsX1_add := goodIn_ca (goodIn_r _ [17, 18, 19, 20, 21, 22, 23, 24, 25, 16, 26, 27, 49, 50, 51, 52, 53] (by decide +kernel) (by decide +kernel)) (goodIn_sub (fun _ h => List.mem_cons_of_mem _ (List.mem_append_right _ h)) (by decide +kernel))
set_option maxRecDepth 20000 in
theorem gX6_end_X1_add : GoodIn wsX6_end (wsV RX6 391 RX1 yX1_add wsX1_add) := goodIn_app (goodIn_of _ (by decide +kernel)) ggX6_end_X1_add
theorem dX6_end_0 : decode cX6_end 0 = .ok (.aload_n 0, 1) := by decide +kernel
theorem dX6_end_1 : decode cX6_end 1 = .ok (.getfield 33, 3) := by decide +kernel
theorem dX6_end_4 : decode cX6_end 4 = .ok (.getfield 353, 3) := by decide +kernel
theorem dX6_end_7 : decode cX6_end 7 = .ok (.iload_n 1, 1) := by decide +kernel
theorem dX6_end_8 : decode cX6_end 8 = .ok (.iaload, 1) := by decide +kernel
theorem dX6_end_9 : decode cX6_end 9 = .ok (.istore_n 2, 1) := by decide +kernel
theorem dX6_end_10 : decode cX6_end 10 = .ok (.aload_n 0, 1) := by decide +kernel
theorem dX6_end_11 : decode cX6_end 11 = .ok (.getfield 33, 3) := by decide +kernel
theorem dX6_end_14 : decode cX6_end 14 = .ok (.getfield 186, 3) := by decide +kernel
theorem dX6_end_17 : decode cX6_end 17 = .ok (.iload_n 1, 1) := by decide +kernel
theorem dX6_end_18 : decode cX6_end 18 = .ok (.bipush 120, 2) := by decide +kernel
theorem dX6_end_20 : decode cX6_end 20 = .ok (.castore, 1) := by decide +kernel
theorem dX6_end_21 : decode cX6_end 21 = .ok (.iload_n 2, 1) := by decide +kernel
theorem dX6_end_22 : decode cX6_end 22 = .ok (.iconst (-1), 1) := by decide +kernel
theorem dX6_end_23 : decode cX6_end 23 = .ok (.if_icmp .eq 27, 3) := by decide +kernel
theorem dX6_end_26 : decode cX6_end 26 = .ok (.aload_n 0, 1) := by decide +kernel
theorem dX6_end_27 : decode cX6_end 27 = .ok (.getfield 26, 3) := by decide +kernel
theorem dX6_end_30 : decode cX6_end 30 = .ok (.getfield 162, 3) := by decide +kernel
theorem dX6_end_33 : decode cX6_end 33 = .ok (.aload_n 0, 1) := by decide +kernel
theorem dX6_end_34 : decode cX6_end 34 = .ok (.getfield 33, 3) := by decide +kernel
theorem dX6_end_37 : decode cX6_end 37 = .ok (.getfield 372, 3) := by decide +kernel
theorem dX6_end_40 : decode cX6_end 40 = .ok (.iload_n 1, 1) := by decide +kernel
theorem dX6_end_41 : decode cX6_end 41 = .ok (.iaload, 1) := by decide +kernel
theorem dX6_end_42 : decode cX6_end 42 = .ok (.dup2, 1) := by decide +kernel
theorem dX6_end_43 : decode cX6_end 43 = .ok (.iaload, 1) := by decide +kernel
theorem dX6_end_44 : decode cX6_end 44 = .ok (.iload_n 2, 1) := by decide +kernel
theorem dX6_end_45 : decode cX6_end 45 = .ok (.invokestatic 115, 3) := by decide +kernel
theorem dX6_end_48 : decode cX6_end 48 = .ok (.ior, 1) := by decide +kernel
theorem dX6_end_49 : decode cX6_end 49 = .ok (.iastore, 1) := by decide +kernel
theorem dX6_end_50 : decode cX6_end 50 = .ok (.aload_n 0, 1) := by decide +kernel
theorem dX6_end_51 : decode cX6_end 51 = .ok (.getfield 47, 3) := by decide +kernel
theorem dX6_end_54 : decode cX6_end 54 = .ok (.bipush 120, 2) := by decide +kernel
theorem dX6_end_56 : decode cX6_end 56 = .ok (.iload_n 1, 1) := by decide +kernel
theorem dX6_end_57 : decode cX6_end 57 = .ok (.aload_n 0, 1) := by decide +kernel
theorem dX6_end_58 : decode cX6_end 58 = .ok (.getfield 51, 3) := by decide +kernel
theorem dX6_end_61 : decode cX6_end 61 = .ok (.invokevirtual 391, 3) := by decide +kernel
theorem dX6_end_64 : decode cX6_end 64 = .ok (.return_, 1) := by decide +kernel
theorem dX6_bit_0 : decode cX6_bit 0 = .ok (.iconst 1, 1) := by decide +kernel
theorem dX6_bit_1 : decode cX6_bit 1 = .ok (.iload_n 0, 1) := by decide +kernel
theorem dX6_bit_2 : decode cX6_bit 2 = .ok (.ishl, 1) := by decide +kernel
theorem dX6_bit_3 : decode cX6_bit 3 = .ok (.ireturn, 1) := by decide +kernel
set_option maxRecDepth 20000 in
theorem ggX6_contains_X6_bit : GoodIn wsX6_contains wsX6_bit := goodIn_r _ [4] (by decide +kernel) (by decide +kernel)
set_option maxRecDepth 20000 in
theorem gX6_contains_X6_bit : GoodIn wsX6_contains (va_wsS RX6 115 yX6_bit wsX6_bit) := goodIn_app (goodIn_of _ (by decide +kernel)) ggX6_contains_X6_bit
theorem dX6_contains_0 : decode cX6_contains 0 = .ok (.iload_n 0, 1) := by decide +kernel
theorem dX6_contains_1 : decode cX6_contains 1 = .ok (.iload_n 1, 1) := by decide +kernel
theorem dX6_contains_2 : decode cX6_contains 2 = .ok (.invokestatic 115, 3) := by decide +kernel
theorem dX6_contains_5 : decode cX6_contains 5 = .ok (.iand, 1) := by decide +kernel
theorem dX6_contains_6 : decode cX6_contains 6 = .ok (.ifCond .eq 7, 3) := by decide +kernel
theorem dX6_contains_9 : decode cX6_contains 9 = .ok (.iconst 1, 1) := by decide +kernel
theorem dX6_contains_10 : decode cX6_contains 10 = .ok (.goto 4, 3) := by decide +kernel
theorem dX6_contains_13 : decode cX6_contains 13 = .ok (.iconst 0, 1) := by decide +kernel
theorem dX6_contains_14 : decode cX6_contains 14 = .ok (.ireturn, 1) := by decide +kernel
set_option maxRecDepth 20000 in
theorem ggX6_findLowest_X6_contains : GoodIn wsX6_findLowest wsX6_contains := goodIn_r _ [4, 5, 6, 3, 7] (by decide +kernel) (by decide +kernel)
set_option maxRecDepth 20000 in
theorem gX6_findLowest_X6_contains : GoodIn wsX6_findLowest (va_wsS RX6 109 yX6_contains wsX6_contains) := goodIn_app (goodIn_of _ (by decide +kernel)) ggX6_findLowest_X6_contains
theorem dX6_findLowest_0 : decode cX6_findLowest 0 = .ok (.iconst 0, 1) := by decide +kernel
theorem dX6_findLowest_1 : decode cX6_findLowest 1 = .ok (.istore_n 2, 1) := by decide +kernel
theorem dX6_findLowest_2 : decode cX6_findLowest 2 = .ok (.iload_n 2, 1) := by decide +kernel
theorem dX6_findLowest_3 : decode cX6_findLowest 3 = .ok (.iload_n 1, 1) := by decide +kernel
theorem dX6_findLowest_4 : decode cX6_findLowest 4 = .ok (.if_icmp .ge 19, 3) := by decide +kernel
theorem dX6_findLowest_7 : decode cX6_findLowest 7 = .ok (.iload_n 0, 1) := by decide +kernel
theorem dX6_findLowest_8 : decode cX6_findLowest 8 = .ok (.iload_n 2, 1) := by decide +kernel
theorem dX6_findLowest_9 : decode cX6_findLowest 9 = .ok (.invokestatic 109, 3) := by decide +kernel
theorem dX6_findLowest_12 : decode cX6_findLowest 12 = .ok (.ifCond .eq 5, 3) := by decide +kernel
theorem dX6_findLowest_15 : decode cX6_findLowest 15 = .ok (.iload_n 2, 1) := by decide +kernel
theorem dX6_findLowest_16 : decode cX6_findLowest 16 = .ok (.ireturn, 1) := by decide +kernel
theorem dX6_findLowest_17 : decode cX6_findLowest 17 = .ok (.iinc 2 1, 3) := by decide +kernel
theorem dX6_findLowest_20 : decode cX6_findLowest 20 = .ok (.goto (-18), 3) := by decide +kernel
theorem dX6_findLowest_23 : decode cX6_findLowest 23 = .ok (.iconst (-1), 1) := by decide +kernel
theorem dX6_findLowest_24 : decode cX6_findLowest 24 = .ok (.ireturn, 1) := by decide +kernel
